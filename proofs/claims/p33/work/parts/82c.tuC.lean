theorem dt_Tu_plan_0 : decode prog_1_method_27_code 0 = .ok (.aload_n 0, 1) := by decide +kernel
theorem dt_Tu_plan_1 : decode prog_1_method_27_code 1 = .ok (.getfield 19, 3) := by decide +kernel
theorem dt_Tu_plan_4 : decode prog_1_method_27_code 4 = .ok (.getfield 102, 3) := by decide +kernel
theorem dt_Tu_plan_7 : decode prog_1_method_27_code 7 = .ok (.ifCond .eq 22, 3) := by decide +kernel
theorem dt_Tu_plan_10 : decode prog_1_method_27_code 10 = .ok (.iload_n 1, 1) := by decide +kernel
theorem dt_Tu_plan_11 : decode prog_1_method_27_code 11 = .ok (.iconst 1, 1) := by decide +kernel
theorem dt_Tu_plan_12 : decode prog_1_method_27_code 12 = .ok (.if_icmp .lt 17, 3) := by decide +kernel
theorem dt_Tu_plan_15 : decode prog_1_method_27_code 15 = .ok (.iload_n 1, 1) := by decide +kernel
theorem dt_Tu_plan_16 : decode prog_1_method_27_code 16 = .ok (.iconst 5, 1) := by decide +kernel
theorem dt_Tu_plan_17 : decode prog_1_method_27_code 17 = .ok (.if_icmp .gt 12, 3) := by decide +kernel
theorem dt_Tu_plan_20 : decode prog_1_method_27_code 20 = .ok (.iload_n 3, 1) := by decide +kernel
theorem dt_Tu_plan_21 : decode prog_1_method_27_code 21 = .ok (.ifCond .lt 8, 3) := by decide +kernel
theorem dt_Tu_plan_24 : decode prog_1_method_27_code 24 = .ok (.iload_n 3, 1) := by decide +kernel
theorem dt_Tu_plan_25 : decode prog_1_method_27_code 25 = .ok (.iconst 5, 1) := by decide +kernel
theorem dt_Tu_plan_26 : decode prog_1_method_27_code 26 = .ok (.if_icmp .le 6, 3) := by decide +kernel
theorem dt_Tu_plan_29 : decode prog_1_method_27_code 29 = .ok (.ldc 208, 2) := by decide +kernel
theorem dt_Tu_plan_31 : decode prog_1_method_27_code 31 = .ok (.ireturn, 1) := by decide +kernel
theorem dt_Tu_plan_32 : decode prog_1_method_27_code 32 = .ok (.iload_n 3, 1) := by decide +kernel
theorem dt_Tu_plan_33 : decode prog_1_method_27_code 33 = .ok (.iload_n 1, 1) := by decide +kernel
theorem dt_Tu_plan_34 : decode prog_1_method_27_code 34 = .ok (.if_icmp .le 6, 3) := by decide +kernel
theorem dt_Tu_plan_37 : decode prog_1_method_27_code 37 = .ok (.bipush (-2), 2) := by decide +kernel
theorem dt_Tu_plan_39 : decode prog_1_method_27_code 39 = .ok (.ireturn, 1) := by decide +kernel
theorem dt_Tu_plan_40 : decode prog_1_method_27_code 40 = .ok (.aload_n 0, 1) := by decide +kernel
theorem dt_Tu_plan_41 : decode prog_1_method_27_code 41 = .ok (.getfield 64, 3) := by decide +kernel
theorem dt_Tu_plan_44 : decode prog_1_method_27_code 44 = .ok (.aload_n 0, 1) := by decide +kernel
theorem dt_Tu_plan_45 : decode prog_1_method_27_code 45 = .ok (.getfield 19, 3) := by decide +kernel
theorem dt_Tu_plan_48 : decode prog_1_method_27_code 48 = .ok (.iload_n 1, 1) := by decide +kernel
theorem dt_Tu_plan_49 : decode prog_1_method_27_code 49 = .ok (.iload_n 2, 1) := by decide +kernel
theorem dt_Tu_plan_50 : decode prog_1_method_27_code 50 = .ok (.invokevirtual 273, 3) := by decide +kernel
theorem dt_Tu_plan_53 : decode prog_1_method_27_code 53 = .ok (.iload_n 3, 1) := by decide +kernel
theorem dt_Tu_plan_54 : decode prog_1_method_27_code 54 = .ok (.ifCond .ne 13, 3) := by decide +kernel
theorem dt_Tu_plan_57 : decode prog_1_method_27_code 57 = .ok (.aload_n 0, 1) := by decide +kernel
theorem dt_Tu_plan_58 : decode prog_1_method_27_code 58 = .ok (.getfield 64, 3) := by decide +kernel
theorem dt_Tu_plan_61 : decode prog_1_method_27_code 61 = .ok (.getfield 277, 3) := by decide +kernel
theorem dt_Tu_plan_64 : decode prog_1_method_27_code 64 = .ok (.goto 14, 3) := by decide +kernel
theorem dt_Tu_plan_67 : decode prog_1_method_27_code 67 = .ok (.aload_n 0, 1) := by decide +kernel
theorem dt_Tu_plan_68 : decode prog_1_method_27_code 68 = .ok (.getfield 64, 3) := by decide +kernel
theorem dt_Tu_plan_71 : decode prog_1_method_27_code 71 = .ok (.getfield 280, 3) := by decide +kernel
theorem dt_Tu_plan_74 : decode prog_1_method_27_code 74 = .ok (.iload_n 3, 1) := by decide +kernel
theorem dt_Tu_plan_75 : decode prog_1_method_27_code 75 = .ok (.iconst 1, 1) := by decide +kernel
theorem dt_Tu_plan_76 : decode prog_1_method_27_code 76 = .ok (.isub, 1) := by decide +kernel
theorem dt_Tu_plan_77 : decode prog_1_method_27_code 77 = .ok (.iaload, 1) := by decide +kernel
theorem dt_Tu_plan_78 : decode prog_1_method_27_code 78 = .ok (.ireturn, 1) := by decide +kernel
set_option maxHeartbeats 4000000 in
set_option maxRecDepth 10000 in
theorem tm_Tu_plan {N : Nat} {T : Nat → tm_S} {w : ab_W} {tu tp im md rl ac rr ma pl tr gu a b : Nat} (hW : tm_W N T w) (h_all : is_All T tu tp im md rl ac rr ma pl tr gu a b) (kn : tm_g w tu 1 = some (ab_R a)) (kt : tm_g w tu 2 = some (ab_R b)) (y1 : Int) (l_y1 : (-2147483648) ≤ y1) (u_y1 : y1 ≤ 2147483647) (y2 : Int) (l_y2 : 0 ≤ y2) (u_y2 : y2 ≤ 1) (y3 : Int) (l_y3 : (-2147483648) ≤ y3) (u_y3 : y3 ≤ 2147483647) : ab_Mt g_G g_rs mt_Tu_plan 4 0 0 [ab_R tu, ab_I y1, ab_I y2, ab_I y3] w (tm_Qi N T (fun v w2 => (∀ (p : Nat) (j : Int), ¬ (p = (pl + 1) ∨ p = (pl + 2) ∨ p = (pl + 3) ∨ p = (pl + 4) ∨ (p = pl ∧ (j = 2))) → tm_g w2 p j = tm_g w p j) ∧ ((-2147483648) ≤ v ∧ v ≤ 2147483647))) := by
  obtain ⟨tut0, imt0, mdt0, rlt0, h_tp, h_ac, h_rr, h_ma, hzz⟩ := id h_all
  obtain ⟨h_pl, h_tr, h_gu, h_a, h_b, e_all, e_ab⟩ := hzz
  obtain ⟨tpt0, tpt1⟩ := id h_tp
  obtain ⟨act0, act1, act2, act3⟩ := id h_ac
  obtain ⟨rrt0, rrt1⟩ := id h_rr
  obtain ⟨mat0, mat1⟩ := id h_ma
  obtain ⟨plt0, plt1, plt2, plt3, plt4⟩ := id h_pl
  obtain ⟨trt0, trt1, trt2, trt3, trt4, trt5⟩ := id h_tr
  obtain ⟨gut0, gut1, gut2, gut3⟩ := id h_gu
  obtain ⟨at0, at1, at2, at3, at4, at5, at6, at7, at8, at9, at10, at11, at12⟩ := id h_a
  have ad := is_Ri.d h_a
  obtain ⟨bt0, bt1, bt2, bt3, bt4, bt5, bt6, bt7, bt8, bt9, bt10, bt11, bt12⟩ := id h_b
  have bd := is_Ri.d h_b
  have hF0 : ∀ (p : Nat) (j : Int), ¬ (p = (pl + 1) ∨ p = (pl + 2) ∨ p = (pl + 3) ∨ p = (pl + 4) ∨ (p = pl ∧ (j = 2))) → tm_g w p j = tm_g w p j := fun _ _ _ => rfl
  refine ab_Mt.of rfl (Nat.le_of_ble_eq_true rfl) ?_
  show ab_Ev g_G g_rs mt_Tu_plan _ _ _ 0 [some (ab_R tu), some (ab_I y1), some (ab_I y2), some (ab_I y3)] [] _ _
  refine ev_aload_n dt_Tu_plan_0 rfl rfl ?_
  refine tm_getK (K := 1) dt_Tu_plan_1 hW tut0 fl_Tu_19 rfl kn ?_
  refine tm_getI (K := 7) dt_Tu_plan_4 hW at0 fl_Tu_102 rfl rfl (fun v1 kv1 lv1 uv1 => ?_)
  refine ev_if_eq (tgt := 29) dt_Tu_plan_7 (by decide) (by omega) (fun h2 => ?_) (fun h2 => ?_)
  · skip
    refine ev_ldc (n := -100000) dt_Tu_plan_29 cn_Tu_208 rfl ?_
    exact ev_ireturn dt_Tu_plan_31 rfl ⟨hW, _, rfl, ⟨hF0, by omega⟩⟩
  · skip
    refine ev_iload_n dt_Tu_plan_10 rfl rfl ?_
    refine ev_iconst dt_Tu_plan_11 ?_
    refine ev_icmp_lt (tgt := 29) dt_Tu_plan_12 (by decide) (by omega) (by omega) (fun h3 => ?_) (fun h3 => ?_)
    · skip
      refine ev_ldc (n := -100000) dt_Tu_plan_29 cn_Tu_208 rfl ?_
      exact ev_ireturn dt_Tu_plan_31 rfl ⟨hW, _, rfl, ⟨hF0, by omega⟩⟩
    · skip
      refine ev_iload_n dt_Tu_plan_15 rfl rfl ?_
      refine ev_iconst dt_Tu_plan_16 ?_
      refine ev_icmp_gt (tgt := 29) dt_Tu_plan_17 (by decide) (by omega) (by omega) (fun h4 => ?_) (fun h4 => ?_)
      · skip
        refine ev_ldc (n := -100000) dt_Tu_plan_29 cn_Tu_208 rfl ?_
        exact ev_ireturn dt_Tu_plan_31 rfl ⟨hW, _, rfl, ⟨hF0, by omega⟩⟩
      · skip
        refine ev_iload_n dt_Tu_plan_20 rfl rfl ?_
        refine ev_if_lt (tgt := 29) dt_Tu_plan_21 (by decide) (by omega) (fun h5 => ?_) (fun h5 => ?_)
        · skip
          refine ev_ldc (n := -100000) dt_Tu_plan_29 cn_Tu_208 rfl ?_
          exact ev_ireturn dt_Tu_plan_31 rfl ⟨hW, _, rfl, ⟨hF0, by omega⟩⟩
        · skip
          refine ev_iload_n dt_Tu_plan_24 rfl rfl ?_
          refine ev_iconst dt_Tu_plan_25 ?_
          refine ev_icmp_le (tgt := 32) dt_Tu_plan_26 (by decide) (by omega) (by omega) (fun h6 => ?_) (fun h6 => ?_)
          · skip
            refine ev_iload_n dt_Tu_plan_32 rfl rfl ?_
            refine ev_iload_n dt_Tu_plan_33 rfl rfl ?_
            refine ev_icmp_le (tgt := 40) dt_Tu_plan_34 (by decide) (by omega) (by omega) (fun h7 => ?_) (fun h7 => ?_)
            · skip
              refine ev_aload_n dt_Tu_plan_40 rfl rfl ?_
              refine tm_getR dt_Tu_plan_41 hW tut0 fl_Tu_64 rfl ?_
              refine ev_aload_n dt_Tu_plan_44 rfl rfl ?_
              refine tm_getK (K := 1) dt_Tu_plan_45 hW tut0 fl_Tu_19 rfl kn ?_
              refine ev_iload_n dt_Tu_plan_48 rfl rfl ?_
              refine ev_iload_n dt_Tu_plan_49 rfl rfl ?_
              refine tm_vv dt_Tu_plan_50 (tm_Pl_findBest hW h_pl h_a (by omega) (y1) (by omega) (by omega) (y2) (by omega) (by omega)) kb_Tu_273 ⟨im_Pl_findBest, se_Pl_findBest⟩ rfl hW plt0 rfl (Nat.le_of_ble_eq_true rfl) (by decide) (fun w8 hWw8 hRw8 => ?_)
              have hfw8 := hRw8
              have hFw8 : ∀ (p : Nat) (j : Int), ¬ (p = (pl + 1) ∨ p = (pl + 2) ∨ p = (pl + 3) ∨ p = (pl + 4) ∨ (p = pl ∧ (j = 2))) → tm_g w8 p j = tm_g w p j := fun p j h => (hfw8 p j (by omega)).trans (hF0 p j h)
              refine ev_iload_n dt_Tu_plan_53 rfl rfl ?_
              refine ev_if_ne (tgt := 67) dt_Tu_plan_54 (by decide) (by omega) (fun h9 => ?_) (fun h9 => ?_)
              · skip
                refine ev_aload_n dt_Tu_plan_67 rfl rfl ?_
                refine tm_getR dt_Tu_plan_68 hWw8 tut0 fl_Tu_64 rfl ?_
                refine tm_getR dt_Tu_plan_71 hWw8 plt0 fl_Tu_280 rfl ?_
                refine ev_iload_n dt_Tu_plan_74 rfl rfl ?_
                refine ev_iconst dt_Tu_plan_75 ?_
                refine ev_isub dt_Tu_plan_76 ?_
                refine tm_iaload dt_Tu_plan_77 hWw8 plt2 (by omega) (by omega) (by omega) (fun v10 kv10 lv10 uv10 => ?_)
                exact ev_ireturn dt_Tu_plan_78 rfl ⟨hWw8, _, rfl, ⟨hFw8, by omega⟩⟩
              · skip
                refine ev_aload_n dt_Tu_plan_57 rfl rfl ?_
                refine tm_getR dt_Tu_plan_58 hWw8 tut0 fl_Tu_64 rfl ?_
                refine tm_getI (K := 2) dt_Tu_plan_61 hWw8 plt0 fl_Tu_277 rfl rfl (fun v11 kv11 lv11 uv11 => ?_)
                refine ev_goto (tgt := 78) dt_Tu_plan_64 (by decide) ?_
                exact ev_ireturn dt_Tu_plan_78 rfl ⟨hWw8, _, rfl, ⟨hFw8, by omega⟩⟩
            · skip
              refine ev_bipush dt_Tu_plan_37 rfl ?_
              exact ev_ireturn dt_Tu_plan_39 rfl ⟨hW, _, rfl, ⟨hF0, by omega⟩⟩
          · skip
            refine ev_ldc (n := -100000) dt_Tu_plan_29 cn_Tu_208 rfl ?_
            exact ev_ireturn dt_Tu_plan_31 rfl ⟨hW, _, rfl, ⟨hF0, by omega⟩⟩
theorem dt_Tu_trade_0 : decode prog_1_method_28_code 0 = .ok (.aload_n 0, 1) := by decide +kernel
theorem dt_Tu_trade_1 : decode prog_1_method_28_code 1 = .ok (.getfield 19, 3) := by decide +kernel
theorem dt_Tu_trade_4 : decode prog_1_method_28_code 4 = .ok (.getfield 152, 3) := by decide +kernel
theorem dt_Tu_trade_7 : decode prog_1_method_28_code 7 = .ok (.ifCond .eq 13, 3) := by decide +kernel
theorem dt_Tu_trade_10 : decode prog_1_method_28_code 10 = .ok (.iload_n 1, 1) := by decide +kernel
theorem dt_Tu_trade_11 : decode prog_1_method_28_code 11 = .ok (.ifCond .lt 9, 3) := by decide +kernel
theorem dt_Tu_trade_14 : decode prog_1_method_28_code 14 = .ok (.iload_n 1, 1) := by decide +kernel
theorem dt_Tu_trade_15 : decode prog_1_method_28_code 15 = .ok (.bipush 8, 2) := by decide +kernel
theorem dt_Tu_trade_17 : decode prog_1_method_28_code 17 = .ok (.if_icmp .le 6, 3) := by decide +kernel
theorem dt_Tu_trade_20 : decode prog_1_method_28_code 20 = .ok (.ldc 208, 2) := by decide +kernel
theorem dt_Tu_trade_22 : decode prog_1_method_28_code 22 = .ok (.ireturn, 1) := by decide +kernel
theorem dt_Tu_trade_23 : decode prog_1_method_28_code 23 = .ok (.iload_n 1, 1) := by decide +kernel
theorem dt_Tu_trade_24 : decode prog_1_method_28_code 24 = .ok (.iconst 2, 1) := by decide +kernel
theorem dt_Tu_trade_25 : decode prog_1_method_28_code 25 = .ok (.isub, 1) := by decide +kernel
theorem dt_Tu_trade_26 : decode prog_1_method_28_code 26 = .ok (.aload_n 0, 1) := by decide +kernel
theorem dt_Tu_trade_27 : decode prog_1_method_28_code 27 = .ok (.getfield 19, 3) := by decide +kernel
theorem dt_Tu_trade_30 : decode prog_1_method_28_code 30 = .ok (.getfield 102, 3) := by decide +kernel
theorem dt_Tu_trade_33 : decode prog_1_method_28_code 33 = .ok (.if_icmp .lt 6, 3) := by decide +kernel
theorem dt_Tu_trade_36 : decode prog_1_method_28_code 36 = .ok (.bipush (-2), 2) := by decide +kernel
theorem dt_Tu_trade_38 : decode prog_1_method_28_code 38 = .ok (.ireturn, 1) := by decide +kernel
theorem dt_Tu_trade_39 : decode prog_1_method_28_code 39 = .ok (.aload_n 0, 1) := by decide +kernel
theorem dt_Tu_trade_40 : decode prog_1_method_28_code 40 = .ok (.getfield 71, 3) := by decide +kernel
theorem dt_Tu_trade_43 : decode prog_1_method_28_code 43 = .ok (.aload_n 0, 1) := by decide +kernel
theorem dt_Tu_trade_44 : decode prog_1_method_28_code 44 = .ok (.getfield 19, 3) := by decide +kernel
theorem dt_Tu_trade_47 : decode prog_1_method_28_code 47 = .ok (.invokevirtual 283, 3) := by decide +kernel
theorem dt_Tu_trade_50 : decode prog_1_method_28_code 50 = .ok (.iload_n 1, 1) := by decide +kernel
theorem dt_Tu_trade_51 : decode prog_1_method_28_code 51 = .ok (.ifCond .ne 13, 3) := by decide +kernel
theorem dt_Tu_trade_54 : decode prog_1_method_28_code 54 = .ok (.aload_n 0, 1) := by decide +kernel
theorem dt_Tu_trade_55 : decode prog_1_method_28_code 55 = .ok (.getfield 71, 3) := by decide +kernel
theorem dt_Tu_trade_58 : decode prog_1_method_28_code 58 = .ok (.getfield 286, 3) := by decide +kernel
theorem dt_Tu_trade_61 : decode prog_1_method_28_code 61 = .ok (.iconst 0, 1) := by decide +kernel
theorem dt_Tu_trade_62 : decode prog_1_method_28_code 62 = .ok (.iaload, 1) := by decide +kernel
theorem dt_Tu_trade_63 : decode prog_1_method_28_code 63 = .ok (.ireturn, 1) := by decide +kernel
theorem dt_Tu_trade_64 : decode prog_1_method_28_code 64 = .ok (.iload_n 1, 1) := by decide +kernel
theorem dt_Tu_trade_65 : decode prog_1_method_28_code 65 = .ok (.iconst 1, 1) := by decide +kernel
theorem dt_Tu_trade_66 : decode prog_1_method_28_code 66 = .ok (.if_icmp .ne 15, 3) := by decide +kernel
theorem dt_Tu_trade_69 : decode prog_1_method_28_code 69 = .ok (.aload_n 0, 1) := by decide +kernel
theorem dt_Tu_trade_70 : decode prog_1_method_28_code 70 = .ok (.getfield 71, 3) := by decide +kernel
theorem dt_Tu_trade_73 : decode prog_1_method_28_code 73 = .ok (.getfield 289, 3) := by decide +kernel
theorem dt_Tu_trade_76 : decode prog_1_method_28_code 76 = .ok (.iconst 0, 1) := by decide +kernel
theorem dt_Tu_trade_77 : decode prog_1_method_28_code 77 = .ok (.iaload, 1) := by decide +kernel
theorem dt_Tu_trade_78 : decode prog_1_method_28_code 78 = .ok (.goto 17, 3) := by decide +kernel
theorem dt_Tu_trade_81 : decode prog_1_method_28_code 81 = .ok (.aload_n 0, 1) := by decide +kernel
theorem dt_Tu_trade_82 : decode prog_1_method_28_code 82 = .ok (.getfield 71, 3) := by decide +kernel
theorem dt_Tu_trade_85 : decode prog_1_method_28_code 85 = .ok (.aload_n 0, 1) := by decide +kernel
theorem dt_Tu_trade_86 : decode prog_1_method_28_code 86 = .ok (.getfield 19, 3) := by decide +kernel
theorem dt_Tu_trade_89 : decode prog_1_method_28_code 89 = .ok (.iload_n 1, 1) := by decide +kernel
theorem dt_Tu_trade_90 : decode prog_1_method_28_code 90 = .ok (.iconst 2, 1) := by decide +kernel
theorem dt_Tu_trade_91 : decode prog_1_method_28_code 91 = .ok (.isub, 1) := by decide +kernel
theorem dt_Tu_trade_92 : decode prog_1_method_28_code 92 = .ok (.invokevirtual 292, 3) := by decide +kernel
theorem dt_Tu_trade_95 : decode prog_1_method_28_code 95 = .ok (.ireturn, 1) := by decide +kernel
set_option maxHeartbeats 4000000 in
set_option maxRecDepth 10000 in
theorem tm_Tu_trade {N : Nat} {T : Nat → tm_S} {w : ab_W} {tu tp im md rl ac rr ma pl tr gu a b : Nat} (hW : tm_W N T w) (h_all : is_All T tu tp im md rl ac rr ma pl tr gu a b) (kn : tm_g w tu 1 = some (ab_R a)) (kt : tm_g w tu 2 = some (ab_R b)) (y1 : Int) (l_y1 : (-2147483648) ≤ y1) (u_y1 : y1 ≤ 2147483647) : ab_Mt g_G g_rs mt_Tu_trade 4 0 0 [ab_R tu, ab_I y1] w (tm_Qi N T (fun v w2 => (∀ (p : Nat) (j : Int), ¬ (p = (tr + 1) ∨ p = (tr + 2) ∨ p = (tr + 3) ∨ p = (tr + 4) ∨ p = (tr + 5)) → tm_g w2 p j = tm_g w p j) ∧ ((-2147483648) ≤ v ∧ v ≤ 2147483647))) := by
  obtain ⟨tut0, imt0, mdt0, rlt0, h_tp, h_ac, h_rr, h_ma, hzz⟩ := id h_all
  obtain ⟨h_pl, h_tr, h_gu, h_a, h_b, e_all, e_ab⟩ := hzz
  obtain ⟨tpt0, tpt1⟩ := id h_tp
  obtain ⟨act0, act1, act2, act3⟩ := id h_ac
  obtain ⟨rrt0, rrt1⟩ := id h_rr
  obtain ⟨mat0, mat1⟩ := id h_ma
  obtain ⟨plt0, plt1, plt2, plt3, plt4⟩ := id h_pl
  obtain ⟨trt0, trt1, trt2, trt3, trt4, trt5⟩ := id h_tr
  obtain ⟨gut0, gut1, gut2, gut3⟩ := id h_gu
  obtain ⟨at0, at1, at2, at3, at4, at5, at6, at7, at8, at9, at10, at11, at12⟩ := id h_a
  have ad := is_Ri.d h_a
  obtain ⟨bt0, bt1, bt2, bt3, bt4, bt5, bt6, bt7, bt8, bt9, bt10, bt11, bt12⟩ := id h_b
  have bd := is_Ri.d h_b
  have hF0 : ∀ (p : Nat) (j : Int), ¬ (p = (tr + 1) ∨ p = (tr + 2) ∨ p = (tr + 3) ∨ p = (tr + 4) ∨ p = (tr + 5)) → tm_g w p j = tm_g w p j := fun _ _ _ => rfl
  refine ab_Mt.of rfl (Nat.le_of_ble_eq_true rfl) ?_
  show ab_Ev g_G g_rs mt_Tu_trade _ _ _ 0 [some (ab_R tu), some (ab_I y1)] [] _ _
  refine ev_aload_n dt_Tu_trade_0 rfl rfl ?_
  refine tm_getK (K := 1) dt_Tu_trade_1 hW tut0 fl_Tu_19 rfl kn ?_
  refine tm_getI (K := 0) dt_Tu_trade_4 hW at0 fl_Tu_152 rfl rfl (fun v12 kv12 lv12 uv12 => ?_)
  refine ev_if_eq (tgt := 20) dt_Tu_trade_7 (by decide) (by omega) (fun h13 => ?_) (fun h13 => ?_)
  · skip
    refine ev_ldc (n := -100000) dt_Tu_trade_20 cn_Tu_208 rfl ?_
    exact ev_ireturn dt_Tu_trade_22 rfl ⟨hW, _, rfl, ⟨hF0, by omega⟩⟩
  · skip
    refine ev_iload_n dt_Tu_trade_10 rfl rfl ?_
    refine ev_if_lt (tgt := 20) dt_Tu_trade_11 (by decide) (by omega) (fun h14 => ?_) (fun h14 => ?_)
    · skip
      refine ev_ldc (n := -100000) dt_Tu_trade_20 cn_Tu_208 rfl ?_
      exact ev_ireturn dt_Tu_trade_22 rfl ⟨hW, _, rfl, ⟨hF0, by omega⟩⟩
    · skip
      refine ev_iload_n dt_Tu_trade_14 rfl rfl ?_
      refine ev_bipush dt_Tu_trade_15 rfl ?_
      refine ev_icmp_le (tgt := 23) dt_Tu_trade_17 (by decide) (by omega) (by omega) (fun h15 => ?_) (fun h15 => ?_)
      · skip
        refine ev_iload_n dt_Tu_trade_23 rfl rfl ?_
        refine ev_iconst dt_Tu_trade_24 ?_
        refine ev_isub dt_Tu_trade_25 ?_
        refine ev_aload_n dt_Tu_trade_26 rfl rfl ?_
        refine tm_getK (K := 1) dt_Tu_trade_27 hW tut0 fl_Tu_19 rfl kn ?_
        refine tm_getI (K := 7) dt_Tu_trade_30 hW at0 fl_Tu_102 rfl rfl (fun v16 kv16 lv16 uv16 => ?_)
        refine ev_icmp_lt (tgt := 39) dt_Tu_trade_33 (by decide) (by omega) (by omega) (fun h17 => ?_) (fun h17 => ?_)
        · skip
          refine ev_aload_n dt_Tu_trade_39 rfl rfl ?_
          refine tm_getR dt_Tu_trade_40 hW tut0 fl_Tu_71 rfl ?_
          refine ev_aload_n dt_Tu_trade_43 rfl rfl ?_
          refine tm_getK (K := 1) dt_Tu_trade_44 hW tut0 fl_Tu_19 rfl kn ?_
          refine tm_vv dt_Tu_trade_47 (tm_Tr_findRows hW h_tr h_a (by omega)) kb_Tu_283 ⟨im_Tr_findRows, se_Tr_findRows⟩ rfl hW trt0 rfl (Nat.le_of_ble_eq_true rfl) (by decide) (fun w18 hWw18 hRw18 => ?_)
          have hfw18 := hRw18
          have hFw18 : ∀ (p : Nat) (j : Int), ¬ (p = (tr + 1) ∨ p = (tr + 2) ∨ p = (tr + 3) ∨ p = (tr + 4) ∨ p = (tr + 5)) → tm_g w18 p j = tm_g w p j := fun p j h => (hfw18 p j (by omega)).trans (hF0 p j h)
          refine ev_iload_n dt_Tu_trade_50 rfl rfl ?_
          refine ev_if_ne (tgt := 64) dt_Tu_trade_51 (by decide) (by omega) (fun h19 => ?_) (fun h19 => ?_)
          · skip
            refine ev_iload_n dt_Tu_trade_64 rfl rfl ?_
            refine ev_iconst dt_Tu_trade_65 ?_
            refine ev_icmp_ne (tgt := 81) dt_Tu_trade_66 (by decide) (by omega) (by omega) (fun h20 => ?_) (fun h20 => ?_)
            · skip
              refine ev_aload_n dt_Tu_trade_81 rfl rfl ?_
              refine tm_getR dt_Tu_trade_82 hWw18 tut0 fl_Tu_71 rfl ?_
              refine ev_aload_n dt_Tu_trade_85 rfl rfl ?_
              refine tm_getK (K := 1) dt_Tu_trade_86 hWw18 tut0 fl_Tu_19 rfl ((hFw18 tu 1 (by omega)).trans kn) ?_
              refine ev_iload_n dt_Tu_trade_89 rfl rfl ?_
              refine ev_iconst dt_Tu_trade_90 ?_
              refine ev_isub dt_Tu_trade_91 ?_
              refine tm_vp dt_Tu_trade_92 (tm_Tr_firstSlotOf hWw18 h_tr h_a (by omega) ((y1 - 2)) (by omega) (by omega)) kb_Tu_292 ⟨im_Tr_firstSlotOf, se_Tr_firstSlotOf⟩ rfl hWw18 trt0 rfl (Nat.le_of_ble_eq_true rfl) (by decide) (fun v21 hv21 => ?_)
              exact ev_ireturn dt_Tu_trade_95 rfl ⟨hWw18, _, rfl, ⟨hFw18, by omega⟩⟩
            · skip
              refine ev_aload_n dt_Tu_trade_69 rfl rfl ?_
              refine tm_getR dt_Tu_trade_70 hWw18 tut0 fl_Tu_71 rfl ?_
              refine tm_getR dt_Tu_trade_73 hWw18 trt0 fl_Tu_289 rfl ?_
              refine ev_iconst dt_Tu_trade_76 ?_
              refine tm_iaload dt_Tu_trade_77 hWw18 trt5 (by omega) (by omega) (by omega) (fun v22 kv22 lv22 uv22 => ?_)
              refine ev_goto (tgt := 95) dt_Tu_trade_78 (by decide) ?_
              exact ev_ireturn dt_Tu_trade_95 rfl ⟨hWw18, _, rfl, ⟨hFw18, by omega⟩⟩
          · skip
            refine ev_aload_n dt_Tu_trade_54 rfl rfl ?_
            refine tm_getR dt_Tu_trade_55 hWw18 tut0 fl_Tu_71 rfl ?_
            refine tm_getR dt_Tu_trade_58 hWw18 trt0 fl_Tu_286 rfl ?_
            refine ev_iconst dt_Tu_trade_61 ?_
            refine tm_iaload dt_Tu_trade_62 hWw18 trt4 (by omega) (by omega) (by omega) (fun v23 kv23 lv23 uv23 => ?_)
            exact ev_ireturn dt_Tu_trade_63 rfl ⟨hWw18, _, rfl, ⟨hFw18, by omega⟩⟩
        · skip
          refine ev_bipush dt_Tu_trade_36 rfl ?_
          exact ev_ireturn dt_Tu_trade_38 rfl ⟨hW, _, rfl, ⟨hF0, by omega⟩⟩
      · skip
        refine ev_ldc (n := -100000) dt_Tu_trade_20 cn_Tu_208 rfl ?_
        exact ev_ireturn dt_Tu_trade_22 rfl ⟨hW, _, rfl, ⟨hF0, by omega⟩⟩
theorem dt_Tu_hoursSeen_0 : decode prog_1_method_31_code 0 = .ok (.aload_n 0, 1) := by decide +kernel
theorem dt_Tu_hoursSeen_1 : decode prog_1_method_31_code 1 = .ok (.getfield 23, 3) := by decide +kernel
theorem dt_Tu_hoursSeen_4 : decode prog_1_method_31_code 4 = .ok (.aload_n 0, 1) := by decide +kernel
theorem dt_Tu_hoursSeen_5 : decode prog_1_method_31_code 5 = .ok (.getfield 19, 3) := by decide +kernel
theorem dt_Tu_hoursSeen_8 : decode prog_1_method_31_code 8 = .ok (.invokevirtual 237, 3) := by decide +kernel
theorem dt_Tu_hoursSeen_11 : decode prog_1_method_31_code 11 = .ok (.iconst 0, 1) := by decide +kernel
theorem dt_Tu_hoursSeen_12 : decode prog_1_method_31_code 12 = .ok (.istore 5, 2) := by decide +kernel
theorem dt_Tu_hoursSeen_14 : decode prog_1_method_31_code 14 = .ok (.iconst 0, 1) := by decide +kernel
theorem dt_Tu_hoursSeen_15 : decode prog_1_method_31_code 15 = .ok (.istore 6, 2) := by decide +kernel
theorem dt_Tu_hoursSeen_17 : decode prog_1_method_31_code 17 = .ok (.iload 6, 2) := by decide +kernel
theorem dt_Tu_hoursSeen_19 : decode prog_1_method_31_code 19 = .ok (.iload 4, 2) := by decide +kernel
theorem dt_Tu_hoursSeen_21 : decode prog_1_method_31_code 21 = .ok (.if_icmp .ge 60, 3) := by decide +kernel
theorem dt_Tu_hoursSeen_24 : decode prog_1_method_31_code 24 = .ok (.iload 5, 2) := by decide +kernel
theorem dt_Tu_hoursSeen_26 : decode prog_1_method_31_code 26 = .ok (.aload_n 0, 1) := by decide +kernel
theorem dt_Tu_hoursSeen_27 : decode prog_1_method_31_code 27 = .ok (.getfield 23, 3) := by decide +kernel
theorem dt_Tu_hoursSeen_30 : decode prog_1_method_31_code 30 = .ok (.aload_n 0, 1) := by decide +kernel
theorem dt_Tu_hoursSeen_31 : decode prog_1_method_31_code 31 = .ok (.getfield 23, 3) := by decide +kernel
theorem dt_Tu_hoursSeen_34 : decode prog_1_method_31_code 34 = .ok (.iload_n 2, 1) := by decide +kernel
theorem dt_Tu_hoursSeen_35 : decode prog_1_method_31_code 35 = .ok (.invokevirtual 132, 3) := by decide +kernel
theorem dt_Tu_hoursSeen_38 : decode prog_1_method_31_code 38 = .ok (.aload_n 0, 1) := by decide +kernel
theorem dt_Tu_hoursSeen_39 : decode prog_1_method_31_code 39 = .ok (.getfield 23, 3) := by decide +kernel
theorem dt_Tu_hoursSeen_42 : decode prog_1_method_31_code 42 = .ok (.getfield 136, 3) := by decide +kernel
theorem dt_Tu_hoursSeen_45 : decode prog_1_method_31_code 45 = .ok (.invokevirtual 139, 3) := by decide +kernel
theorem dt_Tu_hoursSeen_48 : decode prog_1_method_31_code 48 = .ok (.iload_n 3, 1) := by decide +kernel
theorem dt_Tu_hoursSeen_49 : decode prog_1_method_31_code 49 = .ok (.ishr, 1) := by decide +kernel
theorem dt_Tu_hoursSeen_50 : decode prog_1_method_31_code 50 = .ok (.iconst 1, 1) := by decide +kernel
theorem dt_Tu_hoursSeen_51 : decode prog_1_method_31_code 51 = .ok (.iand, 1) := by decide +kernel
theorem dt_Tu_hoursSeen_52 : decode prog_1_method_31_code 52 = .ok (.iadd, 1) := by decide +kernel
theorem dt_Tu_hoursSeen_53 : decode prog_1_method_31_code 53 = .ok (.istore 5, 2) := by decide +kernel
theorem dt_Tu_hoursSeen_55 : decode prog_1_method_31_code 55 = .ok (.aload_n 0, 1) := by decide +kernel
theorem dt_Tu_hoursSeen_56 : decode prog_1_method_31_code 56 = .ok (.getfield 23, 3) := by decide +kernel
theorem dt_Tu_hoursSeen_59 : decode prog_1_method_31_code 59 = .ok (.aload_n 0, 1) := by decide +kernel
theorem dt_Tu_hoursSeen_60 : decode prog_1_method_31_code 60 = .ok (.getfield 57, 3) := by decide +kernel
theorem dt_Tu_hoursSeen_63 : decode prog_1_method_31_code 63 = .ok (.aload_n 1, 1) := by decide +kernel
theorem dt_Tu_hoursSeen_64 : decode prog_1_method_31_code 64 = .ok (.aload_n 0, 1) := by decide +kernel
theorem dt_Tu_hoursSeen_65 : decode prog_1_method_31_code 65 = .ok (.getfield 23, 3) := by decide +kernel
theorem dt_Tu_hoursSeen_68 : decode prog_1_method_31_code 68 = .ok (.invokevirtual 233, 3) := by decide +kernel
theorem dt_Tu_hoursSeen_71 : decode prog_1_method_31_code 71 = .ok (.invokevirtual 215, 3) := by decide +kernel
theorem dt_Tu_hoursSeen_74 : decode prog_1_method_31_code 74 = .ok (.pop, 1) := by decide +kernel
theorem dt_Tu_hoursSeen_75 : decode prog_1_method_31_code 75 = .ok (.iinc 6 1, 3) := by decide +kernel
theorem dt_Tu_hoursSeen_78 : decode prog_1_method_31_code 78 = .ok (.goto (-61), 3) := by decide +kernel
theorem dt_Tu_hoursSeen_81 : decode prog_1_method_31_code 81 = .ok (.iload 5, 2) := by decide +kernel
theorem dt_Tu_hoursSeen_83 : decode prog_1_method_31_code 83 = .ok (.ireturn, 1) := by decide +kernel
set_option maxHeartbeats 4000000 in
set_option maxRecDepth 10000 in
theorem tm_Tu_hoursSeen {N : Nat} {T : Nat → tm_S} {w : ab_W} {tu tp im md rl ac rr ma pl tr gu a b : Nat} {q : Nat} {n : Nat} (hW : tm_W N T w) (h_all : is_All T tu tp im md rl ac rr ma pl tr gu a b) (kn : tm_g w tu 1 = some (ab_R a)) (kt : tm_g w tu 2 = some (ab_R b)) (h_q : is_Ro T q n) (y1 : Int) (l_y1 : 0 ≤ y1) (u_y1 : y1 ≤ 6) (y2 : Int) (l_y2 : 0 ≤ y2) (u_y2 : y2 ≤ 4) (y3 : Int) (l_y3 : 1 ≤ y3) (u_y3 : y3 ≤ 60) : ab_Mt g_G g_rs mt_Tu_hoursSeen 6 0 0 [ab_R tu, ab_R q, ab_I y1, ab_I y2, ab_I y3] w (tm_Qi N T (fun v w2 => (∀ (p : Nat) (j : Int), ¬ (p = b ∨ p = (b + 1) ∨ p = (b + 2) ∨ p = (b + 3) ∨ p = (b + 4) ∨ p = (b + 5) ∨ p = (b + 6) ∨ p = (b + 7) ∨ p = (b + 8) ∨ p = (b + 9) ∨ p = (b + 10) ∨ p = (b + 11) ∨ p = (b + 12) ∨ p = (ma + 1) ∨ (p = ma ∧ (j = 1))) → tm_g w2 p j = tm_g w p j) ∧ ((-2147483648) ≤ v ∧ v ≤ 2147483647))) := by
  obtain ⟨tut0, imt0, mdt0, rlt0, h_tp, h_ac, h_rr, h_ma, hzz⟩ := id h_all
  obtain ⟨h_pl, h_tr, h_gu, h_a, h_b, e_all, e_ab⟩ := hzz
  obtain ⟨tpt0, tpt1⟩ := id h_tp
  obtain ⟨act0, act1, act2, act3⟩ := id h_ac
  obtain ⟨rrt0, rrt1⟩ := id h_rr
  obtain ⟨mat0, mat1⟩ := id h_ma
  obtain ⟨plt0, plt1, plt2, plt3, plt4⟩ := id h_pl
  obtain ⟨trt0, trt1, trt2, trt3, trt4, trt5⟩ := id h_tr
  obtain ⟨gut0, gut1, gut2, gut3⟩ := id h_gu
  obtain ⟨at0, at1, at2, at3, at4, at5, at6, at7, at8, at9, at10, at11, at12⟩ := id h_a
  have ad := is_Ri.d h_a
  obtain ⟨bt0, bt1, bt2, bt3, bt4, bt5, bt6, bt7, bt8, bt9, bt10, bt11, bt12⟩ := id h_b
  have bd := is_Ri.d h_b
  obtain ⟨qt0, qt1, n_le⟩ := id h_q
  have hF0 : ∀ (p : Nat) (j : Int), ¬ (p = b ∨ p = (b + 1) ∨ p = (b + 2) ∨ p = (b + 3) ∨ p = (b + 4) ∨ p = (b + 5) ∨ p = (b + 6) ∨ p = (b + 7) ∨ p = (b + 8) ∨ p = (b + 9) ∨ p = (b + 10) ∨ p = (b + 11) ∨ p = (b + 12) ∨ p = (ma + 1) ∨ (p = ma ∧ (j = 1))) → tm_g w p j = tm_g w p j := fun _ _ _ => rfl
  refine ab_Mt.of rfl (Nat.le_of_ble_eq_true rfl) ?_
  show ab_Ev g_G g_rs mt_Tu_hoursSeen _ _ _ 0 [some (ab_R tu), some (ab_R q), some (ab_I y1), some (ab_I y2), some (ab_I y3), none, none] [] _ _
  refine ev_aload_n dt_Tu_hoursSeen_0 rfl rfl ?_
  refine tm_getK (K := 2) dt_Tu_hoursSeen_1 hW tut0 fl_Tu_23 rfl kt ?_
  refine ev_aload_n dt_Tu_hoursSeen_4 rfl rfl ?_
  refine tm_getK (K := 1) dt_Tu_hoursSeen_5 hW tut0 fl_Tu_19 rfl kn ?_
  obtain ⟨v24, kv24, lv24, uv24⟩ := tm_peek (k := 6) (K := 6) hW at0 rfl rfl
  refine tm_vv dt_Tu_hoursSeen_8 (tm_Ri_copyFrom hW h_b h_a (by omega) (v24) kv24) kb_Tu_237 ⟨im_Ri_copyFrom, se_Ri_copyFrom⟩ rfl hW bt0 rfl (Nat.le_of_ble_eq_true rfl) (by decide) (fun w25 hWw25 hRw25 => ?_)
  obtain ⟨hfw25, v26, kv26, hpw25⟩ := hRw25
  have hFw25 : ∀ (p : Nat) (j : Int), ¬ (p = b ∨ p = (b + 1) ∨ p = (b + 2) ∨ p = (b + 3) ∨ p = (b + 4) ∨ p = (b + 5) ∨ p = (b + 6) ∨ p = (b + 7) ∨ p = (b + 8) ∨ p = (b + 9) ∨ p = (b + 10) ∨ p = (b + 11) ∨ p = (b + 12) ∨ p = (ma + 1) ∨ (p = ma ∧ (j = 1))) → tm_g w25 p j = tm_g w p j := fun p j h => (hfw25 p j (by omega)).trans (hF0 p j h)
  have bv26 : (-2147483648) ≤ v26 ∧ v26 ≤ 2147483647 := by obtain ⟨a, e, h0, h1⟩ := tm_peek (k := 6) (K := 6) hWw25 bt0 rfl rfl; rw [kv26] at e; injection e with e; injection e with e; omega
  refine ev_iconst dt_Tu_hoursSeen_11 ?_
  refine ev_istore (l' := [_, _, _, _, _, _, _]) dt_Tu_hoursSeen_12 (Nat.le_of_ble_eq_true rfl) rfl ?_
  refine ev_iconst dt_Tu_hoursSeen_14 ?_
  refine ev_istore (l' := [_, _, _, _, _, _, _]) dt_Tu_hoursSeen_15 (Nat.le_of_ble_eq_true rfl) rfl ?_
  have L27 : ∀ (n : Nat) (i28 : Int) (i29 : Int)  (w30 : ab_W), tm_W N T w30 → (∀ (p : Nat) (j : Int), ¬ (p = b ∨ p = (b + 1) ∨ p = (b + 2) ∨ p = (b + 3) ∨ p = (b + 4) ∨ p = (b + 5) ∨ p = (b + 6) ∨ p = (b + 7) ∨ p = (b + 8) ∨ p = (b + 9) ∨ p = (b + 10) ∨ p = (b + 11) ∨ p = (b + 12) ∨ p = (ma + 1) ∨ (p = ma ∧ (j = 1))) → tm_g w30 p j = tm_g w p j) → (-2147483648) ≤ i28 → i28 ≤ 2147483647 → 0 ≤ i29 → i29 ≤ 60 → 60 - i29 < (n : Int) → ab_Ev g_G g_rs mt_Tu_hoursSeen 6 0 0 17 [some (ab_R tu), some (ab_R q), some (ab_I y1), some (ab_I y2), some (ab_I y3), some (ab_I i28), some (ab_I i29)] [] w30 (tm_Qi N T (fun v w2 => (∀ (p : Nat) (j : Int), ¬ (p = b ∨ p = (b + 1) ∨ p = (b + 2) ∨ p = (b + 3) ∨ p = (b + 4) ∨ p = (b + 5) ∨ p = (b + 6) ∨ p = (b + 7) ∨ p = (b + 8) ∨ p = (b + 9) ∨ p = (b + 10) ∨ p = (b + 11) ∨ p = (b + 12) ∨ p = (ma + 1) ∨ (p = ma ∧ (j = 1))) → tm_g w2 p j = tm_g w p j) ∧ ((-2147483648) ≤ v ∧ v ≤ 2147483647))) := by
    intro n
    induction n with
    | zero =>
      intro i28 i29  w30 hWw30 hFw30 li28 ui28 li29 ui29 mL27
      exfalso
      omega
    | succ nL27 ihL27 =>
      intro i28 i29  w30 hWw30 hFw30 li28 ui28 li29 ui29 mL27
      refine ev_iload dt_Tu_hoursSeen_17 rfl ?_
      refine ev_iload dt_Tu_hoursSeen_19 rfl ?_
      refine ev_icmp_ge (tgt := 81) dt_Tu_hoursSeen_21 (by decide) (by omega) (by omega) (fun h31 => ?_) (fun h31 => ?_)
      · skip
        refine ev_iload dt_Tu_hoursSeen_81 rfl ?_
        exact ev_ireturn dt_Tu_hoursSeen_83 rfl ⟨hWw30, _, rfl, ⟨hFw30, by omega⟩⟩
      · skip
        refine ev_iload dt_Tu_hoursSeen_24 rfl ?_
        refine ev_aload_n dt_Tu_hoursSeen_26 rfl rfl ?_
        refine tm_getK (K := 2) dt_Tu_hoursSeen_27 hWw30 tut0 fl_Tu_23 rfl ((hFw30 tu 2 (by omega)).trans kt) ?_
        refine ev_aload_n dt_Tu_hoursSeen_30 rfl rfl ?_
        refine tm_getK (K := 2) dt_Tu_hoursSeen_31 hWw30 tut0 fl_Tu_23 rfl ((hFw30 tu 2 (by omega)).trans kt) ?_
        refine ev_iload_n dt_Tu_hoursSeen_34 rfl rfl ?_
        refine tm_vp dt_Tu_hoursSeen_35 (tm_Ri_facing hWw30 h_b (y1) (by omega) (by omega)) kb_Tu_132 ⟨im_Ri_facing, se_Ri_facing⟩ rfl hWw30 bt0 rfl (Nat.le_of_ble_eq_true rfl) (by decide) (fun v32 hv32 => ?_)
        refine ev_aload_n dt_Tu_hoursSeen_38 rfl rfl ?_
        refine tm_getK (K := 2) dt_Tu_hoursSeen_39 hWw30 tut0 fl_Tu_23 rfl ((hFw30 tu 2 (by omega)).trans kt) ?_
        refine tm_getI (K := 2) dt_Tu_hoursSeen_42 hWw30 bt0 fl_Tu_136 rfl rfl (fun v33 kv33 lv33 uv33 => ?_)
        refine tm_vp dt_Tu_hoursSeen_45 (tm_Ri_sortsAt hWw30 h_b (v32) (by omega) (by omega) (v33) (by omega) (by omega)) kb_Tu_139 ⟨im_Ri_sortsAt, se_Ri_sortsAt⟩ rfl hWw30 bt0 rfl (Nat.le_of_ble_eq_true rfl) (by decide) (fun v34 hv34 => ?_)
        refine ev_iload_n dt_Tu_hoursSeen_48 rfl rfl ?_
        refine tm_ishr dt_Tu_hoursSeen_49 (by omega) (by omega) (by omega) (fun v35 x1 x2 => ?_)
        have hv35 : 0 ≤ v35 ∧ v35 ≤ 31 := by omega
        clear x1 x2
        refine ev_iconst dt_Tu_hoursSeen_50 ?_
        refine tm_iand dt_Tu_hoursSeen_51 (by omega) (by omega) (fun v36 x1 x2 x3 => ?_)
        have hv36 : 0 ≤ v36 ∧ v36 ≤ 1 := by omega
        clear x1 x2 x3
        refine ev_iadd dt_Tu_hoursSeen_52 ?_
        refine tm_any (fun v37 hv37 _ => ?_)
        refine ev_istore (l' := [_, _, _, _, _, _, _]) dt_Tu_hoursSeen_53 (Nat.le_of_ble_eq_true rfl) rfl ?_
        refine ev_aload_n dt_Tu_hoursSeen_55 rfl rfl ?_
        refine tm_getK (K := 2) dt_Tu_hoursSeen_56 hWw30 tut0 fl_Tu_23 rfl ((hFw30 tu 2 (by omega)).trans kt) ?_
        refine ev_aload_n dt_Tu_hoursSeen_59 rfl rfl ?_
        refine tm_getR dt_Tu_hoursSeen_60 hWw30 tut0 fl_Tu_57 rfl ?_
        refine ev_aload_n dt_Tu_hoursSeen_63 rfl rfl ?_
        refine ev_aload_n dt_Tu_hoursSeen_64 rfl rfl ?_
        refine tm_getK (K := 2) dt_Tu_hoursSeen_65 hWw30 tut0 fl_Tu_23 rfl ((hFw30 tu 2 (by omega)).trans kt) ?_
        refine tm_vi dt_Tu_hoursSeen_68 (tm_Ma_rateBy hWw30 h_ma h_q h_b) kb_Tu_233 ⟨im_Ma_rateBy, se_Ma_rateBy⟩ rfl hWw30 mat0 rfl (Nat.le_of_ble_eq_true rfl) (by decide) (fun w38 v39 hWw38 hRw38 => ?_)
        obtain ⟨hfw38, hpw38⟩ := hRw38
        have hFw38 : ∀ (p : Nat) (j : Int), ¬ (p = b ∨ p = (b + 1) ∨ p = (b + 2) ∨ p = (b + 3) ∨ p = (b + 4) ∨ p = (b + 5) ∨ p = (b + 6) ∨ p = (b + 7) ∨ p = (b + 8) ∨ p = (b + 9) ∨ p = (b + 10) ∨ p = (b + 11) ∨ p = (b + 12) ∨ p = (ma + 1) ∨ (p = ma ∧ (j = 1))) → tm_g w38 p j = tm_g w p j := fun p j h => (hfw38 p j (by omega)).trans (hFw30 p j h)
        have z40 := (hfw38 b 2 (by omega)).trans kv33
        refine tm_vi dt_Tu_hoursSeen_71 (tm_Ri_passHour hWw38 h_b (v39) (by omega) (by omega)) kb_Tu_215 ⟨im_Ri_passHour, se_Ri_passHour⟩ rfl hWw38 bt0 rfl (Nat.le_of_ble_eq_true rfl) (by decide) (fun w41 v42 hWw41 hRw41 => ?_)
        obtain ⟨hfw41, hpw41⟩ := hRw41
        have hFw41 : ∀ (p : Nat) (j : Int), ¬ (p = b ∨ p = (b + 1) ∨ p = (b + 2) ∨ p = (b + 3) ∨ p = (b + 4) ∨ p = (b + 5) ∨ p = (b + 6) ∨ p = (b + 7) ∨ p = (b + 8) ∨ p = (b + 9) ∨ p = (b + 10) ∨ p = (b + 11) ∨ p = (b + 12) ∨ p = (ma + 1) ∨ (p = ma ∧ (j = 1))) → tm_g w41 p j = tm_g w p j := fun p j h => (hfw41 p j (by omega)).trans (hFw38 p j h)
        refine ev_pop dt_Tu_hoursSeen_74 rfl ?_
        refine ev_iinc (l' := [_, _, _, _, _, _, _]) dt_Tu_hoursSeen_75 rfl rfl ?_
        refine ev_goto (tgt := 17) dt_Tu_hoursSeen_78 (by decide) ?_
        exact tm_loc (tm_le_s (tm_le_s (tm_le_s (tm_le_s (tm_le_s (tm_le_s (tm_le_s tm_le_0))))))) (ihL27 (v37) ((i29 + 1)) w41 hWw41 hFw41 (by omega) (by omega) (by omega) (by omega) (by omega))
  exact tm_loc (tm_le_s (tm_le_s (tm_le_s (tm_le_s (tm_le_s (tm_le_s (tm_le_s tm_le_0))))))) (L27 (60 - (0) + 1 : Int).toNat (0) (0)  w25 hWw25 hFw25 (by omega) (by omega) (by omega) (by omega) (by omega))
theorem dt_Tu_apart_0 : decode prog_1_method_30_code 0 = .ok (.aload_n 0, 1) := by decide +kernel
theorem dt_Tu_apart_1 : decode prog_1_method_30_code 1 = .ok (.iload_n 1, 1) := by decide +kernel
theorem dt_Tu_apart_2 : decode prog_1_method_30_code 2 = .ok (.invokevirtual 230, 3) := by decide +kernel
theorem dt_Tu_apart_5 : decode prog_1_method_30_code 5 = .ok (.ifCond .eq 40, 3) := by decide +kernel
theorem dt_Tu_apart_8 : decode prog_1_method_30_code 8 = .ok (.aload_n 0, 1) := by decide +kernel
theorem dt_Tu_apart_9 : decode prog_1_method_30_code 9 = .ok (.iload_n 2, 1) := by decide +kernel
theorem dt_Tu_apart_10 : decode prog_1_method_30_code 10 = .ok (.invokevirtual 230, 3) := by decide +kernel
theorem dt_Tu_apart_13 : decode prog_1_method_30_code 13 = .ok (.ifCond .eq 32, 3) := by decide +kernel
theorem dt_Tu_apart_16 : decode prog_1_method_30_code 16 = .ok (.aload_n 0, 1) := by decide +kernel
theorem dt_Tu_apart_17 : decode prog_1_method_30_code 17 = .ok (.iload_n 3, 1) := by decide +kernel
theorem dt_Tu_apart_18 : decode prog_1_method_30_code 18 = .ok (.invokevirtual 118, 3) := by decide +kernel
theorem dt_Tu_apart_21 : decode prog_1_method_30_code 21 = .ok (.ifCond .eq 24, 3) := by decide +kernel
theorem dt_Tu_apart_24 : decode prog_1_method_30_code 24 = .ok (.iload 4, 2) := by decide +kernel
theorem dt_Tu_apart_26 : decode prog_1_method_30_code 26 = .ok (.invokestatic 302, 3) := by decide +kernel
theorem dt_Tu_apart_29 : decode prog_1_method_30_code 29 = .ok (.ifCond .eq 16, 3) := by decide +kernel
theorem dt_Tu_apart_32 : decode prog_1_method_30_code 32 = .ok (.iload 5, 2) := by decide +kernel
theorem dt_Tu_apart_34 : decode prog_1_method_30_code 34 = .ok (.iconst 1, 1) := by decide +kernel
theorem dt_Tu_apart_35 : decode prog_1_method_30_code 35 = .ok (.if_icmp .lt 10, 3) := by decide +kernel
theorem dt_Tu_apart_38 : decode prog_1_method_30_code 38 = .ok (.iload 5, 2) := by decide +kernel
theorem dt_Tu_apart_40 : decode prog_1_method_30_code 40 = .ok (.bipush 60, 2) := by decide +kernel
theorem dt_Tu_apart_42 : decode prog_1_method_30_code 42 = .ok (.if_icmp .le 6, 3) := by decide +kernel
theorem dt_Tu_apart_45 : decode prog_1_method_30_code 45 = .ok (.ldc 208, 2) := by decide +kernel
theorem dt_Tu_apart_47 : decode prog_1_method_30_code 47 = .ok (.ireturn, 1) := by decide +kernel
theorem dt_Tu_apart_48 : decode prog_1_method_30_code 48 = .ok (.aload_n 0, 1) := by decide +kernel
theorem dt_Tu_apart_49 : decode prog_1_method_30_code 49 = .ok (.aload_n 0, 1) := by decide +kernel
theorem dt_Tu_apart_50 : decode prog_1_method_30_code 50 = .ok (.getfield 36, 3) := by decide +kernel
theorem dt_Tu_apart_53 : decode prog_1_method_30_code 53 = .ok (.iload_n 1, 1) := by decide +kernel
theorem dt_Tu_apart_54 : decode prog_1_method_30_code 54 = .ok (.aaload, 1) := by decide +kernel
theorem dt_Tu_apart_55 : decode prog_1_method_30_code 55 = .ok (.iload_n 3, 1) := by decide +kernel
theorem dt_Tu_apart_56 : decode prog_1_method_30_code 56 = .ok (.iload 4, 2) := by decide +kernel
theorem dt_Tu_apart_58 : decode prog_1_method_30_code 58 = .ok (.iload 5, 2) := by decide +kernel
theorem dt_Tu_apart_60 : decode prog_1_method_30_code 60 = .ok (.invokevirtual 305, 3) := by decide +kernel
theorem dt_Tu_apart_63 : decode prog_1_method_30_code 63 = .ok (.aload_n 0, 1) := by decide +kernel
theorem dt_Tu_apart_64 : decode prog_1_method_30_code 64 = .ok (.aload_n 0, 1) := by decide +kernel
theorem dt_Tu_apart_65 : decode prog_1_method_30_code 65 = .ok (.getfield 36, 3) := by decide +kernel
theorem dt_Tu_apart_68 : decode prog_1_method_30_code 68 = .ok (.iload_n 2, 1) := by decide +kernel
theorem dt_Tu_apart_69 : decode prog_1_method_30_code 69 = .ok (.aaload, 1) := by decide +kernel
theorem dt_Tu_apart_70 : decode prog_1_method_30_code 70 = .ok (.iload_n 3, 1) := by decide +kernel
theorem dt_Tu_apart_71 : decode prog_1_method_30_code 71 = .ok (.iload 4, 2) := by decide +kernel
theorem dt_Tu_apart_73 : decode prog_1_method_30_code 73 = .ok (.iload 5, 2) := by decide +kernel
theorem dt_Tu_apart_75 : decode prog_1_method_30_code 75 = .ok (.invokevirtual 305, 3) := by decide +kernel
theorem dt_Tu_apart_78 : decode prog_1_method_30_code 78 = .ok (.isub, 1) := by decide +kernel
theorem dt_Tu_apart_79 : decode prog_1_method_30_code 79 = .ok (.ireturn, 1) := by decide +kernel
set_option maxHeartbeats 4000000 in
set_option maxRecDepth 10000 in
theorem tm_Tu_apart {N : Nat} {T : Nat → tm_S} {w : ab_W} {tu tp im md rl ac rr ma pl tr gu a b : Nat} (hW : tm_W N T w) (h_all : is_All T tu tp im md rl ac rr ma pl tr gu a b) (kn : tm_g w tu 1 = some (ab_R a)) (kt : tm_g w tu 2 = some (ab_R b)) (y1 : Int) (l_y1 : (-2147483648) ≤ y1) (u_y1 : y1 ≤ 2147483647) (y2 : Int) (l_y2 : (-2147483648) ≤ y2) (u_y2 : y2 ≤ 2147483647) (y3 : Int) (l_y3 : (-2147483648) ≤ y3) (u_y3 : y3 ≤ 2147483647) (y4 : Int) (l_y4 : (-2147483648) ≤ y4) (u_y4 : y4 ≤ 2147483647) (y5 : Int) (l_y5 : (-2147483648) ≤ y5) (u_y5 : y5 ≤ 2147483647) (rc : Int) (k_rc : tm_g w tu 6 = some (ab_I rc)) (hrl : ∀ j : Int, 0 ≤ j → j < rc → ∃ q n : Nat, tm_g w rl j = some (ab_R q) ∧ is_Ro T q n) : ab_Mt g_G g_rs mt_Tu_apart 7 0 0 [ab_R tu, ab_I y1, ab_I y2, ab_I y3, ab_I y4, ab_I y5] w (tm_Qi N T (fun v w2 => (∀ (p : Nat) (j : Int), ¬ (p = b ∨ p = (b + 1) ∨ p = (b + 2) ∨ p = (b + 3) ∨ p = (b + 4) ∨ p = (b + 5) ∨ p = (b + 6) ∨ p = (b + 7) ∨ p = (b + 8) ∨ p = (b + 9) ∨ p = (b + 10) ∨ p = (b + 11) ∨ p = (b + 12) ∨ p = (ma + 1) ∨ (p = ma ∧ (j = 1))) → tm_g w2 p j = tm_g w p j) ∧ ((-2147483648) ≤ v ∧ v ≤ 2147483647))) := by
  obtain ⟨tut0, imt0, mdt0, rlt0, h_tp, h_ac, h_rr, h_ma, hzz⟩ := id h_all
  obtain ⟨h_pl, h_tr, h_gu, h_a, h_b, e_all, e_ab⟩ := hzz
  obtain ⟨tpt0, tpt1⟩ := id h_tp
  obtain ⟨act0, act1, act2, act3⟩ := id h_ac
  obtain ⟨rrt0, rrt1⟩ := id h_rr
  obtain ⟨mat0, mat1⟩ := id h_ma
  obtain ⟨plt0, plt1, plt2, plt3, plt4⟩ := id h_pl
  obtain ⟨trt0, trt1, trt2, trt3, trt4, trt5⟩ := id h_tr
  obtain ⟨gut0, gut1, gut2, gut3⟩ := id h_gu
  obtain ⟨at0, at1, at2, at3, at4, at5, at6, at7, at8, at9, at10, at11, at12⟩ := id h_a
  have ad := is_Ri.d h_a
  obtain ⟨bt0, bt1, bt2, bt3, bt4, bt5, bt6, bt7, bt8, bt9, bt10, bt11, bt12⟩ := id h_b
  have bd := is_Ri.d h_b
  have hF0 : ∀ (p : Nat) (j : Int), ¬ (p = b ∨ p = (b + 1) ∨ p = (b + 2) ∨ p = (b + 3) ∨ p = (b + 4) ∨ p = (b + 5) ∨ p = (b + 6) ∨ p = (b + 7) ∨ p = (b + 8) ∨ p = (b + 9) ∨ p = (b + 10) ∨ p = (b + 11) ∨ p = (b + 12) ∨ p = (ma + 1) ∨ (p = ma ∧ (j = 1))) → tm_g w p j = tm_g w p j := fun _ _ _ => rfl
  refine ab_Mt.of rfl (Nat.le_of_ble_eq_true rfl) ?_
  show ab_Ev g_G g_rs mt_Tu_apart _ _ _ 0 [some (ab_R tu), some (ab_I y1), some (ab_I y2), some (ab_I y3), some (ab_I y4), some (ab_I y5)] [] _ _
  have b_rc : 0 ≤ rc ∧ rc ≤ 6 := by obtain ⟨a, e, h0, h1⟩ := tm_peek (k := 6) (K := 6) hW tut0 rfl rfl; rw [k_rc] at e; injection e with e; injection e with e; omega
  refine ev_aload_n dt_Tu_apart_0 rfl rfl ?_
  refine ev_iload_n dt_Tu_apart_1 rfl rfl ?_
  refine tm_vp dt_Tu_apart_2 (tm_Tu_hasRule hW h_all kn kt (y1) (by omega) (by omega) (rc) k_rc) kb_Tu_230 ⟨im_Tu_hasRule, se_Tu_hasRule⟩ rfl hW tut0 rfl (Nat.le_of_ble_eq_true rfl) (by decide) (fun v43 hv43 => ?_)
  refine ev_if_eq (tgt := 45) dt_Tu_apart_5 (by decide) (by omega) (fun h44 => ?_) (fun h44 => ?_)
  · skip
    refine ev_ldc (n := -100000) dt_Tu_apart_45 cn_Tu_208 rfl ?_
    exact ev_ireturn dt_Tu_apart_47 rfl ⟨hW, _, rfl, ⟨hF0, by omega⟩⟩
  · skip
    refine ev_aload_n dt_Tu_apart_8 rfl rfl ?_
    refine ev_iload_n dt_Tu_apart_9 rfl rfl ?_
    refine tm_vp dt_Tu_apart_10 (tm_Tu_hasRule hW h_all kn kt (y2) (by omega) (by omega) (rc) k_rc) kb_Tu_230 ⟨im_Tu_hasRule, se_Tu_hasRule⟩ rfl hW tut0 rfl (Nat.le_of_ble_eq_true rfl) (by decide) (fun v45 hv45 => ?_)
    refine ev_if_eq (tgt := 45) dt_Tu_apart_13 (by decide) (by omega) (fun h46 => ?_) (fun h46 => ?_)
    · skip
      refine ev_ldc (n := -100000) dt_Tu_apart_45 cn_Tu_208 rfl ?_
      exact ev_ireturn dt_Tu_apart_47 rfl ⟨hW, _, rfl, ⟨hF0, by omega⟩⟩
    · skip
      refine ev_aload_n dt_Tu_apart_16 rfl rfl ?_
      refine ev_iload_n dt_Tu_apart_17 rfl rfl ?_
      refine tm_vp dt_Tu_apart_18 (tm_Tu_hasHouse hW h_all kn kt (y3) (by omega) (by omega)) kb_Tu_118 ⟨im_Tu_hasHouse, se_Tu_hasHouse⟩ rfl hW tut0 rfl (Nat.le_of_ble_eq_true rfl) (by decide) (fun v47 hv47 => ?_)
      refine ev_if_eq (tgt := 45) dt_Tu_apart_21 (by decide) (by omega) (fun h48 => ?_) (fun h48 => ?_)
      · skip
        refine ev_ldc (n := -100000) dt_Tu_apart_45 cn_Tu_208 rfl ?_
        exact ev_ireturn dt_Tu_apart_47 rfl ⟨hW, _, rfl, ⟨hF0, by omega⟩⟩
      · skip
        refine ev_iload dt_Tu_apart_24 rfl ?_
        refine tm_sp dt_Tu_apart_26 (tm_Tu_isSort hW (y4) (by omega) (by omega)) kb_Tu_302 sc_Tu_isSort rfl (Nat.le_of_ble_eq_true rfl) (by decide) (fun v49 hv49 => ?_)
        refine ev_if_eq (tgt := 45) dt_Tu_apart_29 (by decide) (by omega) (fun h50 => ?_) (fun h50 => ?_)
        · skip
          refine ev_ldc (n := -100000) dt_Tu_apart_45 cn_Tu_208 rfl ?_
          exact ev_ireturn dt_Tu_apart_47 rfl ⟨hW, _, rfl, ⟨hF0, by omega⟩⟩
        · skip
          refine ev_iload dt_Tu_apart_32 rfl ?_
          refine ev_iconst dt_Tu_apart_34 ?_
          refine ev_icmp_lt (tgt := 45) dt_Tu_apart_35 (by decide) (by omega) (by omega) (fun h51 => ?_) (fun h51 => ?_)
          · skip
            refine ev_ldc (n := -100000) dt_Tu_apart_45 cn_Tu_208 rfl ?_
            exact ev_ireturn dt_Tu_apart_47 rfl ⟨hW, _, rfl, ⟨hF0, by omega⟩⟩
          · skip
            refine ev_iload dt_Tu_apart_38 rfl ?_
            refine ev_bipush dt_Tu_apart_40 rfl ?_
            refine ev_icmp_le (tgt := 48) dt_Tu_apart_42 (by decide) (by omega) (by omega) (fun h52 => ?_) (fun h52 => ?_)
            · skip
              refine ev_aload_n dt_Tu_apart_48 rfl rfl ?_
              refine ev_aload_n dt_Tu_apart_49 rfl rfl ?_
              refine tm_getR dt_Tu_apart_50 hW tut0 fl_Tu_36 rfl ?_
              refine ev_iload_n dt_Tu_apart_53 rfl rfl ?_
              obtain ⟨q1, nq1, kq1, h_q1⟩ := hrl y1 (by omega) (by omega)
              refine tm_aaload (t := 1) dt_Tu_apart_54 hW rlt0 rfl (by omega) (by omega) (by omega) ((hF0 rl _ (by omega)).trans kq1) ?_
              refine ev_iload_n dt_Tu_apart_55 rfl rfl ?_
              refine ev_iload dt_Tu_apart_56 rfl ?_
              refine ev_iload dt_Tu_apart_58 rfl ?_
              refine tm_vi dt_Tu_apart_60 (tm_Tu_hoursSeen hW h_all kn kt h_q1 (y3) (by omega) (by omega) (y4) (by omega) (by omega) (y5) (by omega) (by omega)) kb_Tu_305 ⟨im_Tu_hoursSeen, se_Tu_hoursSeen⟩ rfl hW tut0 rfl (Nat.le_of_ble_eq_true rfl) (by decide) (fun w53 v54 hWw53 hRw53 => ?_)
              obtain ⟨hfw53, hpw53⟩ := hRw53
              have hFw53 : ∀ (p : Nat) (j : Int), ¬ (p = b ∨ p = (b + 1) ∨ p = (b + 2) ∨ p = (b + 3) ∨ p = (b + 4) ∨ p = (b + 5) ∨ p = (b + 6) ∨ p = (b + 7) ∨ p = (b + 8) ∨ p = (b + 9) ∨ p = (b + 10) ∨ p = (b + 11) ∨ p = (b + 12) ∨ p = (ma + 1) ∨ (p = ma ∧ (j = 1))) → tm_g w53 p j = tm_g w p j := fun p j h => (hfw53 p j (by omega)).trans (hF0 p j h)
              refine ev_aload_n dt_Tu_apart_63 rfl rfl ?_
              refine ev_aload_n dt_Tu_apart_64 rfl rfl ?_
              refine tm_getR dt_Tu_apart_65 hWw53 tut0 fl_Tu_36 rfl ?_
              refine ev_iload_n dt_Tu_apart_68 rfl rfl ?_
              obtain ⟨q2, nq2, kq2, h_q2⟩ := hrl y2 (by omega) (by omega)
              refine tm_aaload (t := 1) dt_Tu_apart_69 hWw53 rlt0 rfl (by omega) (by omega) (by omega) ((hFw53 rl _ (by omega)).trans kq2) ?_
              refine ev_iload_n dt_Tu_apart_70 rfl rfl ?_
              refine ev_iload dt_Tu_apart_71 rfl ?_
              refine ev_iload dt_Tu_apart_73 rfl ?_
              refine tm_vi dt_Tu_apart_75 (tm_Tu_hoursSeen hWw53 h_all ((hFw53 tu 1 (by omega)).trans kn) ((hFw53 tu 2 (by omega)).trans kt) h_q2 (y3) (by omega) (by omega) (y4) (by omega) (by omega) (y5) (by omega) (by omega)) kb_Tu_305 ⟨im_Tu_hoursSeen, se_Tu_hoursSeen⟩ rfl hWw53 tut0 rfl (Nat.le_of_ble_eq_true rfl) (by decide) (fun w55 v56 hWw55 hRw55 => ?_)
              obtain ⟨hfw55, hpw55⟩ := hRw55
              have hFw55 : ∀ (p : Nat) (j : Int), ¬ (p = b ∨ p = (b + 1) ∨ p = (b + 2) ∨ p = (b + 3) ∨ p = (b + 4) ∨ p = (b + 5) ∨ p = (b + 6) ∨ p = (b + 7) ∨ p = (b + 8) ∨ p = (b + 9) ∨ p = (b + 10) ∨ p = (b + 11) ∨ p = (b + 12) ∨ p = (ma + 1) ∨ (p = ma ∧ (j = 1))) → tm_g w55 p j = tm_g w p j := fun p j h => (hfw55 p j (by omega)).trans (hFw53 p j h)
              refine ev_isub dt_Tu_apart_78 ?_
              refine tm_any (fun v57 hv57 _ => ?_)
              exact ev_ireturn dt_Tu_apart_79 rfl ⟨hWw55, _, rfl, ⟨hFw55, by omega⟩⟩
            · skip
              refine ev_ldc (n := -100000) dt_Tu_apart_45 cn_Tu_208 rfl ?_
              exact ev_ireturn dt_Tu_apart_47 rfl ⟨hW, _, rfl, ⟨hF0, by omega⟩⟩
theorem dt_Tu_diary_0 : decode prog_1_method_32_code 0 = .ok (.iload_n 1, 1) := by decide +kernel
theorem dt_Tu_diary_1 : decode prog_1_method_32_code 1 = .ok (.iconst (-1), 1) := by decide +kernel
theorem dt_Tu_diary_2 : decode prog_1_method_32_code 2 = .ok (.if_icmp .ne 16, 3) := by decide +kernel
theorem dt_Tu_diary_5 : decode prog_1_method_32_code 5 = .ok (.aload_n 0, 1) := by decide +kernel
theorem dt_Tu_diary_6 : decode prog_1_method_32_code 6 = .ok (.getfield 19, 3) := by decide +kernel
theorem dt_Tu_diary_9 : decode prog_1_method_32_code 9 = .ok (.getfield 192, 3) := by decide +kernel
theorem dt_Tu_diary_12 : decode prog_1_method_32_code 12 = .ok (.iconst 0, 1) := by decide +kernel
theorem dt_Tu_diary_13 : decode prog_1_method_32_code 13 = .ok (.putfield 196, 3) := by decide +kernel
theorem dt_Tu_diary_16 : decode prog_1_method_32_code 16 = .ok (.iconst 0, 1) := by decide +kernel
theorem dt_Tu_diary_17 : decode prog_1_method_32_code 17 = .ok (.ireturn, 1) := by decide +kernel
theorem dt_Tu_diary_18 : decode prog_1_method_32_code 18 = .ok (.aload_n 0, 1) := by decide +kernel
theorem dt_Tu_diary_19 : decode prog_1_method_32_code 19 = .ok (.iload_n 1, 1) := by decide +kernel
theorem dt_Tu_diary_20 : decode prog_1_method_32_code 20 = .ok (.invokevirtual 118, 3) := by decide +kernel
theorem dt_Tu_diary_23 : decode prog_1_method_32_code 23 = .ok (.ifCond .eq 35, 3) := by decide +kernel
theorem dt_Tu_diary_26 : decode prog_1_method_32_code 26 = .ok (.iload_n 2, 1) := by decide +kernel
theorem dt_Tu_diary_27 : decode prog_1_method_32_code 27 = .ok (.ifCond .lt 31, 3) := by decide +kernel
theorem dt_Tu_diary_30 : decode prog_1_method_32_code 30 = .ok (.iload_n 2, 1) := by decide +kernel
theorem dt_Tu_diary_31 : decode prog_1_method_32_code 31 = .ok (.bipush 99, 2) := by decide +kernel
theorem dt_Tu_diary_33 : decode prog_1_method_32_code 33 = .ok (.if_icmp .gt 25, 3) := by decide +kernel
theorem dt_Tu_diary_36 : decode prog_1_method_32_code 36 = .ok (.iload_n 3, 1) := by decide +kernel
theorem dt_Tu_diary_37 : decode prog_1_method_32_code 37 = .ok (.invokestatic 302, 3) := by decide +kernel
theorem dt_Tu_diary_40 : decode prog_1_method_32_code 40 = .ok (.ifCond .eq 18, 3) := by decide +kernel
theorem dt_Tu_diary_43 : decode prog_1_method_32_code 43 = .ok (.aload_n 0, 1) := by decide +kernel
theorem dt_Tu_diary_44 : decode prog_1_method_32_code 44 = .ok (.getfield 19, 3) := by decide +kernel
theorem dt_Tu_diary_47 : decode prog_1_method_32_code 47 = .ok (.getfield 192, 3) := by decide +kernel
theorem dt_Tu_diary_50 : decode prog_1_method_32_code 50 = .ok (.getfield 196, 3) := by decide +kernel
theorem dt_Tu_diary_53 : decode prog_1_method_32_code 53 = .ok (.bipush 10, 2) := by decide +kernel
theorem dt_Tu_diary_55 : decode prog_1_method_32_code 55 = .ok (.if_icmp .lt 6, 3) := by decide +kernel
theorem dt_Tu_diary_58 : decode prog_1_method_32_code 58 = .ok (.bipush (-2), 2) := by decide +kernel
theorem dt_Tu_diary_60 : decode prog_1_method_32_code 60 = .ok (.ireturn, 1) := by decide +kernel
theorem dt_Tu_diary_61 : decode prog_1_method_32_code 61 = .ok (.aload_n 0, 1) := by decide +kernel
theorem dt_Tu_diary_62 : decode prog_1_method_32_code 62 = .ok (.getfield 19, 3) := by decide +kernel
theorem dt_Tu_diary_65 : decode prog_1_method_32_code 65 = .ok (.getfield 192, 3) := by decide +kernel
theorem dt_Tu_diary_68 : decode prog_1_method_32_code 68 = .ok (.iload_n 1, 1) := by decide +kernel
theorem dt_Tu_diary_69 : decode prog_1_method_32_code 69 = .ok (.iload_n 2, 1) := by decide +kernel
theorem dt_Tu_diary_70 : decode prog_1_method_32_code 70 = .ok (.iload_n 3, 1) := by decide +kernel
theorem dt_Tu_diary_71 : decode prog_1_method_32_code 71 = .ok (.iload 4, 2) := by decide +kernel
theorem dt_Tu_diary_73 : decode prog_1_method_32_code 73 = .ok (.invokevirtual 309, 3) := by decide +kernel
theorem dt_Tu_diary_76 : decode prog_1_method_32_code 76 = .ok (.aload_n 0, 1) := by decide +kernel
theorem dt_Tu_diary_77 : decode prog_1_method_32_code 77 = .ok (.getfield 19, 3) := by decide +kernel
theorem dt_Tu_diary_80 : decode prog_1_method_32_code 80 = .ok (.getfield 192, 3) := by decide +kernel
theorem dt_Tu_diary_83 : decode prog_1_method_32_code 83 = .ok (.getfield 196, 3) := by decide +kernel
theorem dt_Tu_diary_86 : decode prog_1_method_32_code 86 = .ok (.ireturn, 1) := by decide +kernel
set_option maxHeartbeats 4000000 in
set_option maxRecDepth 10000 in
theorem tm_Tu_diary {N : Nat} {T : Nat → tm_S} {w : ab_W} {tu tp im md rl ac rr ma pl tr gu a b : Nat} (hW : tm_W N T w) (h_all : is_All T tu tp im md rl ac rr ma pl tr gu a b) (kn : tm_g w tu 1 = some (ab_R a)) (kt : tm_g w tu 2 = some (ab_R b)) (y1 : Int) (l_y1 : (-2147483648) ≤ y1) (u_y1 : y1 ≤ 2147483647) (y2 : Int) (l_y2 : (-2147483648) ≤ y2) (u_y2 : y2 ≤ 2147483647) (y3 : Int) (l_y3 : (-2147483648) ≤ y3) (u_y3 : y3 ≤ 2147483647) (y4 : Int) (l_y4 : 0 ≤ y4) (u_y4 : y4 ≤ 1) : ab_Mt g_G g_rs mt_Tu_diary 1 0 0 [ab_R tu, ab_I y1, ab_I y2, ab_I y3, ab_I y4] w (tm_Qi N T (fun v w2 => (∀ (p : Nat) (j : Int), ¬ (p = (a + 8) ∨ p = (a + 9) ∨ p = (a + 10) ∨ p = (a + 11) ∨ p = (a + 12)) → tm_g w2 p j = tm_g w p j) ∧ ((-2147483648) ≤ v ∧ v ≤ 2147483647))) := by
  obtain ⟨tut0, imt0, mdt0, rlt0, h_tp, h_ac, h_rr, h_ma, hzz⟩ := id h_all
  obtain ⟨h_pl, h_tr, h_gu, h_a, h_b, e_all, e_ab⟩ := hzz
  obtain ⟨tpt0, tpt1⟩ := id h_tp
  obtain ⟨act0, act1, act2, act3⟩ := id h_ac
  obtain ⟨rrt0, rrt1⟩ := id h_rr
  obtain ⟨mat0, mat1⟩ := id h_ma
  obtain ⟨plt0, plt1, plt2, plt3, plt4⟩ := id h_pl
  obtain ⟨trt0, trt1, trt2, trt3, trt4, trt5⟩ := id h_tr
  obtain ⟨gut0, gut1, gut2, gut3⟩ := id h_gu
  obtain ⟨at0, at1, at2, at3, at4, at5, at6, at7, at8, at9, at10, at11, at12⟩ := id h_a
  have ad := is_Ri.d h_a
  obtain ⟨bt0, bt1, bt2, bt3, bt4, bt5, bt6, bt7, bt8, bt9, bt10, bt11, bt12⟩ := id h_b
  have bd := is_Ri.d h_b
  have hF0 : ∀ (p : Nat) (j : Int), ¬ (p = (a + 8) ∨ p = (a + 9) ∨ p = (a + 10) ∨ p = (a + 11) ∨ p = (a + 12)) → tm_g w p j = tm_g w p j := fun _ _ _ => rfl
  refine ab_Mt.of rfl (Nat.le_of_ble_eq_true rfl) ?_
  show ab_Ev g_G g_rs mt_Tu_diary _ _ _ 0 [some (ab_R tu), some (ab_I y1), some (ab_I y2), some (ab_I y3), some (ab_I y4)] [] _ _
  refine ev_iload_n dt_Tu_diary_0 rfl rfl ?_
  refine ev_iconst dt_Tu_diary_1 ?_
  refine ev_icmp_ne (tgt := 18) dt_Tu_diary_2 (by decide) (by omega) (by omega) (fun h58 => ?_) (fun h58 => ?_)
  · skip
    refine ev_aload_n dt_Tu_diary_18 rfl rfl ?_
    refine ev_iload_n dt_Tu_diary_19 rfl rfl ?_
    refine tm_vp dt_Tu_diary_20 (tm_Tu_hasHouse hW h_all kn kt (y1) (by omega) (by omega)) kb_Tu_118 ⟨im_Tu_hasHouse, se_Tu_hasHouse⟩ rfl hW tut0 rfl (Nat.le_of_ble_eq_true rfl) (by decide) (fun v59 hv59 => ?_)
    refine ev_if_eq (tgt := 58) dt_Tu_diary_23 (by decide) (by omega) (fun h60 => ?_) (fun h60 => ?_)
    · skip
      refine ev_bipush dt_Tu_diary_58 rfl ?_
      exact ev_ireturn dt_Tu_diary_60 rfl ⟨hW, _, rfl, ⟨hF0, by omega⟩⟩
    · skip
      refine ev_iload_n dt_Tu_diary_26 rfl rfl ?_
      refine ev_if_lt (tgt := 58) dt_Tu_diary_27 (by decide) (by omega) (fun h61 => ?_) (fun h61 => ?_)
      · skip
        refine ev_bipush dt_Tu_diary_58 rfl ?_
        exact ev_ireturn dt_Tu_diary_60 rfl ⟨hW, _, rfl, ⟨hF0, by omega⟩⟩
      · skip
        refine ev_iload_n dt_Tu_diary_30 rfl rfl ?_
        refine ev_bipush dt_Tu_diary_31 rfl ?_
        refine ev_icmp_gt (tgt := 58) dt_Tu_diary_33 (by decide) (by omega) (by omega) (fun h62 => ?_) (fun h62 => ?_)
        · skip
          refine ev_bipush dt_Tu_diary_58 rfl ?_
          exact ev_ireturn dt_Tu_diary_60 rfl ⟨hW, _, rfl, ⟨hF0, by omega⟩⟩
        · skip
          refine ev_iload_n dt_Tu_diary_36 rfl rfl ?_
          refine tm_sp dt_Tu_diary_37 (tm_Tu_isSort hW (y3) (by omega) (by omega)) kb_Tu_302 sc_Tu_isSort rfl (Nat.le_of_ble_eq_true rfl) (by decide) (fun v63 hv63 => ?_)
          refine ev_if_eq (tgt := 58) dt_Tu_diary_40 (by decide) (by omega) (fun h64 => ?_) (fun h64 => ?_)
          · skip
            refine ev_bipush dt_Tu_diary_58 rfl ?_
            exact ev_ireturn dt_Tu_diary_60 rfl ⟨hW, _, rfl, ⟨hF0, by omega⟩⟩
          · skip
            refine ev_aload_n dt_Tu_diary_43 rfl rfl ?_
            refine tm_getK (K := 1) dt_Tu_diary_44 hW tut0 fl_Tu_19 rfl kn ?_
            refine tm_getR dt_Tu_diary_47 hW at0 fl_Tu_192 rfl ?_
            refine tm_getI (K := 0) dt_Tu_diary_50 hW at8 fl_Tu_196 rfl rfl (fun v65 kv65 lv65 uv65 => ?_)
            refine ev_bipush dt_Tu_diary_53 rfl ?_
            refine ev_icmp_lt (tgt := 61) dt_Tu_diary_55 (by decide) (by omega) (by omega) (fun h66 => ?_) (fun h66 => ?_)
            · skip
              refine ev_aload_n dt_Tu_diary_61 rfl rfl ?_
              refine tm_getK (K := 1) dt_Tu_diary_62 hW tut0 fl_Tu_19 rfl kn ?_
              refine tm_getR dt_Tu_diary_65 hW at0 fl_Tu_192 rfl ?_
              refine ev_iload_n dt_Tu_diary_68 rfl rfl ?_
              refine ev_iload_n dt_Tu_diary_69 rfl rfl ?_
              refine ev_iload_n dt_Tu_diary_70 rfl rfl ?_
              refine ev_iload dt_Tu_diary_71 rfl ?_
              refine tm_vv dt_Tu_diary_73 (tm_Di_write hW ad (y1) (by omega) (by omega) (y2) (by omega) (by omega) (y3) (by omega) (by omega) (y4) (by omega) (by omega) (v65) kv65 (by omega) (by omega)) kb_Tu_309 ⟨im_Di_write, se_Di_write⟩ rfl hW at8 rfl (Nat.le_of_ble_eq_true rfl) (by decide) (fun w67 hWw67 hRw67 => ?_)
              have hfw67 := hRw67
              have hFw67 : ∀ (p : Nat) (j : Int), ¬ (p = (a + 8) ∨ p = (a + 9) ∨ p = (a + 10) ∨ p = (a + 11) ∨ p = (a + 12)) → tm_g w67 p j = tm_g w p j := fun p j h => (hfw67 p j (by omega)).trans (hF0 p j h)
              refine ev_aload_n dt_Tu_diary_76 rfl rfl ?_
              refine tm_getK (K := 1) dt_Tu_diary_77 hWw67 tut0 fl_Tu_19 rfl ((hFw67 tu 1 (by omega)).trans kn) ?_
              refine tm_getR dt_Tu_diary_80 hWw67 at0 fl_Tu_192 rfl ?_
              refine tm_getI (K := 0) dt_Tu_diary_83 hWw67 at8 fl_Tu_196 rfl rfl (fun v68 kv68 lv68 uv68 => ?_)
              exact ev_ireturn dt_Tu_diary_86 rfl ⟨hWw67, _, rfl, ⟨hFw67, by omega⟩⟩
            · skip
              refine ev_bipush dt_Tu_diary_58 rfl ?_
              exact ev_ireturn dt_Tu_diary_60 rfl ⟨hW, _, rfl, ⟨hF0, by omega⟩⟩
  · skip
    refine ev_aload_n dt_Tu_diary_5 rfl rfl ?_
    refine tm_getK (K := 1) dt_Tu_diary_6 hW tut0 fl_Tu_19 rfl kn ?_
    refine tm_getR dt_Tu_diary_9 hW at0 fl_Tu_192 rfl ?_
    refine ev_iconst dt_Tu_diary_12 ?_
    refine tm_putI (K := 0) dt_Tu_diary_13 hW at8 (fp_Tu_196 _) rfl rfl trivial (by omega) (by omega) (fun w69 hWw69 kkw69 hfw69 => ?_)
    have hFw69 : ∀ (p : Nat) (j : Int), ¬ (p = (a + 8) ∨ p = (a + 9) ∨ p = (a + 10) ∨ p = (a + 11) ∨ p = (a + 12)) → tm_g w69 p j = tm_g w p j := fun p j h => (hfw69 p j (by omega)).trans (hF0 p j h)
    refine ev_iconst dt_Tu_diary_16 ?_
    exact ev_ireturn dt_Tu_diary_17 rfl ⟨hWw69, _, rfl, ⟨hFw69, by omega⟩⟩
theorem dt_Tu_turned_0 : decode prog_1_method_33_code 0 = .ok (.aload_n 0, 1) := by decide +kernel
theorem dt_Tu_turned_1 : decode prog_1_method_33_code 1 = .ok (.getfield 19, 3) := by decide +kernel
theorem dt_Tu_turned_4 : decode prog_1_method_33_code 4 = .ok (.getfield 152, 3) := by decide +kernel
theorem dt_Tu_turned_7 : decode prog_1_method_33_code 7 = .ok (.ifCond .eq 12, 3) := by decide +kernel
theorem dt_Tu_turned_10 : decode prog_1_method_33_code 10 = .ok (.iload_n 1, 1) := by decide +kernel
theorem dt_Tu_turned_11 : decode prog_1_method_33_code 11 = .ok (.ifCond .lt 8, 3) := by decide +kernel
theorem dt_Tu_turned_14 : decode prog_1_method_33_code 14 = .ok (.iload_n 1, 1) := by decide +kernel
theorem dt_Tu_turned_15 : decode prog_1_method_33_code 15 = .ok (.iconst 2, 1) := by decide +kernel
theorem dt_Tu_turned_16 : decode prog_1_method_33_code 16 = .ok (.if_icmp .le 7, 3) := by decide +kernel
theorem dt_Tu_turned_19 : decode prog_1_method_33_code 19 = .ok (.sipush (-2000), 3) := by decide +kernel
theorem dt_Tu_turned_22 : decode prog_1_method_33_code 22 = .ok (.ireturn, 1) := by decide +kernel
theorem dt_Tu_turned_23 : decode prog_1_method_33_code 23 = .ok (.aload_n 0, 1) := by decide +kernel
theorem dt_Tu_turned_24 : decode prog_1_method_33_code 24 = .ok (.getfield 78, 3) := by decide +kernel
theorem dt_Tu_turned_27 : decode prog_1_method_33_code 27 = .ok (.aload_n 0, 1) := by decide +kernel
theorem dt_Tu_turned_28 : decode prog_1_method_33_code 28 = .ok (.getfield 19, 3) := by decide +kernel
theorem dt_Tu_turned_31 : decode prog_1_method_33_code 31 = .ok (.invokevirtual 313, 3) := by decide +kernel
theorem dt_Tu_turned_34 : decode prog_1_method_33_code 34 = .ok (.iload_n 1, 1) := by decide +kernel
theorem dt_Tu_turned_35 : decode prog_1_method_33_code 35 = .ok (.ifCond .ne 11, 3) := by decide +kernel
theorem dt_Tu_turned_38 : decode prog_1_method_33_code 38 = .ok (.aload_n 0, 1) := by decide +kernel
theorem dt_Tu_turned_39 : decode prog_1_method_33_code 39 = .ok (.getfield 78, 3) := by decide +kernel
theorem dt_Tu_turned_42 : decode prog_1_method_33_code 42 = .ok (.getfield 316, 3) := by decide +kernel
theorem dt_Tu_turned_45 : decode prog_1_method_33_code 45 = .ok (.ireturn, 1) := by decide +kernel
theorem dt_Tu_turned_46 : decode prog_1_method_33_code 46 = .ok (.aload_n 0, 1) := by decide +kernel
theorem dt_Tu_turned_47 : decode prog_1_method_33_code 47 = .ok (.getfield 78, 3) := by decide +kernel
theorem dt_Tu_turned_50 : decode prog_1_method_33_code 50 = .ok (.getfield 316, 3) := by decide +kernel
theorem dt_Tu_turned_53 : decode prog_1_method_33_code 53 = .ok (.ifCond .ne 7, 3) := by decide +kernel
theorem dt_Tu_turned_56 : decode prog_1_method_33_code 56 = .ok (.sipush (-1000), 3) := by decide +kernel
theorem dt_Tu_turned_59 : decode prog_1_method_33_code 59 = .ok (.ireturn, 1) := by decide +kernel
theorem dt_Tu_turned_60 : decode prog_1_method_33_code 60 = .ok (.iload_n 1, 1) := by decide +kernel
theorem dt_Tu_turned_61 : decode prog_1_method_33_code 61 = .ok (.iconst 1, 1) := by decide +kernel
theorem dt_Tu_turned_62 : decode prog_1_method_33_code 62 = .ok (.if_icmp .ne 15, 3) := by decide +kernel
theorem dt_Tu_turned_65 : decode prog_1_method_33_code 65 = .ok (.aload_n 0, 1) := by decide +kernel
theorem dt_Tu_turned_66 : decode prog_1_method_33_code 66 = .ok (.getfield 78, 3) := by decide +kernel
theorem dt_Tu_turned_69 : decode prog_1_method_33_code 69 = .ok (.getfield 319, 3) := by decide +kernel
theorem dt_Tu_turned_72 : decode prog_1_method_33_code 72 = .ok (.iconst 0, 1) := by decide +kernel
theorem dt_Tu_turned_73 : decode prog_1_method_33_code 73 = .ok (.iaload, 1) := by decide +kernel
theorem dt_Tu_turned_74 : decode prog_1_method_33_code 74 = .ok (.goto 12, 3) := by decide +kernel
theorem dt_Tu_turned_77 : decode prog_1_method_33_code 77 = .ok (.aload_n 0, 1) := by decide +kernel
theorem dt_Tu_turned_78 : decode prog_1_method_33_code 78 = .ok (.getfield 78, 3) := by decide +kernel
theorem dt_Tu_turned_81 : decode prog_1_method_33_code 81 = .ok (.getfield 321, 3) := by decide +kernel
theorem dt_Tu_turned_84 : decode prog_1_method_33_code 84 = .ok (.iconst 0, 1) := by decide +kernel
theorem dt_Tu_turned_85 : decode prog_1_method_33_code 85 = .ok (.iaload, 1) := by decide +kernel
theorem dt_Tu_turned_86 : decode prog_1_method_33_code 86 = .ok (.ireturn, 1) := by decide +kernel
set_option maxHeartbeats 4000000 in
set_option maxRecDepth 10000 in
theorem tm_Tu_turned {N : Nat} {T : Nat → tm_S} {w : ab_W} {tu tp im md rl ac rr ma pl tr gu a b : Nat} (hW : tm_W N T w) (h_all : is_All T tu tp im md rl ac rr ma pl tr gu a b) (kn : tm_g w tu 1 = some (ab_R a)) (kt : tm_g w tu 2 = some (ab_R b)) (y1 : Int) (l_y1 : (-2147483648) ≤ y1) (u_y1 : y1 ≤ 2147483647) : ab_Mt g_G g_rs mt_Tu_turned 4 0 0 [ab_R tu, ab_I y1] w (tm_Qi N T (fun v w2 => (∀ (p : Nat) (j : Int), ¬ (p = (gu + 1) ∨ p = (gu + 2) ∨ (p = gu ∧ (j = 2))) → tm_g w2 p j = tm_g w p j) ∧ ((-2147483648) ≤ v ∧ v ≤ 2147483647))) := by
  obtain ⟨tut0, imt0, mdt0, rlt0, h_tp, h_ac, h_rr, h_ma, hzz⟩ := id h_all
  obtain ⟨h_pl, h_tr, h_gu, h_a, h_b, e_all, e_ab⟩ := hzz
  obtain ⟨tpt0, tpt1⟩ := id h_tp
  obtain ⟨act0, act1, act2, act3⟩ := id h_ac
  obtain ⟨rrt0, rrt1⟩ := id h_rr
  obtain ⟨mat0, mat1⟩ := id h_ma
  obtain ⟨plt0, plt1, plt2, plt3, plt4⟩ := id h_pl
  obtain ⟨trt0, trt1, trt2, trt3, trt4, trt5⟩ := id h_tr
  obtain ⟨gut0, gut1, gut2, gut3⟩ := id h_gu
  obtain ⟨at0, at1, at2, at3, at4, at5, at6, at7, at8, at9, at10, at11, at12⟩ := id h_a
  have ad := is_Ri.d h_a
  obtain ⟨bt0, bt1, bt2, bt3, bt4, bt5, bt6, bt7, bt8, bt9, bt10, bt11, bt12⟩ := id h_b
  have bd := is_Ri.d h_b
  have hF0 : ∀ (p : Nat) (j : Int), ¬ (p = (gu + 1) ∨ p = (gu + 2) ∨ (p = gu ∧ (j = 2))) → tm_g w p j = tm_g w p j := fun _ _ _ => rfl
  refine ab_Mt.of rfl (Nat.le_of_ble_eq_true rfl) ?_
  show ab_Ev g_G g_rs mt_Tu_turned _ _ _ 0 [some (ab_R tu), some (ab_I y1)] [] _ _
  refine ev_aload_n dt_Tu_turned_0 rfl rfl ?_
  refine tm_getK (K := 1) dt_Tu_turned_1 hW tut0 fl_Tu_19 rfl kn ?_
  refine tm_getI (K := 0) dt_Tu_turned_4 hW at0 fl_Tu_152 rfl rfl (fun v70 kv70 lv70 uv70 => ?_)
  refine ev_if_eq (tgt := 19) dt_Tu_turned_7 (by decide) (by omega) (fun h71 => ?_) (fun h71 => ?_)
  · skip
    refine ev_sipush dt_Tu_turned_19 rfl ?_
    exact ev_ireturn dt_Tu_turned_22 rfl ⟨hW, _, rfl, ⟨hF0, by omega⟩⟩
  · skip
    refine ev_iload_n dt_Tu_turned_10 rfl rfl ?_
    refine ev_if_lt (tgt := 19) dt_Tu_turned_11 (by decide) (by omega) (fun h72 => ?_) (fun h72 => ?_)
    · skip
      refine ev_sipush dt_Tu_turned_19 rfl ?_
      exact ev_ireturn dt_Tu_turned_22 rfl ⟨hW, _, rfl, ⟨hF0, by omega⟩⟩
    · skip
      refine ev_iload_n dt_Tu_turned_14 rfl rfl ?_
      refine ev_iconst dt_Tu_turned_15 ?_
      refine ev_icmp_le (tgt := 23) dt_Tu_turned_16 (by decide) (by omega) (by omega) (fun h73 => ?_) (fun h73 => ?_)
      · skip
        refine ev_aload_n dt_Tu_turned_23 rfl rfl ?_
        refine tm_getR dt_Tu_turned_24 hW tut0 fl_Tu_78 rfl ?_
        refine ev_aload_n dt_Tu_turned_27 rfl rfl ?_
        refine tm_getK (K := 1) dt_Tu_turned_28 hW tut0 fl_Tu_19 rfl kn ?_
        refine tm_vv dt_Tu_turned_31 (tm_Gu_findTurns hW h_gu h_a (by omega)) kb_Tu_313 ⟨im_Gu_findTurns, se_Gu_findTurns⟩ rfl hW gut0 rfl (Nat.le_of_ble_eq_true rfl) (by decide) (fun w74 hWw74 hRw74 => ?_)
        have hfw74 := hRw74
        have hFw74 : ∀ (p : Nat) (j : Int), ¬ (p = (gu + 1) ∨ p = (gu + 2) ∨ (p = gu ∧ (j = 2))) → tm_g w74 p j = tm_g w p j := fun p j h => (hfw74 p j (by omega)).trans (hF0 p j h)
        refine ev_iload_n dt_Tu_turned_34 rfl rfl ?_
        refine ev_if_ne (tgt := 46) dt_Tu_turned_35 (by decide) (by omega) (fun h75 => ?_) (fun h75 => ?_)
        · skip
          refine ev_aload_n dt_Tu_turned_46 rfl rfl ?_
          refine tm_getR dt_Tu_turned_47 hWw74 tut0 fl_Tu_78 rfl ?_
          refine tm_getI (K := 2) dt_Tu_turned_50 hWw74 gut0 fl_Tu_316 rfl rfl (fun v76 kv76 lv76 uv76 => ?_)
          refine ev_if_ne (tgt := 60) dt_Tu_turned_53 (by decide) (by omega) (fun h77 => ?_) (fun h77 => ?_)
          · skip
            refine ev_iload_n dt_Tu_turned_60 rfl rfl ?_
            refine ev_iconst dt_Tu_turned_61 ?_
            refine ev_icmp_ne (tgt := 77) dt_Tu_turned_62 (by decide) (by omega) (by omega) (fun h78 => ?_) (fun h78 => ?_)
            · skip
              refine ev_aload_n dt_Tu_turned_77 rfl rfl ?_
              refine tm_getR dt_Tu_turned_78 hWw74 tut0 fl_Tu_78 rfl ?_
              refine tm_getR dt_Tu_turned_81 hWw74 gut0 fl_Tu_321 rfl ?_
              refine ev_iconst dt_Tu_turned_84 ?_
              refine tm_iaload dt_Tu_turned_85 hWw74 gut2 (by omega) (by omega) (by omega) (fun v79 kv79 lv79 uv79 => ?_)
              exact ev_ireturn dt_Tu_turned_86 rfl ⟨hWw74, _, rfl, ⟨hFw74, by omega⟩⟩
            · skip
              refine ev_aload_n dt_Tu_turned_65 rfl rfl ?_
              refine tm_getR dt_Tu_turned_66 hWw74 tut0 fl_Tu_78 rfl ?_
              refine tm_getR dt_Tu_turned_69 hWw74 gut0 fl_Tu_319 rfl ?_
              refine ev_iconst dt_Tu_turned_72 ?_
              refine tm_iaload dt_Tu_turned_73 hWw74 gut1 (by omega) (by omega) (by omega) (fun v80 kv80 lv80 uv80 => ?_)
              refine ev_goto (tgt := 86) dt_Tu_turned_74 (by decide) ?_
              exact ev_ireturn dt_Tu_turned_86 rfl ⟨hWw74, _, rfl, ⟨hFw74, by omega⟩⟩
          · skip
            refine ev_sipush dt_Tu_turned_56 rfl ?_
            exact ev_ireturn dt_Tu_turned_59 rfl ⟨hWw74, _, rfl, ⟨hFw74, by omega⟩⟩
        · skip
          refine ev_aload_n dt_Tu_turned_38 rfl rfl ?_
          refine tm_getR dt_Tu_turned_39 hWw74 tut0 fl_Tu_78 rfl ?_
          refine tm_getI (K := 2) dt_Tu_turned_42 hWw74 gut0 fl_Tu_316 rfl rfl (fun v81 kv81 lv81 uv81 => ?_)
          exact ev_ireturn dt_Tu_turned_45 rfl ⟨hWw74, _, rfl, ⟨hFw74, by omega⟩⟩
      · skip
        refine ev_sipush dt_Tu_turned_19 rfl ?_
        exact ev_ireturn dt_Tu_turned_22 rfl ⟨hW, _, rfl, ⟨hF0, by omega⟩⟩
theorem dt_Tu_look_0 : decode prog_1_method_34_code 0 = .ok (.aload_n 0, 1) := by decide +kernel
theorem dt_Tu_look_1 : decode prog_1_method_34_code 1 = .ok (.getfield 19, 3) := by decide +kernel
theorem dt_Tu_look_4 : decode prog_1_method_34_code 4 = .ok (.getfield 152, 3) := by decide +kernel
theorem dt_Tu_look_7 : decode prog_1_method_34_code 7 = .ok (.ifCond .eq 22, 3) := by decide +kernel
theorem dt_Tu_look_10 : decode prog_1_method_34_code 10 = .ok (.iload_n 1, 1) := by decide +kernel
theorem dt_Tu_look_11 : decode prog_1_method_34_code 11 = .ok (.ifCond .lt 18, 3) := by decide +kernel
theorem dt_Tu_look_14 : decode prog_1_method_34_code 14 = .ok (.iload_n 1, 1) := by decide +kernel
theorem dt_Tu_look_15 : decode prog_1_method_34_code 15 = .ok (.bipush 99, 2) := by decide +kernel
theorem dt_Tu_look_17 : decode prog_1_method_34_code 17 = .ok (.if_icmp .gt 12, 3) := by decide +kernel
theorem dt_Tu_look_20 : decode prog_1_method_34_code 20 = .ok (.iload_n 2, 1) := by decide +kernel
theorem dt_Tu_look_21 : decode prog_1_method_34_code 21 = .ok (.ifCond .lt 8, 3) := by decide +kernel
theorem dt_Tu_look_24 : decode prog_1_method_34_code 24 = .ok (.iload_n 2, 1) := by decide +kernel
theorem dt_Tu_look_25 : decode prog_1_method_34_code 25 = .ok (.iconst 2, 1) := by decide +kernel
theorem dt_Tu_look_26 : decode prog_1_method_34_code 26 = .ok (.if_icmp .le 5, 3) := by decide +kernel
theorem dt_Tu_look_29 : decode prog_1_method_34_code 29 = .ok (.iconst (-1), 1) := by decide +kernel
theorem dt_Tu_look_30 : decode prog_1_method_34_code 30 = .ok (.ireturn, 1) := by decide +kernel
theorem dt_Tu_look_31 : decode prog_1_method_34_code 31 = .ok (.aload_n 0, 1) := by decide +kernel
theorem dt_Tu_look_32 : decode prog_1_method_34_code 32 = .ok (.getfield 78, 3) := by decide +kernel
theorem dt_Tu_look_35 : decode prog_1_method_34_code 35 = .ok (.aload_n 0, 1) := by decide +kernel
theorem dt_Tu_look_36 : decode prog_1_method_34_code 36 = .ok (.getfield 19, 3) := by decide +kernel
theorem dt_Tu_look_39 : decode prog_1_method_34_code 39 = .ok (.invokevirtual 313, 3) := by decide +kernel
theorem dt_Tu_look_42 : decode prog_1_method_34_code 42 = .ok (.aload_n 0, 1) := by decide +kernel
theorem dt_Tu_look_43 : decode prog_1_method_34_code 43 = .ok (.getfield 78, 3) := by decide +kernel
theorem dt_Tu_look_46 : decode prog_1_method_34_code 46 = .ok (.getfield 316, 3) := by decide +kernel
theorem dt_Tu_look_49 : decode prog_1_method_34_code 49 = .ok (.ifCond .eq 13, 3) := by decide +kernel
theorem dt_Tu_look_52 : decode prog_1_method_34_code 52 = .ok (.aload_n 0, 1) := by decide +kernel
theorem dt_Tu_look_53 : decode prog_1_method_34_code 53 = .ok (.getfield 19, 3) := by decide +kernel
theorem dt_Tu_look_56 : decode prog_1_method_34_code 56 = .ok (.getfield 102, 3) := by decide +kernel
theorem dt_Tu_look_59 : decode prog_1_method_34_code 59 = .ok (.ifCond .ne 6, 3) := by decide +kernel
theorem dt_Tu_look_62 : decode prog_1_method_34_code 62 = .ok (.bipush (-2), 2) := by decide +kernel
theorem dt_Tu_look_64 : decode prog_1_method_34_code 64 = .ok (.ireturn, 1) := by decide +kernel
theorem dt_Tu_look_65 : decode prog_1_method_34_code 65 = .ok (.aload_n 0, 1) := by decide +kernel
theorem dt_Tu_look_66 : decode prog_1_method_34_code 66 = .ok (.getfield 78, 3) := by decide +kernel
theorem dt_Tu_look_69 : decode prog_1_method_34_code 69 = .ok (.aload_n 0, 1) := by decide +kernel
theorem dt_Tu_look_70 : decode prog_1_method_34_code 70 = .ok (.getfield 19, 3) := by decide +kernel
theorem dt_Tu_look_73 : decode prog_1_method_34_code 73 = .ok (.iload_n 1, 1) := by decide +kernel
theorem dt_Tu_look_74 : decode prog_1_method_34_code 74 = .ok (.invokevirtual 324, 3) := by decide +kernel
theorem dt_Tu_look_77 : decode prog_1_method_34_code 77 = .ok (.iload_n 2, 1) := by decide +kernel
theorem dt_Tu_look_78 : decode prog_1_method_34_code 78 = .ok (.iconst 2, 1) := by decide +kernel
theorem dt_Tu_look_79 : decode prog_1_method_34_code 79 = .ok (.if_icmp .ne 11, 3) := by decide +kernel
theorem dt_Tu_look_82 : decode prog_1_method_34_code 82 = .ok (.aload_n 0, 1) := by decide +kernel
theorem dt_Tu_look_83 : decode prog_1_method_34_code 83 = .ok (.getfield 78, 3) := by decide +kernel
theorem dt_Tu_look_86 : decode prog_1_method_34_code 86 = .ok (.getfield 328, 3) := by decide +kernel
theorem dt_Tu_look_89 : decode prog_1_method_34_code 89 = .ok (.ireturn, 1) := by decide +kernel
theorem dt_Tu_look_90 : decode prog_1_method_34_code 90 = .ok (.iload_n 2, 1) := by decide +kernel
theorem dt_Tu_look_91 : decode prog_1_method_34_code 91 = .ok (.ifCond .ne 15, 3) := by decide +kernel
theorem dt_Tu_look_94 : decode prog_1_method_34_code 94 = .ok (.aload_n 0, 1) := by decide +kernel
theorem dt_Tu_look_95 : decode prog_1_method_34_code 95 = .ok (.getfield 78, 3) := by decide +kernel
theorem dt_Tu_look_98 : decode prog_1_method_34_code 98 = .ok (.getfield 331, 3) := by decide +kernel
theorem dt_Tu_look_101 : decode prog_1_method_34_code 101 = .ok (.iconst 5, 1) := by decide +kernel
theorem dt_Tu_look_102 : decode prog_1_method_34_code 102 = .ok (.idiv, 1) := by decide +kernel
theorem dt_Tu_look_103 : decode prog_1_method_34_code 103 = .ok (.goto 12, 3) := by decide +kernel
theorem dt_Tu_look_106 : decode prog_1_method_34_code 106 = .ok (.aload_n 0, 1) := by decide +kernel
theorem dt_Tu_look_107 : decode prog_1_method_34_code 107 = .ok (.getfield 78, 3) := by decide +kernel
theorem dt_Tu_look_110 : decode prog_1_method_34_code 110 = .ok (.getfield 331, 3) := by decide +kernel
theorem dt_Tu_look_113 : decode prog_1_method_34_code 113 = .ok (.iconst 5, 1) := by decide +kernel
theorem dt_Tu_look_114 : decode prog_1_method_34_code 114 = .ok (.irem, 1) := by decide +kernel
theorem dt_Tu_look_115 : decode prog_1_method_34_code 115 = .ok (.ireturn, 1) := by decide +kernel
set_option maxHeartbeats 4000000 in
set_option maxRecDepth 10000 in
theorem tm_Tu_look {N : Nat} {T : Nat → tm_S} {w : ab_W} {tu tp im md rl ac rr ma pl tr gu a b : Nat} (hW : tm_W N T w) (h_all : is_All T tu tp im md rl ac rr ma pl tr gu a b) (kn : tm_g w tu 1 = some (ab_R a)) (kt : tm_g w tu 2 = some (ab_R b)) (y1 : Int) (l_y1 : (-2147483648) ≤ y1) (u_y1 : y1 ≤ 2147483647) (y2 : Int) (l_y2 : (-2147483648) ≤ y2) (u_y2 : y2 ≤ 2147483647) : ab_Mt g_G g_rs mt_Tu_look 4 0 0 [ab_R tu, ab_I y1, ab_I y2] w (tm_Qi N T (fun v w2 => (∀ (p : Nat) (j : Int), ¬ (p = (gu + 1) ∨ p = (gu + 2) ∨ (p = gu ∧ (j = 2 ∨ j = 4 ∨ j = 5)) ∨ p = (gu + 3)) → tm_g w2 p j = tm_g w p j) ∧ ((-2147483648) ≤ v ∧ v ≤ 2147483647))) := by
  obtain ⟨tut0, imt0, mdt0, rlt0, h_tp, h_ac, h_rr, h_ma, hzz⟩ := id h_all
  obtain ⟨h_pl, h_tr, h_gu, h_a, h_b, e_all, e_ab⟩ := hzz
  obtain ⟨tpt0, tpt1⟩ := id h_tp
  obtain ⟨act0, act1, act2, act3⟩ := id h_ac
  obtain ⟨rrt0, rrt1⟩ := id h_rr
  obtain ⟨mat0, mat1⟩ := id h_ma
  obtain ⟨plt0, plt1, plt2, plt3, plt4⟩ := id h_pl
  obtain ⟨trt0, trt1, trt2, trt3, trt4, trt5⟩ := id h_tr
  obtain ⟨gut0, gut1, gut2, gut3⟩ := id h_gu
  obtain ⟨at0, at1, at2, at3, at4, at5, at6, at7, at8, at9, at10, at11, at12⟩ := id h_a
  have ad := is_Ri.d h_a
  obtain ⟨bt0, bt1, bt2, bt3, bt4, bt5, bt6, bt7, bt8, bt9, bt10, bt11, bt12⟩ := id h_b
  have bd := is_Ri.d h_b
  have hF0 : ∀ (p : Nat) (j : Int), ¬ (p = (gu + 1) ∨ p = (gu + 2) ∨ (p = gu ∧ (j = 2 ∨ j = 4 ∨ j = 5)) ∨ p = (gu + 3)) → tm_g w p j = tm_g w p j := fun _ _ _ => rfl
  refine ab_Mt.of rfl (Nat.le_of_ble_eq_true rfl) ?_
  show ab_Ev g_G g_rs mt_Tu_look _ _ _ 0 [some (ab_R tu), some (ab_I y1), some (ab_I y2)] [] _ _
  refine ev_aload_n dt_Tu_look_0 rfl rfl ?_
  refine tm_getK (K := 1) dt_Tu_look_1 hW tut0 fl_Tu_19 rfl kn ?_
  refine tm_getI (K := 0) dt_Tu_look_4 hW at0 fl_Tu_152 rfl rfl (fun v82 kv82 lv82 uv82 => ?_)
  refine ev_if_eq (tgt := 29) dt_Tu_look_7 (by decide) (by omega) (fun h83 => ?_) (fun h83 => ?_)
  · skip
    refine ev_iconst dt_Tu_look_29 ?_
    exact ev_ireturn dt_Tu_look_30 rfl ⟨hW, _, rfl, ⟨hF0, by omega⟩⟩
  · skip
    refine ev_iload_n dt_Tu_look_10 rfl rfl ?_
    refine ev_if_lt (tgt := 29) dt_Tu_look_11 (by decide) (by omega) (fun h84 => ?_) (fun h84 => ?_)
    · skip
      refine ev_iconst dt_Tu_look_29 ?_
      exact ev_ireturn dt_Tu_look_30 rfl ⟨hW, _, rfl, ⟨hF0, by omega⟩⟩
    · skip
      refine ev_iload_n dt_Tu_look_14 rfl rfl ?_
      refine ev_bipush dt_Tu_look_15 rfl ?_
      refine ev_icmp_gt (tgt := 29) dt_Tu_look_17 (by decide) (by omega) (by omega) (fun h85 => ?_) (fun h85 => ?_)
      · skip
        refine ev_iconst dt_Tu_look_29 ?_
        exact ev_ireturn dt_Tu_look_30 rfl ⟨hW, _, rfl, ⟨hF0, by omega⟩⟩
      · skip
        refine ev_iload_n dt_Tu_look_20 rfl rfl ?_
        refine ev_if_lt (tgt := 29) dt_Tu_look_21 (by decide) (by omega) (fun h86 => ?_) (fun h86 => ?_)
        · skip
          refine ev_iconst dt_Tu_look_29 ?_
          exact ev_ireturn dt_Tu_look_30 rfl ⟨hW, _, rfl, ⟨hF0, by omega⟩⟩
        · skip
          refine ev_iload_n dt_Tu_look_24 rfl rfl ?_
          refine ev_iconst dt_Tu_look_25 ?_
          refine ev_icmp_le (tgt := 31) dt_Tu_look_26 (by decide) (by omega) (by omega) (fun h87 => ?_) (fun h87 => ?_)
          · skip
            refine ev_aload_n dt_Tu_look_31 rfl rfl ?_
            refine tm_getR dt_Tu_look_32 hW tut0 fl_Tu_78 rfl ?_
            refine ev_aload_n dt_Tu_look_35 rfl rfl ?_
            refine tm_getK (K := 1) dt_Tu_look_36 hW tut0 fl_Tu_19 rfl kn ?_
            refine tm_vv dt_Tu_look_39 (tm_Gu_findTurns hW h_gu h_a (by omega)) kb_Tu_313 ⟨im_Gu_findTurns, se_Gu_findTurns⟩ rfl hW gut0 rfl (Nat.le_of_ble_eq_true rfl) (by decide) (fun w88 hWw88 hRw88 => ?_)
            have hfw88 := hRw88
            have hFw88 : ∀ (p : Nat) (j : Int), ¬ (p = (gu + 1) ∨ p = (gu + 2) ∨ (p = gu ∧ (j = 2 ∨ j = 4 ∨ j = 5)) ∨ p = (gu + 3)) → tm_g w88 p j = tm_g w p j := fun p j h => (hfw88 p j (by omega)).trans (hF0 p j h)
            refine ev_aload_n dt_Tu_look_42 rfl rfl ?_
            refine tm_getR dt_Tu_look_43 hWw88 tut0 fl_Tu_78 rfl ?_
            refine tm_getI (K := 2) dt_Tu_look_46 hWw88 gut0 fl_Tu_316 rfl rfl (fun v89 kv89 lv89 uv89 => ?_)
            refine ev_if_eq (tgt := 62) dt_Tu_look_49 (by decide) (by omega) (fun h90 => ?_) (fun h90 => ?_)
            · skip
              refine ev_bipush dt_Tu_look_62 rfl ?_
              exact ev_ireturn dt_Tu_look_64 rfl ⟨hWw88, _, rfl, ⟨hFw88, by omega⟩⟩
            · skip
              refine ev_aload_n dt_Tu_look_52 rfl rfl ?_
              refine tm_getK (K := 1) dt_Tu_look_53 hWw88 tut0 fl_Tu_19 rfl ((hFw88 tu 1 (by omega)).trans kn) ?_
              refine tm_getI (K := 7) dt_Tu_look_56 hWw88 at0 fl_Tu_102 rfl rfl (fun v91 kv91 lv91 uv91 => ?_)
              have z92 := (hFw88 a 7 (by omega)).symm.trans kv91
              refine ev_if_ne (tgt := 65) dt_Tu_look_59 (by decide) (by omega) (fun h93 => ?_) (fun h93 => ?_)
              · skip
                refine ev_aload_n dt_Tu_look_65 rfl rfl ?_
                refine tm_getR dt_Tu_look_66 hWw88 tut0 fl_Tu_78 rfl ?_
                refine ev_aload_n dt_Tu_look_69 rfl rfl ?_
                refine tm_getK (K := 1) dt_Tu_look_70 hWw88 tut0 fl_Tu_19 rfl ((hFw88 tu 1 (by omega)).trans kn) ?_
                refine ev_iload_n dt_Tu_look_73 rfl rfl ?_
                refine tm_vv dt_Tu_look_74 (tm_Gu_findLook hWw88 h_gu h_a (by omega) (y1) (by omega) (by omega)) kb_Tu_324 ⟨im_Gu_findLook, se_Gu_findLook⟩ rfl hWw88 gut0 rfl (Nat.le_of_ble_eq_true rfl) (by decide) (fun w94 hWw94 hRw94 => ?_)
                have hfw94 := hRw94
                have hFw94 : ∀ (p : Nat) (j : Int), ¬ (p = (gu + 1) ∨ p = (gu + 2) ∨ (p = gu ∧ (j = 2 ∨ j = 4 ∨ j = 5)) ∨ p = (gu + 3)) → tm_g w94 p j = tm_g w p j := fun p j h => (hfw94 p j (by omega)).trans (hFw88 p j h)
                have z95 := (hfw94 gu 2 (by omega)).trans kv89
                refine ev_iload_n dt_Tu_look_77 rfl rfl ?_
                refine ev_iconst dt_Tu_look_78 ?_
                refine ev_icmp_ne (tgt := 90) dt_Tu_look_79 (by decide) (by omega) (by omega) (fun h96 => ?_) (fun h96 => ?_)
                · skip
                  refine ev_iload_n dt_Tu_look_90 rfl rfl ?_
                  refine ev_if_ne (tgt := 106) dt_Tu_look_91 (by decide) (by omega) (fun h97 => ?_) (fun h97 => ?_)
                  · skip
                    refine ev_aload_n dt_Tu_look_106 rfl rfl ?_
                    refine tm_getR dt_Tu_look_107 hWw94 tut0 fl_Tu_78 rfl ?_
                    refine tm_getI (K := 4) dt_Tu_look_110 hWw94 gut0 fl_Tu_331 rfl rfl (fun v98 kv98 lv98 uv98 => ?_)
                    refine ev_iconst dt_Tu_look_113 ?_
                    refine tm_irem dt_Tu_look_114 (by omega) (by omega) (by omega) (fun v99 x1 x2 x3 x4 => ?_)
                    have hv99 : (-4) ≤ v99 ∧ v99 ≤ 4 := by omega
                    clear x1 x2 x3 x4
                    exact ev_ireturn dt_Tu_look_115 rfl ⟨hWw94, _, rfl, ⟨hFw94, by omega⟩⟩
                  · skip
                    refine ev_aload_n dt_Tu_look_94 rfl rfl ?_
                    refine tm_getR dt_Tu_look_95 hWw94 tut0 fl_Tu_78 rfl ?_
                    refine tm_getI (K := 4) dt_Tu_look_98 hWw94 gut0 fl_Tu_331 rfl rfl (fun v100 kv100 lv100 uv100 => ?_)
                    refine ev_iconst dt_Tu_look_101 ?_
                    refine tm_idiv dt_Tu_look_102 (by omega) (by omega) (by omega) (fun v101 x1 x2 => ?_)
                    have hv101 : (-2147483648) ≤ v101 ∧ v101 ≤ 2147483647 := by omega
                    clear x1 x2
                    refine ev_goto (tgt := 115) dt_Tu_look_103 (by decide) ?_
                    exact ev_ireturn dt_Tu_look_115 rfl ⟨hWw94, _, rfl, ⟨hFw94, by omega⟩⟩
                · skip
                  refine ev_aload_n dt_Tu_look_82 rfl rfl ?_
                  refine tm_getR dt_Tu_look_83 hWw94 tut0 fl_Tu_78 rfl ?_
                  refine tm_getI (K := 5) dt_Tu_look_86 hWw94 gut0 fl_Tu_328 rfl rfl (fun v102 kv102 lv102 uv102 => ?_)
                  exact ev_ireturn dt_Tu_look_89 rfl ⟨hWw94, _, rfl, ⟨hFw94, by omega⟩⟩
              · skip
                refine ev_bipush dt_Tu_look_62 rfl ?_
                exact ev_ireturn dt_Tu_look_64 rfl ⟨hWw88, _, rfl, ⟨hFw88, by omega⟩⟩
          · skip
            refine ev_iconst dt_Tu_look_29 ?_
            exact ev_ireturn dt_Tu_look_30 rfl ⟨hW, _, rfl, ⟨hF0, by omega⟩⟩
theorem dt_Tu_days_0 : decode prog_1_method_35_code 0 = .ok (.aload_n 0, 1) := by decide +kernel
theorem dt_Tu_days_1 : decode prog_1_method_35_code 1 = .ok (.getfield 19, 3) := by decide +kernel
theorem dt_Tu_days_4 : decode prog_1_method_35_code 4 = .ok (.getfield 152, 3) := by decide +kernel
theorem dt_Tu_days_7 : decode prog_1_method_35_code 7 = .ok (.ifCond .eq 46, 3) := by decide +kernel
theorem dt_Tu_days_10 : decode prog_1_method_35_code 10 = .ok (.iload_n 1, 1) := by decide +kernel
theorem dt_Tu_days_11 : decode prog_1_method_35_code 11 = .ok (.iconst 1, 1) := by decide +kernel
theorem dt_Tu_days_12 : decode prog_1_method_35_code 12 = .ok (.if_icmp .lt 41, 3) := by decide +kernel
theorem dt_Tu_days_15 : decode prog_1_method_35_code 15 = .ok (.iload_n 1, 1) := by decide +kernel
theorem dt_Tu_days_16 : decode prog_1_method_35_code 16 = .ok (.bipush 10, 2) := by decide +kernel
theorem dt_Tu_days_18 : decode prog_1_method_35_code 18 = .ok (.if_icmp .gt 35, 3) := by decide +kernel
theorem dt_Tu_days_21 : decode prog_1_method_35_code 21 = .ok (.iload_n 2, 1) := by decide +kernel
theorem dt_Tu_days_22 : decode prog_1_method_35_code 22 = .ok (.iconst 1, 1) := by decide +kernel
theorem dt_Tu_days_23 : decode prog_1_method_35_code 23 = .ok (.if_icmp .lt 30, 3) := by decide +kernel
theorem dt_Tu_days_26 : decode prog_1_method_35_code 26 = .ok (.iload_n 2, 1) := by decide +kernel
theorem dt_Tu_days_27 : decode prog_1_method_35_code 27 = .ok (.bipush 96, 2) := by decide +kernel
theorem dt_Tu_days_29 : decode prog_1_method_35_code 29 = .ok (.if_icmp .gt 24, 3) := by decide +kernel
theorem dt_Tu_days_32 : decode prog_1_method_35_code 32 = .ok (.iload_n 3, 1) := by decide +kernel
theorem dt_Tu_days_33 : decode prog_1_method_35_code 33 = .ok (.ifCond .lt 20, 3) := by decide +kernel
theorem dt_Tu_days_36 : decode prog_1_method_35_code 36 = .ok (.iload_n 3, 1) := by decide +kernel
theorem dt_Tu_days_37 : decode prog_1_method_35_code 37 = .ok (.bipush 100, 2) := by decide +kernel
theorem dt_Tu_days_39 : decode prog_1_method_35_code 39 = .ok (.if_icmp .gt 14, 3) := by decide +kernel
theorem dt_Tu_days_42 : decode prog_1_method_35_code 42 = .ok (.iload 4, 2) := by decide +kernel
theorem dt_Tu_days_44 : decode prog_1_method_35_code 44 = .ok (.ifCond .lt 9, 3) := by decide +kernel
theorem dt_Tu_days_47 : decode prog_1_method_35_code 47 = .ok (.iload 4, 2) := by decide +kernel
theorem dt_Tu_days_49 : decode prog_1_method_35_code 49 = .ok (.iconst 1, 1) := by decide +kernel
theorem dt_Tu_days_50 : decode prog_1_method_35_code 50 = .ok (.if_icmp .le 7, 3) := by decide +kernel
theorem dt_Tu_days_53 : decode prog_1_method_35_code 53 = .ok (.ldc_w 334, 3) := by decide +kernel
theorem dt_Tu_days_56 : decode prog_1_method_35_code 56 = .ok (.ireturn, 1) := by decide +kernel
theorem dt_Tu_days_57 : decode prog_1_method_35_code 57 = .ok (.aload_n 0, 1) := by decide +kernel
theorem dt_Tu_days_58 : decode prog_1_method_35_code 58 = .ok (.getfield 19, 3) := by decide +kernel
theorem dt_Tu_days_61 : decode prog_1_method_35_code 61 = .ok (.getfield 96, 3) := by decide +kernel
theorem dt_Tu_days_64 : decode prog_1_method_35_code 64 = .ok (.istore 5, 2) := by decide +kernel
theorem dt_Tu_days_66 : decode prog_1_method_35_code 66 = .ok (.iconst 0, 1) := by decide +kernel
theorem dt_Tu_days_67 : decode prog_1_method_35_code 67 = .ok (.istore 6, 2) := by decide +kernel
theorem dt_Tu_days_69 : decode prog_1_method_35_code 69 = .ok (.iconst 0, 1) := by decide +kernel
theorem dt_Tu_days_70 : decode prog_1_method_35_code 70 = .ok (.istore 7, 2) := by decide +kernel
theorem dt_Tu_days_72 : decode prog_1_method_35_code 72 = .ok (.iload 7, 2) := by decide +kernel
theorem dt_Tu_days_74 : decode prog_1_method_35_code 74 = .ok (.iload_n 1, 1) := by decide +kernel
theorem dt_Tu_days_75 : decode prog_1_method_35_code 75 = .ok (.if_icmp .ge 154, 3) := by decide +kernel
theorem dt_Tu_days_78 : decode prog_1_method_35_code 78 = .ok (.aload_n 0, 1) := by decide +kernel
theorem dt_Tu_days_79 : decode prog_1_method_35_code 79 = .ok (.getfield 19, 3) := by decide +kernel
theorem dt_Tu_days_82 : decode prog_1_method_35_code 82 = .ok (.getfield 177, 3) := by decide +kernel
theorem dt_Tu_days_85 : decode prog_1_method_35_code 85 = .ok (.istore 8, 2) := by decide +kernel
theorem dt_Tu_days_87 : decode prog_1_method_35_code 87 = .ok (.aload_n 0, 1) := by decide +kernel
theorem dt_Tu_days_88 : decode prog_1_method_35_code 88 = .ok (.getfield 19, 3) := by decide +kernel
theorem dt_Tu_days_91 : decode prog_1_method_35_code 91 = .ok (.getfield 186, 3) := by decide +kernel
theorem dt_Tu_days_94 : decode prog_1_method_35_code 94 = .ok (.istore 9, 2) := by decide +kernel
theorem dt_Tu_days_96 : decode prog_1_method_35_code 96 = .ok (.iconst 0, 1) := by decide +kernel
theorem dt_Tu_days_97 : decode prog_1_method_35_code 97 = .ok (.istore 10, 2) := by decide +kernel
theorem dt_Tu_days_99 : decode prog_1_method_35_code 99 = .ok (.iload 10, 2) := by decide +kernel
theorem dt_Tu_days_101 : decode prog_1_method_35_code 101 = .ok (.iload_n 2, 1) := by decide +kernel
theorem dt_Tu_days_102 : decode prog_1_method_35_code 102 = .ok (.if_icmp .ge 121, 3) := by decide +kernel
theorem dt_Tu_days_105 : decode prog_1_method_35_code 105 = .ok (.iload 5, 2) := by decide +kernel
theorem dt_Tu_days_107 : decode prog_1_method_35_code 107 = .ok (.invokestatic 335, 3) := by decide +kernel
theorem dt_Tu_days_110 : decode prog_1_method_35_code 110 = .ok (.istore 5, 2) := by decide +kernel
theorem dt_Tu_days_112 : decode prog_1_method_35_code 112 = .ok (.iload 9, 2) := by decide +kernel
theorem dt_Tu_days_114 : decode prog_1_method_35_code 114 = .ok (.ifCond .ne 16, 3) := by decide +kernel
theorem dt_Tu_days_117 : decode prog_1_method_35_code 117 = .ok (.iload 5, 2) := by decide +kernel
theorem dt_Tu_days_119 : decode prog_1_method_35_code 119 = .ok (.ldc_w 338, 3) := by decide +kernel
theorem dt_Tu_days_122 : decode prog_1_method_35_code 122 = .ok (.idiv, 1) := by decide +kernel
theorem dt_Tu_days_123 : decode prog_1_method_35_code 123 = .ok (.bipush 100, 2) := by decide +kernel
theorem dt_Tu_days_125 : decode prog_1_method_35_code 125 = .ok (.irem, 1) := by decide +kernel
theorem dt_Tu_days_126 : decode prog_1_method_35_code 126 = .ok (.iload_n 3, 1) := by decide +kernel
theorem dt_Tu_days_127 : decode prog_1_method_35_code 127 = .ok (.if_icmp .ge 7, 3) := by decide +kernel
theorem dt_Tu_days_130 : decode prog_1_method_35_code 130 = .ok (.iconst 1, 1) := by decide +kernel
theorem dt_Tu_days_131 : decode prog_1_method_35_code 131 = .ok (.goto 4, 3) := by decide +kernel
theorem dt_Tu_days_134 : decode prog_1_method_35_code 134 = .ok (.iconst 0, 1) := by decide +kernel
theorem dt_Tu_days_135 : decode prog_1_method_35_code 135 = .ok (.istore 9, 2) := by decide +kernel
theorem dt_Tu_days_137 : decode prog_1_method_35_code 137 = .ok (.iload 9, 2) := by decide +kernel
theorem dt_Tu_days_139 : decode prog_1_method_35_code 139 = .ok (.ifCond .eq 7, 3) := by decide +kernel
theorem dt_Tu_days_142 : decode prog_1_method_35_code 142 = .ok (.iconst 0, 1) := by decide +kernel
theorem dt_Tu_days_143 : decode prog_1_method_35_code 143 = .ok (.goto 20, 3) := by decide +kernel
theorem dt_Tu_days_146 : decode prog_1_method_35_code 146 = .ok (.aload_n 0, 1) := by decide +kernel
theorem dt_Tu_days_147 : decode prog_1_method_35_code 147 = .ok (.getfield 19, 3) := by decide +kernel
theorem dt_Tu_days_150 : decode prog_1_method_35_code 150 = .ok (.getfield 165, 3) := by decide +kernel
theorem dt_Tu_days_153 : decode prog_1_method_35_code 153 = .ok (.aload_n 0, 1) := by decide +kernel
theorem dt_Tu_days_154 : decode prog_1_method_35_code 154 = .ok (.getfield 19, 3) := by decide +kernel
theorem dt_Tu_days_157 : decode prog_1_method_35_code 157 = .ok (.iload 10, 2) := by decide +kernel
theorem dt_Tu_days_159 : decode prog_1_method_35_code 159 = .ok (.invokevirtual 247, 3) := by decide +kernel
theorem dt_Tu_days_162 : decode prog_1_method_35_code 162 = .ok (.iaload, 1) := by decide +kernel
theorem dt_Tu_days_163 : decode prog_1_method_35_code 163 = .ok (.istore 11, 2) := by decide +kernel
theorem dt_Tu_days_165 : decode prog_1_method_35_code 165 = .ok (.iconst 0, 1) := by decide +kernel
theorem dt_Tu_days_166 : decode prog_1_method_35_code 166 = .ok (.istore 9, 2) := by decide +kernel
theorem dt_Tu_days_168 : decode prog_1_method_35_code 168 = .ok (.iload 8, 2) := by decide +kernel
theorem dt_Tu_days_170 : decode prog_1_method_35_code 170 = .ok (.iload 11, 2) := by decide +kernel
theorem dt_Tu_days_172 : decode prog_1_method_35_code 172 = .ok (.iadd, 1) := by decide +kernel
theorem dt_Tu_days_173 : decode prog_1_method_35_code 173 = .ok (.invokestatic 339, 3) := by decide +kernel
theorem dt_Tu_days_176 : decode prog_1_method_35_code 176 = .ok (.istore 8, 2) := by decide +kernel
theorem dt_Tu_days_178 : decode prog_1_method_35_code 178 = .ok (.iload 6, 2) := by decide +kernel
theorem dt_Tu_days_180 : decode prog_1_method_35_code 180 = .ok (.iload 4, 2) := by decide +kernel
theorem dt_Tu_days_182 : decode prog_1_method_35_code 182 = .ok (.iconst 1, 1) := by decide +kernel
theorem dt_Tu_days_183 : decode prog_1_method_35_code 183 = .ok (.if_icmp .ne 11, 3) := by decide +kernel
theorem dt_Tu_days_186 : decode prog_1_method_35_code 186 = .ok (.iload 11, 2) := by decide +kernel
theorem dt_Tu_days_188 : decode prog_1_method_35_code 188 = .ok (.invokestatic 259, 3) := by decide +kernel
theorem dt_Tu_days_191 : decode prog_1_method_35_code 191 = .ok (.goto 23, 3) := by decide +kernel
theorem dt_Tu_days_194 : decode prog_1_method_35_code 194 = .ok (.aload_n 0, 1) := by decide +kernel
theorem dt_Tu_days_195 : decode prog_1_method_35_code 195 = .ok (.getfield 19, 3) := by decide +kernel
theorem dt_Tu_days_198 : decode prog_1_method_35_code 198 = .ok (.iload 8, 2) := by decide +kernel
theorem dt_Tu_days_200 : decode prog_1_method_35_code 200 = .ok (.aload_n 0, 1) := by decide +kernel
theorem dt_Tu_days_201 : decode prog_1_method_35_code 201 = .ok (.getfield 19, 3) := by decide +kernel
theorem dt_Tu_days_204 : decode prog_1_method_35_code 204 = .ok (.iload 10, 2) := by decide +kernel
theorem dt_Tu_days_206 : decode prog_1_method_35_code 206 = .ok (.iconst 1, 1) := by decide +kernel
theorem dt_Tu_days_207 : decode prog_1_method_35_code 207 = .ok (.iadd, 1) := by decide +kernel
theorem dt_Tu_days_208 : decode prog_1_method_35_code 208 = .ok (.invokevirtual 247, 3) := by decide +kernel
theorem dt_Tu_days_211 : decode prog_1_method_35_code 211 = .ok (.invokevirtual 183, 3) := by decide +kernel
theorem dt_Tu_days_214 : decode prog_1_method_35_code 214 = .ok (.iadd, 1) := by decide +kernel
theorem dt_Tu_days_215 : decode prog_1_method_35_code 215 = .ok (.istore 6, 2) := by decide +kernel
theorem dt_Tu_days_217 : decode prog_1_method_35_code 217 = .ok (.iinc 10 1, 3) := by decide +kernel
theorem dt_Tu_days_220 : decode prog_1_method_35_code 220 = .ok (.goto (-121), 3) := by decide +kernel
theorem dt_Tu_days_223 : decode prog_1_method_35_code 223 = .ok (.iinc 7 1, 3) := by decide +kernel
theorem dt_Tu_days_226 : decode prog_1_method_35_code 226 = .ok (.goto (-154), 3) := by decide +kernel
theorem dt_Tu_days_229 : decode prog_1_method_35_code 229 = .ok (.iload 6, 2) := by decide +kernel
theorem dt_Tu_days_231 : decode prog_1_method_35_code 231 = .ok (.ireturn, 1) := by decide +kernel
set_option maxHeartbeats 4000000 in
set_option maxRecDepth 10000 in
theorem tm_Tu_days {N : Nat} {T : Nat → tm_S} {w : ab_W} {tu tp im md rl ac rr ma pl tr gu a b : Nat} (hW : tm_W N T w) (h_all : is_All T tu tp im md rl ac rr ma pl tr gu a b) (kn : tm_g w tu 1 = some (ab_R a)) (kt : tm_g w tu 2 = some (ab_R b)) (y1 : Int) (l_y1 : (-2147483648) ≤ y1) (u_y1 : y1 ≤ 2147483647) (y2 : Int) (l_y2 : (-2147483648) ≤ y2) (u_y2 : y2 ≤ 2147483647) (y3 : Int) (l_y3 : (-2147483648) ≤ y3) (u_y3 : y3 ≤ 2147483647) (y4 : Int) (l_y4 : (-2147483648) ≤ y4) (u_y4 : y4 ≤ 2147483647) : ab_Mt g_G g_rs mt_Tu_days 3 0 0 [ab_R tu, ab_I y1, ab_I y2, ab_I y3, ab_I y4] w (tm_P w (fun v => (-2147483648) ≤ v ∧ v ≤ 2147483647)) := by
  obtain ⟨tut0, imt0, mdt0, rlt0, h_tp, h_ac, h_rr, h_ma, hzz⟩ := id h_all
  obtain ⟨h_pl, h_tr, h_gu, h_a, h_b, e_all, e_ab⟩ := hzz
  obtain ⟨tpt0, tpt1⟩ := id h_tp
  obtain ⟨act0, act1, act2, act3⟩ := id h_ac
  obtain ⟨rrt0, rrt1⟩ := id h_rr
  obtain ⟨mat0, mat1⟩ := id h_ma
  obtain ⟨plt0, plt1, plt2, plt3, plt4⟩ := id h_pl
  obtain ⟨trt0, trt1, trt2, trt3, trt4, trt5⟩ := id h_tr
  obtain ⟨gut0, gut1, gut2, gut3⟩ := id h_gu
  obtain ⟨at0, at1, at2, at3, at4, at5, at6, at7, at8, at9, at10, at11, at12⟩ := id h_a
  have ad := is_Ri.d h_a
  obtain ⟨bt0, bt1, bt2, bt3, bt4, bt5, bt6, bt7, bt8, bt9, bt10, bt11, bt12⟩ := id h_b
  have bd := is_Ri.d h_b
  refine ab_Mt.of rfl (Nat.le_of_ble_eq_true rfl) ?_
  show ab_Ev g_G g_rs mt_Tu_days _ _ _ 0 [some (ab_R tu), some (ab_I y1), some (ab_I y2), some (ab_I y3), some (ab_I y4), none, none, none, none, none, none, none] [] _ _
  refine ev_aload_n dt_Tu_days_0 rfl rfl ?_
  refine tm_getK (K := 1) dt_Tu_days_1 hW tut0 fl_Tu_19 rfl kn ?_
  refine tm_getI (K := 0) dt_Tu_days_4 hW at0 fl_Tu_152 rfl rfl (fun v103 kv103 lv103 uv103 => ?_)
  refine ev_if_eq (tgt := 53) dt_Tu_days_7 (by decide) (by omega) (fun h104 => ?_) (fun h104 => ?_)
  · skip
    refine ev_ldcw (n := -10000000) dt_Tu_days_53 cn_Tu_334 rfl ?_
    exact ev_ireturn dt_Tu_days_56 rfl ⟨rfl, _, rfl, by omega⟩
  · skip
    refine ev_iload_n dt_Tu_days_10 rfl rfl ?_
    refine ev_iconst dt_Tu_days_11 ?_
    refine ev_icmp_lt (tgt := 53) dt_Tu_days_12 (by decide) (by omega) (by omega) (fun h105 => ?_) (fun h105 => ?_)
    · skip
      refine ev_ldcw (n := -10000000) dt_Tu_days_53 cn_Tu_334 rfl ?_
      exact ev_ireturn dt_Tu_days_56 rfl ⟨rfl, _, rfl, by omega⟩
    · skip
      refine ev_iload_n dt_Tu_days_15 rfl rfl ?_
      refine ev_bipush dt_Tu_days_16 rfl ?_
      refine ev_icmp_gt (tgt := 53) dt_Tu_days_18 (by decide) (by omega) (by omega) (fun h106 => ?_) (fun h106 => ?_)
      · skip
        refine ev_ldcw (n := -10000000) dt_Tu_days_53 cn_Tu_334 rfl ?_
        exact ev_ireturn dt_Tu_days_56 rfl ⟨rfl, _, rfl, by omega⟩
      · skip
        refine ev_iload_n dt_Tu_days_21 rfl rfl ?_
        refine ev_iconst dt_Tu_days_22 ?_
        refine ev_icmp_lt (tgt := 53) dt_Tu_days_23 (by decide) (by omega) (by omega) (fun h107 => ?_) (fun h107 => ?_)
        · skip
          refine ev_ldcw (n := -10000000) dt_Tu_days_53 cn_Tu_334 rfl ?_
          exact ev_ireturn dt_Tu_days_56 rfl ⟨rfl, _, rfl, by omega⟩
        · skip
          refine ev_iload_n dt_Tu_days_26 rfl rfl ?_
          refine ev_bipush dt_Tu_days_27 rfl ?_
          refine ev_icmp_gt (tgt := 53) dt_Tu_days_29 (by decide) (by omega) (by omega) (fun h108 => ?_) (fun h108 => ?_)
          · skip
            refine ev_ldcw (n := -10000000) dt_Tu_days_53 cn_Tu_334 rfl ?_
            exact ev_ireturn dt_Tu_days_56 rfl ⟨rfl, _, rfl, by omega⟩
          · skip
            refine ev_iload_n dt_Tu_days_32 rfl rfl ?_
            refine ev_if_lt (tgt := 53) dt_Tu_days_33 (by decide) (by omega) (fun h109 => ?_) (fun h109 => ?_)
            · skip
              refine ev_ldcw (n := -10000000) dt_Tu_days_53 cn_Tu_334 rfl ?_
              exact ev_ireturn dt_Tu_days_56 rfl ⟨rfl, _, rfl, by omega⟩
            · skip
              refine ev_iload_n dt_Tu_days_36 rfl rfl ?_
              refine ev_bipush dt_Tu_days_37 rfl ?_
              refine ev_icmp_gt (tgt := 53) dt_Tu_days_39 (by decide) (by omega) (by omega) (fun h110 => ?_) (fun h110 => ?_)
              · skip
                refine ev_ldcw (n := -10000000) dt_Tu_days_53 cn_Tu_334 rfl ?_
                exact ev_ireturn dt_Tu_days_56 rfl ⟨rfl, _, rfl, by omega⟩
              · skip
                refine ev_iload dt_Tu_days_42 rfl ?_
                refine ev_if_lt (tgt := 53) dt_Tu_days_44 (by decide) (by omega) (fun h111 => ?_) (fun h111 => ?_)
                · skip
                  refine ev_ldcw (n := -10000000) dt_Tu_days_53 cn_Tu_334 rfl ?_
                  exact ev_ireturn dt_Tu_days_56 rfl ⟨rfl, _, rfl, by omega⟩
                · skip
                  refine ev_iload dt_Tu_days_47 rfl ?_
                  refine ev_iconst dt_Tu_days_49 ?_
                  refine ev_icmp_le (tgt := 57) dt_Tu_days_50 (by decide) (by omega) (by omega) (fun h112 => ?_) (fun h112 => ?_)
                  · skip
                    refine ev_aload_n dt_Tu_days_57 rfl rfl ?_
                    refine tm_getK (K := 1) dt_Tu_days_58 hW tut0 fl_Tu_19 rfl kn ?_
                    refine tm_getI (K := 6) dt_Tu_days_61 hW at0 fl_Tu_96 rfl rfl (fun v113 kv113 lv113 uv113 => ?_)
                    refine ev_istore (l' := [_, _, _, _, _, _, _, _, _, _, _, _]) dt_Tu_days_64 (Nat.le_of_ble_eq_true rfl) rfl ?_
                    refine ev_iconst dt_Tu_days_66 ?_
                    refine ev_istore (l' := [_, _, _, _, _, _, _, _, _, _, _, _]) dt_Tu_days_67 (Nat.le_of_ble_eq_true rfl) rfl ?_
                    refine ev_iconst dt_Tu_days_69 ?_
                    refine ev_istore (l' := [_, _, _, _, _, _, _, _, _, _, _, _]) dt_Tu_days_70 (Nat.le_of_ble_eq_true rfl) rfl ?_
                    have L114 : ∀ (n : Nat) (i115 : Int) (i116 : Int) (i117 : Int) , (-2147483648) ≤ i115 → i115 ≤ 2147483647 → (-2147483648) ≤ i116 → i116 ≤ 2147483647 → 0 ≤ i117 → i117 ≤ 10 → 10 - i117 < (n : Int) → ab_Ev g_G g_rs mt_Tu_days 3 0 0 72 [some (ab_R tu), some (ab_I y1), some (ab_I y2), some (ab_I y3), some (ab_I y4), some (ab_I i115), some (ab_I i116), some (ab_I i117), none, none, none, none] [] w (tm_P w (fun v => (-2147483648) ≤ v ∧ v ≤ 2147483647)) := by
                      intro n
                      induction n with
                      | zero =>
                        intro i115 i116 i117  li115 ui115 li116 ui116 li117 ui117 mL114
                        exfalso
                        omega
                      | succ nL114 ihL114 =>
                        intro i115 i116 i117  li115 ui115 li116 ui116 li117 ui117 mL114
                        refine ev_iload dt_Tu_days_72 rfl ?_
                        refine ev_iload_n dt_Tu_days_74 rfl rfl ?_
                        refine ev_icmp_ge (tgt := 229) dt_Tu_days_75 (by decide) (by omega) (by omega) (fun h118 => ?_) (fun h118 => ?_)
                        · skip
                          refine ev_iload dt_Tu_days_229 rfl ?_
                          exact ev_ireturn dt_Tu_days_231 rfl ⟨rfl, _, rfl, by omega⟩
                        · skip
                          refine ev_aload_n dt_Tu_days_78 rfl rfl ?_
                          refine tm_getK (K := 1) dt_Tu_days_79 hW tut0 fl_Tu_19 rfl kn ?_
                          refine tm_getI (K := 1) dt_Tu_days_82 hW at0 fl_Tu_177 rfl rfl (fun v119 kv119 lv119 uv119 => ?_)
                          refine ev_istore (l' := [_, _, _, _, _, _, _, _, _, _, _, _]) dt_Tu_days_85 (Nat.le_of_ble_eq_true rfl) rfl ?_
                          refine ev_aload_n dt_Tu_days_87 rfl rfl ?_
                          refine tm_getK (K := 1) dt_Tu_days_88 hW tut0 fl_Tu_19 rfl kn ?_
                          refine tm_getI (K := 4) dt_Tu_days_91 hW at0 fl_Tu_186 rfl rfl (fun v120 kv120 lv120 uv120 => ?_)
                          refine ev_istore (l' := [_, _, _, _, _, _, _, _, _, _, _, _]) dt_Tu_days_94 (Nat.le_of_ble_eq_true rfl) rfl ?_
                          refine ev_iconst dt_Tu_days_96 ?_
                          refine ev_istore (l' := [_, _, _, _, _, _, _, _, _, _, _, _]) dt_Tu_days_97 (Nat.le_of_ble_eq_true rfl) rfl ?_
                          have L121 : ∀ (n : Nat) (i122 : Int) (i123 : Int) (i124 : Int) (i125 : Int) (i126 : Int) , (-2147483648) ≤ i122 → i122 ≤ 2147483647 → (-2147483648) ≤ i123 → i123 ≤ 2147483647 → 0 ≤ i124 → i124 ≤ 11 → 0 ≤ i125 → i125 ≤ 1 → 0 ≤ i126 → i126 ≤ 96 → 96 - i126 < (n : Int) → ab_Ev g_G g_rs mt_Tu_days 3 0 0 99 [some (ab_R tu), some (ab_I y1), some (ab_I y2), some (ab_I y3), some (ab_I y4), some (ab_I i122), some (ab_I i123), some (ab_I i117), some (ab_I i124), some (ab_I i125), some (ab_I i126), none] [] w (tm_P w (fun v => (-2147483648) ≤ v ∧ v ≤ 2147483647)) := by
                            intro n
                            induction n with
                            | zero =>
                              intro i122 i123 i124 i125 i126  li122 ui122 li123 ui123 li124 ui124 li125 ui125 li126 ui126 mL121
                              exfalso
                              omega
                            | succ nL121 ihL121 =>
                              intro i122 i123 i124 i125 i126  li122 ui122 li123 ui123 li124 ui124 li125 ui125 li126 ui126 mL121
                              refine ev_iload dt_Tu_days_99 rfl ?_
                              refine ev_iload_n dt_Tu_days_101 rfl rfl ?_
                              refine ev_icmp_ge (tgt := 223) dt_Tu_days_102 (by decide) (by omega) (by omega) (fun h127 => ?_) (fun h127 => ?_)
                              · skip
                                refine ev_iinc (l' := [_, _, _, _, _, _, _, _, _, _, _, _]) dt_Tu_days_223 rfl rfl ?_
                                refine ev_goto (tgt := 72) dt_Tu_days_226 (by decide) ?_
                                exact tm_loc (tm_le_s (tm_le_s (tm_le_s (tm_le_s (tm_le_s (tm_le_s (tm_le_s (tm_le_s (tm_le_n (tm_le_n (tm_le_n (tm_le_n tm_le_0)))))))))))) (ihL114 (i122) (i123) ((i117 + 1)) (by omega) (by omega) (by omega) (by omega) (by omega) (by omega) (by omega))
                              · skip
                                refine ev_iload dt_Tu_days_105 rfl ?_
                                refine tm_sp dt_Tu_days_107 (tm_Tu_nextDraw hW (i122) (by omega) (by omega)) kb_Tu_335 sc_Tu_nextDraw rfl (Nat.le_of_ble_eq_true rfl) (by decide) (fun v128 hv128 => ?_)
                                refine ev_istore (l' := [_, _, _, _, _, _, _, _, _, _, _, _]) dt_Tu_days_110 (Nat.le_of_ble_eq_true rfl) rfl ?_
                                refine ev_iload dt_Tu_days_112 rfl ?_
                                refine ev_if_ne (tgt := 130) dt_Tu_days_114 (by decide) (by omega) (fun h129 => ?_) (fun h129 => ?_)
                                · skip
                                  refine ev_iconst dt_Tu_days_130 ?_
                                  refine ev_goto (tgt := 135) dt_Tu_days_131 (by decide) ?_
                                  refine ev_istore (l' := [_, _, _, _, _, _, _, _, _, _, _, _]) dt_Tu_days_135 (Nat.le_of_ble_eq_true rfl) rfl ?_
                                  refine ev_iload dt_Tu_days_137 rfl ?_
                                  refine ev_if_eq (tgt := 146) dt_Tu_days_139 (by decide) (by omega) (fun h130 => ?_) (fun h130 => ?_)
                                  · skip
                                    exfalso
                                    omega
                                  · skip
                                    refine ev_iconst dt_Tu_days_142 ?_
                                    refine ev_goto (tgt := 163) dt_Tu_days_143 (by decide) ?_
                                    refine ev_istore (l' := [_, _, _, _, _, _, _, _, _, _, _, _]) dt_Tu_days_163 (Nat.le_of_ble_eq_true rfl) rfl ?_
                                    refine ev_iconst dt_Tu_days_165 ?_
                                    refine ev_istore (l' := [_, _, _, _, _, _, _, _, _, _, _, _]) dt_Tu_days_166 (Nat.le_of_ble_eq_true rfl) rfl ?_
                                    refine ev_iload dt_Tu_days_168 rfl ?_
                                    refine ev_iload dt_Tu_days_170 rfl ?_
                                    refine ev_iadd dt_Tu_days_172 ?_
                                    refine tm_sp dt_Tu_days_173 (tm_Tu_wrapped hW ((i124 + 0)) (by omega) (by omega)) kb_Tu_339 sc_Tu_wrapped rfl (Nat.le_of_ble_eq_true rfl) (by decide) (fun v131 hv131 => ?_)
                                    refine ev_istore (l' := [_, _, _, _, _, _, _, _, _, _, _, _]) dt_Tu_days_176 (Nat.le_of_ble_eq_true rfl) rfl ?_
                                    refine ev_iload dt_Tu_days_178 rfl ?_
                                    refine ev_iload dt_Tu_days_180 rfl ?_
                                    refine ev_iconst dt_Tu_days_182 ?_
                                    refine ev_icmp_ne (tgt := 194) dt_Tu_days_183 (by decide) (by omega) (by omega) (fun h132 => ?_) (fun h132 => ?_)
                                    · skip
                                      refine ev_aload_n dt_Tu_days_194 rfl rfl ?_
                                      refine tm_getK (K := 1) dt_Tu_days_195 hW tut0 fl_Tu_19 rfl kn ?_
                                      refine ev_iload dt_Tu_days_198 rfl ?_
                                      refine ev_aload_n dt_Tu_days_200 rfl rfl ?_
                                      refine tm_getK (K := 1) dt_Tu_days_201 hW tut0 fl_Tu_19 rfl kn ?_
                                      refine ev_iload dt_Tu_days_204 rfl ?_
                                      refine ev_iconst dt_Tu_days_206 ?_
                                      refine ev_iadd dt_Tu_days_207 ?_
                                      refine tm_vp dt_Tu_days_208 (tm_Ri_hourOn hW h_a ((i126 + 1)) (by omega) (by omega)) kb_Tu_247 ⟨im_Ri_hourOn, se_Ri_hourOn⟩ rfl hW at0 rfl (Nat.le_of_ble_eq_true rfl) (by decide) (fun v133 hv133 => ?_)
                                      refine tm_vp dt_Tu_days_211 (tm_Ri_allLike hW h_a (v131) (by omega) (by omega) (v133) (by omega) (by omega)) kb_Tu_183 ⟨im_Ri_allLike, se_Ri_allLike⟩ rfl hW at0 rfl (Nat.le_of_ble_eq_true rfl) (by decide) (fun v134 hv134 => ?_)
                                      refine ev_iadd dt_Tu_days_214 ?_
                                      refine tm_any (fun v135 hv135 _ => ?_)
                                      refine ev_istore (l' := [_, _, _, _, _, _, _, _, _, _, _, _]) dt_Tu_days_215 (Nat.le_of_ble_eq_true rfl) rfl ?_
                                      refine ev_iinc (l' := [_, _, _, _, _, _, _, _, _, _, _, _]) dt_Tu_days_217 rfl rfl ?_
                                      refine ev_goto (tgt := 99) dt_Tu_days_220 (by decide) ?_
                                      exact tm_loc (tm_le_s (tm_le_s (tm_le_s (tm_le_s (tm_le_s (tm_le_s (tm_le_s (tm_le_s (tm_le_s (tm_le_s (tm_le_s (tm_le_n tm_le_0)))))))))))) (ihL121 (v128) (v135) (v131) (0) ((i126 + 1)) (by omega) (by omega) (by omega) (by omega) (by omega) (by omega) (by omega) (by omega) (by omega) (by omega) (by omega))
                                    · skip
                                      refine ev_iload dt_Tu_days_186 rfl ?_
                                      refine tm_abs (by omega) dt_Tu_days_188 mk_Tu_259 (Nat.le_of_ble_eq_true rfl) (by decide) (fun v136 x1 x2 => ?_)
                                      have hv136 : 0 ≤ v136 ∧ v136 ≤ 0 := by omega
                                      clear x1 x2
                                      refine ev_goto (tgt := 214) dt_Tu_days_191 (by decide) ?_
                                      refine ev_iadd dt_Tu_days_214 ?_
                                      refine ev_istore (l' := [_, _, _, _, _, _, _, _, _, _, _, _]) dt_Tu_days_215 (Nat.le_of_ble_eq_true rfl) rfl ?_
                                      refine ev_iinc (l' := [_, _, _, _, _, _, _, _, _, _, _, _]) dt_Tu_days_217 rfl rfl ?_
                                      refine ev_goto (tgt := 99) dt_Tu_days_220 (by decide) ?_
                                      exact tm_loc (tm_le_s (tm_le_s (tm_le_s (tm_le_s (tm_le_s (tm_le_s (tm_le_s (tm_le_s (tm_le_s (tm_le_s (tm_le_s (tm_le_n tm_le_0)))))))))))) (ihL121 (v128) ((i123 + v136)) (v131) (0) ((i126 + 1)) (by omega) (by omega) (by omega) (by omega) (by omega) (by omega) (by omega) (by omega) (by omega) (by omega) (by omega))
                                · skip
                                  refine ev_iload dt_Tu_days_117 rfl ?_
                                  refine ev_ldcw (n := 65536) dt_Tu_days_119 cn_Tu_338 rfl ?_
                                  refine tm_idiv dt_Tu_days_122 (by omega) (by omega) (by omega) (fun v137 x1 x2 => ?_)
                                  have hv137 : (-2147483648) ≤ v137 ∧ v137 ≤ 2147483647 := by omega
                                  clear x1 x2
                                  refine ev_bipush dt_Tu_days_123 rfl ?_
                                  refine tm_irem dt_Tu_days_125 (by omega) (by omega) (by omega) (fun v138 x1 x2 x3 x4 => ?_)
                                  have hv138 : (-99) ≤ v138 ∧ v138 ≤ 99 := by omega
                                  clear x1 x2 x3 x4
                                  refine ev_iload_n dt_Tu_days_126 rfl rfl ?_
                                  refine ev_icmp_ge (tgt := 134) dt_Tu_days_127 (by decide) (by omega) (by omega) (fun h139 => ?_) (fun h139 => ?_)
                                  · skip
                                    refine ev_iconst dt_Tu_days_134 ?_
                                    refine ev_istore (l' := [_, _, _, _, _, _, _, _, _, _, _, _]) dt_Tu_days_135 (Nat.le_of_ble_eq_true rfl) rfl ?_
                                    refine ev_iload dt_Tu_days_137 rfl ?_
                                    refine ev_if_eq (tgt := 146) dt_Tu_days_139 (by decide) (by omega) (fun h140 => ?_) (fun h140 => ?_)
                                    · skip
                                      refine ev_aload_n dt_Tu_days_146 rfl rfl ?_
                                      refine tm_getK (K := 1) dt_Tu_days_147 hW tut0 fl_Tu_19 rfl kn ?_
                                      refine tm_getR dt_Tu_days_150 hW at0 fl_Tu_165 rfl ?_
                                      refine ev_aload_n dt_Tu_days_153 rfl rfl ?_
                                      refine tm_getK (K := 1) dt_Tu_days_154 hW tut0 fl_Tu_19 rfl kn ?_
                                      refine ev_iload dt_Tu_days_157 rfl ?_
                                      refine tm_vp dt_Tu_days_159 (tm_Ri_hourOn hW h_a (i126) (by omega) (by omega)) kb_Tu_247 ⟨im_Ri_hourOn, se_Ri_hourOn⟩ rfl hW at0 rfl (Nat.le_of_ble_eq_true rfl) (by decide) (fun v141 hv141 => ?_)
                                      refine tm_iaload dt_Tu_days_162 hW at6 (by omega) (by omega) (by omega) (fun v142 kv142 lv142 uv142 => ?_)
                                      refine ev_istore (l' := [_, _, _, _, _, _, _, _, _, _, _, _]) dt_Tu_days_163 (Nat.le_of_ble_eq_true rfl) rfl ?_
                                      refine ev_iconst dt_Tu_days_165 ?_
                                      refine ev_istore (l' := [_, _, _, _, _, _, _, _, _, _, _, _]) dt_Tu_days_166 (Nat.le_of_ble_eq_true rfl) rfl ?_
                                      refine ev_iload dt_Tu_days_168 rfl ?_
                                      refine ev_iload dt_Tu_days_170 rfl ?_
                                      refine ev_iadd dt_Tu_days_172 ?_
                                      refine tm_any (fun v143 hv143 _ => ?_)
                                      refine tm_sp dt_Tu_days_173 (tm_Tu_wrapped hW (v143) (by omega) (by omega)) kb_Tu_339 sc_Tu_wrapped rfl (Nat.le_of_ble_eq_true rfl) (by decide) (fun v144 hv144 => ?_)
                                      refine ev_istore (l' := [_, _, _, _, _, _, _, _, _, _, _, _]) dt_Tu_days_176 (Nat.le_of_ble_eq_true rfl) rfl ?_
                                      refine ev_iload dt_Tu_days_178 rfl ?_
                                      refine ev_iload dt_Tu_days_180 rfl ?_
                                      refine ev_iconst dt_Tu_days_182 ?_
                                      refine ev_icmp_ne (tgt := 194) dt_Tu_days_183 (by decide) (by omega) (by omega) (fun h145 => ?_) (fun h145 => ?_)
                                      · skip
                                        refine ev_aload_n dt_Tu_days_194 rfl rfl ?_
                                        refine tm_getK (K := 1) dt_Tu_days_195 hW tut0 fl_Tu_19 rfl kn ?_
                                        refine ev_iload dt_Tu_days_198 rfl ?_
                                        refine ev_aload_n dt_Tu_days_200 rfl rfl ?_
                                        refine tm_getK (K := 1) dt_Tu_days_201 hW tut0 fl_Tu_19 rfl kn ?_
                                        refine ev_iload dt_Tu_days_204 rfl ?_
                                        refine ev_iconst dt_Tu_days_206 ?_
                                        refine ev_iadd dt_Tu_days_207 ?_
                                        refine tm_vp dt_Tu_days_208 (tm_Ri_hourOn hW h_a ((i126 + 1)) (by omega) (by omega)) kb_Tu_247 ⟨im_Ri_hourOn, se_Ri_hourOn⟩ rfl hW at0 rfl (Nat.le_of_ble_eq_true rfl) (by decide) (fun v146 hv146 => ?_)
                                        refine tm_vp dt_Tu_days_211 (tm_Ri_allLike hW h_a (v144) (by omega) (by omega) (v146) (by omega) (by omega)) kb_Tu_183 ⟨im_Ri_allLike, se_Ri_allLike⟩ rfl hW at0 rfl (Nat.le_of_ble_eq_true rfl) (by decide) (fun v147 hv147 => ?_)
                                        refine ev_iadd dt_Tu_days_214 ?_
                                        refine tm_any (fun v148 hv148 _ => ?_)
                                        refine ev_istore (l' := [_, _, _, _, _, _, _, _, _, _, _, _]) dt_Tu_days_215 (Nat.le_of_ble_eq_true rfl) rfl ?_
                                        refine ev_iinc (l' := [_, _, _, _, _, _, _, _, _, _, _, _]) dt_Tu_days_217 rfl rfl ?_
                                        refine ev_goto (tgt := 99) dt_Tu_days_220 (by decide) ?_
                                        exact tm_loc (tm_le_s (tm_le_s (tm_le_s (tm_le_s (tm_le_s (tm_le_s (tm_le_s (tm_le_s (tm_le_s (tm_le_s (tm_le_s (tm_le_n tm_le_0)))))))))))) (ihL121 (v128) (v148) (v144) (0) ((i126 + 1)) (by omega) (by omega) (by omega) (by omega) (by omega) (by omega) (by omega) (by omega) (by omega) (by omega) (by omega))
                                      · skip
                                        refine ev_iload dt_Tu_days_186 rfl ?_
                                        refine tm_abs (by omega) dt_Tu_days_188 mk_Tu_259 (Nat.le_of_ble_eq_true rfl) (by decide) (fun v149 x1 x2 => ?_)
                                        have hv149 : (-2147483648) ≤ v149 ∧ v149 ≤ 2147483647 := by omega
                                        clear x1 x2
                                        refine ev_goto (tgt := 214) dt_Tu_days_191 (by decide) ?_
                                        refine ev_iadd dt_Tu_days_214 ?_
                                        refine tm_any (fun v150 hv150 _ => ?_)
                                        refine ev_istore (l' := [_, _, _, _, _, _, _, _, _, _, _, _]) dt_Tu_days_215 (Nat.le_of_ble_eq_true rfl) rfl ?_
                                        refine ev_iinc (l' := [_, _, _, _, _, _, _, _, _, _, _, _]) dt_Tu_days_217 rfl rfl ?_
                                        refine ev_goto (tgt := 99) dt_Tu_days_220 (by decide) ?_
                                        exact tm_loc (tm_le_s (tm_le_s (tm_le_s (tm_le_s (tm_le_s (tm_le_s (tm_le_s (tm_le_s (tm_le_s (tm_le_s (tm_le_s (tm_le_n tm_le_0)))))))))))) (ihL121 (v128) (v150) (v144) (0) ((i126 + 1)) (by omega) (by omega) (by omega) (by omega) (by omega) (by omega) (by omega) (by omega) (by omega) (by omega) (by omega))
                                    · skip
                                      exfalso
                                      omega
                                  · skip
                                    refine ev_iconst dt_Tu_days_130 ?_
                                    refine ev_goto (tgt := 135) dt_Tu_days_131 (by decide) ?_
                                    refine ev_istore (l' := [_, _, _, _, _, _, _, _, _, _, _, _]) dt_Tu_days_135 (Nat.le_of_ble_eq_true rfl) rfl ?_
                                    refine ev_iload dt_Tu_days_137 rfl ?_
                                    refine ev_if_eq (tgt := 146) dt_Tu_days_139 (by decide) (by omega) (fun h151 => ?_) (fun h151 => ?_)
                                    · skip
                                      exfalso
                                      omega
                                    · skip
                                      refine ev_iconst dt_Tu_days_142 ?_
                                      refine ev_goto (tgt := 163) dt_Tu_days_143 (by decide) ?_
                                      refine ev_istore (l' := [_, _, _, _, _, _, _, _, _, _, _, _]) dt_Tu_days_163 (Nat.le_of_ble_eq_true rfl) rfl ?_
                                      refine ev_iconst dt_Tu_days_165 ?_
                                      refine ev_istore (l' := [_, _, _, _, _, _, _, _, _, _, _, _]) dt_Tu_days_166 (Nat.le_of_ble_eq_true rfl) rfl ?_
                                      refine ev_iload dt_Tu_days_168 rfl ?_
                                      refine ev_iload dt_Tu_days_170 rfl ?_
                                      refine ev_iadd dt_Tu_days_172 ?_
                                      refine tm_sp dt_Tu_days_173 (tm_Tu_wrapped hW ((i124 + 0)) (by omega) (by omega)) kb_Tu_339 sc_Tu_wrapped rfl (Nat.le_of_ble_eq_true rfl) (by decide) (fun v152 hv152 => ?_)
                                      refine ev_istore (l' := [_, _, _, _, _, _, _, _, _, _, _, _]) dt_Tu_days_176 (Nat.le_of_ble_eq_true rfl) rfl ?_
                                      refine ev_iload dt_Tu_days_178 rfl ?_
                                      refine ev_iload dt_Tu_days_180 rfl ?_
                                      refine ev_iconst dt_Tu_days_182 ?_
                                      refine ev_icmp_ne (tgt := 194) dt_Tu_days_183 (by decide) (by omega) (by omega) (fun h153 => ?_) (fun h153 => ?_)
                                      · skip
                                        refine ev_aload_n dt_Tu_days_194 rfl rfl ?_
                                        refine tm_getK (K := 1) dt_Tu_days_195 hW tut0 fl_Tu_19 rfl kn ?_
                                        refine ev_iload dt_Tu_days_198 rfl ?_
                                        refine ev_aload_n dt_Tu_days_200 rfl rfl ?_
                                        refine tm_getK (K := 1) dt_Tu_days_201 hW tut0 fl_Tu_19 rfl kn ?_
                                        refine ev_iload dt_Tu_days_204 rfl ?_
                                        refine ev_iconst dt_Tu_days_206 ?_
                                        refine ev_iadd dt_Tu_days_207 ?_
                                        refine tm_vp dt_Tu_days_208 (tm_Ri_hourOn hW h_a ((i126 + 1)) (by omega) (by omega)) kb_Tu_247 ⟨im_Ri_hourOn, se_Ri_hourOn⟩ rfl hW at0 rfl (Nat.le_of_ble_eq_true rfl) (by decide) (fun v154 hv154 => ?_)
                                        refine tm_vp dt_Tu_days_211 (tm_Ri_allLike hW h_a (v152) (by omega) (by omega) (v154) (by omega) (by omega)) kb_Tu_183 ⟨im_Ri_allLike, se_Ri_allLike⟩ rfl hW at0 rfl (Nat.le_of_ble_eq_true rfl) (by decide) (fun v155 hv155 => ?_)
                                        refine ev_iadd dt_Tu_days_214 ?_
                                        refine tm_any (fun v156 hv156 _ => ?_)
                                        refine ev_istore (l' := [_, _, _, _, _, _, _, _, _, _, _, _]) dt_Tu_days_215 (Nat.le_of_ble_eq_true rfl) rfl ?_
                                        refine ev_iinc (l' := [_, _, _, _, _, _, _, _, _, _, _, _]) dt_Tu_days_217 rfl rfl ?_
                                        refine ev_goto (tgt := 99) dt_Tu_days_220 (by decide) ?_
                                        exact tm_loc (tm_le_s (tm_le_s (tm_le_s (tm_le_s (tm_le_s (tm_le_s (tm_le_s (tm_le_s (tm_le_s (tm_le_s (tm_le_s (tm_le_n tm_le_0)))))))))))) (ihL121 (v128) (v156) (v152) (0) ((i126 + 1)) (by omega) (by omega) (by omega) (by omega) (by omega) (by omega) (by omega) (by omega) (by omega) (by omega) (by omega))
                                      · skip
                                        refine ev_iload dt_Tu_days_186 rfl ?_
                                        refine tm_abs (by omega) dt_Tu_days_188 mk_Tu_259 (Nat.le_of_ble_eq_true rfl) (by decide) (fun v157 x1 x2 => ?_)
                                        have hv157 : 0 ≤ v157 ∧ v157 ≤ 0 := by omega
                                        clear x1 x2
                                        refine ev_goto (tgt := 214) dt_Tu_days_191 (by decide) ?_
                                        refine ev_iadd dt_Tu_days_214 ?_
                                        refine ev_istore (l' := [_, _, _, _, _, _, _, _, _, _, _, _]) dt_Tu_days_215 (Nat.le_of_ble_eq_true rfl) rfl ?_
                                        refine ev_iinc (l' := [_, _, _, _, _, _, _, _, _, _, _, _]) dt_Tu_days_217 rfl rfl ?_
                                        refine ev_goto (tgt := 99) dt_Tu_days_220 (by decide) ?_
                                        exact tm_loc (tm_le_s (tm_le_s (tm_le_s (tm_le_s (tm_le_s (tm_le_s (tm_le_s (tm_le_s (tm_le_s (tm_le_s (tm_le_s (tm_le_n tm_le_0)))))))))))) (ihL121 (v128) ((i123 + v157)) (v152) (0) ((i126 + 1)) (by omega) (by omega) (by omega) (by omega) (by omega) (by omega) (by omega) (by omega) (by omega) (by omega) (by omega))
                          exact tm_loc (tm_le_s (tm_le_s (tm_le_s (tm_le_s (tm_le_s (tm_le_s (tm_le_s (tm_le_s (tm_le_s (tm_le_s (tm_le_s (tm_le_n tm_le_0)))))))))))) (L121 (96 - (0) + 1 : Int).toNat (i115) (i116) (v119) (v120) (0)  (by omega) (by omega) (by omega) (by omega) (by omega) (by omega) (by omega) (by omega) (by omega) (by omega) (by omega))
                    exact tm_loc (tm_le_s (tm_le_s (tm_le_s (tm_le_s (tm_le_s (tm_le_s (tm_le_s (tm_le_s (tm_le_n (tm_le_n (tm_le_n (tm_le_n tm_le_0)))))))))))) (L114 (10 - (0) + 1 : Int).toNat (v113) (0) (0)  (by omega) (by omega) (by omega) (by omega) (by omega) (by omega) (by omega))
                  · skip
                    refine ev_ldcw (n := -10000000) dt_Tu_days_53 cn_Tu_334 rfl ?_
                    exact ev_ireturn dt_Tu_days_56 rfl ⟨rfl, _, rfl, by omega⟩
