theorem dt_Tu_ring_0 : decode prog_1_method_4_code 0 = .ok (.aload_n 0, 1) := by decide +kernel
theorem dt_Tu_ring_1 : decode prog_1_method_4_code 1 = .ok (.getfield 10, 3) := by decide +kernel
theorem dt_Tu_ring_4 : decode prog_1_method_4_code 4 = .ok (.aload_n 0, 1) := by decide +kernel
theorem dt_Tu_ring_5 : decode prog_1_method_4_code 5 = .ok (.getfield 23, 3) := by decide +kernel
theorem dt_Tu_ring_8 : decode prog_1_method_4_code 8 = .ok (.invokestatic 90, 3) := by decide +kernel
theorem dt_Tu_ring_11 : decode prog_1_method_4_code 11 = .ok (.istore_n 1, 1) := by decide +kernel
theorem dt_Tu_ring_12 : decode prog_1_method_4_code 12 = .ok (.aload_n 0, 1) := by decide +kernel
theorem dt_Tu_ring_13 : decode prog_1_method_4_code 13 = .ok (.getfield 10, 3) := by decide +kernel
theorem dt_Tu_ring_16 : decode prog_1_method_4_code 16 = .ok (.iconst 0, 1) := by decide +kernel
theorem dt_Tu_ring_17 : decode prog_1_method_4_code 17 = .ok (.putfield 82, 3) := by decide +kernel
theorem dt_Tu_ring_20 : decode prog_1_method_4_code 20 = .ok (.iload_n 1, 1) := by decide +kernel
theorem dt_Tu_ring_21 : decode prog_1_method_4_code 21 = .ok (.ifCond .eq 8, 3) := by decide +kernel
theorem dt_Tu_ring_24 : decode prog_1_method_4_code 24 = .ok (.bipush (-2), 2) := by decide +kernel
theorem dt_Tu_ring_26 : decode prog_1_method_4_code 26 = .ok (.iload_n 1, 1) := by decide +kernel
theorem dt_Tu_ring_27 : decode prog_1_method_4_code 27 = .ok (.isub, 1) := by decide +kernel
theorem dt_Tu_ring_28 : decode prog_1_method_4_code 28 = .ok (.ireturn, 1) := by decide +kernel
theorem dt_Tu_ring_29 : decode prog_1_method_4_code 29 = .ok (.aload_n 0, 1) := by decide +kernel
theorem dt_Tu_ring_30 : decode prog_1_method_4_code 30 = .ok (.getfield 23, 3) := by decide +kernel
theorem dt_Tu_ring_33 : decode prog_1_method_4_code 33 = .ok (.aload_n 0, 1) := by decide +kernel
theorem dt_Tu_ring_34 : decode prog_1_method_4_code 34 = .ok (.getfield 19, 3) := by decide +kernel
theorem dt_Tu_ring_37 : decode prog_1_method_4_code 37 = .ok (.getfield 96, 3) := by decide +kernel
theorem dt_Tu_ring_40 : decode prog_1_method_4_code 40 = .ok (.putfield 96, 3) := by decide +kernel
theorem dt_Tu_ring_43 : decode prog_1_method_4_code 43 = .ok (.aload_n 0, 1) := by decide +kernel
theorem dt_Tu_ring_44 : decode prog_1_method_4_code 44 = .ok (.getfield 19, 3) := by decide +kernel
theorem dt_Tu_ring_47 : decode prog_1_method_4_code 47 = .ok (.astore_n 2, 1) := by decide +kernel
theorem dt_Tu_ring_48 : decode prog_1_method_4_code 48 = .ok (.aload_n 0, 1) := by decide +kernel
theorem dt_Tu_ring_49 : decode prog_1_method_4_code 49 = .ok (.aload_n 0, 1) := by decide +kernel
theorem dt_Tu_ring_50 : decode prog_1_method_4_code 50 = .ok (.getfield 23, 3) := by decide +kernel
theorem dt_Tu_ring_53 : decode prog_1_method_4_code 53 = .ok (.putfield 19, 3) := by decide +kernel
theorem dt_Tu_ring_56 : decode prog_1_method_4_code 56 = .ok (.aload_n 0, 1) := by decide +kernel
theorem dt_Tu_ring_57 : decode prog_1_method_4_code 57 = .ok (.aload_n 2, 1) := by decide +kernel
theorem dt_Tu_ring_58 : decode prog_1_method_4_code 58 = .ok (.putfield 23, 3) := by decide +kernel
theorem dt_Tu_ring_61 : decode prog_1_method_4_code 61 = .ok (.aload_n 0, 1) := by decide +kernel
theorem dt_Tu_ring_62 : decode prog_1_method_4_code 62 = .ok (.getfield 43, 3) := by decide +kernel
theorem dt_Tu_ring_65 : decode prog_1_method_4_code 65 = .ok (.invokevirtual 99, 3) := by decide +kernel
theorem dt_Tu_ring_68 : decode prog_1_method_4_code 68 = .ok (.aload_n 0, 1) := by decide +kernel
theorem dt_Tu_ring_69 : decode prog_1_method_4_code 69 = .ok (.getfield 19, 3) := by decide +kernel
theorem dt_Tu_ring_72 : decode prog_1_method_4_code 72 = .ok (.getfield 102, 3) := by decide +kernel
theorem dt_Tu_ring_75 : decode prog_1_method_4_code 75 = .ok (.ireturn, 1) := by decide +kernel
theorem dt_Tu_image_0 : decode prog_1_method_18_code 0 = .ok (.iload_n 1, 1) := by decide +kernel
theorem dt_Tu_image_1 : decode prog_1_method_18_code 1 = .ok (.ifCond .lt 8, 3) := by decide +kernel
theorem dt_Tu_image_4 : decode prog_1_method_18_code 4 = .ok (.iload_n 1, 1) := by decide +kernel
theorem dt_Tu_image_5 : decode prog_1_method_18_code 5 = .ok (.iconst 4, 1) := by decide +kernel
theorem dt_Tu_image_6 : decode prog_1_method_18_code 6 = .ok (.if_icmp .lt 5, 3) := by decide +kernel
theorem dt_Tu_image_9 : decode prog_1_method_18_code 9 = .ok (.iconst (-1), 1) := by decide +kernel
theorem dt_Tu_image_10 : decode prog_1_method_18_code 10 = .ok (.ireturn, 1) := by decide +kernel
theorem dt_Tu_image_11 : decode prog_1_method_18_code 11 = .ok (.aload_n 0, 1) := by decide +kernel
theorem dt_Tu_image_12 : decode prog_1_method_18_code 12 = .ok (.getfield 26, 3) := by decide +kernel
theorem dt_Tu_image_15 : decode prog_1_method_18_code 15 = .ok (.iload_n 1, 1) := by decide +kernel
theorem dt_Tu_image_16 : decode prog_1_method_18_code 16 = .ok (.aaload, 1) := by decide +kernel
theorem dt_Tu_image_17 : decode prog_1_method_18_code 17 = .ok (.aload_n 0, 1) := by decide +kernel
theorem dt_Tu_image_18 : decode prog_1_method_18_code 18 = .ok (.getfield 19, 3) := by decide +kernel
theorem dt_Tu_image_21 : decode prog_1_method_18_code 21 = .ok (.invokevirtual 237, 3) := by decide +kernel
theorem dt_Tu_image_24 : decode prog_1_method_18_code 24 = .ok (.aload_n 0, 1) := by decide +kernel
theorem dt_Tu_image_25 : decode prog_1_method_18_code 25 = .ok (.getfield 30, 3) := by decide +kernel
theorem dt_Tu_image_28 : decode prog_1_method_18_code 28 = .ok (.iload_n 1, 1) := by decide +kernel
theorem dt_Tu_image_29 : decode prog_1_method_18_code 29 = .ok (.iconst 1, 1) := by decide +kernel
theorem dt_Tu_image_30 : decode prog_1_method_18_code 30 = .ok (.bastore, 1) := by decide +kernel
theorem dt_Tu_image_31 : decode prog_1_method_18_code 31 = .ok (.aload_n 0, 1) := by decide +kernel
theorem dt_Tu_image_32 : decode prog_1_method_18_code 32 = .ok (.getfield 19, 3) := by decide +kernel
theorem dt_Tu_image_35 : decode prog_1_method_18_code 35 = .ok (.getfield 180, 3) := by decide +kernel
theorem dt_Tu_image_38 : decode prog_1_method_18_code 38 = .ok (.ireturn, 1) := by decide +kernel
set_option maxHeartbeats 4000000 in
set_option maxRecDepth 10000 in
theorem tm_Tu_image {N : Nat} {T : Nat → tm_S} {w : ab_W} {tu tp im md rl ac rr ma pl tr gu a b : Nat} (hW : tm_W N T w) (h_all : is_All T tu tp im md rl ac rr ma pl tr gu a b) (kn : tm_g w tu 1 = some (ab_R a)) (kt : tm_g w tu 2 = some (ab_R b)) (y1 : Int) (l_y1 : (-2147483648) ≤ y1) (u_y1 : y1 ≤ 2147483647) (him : ∀ j : Int, 0 ≤ j → j < 4 → ∃ ik : Nat, tm_g w im j = some (ab_R ik) ∧ is_Ri T ik ∧ (ik : Int) = 55 + 13 * j) : ab_Mt g_G g_rs mt_Tu_image 3 0 0 [ab_R tu, ab_I y1] w (tm_Qi N T (fun v w2 => (∀ (p : Nat) (j : Int), ¬ ((0 ≤ y1 ∧ y1 ≤ 3 ∧ ((55 + 13 * y1 ≤ (p : Int) ∧ (p : Int) ≤ 67 + 13 * y1) ∨ (p = md ∧ j = y1)))) → tm_g w2 p j = tm_g w p j) ∧ ((-2147483648) ≤ v ∧ v ≤ 2147483647 ∧ ((0 ≤ y1 ∧ y1 ≤ 3) → (∀ ik : Nat, (ik : Int) = 55 + 13 * y1 → tm_g w2 ik 6 = tm_g w a 6) ∧ tm_g w2 md y1 = some (ab_I 1))))) := by
  obtain ⟨tut0, imt0, mdt0, rlt0, h_tp, h_ac, h_rr, h_ma, hzz⟩ := id h_all
  obtain ⟨h_pl, h_tr, h_gu, h_a, h_b, e_all, e_ab⟩ := hzz
  obtain ⟨tpt0, tpt1⟩ := id h_tp
  obtain ⟨act0, act1, act2, act3⟩ := id h_ac
  obtain ⟨rrt0, rrt1⟩ := id h_rr
  obtain ⟨mat0, mat1⟩ := id h_ma
  obtain ⟨plt0, plt1, plt2, plt3, plt4⟩ := id h_pl
  obtain ⟨trt0, trt1, trt2, trt3, trt4, trt5⟩ := id h_tr
  obtain ⟨gut0, gut1, gut2, gut3⟩ := id h_gu
  obtain ⟨at0, at1, at2, at3, at4, at5, at6, at7, at8, at9, at10, at11, at12⟩ := id h_a
  have ad := is_Ri.d h_a
  obtain ⟨bt0, bt1, bt2, bt3, bt4, bt5, bt6, bt7, bt8, bt9, bt10, bt11, bt12⟩ := id h_b
  have bd := is_Ri.d h_b
  have hF0 : ∀ (p : Nat) (j : Int), ¬ ((0 ≤ y1 ∧ y1 ≤ 3 ∧ ((55 + 13 * y1 ≤ (p : Int) ∧ (p : Int) ≤ 67 + 13 * y1) ∨ (p = md ∧ j = y1)))) → tm_g w p j = tm_g w p j := fun _ _ _ => rfl
  refine ab_Mt.of rfl (Nat.le_of_ble_eq_true rfl) ?_
  show ab_Ev g_G g_rs mt_Tu_image _ _ _ 0 [some (ab_R tu), some (ab_I y1)] [] _ _
  refine ev_iload_n dt_Tu_image_0 rfl rfl ?_
  refine ev_if_lt (tgt := 9) dt_Tu_image_1 (by decide) (by omega) (fun h30 => ?_) (fun h30 => ?_)
  · skip
    refine ev_iconst dt_Tu_image_9 ?_
    exact ev_ireturn dt_Tu_image_10 rfl ⟨hW, _, rfl, ⟨hF0, ⟨by omega, by omega, fun h => by exfalso; omega⟩⟩⟩
  · skip
    refine ev_iload_n dt_Tu_image_4 rfl rfl ?_
    refine ev_iconst dt_Tu_image_5 ?_
    refine ev_icmp_lt (tgt := 11) dt_Tu_image_6 (by decide) (by omega) (by omega) (fun h31 => ?_) (fun h31 => ?_)
    · skip
      refine ev_aload_n dt_Tu_image_11 rfl rfl ?_
      refine tm_getR dt_Tu_image_12 hW tut0 fl_Tu_26 rfl ?_
      refine ev_iload_n dt_Tu_image_15 rfl rfl ?_
      obtain ⟨ik, kik, h_ik, eik⟩ := him y1 (by omega) (by omega)
      obtain ⟨ikt0, ikt1, ikt2, ikt3, ikt4, ikt5, ikt6, ikt7, ikt8, ikt9, ikt10, ikt11, ikt12⟩ := id h_ik
      have ikd := is_Ri.d h_ik
      refine tm_aaload (t := 0) dt_Tu_image_16 hW imt0 rfl (by omega) (by omega) (by omega) ((hF0 im _ (by omega)).trans kik) ?_
      refine ev_aload_n dt_Tu_image_17 rfl rfl ?_
      refine tm_getK (K := 1) dt_Tu_image_18 hW tut0 fl_Tu_19 rfl kn ?_
      obtain ⟨v32, kv32, lv32, uv32⟩ := tm_peek (k := 6) (K := 6) hW at0 rfl rfl
      refine tm_vv dt_Tu_image_21 (tm_Ri_copyFrom hW h_ik h_a (by omega) (v32) kv32) kb_Tu_237 ⟨im_Ri_copyFrom, se_Ri_copyFrom⟩ rfl hW ikt0 rfl (Nat.le_of_ble_eq_true rfl) (by decide) (fun w33 hWw33 hRw33 => ?_)
      obtain ⟨hfw33, v34, kv34, hpw33⟩ := hRw33
      have hFw33 : ∀ (p : Nat) (j : Int), ¬ ((0 ≤ y1 ∧ y1 ≤ 3 ∧ ((55 + 13 * y1 ≤ (p : Int) ∧ (p : Int) ≤ 67 + 13 * y1) ∨ (p = md ∧ j = y1)))) → tm_g w33 p j = tm_g w p j := fun p j h => (hfw33 p j (by omega)).trans (hF0 p j h)
      have bv34 : (-2147483648) ≤ v34 ∧ v34 ≤ 2147483647 := by obtain ⟨a, e, h0, h1⟩ := tm_peek (k := 6) (K := 6) hWw33 ikt0 rfl rfl; rw [kv34] at e; injection e with e; injection e with e; omega
      refine ev_aload_n dt_Tu_image_24 rfl rfl ?_
      refine tm_getR dt_Tu_image_25 hWw33 tut0 fl_Tu_30 rfl ?_
      refine ev_iload_n dt_Tu_image_28 rfl rfl ?_
      refine ev_iconst dt_Tu_image_29 ?_
      refine tm_zastore dt_Tu_image_30 hWw33 mdt0 (by omega) (by omega) (by omega) (by omega) (by omega) (fun w35 hWw35 kkw35 hfw35 => ?_)
      have hFw35 : ∀ (p : Nat) (j : Int), ¬ ((0 ≤ y1 ∧ y1 ≤ 3 ∧ ((55 + 13 * y1 ≤ (p : Int) ∧ (p : Int) ≤ 67 + 13 * y1) ∨ (p = md ∧ j = y1)))) → tm_g w35 p j = tm_g w p j := fun p j h => (hfw35 p j (by omega)).trans (hFw33 p j h)
      have z36 := (hfw35 ik 6 (by omega)).trans kv34
      refine ev_aload_n dt_Tu_image_31 rfl rfl ?_
      refine tm_getK (K := 1) dt_Tu_image_32 hWw35 tut0 fl_Tu_19 rfl ((hFw35 tu 1 (by omega)).trans kn) ?_
      refine tm_getI (K := 3) dt_Tu_image_35 hWw35 at0 fl_Tu_180 rfl rfl (fun v37 kv37 lv37 uv37 => ?_)
      have z38 := (hFw35 a 3 (by omega)).symm.trans kv37
      exact ev_ireturn dt_Tu_image_38 rfl ⟨hWw35, _, rfl, ⟨hFw35, ⟨by omega, by omega, fun _ => ⟨fun k2 hk2 => by have e2 : k2 = ik := (by omega); subst e2; rw [z36, kv32]; exact congrArg (fun z => some (ab_I z)) (by omega), kkw35⟩⟩⟩⟩
    · skip
      refine ev_iconst dt_Tu_image_9 ?_
      exact ev_ireturn dt_Tu_image_10 rfl ⟨hW, _, rfl, ⟨hF0, ⟨by omega, by omega, fun h => by exfalso; omega⟩⟩⟩
theorem dt_Tu_back_0 : decode prog_1_method_19_code 0 = .ok (.iload_n 1, 1) := by decide +kernel
theorem dt_Tu_back_1 : decode prog_1_method_19_code 1 = .ok (.ifCond .lt 17, 3) := by decide +kernel
theorem dt_Tu_back_4 : decode prog_1_method_19_code 4 = .ok (.iload_n 1, 1) := by decide +kernel
theorem dt_Tu_back_5 : decode prog_1_method_19_code 5 = .ok (.iconst 4, 1) := by decide +kernel
theorem dt_Tu_back_6 : decode prog_1_method_19_code 6 = .ok (.if_icmp .ge 12, 3) := by decide +kernel
theorem dt_Tu_back_9 : decode prog_1_method_19_code 9 = .ok (.aload_n 0, 1) := by decide +kernel
theorem dt_Tu_back_10 : decode prog_1_method_19_code 10 = .ok (.getfield 30, 3) := by decide +kernel
theorem dt_Tu_back_13 : decode prog_1_method_19_code 13 = .ok (.iload_n 1, 1) := by decide +kernel
theorem dt_Tu_back_14 : decode prog_1_method_19_code 14 = .ok (.baload, 1) := by decide +kernel
theorem dt_Tu_back_15 : decode prog_1_method_19_code 15 = .ok (.ifCond .ne 5, 3) := by decide +kernel
theorem dt_Tu_back_18 : decode prog_1_method_19_code 18 = .ok (.iconst (-1), 1) := by decide +kernel
theorem dt_Tu_back_19 : decode prog_1_method_19_code 19 = .ok (.ireturn, 1) := by decide +kernel
theorem dt_Tu_back_20 : decode prog_1_method_19_code 20 = .ok (.aload_n 0, 1) := by decide +kernel
theorem dt_Tu_back_21 : decode prog_1_method_19_code 21 = .ok (.getfield 19, 3) := by decide +kernel
theorem dt_Tu_back_24 : decode prog_1_method_19_code 24 = .ok (.aload_n 0, 1) := by decide +kernel
theorem dt_Tu_back_25 : decode prog_1_method_19_code 25 = .ok (.getfield 26, 3) := by decide +kernel
theorem dt_Tu_back_28 : decode prog_1_method_19_code 28 = .ok (.iload_n 1, 1) := by decide +kernel
theorem dt_Tu_back_29 : decode prog_1_method_19_code 29 = .ok (.aaload, 1) := by decide +kernel
theorem dt_Tu_back_30 : decode prog_1_method_19_code 30 = .ok (.invokevirtual 237, 3) := by decide +kernel
theorem dt_Tu_back_33 : decode prog_1_method_19_code 33 = .ok (.aload_n 0, 1) := by decide +kernel
theorem dt_Tu_back_34 : decode prog_1_method_19_code 34 = .ok (.getfield 43, 3) := by decide +kernel
theorem dt_Tu_back_37 : decode prog_1_method_19_code 37 = .ok (.invokevirtual 99, 3) := by decide +kernel
theorem dt_Tu_back_40 : decode prog_1_method_19_code 40 = .ok (.aload_n 0, 1) := by decide +kernel
theorem dt_Tu_back_41 : decode prog_1_method_19_code 41 = .ok (.getfield 19, 3) := by decide +kernel
theorem dt_Tu_back_44 : decode prog_1_method_19_code 44 = .ok (.getfield 180, 3) := by decide +kernel
theorem dt_Tu_back_47 : decode prog_1_method_19_code 47 = .ok (.ireturn, 1) := by decide +kernel
set_option maxHeartbeats 4000000 in
set_option maxRecDepth 10000 in
theorem tm_Tu_back {N : Nat} {T : Nat → tm_S} {w : ab_W} {tu tp im md rl ac rr ma pl tr gu a b : Nat} (hW : tm_W N T w) (h_all : is_All T tu tp im md rl ac rr ma pl tr gu a b) (kn : tm_g w tu 1 = some (ab_R a)) (kt : tm_g w tu 2 = some (ab_R b)) (y1 : Int) (l_y1 : (-2147483648) ≤ y1) (u_y1 : y1 ≤ 2147483647) (him : ∀ j : Int, 0 ≤ j → j < 4 → ∃ ik : Nat, tm_g w im j = some (ab_R ik) ∧ is_Ri T ik ∧ (ik : Int) = 55 + 13 * j) (m : Int) (km : 0 ≤ y1 → y1 ≤ 3 → tm_g w md y1 = some (ab_I m)) : ab_Mt g_G g_rs mt_Tu_back 3 0 0 [ab_R tu, ab_I y1] w (tm_Qi N T (fun v w2 => (∀ (p : Nat) (j : Int), ¬ (((0 ≤ y1 ∧ y1 ≤ 3 ∧ ¬ m = 0) ∧ ((a ≤ p ∧ p ≤ a + 12) ∨ (p = ac ∧ j = 3)))) → tm_g w2 p j = tm_g w p j) ∧ ((-2147483648) ≤ v ∧ v ≤ 2147483647 ∧ ((0 ≤ y1 ∧ y1 ≤ 3 ∧ ¬ m = 0) → ∀ ik : Nat, (ik : Int) = 55 + 13 * y1 → tm_g w2 a 6 = tm_g w ik 6)))) := by
  obtain ⟨tut0, imt0, mdt0, rlt0, h_tp, h_ac, h_rr, h_ma, hzz⟩ := id h_all
  obtain ⟨h_pl, h_tr, h_gu, h_a, h_b, e_all, e_ab⟩ := hzz
  obtain ⟨tpt0, tpt1⟩ := id h_tp
  obtain ⟨act0, act1, act2, act3⟩ := id h_ac
  obtain ⟨rrt0, rrt1⟩ := id h_rr
  obtain ⟨mat0, mat1⟩ := id h_ma
  obtain ⟨plt0, plt1, plt2, plt3, plt4⟩ := id h_pl
  obtain ⟨trt0, trt1, trt2, trt3, trt4, trt5⟩ := id h_tr
  obtain ⟨gut0, gut1, gut2, gut3⟩ := id h_gu
  obtain ⟨at0, at1, at2, at3, at4, at5, at6, at7, at8, at9, at10, at11, at12⟩ := id h_a
  have ad := is_Ri.d h_a
  obtain ⟨bt0, bt1, bt2, bt3, bt4, bt5, bt6, bt7, bt8, bt9, bt10, bt11, bt12⟩ := id h_b
  have bd := is_Ri.d h_b
  have hF0 : ∀ (p : Nat) (j : Int), ¬ (((0 ≤ y1 ∧ y1 ≤ 3 ∧ ¬ m = 0) ∧ ((a ≤ p ∧ p ≤ a + 12) ∨ (p = ac ∧ j = 3)))) → tm_g w p j = tm_g w p j := fun _ _ _ => rfl
  refine ab_Mt.of rfl (Nat.le_of_ble_eq_true rfl) ?_
  show ab_Ev g_G g_rs mt_Tu_back _ _ _ 0 [some (ab_R tu), some (ab_I y1)] [] _ _
  refine ev_iload_n dt_Tu_back_0 rfl rfl ?_
  refine ev_if_lt (tgt := 18) dt_Tu_back_1 (by decide) (by omega) (fun h39 => ?_) (fun h39 => ?_)
  · skip
    refine ev_iconst dt_Tu_back_18 ?_
    exact ev_ireturn dt_Tu_back_19 rfl ⟨hW, _, rfl, ⟨hF0, ⟨by omega, by omega, fun h => by exfalso; omega⟩⟩⟩
  · skip
    refine ev_iload_n dt_Tu_back_4 rfl rfl ?_
    refine ev_iconst dt_Tu_back_5 ?_
    refine ev_icmp_ge (tgt := 18) dt_Tu_back_6 (by decide) (by omega) (by omega) (fun h40 => ?_) (fun h40 => ?_)
    · skip
      refine ev_iconst dt_Tu_back_18 ?_
      exact ev_ireturn dt_Tu_back_19 rfl ⟨hW, _, rfl, ⟨hF0, ⟨by omega, by omega, fun h => by exfalso; omega⟩⟩⟩
    · skip
      refine ev_aload_n dt_Tu_back_9 rfl rfl ?_
      refine tm_getR dt_Tu_back_10 hW tut0 fl_Tu_30 rfl ?_
      refine ev_iload_n dt_Tu_back_13 rfl rfl ?_
      refine tm_zaload dt_Tu_back_14 hW mdt0 (by omega) (by omega) (by omega) (fun v41 kv41 lv41 uv41 => ?_)
      have em : v41 = m := by have h9 := km (by omega) (by omega); rw [kv41] at h9; injection h9 with h9; injection h9
      refine ev_if_ne (tgt := 20) dt_Tu_back_15 (by decide) (by omega) (fun h42 => ?_) (fun h42 => ?_)
      · skip
        refine ev_aload_n dt_Tu_back_20 rfl rfl ?_
        refine tm_getK (K := 1) dt_Tu_back_21 hW tut0 fl_Tu_19 rfl kn ?_
        refine ev_aload_n dt_Tu_back_24 rfl rfl ?_
        refine tm_getR dt_Tu_back_25 hW tut0 fl_Tu_26 rfl ?_
        refine ev_iload_n dt_Tu_back_28 rfl rfl ?_
        obtain ⟨ik, kik, h_ik, eik⟩ := him y1 (by omega) (by omega)
        obtain ⟨ikt0, ikt1, ikt2, ikt3, ikt4, ikt5, ikt6, ikt7, ikt8, ikt9, ikt10, ikt11, ikt12⟩ := id h_ik
        have ikd := is_Ri.d h_ik
        refine tm_aaload (t := 0) dt_Tu_back_29 hW imt0 rfl (by omega) (by omega) (by omega) ((hF0 im _ (by omega)).trans kik) ?_
        obtain ⟨v43, kv43, lv43, uv43⟩ := tm_peek (k := 6) (K := 6) hW ikt0 rfl rfl
        refine tm_vv dt_Tu_back_30 (tm_Ri_copyFrom hW h_a h_ik (by omega) (v43) kv43) kb_Tu_237 ⟨im_Ri_copyFrom, se_Ri_copyFrom⟩ rfl hW at0 rfl (Nat.le_of_ble_eq_true rfl) (by decide) (fun w44 hWw44 hRw44 => ?_)
        obtain ⟨hfw44, v45, kv45, hpw44⟩ := hRw44
        have hFw44 : ∀ (p : Nat) (j : Int), ¬ (((0 ≤ y1 ∧ y1 ≤ 3 ∧ ¬ m = 0) ∧ ((a ≤ p ∧ p ≤ a + 12) ∨ (p = ac ∧ j = 3)))) → tm_g w44 p j = tm_g w p j := fun p j h => (hfw44 p j (by omega)).trans (hF0 p j h)
        have bv45 : (-2147483648) ≤ v45 ∧ v45 ≤ 2147483647 := by obtain ⟨a, e, h0, h1⟩ := tm_peek (k := 6) (K := 6) hWw44 at0 rfl rfl; rw [kv45] at e; injection e with e; injection e with e; omega
        refine ev_aload_n dt_Tu_back_33 rfl rfl ?_
        refine tm_getR dt_Tu_back_34 hWw44 tut0 fl_Tu_43 rfl ?_
        refine tm_vv dt_Tu_back_37 (tm_Ac_forget hWw44 h_ac) kb_Tu_99 ⟨im_Ac_forget, se_Ac_forget⟩ rfl hWw44 act0 rfl (Nat.le_of_ble_eq_true rfl) (by decide) (fun w46 hWw46 hRw46 => ?_)
        have hfw46 := hRw46
        have hFw46 : ∀ (p : Nat) (j : Int), ¬ (((0 ≤ y1 ∧ y1 ≤ 3 ∧ ¬ m = 0) ∧ ((a ≤ p ∧ p ≤ a + 12) ∨ (p = ac ∧ j = 3)))) → tm_g w46 p j = tm_g w p j := fun p j h => (hfw46 p j (by omega)).trans (hFw44 p j h)
        have z47 := (hfw46 a 6 (by omega)).trans kv45
        refine ev_aload_n dt_Tu_back_40 rfl rfl ?_
        refine tm_getK (K := 1) dt_Tu_back_41 hWw46 tut0 fl_Tu_19 rfl ((hFw46 tu 1 (by omega)).trans kn) ?_
        refine tm_getI (K := 3) dt_Tu_back_44 hWw46 at0 fl_Tu_180 rfl rfl (fun v48 kv48 lv48 uv48 => ?_)
        exact ev_ireturn dt_Tu_back_47 rfl ⟨hWw46, _, rfl, ⟨hFw46, ⟨by omega, by omega, fun _ k2 hk2 => by have e2 : k2 = ik := (by omega); subst e2; rw [z47, kv43]; exact congrArg (fun z => some (ab_I z)) (by omega)⟩⟩⟩
      · skip
        refine ev_iconst dt_Tu_back_18 ?_
        exact ev_ireturn dt_Tu_back_19 rfl ⟨hW, _, rfl, ⟨hF0, ⟨by omega, by omega, fun h => by exfalso; omega⟩⟩⟩
