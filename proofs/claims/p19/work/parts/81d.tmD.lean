theorem dt_Rr_mayFollow_0 : decode prog_8_method_3_code 0 = .ok (.iload_n 1, 1) := by decide +kernel
theorem dt_Rr_mayFollow_1 : decode prog_8_method_3_code 1 = .ok (.iconst 1, 1) := by decide +kernel
theorem dt_Rr_mayFollow_2 : decode prog_8_method_3_code 2 = .ok (.if_icmp .ne 12, 3) := by decide +kernel
theorem dt_Rr_mayFollow_5 : decode prog_8_method_3_code 5 = .ok (.aload_n 0, 1) := by decide +kernel
theorem dt_Rr_mayFollow_6 : decode prog_8_method_3_code 6 = .ok (.getfield 53, 3) := by decide +kernel
theorem dt_Rr_mayFollow_9 : decode prog_8_method_3_code 9 = .ok (.bipush 7, 2) := by decide +kernel
theorem dt_Rr_mayFollow_11 : decode prog_8_method_3_code 11 = .ok (.if_icmp .eq 17, 3) := by decide +kernel
theorem dt_Rr_mayFollow_14 : decode prog_8_method_3_code 14 = .ok (.iload_n 1, 1) := by decide +kernel
theorem dt_Rr_mayFollow_15 : decode prog_8_method_3_code 15 = .ok (.iconst 2, 1) := by decide +kernel
theorem dt_Rr_mayFollow_16 : decode prog_8_method_3_code 16 = .ok (.if_icmp .ne 14, 3) := by decide +kernel
theorem dt_Rr_mayFollow_19 : decode prog_8_method_3_code 19 = .ok (.aload_n 0, 1) := by decide +kernel
theorem dt_Rr_mayFollow_20 : decode prog_8_method_3_code 20 = .ok (.getfield 56, 3) := by decide +kernel
theorem dt_Rr_mayFollow_23 : decode prog_8_method_3_code 23 = .ok (.bipush 12, 2) := by decide +kernel
theorem dt_Rr_mayFollow_25 : decode prog_8_method_3_code 25 = .ok (.if_icmp .ne 5, 3) := by decide +kernel
theorem dt_Rr_mayFollow_28 : decode prog_8_method_3_code 28 = .ok (.iconst 0, 1) := by decide +kernel
theorem dt_Rr_mayFollow_29 : decode prog_8_method_3_code 29 = .ok (.ireturn, 1) := by decide +kernel
theorem dt_Rr_mayFollow_30 : decode prog_8_method_3_code 30 = .ok (.iload_n 1, 1) := by decide +kernel
theorem dt_Rr_mayFollow_31 : decode prog_8_method_3_code 31 = .ok (.ifCond .ne 7, 3) := by decide +kernel
theorem dt_Rr_mayFollow_34 : decode prog_8_method_3_code 34 = .ok (.iconst 1, 1) := by decide +kernel
theorem dt_Rr_mayFollow_35 : decode prog_8_method_3_code 35 = .ok (.goto 4, 3) := by decide +kernel
theorem dt_Rr_mayFollow_38 : decode prog_8_method_3_code 38 = .ok (.iconst 0, 1) := by decide +kernel
theorem dt_Rr_mayFollow_39 : decode prog_8_method_3_code 39 = .ok (.iload_n 2, 1) := by decide +kernel
theorem dt_Rr_mayFollow_40 : decode prog_8_method_3_code 40 = .ok (.ifCond .ne 7, 3) := by decide +kernel
theorem dt_Rr_mayFollow_43 : decode prog_8_method_3_code 43 = .ok (.iconst 1, 1) := by decide +kernel
theorem dt_Rr_mayFollow_44 : decode prog_8_method_3_code 44 = .ok (.goto 4, 3) := by decide +kernel
theorem dt_Rr_mayFollow_47 : decode prog_8_method_3_code 47 = .ok (.iconst 0, 1) := by decide +kernel
theorem dt_Rr_mayFollow_48 : decode prog_8_method_3_code 48 = .ok (.if_icmp .ne 7, 3) := by decide +kernel
theorem dt_Rr_mayFollow_51 : decode prog_8_method_3_code 51 = .ok (.iconst 1, 1) := by decide +kernel
theorem dt_Rr_mayFollow_52 : decode prog_8_method_3_code 52 = .ok (.goto 4, 3) := by decide +kernel
theorem dt_Rr_mayFollow_55 : decode prog_8_method_3_code 55 = .ok (.iconst 0, 1) := by decide +kernel
theorem dt_Rr_mayFollow_56 : decode prog_8_method_3_code 56 = .ok (.ireturn, 1) := by decide +kernel
set_option maxHeartbeats 4000000 in
set_option maxRecDepth 10000 in
theorem tm_Rr_mayFollow {N : Nat} {T : Nat → tm_S} {w : ab_W} {o : Nat} (hW : tm_W N T w) (h_o : is_Ri T o) (a : Int) (l_a : (-2147483648) ≤ a) (u_a : a ≤ 2147483647) (b : Int) (l_b : (-2147483648) ≤ b) (u_b : b ≤ 2147483647) (h : Int) (k_h : tm_g w o 7 = some (ab_I h)) : ab_Mt g_G g_rs mt_Rr_mayFollow 0 0 0 [ab_R o, ab_I a, ab_I b] w (tm_P w (fun v => 0 ≤ v ∧ v ≤ 1 ∧ (¬ v = 0 → a = 1 → h ≤ 6))) := by
  obtain ⟨ot0, ot1, ot2, ot3, ot4, ot5, ot6, ot7, ot8, ot9, ot10, ot11, ot12⟩ := id h_o
  have od := is_Ri.d h_o
  refine ab_Mt.of rfl (Nat.le_of_ble_eq_true rfl) ?_
  show ab_Ev g_G g_rs mt_Rr_mayFollow _ _ _ 0 [some (ab_R o), some (ab_I a), some (ab_I b)] [] _ _
  have b_h : 0 ≤ h ∧ h ≤ 7 := by obtain ⟨a, e, h0, h1⟩ := tm_peek (k := 7) (K := 7) hW ot0 rfl rfl; rw [k_h] at e; injection e with e; injection e with e; omega
  refine ev_iload_n dt_Rr_mayFollow_0 rfl rfl ?_
  refine ev_iconst dt_Rr_mayFollow_1 ?_
  refine ev_icmp_ne (tgt := 14) dt_Rr_mayFollow_2 (by decide) (by omega) (by omega) (fun h1 => ?_) (fun h1 => ?_)
  · skip
    refine ev_iload_n dt_Rr_mayFollow_14 rfl rfl ?_
    refine ev_iconst dt_Rr_mayFollow_15 ?_
    refine ev_icmp_ne (tgt := 30) dt_Rr_mayFollow_16 (by decide) (by omega) (by omega) (fun h2 => ?_) (fun h2 => ?_)
    · skip
      refine ev_iload_n dt_Rr_mayFollow_30 rfl rfl ?_
      refine ev_if_ne (tgt := 38) dt_Rr_mayFollow_31 (by decide) (by omega) (fun h3 => ?_) (fun h3 => ?_)
      · skip
        refine ev_iconst dt_Rr_mayFollow_38 ?_
        refine ev_iload_n dt_Rr_mayFollow_39 rfl rfl ?_
        refine ev_if_ne (tgt := 47) dt_Rr_mayFollow_40 (by decide) (by omega) (fun h4 => ?_) (fun h4 => ?_)
        · skip
          refine ev_iconst dt_Rr_mayFollow_47 ?_
          refine ev_icmp_ne (tgt := 55) dt_Rr_mayFollow_48 (by decide) (by omega) (by omega) (fun h5 => ?_) (fun h5 => ?_)
          · skip
            exfalso
            omega
          · skip
            refine ev_iconst dt_Rr_mayFollow_51 ?_
            refine ev_goto (tgt := 56) dt_Rr_mayFollow_52 (by decide) ?_
            exact ev_zreturn dt_Rr_mayFollow_56 rfl (by omega) ⟨rfl, _, rfl, by omega⟩
        · skip
          refine ev_iconst dt_Rr_mayFollow_43 ?_
          refine ev_goto (tgt := 48) dt_Rr_mayFollow_44 (by decide) ?_
          refine ev_icmp_ne (tgt := 55) dt_Rr_mayFollow_48 (by decide) (by omega) (by omega) (fun h6 => ?_) (fun h6 => ?_)
          · skip
            refine ev_iconst dt_Rr_mayFollow_55 ?_
            exact ev_zreturn dt_Rr_mayFollow_56 rfl (by omega) ⟨rfl, _, rfl, by omega⟩
          · skip
            exfalso
            omega
      · skip
        refine ev_iconst dt_Rr_mayFollow_34 ?_
        refine ev_goto (tgt := 39) dt_Rr_mayFollow_35 (by decide) ?_
        refine ev_iload_n dt_Rr_mayFollow_39 rfl rfl ?_
        refine ev_if_ne (tgt := 47) dt_Rr_mayFollow_40 (by decide) (by omega) (fun h7 => ?_) (fun h7 => ?_)
        · skip
          refine ev_iconst dt_Rr_mayFollow_47 ?_
          refine ev_icmp_ne (tgt := 55) dt_Rr_mayFollow_48 (by decide) (by omega) (by omega) (fun h8 => ?_) (fun h8 => ?_)
          · skip
            refine ev_iconst dt_Rr_mayFollow_55 ?_
            exact ev_zreturn dt_Rr_mayFollow_56 rfl (by omega) ⟨rfl, _, rfl, by omega⟩
          · skip
            exfalso
            omega
        · skip
          refine ev_iconst dt_Rr_mayFollow_43 ?_
          refine ev_goto (tgt := 48) dt_Rr_mayFollow_44 (by decide) ?_
          refine ev_icmp_ne (tgt := 55) dt_Rr_mayFollow_48 (by decide) (by omega) (by omega) (fun h9 => ?_) (fun h9 => ?_)
          · skip
            exfalso
            omega
          · skip
            refine ev_iconst dt_Rr_mayFollow_51 ?_
            refine ev_goto (tgt := 56) dt_Rr_mayFollow_52 (by decide) ?_
            exact ev_zreturn dt_Rr_mayFollow_56 rfl (by omega) ⟨rfl, _, rfl, by omega⟩
    · skip
      refine ev_aload_n dt_Rr_mayFollow_19 rfl rfl ?_
      refine tm_getI (K := 8) dt_Rr_mayFollow_20 hW ot0 fl_Rr_56 rfl rfl (fun v10 kv10 lv10 uv10 => ?_)
      refine ev_bipush dt_Rr_mayFollow_23 rfl ?_
      refine ev_icmp_ne (tgt := 30) dt_Rr_mayFollow_25 (by decide) (by omega) (by omega) (fun h11 => ?_) (fun h11 => ?_)
      · skip
        refine ev_iload_n dt_Rr_mayFollow_30 rfl rfl ?_
        refine ev_if_ne (tgt := 38) dt_Rr_mayFollow_31 (by decide) (by omega) (fun h12 => ?_) (fun h12 => ?_)
        · skip
          refine ev_iconst dt_Rr_mayFollow_38 ?_
          refine ev_iload_n dt_Rr_mayFollow_39 rfl rfl ?_
          refine ev_if_ne (tgt := 47) dt_Rr_mayFollow_40 (by decide) (by omega) (fun h13 => ?_) (fun h13 => ?_)
          · skip
            refine ev_iconst dt_Rr_mayFollow_47 ?_
            refine ev_icmp_ne (tgt := 55) dt_Rr_mayFollow_48 (by decide) (by omega) (by omega) (fun h14 => ?_) (fun h14 => ?_)
            · skip
              exfalso
              omega
            · skip
              refine ev_iconst dt_Rr_mayFollow_51 ?_
              refine ev_goto (tgt := 56) dt_Rr_mayFollow_52 (by decide) ?_
              exact ev_zreturn dt_Rr_mayFollow_56 rfl (by omega) ⟨rfl, _, rfl, by omega⟩
          · skip
            refine ev_iconst dt_Rr_mayFollow_43 ?_
            refine ev_goto (tgt := 48) dt_Rr_mayFollow_44 (by decide) ?_
            refine ev_icmp_ne (tgt := 55) dt_Rr_mayFollow_48 (by decide) (by omega) (by omega) (fun h15 => ?_) (fun h15 => ?_)
            · skip
              refine ev_iconst dt_Rr_mayFollow_55 ?_
              exact ev_zreturn dt_Rr_mayFollow_56 rfl (by omega) ⟨rfl, _, rfl, by omega⟩
            · skip
              exfalso
              omega
        · skip
          exfalso
          omega
      · skip
        refine ev_iconst dt_Rr_mayFollow_28 ?_
        exact ev_zreturn dt_Rr_mayFollow_29 rfl (by omega) ⟨rfl, _, rfl, by omega⟩
  · skip
    refine ev_aload_n dt_Rr_mayFollow_5 rfl rfl ?_
    refine tm_getK (K := 7) dt_Rr_mayFollow_6 hW ot0 fl_Rr_53 rfl k_h ?_
    refine ev_bipush dt_Rr_mayFollow_9 rfl ?_
    refine ev_icmp_eq (tgt := 28) dt_Rr_mayFollow_11 (by decide) (by omega) (by omega) (fun h16 => ?_) (fun h16 => ?_)
    · skip
      refine ev_iconst dt_Rr_mayFollow_28 ?_
      exact ev_zreturn dt_Rr_mayFollow_29 rfl (by omega) ⟨rfl, _, rfl, by omega⟩
    · skip
      refine ev_iload_n dt_Rr_mayFollow_14 rfl rfl ?_
      refine ev_iconst dt_Rr_mayFollow_15 ?_
      refine ev_icmp_ne (tgt := 30) dt_Rr_mayFollow_16 (by decide) (by omega) (by omega) (fun h17 => ?_) (fun h17 => ?_)
      · skip
        refine ev_iload_n dt_Rr_mayFollow_30 rfl rfl ?_
        refine ev_if_ne (tgt := 38) dt_Rr_mayFollow_31 (by decide) (by omega) (fun h18 => ?_) (fun h18 => ?_)
        · skip
          refine ev_iconst dt_Rr_mayFollow_38 ?_
          refine ev_iload_n dt_Rr_mayFollow_39 rfl rfl ?_
          refine ev_if_ne (tgt := 47) dt_Rr_mayFollow_40 (by decide) (by omega) (fun h19 => ?_) (fun h19 => ?_)
          · skip
            refine ev_iconst dt_Rr_mayFollow_47 ?_
            refine ev_icmp_ne (tgt := 55) dt_Rr_mayFollow_48 (by decide) (by omega) (by omega) (fun h20 => ?_) (fun h20 => ?_)
            · skip
              exfalso
              omega
            · skip
              refine ev_iconst dt_Rr_mayFollow_51 ?_
              refine ev_goto (tgt := 56) dt_Rr_mayFollow_52 (by decide) ?_
              exact ev_zreturn dt_Rr_mayFollow_56 rfl (by omega) ⟨rfl, _, rfl, by omega⟩
          · skip
            refine ev_iconst dt_Rr_mayFollow_43 ?_
            refine ev_goto (tgt := 48) dt_Rr_mayFollow_44 (by decide) ?_
            refine ev_icmp_ne (tgt := 55) dt_Rr_mayFollow_48 (by decide) (by omega) (by omega) (fun h21 => ?_) (fun h21 => ?_)
            · skip
              refine ev_iconst dt_Rr_mayFollow_55 ?_
              exact ev_zreturn dt_Rr_mayFollow_56 rfl (by omega) ⟨rfl, _, rfl, by omega⟩
            · skip
              exfalso
              omega
        · skip
          exfalso
          omega
      · skip
        exfalso
        omega
theorem dt_Rr_readHouse_0 : decode prog_8_method_5_code 0 = .ok (.aload_n 0, 1) := by decide +kernel
theorem dt_Rr_readHouse_1 : decode prog_8_method_5_code 1 = .ok (.getfield 43, 3) := by decide +kernel
theorem dt_Rr_readHouse_4 : decode prog_8_method_5_code 4 = .ok (.bipush (-2), 2) := by decide +kernel
theorem dt_Rr_readHouse_6 : decode prog_8_method_5_code 6 = .ok (.if_icmp .ne 19, 3) := by decide +kernel
theorem dt_Rr_readHouse_9 : decode prog_8_method_5_code 9 = .ok (.aload_n 1, 1) := by decide +kernel
theorem dt_Rr_readHouse_10 : decode prog_8_method_5_code 10 = .ok (.aload_n 0, 1) := by decide +kernel
theorem dt_Rr_readHouse_11 : decode prog_8_method_5_code 11 = .ok (.getfield 87, 3) := by decide +kernel
theorem dt_Rr_readHouse_14 : decode prog_8_method_5_code 14 = .ok (.invokevirtual 90, 3) := by decide +kernel
theorem dt_Rr_readHouse_17 : decode prog_8_method_5_code 17 = .ok (.ifCond .eq 8, 3) := by decide +kernel
theorem dt_Rr_readHouse_20 : decode prog_8_method_5_code 20 = .ok (.aload_n 0, 1) := by decide +kernel
theorem dt_Rr_readHouse_21 : decode prog_8_method_5_code 21 = .ok (.iconst 1, 1) := by decide +kernel
theorem dt_Rr_readHouse_22 : decode prog_8_method_5_code 22 = .ok (.invokevirtual 28, 3) := by decide +kernel
theorem dt_Rr_readHouse_25 : decode prog_8_method_5_code 25 = .ok (.aload_n 0, 1) := by decide +kernel
theorem dt_Rr_readHouse_26 : decode prog_8_method_5_code 26 = .ok (.iconst 0, 1) := by decide +kernel
theorem dt_Rr_readHouse_27 : decode prog_8_method_5_code 27 = .ok (.bipush 11, 2) := by decide +kernel
theorem dt_Rr_readHouse_29 : decode prog_8_method_5_code 29 = .ok (.invokevirtual 59, 3) := by decide +kernel
theorem dt_Rr_readHouse_32 : decode prog_8_method_5_code 32 = .ok (.istore_n 2, 1) := by decide +kernel
theorem dt_Rr_readHouse_33 : decode prog_8_method_5_code 33 = .ok (.aload_n 0, 1) := by decide +kernel
theorem dt_Rr_readHouse_34 : decode prog_8_method_5_code 34 = .ok (.iconst 1, 1) := by decide +kernel
theorem dt_Rr_readHouse_35 : decode prog_8_method_5_code 35 = .ok (.bipush 9, 2) := by decide +kernel
theorem dt_Rr_readHouse_37 : decode prog_8_method_5_code 37 = .ok (.invokevirtual 59, 3) := by decide +kernel
theorem dt_Rr_readHouse_40 : decode prog_8_method_5_code 40 = .ok (.istore_n 3, 1) := by decide +kernel
theorem dt_Rr_readHouse_41 : decode prog_8_method_5_code 41 = .ok (.aload_n 0, 1) := by decide +kernel
theorem dt_Rr_readHouse_42 : decode prog_8_method_5_code 42 = .ok (.getfield 46, 3) := by decide +kernel
theorem dt_Rr_readHouse_45 : decode prog_8_method_5_code 45 = .ok (.ifCond .ne 9, 3) := by decide +kernel
theorem dt_Rr_readHouse_48 : decode prog_8_method_5_code 48 = .ok (.aload_n 1, 1) := by decide +kernel
theorem dt_Rr_readHouse_49 : decode prog_8_method_5_code 49 = .ok (.iload_n 2, 1) := by decide +kernel
theorem dt_Rr_readHouse_50 : decode prog_8_method_5_code 50 = .ok (.iload_n 3, 1) := by decide +kernel
theorem dt_Rr_readHouse_51 : decode prog_8_method_5_code 51 = .ok (.invokevirtual 94, 3) := by decide +kernel
theorem dt_Rr_readHouse_54 : decode prog_8_method_5_code 54 = .ok (.return_, 1) := by decide +kernel
set_option maxHeartbeats 4000000 in
set_option maxRecDepth 10000 in
theorem tm_Rr_readHouse {N : Nat} {T : Nat → tm_S} {w : ab_W} {tp : Nat} {o : Nat} (hW : tm_W N T w) (h_tp : is_Ta T tp) (h_o : is_Ri T o) (ne_tp_o : tp + 2 ≤ o ∨ o + 13 ≤ tp) (h : Int) (k_h : tm_g w o 7 = some (ab_I h)) (l_h : 0 ≤ h) (u_h : h ≤ 6) : ab_Mt g_G g_rs mt_Rr_readHouse 7 0 0 [ab_R tp, ab_R o] w (tm_Qv N T (fun w2 => (∀ (p : Nat) (j : Int), ¬ ((p = tp ∧ (j = 2 ∨ j = 5 ∨ j = 6 ∨ j = 7 ∨ j = 8 ∨ j = 4)) ∨ p = (o + 1) ∨ p = (o + 2) ∨ p = (o + 3) ∨ (p = o ∧ (j = 7))) → tm_g w2 p j = tm_g w p j))) := by
  obtain ⟨tpt0, tpt1⟩ := id h_tp
  obtain ⟨ot0, ot1, ot2, ot3, ot4, ot5, ot6, ot7, ot8, ot9, ot10, ot11, ot12⟩ := id h_o
  have od := is_Ri.d h_o
  have hF0 : ∀ (p : Nat) (j : Int), ¬ ((p = tp ∧ (j = 2 ∨ j = 5 ∨ j = 6 ∨ j = 7 ∨ j = 8 ∨ j = 4)) ∨ p = (o + 1) ∨ p = (o + 2) ∨ p = (o + 3) ∨ (p = o ∧ (j = 7))) → tm_g w p j = tm_g w p j := fun _ _ _ => rfl
  refine ab_Mt.of rfl (Nat.le_of_ble_eq_true rfl) ?_
  show ab_Ev g_G g_rs mt_Rr_readHouse _ _ _ 0 [some (ab_R tp), some (ab_R o), none, none] [] _ _
  refine ev_aload_n dt_Rr_readHouse_0 rfl rfl ?_
  refine tm_getI (K := 6) dt_Rr_readHouse_1 hW tpt0 fl_Rr_43 rfl rfl (fun v22 kv22 lv22 uv22 => ?_)
  refine ev_bipush dt_Rr_readHouse_4 rfl ?_
  refine ev_icmp_ne (tgt := 25) dt_Rr_readHouse_6 (by decide) (by omega) (by omega) (fun h23 => ?_) (fun h23 => ?_)
  · skip
    refine ev_aload_n dt_Rr_readHouse_25 rfl rfl ?_
    refine ev_iconst dt_Rr_readHouse_26 ?_
    refine ev_bipush dt_Rr_readHouse_27 rfl ?_
    obtain ⟨v24, kv24, lv24, uv24⟩ := tm_peek (k := 4) (K := 4) hW tpt0 rfl rfl
    refine tm_vi dt_Rr_readHouse_29 (tm_Ta_takeNumber hW h_tp (0) (by omega) (by omega) (11) (by omega) (by omega) (v24) kv24) kb_Rr_59 ⟨im_Ta_takeNumber, se_Ta_takeNumber⟩ rfl hW tpt0 rfl (Nat.le_of_ble_eq_true rfl) (by decide) (fun w25 v27 hWw25 hRw25 => ?_)
    obtain ⟨hfw25, v26, kv26, hpw25⟩ := hRw25
    have hFw25 : ∀ (p : Nat) (j : Int), ¬ ((p = tp ∧ (j = 2 ∨ j = 5 ∨ j = 6 ∨ j = 7 ∨ j = 8 ∨ j = 4)) ∨ p = (o + 1) ∨ p = (o + 2) ∨ p = (o + 3) ∨ (p = o ∧ (j = 7))) → tm_g w25 p j = tm_g w p j := fun p j h => (hfw25 p j (by omega)).trans (hF0 p j h)
    have z28 := (hfw25 o 7 (by omega)).trans k_h
    have bv26 : (-2147483648) ≤ v26 ∧ v26 ≤ 2147483647 := by obtain ⟨a, e, h0, h1⟩ := tm_peek (k := 4) (K := 4) hWw25 tpt0 rfl rfl; rw [kv26] at e; injection e with e; injection e with e; omega
    have hbv27 : (-1) ≤ v27 ∧ v27 ≤ 11 := by omega
    refine ev_istore_n (l' := [_, _, _, _]) dt_Rr_readHouse_32 rfl (Nat.le_of_ble_eq_true rfl) rfl ?_
    refine ev_aload_n dt_Rr_readHouse_33 rfl rfl ?_
    refine ev_iconst dt_Rr_readHouse_34 ?_
    refine ev_bipush dt_Rr_readHouse_35 rfl ?_
    refine tm_vi dt_Rr_readHouse_37 (tm_Ta_takeNumber hWw25 h_tp (1) (by omega) (by omega) (9) (by omega) (by omega) (v26) kv26) kb_Rr_59 ⟨im_Ta_takeNumber, se_Ta_takeNumber⟩ rfl hWw25 tpt0 rfl (Nat.le_of_ble_eq_true rfl) (by decide) (fun w29 v31 hWw29 hRw29 => ?_)
    obtain ⟨hfw29, v30, kv30, hpw29⟩ := hRw29
    have hFw29 : ∀ (p : Nat) (j : Int), ¬ ((p = tp ∧ (j = 2 ∨ j = 5 ∨ j = 6 ∨ j = 7 ∨ j = 8 ∨ j = 4)) ∨ p = (o + 1) ∨ p = (o + 2) ∨ p = (o + 3) ∨ (p = o ∧ (j = 7))) → tm_g w29 p j = tm_g w p j := fun p j h => (hfw29 p j (by omega)).trans (hFw25 p j h)
    have z32 := (hfw29 o 7 (by omega)).trans z28
    have bv30 : (-2147483648) ≤ v30 ∧ v30 ≤ 2147483647 := by obtain ⟨a, e, h0, h1⟩ := tm_peek (k := 4) (K := 4) hWw29 tpt0 rfl rfl; rw [kv30] at e; injection e with e; injection e with e; omega
    have hbv31 : (-1) ≤ v31 ∧ v31 ≤ 9 := by omega
    refine ev_istore_n (l' := [_, _, _, _]) dt_Rr_readHouse_40 rfl (Nat.le_of_ble_eq_true rfl) rfl ?_
    refine ev_aload_n dt_Rr_readHouse_41 rfl rfl ?_
    refine tm_getK (K := 4) dt_Rr_readHouse_42 hWw29 tpt0 fl_Rr_46 rfl kv30 ?_
    refine ev_if_ne (tgt := 54) dt_Rr_readHouse_45 (by decide) (by omega) (fun h33 => ?_) (fun h33 => ?_)
    · skip
      exact ev_return dt_Rr_readHouse_54 rfl ⟨hWw29, rfl, hFw29⟩
    · skip
      refine ev_aload_n dt_Rr_readHouse_48 rfl rfl ?_
      refine ev_iload_n dt_Rr_readHouse_49 rfl rfl ?_
      refine ev_iload_n dt_Rr_readHouse_50 rfl rfl ?_
      refine tm_vv dt_Rr_readHouse_51 (tm_Ri_addHouse hWw29 h_o (v27) (by omega) (by omega) (v31) (by omega) (by omega) (h) z32 (by omega) (by omega)) kb_Rr_94 ⟨im_Ri_addHouse, se_Ri_addHouse⟩ rfl hWw29 ot0 rfl (Nat.le_of_ble_eq_true rfl) (by decide) (fun w34 hWw34 hRw34 => ?_)
      have hfw34 := hRw34
      have hFw34 : ∀ (p : Nat) (j : Int), ¬ ((p = tp ∧ (j = 2 ∨ j = 5 ∨ j = 6 ∨ j = 7 ∨ j = 8 ∨ j = 4)) ∨ p = (o + 1) ∨ p = (o + 2) ∨ p = (o + 3) ∨ (p = o ∧ (j = 7))) → tm_g w34 p j = tm_g w p j := fun p j h => (hfw34 p j (by omega)).trans (hFw29 p j h)
      have z35 := (hfw34 tp 4 (by omega)).trans kv30
      exact ev_return dt_Rr_readHouse_54 rfl ⟨hWw34, rfl, hFw34⟩
  · skip
    refine ev_aload_n dt_Rr_readHouse_9 rfl rfl ?_
    refine ev_aload_n dt_Rr_readHouse_10 rfl rfl ?_
    refine tm_getI (K := 7) dt_Rr_readHouse_11 hW tpt0 fl_Rr_87 rfl rfl (fun v36 kv36 lv36 uv36 => ?_)
    refine tm_vp dt_Rr_readHouse_14 (tm_Ri_slotTaken hW h_o (v36) (by omega) (by omega)) kb_Rr_90 ⟨im_Ri_slotTaken, se_Ri_slotTaken⟩ rfl hW ot0 rfl (Nat.le_of_ble_eq_true rfl) (by decide) (fun v37 hv37 => ?_)
    refine ev_if_eq (tgt := 25) dt_Rr_readHouse_17 (by decide) (by omega) (fun h38 => ?_) (fun h38 => ?_)
    · skip
      refine ev_aload_n dt_Rr_readHouse_25 rfl rfl ?_
      refine ev_iconst dt_Rr_readHouse_26 ?_
      refine ev_bipush dt_Rr_readHouse_27 rfl ?_
      obtain ⟨v39, kv39, lv39, uv39⟩ := tm_peek (k := 4) (K := 4) hW tpt0 rfl rfl
      refine tm_vi dt_Rr_readHouse_29 (tm_Ta_takeNumber hW h_tp (0) (by omega) (by omega) (11) (by omega) (by omega) (v39) kv39) kb_Rr_59 ⟨im_Ta_takeNumber, se_Ta_takeNumber⟩ rfl hW tpt0 rfl (Nat.le_of_ble_eq_true rfl) (by decide) (fun w40 v42 hWw40 hRw40 => ?_)
      obtain ⟨hfw40, v41, kv41, hpw40⟩ := hRw40
      have hFw40 : ∀ (p : Nat) (j : Int), ¬ ((p = tp ∧ (j = 2 ∨ j = 5 ∨ j = 6 ∨ j = 7 ∨ j = 8 ∨ j = 4)) ∨ p = (o + 1) ∨ p = (o + 2) ∨ p = (o + 3) ∨ (p = o ∧ (j = 7))) → tm_g w40 p j = tm_g w p j := fun p j h => (hfw40 p j (by omega)).trans (hF0 p j h)
      have z43 := (hfw40 o 7 (by omega)).trans k_h
      have bv41 : (-2147483648) ≤ v41 ∧ v41 ≤ 2147483647 := by obtain ⟨a, e, h0, h1⟩ := tm_peek (k := 4) (K := 4) hWw40 tpt0 rfl rfl; rw [kv41] at e; injection e with e; injection e with e; omega
      have hbv42 : (-1) ≤ v42 ∧ v42 ≤ 11 := by omega
      refine ev_istore_n (l' := [_, _, _, _]) dt_Rr_readHouse_32 rfl (Nat.le_of_ble_eq_true rfl) rfl ?_
      refine ev_aload_n dt_Rr_readHouse_33 rfl rfl ?_
      refine ev_iconst dt_Rr_readHouse_34 ?_
      refine ev_bipush dt_Rr_readHouse_35 rfl ?_
      refine tm_vi dt_Rr_readHouse_37 (tm_Ta_takeNumber hWw40 h_tp (1) (by omega) (by omega) (9) (by omega) (by omega) (v41) kv41) kb_Rr_59 ⟨im_Ta_takeNumber, se_Ta_takeNumber⟩ rfl hWw40 tpt0 rfl (Nat.le_of_ble_eq_true rfl) (by decide) (fun w44 v46 hWw44 hRw44 => ?_)
      obtain ⟨hfw44, v45, kv45, hpw44⟩ := hRw44
      have hFw44 : ∀ (p : Nat) (j : Int), ¬ ((p = tp ∧ (j = 2 ∨ j = 5 ∨ j = 6 ∨ j = 7 ∨ j = 8 ∨ j = 4)) ∨ p = (o + 1) ∨ p = (o + 2) ∨ p = (o + 3) ∨ (p = o ∧ (j = 7))) → tm_g w44 p j = tm_g w p j := fun p j h => (hfw44 p j (by omega)).trans (hFw40 p j h)
      have z47 := (hfw44 o 7 (by omega)).trans z43
      have bv45 : (-2147483648) ≤ v45 ∧ v45 ≤ 2147483647 := by obtain ⟨a, e, h0, h1⟩ := tm_peek (k := 4) (K := 4) hWw44 tpt0 rfl rfl; rw [kv45] at e; injection e with e; injection e with e; omega
      have hbv46 : (-1) ≤ v46 ∧ v46 ≤ 9 := by omega
      refine ev_istore_n (l' := [_, _, _, _]) dt_Rr_readHouse_40 rfl (Nat.le_of_ble_eq_true rfl) rfl ?_
      refine ev_aload_n dt_Rr_readHouse_41 rfl rfl ?_
      refine tm_getK (K := 4) dt_Rr_readHouse_42 hWw44 tpt0 fl_Rr_46 rfl kv45 ?_
      refine ev_if_ne (tgt := 54) dt_Rr_readHouse_45 (by decide) (by omega) (fun h48 => ?_) (fun h48 => ?_)
      · skip
        exact ev_return dt_Rr_readHouse_54 rfl ⟨hWw44, rfl, hFw44⟩
      · skip
        refine ev_aload_n dt_Rr_readHouse_48 rfl rfl ?_
        refine ev_iload_n dt_Rr_readHouse_49 rfl rfl ?_
        refine ev_iload_n dt_Rr_readHouse_50 rfl rfl ?_
        refine tm_vv dt_Rr_readHouse_51 (tm_Ri_addHouse hWw44 h_o (v42) (by omega) (by omega) (v46) (by omega) (by omega) (h) z47 (by omega) (by omega)) kb_Rr_94 ⟨im_Ri_addHouse, se_Ri_addHouse⟩ rfl hWw44 ot0 rfl (Nat.le_of_ble_eq_true rfl) (by decide) (fun w49 hWw49 hRw49 => ?_)
        have hfw49 := hRw49
        have hFw49 : ∀ (p : Nat) (j : Int), ¬ ((p = tp ∧ (j = 2 ∨ j = 5 ∨ j = 6 ∨ j = 7 ∨ j = 8 ∨ j = 4)) ∨ p = (o + 1) ∨ p = (o + 2) ∨ p = (o + 3) ∨ (p = o ∧ (j = 7))) → tm_g w49 p j = tm_g w p j := fun p j h => (hfw49 p j (by omega)).trans (hFw44 p j h)
        have z50 := (hfw49 tp 4 (by omega)).trans kv45
        exact ev_return dt_Rr_readHouse_54 rfl ⟨hWw49, rfl, hFw49⟩
    · skip
      refine ev_aload_n dt_Rr_readHouse_20 rfl rfl ?_
      refine ev_iconst dt_Rr_readHouse_21 ?_
      refine tm_vv dt_Rr_readHouse_22 (tm_Ta_fail hW h_tp (1) (by omega) (by omega)) kb_Rr_28 ⟨im_Ta_fail, se_Ta_fail⟩ rfl hW tpt0 rfl (Nat.le_of_ble_eq_true rfl) (by decide) (fun w51 hWw51 hRw51 => ?_)
      obtain ⟨hfw51, v52, kv52, hpw51⟩ := hRw51
      have hFw51 : ∀ (p : Nat) (j : Int), ¬ ((p = tp ∧ (j = 2 ∨ j = 5 ∨ j = 6 ∨ j = 7 ∨ j = 8 ∨ j = 4)) ∨ p = (o + 1) ∨ p = (o + 2) ∨ p = (o + 3) ∨ (p = o ∧ (j = 7))) → tm_g w51 p j = tm_g w p j := fun p j h => (hfw51 p j (by omega)).trans (hF0 p j h)
      have z53 := (hfw51 o 7 (by omega)).trans k_h
      have bv52 : (-2147483648) ≤ v52 ∧ v52 ≤ 2147483647 := by obtain ⟨a, e, h0, h1⟩ := tm_peek (k := 4) (K := 4) hWw51 tpt0 rfl rfl; rw [kv52] at e; injection e with e; injection e with e; omega
      refine ev_aload_n dt_Rr_readHouse_25 rfl rfl ?_
      refine ev_iconst dt_Rr_readHouse_26 ?_
      refine ev_bipush dt_Rr_readHouse_27 rfl ?_
      refine tm_vi dt_Rr_readHouse_29 (tm_Ta_takeNumber hWw51 h_tp (0) (by omega) (by omega) (11) (by omega) (by omega) (v52) kv52) kb_Rr_59 ⟨im_Ta_takeNumber, se_Ta_takeNumber⟩ rfl hWw51 tpt0 rfl (Nat.le_of_ble_eq_true rfl) (by decide) (fun w54 v56 hWw54 hRw54 => ?_)
      obtain ⟨hfw54, v55, kv55, hpw54⟩ := hRw54
      have hFw54 : ∀ (p : Nat) (j : Int), ¬ ((p = tp ∧ (j = 2 ∨ j = 5 ∨ j = 6 ∨ j = 7 ∨ j = 8 ∨ j = 4)) ∨ p = (o + 1) ∨ p = (o + 2) ∨ p = (o + 3) ∨ (p = o ∧ (j = 7))) → tm_g w54 p j = tm_g w p j := fun p j h => (hfw54 p j (by omega)).trans (hFw51 p j h)
      have z57 := (hfw54 o 7 (by omega)).trans z53
      have bv55 : (-2147483648) ≤ v55 ∧ v55 ≤ 2147483647 := by obtain ⟨a, e, h0, h1⟩ := tm_peek (k := 4) (K := 4) hWw54 tpt0 rfl rfl; rw [kv55] at e; injection e with e; injection e with e; omega
      have hbv56 : (-1) ≤ v56 ∧ v56 ≤ 11 := by omega
      refine ev_istore_n (l' := [_, _, _, _]) dt_Rr_readHouse_32 rfl (Nat.le_of_ble_eq_true rfl) rfl ?_
      refine ev_aload_n dt_Rr_readHouse_33 rfl rfl ?_
      refine ev_iconst dt_Rr_readHouse_34 ?_
      refine ev_bipush dt_Rr_readHouse_35 rfl ?_
      refine tm_vi dt_Rr_readHouse_37 (tm_Ta_takeNumber hWw54 h_tp (1) (by omega) (by omega) (9) (by omega) (by omega) (v55) kv55) kb_Rr_59 ⟨im_Ta_takeNumber, se_Ta_takeNumber⟩ rfl hWw54 tpt0 rfl (Nat.le_of_ble_eq_true rfl) (by decide) (fun w58 v60 hWw58 hRw58 => ?_)
      obtain ⟨hfw58, v59, kv59, hpw58⟩ := hRw58
      have hFw58 : ∀ (p : Nat) (j : Int), ¬ ((p = tp ∧ (j = 2 ∨ j = 5 ∨ j = 6 ∨ j = 7 ∨ j = 8 ∨ j = 4)) ∨ p = (o + 1) ∨ p = (o + 2) ∨ p = (o + 3) ∨ (p = o ∧ (j = 7))) → tm_g w58 p j = tm_g w p j := fun p j h => (hfw58 p j (by omega)).trans (hFw54 p j h)
      have z61 := (hfw58 o 7 (by omega)).trans z57
      have bv59 : (-2147483648) ≤ v59 ∧ v59 ≤ 2147483647 := by obtain ⟨a, e, h0, h1⟩ := tm_peek (k := 4) (K := 4) hWw58 tpt0 rfl rfl; rw [kv59] at e; injection e with e; injection e with e; omega
      have hbv60 : (-1) ≤ v60 ∧ v60 ≤ 9 := by omega
      refine ev_istore_n (l' := [_, _, _, _]) dt_Rr_readHouse_40 rfl (Nat.le_of_ble_eq_true rfl) rfl ?_
      refine ev_aload_n dt_Rr_readHouse_41 rfl rfl ?_
      refine tm_getK (K := 4) dt_Rr_readHouse_42 hWw58 tpt0 fl_Rr_46 rfl kv59 ?_
      refine ev_if_ne (tgt := 54) dt_Rr_readHouse_45 (by decide) (by omega) (fun h62 => ?_) (fun h62 => ?_)
      · skip
        exact ev_return dt_Rr_readHouse_54 rfl ⟨hWw58, rfl, hFw58⟩
      · skip
        refine ev_aload_n dt_Rr_readHouse_48 rfl rfl ?_
        refine ev_iload_n dt_Rr_readHouse_49 rfl rfl ?_
        refine ev_iload_n dt_Rr_readHouse_50 rfl rfl ?_
        refine tm_vv dt_Rr_readHouse_51 (tm_Ri_addHouse hWw58 h_o (v56) (by omega) (by omega) (v60) (by omega) (by omega) (h) z61 (by omega) (by omega)) kb_Rr_94 ⟨im_Ri_addHouse, se_Ri_addHouse⟩ rfl hWw58 ot0 rfl (Nat.le_of_ble_eq_true rfl) (by decide) (fun w63 hWw63 hRw63 => ?_)
        have hfw63 := hRw63
        have hFw63 : ∀ (p : Nat) (j : Int), ¬ ((p = tp ∧ (j = 2 ∨ j = 5 ∨ j = 6 ∨ j = 7 ∨ j = 8 ∨ j = 4)) ∨ p = (o + 1) ∨ p = (o + 2) ∨ p = (o + 3) ∨ (p = o ∧ (j = 7))) → tm_g w63 p j = tm_g w p j := fun p j h => (hfw63 p j (by omega)).trans (hFw58 p j h)
        have z64 := (hfw63 tp 4 (by omega)).trans kv59
        exact ev_return dt_Rr_readHouse_54 rfl ⟨hWw63, rfl, hFw63⟩
theorem dt_Rr_readSight_0 : decode prog_8_method_6_code 0 = .ok (.aload_n 0, 1) := by decide +kernel
theorem dt_Rr_readSight_1 : decode prog_8_method_6_code 1 = .ok (.iconst 0, 1) := by decide +kernel
theorem dt_Rr_readSight_2 : decode prog_8_method_6_code 2 = .ok (.iconst 4, 1) := by decide +kernel
theorem dt_Rr_readSight_3 : decode prog_8_method_6_code 3 = .ok (.invokevirtual 59, 3) := by decide +kernel
theorem dt_Rr_readSight_6 : decode prog_8_method_6_code 6 = .ok (.istore_n 2, 1) := by decide +kernel
theorem dt_Rr_readSight_7 : decode prog_8_method_6_code 7 = .ok (.aload_n 0, 1) := by decide +kernel
theorem dt_Rr_readSight_8 : decode prog_8_method_6_code 8 = .ok (.iconst 0, 1) := by decide +kernel
theorem dt_Rr_readSight_9 : decode prog_8_method_6_code 9 = .ok (.bipush 11, 2) := by decide +kernel
theorem dt_Rr_readSight_11 : decode prog_8_method_6_code 11 = .ok (.invokevirtual 59, 3) := by decide +kernel
theorem dt_Rr_readSight_14 : decode prog_8_method_6_code 14 = .ok (.istore_n 3, 1) := by decide +kernel
theorem dt_Rr_readSight_15 : decode prog_8_method_6_code 15 = .ok (.aload_n 0, 1) := by decide +kernel
theorem dt_Rr_readSight_16 : decode prog_8_method_6_code 16 = .ok (.iconst 0, 1) := by decide +kernel
theorem dt_Rr_readSight_17 : decode prog_8_method_6_code 17 = .ok (.bipush 23, 2) := by decide +kernel
theorem dt_Rr_readSight_19 : decode prog_8_method_6_code 19 = .ok (.invokevirtual 59, 3) := by decide +kernel
theorem dt_Rr_readSight_22 : decode prog_8_method_6_code 22 = .ok (.istore 4, 2) := by decide +kernel
theorem dt_Rr_readSight_24 : decode prog_8_method_6_code 24 = .ok (.aload_n 0, 1) := by decide +kernel
theorem dt_Rr_readSight_25 : decode prog_8_method_6_code 25 = .ok (.iload 4, 2) := by decide +kernel
theorem dt_Rr_readSight_27 : decode prog_8_method_6_code 27 = .ok (.bipush 23, 2) := by decide +kernel
theorem dt_Rr_readSight_29 : decode prog_8_method_6_code 29 = .ok (.invokevirtual 59, 3) := by decide +kernel
theorem dt_Rr_readSight_32 : decode prog_8_method_6_code 32 = .ok (.istore 5, 2) := by decide +kernel
theorem dt_Rr_readSight_34 : decode prog_8_method_6_code 34 = .ok (.aload_n 0, 1) := by decide +kernel
theorem dt_Rr_readSight_35 : decode prog_8_method_6_code 35 = .ok (.getfield 46, 3) := by decide +kernel
theorem dt_Rr_readSight_38 : decode prog_8_method_6_code 38 = .ok (.ifCond .ne 13, 3) := by decide +kernel
theorem dt_Rr_readSight_41 : decode prog_8_method_6_code 41 = .ok (.aload_n 1, 1) := by decide +kernel
theorem dt_Rr_readSight_42 : decode prog_8_method_6_code 42 = .ok (.iload_n 2, 1) := by decide +kernel
theorem dt_Rr_readSight_43 : decode prog_8_method_6_code 43 = .ok (.iload_n 3, 1) := by decide +kernel
theorem dt_Rr_readSight_44 : decode prog_8_method_6_code 44 = .ok (.iload 4, 2) := by decide +kernel
theorem dt_Rr_readSight_46 : decode prog_8_method_6_code 46 = .ok (.iload 5, 2) := by decide +kernel
theorem dt_Rr_readSight_48 : decode prog_8_method_6_code 48 = .ok (.invokevirtual 98, 3) := by decide +kernel
theorem dt_Rr_readSight_51 : decode prog_8_method_6_code 51 = .ok (.return_, 1) := by decide +kernel
set_option maxHeartbeats 4000000 in
set_option maxRecDepth 10000 in
theorem tm_Rr_readSight {N : Nat} {T : Nat → tm_S} {w : ab_W} {tp : Nat} {o : Nat} (hW : tm_W N T w) (h_tp : is_Ta T tp) (h_o : is_Ri T o) (ne_tp_o : tp + 2 ≤ o ∨ o + 13 ≤ tp) : ab_Mt g_G g_rs mt_Rr_readSight 7 0 0 [ab_R tp, ab_R o] w (tm_Qv N T (fun w2 => (∀ (p : Nat) (j : Int), ¬ ((p = tp ∧ (j = 2 ∨ j = 5 ∨ j = 6 ∨ j = 7 ∨ j = 8 ∨ j = 4)) ∨ p = (o + 5) ∨ (p = o ∧ (j = 8))) → tm_g w2 p j = tm_g w p j))) := by
  obtain ⟨tpt0, tpt1⟩ := id h_tp
  obtain ⟨ot0, ot1, ot2, ot3, ot4, ot5, ot6, ot7, ot8, ot9, ot10, ot11, ot12⟩ := id h_o
  have od := is_Ri.d h_o
  have hF0 : ∀ (p : Nat) (j : Int), ¬ ((p = tp ∧ (j = 2 ∨ j = 5 ∨ j = 6 ∨ j = 7 ∨ j = 8 ∨ j = 4)) ∨ p = (o + 5) ∨ (p = o ∧ (j = 8))) → tm_g w p j = tm_g w p j := fun _ _ _ => rfl
  refine ab_Mt.of rfl (Nat.le_of_ble_eq_true rfl) ?_
  show ab_Ev g_G g_rs mt_Rr_readSight _ _ _ 0 [some (ab_R tp), some (ab_R o), none, none, none, none] [] _ _
  refine ev_aload_n dt_Rr_readSight_0 rfl rfl ?_
  refine ev_iconst dt_Rr_readSight_1 ?_
  refine ev_iconst dt_Rr_readSight_2 ?_
  obtain ⟨v65, kv65, lv65, uv65⟩ := tm_peek (k := 4) (K := 4) hW tpt0 rfl rfl
  refine tm_vi dt_Rr_readSight_3 (tm_Ta_takeNumber hW h_tp (0) (by omega) (by omega) (4) (by omega) (by omega) (v65) kv65) kb_Rr_59 ⟨im_Ta_takeNumber, se_Ta_takeNumber⟩ rfl hW tpt0 rfl (Nat.le_of_ble_eq_true rfl) (by decide) (fun w66 v68 hWw66 hRw66 => ?_)
  obtain ⟨hfw66, v67, kv67, hpw66⟩ := hRw66
  have hFw66 : ∀ (p : Nat) (j : Int), ¬ ((p = tp ∧ (j = 2 ∨ j = 5 ∨ j = 6 ∨ j = 7 ∨ j = 8 ∨ j = 4)) ∨ p = (o + 5) ∨ (p = o ∧ (j = 8))) → tm_g w66 p j = tm_g w p j := fun p j h => (hfw66 p j (by omega)).trans (hF0 p j h)
  have bv67 : (-2147483648) ≤ v67 ∧ v67 ≤ 2147483647 := by obtain ⟨a, e, h0, h1⟩ := tm_peek (k := 4) (K := 4) hWw66 tpt0 rfl rfl; rw [kv67] at e; injection e with e; injection e with e; omega
  have hbv68 : (-1) ≤ v68 ∧ v68 ≤ 4 := by omega
  refine ev_istore_n (l' := [_, _, _, _, _, _]) dt_Rr_readSight_6 rfl (Nat.le_of_ble_eq_true rfl) rfl ?_
  refine ev_aload_n dt_Rr_readSight_7 rfl rfl ?_
  refine ev_iconst dt_Rr_readSight_8 ?_
  refine ev_bipush dt_Rr_readSight_9 rfl ?_
  refine tm_vi dt_Rr_readSight_11 (tm_Ta_takeNumber hWw66 h_tp (0) (by omega) (by omega) (11) (by omega) (by omega) (v67) kv67) kb_Rr_59 ⟨im_Ta_takeNumber, se_Ta_takeNumber⟩ rfl hWw66 tpt0 rfl (Nat.le_of_ble_eq_true rfl) (by decide) (fun w69 v71 hWw69 hRw69 => ?_)
  obtain ⟨hfw69, v70, kv70, hpw69⟩ := hRw69
  have hFw69 : ∀ (p : Nat) (j : Int), ¬ ((p = tp ∧ (j = 2 ∨ j = 5 ∨ j = 6 ∨ j = 7 ∨ j = 8 ∨ j = 4)) ∨ p = (o + 5) ∨ (p = o ∧ (j = 8))) → tm_g w69 p j = tm_g w p j := fun p j h => (hfw69 p j (by omega)).trans (hFw66 p j h)
  have bv70 : (-2147483648) ≤ v70 ∧ v70 ≤ 2147483647 := by obtain ⟨a, e, h0, h1⟩ := tm_peek (k := 4) (K := 4) hWw69 tpt0 rfl rfl; rw [kv70] at e; injection e with e; injection e with e; omega
  have hbv71 : (-1) ≤ v71 ∧ v71 ≤ 11 := by omega
  refine ev_istore_n (l' := [_, _, _, _, _, _]) dt_Rr_readSight_14 rfl (Nat.le_of_ble_eq_true rfl) rfl ?_
  refine ev_aload_n dt_Rr_readSight_15 rfl rfl ?_
  refine ev_iconst dt_Rr_readSight_16 ?_
  refine ev_bipush dt_Rr_readSight_17 rfl ?_
  refine tm_vi dt_Rr_readSight_19 (tm_Ta_takeNumber hWw69 h_tp (0) (by omega) (by omega) (23) (by omega) (by omega) (v70) kv70) kb_Rr_59 ⟨im_Ta_takeNumber, se_Ta_takeNumber⟩ rfl hWw69 tpt0 rfl (Nat.le_of_ble_eq_true rfl) (by decide) (fun w72 v74 hWw72 hRw72 => ?_)
  obtain ⟨hfw72, v73, kv73, hpw72⟩ := hRw72
  have hFw72 : ∀ (p : Nat) (j : Int), ¬ ((p = tp ∧ (j = 2 ∨ j = 5 ∨ j = 6 ∨ j = 7 ∨ j = 8 ∨ j = 4)) ∨ p = (o + 5) ∨ (p = o ∧ (j = 8))) → tm_g w72 p j = tm_g w p j := fun p j h => (hfw72 p j (by omega)).trans (hFw69 p j h)
  have bv73 : (-2147483648) ≤ v73 ∧ v73 ≤ 2147483647 := by obtain ⟨a, e, h0, h1⟩ := tm_peek (k := 4) (K := 4) hWw72 tpt0 rfl rfl; rw [kv73] at e; injection e with e; injection e with e; omega
  have hbv74 : (-1) ≤ v74 ∧ v74 ≤ 23 := by omega
  refine ev_istore (l' := [_, _, _, _, _, _]) dt_Rr_readSight_22 (Nat.le_of_ble_eq_true rfl) rfl ?_
  refine ev_aload_n dt_Rr_readSight_24 rfl rfl ?_
  refine ev_iload dt_Rr_readSight_25 rfl ?_
  refine ev_bipush dt_Rr_readSight_27 rfl ?_
  refine tm_vi dt_Rr_readSight_29 (tm_Ta_takeNumber hWw72 h_tp (v74) (by omega) (by omega) (23) (by omega) (by omega) (v73) kv73) kb_Rr_59 ⟨im_Ta_takeNumber, se_Ta_takeNumber⟩ rfl hWw72 tpt0 rfl (Nat.le_of_ble_eq_true rfl) (by decide) (fun w75 v77 hWw75 hRw75 => ?_)
  obtain ⟨hfw75, v76, kv76, hpw75⟩ := hRw75
  have hFw75 : ∀ (p : Nat) (j : Int), ¬ ((p = tp ∧ (j = 2 ∨ j = 5 ∨ j = 6 ∨ j = 7 ∨ j = 8 ∨ j = 4)) ∨ p = (o + 5) ∨ (p = o ∧ (j = 8))) → tm_g w75 p j = tm_g w p j := fun p j h => (hfw75 p j (by omega)).trans (hFw72 p j h)
  have bv76 : (-2147483648) ≤ v76 ∧ v76 ≤ 2147483647 := by obtain ⟨a, e, h0, h1⟩ := tm_peek (k := 4) (K := 4) hWw75 tpt0 rfl rfl; rw [kv76] at e; injection e with e; injection e with e; omega
  have hbv77 : (-1) ≤ v77 ∧ v77 ≤ 23 := by omega
  refine ev_istore (l' := [_, _, _, _, _, _]) dt_Rr_readSight_32 (Nat.le_of_ble_eq_true rfl) rfl ?_
  refine ev_aload_n dt_Rr_readSight_34 rfl rfl ?_
  refine tm_getK (K := 4) dt_Rr_readSight_35 hWw75 tpt0 fl_Rr_46 rfl kv76 ?_
  refine ev_if_ne (tgt := 51) dt_Rr_readSight_38 (by decide) (by omega) (fun h78 => ?_) (fun h78 => ?_)
  · skip
    exact ev_return dt_Rr_readSight_51 rfl ⟨hWw75, rfl, hFw75⟩
  · skip
    refine ev_aload_n dt_Rr_readSight_41 rfl rfl ?_
    refine ev_iload_n dt_Rr_readSight_42 rfl rfl ?_
    refine ev_iload_n dt_Rr_readSight_43 rfl rfl ?_
    refine ev_iload dt_Rr_readSight_44 rfl ?_
    refine ev_iload dt_Rr_readSight_46 rfl ?_
    refine tm_vv dt_Rr_readSight_48 (tm_Ri_addSight hWw75 h_o (v68) (by omega) (by omega) (v71) (by omega) (by omega) (v74) (by omega) (by omega) (v77) (by omega) (by omega)) kb_Rr_98 ⟨im_Ri_addSight, se_Ri_addSight⟩ rfl hWw75 ot0 rfl (Nat.le_of_ble_eq_true rfl) (by decide) (fun w79 hWw79 hRw79 => ?_)
    have hfw79 := hRw79
    have hFw79 : ∀ (p : Nat) (j : Int), ¬ ((p = tp ∧ (j = 2 ∨ j = 5 ∨ j = 6 ∨ j = 7 ∨ j = 8 ∨ j = 4)) ∨ p = (o + 5) ∨ (p = o ∧ (j = 8))) → tm_g w79 p j = tm_g w p j := fun p j h => (hfw79 p j (by omega)).trans (hFw75 p j h)
    have z80 := (hfw79 tp 4 (by omega)).trans kv76
    exact ev_return dt_Rr_readSight_51 rfl ⟨hWw79, rfl, hFw79⟩
theorem dt_Rr_readLiking_0 : decode prog_8_method_7_code 0 = .ok (.aload_n 0, 1) := by decide +kernel
theorem dt_Rr_readLiking_1 : decode prog_8_method_7_code 1 = .ok (.iconst 0, 1) := by decide +kernel
theorem dt_Rr_readLiking_2 : decode prog_8_method_7_code 2 = .ok (.aload_n 1, 1) := by decide +kernel
theorem dt_Rr_readLiking_3 : decode prog_8_method_7_code 3 = .ok (.getfield 53, 3) := by decide +kernel
theorem dt_Rr_readLiking_6 : decode prog_8_method_7_code 6 = .ok (.iconst 1, 1) := by decide +kernel
theorem dt_Rr_readLiking_7 : decode prog_8_method_7_code 7 = .ok (.isub, 1) := by decide +kernel
theorem dt_Rr_readLiking_8 : decode prog_8_method_7_code 8 = .ok (.invokevirtual 59, 3) := by decide +kernel
theorem dt_Rr_readLiking_11 : decode prog_8_method_7_code 11 = .ok (.istore_n 3, 1) := by decide +kernel
theorem dt_Rr_readLiking_12 : decode prog_8_method_7_code 12 = .ok (.aload_n 0, 1) := by decide +kernel
theorem dt_Rr_readLiking_13 : decode prog_8_method_7_code 13 = .ok (.iconst 0, 1) := by decide +kernel
theorem dt_Rr_readLiking_14 : decode prog_8_method_7_code 14 = .ok (.iconst 4, 1) := by decide +kernel
theorem dt_Rr_readLiking_15 : decode prog_8_method_7_code 15 = .ok (.invokevirtual 59, 3) := by decide +kernel
theorem dt_Rr_readLiking_18 : decode prog_8_method_7_code 18 = .ok (.istore 4, 2) := by decide +kernel
theorem dt_Rr_readLiking_20 : decode prog_8_method_7_code 20 = .ok (.aload_n 0, 1) := by decide +kernel
theorem dt_Rr_readLiking_21 : decode prog_8_method_7_code 21 = .ok (.iconst 1, 1) := by decide +kernel
theorem dt_Rr_readLiking_22 : decode prog_8_method_7_code 22 = .ok (.bipush 9, 2) := by decide +kernel
theorem dt_Rr_readLiking_24 : decode prog_8_method_7_code 24 = .ok (.invokevirtual 59, 3) := by decide +kernel
theorem dt_Rr_readLiking_27 : decode prog_8_method_7_code 27 = .ok (.istore 5, 2) := by decide +kernel
theorem dt_Rr_readLiking_29 : decode prog_8_method_7_code 29 = .ok (.aload_n 0, 1) := by decide +kernel
theorem dt_Rr_readLiking_30 : decode prog_8_method_7_code 30 = .ok (.getfield 46, 3) := by decide +kernel
theorem dt_Rr_readLiking_33 : decode prog_8_method_7_code 33 = .ok (.ifCond .ne 18, 3) := by decide +kernel
theorem dt_Rr_readLiking_36 : decode prog_8_method_7_code 36 = .ok (.aload_n 1, 1) := by decide +kernel
theorem dt_Rr_readLiking_37 : decode prog_8_method_7_code 37 = .ok (.getfield 102, 3) := by decide +kernel
theorem dt_Rr_readLiking_40 : decode prog_8_method_7_code 40 = .ok (.iload_n 3, 1) := by decide +kernel
theorem dt_Rr_readLiking_41 : decode prog_8_method_7_code 41 = .ok (.iconst 5, 1) := by decide +kernel
theorem dt_Rr_readLiking_42 : decode prog_8_method_7_code 42 = .ok (.imul, 1) := by decide +kernel
theorem dt_Rr_readLiking_43 : decode prog_8_method_7_code 43 = .ok (.iload 4, 2) := by decide +kernel
theorem dt_Rr_readLiking_45 : decode prog_8_method_7_code 45 = .ok (.iadd, 1) := by decide +kernel
theorem dt_Rr_readLiking_46 : decode prog_8_method_7_code 46 = .ok (.iload_n 2, 1) := by decide +kernel
theorem dt_Rr_readLiking_47 : decode prog_8_method_7_code 47 = .ok (.iload 5, 2) := by decide +kernel
theorem dt_Rr_readLiking_49 : decode prog_8_method_7_code 49 = .ok (.imul, 1) := by decide +kernel
theorem dt_Rr_readLiking_50 : decode prog_8_method_7_code 50 = .ok (.iastore, 1) := by decide +kernel
theorem dt_Rr_readLiking_51 : decode prog_8_method_7_code 51 = .ok (.return_, 1) := by decide +kernel
set_option maxHeartbeats 4000000 in
set_option maxRecDepth 10000 in
theorem tm_Rr_readLiking {N : Nat} {T : Nat → tm_S} {w : ab_W} {tp : Nat} {o : Nat} (hW : tm_W N T w) (h_tp : is_Ta T tp) (h_o : is_Ri T o) (ne_tp_o : tp + 2 ≤ o ∨ o + 13 ≤ tp) (a : Int) (l_a : (-1) ≤ a) (u_a : a ≤ 1) : ab_Mt g_G g_rs mt_Rr_readLiking 7 0 0 [ab_R tp, ab_R o, ab_I a] w (tm_Qv N T (fun w2 => (∀ (p : Nat) (j : Int), ¬ ((p = tp ∧ (j = 2 ∨ j = 5 ∨ j = 6 ∨ j = 7 ∨ j = 8 ∨ j = 4)) ∨ p = (o + 4)) → tm_g w2 p j = tm_g w p j))) := by
  obtain ⟨tpt0, tpt1⟩ := id h_tp
  obtain ⟨ot0, ot1, ot2, ot3, ot4, ot5, ot6, ot7, ot8, ot9, ot10, ot11, ot12⟩ := id h_o
  have od := is_Ri.d h_o
  have hF0 : ∀ (p : Nat) (j : Int), ¬ ((p = tp ∧ (j = 2 ∨ j = 5 ∨ j = 6 ∨ j = 7 ∨ j = 8 ∨ j = 4)) ∨ p = (o + 4)) → tm_g w p j = tm_g w p j := fun _ _ _ => rfl
  refine ab_Mt.of rfl (Nat.le_of_ble_eq_true rfl) ?_
  show ab_Ev g_G g_rs mt_Rr_readLiking _ _ _ 0 [some (ab_R tp), some (ab_R o), some (ab_I a), none, none, none] [] _ _
  refine ev_aload_n dt_Rr_readLiking_0 rfl rfl ?_
  refine ev_iconst dt_Rr_readLiking_1 ?_
  refine ev_aload_n dt_Rr_readLiking_2 rfl rfl ?_
  refine tm_getI (K := 7) dt_Rr_readLiking_3 hW ot0 fl_Rr_53 rfl rfl (fun v81 kv81 lv81 uv81 => ?_)
  refine ev_iconst dt_Rr_readLiking_6 ?_
  refine ev_isub dt_Rr_readLiking_7 ?_
  obtain ⟨v82, kv82, lv82, uv82⟩ := tm_peek (k := 4) (K := 4) hW tpt0 rfl rfl
  refine tm_vi dt_Rr_readLiking_8 (tm_Ta_takeNumber hW h_tp (0) (by omega) (by omega) ((v81 - 1)) (by omega) (by omega) (v82) kv82) kb_Rr_59 ⟨im_Ta_takeNumber, se_Ta_takeNumber⟩ rfl hW tpt0 rfl (Nat.le_of_ble_eq_true rfl) (by decide) (fun w83 v85 hWw83 hRw83 => ?_)
  obtain ⟨hfw83, v84, kv84, hpw83⟩ := hRw83
  have hFw83 : ∀ (p : Nat) (j : Int), ¬ ((p = tp ∧ (j = 2 ∨ j = 5 ∨ j = 6 ∨ j = 7 ∨ j = 8 ∨ j = 4)) ∨ p = (o + 4)) → tm_g w83 p j = tm_g w p j := fun p j h => (hfw83 p j (by omega)).trans (hF0 p j h)
  have bv84 : (-2147483648) ≤ v84 ∧ v84 ≤ 2147483647 := by obtain ⟨a, e, h0, h1⟩ := tm_peek (k := 4) (K := 4) hWw83 tpt0 rfl rfl; rw [kv84] at e; injection e with e; injection e with e; omega
  have hbv85 : (-1) ≤ v85 ∧ v85 ≤ 6 := by omega
  refine ev_istore_n (l' := [_, _, _, _, _, _]) dt_Rr_readLiking_11 rfl (Nat.le_of_ble_eq_true rfl) rfl ?_
  refine ev_aload_n dt_Rr_readLiking_12 rfl rfl ?_
  refine ev_iconst dt_Rr_readLiking_13 ?_
  refine ev_iconst dt_Rr_readLiking_14 ?_
  refine tm_vi dt_Rr_readLiking_15 (tm_Ta_takeNumber hWw83 h_tp (0) (by omega) (by omega) (4) (by omega) (by omega) (v84) kv84) kb_Rr_59 ⟨im_Ta_takeNumber, se_Ta_takeNumber⟩ rfl hWw83 tpt0 rfl (Nat.le_of_ble_eq_true rfl) (by decide) (fun w86 v88 hWw86 hRw86 => ?_)
  obtain ⟨hfw86, v87, kv87, hpw86⟩ := hRw86
  have hFw86 : ∀ (p : Nat) (j : Int), ¬ ((p = tp ∧ (j = 2 ∨ j = 5 ∨ j = 6 ∨ j = 7 ∨ j = 8 ∨ j = 4)) ∨ p = (o + 4)) → tm_g w86 p j = tm_g w p j := fun p j h => (hfw86 p j (by omega)).trans (hFw83 p j h)
  have bv87 : (-2147483648) ≤ v87 ∧ v87 ≤ 2147483647 := by obtain ⟨a, e, h0, h1⟩ := tm_peek (k := 4) (K := 4) hWw86 tpt0 rfl rfl; rw [kv87] at e; injection e with e; injection e with e; omega
  have hbv88 : (-1) ≤ v88 ∧ v88 ≤ 4 := by omega
  refine ev_istore (l' := [_, _, _, _, _, _]) dt_Rr_readLiking_18 (Nat.le_of_ble_eq_true rfl) rfl ?_
  refine ev_aload_n dt_Rr_readLiking_20 rfl rfl ?_
  refine ev_iconst dt_Rr_readLiking_21 ?_
  refine ev_bipush dt_Rr_readLiking_22 rfl ?_
  refine tm_vi dt_Rr_readLiking_24 (tm_Ta_takeNumber hWw86 h_tp (1) (by omega) (by omega) (9) (by omega) (by omega) (v87) kv87) kb_Rr_59 ⟨im_Ta_takeNumber, se_Ta_takeNumber⟩ rfl hWw86 tpt0 rfl (Nat.le_of_ble_eq_true rfl) (by decide) (fun w89 v91 hWw89 hRw89 => ?_)
  obtain ⟨hfw89, v90, kv90, hpw89⟩ := hRw89
  have hFw89 : ∀ (p : Nat) (j : Int), ¬ ((p = tp ∧ (j = 2 ∨ j = 5 ∨ j = 6 ∨ j = 7 ∨ j = 8 ∨ j = 4)) ∨ p = (o + 4)) → tm_g w89 p j = tm_g w p j := fun p j h => (hfw89 p j (by omega)).trans (hFw86 p j h)
  have bv90 : (-2147483648) ≤ v90 ∧ v90 ≤ 2147483647 := by obtain ⟨a, e, h0, h1⟩ := tm_peek (k := 4) (K := 4) hWw89 tpt0 rfl rfl; rw [kv90] at e; injection e with e; injection e with e; omega
  have hbv91 : (-1) ≤ v91 ∧ v91 ≤ 9 := by omega
  refine ev_istore (l' := [_, _, _, _, _, _]) dt_Rr_readLiking_27 (Nat.le_of_ble_eq_true rfl) rfl ?_
  refine ev_aload_n dt_Rr_readLiking_29 rfl rfl ?_
  refine tm_getK (K := 4) dt_Rr_readLiking_30 hWw89 tpt0 fl_Rr_46 rfl kv90 ?_
  refine ev_if_ne (tgt := 51) dt_Rr_readLiking_33 (by decide) (by omega) (fun h92 => ?_) (fun h92 => ?_)
  · skip
    exact ev_return dt_Rr_readLiking_51 rfl ⟨hWw89, rfl, hFw89⟩
  · skip
    refine ev_aload_n dt_Rr_readLiking_36 rfl rfl ?_
    refine tm_getR dt_Rr_readLiking_37 hWw89 ot0 fl_Rr_102 rfl ?_
    refine ev_iload_n dt_Rr_readLiking_40 rfl rfl ?_
    refine ev_iconst dt_Rr_readLiking_41 ?_
    refine ev_imul dt_Rr_readLiking_42 ?_
    refine ev_iload dt_Rr_readLiking_43 rfl ?_
    refine ev_iadd dt_Rr_readLiking_45 ?_
    refine ev_iload_n dt_Rr_readLiking_46 rfl rfl ?_
    refine ev_iload dt_Rr_readLiking_47 rfl ?_
    refine ev_imul dt_Rr_readLiking_49 ?_
    refine tm_any (fun v93 hv93 _ => ?_)
    refine tm_iastore dt_Rr_readLiking_50 hWw89 ot4 (by omega) (by omega) (by omega) (by omega) (by omega) (fun w94 hWw94 kkw94 hfw94 => ?_)
    have hFw94 : ∀ (p : Nat) (j : Int), ¬ ((p = tp ∧ (j = 2 ∨ j = 5 ∨ j = 6 ∨ j = 7 ∨ j = 8 ∨ j = 4)) ∨ p = (o + 4)) → tm_g w94 p j = tm_g w p j := fun p j h => (hfw94 p j (by omega)).trans (hFw89 p j h)
    have z95 := (hfw94 tp 4 (by omega)).trans kv90
    exact ev_return dt_Rr_readLiking_51 rfl ⟨hWw94, rfl, hFw94⟩
theorem dt_Rr_readGate_0 : decode prog_8_method_8_code 0 = .ok (.aload_n 0, 1) := by decide +kernel
theorem dt_Rr_readGate_1 : decode prog_8_method_8_code 1 = .ok (.iconst 0, 1) := by decide +kernel
theorem dt_Rr_readGate_2 : decode prog_8_method_8_code 2 = .ok (.bipush 11, 2) := by decide +kernel
theorem dt_Rr_readGate_4 : decode prog_8_method_8_code 4 = .ok (.invokevirtual 59, 3) := by decide +kernel
theorem dt_Rr_readGate_7 : decode prog_8_method_8_code 7 = .ok (.istore_n 2, 1) := by decide +kernel
theorem dt_Rr_readGate_8 : decode prog_8_method_8_code 8 = .ok (.aload_n 0, 1) := by decide +kernel
theorem dt_Rr_readGate_9 : decode prog_8_method_8_code 9 = .ok (.getfield 46, 3) := by decide +kernel
theorem dt_Rr_readGate_12 : decode prog_8_method_8_code 12 = .ok (.ifCond .ne 15, 3) := by decide +kernel
theorem dt_Rr_readGate_15 : decode prog_8_method_8_code 15 = .ok (.aload_n 1, 1) := by decide +kernel
theorem dt_Rr_readGate_16 : decode prog_8_method_8_code 16 = .ok (.dup, 1) := by decide +kernel
theorem dt_Rr_readGate_17 : decode prog_8_method_8_code 17 = .ok (.getfield 106, 3) := by decide +kernel
theorem dt_Rr_readGate_20 : decode prog_8_method_8_code 20 = .ok (.iconst 1, 1) := by decide +kernel
theorem dt_Rr_readGate_21 : decode prog_8_method_8_code 21 = .ok (.iload_n 2, 1) := by decide +kernel
theorem dt_Rr_readGate_22 : decode prog_8_method_8_code 22 = .ok (.ishl, 1) := by decide +kernel
theorem dt_Rr_readGate_23 : decode prog_8_method_8_code 23 = .ok (.ior, 1) := by decide +kernel
theorem dt_Rr_readGate_24 : decode prog_8_method_8_code 24 = .ok (.putfield 106, 3) := by decide +kernel
theorem dt_Rr_readGate_27 : decode prog_8_method_8_code 27 = .ok (.return_, 1) := by decide +kernel
set_option maxHeartbeats 4000000 in
set_option maxRecDepth 10000 in
theorem tm_Rr_readGate {N : Nat} {T : Nat → tm_S} {w : ab_W} {tp : Nat} {o : Nat} (hW : tm_W N T w) (h_tp : is_Ta T tp) (h_o : is_Ri T o) (ne_tp_o : tp + 2 ≤ o ∨ o + 13 ≤ tp) : ab_Mt g_G g_rs mt_Rr_readGate 7 0 0 [ab_R tp, ab_R o] w (tm_Qv N T (fun w2 => (∀ (p : Nat) (j : Int), ¬ ((p = tp ∧ (j = 2 ∨ j = 5 ∨ j = 6 ∨ j = 7 ∨ j = 8 ∨ j = 4)) ∨ (p = o ∧ (j = 9))) → tm_g w2 p j = tm_g w p j))) := by
  obtain ⟨tpt0, tpt1⟩ := id h_tp
  obtain ⟨ot0, ot1, ot2, ot3, ot4, ot5, ot6, ot7, ot8, ot9, ot10, ot11, ot12⟩ := id h_o
  have od := is_Ri.d h_o
  have hF0 : ∀ (p : Nat) (j : Int), ¬ ((p = tp ∧ (j = 2 ∨ j = 5 ∨ j = 6 ∨ j = 7 ∨ j = 8 ∨ j = 4)) ∨ (p = o ∧ (j = 9))) → tm_g w p j = tm_g w p j := fun _ _ _ => rfl
  refine ab_Mt.of rfl (Nat.le_of_ble_eq_true rfl) ?_
  show ab_Ev g_G g_rs mt_Rr_readGate _ _ _ 0 [some (ab_R tp), some (ab_R o), none] [] _ _
  refine ev_aload_n dt_Rr_readGate_0 rfl rfl ?_
  refine ev_iconst dt_Rr_readGate_1 ?_
  refine ev_bipush dt_Rr_readGate_2 rfl ?_
  obtain ⟨v96, kv96, lv96, uv96⟩ := tm_peek (k := 4) (K := 4) hW tpt0 rfl rfl
  refine tm_vi dt_Rr_readGate_4 (tm_Ta_takeNumber hW h_tp (0) (by omega) (by omega) (11) (by omega) (by omega) (v96) kv96) kb_Rr_59 ⟨im_Ta_takeNumber, se_Ta_takeNumber⟩ rfl hW tpt0 rfl (Nat.le_of_ble_eq_true rfl) (by decide) (fun w97 v99 hWw97 hRw97 => ?_)
  obtain ⟨hfw97, v98, kv98, hpw97⟩ := hRw97
  have hFw97 : ∀ (p : Nat) (j : Int), ¬ ((p = tp ∧ (j = 2 ∨ j = 5 ∨ j = 6 ∨ j = 7 ∨ j = 8 ∨ j = 4)) ∨ (p = o ∧ (j = 9))) → tm_g w97 p j = tm_g w p j := fun p j h => (hfw97 p j (by omega)).trans (hF0 p j h)
  have bv98 : (-2147483648) ≤ v98 ∧ v98 ≤ 2147483647 := by obtain ⟨a, e, h0, h1⟩ := tm_peek (k := 4) (K := 4) hWw97 tpt0 rfl rfl; rw [kv98] at e; injection e with e; injection e with e; omega
  have hbv99 : (-1) ≤ v99 ∧ v99 ≤ 11 := by omega
  refine ev_istore_n (l' := [_, _, _]) dt_Rr_readGate_7 rfl (Nat.le_of_ble_eq_true rfl) rfl ?_
  refine ev_aload_n dt_Rr_readGate_8 rfl rfl ?_
  refine tm_getK (K := 4) dt_Rr_readGate_9 hWw97 tpt0 fl_Rr_46 rfl kv98 ?_
  refine ev_if_ne (tgt := 27) dt_Rr_readGate_12 (by decide) (by omega) (fun h100 => ?_) (fun h100 => ?_)
  · skip
    exact ev_return dt_Rr_readGate_27 rfl ⟨hWw97, rfl, hFw97⟩
  · skip
    refine ev_aload_n dt_Rr_readGate_15 rfl rfl ?_
    refine ev_dup dt_Rr_readGate_16 rfl ?_
    refine tm_getI (K := 9) dt_Rr_readGate_17 hWw97 ot0 fl_Rr_106 rfl rfl (fun v101 kv101 lv101 uv101 => ?_)
    refine ev_iconst dt_Rr_readGate_20 ?_
    refine ev_iload_n dt_Rr_readGate_21 rfl rfl ?_
    refine tm_shl1 dt_Rr_readGate_22 (by omega) (by omega) (fun v102 x1 x2 x3 x4 => ?_)
    have hv102 : 1 ≤ v102 ∧ v102 ≤ 1073741824 := by omega
    clear x1 x2 x3 x4
    refine tm_ior dt_Rr_readGate_23 (fun v103 x1 x2 => ?_)
    have hv103 : (-2147483648) ≤ v103 ∧ v103 ≤ 2147483647 := by omega
    clear x1 x2
    refine tm_putI (K := 9) dt_Rr_readGate_24 hWw97 ot0 (fp_Rr_106 _) rfl rfl trivial (by omega) (by omega) (fun w104 hWw104 kkw104 hfw104 => ?_)
    have hFw104 : ∀ (p : Nat) (j : Int), ¬ ((p = tp ∧ (j = 2 ∨ j = 5 ∨ j = 6 ∨ j = 7 ∨ j = 8 ∨ j = 4)) ∨ (p = o ∧ (j = 9))) → tm_g w104 p j = tm_g w p j := fun p j h => (hfw104 p j (by omega)).trans (hFw97 p j h)
    have z105 := (hfw104 tp 4 (by omega)).trans kv98
    exact ev_return dt_Rr_readGate_27 rfl ⟨hWw104, rfl, hFw104⟩
theorem dt_Rr_readRate_0 : decode prog_8_method_9_code 0 = .ok (.aload_n 0, 1) := by decide +kernel
theorem dt_Rr_readRate_1 : decode prog_8_method_9_code 1 = .ok (.iconst 0, 1) := by decide +kernel
theorem dt_Rr_readRate_2 : decode prog_8_method_9_code 2 = .ok (.bipush 23, 2) := by decide +kernel
theorem dt_Rr_readRate_4 : decode prog_8_method_9_code 4 = .ok (.invokevirtual 59, 3) := by decide +kernel
theorem dt_Rr_readRate_7 : decode prog_8_method_9_code 7 = .ok (.istore_n 2, 1) := by decide +kernel
theorem dt_Rr_readRate_8 : decode prog_8_method_9_code 8 = .ok (.aload_n 0, 1) := by decide +kernel
theorem dt_Rr_readRate_9 : decode prog_8_method_9_code 9 = .ok (.iload_n 2, 1) := by decide +kernel
theorem dt_Rr_readRate_10 : decode prog_8_method_9_code 10 = .ok (.bipush 23, 2) := by decide +kernel
theorem dt_Rr_readRate_12 : decode prog_8_method_9_code 12 = .ok (.invokevirtual 59, 3) := by decide +kernel
theorem dt_Rr_readRate_15 : decode prog_8_method_9_code 15 = .ok (.istore_n 3, 1) := by decide +kernel
theorem dt_Rr_readRate_16 : decode prog_8_method_9_code 16 = .ok (.aload_n 0, 1) := by decide +kernel
theorem dt_Rr_readRate_17 : decode prog_8_method_9_code 17 = .ok (.iconst 0, 1) := by decide +kernel
theorem dt_Rr_readRate_18 : decode prog_8_method_9_code 18 = .ok (.bipush 6, 2) := by decide +kernel
theorem dt_Rr_readRate_20 : decode prog_8_method_9_code 20 = .ok (.invokevirtual 59, 3) := by decide +kernel
theorem dt_Rr_readRate_23 : decode prog_8_method_9_code 23 = .ok (.istore 4, 2) := by decide +kernel
theorem dt_Rr_readRate_25 : decode prog_8_method_9_code 25 = .ok (.aload_n 0, 1) := by decide +kernel
theorem dt_Rr_readRate_26 : decode prog_8_method_9_code 26 = .ok (.getfield 46, 3) := by decide +kernel
theorem dt_Rr_readRate_29 : decode prog_8_method_9_code 29 = .ok (.ifCond .ne 13, 3) := by decide +kernel
theorem dt_Rr_readRate_32 : decode prog_8_method_9_code 32 = .ok (.aload_n 1, 1) := by decide +kernel
theorem dt_Rr_readRate_33 : decode prog_8_method_9_code 33 = .ok (.iload_n 2, 1) := by decide +kernel
theorem dt_Rr_readRate_34 : decode prog_8_method_9_code 34 = .ok (.iload_n 3, 1) := by decide +kernel
theorem dt_Rr_readRate_35 : decode prog_8_method_9_code 35 = .ok (.iload 4, 2) := by decide +kernel
theorem dt_Rr_readRate_37 : decode prog_8_method_9_code 37 = .ok (.iconst 3, 1) := by decide +kernel
theorem dt_Rr_readRate_38 : decode prog_8_method_9_code 38 = .ok (.isub, 1) := by decide +kernel
theorem dt_Rr_readRate_39 : decode prog_8_method_9_code 39 = .ok (.invokevirtual 109, 3) := by decide +kernel
theorem dt_Rr_readRate_42 : decode prog_8_method_9_code 42 = .ok (.return_, 1) := by decide +kernel
set_option maxHeartbeats 4000000 in
set_option maxRecDepth 10000 in
theorem tm_Rr_readRate {N : Nat} {T : Nat → tm_S} {w : ab_W} {tp : Nat} {o : Nat} (hW : tm_W N T w) (h_tp : is_Ta T tp) (h_o : is_Ri T o) (ne_tp_o : tp + 2 ≤ o ∨ o + 13 ≤ tp) : ab_Mt g_G g_rs mt_Rr_readRate 7 0 0 [ab_R tp, ab_R o] w (tm_Qv N T (fun w2 => (∀ (p : Nat) (j : Int), ¬ ((p = tp ∧ (j = 2 ∨ j = 5 ∨ j = 6 ∨ j = 7 ∨ j = 8 ∨ j = 4)) ∨ p = (o + 6)) → tm_g w2 p j = tm_g w p j))) := by
  obtain ⟨tpt0, tpt1⟩ := id h_tp
  obtain ⟨ot0, ot1, ot2, ot3, ot4, ot5, ot6, ot7, ot8, ot9, ot10, ot11, ot12⟩ := id h_o
  have od := is_Ri.d h_o
  have hF0 : ∀ (p : Nat) (j : Int), ¬ ((p = tp ∧ (j = 2 ∨ j = 5 ∨ j = 6 ∨ j = 7 ∨ j = 8 ∨ j = 4)) ∨ p = (o + 6)) → tm_g w p j = tm_g w p j := fun _ _ _ => rfl
  refine ab_Mt.of rfl (Nat.le_of_ble_eq_true rfl) ?_
  show ab_Ev g_G g_rs mt_Rr_readRate _ _ _ 0 [some (ab_R tp), some (ab_R o), none, none, none] [] _ _
  refine ev_aload_n dt_Rr_readRate_0 rfl rfl ?_
  refine ev_iconst dt_Rr_readRate_1 ?_
  refine ev_bipush dt_Rr_readRate_2 rfl ?_
  obtain ⟨v106, kv106, lv106, uv106⟩ := tm_peek (k := 4) (K := 4) hW tpt0 rfl rfl
  refine tm_vi dt_Rr_readRate_4 (tm_Ta_takeNumber hW h_tp (0) (by omega) (by omega) (23) (by omega) (by omega) (v106) kv106) kb_Rr_59 ⟨im_Ta_takeNumber, se_Ta_takeNumber⟩ rfl hW tpt0 rfl (Nat.le_of_ble_eq_true rfl) (by decide) (fun w107 v109 hWw107 hRw107 => ?_)
  obtain ⟨hfw107, v108, kv108, hpw107⟩ := hRw107
  have hFw107 : ∀ (p : Nat) (j : Int), ¬ ((p = tp ∧ (j = 2 ∨ j = 5 ∨ j = 6 ∨ j = 7 ∨ j = 8 ∨ j = 4)) ∨ p = (o + 6)) → tm_g w107 p j = tm_g w p j := fun p j h => (hfw107 p j (by omega)).trans (hF0 p j h)
  have bv108 : (-2147483648) ≤ v108 ∧ v108 ≤ 2147483647 := by obtain ⟨a, e, h0, h1⟩ := tm_peek (k := 4) (K := 4) hWw107 tpt0 rfl rfl; rw [kv108] at e; injection e with e; injection e with e; omega
  have hbv109 : (-1) ≤ v109 ∧ v109 ≤ 23 := by omega
  refine ev_istore_n (l' := [_, _, _, _, _]) dt_Rr_readRate_7 rfl (Nat.le_of_ble_eq_true rfl) rfl ?_
  refine ev_aload_n dt_Rr_readRate_8 rfl rfl ?_
  refine ev_iload_n dt_Rr_readRate_9 rfl rfl ?_
  refine ev_bipush dt_Rr_readRate_10 rfl ?_
  refine tm_vi dt_Rr_readRate_12 (tm_Ta_takeNumber hWw107 h_tp (v109) (by omega) (by omega) (23) (by omega) (by omega) (v108) kv108) kb_Rr_59 ⟨im_Ta_takeNumber, se_Ta_takeNumber⟩ rfl hWw107 tpt0 rfl (Nat.le_of_ble_eq_true rfl) (by decide) (fun w110 v112 hWw110 hRw110 => ?_)
  obtain ⟨hfw110, v111, kv111, hpw110⟩ := hRw110
  have hFw110 : ∀ (p : Nat) (j : Int), ¬ ((p = tp ∧ (j = 2 ∨ j = 5 ∨ j = 6 ∨ j = 7 ∨ j = 8 ∨ j = 4)) ∨ p = (o + 6)) → tm_g w110 p j = tm_g w p j := fun p j h => (hfw110 p j (by omega)).trans (hFw107 p j h)
  have bv111 : (-2147483648) ≤ v111 ∧ v111 ≤ 2147483647 := by obtain ⟨a, e, h0, h1⟩ := tm_peek (k := 4) (K := 4) hWw110 tpt0 rfl rfl; rw [kv111] at e; injection e with e; injection e with e; omega
  have hbv112 : (-1) ≤ v112 ∧ v112 ≤ 23 := by omega
  refine ev_istore_n (l' := [_, _, _, _, _]) dt_Rr_readRate_15 rfl (Nat.le_of_ble_eq_true rfl) rfl ?_
  refine ev_aload_n dt_Rr_readRate_16 rfl rfl ?_
  refine ev_iconst dt_Rr_readRate_17 ?_
  refine ev_bipush dt_Rr_readRate_18 rfl ?_
  refine tm_vi dt_Rr_readRate_20 (tm_Ta_takeNumber hWw110 h_tp (0) (by omega) (by omega) (6) (by omega) (by omega) (v111) kv111) kb_Rr_59 ⟨im_Ta_takeNumber, se_Ta_takeNumber⟩ rfl hWw110 tpt0 rfl (Nat.le_of_ble_eq_true rfl) (by decide) (fun w113 v115 hWw113 hRw113 => ?_)
  obtain ⟨hfw113, v114, kv114, hpw113⟩ := hRw113
  have hFw113 : ∀ (p : Nat) (j : Int), ¬ ((p = tp ∧ (j = 2 ∨ j = 5 ∨ j = 6 ∨ j = 7 ∨ j = 8 ∨ j = 4)) ∨ p = (o + 6)) → tm_g w113 p j = tm_g w p j := fun p j h => (hfw113 p j (by omega)).trans (hFw110 p j h)
  have bv114 : (-2147483648) ≤ v114 ∧ v114 ≤ 2147483647 := by obtain ⟨a, e, h0, h1⟩ := tm_peek (k := 4) (K := 4) hWw113 tpt0 rfl rfl; rw [kv114] at e; injection e with e; injection e with e; omega
  have hbv115 : (-1) ≤ v115 ∧ v115 ≤ 6 := by omega
  refine ev_istore (l' := [_, _, _, _, _]) dt_Rr_readRate_23 (Nat.le_of_ble_eq_true rfl) rfl ?_
  refine ev_aload_n dt_Rr_readRate_25 rfl rfl ?_
  refine tm_getK (K := 4) dt_Rr_readRate_26 hWw113 tpt0 fl_Rr_46 rfl kv114 ?_
  refine ev_if_ne (tgt := 42) dt_Rr_readRate_29 (by decide) (by omega) (fun h116 => ?_) (fun h116 => ?_)
  · skip
    exact ev_return dt_Rr_readRate_42 rfl ⟨hWw113, rfl, hFw113⟩
  · skip
    refine ev_aload_n dt_Rr_readRate_32 rfl rfl ?_
    refine ev_iload_n dt_Rr_readRate_33 rfl rfl ?_
    refine ev_iload_n dt_Rr_readRate_34 rfl rfl ?_
    refine ev_iload dt_Rr_readRate_35 rfl ?_
    refine ev_iconst dt_Rr_readRate_37 ?_
    refine ev_isub dt_Rr_readRate_38 ?_
    refine tm_vv dt_Rr_readRate_39 (tm_Ri_setRates hWw113 h_o (v109) (by omega) (by omega) (v112) (by omega) (by omega) ((v115 - 3)) (by omega) (by omega)) kb_Rr_109 ⟨im_Ri_setRates, se_Ri_setRates⟩ rfl hWw113 ot0 rfl (Nat.le_of_ble_eq_true rfl) (by decide) (fun w117 hWw117 hRw117 => ?_)
    have hfw117 := hRw117
    have hFw117 : ∀ (p : Nat) (j : Int), ¬ ((p = tp ∧ (j = 2 ∨ j = 5 ∨ j = 6 ∨ j = 7 ∨ j = 8 ∨ j = 4)) ∨ p = (o + 6)) → tm_g w117 p j = tm_g w p j := fun p j h => (hfw117 p j (by omega)).trans (hFw113 p j h)
    have z118 := (hfw117 tp 4 (by omega)).trans kv114
    exact ev_return dt_Rr_readRate_42 rfl ⟨hWw117, rfl, hFw117⟩
theorem dt_Rr_readRest_0 : decode prog_8_method_4_code 0 = .ok (.iload_n 2, 1) := by decide +kernel
theorem dt_Rr_readRest_1 : decode prog_8_method_4_code 1 = .ok (.tableswitch 99 0 5 #[39, 57, 65, 73, 82, 91], 39) := by decide +kernel
theorem dt_Rr_readRest_40 : decode prog_8_method_4_code 40 = .ok (.aload_n 1, 1) := by decide +kernel
theorem dt_Rr_readRest_41 : decode prog_8_method_4_code 41 = .ok (.iconst 0, 1) := by decide +kernel
theorem dt_Rr_readRest_42 : decode prog_8_method_4_code 42 = .ok (.aload_n 0, 1) := by decide +kernel
theorem dt_Rr_readRest_43 : decode prog_8_method_4_code 43 = .ok (.iconst 0, 1) := by decide +kernel
theorem dt_Rr_readRest_44 : decode prog_8_method_4_code 44 = .ok (.bipush 11, 2) := by decide +kernel
theorem dt_Rr_readRest_46 : decode prog_8_method_4_code 46 = .ok (.invokevirtual 59, 3) := by decide +kernel
theorem dt_Rr_readRest_49 : decode prog_8_method_4_code 49 = .ok (.invokestatic 63, 3) := by decide +kernel
theorem dt_Rr_readRest_52 : decode prog_8_method_4_code 52 = .ok (.putfield 68, 3) := by decide +kernel
theorem dt_Rr_readRest_55 : decode prog_8_method_4_code 55 = .ok (.goto 50, 3) := by decide +kernel
theorem dt_Rr_readRest_58 : decode prog_8_method_4_code 58 = .ok (.aload_n 0, 1) := by decide +kernel
theorem dt_Rr_readRest_59 : decode prog_8_method_4_code 59 = .ok (.aload_n 1, 1) := by decide +kernel
theorem dt_Rr_readRest_60 : decode prog_8_method_4_code 60 = .ok (.invokestatic 71, 3) := by decide +kernel
theorem dt_Rr_readRest_63 : decode prog_8_method_4_code 63 = .ok (.goto 42, 3) := by decide +kernel
theorem dt_Rr_readRest_66 : decode prog_8_method_4_code 66 = .ok (.aload_n 0, 1) := by decide +kernel
theorem dt_Rr_readRest_67 : decode prog_8_method_4_code 67 = .ok (.aload_n 1, 1) := by decide +kernel
theorem dt_Rr_readRest_68 : decode prog_8_method_4_code 68 = .ok (.invokestatic 75, 3) := by decide +kernel
theorem dt_Rr_readRest_71 : decode prog_8_method_4_code 71 = .ok (.goto 34, 3) := by decide +kernel
theorem dt_Rr_readRest_74 : decode prog_8_method_4_code 74 = .ok (.aload_n 0, 1) := by decide +kernel
theorem dt_Rr_readRest_75 : decode prog_8_method_4_code 75 = .ok (.aload_n 1, 1) := by decide +kernel
theorem dt_Rr_readRest_76 : decode prog_8_method_4_code 76 = .ok (.iconst 1, 1) := by decide +kernel
theorem dt_Rr_readRest_77 : decode prog_8_method_4_code 77 = .ok (.invokestatic 78, 3) := by decide +kernel
theorem dt_Rr_readRest_80 : decode prog_8_method_4_code 80 = .ok (.goto 25, 3) := by decide +kernel
theorem dt_Rr_readRest_83 : decode prog_8_method_4_code 83 = .ok (.aload_n 0, 1) := by decide +kernel
theorem dt_Rr_readRest_84 : decode prog_8_method_4_code 84 = .ok (.aload_n 1, 1) := by decide +kernel
theorem dt_Rr_readRest_85 : decode prog_8_method_4_code 85 = .ok (.iconst (-1), 1) := by decide +kernel
theorem dt_Rr_readRest_86 : decode prog_8_method_4_code 86 = .ok (.invokestatic 78, 3) := by decide +kernel
theorem dt_Rr_readRest_89 : decode prog_8_method_4_code 89 = .ok (.goto 16, 3) := by decide +kernel
theorem dt_Rr_readRest_92 : decode prog_8_method_4_code 92 = .ok (.aload_n 0, 1) := by decide +kernel
theorem dt_Rr_readRest_93 : decode prog_8_method_4_code 93 = .ok (.aload_n 1, 1) := by decide +kernel
theorem dt_Rr_readRest_94 : decode prog_8_method_4_code 94 = .ok (.invokestatic 81, 3) := by decide +kernel
theorem dt_Rr_readRest_97 : decode prog_8_method_4_code 97 = .ok (.goto 8, 3) := by decide +kernel
theorem dt_Rr_readRest_100 : decode prog_8_method_4_code 100 = .ok (.aload_n 0, 1) := by decide +kernel
theorem dt_Rr_readRest_101 : decode prog_8_method_4_code 101 = .ok (.aload_n 1, 1) := by decide +kernel
theorem dt_Rr_readRest_102 : decode prog_8_method_4_code 102 = .ok (.invokestatic 84, 3) := by decide +kernel
theorem dt_Rr_readRest_105 : decode prog_8_method_4_code 105 = .ok (.return_, 1) := by decide +kernel
set_option maxHeartbeats 4000000 in
set_option maxRecDepth 10000 in
theorem tm_Rr_readRest {N : Nat} {T : Nat → tm_S} {w : ab_W} {tp : Nat} {o : Nat} (hW : tm_W N T w) (h_tp : is_Ta T tp) (h_o : is_Ri T o) (ne_tp_o : tp + 2 ≤ o ∨ o + 13 ≤ tp) (a : Int) (l_a : (-2147483648) ≤ a) (u_a : a ≤ 2147483647) (h : Int) (k_h : tm_g w o 7 = some (ab_I h)) (hh : a = 1 → h ≤ 6) : ab_Mt g_G g_rs mt_Rr_readRest 8 0 0 [ab_R tp, ab_R o, ab_I a] w (tm_Qv N T (fun w2 => (∀ (p : Nat) (j : Int), ¬ ((p = tp ∧ (j = 2 ∨ j = 5 ∨ j = 6 ∨ j = 7 ∨ j = 8 ∨ j = 4)) ∨ p = o ∨ p = (o + 1) ∨ p = (o + 2) ∨ p = (o + 3) ∨ p = (o + 4) ∨ p = (o + 5) ∨ p = (o + 6)) → tm_g w2 p j = tm_g w p j))) := by
  obtain ⟨tpt0, tpt1⟩ := id h_tp
  obtain ⟨ot0, ot1, ot2, ot3, ot4, ot5, ot6, ot7, ot8, ot9, ot10, ot11, ot12⟩ := id h_o
  have od := is_Ri.d h_o
  have hF0 : ∀ (p : Nat) (j : Int), ¬ ((p = tp ∧ (j = 2 ∨ j = 5 ∨ j = 6 ∨ j = 7 ∨ j = 8 ∨ j = 4)) ∨ p = o ∨ p = (o + 1) ∨ p = (o + 2) ∨ p = (o + 3) ∨ p = (o + 4) ∨ p = (o + 5) ∨ p = (o + 6)) → tm_g w p j = tm_g w p j := fun _ _ _ => rfl
  refine ab_Mt.of rfl (Nat.le_of_ble_eq_true rfl) ?_
  show ab_Ev g_G g_rs mt_Rr_readRest _ _ _ 0 [some (ab_R tp), some (ab_R o), some (ab_I a)] [] _ _
  have b_h : 0 ≤ h ∧ h ≤ 7 := by obtain ⟨a, e, h0, h1⟩ := tm_peek (k := 7) (K := 7) hW ot0 rfl rfl; rw [k_h] at e; injection e with e; injection e with e; omega
  refine ev_iload_n dt_Rr_readRest_0 rfl rfl ?_
  rcases (by omega : a = 0 ∨ a = 1 ∨ a = 2 ∨ a = 3 ∨ a = 4 ∨ a = 5 ∨ a < 0 ∨ 5 < a) with c119 | c119 | c119 | c119 | c119 | c119 | c119 | c119
  · skip
    refine ev_tableIn (off := 39) (tgt := 40) dt_Rr_readRest_1 (by omega) (by omega) (by omega) (by rw [c119]; rfl) (by decide) ?_
    refine ev_aload_n dt_Rr_readRest_40 rfl rfl ?_
    refine ev_iconst dt_Rr_readRest_41 ?_
    refine ev_aload_n dt_Rr_readRest_42 rfl rfl ?_
    refine ev_iconst dt_Rr_readRest_43 ?_
    refine ev_bipush dt_Rr_readRest_44 rfl ?_
    obtain ⟨v120, kv120, lv120, uv120⟩ := tm_peek (k := 4) (K := 4) hW tpt0 rfl rfl
    refine tm_vi dt_Rr_readRest_46 (tm_Ta_takeNumber hW h_tp (0) (by omega) (by omega) (11) (by omega) (by omega) (v120) kv120) kb_Rr_59 ⟨im_Ta_takeNumber, se_Ta_takeNumber⟩ rfl hW tpt0 rfl (Nat.le_of_ble_eq_true rfl) (by decide) (fun w121 v123 hWw121 hRw121 => ?_)
    obtain ⟨hfw121, v122, kv122, hpw121⟩ := hRw121
    have hFw121 : ∀ (p : Nat) (j : Int), ¬ ((p = tp ∧ (j = 2 ∨ j = 5 ∨ j = 6 ∨ j = 7 ∨ j = 8 ∨ j = 4)) ∨ p = o ∨ p = (o + 1) ∨ p = (o + 2) ∨ p = (o + 3) ∨ p = (o + 4) ∨ p = (o + 5) ∨ p = (o + 6)) → tm_g w121 p j = tm_g w p j := fun p j h => (hfw121 p j (by omega)).trans (hF0 p j h)
    have bv122 : (-2147483648) ≤ v122 ∧ v122 ≤ 2147483647 := by obtain ⟨a, e, h0, h1⟩ := tm_peek (k := 4) (K := 4) hWw121 tpt0 rfl rfl; rw [kv122] at e; injection e with e; injection e with e; omega
    have hbv123 : (-1) ≤ v123 ∧ v123 ≤ 11 := by omega
    refine tm_max (by omega) (by omega) dt_Rr_readRest_49 mk_Rr_63 (Nat.le_of_ble_eq_true rfl) (by decide) (fun v124 x1 x2 x3 => ?_)
    have hv124 : 0 ≤ v124 ∧ v124 ≤ 11 := by omega
    clear x1 x2 x3
    refine tm_putI (K := 1) dt_Rr_readRest_52 hWw121 ot0 (fp_Rr_68 _) rfl rfl trivial (by omega) (by omega) (fun w125 hWw125 kkw125 hfw125 => ?_)
    have hFw125 : ∀ (p : Nat) (j : Int), ¬ ((p = tp ∧ (j = 2 ∨ j = 5 ∨ j = 6 ∨ j = 7 ∨ j = 8 ∨ j = 4)) ∨ p = o ∨ p = (o + 1) ∨ p = (o + 2) ∨ p = (o + 3) ∨ p = (o + 4) ∨ p = (o + 5) ∨ p = (o + 6)) → tm_g w125 p j = tm_g w p j := fun p j h => (hfw125 p j (by omega)).trans (hFw121 p j h)
    have z126 := (hfw125 tp 4 (by omega)).trans kv122
    refine ev_goto (tgt := 105) dt_Rr_readRest_55 (by decide) ?_
    exact ev_return dt_Rr_readRest_105 rfl ⟨hWw125, rfl, hFw125⟩
  · skip
    refine ev_tableIn (off := 57) (tgt := 58) dt_Rr_readRest_1 (by omega) (by omega) (by omega) (by rw [c119]; rfl) (by decide) ?_
    refine ev_aload_n dt_Rr_readRest_58 rfl rfl ?_
    refine ev_aload_n dt_Rr_readRest_59 rfl rfl ?_
    refine tm_sv dt_Rr_readRest_60 (tm_Rr_readHouse hW h_tp h_o (by omega) (h) k_h (by omega) (by omega)) kb_Rr_71 sc_Rr_readHouse hW rfl (Nat.le_of_ble_eq_true rfl) (by decide) (fun w127 hWw127 hRw127 => ?_)
    have hfw127 := hRw127
    have hFw127 : ∀ (p : Nat) (j : Int), ¬ ((p = tp ∧ (j = 2 ∨ j = 5 ∨ j = 6 ∨ j = 7 ∨ j = 8 ∨ j = 4)) ∨ p = o ∨ p = (o + 1) ∨ p = (o + 2) ∨ p = (o + 3) ∨ p = (o + 4) ∨ p = (o + 5) ∨ p = (o + 6)) → tm_g w127 p j = tm_g w p j := fun p j h => (hfw127 p j (by omega)).trans (hF0 p j h)
    refine ev_goto (tgt := 105) dt_Rr_readRest_63 (by decide) ?_
    exact ev_return dt_Rr_readRest_105 rfl ⟨hWw127, rfl, hFw127⟩
  · skip
    refine ev_tableIn (off := 65) (tgt := 66) dt_Rr_readRest_1 (by omega) (by omega) (by omega) (by rw [c119]; rfl) (by decide) ?_
    refine ev_aload_n dt_Rr_readRest_66 rfl rfl ?_
    refine ev_aload_n dt_Rr_readRest_67 rfl rfl ?_
    refine tm_sv dt_Rr_readRest_68 (tm_Rr_readSight hW h_tp h_o (by omega)) kb_Rr_75 sc_Rr_readSight hW rfl (Nat.le_of_ble_eq_true rfl) (by decide) (fun w128 hWw128 hRw128 => ?_)
    have hfw128 := hRw128
    have hFw128 : ∀ (p : Nat) (j : Int), ¬ ((p = tp ∧ (j = 2 ∨ j = 5 ∨ j = 6 ∨ j = 7 ∨ j = 8 ∨ j = 4)) ∨ p = o ∨ p = (o + 1) ∨ p = (o + 2) ∨ p = (o + 3) ∨ p = (o + 4) ∨ p = (o + 5) ∨ p = (o + 6)) → tm_g w128 p j = tm_g w p j := fun p j h => (hfw128 p j (by omega)).trans (hF0 p j h)
    refine ev_goto (tgt := 105) dt_Rr_readRest_71 (by decide) ?_
    exact ev_return dt_Rr_readRest_105 rfl ⟨hWw128, rfl, hFw128⟩
  · skip
    refine ev_tableIn (off := 73) (tgt := 74) dt_Rr_readRest_1 (by omega) (by omega) (by omega) (by rw [c119]; rfl) (by decide) ?_
    refine ev_aload_n dt_Rr_readRest_74 rfl rfl ?_
    refine ev_aload_n dt_Rr_readRest_75 rfl rfl ?_
    refine ev_iconst dt_Rr_readRest_76 ?_
    refine tm_sv dt_Rr_readRest_77 (tm_Rr_readLiking hW h_tp h_o (by omega) (1) (by omega) (by omega)) kb_Rr_78 sc_Rr_readLiking hW rfl (Nat.le_of_ble_eq_true rfl) (by decide) (fun w129 hWw129 hRw129 => ?_)
    have hfw129 := hRw129
    have hFw129 : ∀ (p : Nat) (j : Int), ¬ ((p = tp ∧ (j = 2 ∨ j = 5 ∨ j = 6 ∨ j = 7 ∨ j = 8 ∨ j = 4)) ∨ p = o ∨ p = (o + 1) ∨ p = (o + 2) ∨ p = (o + 3) ∨ p = (o + 4) ∨ p = (o + 5) ∨ p = (o + 6)) → tm_g w129 p j = tm_g w p j := fun p j h => (hfw129 p j (by omega)).trans (hF0 p j h)
    refine ev_goto (tgt := 105) dt_Rr_readRest_80 (by decide) ?_
    exact ev_return dt_Rr_readRest_105 rfl ⟨hWw129, rfl, hFw129⟩
  · skip
    refine ev_tableIn (off := 82) (tgt := 83) dt_Rr_readRest_1 (by omega) (by omega) (by omega) (by rw [c119]; rfl) (by decide) ?_
    refine ev_aload_n dt_Rr_readRest_83 rfl rfl ?_
    refine ev_aload_n dt_Rr_readRest_84 rfl rfl ?_
    refine ev_iconst dt_Rr_readRest_85 ?_
    refine tm_sv dt_Rr_readRest_86 (tm_Rr_readLiking hW h_tp h_o (by omega) ((-1)) (by omega) (by omega)) kb_Rr_78 sc_Rr_readLiking hW rfl (Nat.le_of_ble_eq_true rfl) (by decide) (fun w130 hWw130 hRw130 => ?_)
    have hfw130 := hRw130
    have hFw130 : ∀ (p : Nat) (j : Int), ¬ ((p = tp ∧ (j = 2 ∨ j = 5 ∨ j = 6 ∨ j = 7 ∨ j = 8 ∨ j = 4)) ∨ p = o ∨ p = (o + 1) ∨ p = (o + 2) ∨ p = (o + 3) ∨ p = (o + 4) ∨ p = (o + 5) ∨ p = (o + 6)) → tm_g w130 p j = tm_g w p j := fun p j h => (hfw130 p j (by omega)).trans (hF0 p j h)
    refine ev_goto (tgt := 105) dt_Rr_readRest_89 (by decide) ?_
    exact ev_return dt_Rr_readRest_105 rfl ⟨hWw130, rfl, hFw130⟩
  · skip
    refine ev_tableIn (off := 91) (tgt := 92) dt_Rr_readRest_1 (by omega) (by omega) (by omega) (by rw [c119]; rfl) (by decide) ?_
    refine ev_aload_n dt_Rr_readRest_92 rfl rfl ?_
    refine ev_aload_n dt_Rr_readRest_93 rfl rfl ?_
    refine tm_sv dt_Rr_readRest_94 (tm_Rr_readGate hW h_tp h_o (by omega)) kb_Rr_81 sc_Rr_readGate hW rfl (Nat.le_of_ble_eq_true rfl) (by decide) (fun w131 hWw131 hRw131 => ?_)
    have hfw131 := hRw131
    have hFw131 : ∀ (p : Nat) (j : Int), ¬ ((p = tp ∧ (j = 2 ∨ j = 5 ∨ j = 6 ∨ j = 7 ∨ j = 8 ∨ j = 4)) ∨ p = o ∨ p = (o + 1) ∨ p = (o + 2) ∨ p = (o + 3) ∨ p = (o + 4) ∨ p = (o + 5) ∨ p = (o + 6)) → tm_g w131 p j = tm_g w p j := fun p j h => (hfw131 p j (by omega)).trans (hF0 p j h)
    refine ev_goto (tgt := 105) dt_Rr_readRest_97 (by decide) ?_
    exact ev_return dt_Rr_readRest_105 rfl ⟨hWw131, rfl, hFw131⟩
  · skip
    refine ev_tableOut (tgt := 100) dt_Rr_readRest_1 (by omega) (by omega) (by decide) ?_
    refine ev_aload_n dt_Rr_readRest_100 rfl rfl ?_
    refine ev_aload_n dt_Rr_readRest_101 rfl rfl ?_
    refine tm_sv dt_Rr_readRest_102 (tm_Rr_readRate hW h_tp h_o (by omega)) kb_Rr_84 sc_Rr_readRate hW rfl (Nat.le_of_ble_eq_true rfl) (by decide) (fun w132 hWw132 hRw132 => ?_)
    have hfw132 := hRw132
    have hFw132 : ∀ (p : Nat) (j : Int), ¬ ((p = tp ∧ (j = 2 ∨ j = 5 ∨ j = 6 ∨ j = 7 ∨ j = 8 ∨ j = 4)) ∨ p = o ∨ p = (o + 1) ∨ p = (o + 2) ∨ p = (o + 3) ∨ p = (o + 4) ∨ p = (o + 5) ∨ p = (o + 6)) → tm_g w132 p j = tm_g w p j := fun p j h => (hfw132 p j (by omega)).trans (hF0 p j h)
    exact ev_return dt_Rr_readRest_105 rfl ⟨hWw132, rfl, hFw132⟩
  · skip
    refine ev_tableOut (tgt := 100) dt_Rr_readRest_1 (by omega) (by omega) (by decide) ?_
    refine ev_aload_n dt_Rr_readRest_100 rfl rfl ?_
    refine ev_aload_n dt_Rr_readRest_101 rfl rfl ?_
    refine tm_sv dt_Rr_readRest_102 (tm_Rr_readRate hW h_tp h_o (by omega)) kb_Rr_84 sc_Rr_readRate hW rfl (Nat.le_of_ble_eq_true rfl) (by decide) (fun w133 hWw133 hRw133 => ?_)
    have hfw133 := hRw133
    have hFw133 : ∀ (p : Nat) (j : Int), ¬ ((p = tp ∧ (j = 2 ∨ j = 5 ∨ j = 6 ∨ j = 7 ∨ j = 8 ∨ j = 4)) ∨ p = o ∨ p = (o + 1) ∨ p = (o + 2) ∨ p = (o + 3) ∨ p = (o + 4) ∨ p = (o + 5) ∨ p = (o + 6)) → tm_g w133 p j = tm_g w p j := fun p j h => (hfw133 p j (by omega)).trans (hF0 p j h)
    exact ev_return dt_Rr_readRest_105 rfl ⟨hWw133, rfl, hFw133⟩
theorem dt_Rr_readAll_0 : decode prog_8_method_2_code 0 = .ok (.aload_n 0, 1) := by decide +kernel
theorem dt_Rr_readAll_1 : decode prog_8_method_2_code 1 = .ok (.ldc 11, 2) := by decide +kernel
theorem dt_Rr_readAll_3 : decode prog_8_method_2_code 3 = .ok (.invokevirtual 13, 3) := by decide +kernel
theorem dt_Rr_readAll_6 : decode prog_8_method_2_code 6 = .ok (.aload_n 1, 1) := by decide +kernel
theorem dt_Rr_readAll_7 : decode prog_8_method_2_code 7 = .ok (.invokevirtual 19, 3) := by decide +kernel
theorem dt_Rr_readAll_10 : decode prog_8_method_2_code 10 = .ok (.iconst 1, 1) := by decide +kernel
theorem dt_Rr_readAll_11 : decode prog_8_method_2_code 11 = .ok (.istore_n 2, 1) := by decide +kernel
theorem dt_Rr_readAll_12 : decode prog_8_method_2_code 12 = .ok (.iconst 0, 1) := by decide +kernel
theorem dt_Rr_readAll_13 : decode prog_8_method_2_code 13 = .ok (.istore_n 3, 1) := by decide +kernel
theorem dt_Rr_readAll_14 : decode prog_8_method_2_code 14 = .ok (.iload_n 2, 1) := by decide +kernel
theorem dt_Rr_readAll_15 : decode prog_8_method_2_code 15 = .ok (.ifCond .eq 93, 3) := by decide +kernel
theorem dt_Rr_readAll_18 : decode prog_8_method_2_code 18 = .ok (.iload_n 3, 1) := by decide +kernel
theorem dt_Rr_readAll_19 : decode prog_8_method_2_code 19 = .ok (.bipush 40, 2) := by decide +kernel
theorem dt_Rr_readAll_21 : decode prog_8_method_2_code 21 = .ok (.if_icmp .gt 87, 3) := by decide +kernel
theorem dt_Rr_readAll_24 : decode prog_8_method_2_code 24 = .ok (.aload_n 0, 1) := by decide +kernel
theorem dt_Rr_readAll_25 : decode prog_8_method_2_code 25 = .ok (.getfield 24, 3) := by decide +kernel
theorem dt_Rr_readAll_28 : decode prog_8_method_2_code 28 = .ok (.istore 4, 2) := by decide +kernel
theorem dt_Rr_readAll_30 : decode prog_8_method_2_code 30 = .ok (.iload 4, 2) := by decide +kernel
theorem dt_Rr_readAll_32 : decode prog_8_method_2_code 32 = .ok (.iconst (-1), 1) := by decide +kernel
theorem dt_Rr_readAll_33 : decode prog_8_method_2_code 33 = .ok (.if_icmp .ne 11, 3) := by decide +kernel
theorem dt_Rr_readAll_36 : decode prog_8_method_2_code 36 = .ok (.aload_n 0, 1) := by decide +kernel
theorem dt_Rr_readAll_37 : decode prog_8_method_2_code 37 = .ok (.iconst 0, 1) := by decide +kernel
theorem dt_Rr_readAll_38 : decode prog_8_method_2_code 38 = .ok (.invokevirtual 28, 3) := by decide +kernel
theorem dt_Rr_readAll_41 : decode prog_8_method_2_code 41 = .ok (.goto 38, 3) := by decide +kernel
theorem dt_Rr_readAll_44 : decode prog_8_method_2_code 44 = .ok (.iload_n 3, 1) := by decide +kernel
theorem dt_Rr_readAll_45 : decode prog_8_method_2_code 45 = .ok (.bipush 40, 2) := by decide +kernel
theorem dt_Rr_readAll_47 : decode prog_8_method_2_code 47 = .ok (.if_icmp .eq 13, 3) := by decide +kernel
theorem dt_Rr_readAll_50 : decode prog_8_method_2_code 50 = .ok (.aload_n 1, 1) := by decide +kernel
theorem dt_Rr_readAll_51 : decode prog_8_method_2_code 51 = .ok (.iload 4, 2) := by decide +kernel
theorem dt_Rr_readAll_53 : decode prog_8_method_2_code 53 = .ok (.iload_n 3, 1) := by decide +kernel
theorem dt_Rr_readAll_54 : decode prog_8_method_2_code 54 = .ok (.invokestatic 32, 3) := by decide +kernel
theorem dt_Rr_readAll_57 : decode prog_8_method_2_code 57 = .ok (.ifCond .ne 11, 3) := by decide +kernel
theorem dt_Rr_readAll_60 : decode prog_8_method_2_code 60 = .ok (.aload_n 0, 1) := by decide +kernel
theorem dt_Rr_readAll_61 : decode prog_8_method_2_code 61 = .ok (.iconst 4, 1) := by decide +kernel
theorem dt_Rr_readAll_62 : decode prog_8_method_2_code 62 = .ok (.invokevirtual 28, 3) := by decide +kernel
theorem dt_Rr_readAll_65 : decode prog_8_method_2_code 65 = .ok (.goto 14, 3) := by decide +kernel
theorem dt_Rr_readAll_68 : decode prog_8_method_2_code 68 = .ok (.aload_n 0, 1) := by decide +kernel
theorem dt_Rr_readAll_69 : decode prog_8_method_2_code 69 = .ok (.invokevirtual 36, 3) := by decide +kernel
theorem dt_Rr_readAll_72 : decode prog_8_method_2_code 72 = .ok (.aload_n 0, 1) := by decide +kernel
theorem dt_Rr_readAll_73 : decode prog_8_method_2_code 73 = .ok (.aload_n 1, 1) := by decide +kernel
theorem dt_Rr_readAll_74 : decode prog_8_method_2_code 74 = .ok (.iload 4, 2) := by decide +kernel
theorem dt_Rr_readAll_76 : decode prog_8_method_2_code 76 = .ok (.invokestatic 39, 3) := by decide +kernel
theorem dt_Rr_readAll_79 : decode prog_8_method_2_code 79 = .ok (.aload_n 0, 1) := by decide +kernel
theorem dt_Rr_readAll_80 : decode prog_8_method_2_code 80 = .ok (.getfield 43, 3) := by decide +kernel
theorem dt_Rr_readAll_83 : decode prog_8_method_2_code 83 = .ok (.bipush 59, 2) := by decide +kernel
theorem dt_Rr_readAll_85 : decode prog_8_method_2_code 85 = .ok (.if_icmp .ne 7, 3) := by decide +kernel
theorem dt_Rr_readAll_88 : decode prog_8_method_2_code 88 = .ok (.iconst 1, 1) := by decide +kernel
theorem dt_Rr_readAll_89 : decode prog_8_method_2_code 89 = .ok (.goto 4, 3) := by decide +kernel
theorem dt_Rr_readAll_92 : decode prog_8_method_2_code 92 = .ok (.iconst 0, 1) := by decide +kernel
theorem dt_Rr_readAll_93 : decode prog_8_method_2_code 93 = .ok (.istore_n 2, 1) := by decide +kernel
theorem dt_Rr_readAll_94 : decode prog_8_method_2_code 94 = .ok (.iload_n 2, 1) := by decide +kernel
theorem dt_Rr_readAll_95 : decode prog_8_method_2_code 95 = .ok (.ifCond .eq 7, 3) := by decide +kernel
theorem dt_Rr_readAll_98 : decode prog_8_method_2_code 98 = .ok (.aload_n 0, 1) := by decide +kernel
theorem dt_Rr_readAll_99 : decode prog_8_method_2_code 99 = .ok (.invokevirtual 36, 3) := by decide +kernel
theorem dt_Rr_readAll_102 : decode prog_8_method_2_code 102 = .ok (.iinc 3 1, 3) := by decide +kernel
theorem dt_Rr_readAll_105 : decode prog_8_method_2_code 105 = .ok (.goto (-91), 3) := by decide +kernel
theorem dt_Rr_readAll_108 : decode prog_8_method_2_code 108 = .ok (.aload_n 0, 1) := by decide +kernel
theorem dt_Rr_readAll_109 : decode prog_8_method_2_code 109 = .ok (.getfield 43, 3) := by decide +kernel
theorem dt_Rr_readAll_112 : decode prog_8_method_2_code 112 = .ok (.iconst (-1), 1) := by decide +kernel
theorem dt_Rr_readAll_113 : decode prog_8_method_2_code 113 = .ok (.if_icmp .eq 8, 3) := by decide +kernel
theorem dt_Rr_readAll_116 : decode prog_8_method_2_code 116 = .ok (.aload_n 0, 1) := by decide +kernel
theorem dt_Rr_readAll_117 : decode prog_8_method_2_code 117 = .ok (.iconst 0, 1) := by decide +kernel
theorem dt_Rr_readAll_118 : decode prog_8_method_2_code 118 = .ok (.invokevirtual 28, 3) := by decide +kernel
theorem dt_Rr_readAll_121 : decode prog_8_method_2_code 121 = .ok (.aload_n 1, 1) := by decide +kernel
theorem dt_Rr_readAll_122 : decode prog_8_method_2_code 122 = .ok (.aload_n 0, 1) := by decide +kernel
theorem dt_Rr_readAll_123 : decode prog_8_method_2_code 123 = .ok (.getfield 46, 3) := by decide +kernel
theorem dt_Rr_readAll_126 : decode prog_8_method_2_code 126 = .ok (.ifCond .ne 7, 3) := by decide +kernel
theorem dt_Rr_readAll_129 : decode prog_8_method_2_code 129 = .ok (.iconst 1, 1) := by decide +kernel
theorem dt_Rr_readAll_130 : decode prog_8_method_2_code 130 = .ok (.goto 4, 3) := by decide +kernel
theorem dt_Rr_readAll_133 : decode prog_8_method_2_code 133 = .ok (.iconst 0, 1) := by decide +kernel
theorem dt_Rr_readAll_134 : decode prog_8_method_2_code 134 = .ok (.putfield 49, 3) := by decide +kernel
theorem dt_Rr_readAll_137 : decode prog_8_method_2_code 137 = .ok (.aload_n 0, 1) := by decide +kernel
theorem dt_Rr_readAll_138 : decode prog_8_method_2_code 138 = .ok (.getfield 46, 3) := by decide +kernel
theorem dt_Rr_readAll_141 : decode prog_8_method_2_code 141 = .ok (.ireturn, 1) := by decide +kernel
set_option maxHeartbeats 4000000 in
set_option maxRecDepth 10000 in
theorem tm_Rr_readAll {N : Nat} {T : Nat → tm_S} {w : ab_W} {tp : Nat} {o : Nat} (hW : tm_W N T w) (h_tp : is_Ta T tp) (h_o : is_Ri T o) (ne_tp_o : tp + 2 ≤ o ∨ o + 13 ≤ tp) : ab_Mt g_G g_rs mt_Rr_readAll 9 0 0 [ab_R tp, ab_R o] w (tm_Qi N T (fun v w2 => (∀ (p : Nat) (j : Int), ¬ ((p = tp ∧ (j = 2 ∨ j = 5 ∨ j = 6 ∨ j = 7 ∨ j = 8 ∨ j = 4 ∨ j = 3)) ∨ p = o ∨ p = (o + 1) ∨ p = (o + 2) ∨ p = (o + 3) ∨ p = (o + 4) ∨ p = (o + 5) ∨ p = (o + 6) ∨ p = (o + 7) ∨ p = (o + 8)) → tm_g w2 p j = tm_g w p j) ∧ ((-2147483648) ≤ v ∧ v ≤ 2147483647))) := by
  obtain ⟨tpt0, tpt1⟩ := id h_tp
  obtain ⟨ot0, ot1, ot2, ot3, ot4, ot5, ot6, ot7, ot8, ot9, ot10, ot11, ot12⟩ := id h_o
  have od := is_Ri.d h_o
  have hF0 : ∀ (p : Nat) (j : Int), ¬ ((p = tp ∧ (j = 2 ∨ j = 5 ∨ j = 6 ∨ j = 7 ∨ j = 8 ∨ j = 4 ∨ j = 3)) ∨ p = o ∨ p = (o + 1) ∨ p = (o + 2) ∨ p = (o + 3) ∨ p = (o + 4) ∨ p = (o + 5) ∨ p = (o + 6) ∨ p = (o + 7) ∨ p = (o + 8)) → tm_g w p j = tm_g w p j := fun _ _ _ => rfl
  refine ab_Mt.of rfl (Nat.le_of_ble_eq_true rfl) ?_
  show ab_Ev g_G g_rs mt_Rr_readAll _ _ _ 0 [some (ab_R tp), some (ab_R o), none, none, none] [] _ _
  refine ev_aload_n dt_Rr_readAll_0 rfl rfl ?_
  refine ev_ldcS (k := 1) dt_Rr_readAll_1 (List.mem_of_getElem? (i := 1) rfl) (by decide) ?_
  refine tm_vv dt_Rr_readAll_3 (tm_Ta_begin hW h_tp 1 (by decide)) kb_Rr_13 ⟨im_Ta_begin, se_Ta_begin⟩ rfl hW tpt0 rfl (Nat.le_of_ble_eq_true rfl) (by decide) (fun w134 hWw134 hRw134 => ?_)
  have hfw134 := hRw134
  have hFw134 : ∀ (p : Nat) (j : Int), ¬ ((p = tp ∧ (j = 2 ∨ j = 5 ∨ j = 6 ∨ j = 7 ∨ j = 8 ∨ j = 4 ∨ j = 3)) ∨ p = o ∨ p = (o + 1) ∨ p = (o + 2) ∨ p = (o + 3) ∨ p = (o + 4) ∨ p = (o + 5) ∨ p = (o + 6) ∨ p = (o + 7) ∨ p = (o + 8)) → tm_g w134 p j = tm_g w p j := fun p j h => (hfw134 p j (by omega)).trans (hF0 p j h)
  refine ev_aload_n dt_Rr_readAll_6 rfl rfl ?_
  refine tm_vv dt_Rr_readAll_7 (tm_Ri_clear hWw134 h_o) kb_Rr_19 ⟨im_Ri_clear, se_Ri_clear⟩ rfl hWw134 ot0 rfl (Nat.le_of_ble_eq_true rfl) (by decide) (fun w135 hWw135 hRw135 => ?_)
  have hfw135 := hRw135
  have hFw135 : ∀ (p : Nat) (j : Int), ¬ ((p = tp ∧ (j = 2 ∨ j = 5 ∨ j = 6 ∨ j = 7 ∨ j = 8 ∨ j = 4 ∨ j = 3)) ∨ p = o ∨ p = (o + 1) ∨ p = (o + 2) ∨ p = (o + 3) ∨ p = (o + 4) ∨ p = (o + 5) ∨ p = (o + 6) ∨ p = (o + 7) ∨ p = (o + 8)) → tm_g w135 p j = tm_g w p j := fun p j h => (hfw135 p j (by omega)).trans (hFw134 p j h)
  refine ev_iconst dt_Rr_readAll_10 ?_
  refine ev_istore_n (l' := [_, _, _, _, _]) dt_Rr_readAll_11 rfl (Nat.le_of_ble_eq_true rfl) rfl ?_
  refine ev_iconst dt_Rr_readAll_12 ?_
  refine ev_istore_n (l' := [_, _, _, _, _]) dt_Rr_readAll_13 rfl (Nat.le_of_ble_eq_true rfl) rfl ?_
  have L136 : ∀ (n : Nat) (i137 : Int) (i138 : Int)  (w139 : ab_W), tm_W N T w139 → (∀ (p : Nat) (j : Int), ¬ ((p = tp ∧ (j = 2 ∨ j = 5 ∨ j = 6 ∨ j = 7 ∨ j = 8 ∨ j = 4 ∨ j = 3)) ∨ p = o ∨ p = (o + 1) ∨ p = (o + 2) ∨ p = (o + 3) ∨ p = (o + 4) ∨ p = (o + 5) ∨ p = (o + 6) ∨ p = (o + 7) ∨ p = (o + 8)) → tm_g w139 p j = tm_g w p j) → 0 ≤ i137 → i137 ≤ 1 → 0 ≤ i138 → i138 ≤ 41 → 41 - i138 < (n : Int) → ab_Ev g_G g_rs mt_Rr_readAll 9 0 0 14 [some (ab_R tp), some (ab_R o), some (ab_I i137), some (ab_I i138), none] [] w139 (tm_Qi N T (fun v w2 => (∀ (p : Nat) (j : Int), ¬ ((p = tp ∧ (j = 2 ∨ j = 5 ∨ j = 6 ∨ j = 7 ∨ j = 8 ∨ j = 4 ∨ j = 3)) ∨ p = o ∨ p = (o + 1) ∨ p = (o + 2) ∨ p = (o + 3) ∨ p = (o + 4) ∨ p = (o + 5) ∨ p = (o + 6) ∨ p = (o + 7) ∨ p = (o + 8)) → tm_g w2 p j = tm_g w p j) ∧ ((-2147483648) ≤ v ∧ v ≤ 2147483647))) := by
    intro n
    induction n with
    | zero =>
      intro i137 i138  w139 hWw139 hFw139 li137 ui137 li138 ui138 mL136
      exfalso
      omega
    | succ nL136 ihL136 =>
      intro i137 i138  w139 hWw139 hFw139 li137 ui137 li138 ui138 mL136
      refine ev_iload_n dt_Rr_readAll_14 rfl rfl ?_
      refine ev_if_eq (tgt := 108) dt_Rr_readAll_15 (by decide) (by omega) (fun h140 => ?_) (fun h140 => ?_)
      · skip
        refine ev_aload_n dt_Rr_readAll_108 rfl rfl ?_
        refine tm_getI (K := 6) dt_Rr_readAll_109 hWw139 tpt0 fl_Rr_43 rfl rfl (fun v141 kv141 lv141 uv141 => ?_)
        refine ev_iconst dt_Rr_readAll_112 ?_
        refine ev_icmp_eq (tgt := 121) dt_Rr_readAll_113 (by decide) (by omega) (by omega) (fun h142 => ?_) (fun h142 => ?_)
        · skip
          refine ev_aload_n dt_Rr_readAll_121 rfl rfl ?_
          refine ev_aload_n dt_Rr_readAll_122 rfl rfl ?_
          refine tm_getI (K := 4) dt_Rr_readAll_123 hWw139 tpt0 fl_Rr_46 rfl rfl (fun v143 kv143 lv143 uv143 => ?_)
          refine ev_if_ne (tgt := 133) dt_Rr_readAll_126 (by decide) (by omega) (fun h144 => ?_) (fun h144 => ?_)
          · skip
            refine ev_iconst dt_Rr_readAll_133 ?_
            refine tm_putI (K := 0) dt_Rr_readAll_134 hWw139 ot0 (fp_Rr_49 _) rfl rfl (by have h0 := True; first | (show _ = _ ∨ _ = _; omega) | omega) (by omega) (by omega) (fun w145 hWw145 kkw145 hfw145 => ?_)
            have hFw145 : ∀ (p : Nat) (j : Int), ¬ ((p = tp ∧ (j = 2 ∨ j = 5 ∨ j = 6 ∨ j = 7 ∨ j = 8 ∨ j = 4 ∨ j = 3)) ∨ p = o ∨ p = (o + 1) ∨ p = (o + 2) ∨ p = (o + 3) ∨ p = (o + 4) ∨ p = (o + 5) ∨ p = (o + 6) ∨ p = (o + 7) ∨ p = (o + 8)) → tm_g w145 p j = tm_g w p j := fun p j h => (hfw145 p j (by omega)).trans (hFw139 p j h)
            have z146 := (hfw145 tp 6 (by omega)).trans kv141
            have z147 := (hfw145 tp 4 (by omega)).trans kv143
            refine ev_aload_n dt_Rr_readAll_137 rfl rfl ?_
            refine tm_getK (K := 4) dt_Rr_readAll_138 hWw145 tpt0 fl_Rr_46 rfl z147 ?_
            exact ev_ireturn dt_Rr_readAll_141 rfl ⟨hWw145, _, rfl, ⟨hFw145, by omega⟩⟩
          · skip
            refine ev_iconst dt_Rr_readAll_129 ?_
            refine ev_goto (tgt := 134) dt_Rr_readAll_130 (by decide) ?_
            refine tm_putI (K := 0) dt_Rr_readAll_134 hWw139 ot0 (fp_Rr_49 _) rfl rfl (by have h0 := True; first | (show _ = _ ∨ _ = _; omega) | omega) (by omega) (by omega) (fun w148 hWw148 kkw148 hfw148 => ?_)
            have hFw148 : ∀ (p : Nat) (j : Int), ¬ ((p = tp ∧ (j = 2 ∨ j = 5 ∨ j = 6 ∨ j = 7 ∨ j = 8 ∨ j = 4 ∨ j = 3)) ∨ p = o ∨ p = (o + 1) ∨ p = (o + 2) ∨ p = (o + 3) ∨ p = (o + 4) ∨ p = (o + 5) ∨ p = (o + 6) ∨ p = (o + 7) ∨ p = (o + 8)) → tm_g w148 p j = tm_g w p j := fun p j h => (hfw148 p j (by omega)).trans (hFw139 p j h)
            have z149 := (hfw148 tp 6 (by omega)).trans kv141
            have z150 := (hfw148 tp 4 (by omega)).trans kv143
            refine ev_aload_n dt_Rr_readAll_137 rfl rfl ?_
            refine tm_getK (K := 4) dt_Rr_readAll_138 hWw148 tpt0 fl_Rr_46 rfl z150 ?_
            exact ev_ireturn dt_Rr_readAll_141 rfl ⟨hWw148, _, rfl, ⟨hFw148, by omega⟩⟩
        · skip
          refine ev_aload_n dt_Rr_readAll_116 rfl rfl ?_
          refine ev_iconst dt_Rr_readAll_117 ?_
          refine tm_vv dt_Rr_readAll_118 (tm_Ta_fail hWw139 h_tp (0) (by omega) (by omega)) kb_Rr_28 ⟨im_Ta_fail, se_Ta_fail⟩ rfl hWw139 tpt0 rfl (Nat.le_of_ble_eq_true rfl) (by decide) (fun w151 hWw151 hRw151 => ?_)
          obtain ⟨hfw151, v152, kv152, hpw151⟩ := hRw151
          have hFw151 : ∀ (p : Nat) (j : Int), ¬ ((p = tp ∧ (j = 2 ∨ j = 5 ∨ j = 6 ∨ j = 7 ∨ j = 8 ∨ j = 4 ∨ j = 3)) ∨ p = o ∨ p = (o + 1) ∨ p = (o + 2) ∨ p = (o + 3) ∨ p = (o + 4) ∨ p = (o + 5) ∨ p = (o + 6) ∨ p = (o + 7) ∨ p = (o + 8)) → tm_g w151 p j = tm_g w p j := fun p j h => (hfw151 p j (by omega)).trans (hFw139 p j h)
          have bv152 : (-2147483648) ≤ v152 ∧ v152 ≤ 2147483647 := by obtain ⟨a, e, h0, h1⟩ := tm_peek (k := 4) (K := 4) hWw151 tpt0 rfl rfl; rw [kv152] at e; injection e with e; injection e with e; omega
          refine ev_aload_n dt_Rr_readAll_121 rfl rfl ?_
          refine ev_aload_n dt_Rr_readAll_122 rfl rfl ?_
          refine tm_getK (K := 4) dt_Rr_readAll_123 hWw151 tpt0 fl_Rr_46 rfl kv152 ?_
          refine ev_if_ne (tgt := 133) dt_Rr_readAll_126 (by decide) (by omega) (fun h153 => ?_) (fun h153 => ?_)
          · skip
            refine ev_iconst dt_Rr_readAll_133 ?_
            refine tm_putI (K := 0) dt_Rr_readAll_134 hWw151 ot0 (fp_Rr_49 _) rfl rfl (by have h0 := True; first | (show _ = _ ∨ _ = _; omega) | omega) (by omega) (by omega) (fun w154 hWw154 kkw154 hfw154 => ?_)
            have hFw154 : ∀ (p : Nat) (j : Int), ¬ ((p = tp ∧ (j = 2 ∨ j = 5 ∨ j = 6 ∨ j = 7 ∨ j = 8 ∨ j = 4 ∨ j = 3)) ∨ p = o ∨ p = (o + 1) ∨ p = (o + 2) ∨ p = (o + 3) ∨ p = (o + 4) ∨ p = (o + 5) ∨ p = (o + 6) ∨ p = (o + 7) ∨ p = (o + 8)) → tm_g w154 p j = tm_g w p j := fun p j h => (hfw154 p j (by omega)).trans (hFw151 p j h)
            have z155 := (hfw154 tp 4 (by omega)).trans kv152
            refine ev_aload_n dt_Rr_readAll_137 rfl rfl ?_
            refine tm_getK (K := 4) dt_Rr_readAll_138 hWw154 tpt0 fl_Rr_46 rfl z155 ?_
            exact ev_ireturn dt_Rr_readAll_141 rfl ⟨hWw154, _, rfl, ⟨hFw154, by omega⟩⟩
          · skip
            refine ev_iconst dt_Rr_readAll_129 ?_
            refine ev_goto (tgt := 134) dt_Rr_readAll_130 (by decide) ?_
            refine tm_putI (K := 0) dt_Rr_readAll_134 hWw151 ot0 (fp_Rr_49 _) rfl rfl (by have h0 := True; first | (show _ = _ ∨ _ = _; omega) | omega) (by omega) (by omega) (fun w156 hWw156 kkw156 hfw156 => ?_)
            have hFw156 : ∀ (p : Nat) (j : Int), ¬ ((p = tp ∧ (j = 2 ∨ j = 5 ∨ j = 6 ∨ j = 7 ∨ j = 8 ∨ j = 4 ∨ j = 3)) ∨ p = o ∨ p = (o + 1) ∨ p = (o + 2) ∨ p = (o + 3) ∨ p = (o + 4) ∨ p = (o + 5) ∨ p = (o + 6) ∨ p = (o + 7) ∨ p = (o + 8)) → tm_g w156 p j = tm_g w p j := fun p j h => (hfw156 p j (by omega)).trans (hFw151 p j h)
            have z157 := (hfw156 tp 4 (by omega)).trans kv152
            refine ev_aload_n dt_Rr_readAll_137 rfl rfl ?_
            refine tm_getK (K := 4) dt_Rr_readAll_138 hWw156 tpt0 fl_Rr_46 rfl z157 ?_
            exact ev_ireturn dt_Rr_readAll_141 rfl ⟨hWw156, _, rfl, ⟨hFw156, by omega⟩⟩
      · skip
        refine ev_iload_n dt_Rr_readAll_18 rfl rfl ?_
        refine ev_bipush dt_Rr_readAll_19 rfl ?_
        refine ev_icmp_gt (tgt := 108) dt_Rr_readAll_21 (by decide) (by omega) (by omega) (fun h158 => ?_) (fun h158 => ?_)
        · skip
          refine ev_aload_n dt_Rr_readAll_108 rfl rfl ?_
          refine tm_getI (K := 6) dt_Rr_readAll_109 hWw139 tpt0 fl_Rr_43 rfl rfl (fun v159 kv159 lv159 uv159 => ?_)
          refine ev_iconst dt_Rr_readAll_112 ?_
          refine ev_icmp_eq (tgt := 121) dt_Rr_readAll_113 (by decide) (by omega) (by omega) (fun h160 => ?_) (fun h160 => ?_)
          · skip
            refine ev_aload_n dt_Rr_readAll_121 rfl rfl ?_
            refine ev_aload_n dt_Rr_readAll_122 rfl rfl ?_
            refine tm_getI (K := 4) dt_Rr_readAll_123 hWw139 tpt0 fl_Rr_46 rfl rfl (fun v161 kv161 lv161 uv161 => ?_)
            refine ev_if_ne (tgt := 133) dt_Rr_readAll_126 (by decide) (by omega) (fun h162 => ?_) (fun h162 => ?_)
            · skip
              refine ev_iconst dt_Rr_readAll_133 ?_
              refine tm_putI (K := 0) dt_Rr_readAll_134 hWw139 ot0 (fp_Rr_49 _) rfl rfl (by have h0 := True; first | (show _ = _ ∨ _ = _; omega) | omega) (by omega) (by omega) (fun w163 hWw163 kkw163 hfw163 => ?_)
              have hFw163 : ∀ (p : Nat) (j : Int), ¬ ((p = tp ∧ (j = 2 ∨ j = 5 ∨ j = 6 ∨ j = 7 ∨ j = 8 ∨ j = 4 ∨ j = 3)) ∨ p = o ∨ p = (o + 1) ∨ p = (o + 2) ∨ p = (o + 3) ∨ p = (o + 4) ∨ p = (o + 5) ∨ p = (o + 6) ∨ p = (o + 7) ∨ p = (o + 8)) → tm_g w163 p j = tm_g w p j := fun p j h => (hfw163 p j (by omega)).trans (hFw139 p j h)
              have z164 := (hfw163 tp 6 (by omega)).trans kv159
              have z165 := (hfw163 tp 4 (by omega)).trans kv161
              refine ev_aload_n dt_Rr_readAll_137 rfl rfl ?_
              refine tm_getK (K := 4) dt_Rr_readAll_138 hWw163 tpt0 fl_Rr_46 rfl z165 ?_
              exact ev_ireturn dt_Rr_readAll_141 rfl ⟨hWw163, _, rfl, ⟨hFw163, by omega⟩⟩
            · skip
              refine ev_iconst dt_Rr_readAll_129 ?_
              refine ev_goto (tgt := 134) dt_Rr_readAll_130 (by decide) ?_
              refine tm_putI (K := 0) dt_Rr_readAll_134 hWw139 ot0 (fp_Rr_49 _) rfl rfl (by have h0 := True; first | (show _ = _ ∨ _ = _; omega) | omega) (by omega) (by omega) (fun w166 hWw166 kkw166 hfw166 => ?_)
              have hFw166 : ∀ (p : Nat) (j : Int), ¬ ((p = tp ∧ (j = 2 ∨ j = 5 ∨ j = 6 ∨ j = 7 ∨ j = 8 ∨ j = 4 ∨ j = 3)) ∨ p = o ∨ p = (o + 1) ∨ p = (o + 2) ∨ p = (o + 3) ∨ p = (o + 4) ∨ p = (o + 5) ∨ p = (o + 6) ∨ p = (o + 7) ∨ p = (o + 8)) → tm_g w166 p j = tm_g w p j := fun p j h => (hfw166 p j (by omega)).trans (hFw139 p j h)
              have z167 := (hfw166 tp 6 (by omega)).trans kv159
              have z168 := (hfw166 tp 4 (by omega)).trans kv161
              refine ev_aload_n dt_Rr_readAll_137 rfl rfl ?_
              refine tm_getK (K := 4) dt_Rr_readAll_138 hWw166 tpt0 fl_Rr_46 rfl z168 ?_
              exact ev_ireturn dt_Rr_readAll_141 rfl ⟨hWw166, _, rfl, ⟨hFw166, by omega⟩⟩
          · skip
            refine ev_aload_n dt_Rr_readAll_116 rfl rfl ?_
            refine ev_iconst dt_Rr_readAll_117 ?_
            refine tm_vv dt_Rr_readAll_118 (tm_Ta_fail hWw139 h_tp (0) (by omega) (by omega)) kb_Rr_28 ⟨im_Ta_fail, se_Ta_fail⟩ rfl hWw139 tpt0 rfl (Nat.le_of_ble_eq_true rfl) (by decide) (fun w169 hWw169 hRw169 => ?_)
            obtain ⟨hfw169, v170, kv170, hpw169⟩ := hRw169
            have hFw169 : ∀ (p : Nat) (j : Int), ¬ ((p = tp ∧ (j = 2 ∨ j = 5 ∨ j = 6 ∨ j = 7 ∨ j = 8 ∨ j = 4 ∨ j = 3)) ∨ p = o ∨ p = (o + 1) ∨ p = (o + 2) ∨ p = (o + 3) ∨ p = (o + 4) ∨ p = (o + 5) ∨ p = (o + 6) ∨ p = (o + 7) ∨ p = (o + 8)) → tm_g w169 p j = tm_g w p j := fun p j h => (hfw169 p j (by omega)).trans (hFw139 p j h)
            have bv170 : (-2147483648) ≤ v170 ∧ v170 ≤ 2147483647 := by obtain ⟨a, e, h0, h1⟩ := tm_peek (k := 4) (K := 4) hWw169 tpt0 rfl rfl; rw [kv170] at e; injection e with e; injection e with e; omega
            refine ev_aload_n dt_Rr_readAll_121 rfl rfl ?_
            refine ev_aload_n dt_Rr_readAll_122 rfl rfl ?_
            refine tm_getK (K := 4) dt_Rr_readAll_123 hWw169 tpt0 fl_Rr_46 rfl kv170 ?_
            refine ev_if_ne (tgt := 133) dt_Rr_readAll_126 (by decide) (by omega) (fun h171 => ?_) (fun h171 => ?_)
            · skip
              refine ev_iconst dt_Rr_readAll_133 ?_
              refine tm_putI (K := 0) dt_Rr_readAll_134 hWw169 ot0 (fp_Rr_49 _) rfl rfl (by have h0 := True; first | (show _ = _ ∨ _ = _; omega) | omega) (by omega) (by omega) (fun w172 hWw172 kkw172 hfw172 => ?_)
              have hFw172 : ∀ (p : Nat) (j : Int), ¬ ((p = tp ∧ (j = 2 ∨ j = 5 ∨ j = 6 ∨ j = 7 ∨ j = 8 ∨ j = 4 ∨ j = 3)) ∨ p = o ∨ p = (o + 1) ∨ p = (o + 2) ∨ p = (o + 3) ∨ p = (o + 4) ∨ p = (o + 5) ∨ p = (o + 6) ∨ p = (o + 7) ∨ p = (o + 8)) → tm_g w172 p j = tm_g w p j := fun p j h => (hfw172 p j (by omega)).trans (hFw169 p j h)
              have z173 := (hfw172 tp 4 (by omega)).trans kv170
              refine ev_aload_n dt_Rr_readAll_137 rfl rfl ?_
              refine tm_getK (K := 4) dt_Rr_readAll_138 hWw172 tpt0 fl_Rr_46 rfl z173 ?_
              exact ev_ireturn dt_Rr_readAll_141 rfl ⟨hWw172, _, rfl, ⟨hFw172, by omega⟩⟩
            · skip
              refine ev_iconst dt_Rr_readAll_129 ?_
              refine ev_goto (tgt := 134) dt_Rr_readAll_130 (by decide) ?_
              refine tm_putI (K := 0) dt_Rr_readAll_134 hWw169 ot0 (fp_Rr_49 _) rfl rfl (by have h0 := True; first | (show _ = _ ∨ _ = _; omega) | omega) (by omega) (by omega) (fun w174 hWw174 kkw174 hfw174 => ?_)
              have hFw174 : ∀ (p : Nat) (j : Int), ¬ ((p = tp ∧ (j = 2 ∨ j = 5 ∨ j = 6 ∨ j = 7 ∨ j = 8 ∨ j = 4 ∨ j = 3)) ∨ p = o ∨ p = (o + 1) ∨ p = (o + 2) ∨ p = (o + 3) ∨ p = (o + 4) ∨ p = (o + 5) ∨ p = (o + 6) ∨ p = (o + 7) ∨ p = (o + 8)) → tm_g w174 p j = tm_g w p j := fun p j h => (hfw174 p j (by omega)).trans (hFw169 p j h)
              have z175 := (hfw174 tp 4 (by omega)).trans kv170
              refine ev_aload_n dt_Rr_readAll_137 rfl rfl ?_
              refine tm_getK (K := 4) dt_Rr_readAll_138 hWw174 tpt0 fl_Rr_46 rfl z175 ?_
              exact ev_ireturn dt_Rr_readAll_141 rfl ⟨hWw174, _, rfl, ⟨hFw174, by omega⟩⟩
        · skip
          refine ev_aload_n dt_Rr_readAll_24 rfl rfl ?_
          refine tm_getI (K := 8) dt_Rr_readAll_25 hWw139 tpt0 fl_Rr_24 rfl rfl (fun v176 kv176 lv176 uv176 => ?_)
          refine ev_istore (l' := [_, _, _, _, _]) dt_Rr_readAll_28 (Nat.le_of_ble_eq_true rfl) rfl ?_
          refine ev_iload dt_Rr_readAll_30 rfl ?_
          refine ev_iconst dt_Rr_readAll_32 ?_
          refine ev_icmp_ne (tgt := 44) dt_Rr_readAll_33 (by decide) (by omega) (by omega) (fun h177 => ?_) (fun h177 => ?_)
          · skip
            refine ev_iload_n dt_Rr_readAll_44 rfl rfl ?_
            refine ev_bipush dt_Rr_readAll_45 rfl ?_
            refine ev_icmp_eq (tgt := 60) dt_Rr_readAll_47 (by decide) (by omega) (by omega) (fun h178 => ?_) (fun h178 => ?_)
            · skip
              refine ev_aload_n dt_Rr_readAll_60 rfl rfl ?_
              refine ev_iconst dt_Rr_readAll_61 ?_
              refine tm_vv dt_Rr_readAll_62 (tm_Ta_fail hWw139 h_tp (4) (by omega) (by omega)) kb_Rr_28 ⟨im_Ta_fail, se_Ta_fail⟩ rfl hWw139 tpt0 rfl (Nat.le_of_ble_eq_true rfl) (by decide) (fun w179 hWw179 hRw179 => ?_)
              obtain ⟨hfw179, v180, kv180, hpw179⟩ := hRw179
              have hFw179 : ∀ (p : Nat) (j : Int), ¬ ((p = tp ∧ (j = 2 ∨ j = 5 ∨ j = 6 ∨ j = 7 ∨ j = 8 ∨ j = 4 ∨ j = 3)) ∨ p = o ∨ p = (o + 1) ∨ p = (o + 2) ∨ p = (o + 3) ∨ p = (o + 4) ∨ p = (o + 5) ∨ p = (o + 6) ∨ p = (o + 7) ∨ p = (o + 8)) → tm_g w179 p j = tm_g w p j := fun p j h => (hfw179 p j (by omega)).trans (hFw139 p j h)
              have bv180 : (-2147483648) ≤ v180 ∧ v180 ≤ 2147483647 := by obtain ⟨a, e, h0, h1⟩ := tm_peek (k := 4) (K := 4) hWw179 tpt0 rfl rfl; rw [kv180] at e; injection e with e; injection e with e; omega
              refine ev_goto (tgt := 79) dt_Rr_readAll_65 (by decide) ?_
              refine ev_aload_n dt_Rr_readAll_79 rfl rfl ?_
              refine tm_getI (K := 6) dt_Rr_readAll_80 hWw179 tpt0 fl_Rr_43 rfl rfl (fun v181 kv181 lv181 uv181 => ?_)
              refine ev_bipush dt_Rr_readAll_83 rfl ?_
              refine ev_icmp_ne (tgt := 92) dt_Rr_readAll_85 (by decide) (by omega) (by omega) (fun h182 => ?_) (fun h182 => ?_)
              · skip
                refine ev_iconst dt_Rr_readAll_92 ?_
                refine ev_istore_n (l' := [_, _, _, _, _]) dt_Rr_readAll_93 rfl (Nat.le_of_ble_eq_true rfl) rfl ?_
                refine ev_iload_n dt_Rr_readAll_94 rfl rfl ?_
                refine ev_if_eq (tgt := 102) dt_Rr_readAll_95 (by decide) (by omega) (fun h183 => ?_) (fun h183 => ?_)
                · skip
                  refine ev_iinc (l' := [_, _, _, _, _]) dt_Rr_readAll_102 rfl rfl ?_
                  refine ev_goto (tgt := 14) dt_Rr_readAll_105 (by decide) ?_
                  exact tm_loc (tm_le_s (tm_le_s (tm_le_s (tm_le_s (tm_le_n tm_le_0))))) (ihL136 (0) ((i138 + 1)) w179 hWw179 hFw179 (by omega) (by omega) (by omega) (by omega) (by omega))
                · skip
                  exfalso
                  omega
              · skip
                refine ev_iconst dt_Rr_readAll_88 ?_
                refine ev_goto (tgt := 93) dt_Rr_readAll_89 (by decide) ?_
                refine ev_istore_n (l' := [_, _, _, _, _]) dt_Rr_readAll_93 rfl (Nat.le_of_ble_eq_true rfl) rfl ?_
                refine ev_iload_n dt_Rr_readAll_94 rfl rfl ?_
                refine ev_if_eq (tgt := 102) dt_Rr_readAll_95 (by decide) (by omega) (fun h184 => ?_) (fun h184 => ?_)
                · skip
                  exfalso
                  omega
                · skip
                  refine ev_aload_n dt_Rr_readAll_98 rfl rfl ?_
                  refine tm_vv dt_Rr_readAll_99 (tm_Ta_advance hWw179 h_tp) kb_Rr_36 ⟨im_Ta_advance, se_Ta_advance⟩ rfl hWw179 tpt0 rfl (Nat.le_of_ble_eq_true rfl) (by decide) (fun w185 hWw185 hRw185 => ?_)
                  have hfw185 := hRw185
                  have hFw185 : ∀ (p : Nat) (j : Int), ¬ ((p = tp ∧ (j = 2 ∨ j = 5 ∨ j = 6 ∨ j = 7 ∨ j = 8 ∨ j = 4 ∨ j = 3)) ∨ p = o ∨ p = (o + 1) ∨ p = (o + 2) ∨ p = (o + 3) ∨ p = (o + 4) ∨ p = (o + 5) ∨ p = (o + 6) ∨ p = (o + 7) ∨ p = (o + 8)) → tm_g w185 p j = tm_g w p j := fun p j h => (hfw185 p j (by omega)).trans (hFw179 p j h)
                  have z186 := (hfw185 tp 4 (by omega)).trans kv180
                  refine ev_iinc (l' := [_, _, _, _, _]) dt_Rr_readAll_102 rfl rfl ?_
                  refine ev_goto (tgt := 14) dt_Rr_readAll_105 (by decide) ?_
                  exact tm_loc (tm_le_s (tm_le_s (tm_le_s (tm_le_s (tm_le_n tm_le_0))))) (ihL136 (1) ((i138 + 1)) w185 hWw185 hFw185 (by omega) (by omega) (by omega) (by omega) (by omega))
            · skip
              refine ev_aload_n dt_Rr_readAll_50 rfl rfl ?_
              refine ev_iload dt_Rr_readAll_51 rfl ?_
              refine ev_iload_n dt_Rr_readAll_53 rfl rfl ?_
              obtain ⟨v187, kv187, lv187, uv187⟩ := tm_peek (k := 7) (K := 7) hWw139 ot0 rfl rfl
              refine tm_sp dt_Rr_readAll_54 (tm_Rr_mayFollow hWw139 h_o (v176) (by omega) (by omega) (i138) (by omega) (by omega) (v187) kv187) kb_Rr_32 sc_Rr_mayFollow rfl (Nat.le_of_ble_eq_true rfl) (by decide) (fun v188 hv188 => ?_)
              refine ev_if_ne (tgt := 68) dt_Rr_readAll_57 (by decide) (by omega) (fun h189 => ?_) (fun h189 => ?_)
              · skip
                refine ev_aload_n dt_Rr_readAll_68 rfl rfl ?_
                refine tm_vv dt_Rr_readAll_69 (tm_Ta_advance hWw139 h_tp) kb_Rr_36 ⟨im_Ta_advance, se_Ta_advance⟩ rfl hWw139 tpt0 rfl (Nat.le_of_ble_eq_true rfl) (by decide) (fun w190 hWw190 hRw190 => ?_)
                have hfw190 := hRw190
                have hFw190 : ∀ (p : Nat) (j : Int), ¬ ((p = tp ∧ (j = 2 ∨ j = 5 ∨ j = 6 ∨ j = 7 ∨ j = 8 ∨ j = 4 ∨ j = 3)) ∨ p = o ∨ p = (o + 1) ∨ p = (o + 2) ∨ p = (o + 3) ∨ p = (o + 4) ∨ p = (o + 5) ∨ p = (o + 6) ∨ p = (o + 7) ∨ p = (o + 8)) → tm_g w190 p j = tm_g w p j := fun p j h => (hfw190 p j (by omega)).trans (hFw139 p j h)
                have z191 := (hfw190 o 7 (by omega)).trans kv187
                refine ev_aload_n dt_Rr_readAll_72 rfl rfl ?_
                refine ev_aload_n dt_Rr_readAll_73 rfl rfl ?_
                refine ev_iload dt_Rr_readAll_74 rfl ?_
                refine tm_sv dt_Rr_readAll_76 (tm_Rr_readRest hWw190 h_tp h_o (by omega) (v176) (by omega) (by omega) (v187) z191 (by omega)) kb_Rr_39 sc_Rr_readRest hWw190 rfl (Nat.le_of_ble_eq_true rfl) (by decide) (fun w192 hWw192 hRw192 => ?_)
                have hfw192 := hRw192
                have hFw192 : ∀ (p : Nat) (j : Int), ¬ ((p = tp ∧ (j = 2 ∨ j = 5 ∨ j = 6 ∨ j = 7 ∨ j = 8 ∨ j = 4 ∨ j = 3)) ∨ p = o ∨ p = (o + 1) ∨ p = (o + 2) ∨ p = (o + 3) ∨ p = (o + 4) ∨ p = (o + 5) ∨ p = (o + 6) ∨ p = (o + 7) ∨ p = (o + 8)) → tm_g w192 p j = tm_g w p j := fun p j h => (hfw192 p j (by omega)).trans (hFw190 p j h)
                refine ev_aload_n dt_Rr_readAll_79 rfl rfl ?_
                refine tm_getI (K := 6) dt_Rr_readAll_80 hWw192 tpt0 fl_Rr_43 rfl rfl (fun v193 kv193 lv193 uv193 => ?_)
                refine ev_bipush dt_Rr_readAll_83 rfl ?_
                refine ev_icmp_ne (tgt := 92) dt_Rr_readAll_85 (by decide) (by omega) (by omega) (fun h194 => ?_) (fun h194 => ?_)
                · skip
                  refine ev_iconst dt_Rr_readAll_92 ?_
                  refine ev_istore_n (l' := [_, _, _, _, _]) dt_Rr_readAll_93 rfl (Nat.le_of_ble_eq_true rfl) rfl ?_
                  refine ev_iload_n dt_Rr_readAll_94 rfl rfl ?_
                  refine ev_if_eq (tgt := 102) dt_Rr_readAll_95 (by decide) (by omega) (fun h195 => ?_) (fun h195 => ?_)
                  · skip
                    refine ev_iinc (l' := [_, _, _, _, _]) dt_Rr_readAll_102 rfl rfl ?_
                    refine ev_goto (tgt := 14) dt_Rr_readAll_105 (by decide) ?_
                    exact tm_loc (tm_le_s (tm_le_s (tm_le_s (tm_le_s (tm_le_n tm_le_0))))) (ihL136 (0) ((i138 + 1)) w192 hWw192 hFw192 (by omega) (by omega) (by omega) (by omega) (by omega))
                  · skip
                    exfalso
                    omega
                · skip
                  refine ev_iconst dt_Rr_readAll_88 ?_
                  refine ev_goto (tgt := 93) dt_Rr_readAll_89 (by decide) ?_
                  refine ev_istore_n (l' := [_, _, _, _, _]) dt_Rr_readAll_93 rfl (Nat.le_of_ble_eq_true rfl) rfl ?_
                  refine ev_iload_n dt_Rr_readAll_94 rfl rfl ?_
                  refine ev_if_eq (tgt := 102) dt_Rr_readAll_95 (by decide) (by omega) (fun h196 => ?_) (fun h196 => ?_)
                  · skip
                    exfalso
                    omega
                  · skip
                    refine ev_aload_n dt_Rr_readAll_98 rfl rfl ?_
                    refine tm_vv dt_Rr_readAll_99 (tm_Ta_advance hWw192 h_tp) kb_Rr_36 ⟨im_Ta_advance, se_Ta_advance⟩ rfl hWw192 tpt0 rfl (Nat.le_of_ble_eq_true rfl) (by decide) (fun w197 hWw197 hRw197 => ?_)
                    have hfw197 := hRw197
                    have hFw197 : ∀ (p : Nat) (j : Int), ¬ ((p = tp ∧ (j = 2 ∨ j = 5 ∨ j = 6 ∨ j = 7 ∨ j = 8 ∨ j = 4 ∨ j = 3)) ∨ p = o ∨ p = (o + 1) ∨ p = (o + 2) ∨ p = (o + 3) ∨ p = (o + 4) ∨ p = (o + 5) ∨ p = (o + 6) ∨ p = (o + 7) ∨ p = (o + 8)) → tm_g w197 p j = tm_g w p j := fun p j h => (hfw197 p j (by omega)).trans (hFw192 p j h)
                    refine ev_iinc (l' := [_, _, _, _, _]) dt_Rr_readAll_102 rfl rfl ?_
                    refine ev_goto (tgt := 14) dt_Rr_readAll_105 (by decide) ?_
                    exact tm_loc (tm_le_s (tm_le_s (tm_le_s (tm_le_s (tm_le_n tm_le_0))))) (ihL136 (1) ((i138 + 1)) w197 hWw197 hFw197 (by omega) (by omega) (by omega) (by omega) (by omega))
              · skip
                refine ev_aload_n dt_Rr_readAll_60 rfl rfl ?_
                refine ev_iconst dt_Rr_readAll_61 ?_
                refine tm_vv dt_Rr_readAll_62 (tm_Ta_fail hWw139 h_tp (4) (by omega) (by omega)) kb_Rr_28 ⟨im_Ta_fail, se_Ta_fail⟩ rfl hWw139 tpt0 rfl (Nat.le_of_ble_eq_true rfl) (by decide) (fun w198 hWw198 hRw198 => ?_)
                obtain ⟨hfw198, v199, kv199, hpw198⟩ := hRw198
                have hFw198 : ∀ (p : Nat) (j : Int), ¬ ((p = tp ∧ (j = 2 ∨ j = 5 ∨ j = 6 ∨ j = 7 ∨ j = 8 ∨ j = 4 ∨ j = 3)) ∨ p = o ∨ p = (o + 1) ∨ p = (o + 2) ∨ p = (o + 3) ∨ p = (o + 4) ∨ p = (o + 5) ∨ p = (o + 6) ∨ p = (o + 7) ∨ p = (o + 8)) → tm_g w198 p j = tm_g w p j := fun p j h => (hfw198 p j (by omega)).trans (hFw139 p j h)
                have z200 := (hfw198 o 7 (by omega)).trans kv187
                have bv199 : (-2147483648) ≤ v199 ∧ v199 ≤ 2147483647 := by obtain ⟨a, e, h0, h1⟩ := tm_peek (k := 4) (K := 4) hWw198 tpt0 rfl rfl; rw [kv199] at e; injection e with e; injection e with e; omega
                refine ev_goto (tgt := 79) dt_Rr_readAll_65 (by decide) ?_
                refine ev_aload_n dt_Rr_readAll_79 rfl rfl ?_
                refine tm_getI (K := 6) dt_Rr_readAll_80 hWw198 tpt0 fl_Rr_43 rfl rfl (fun v201 kv201 lv201 uv201 => ?_)
                refine ev_bipush dt_Rr_readAll_83 rfl ?_
                refine ev_icmp_ne (tgt := 92) dt_Rr_readAll_85 (by decide) (by omega) (by omega) (fun h202 => ?_) (fun h202 => ?_)
                · skip
                  refine ev_iconst dt_Rr_readAll_92 ?_
                  refine ev_istore_n (l' := [_, _, _, _, _]) dt_Rr_readAll_93 rfl (Nat.le_of_ble_eq_true rfl) rfl ?_
                  refine ev_iload_n dt_Rr_readAll_94 rfl rfl ?_
                  refine ev_if_eq (tgt := 102) dt_Rr_readAll_95 (by decide) (by omega) (fun h203 => ?_) (fun h203 => ?_)
                  · skip
                    refine ev_iinc (l' := [_, _, _, _, _]) dt_Rr_readAll_102 rfl rfl ?_
                    refine ev_goto (tgt := 14) dt_Rr_readAll_105 (by decide) ?_
                    exact tm_loc (tm_le_s (tm_le_s (tm_le_s (tm_le_s (tm_le_n tm_le_0))))) (ihL136 (0) ((i138 + 1)) w198 hWw198 hFw198 (by omega) (by omega) (by omega) (by omega) (by omega))
                  · skip
                    exfalso
                    omega
                · skip
                  refine ev_iconst dt_Rr_readAll_88 ?_
                  refine ev_goto (tgt := 93) dt_Rr_readAll_89 (by decide) ?_
                  refine ev_istore_n (l' := [_, _, _, _, _]) dt_Rr_readAll_93 rfl (Nat.le_of_ble_eq_true rfl) rfl ?_
                  refine ev_iload_n dt_Rr_readAll_94 rfl rfl ?_
                  refine ev_if_eq (tgt := 102) dt_Rr_readAll_95 (by decide) (by omega) (fun h204 => ?_) (fun h204 => ?_)
                  · skip
                    exfalso
                    omega
                  · skip
                    refine ev_aload_n dt_Rr_readAll_98 rfl rfl ?_
                    refine tm_vv dt_Rr_readAll_99 (tm_Ta_advance hWw198 h_tp) kb_Rr_36 ⟨im_Ta_advance, se_Ta_advance⟩ rfl hWw198 tpt0 rfl (Nat.le_of_ble_eq_true rfl) (by decide) (fun w205 hWw205 hRw205 => ?_)
                    have hfw205 := hRw205
                    have hFw205 : ∀ (p : Nat) (j : Int), ¬ ((p = tp ∧ (j = 2 ∨ j = 5 ∨ j = 6 ∨ j = 7 ∨ j = 8 ∨ j = 4 ∨ j = 3)) ∨ p = o ∨ p = (o + 1) ∨ p = (o + 2) ∨ p = (o + 3) ∨ p = (o + 4) ∨ p = (o + 5) ∨ p = (o + 6) ∨ p = (o + 7) ∨ p = (o + 8)) → tm_g w205 p j = tm_g w p j := fun p j h => (hfw205 p j (by omega)).trans (hFw198 p j h)
                    have z206 := (hfw205 o 7 (by omega)).trans z200
                    have z207 := (hfw205 tp 4 (by omega)).trans kv199
                    refine ev_iinc (l' := [_, _, _, _, _]) dt_Rr_readAll_102 rfl rfl ?_
                    refine ev_goto (tgt := 14) dt_Rr_readAll_105 (by decide) ?_
                    exact tm_loc (tm_le_s (tm_le_s (tm_le_s (tm_le_s (tm_le_n tm_le_0))))) (ihL136 (1) ((i138 + 1)) w205 hWw205 hFw205 (by omega) (by omega) (by omega) (by omega) (by omega))
          · skip
            refine ev_aload_n dt_Rr_readAll_36 rfl rfl ?_
            refine ev_iconst dt_Rr_readAll_37 ?_
            refine tm_vv dt_Rr_readAll_38 (tm_Ta_fail hWw139 h_tp (0) (by omega) (by omega)) kb_Rr_28 ⟨im_Ta_fail, se_Ta_fail⟩ rfl hWw139 tpt0 rfl (Nat.le_of_ble_eq_true rfl) (by decide) (fun w208 hWw208 hRw208 => ?_)
            obtain ⟨hfw208, v209, kv209, hpw208⟩ := hRw208
            have hFw208 : ∀ (p : Nat) (j : Int), ¬ ((p = tp ∧ (j = 2 ∨ j = 5 ∨ j = 6 ∨ j = 7 ∨ j = 8 ∨ j = 4 ∨ j = 3)) ∨ p = o ∨ p = (o + 1) ∨ p = (o + 2) ∨ p = (o + 3) ∨ p = (o + 4) ∨ p = (o + 5) ∨ p = (o + 6) ∨ p = (o + 7) ∨ p = (o + 8)) → tm_g w208 p j = tm_g w p j := fun p j h => (hfw208 p j (by omega)).trans (hFw139 p j h)
            have bv209 : (-2147483648) ≤ v209 ∧ v209 ≤ 2147483647 := by obtain ⟨a, e, h0, h1⟩ := tm_peek (k := 4) (K := 4) hWw208 tpt0 rfl rfl; rw [kv209] at e; injection e with e; injection e with e; omega
            refine ev_goto (tgt := 79) dt_Rr_readAll_41 (by decide) ?_
            refine ev_aload_n dt_Rr_readAll_79 rfl rfl ?_
            refine tm_getI (K := 6) dt_Rr_readAll_80 hWw208 tpt0 fl_Rr_43 rfl rfl (fun v210 kv210 lv210 uv210 => ?_)
            refine ev_bipush dt_Rr_readAll_83 rfl ?_
            refine ev_icmp_ne (tgt := 92) dt_Rr_readAll_85 (by decide) (by omega) (by omega) (fun h211 => ?_) (fun h211 => ?_)
            · skip
              refine ev_iconst dt_Rr_readAll_92 ?_
              refine ev_istore_n (l' := [_, _, _, _, _]) dt_Rr_readAll_93 rfl (Nat.le_of_ble_eq_true rfl) rfl ?_
              refine ev_iload_n dt_Rr_readAll_94 rfl rfl ?_
              refine ev_if_eq (tgt := 102) dt_Rr_readAll_95 (by decide) (by omega) (fun h212 => ?_) (fun h212 => ?_)
              · skip
                refine ev_iinc (l' := [_, _, _, _, _]) dt_Rr_readAll_102 rfl rfl ?_
                refine ev_goto (tgt := 14) dt_Rr_readAll_105 (by decide) ?_
                exact tm_loc (tm_le_s (tm_le_s (tm_le_s (tm_le_s (tm_le_n tm_le_0))))) (ihL136 (0) ((i138 + 1)) w208 hWw208 hFw208 (by omega) (by omega) (by omega) (by omega) (by omega))
              · skip
                exfalso
                omega
            · skip
              refine ev_iconst dt_Rr_readAll_88 ?_
              refine ev_goto (tgt := 93) dt_Rr_readAll_89 (by decide) ?_
              refine ev_istore_n (l' := [_, _, _, _, _]) dt_Rr_readAll_93 rfl (Nat.le_of_ble_eq_true rfl) rfl ?_
              refine ev_iload_n dt_Rr_readAll_94 rfl rfl ?_
              refine ev_if_eq (tgt := 102) dt_Rr_readAll_95 (by decide) (by omega) (fun h213 => ?_) (fun h213 => ?_)
              · skip
                exfalso
                omega
              · skip
                refine ev_aload_n dt_Rr_readAll_98 rfl rfl ?_
                refine tm_vv dt_Rr_readAll_99 (tm_Ta_advance hWw208 h_tp) kb_Rr_36 ⟨im_Ta_advance, se_Ta_advance⟩ rfl hWw208 tpt0 rfl (Nat.le_of_ble_eq_true rfl) (by decide) (fun w214 hWw214 hRw214 => ?_)
                have hfw214 := hRw214
                have hFw214 : ∀ (p : Nat) (j : Int), ¬ ((p = tp ∧ (j = 2 ∨ j = 5 ∨ j = 6 ∨ j = 7 ∨ j = 8 ∨ j = 4 ∨ j = 3)) ∨ p = o ∨ p = (o + 1) ∨ p = (o + 2) ∨ p = (o + 3) ∨ p = (o + 4) ∨ p = (o + 5) ∨ p = (o + 6) ∨ p = (o + 7) ∨ p = (o + 8)) → tm_g w214 p j = tm_g w p j := fun p j h => (hfw214 p j (by omega)).trans (hFw208 p j h)
                have z215 := (hfw214 tp 4 (by omega)).trans kv209
                refine ev_iinc (l' := [_, _, _, _, _]) dt_Rr_readAll_102 rfl rfl ?_
                refine ev_goto (tgt := 14) dt_Rr_readAll_105 (by decide) ?_
                exact tm_loc (tm_le_s (tm_le_s (tm_le_s (tm_le_s (tm_le_n tm_le_0))))) (ihL136 (1) ((i138 + 1)) w214 hWw214 hFw214 (by omega) (by omega) (by omega) (by omega) (by omega))
  exact tm_loc (tm_le_s (tm_le_s (tm_le_s (tm_le_s (tm_le_n tm_le_0))))) (L136 (41 - (0) + 1 : Int).toNat (1) (0)  w135 hWw135 hFw135 (by omega) (by omega) (by omega) (by omega) (by omega))
