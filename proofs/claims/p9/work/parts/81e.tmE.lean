theorem dt_Ru_emit_0 : decode prog_10_method_4_code 0 = .ok (.aload_n 0, 1) := by decide +kernel
theorem dt_Ru_emit_1 : decode prog_10_method_4_code 1 = .ok (.getfield 23, 3) := by decide +kernel
theorem dt_Ru_emit_4 : decode prog_10_method_4_code 4 = .ok (.aload_n 0, 1) := by decide +kernel
theorem dt_Ru_emit_5 : decode prog_10_method_4_code 5 = .ok (.getfield 9, 3) := by decide +kernel
theorem dt_Ru_emit_8 : decode prog_10_method_4_code 8 = .ok (.arraylength, 1) := by decide +kernel
theorem dt_Ru_emit_9 : decode prog_10_method_4_code 9 = .ok (.if_icmp .ge 23, 3) := by decide +kernel
theorem dt_Ru_emit_12 : decode prog_10_method_4_code 12 = .ok (.aload_n 0, 1) := by decide +kernel
theorem dt_Ru_emit_13 : decode prog_10_method_4_code 13 = .ok (.getfield 9, 3) := by decide +kernel
theorem dt_Ru_emit_16 : decode prog_10_method_4_code 16 = .ok (.aload_n 0, 1) := by decide +kernel
theorem dt_Ru_emit_17 : decode prog_10_method_4_code 17 = .ok (.getfield 23, 3) := by decide +kernel
theorem dt_Ru_emit_20 : decode prog_10_method_4_code 20 = .ok (.iload_n 1, 1) := by decide +kernel
theorem dt_Ru_emit_21 : decode prog_10_method_4_code 21 = .ok (.iastore, 1) := by decide +kernel
theorem dt_Ru_emit_22 : decode prog_10_method_4_code 22 = .ok (.aload_n 0, 1) := by decide +kernel
theorem dt_Ru_emit_23 : decode prog_10_method_4_code 23 = .ok (.dup, 1) := by decide +kernel
theorem dt_Ru_emit_24 : decode prog_10_method_4_code 24 = .ok (.getfield 23, 3) := by decide +kernel
theorem dt_Ru_emit_27 : decode prog_10_method_4_code 27 = .ok (.iconst 1, 1) := by decide +kernel
theorem dt_Ru_emit_28 : decode prog_10_method_4_code 28 = .ok (.iadd, 1) := by decide +kernel
theorem dt_Ru_emit_29 : decode prog_10_method_4_code 29 = .ok (.putfield 23, 3) := by decide +kernel
theorem dt_Ru_emit_32 : decode prog_10_method_4_code 32 = .ok (.return_, 1) := by decide +kernel
set_option maxHeartbeats 4000000 in
set_option maxRecDepth 10000 in
theorem tm_Ru_emit {N : Nat} {T : Nat → tm_S} {w : ab_W} {rr : Nat} (hW : tm_W N T w) (h_rr : is_Ru T rr) (a : Int) (l_a : (-2147483648) ≤ a) (u_a : a ≤ 2147483647) : ab_Mt g_G g_rs mt_Ru_emit 0 0 0 [ab_R rr, ab_I a] w (tm_Qv N T (fun w2 => (∀ (p : Nat) (j : Int), ¬ (p = (rr + 1) ∨ (p = rr ∧ (j = 1))) → tm_g w2 p j = tm_g w p j))) := by
  obtain ⟨rrt0, rrt1⟩ := id h_rr
  have hF0 : ∀ (p : Nat) (j : Int), ¬ (p = (rr + 1) ∨ (p = rr ∧ (j = 1))) → tm_g w p j = tm_g w p j := fun _ _ _ => rfl
  refine ab_Mt.of rfl (Nat.le_of_ble_eq_true rfl) ?_
  show ab_Ev g_G g_rs mt_Ru_emit _ _ _ 0 [some (ab_R rr), some (ab_I a)] [] _ _
  refine ev_aload_n dt_Ru_emit_0 rfl rfl ?_
  refine tm_getI (K := 1) dt_Ru_emit_1 hW rrt0 fl_Ru_23 rfl rfl (fun v1 kv1 lv1 uv1 => ?_)
  refine ev_aload_n dt_Ru_emit_4 rfl rfl ?_
  refine tm_getR dt_Ru_emit_5 hW rrt0 fl_Ru_9 rfl ?_
  refine tm_alen dt_Ru_emit_8 hW rrt1 (by decide) ?_
  refine ev_icmp_ge (tgt := 32) dt_Ru_emit_9 (by decide) (by omega) (by omega) (fun h2 => ?_) (fun h2 => ?_)
  · skip
    exact ev_return dt_Ru_emit_32 rfl ⟨hW, rfl, hF0⟩
  · skip
    refine ev_aload_n dt_Ru_emit_12 rfl rfl ?_
    refine tm_getR dt_Ru_emit_13 hW rrt0 fl_Ru_9 rfl ?_
    refine ev_aload_n dt_Ru_emit_16 rfl rfl ?_
    refine tm_getK (K := 1) dt_Ru_emit_17 hW rrt0 fl_Ru_23 rfl kv1 ?_
    refine ev_iload_n dt_Ru_emit_20 rfl rfl ?_
    refine tm_iastore dt_Ru_emit_21 hW rrt1 (by omega) (by omega) (by omega) (by omega) (by omega) (fun w3 hWw3 kkw3 hfw3 => ?_)
    have hFw3 : ∀ (p : Nat) (j : Int), ¬ (p = (rr + 1) ∨ (p = rr ∧ (j = 1))) → tm_g w3 p j = tm_g w p j := fun p j h => (hfw3 p j (by omega)).trans (hF0 p j h)
    have z4 := (hfw3 rr 1 (by omega)).trans kv1
    refine ev_aload_n dt_Ru_emit_22 rfl rfl ?_
    refine ev_dup dt_Ru_emit_23 rfl ?_
    refine tm_getK (K := 1) dt_Ru_emit_24 hWw3 rrt0 fl_Ru_23 rfl z4 ?_
    refine ev_iconst dt_Ru_emit_27 ?_
    refine ev_iadd dt_Ru_emit_28 ?_
    refine tm_putI (K := 1) dt_Ru_emit_29 hWw3 rrt0 (fp_Ru_23 _) rfl rfl trivial (by omega) (by omega) (fun w5 hWw5 kkw5 hfw5 => ?_)
    have hFw5 : ∀ (p : Nat) (j : Int), ¬ (p = (rr + 1) ∨ (p = rr ∧ (j = 1))) → tm_g w5 p j = tm_g w p j := fun p j h => (hfw5 p j (by omega)).trans (hFw3 p j h)
    exact ev_return dt_Ru_emit_32 rfl ⟨hWw5, rfl, hFw5⟩
theorem dt_Ru_countToken_0 : decode prog_10_method_5_code 0 = .ok (.aload_n 0, 1) := by decide +kernel
theorem dt_Ru_countToken_1 : decode prog_10_method_5_code 1 = .ok (.getfield 27, 3) := by decide +kernel
theorem dt_Ru_countToken_4 : decode prog_10_method_5_code 4 = .ok (.bipush 60, 2) := by decide +kernel
theorem dt_Ru_countToken_6 : decode prog_10_method_5_code 6 = .ok (.if_icmp .lt 8, 3) := by decide +kernel
theorem dt_Ru_countToken_9 : decode prog_10_method_5_code 9 = .ok (.aload_n 1, 1) := by decide +kernel
theorem dt_Ru_countToken_10 : decode prog_10_method_5_code 10 = .ok (.iconst 3, 1) := by decide +kernel
theorem dt_Ru_countToken_11 : decode prog_10_method_5_code 11 = .ok (.invokevirtual 33, 3) := by decide +kernel
theorem dt_Ru_countToken_14 : decode prog_10_method_5_code 14 = .ok (.aload_n 0, 1) := by decide +kernel
theorem dt_Ru_countToken_15 : decode prog_10_method_5_code 15 = .ok (.dup, 1) := by decide +kernel
theorem dt_Ru_countToken_16 : decode prog_10_method_5_code 16 = .ok (.getfield 27, 3) := by decide +kernel
theorem dt_Ru_countToken_19 : decode prog_10_method_5_code 19 = .ok (.iconst 1, 1) := by decide +kernel
theorem dt_Ru_countToken_20 : decode prog_10_method_5_code 20 = .ok (.iadd, 1) := by decide +kernel
theorem dt_Ru_countToken_21 : decode prog_10_method_5_code 21 = .ok (.putfield 27, 3) := by decide +kernel
theorem dt_Ru_countToken_24 : decode prog_10_method_5_code 24 = .ok (.return_, 1) := by decide +kernel
set_option maxHeartbeats 4000000 in
set_option maxRecDepth 10000 in
theorem tm_Ru_countToken {N : Nat} {T : Nat → tm_S} {w : ab_W} {rr : Nat} {tp : Nat} (hW : tm_W N T w) (h_rr : is_Ru T rr) (h_tp : is_Ta T tp) (ne_rr_tp : rr + 2 ≤ tp ∨ tp + 2 ≤ rr) : ab_Mt g_G g_rs mt_Ru_countToken 1 0 0 [ab_R rr, ab_R tp] w (tm_Qv N T (fun w2 => (∀ (p : Nat) (j : Int), ¬ ((p = rr ∧ (j = 2)) ∨ (p = tp ∧ (j = 2 ∨ j = 4 ∨ j = 6 ∨ j = 7 ∨ j = 8))) → tm_g w2 p j = tm_g w p j))) := by
  obtain ⟨rrt0, rrt1⟩ := id h_rr
  obtain ⟨tpt0, tpt1⟩ := id h_tp
  have hF0 : ∀ (p : Nat) (j : Int), ¬ ((p = rr ∧ (j = 2)) ∨ (p = tp ∧ (j = 2 ∨ j = 4 ∨ j = 6 ∨ j = 7 ∨ j = 8))) → tm_g w p j = tm_g w p j := fun _ _ _ => rfl
  refine ab_Mt.of rfl (Nat.le_of_ble_eq_true rfl) ?_
  show ab_Ev g_G g_rs mt_Ru_countToken _ _ _ 0 [some (ab_R rr), some (ab_R tp)] [] _ _
  refine ev_aload_n dt_Ru_countToken_0 rfl rfl ?_
  refine tm_getI (K := 2) dt_Ru_countToken_1 hW rrt0 fl_Ru_27 rfl rfl (fun v6 kv6 lv6 uv6 => ?_)
  refine ev_bipush dt_Ru_countToken_4 rfl ?_
  refine ev_icmp_lt (tgt := 14) dt_Ru_countToken_6 (by decide) (by omega) (by omega) (fun h7 => ?_) (fun h7 => ?_)
  · skip
    refine ev_aload_n dt_Ru_countToken_14 rfl rfl ?_
    refine ev_dup dt_Ru_countToken_15 rfl ?_
    refine tm_getK (K := 2) dt_Ru_countToken_16 hW rrt0 fl_Ru_27 rfl kv6 ?_
    refine ev_iconst dt_Ru_countToken_19 ?_
    refine ev_iadd dt_Ru_countToken_20 ?_
    refine tm_putI (K := 2) dt_Ru_countToken_21 hW rrt0 (fp_Ru_27 _) rfl rfl trivial (by omega) (by omega) (fun w8 hWw8 kkw8 hfw8 => ?_)
    have hFw8 : ∀ (p : Nat) (j : Int), ¬ ((p = rr ∧ (j = 2)) ∨ (p = tp ∧ (j = 2 ∨ j = 4 ∨ j = 6 ∨ j = 7 ∨ j = 8))) → tm_g w8 p j = tm_g w p j := fun p j h => (hfw8 p j (by omega)).trans (hF0 p j h)
    exact ev_return dt_Ru_countToken_24 rfl ⟨hWw8, rfl, hFw8⟩
  · skip
    refine ev_aload_n dt_Ru_countToken_9 rfl rfl ?_
    refine ev_iconst dt_Ru_countToken_10 ?_
    refine tm_vv dt_Ru_countToken_11 (tm_Ta_fail hW h_tp (3) (by omega) (by omega)) kb_Ru_33 ⟨im_Ta_fail, se_Ta_fail⟩ rfl hW tpt0 rfl (Nat.le_of_ble_eq_true rfl) (by decide) (fun w9 hWw9 hRw9 => ?_)
    obtain ⟨hfw9, v10, kv10, hpw9⟩ := hRw9
    have hFw9 : ∀ (p : Nat) (j : Int), ¬ ((p = rr ∧ (j = 2)) ∨ (p = tp ∧ (j = 2 ∨ j = 4 ∨ j = 6 ∨ j = 7 ∨ j = 8))) → tm_g w9 p j = tm_g w p j := fun p j h => (hfw9 p j (by omega)).trans (hF0 p j h)
    have z11 := (hfw9 rr 2 (by omega)).trans kv6
    have bv10 : (-2147483648) ≤ v10 ∧ v10 ≤ 2147483647 := by obtain ⟨a, e, h0, h1⟩ := tm_peek (k := 4) (K := 4) hWw9 tpt0 rfl rfl; rw [kv10] at e; injection e with e; injection e with e; omega
    refine ev_aload_n dt_Ru_countToken_14 rfl rfl ?_
    refine ev_dup dt_Ru_countToken_15 rfl ?_
    refine tm_getK (K := 2) dt_Ru_countToken_16 hWw9 rrt0 fl_Ru_27 rfl z11 ?_
    refine ev_iconst dt_Ru_countToken_19 ?_
    refine ev_iadd dt_Ru_countToken_20 ?_
    refine tm_any (fun v12 hv12 _ => ?_)
    refine tm_putI (K := 2) dt_Ru_countToken_21 hWw9 rrt0 (fp_Ru_27 _) rfl rfl trivial (by omega) (by omega) (fun w13 hWw13 kkw13 hfw13 => ?_)
    have hFw13 : ∀ (p : Nat) (j : Int), ¬ ((p = rr ∧ (j = 2)) ∨ (p = tp ∧ (j = 2 ∨ j = 4 ∨ j = 6 ∨ j = 7 ∨ j = 8))) → tm_g w13 p j = tm_g w p j := fun p j h => (hfw13 p j (by omega)).trans (hFw9 p j h)
    have z14 := (hfw13 tp 4 (by omega)).trans kv10
    exact ev_return dt_Ru_countToken_24 rfl ⟨hWw13, rfl, hFw13⟩
theorem dt_Ru_checkValue_0 : decode prog_10_method_9_code 0 = .ok (.aload_n 1, 1) := by decide +kernel
theorem dt_Ru_checkValue_1 : decode prog_10_method_9_code 1 = .ok (.getfield 30, 3) := by decide +kernel
theorem dt_Ru_checkValue_4 : decode prog_10_method_9_code 4 = .ok (.iconst (-1), 1) := by decide +kernel
theorem dt_Ru_checkValue_5 : decode prog_10_method_9_code 5 = .ok (.if_icmp .eq 16, 3) := by decide +kernel
theorem dt_Ru_checkValue_8 : decode prog_10_method_9_code 8 = .ok (.aload_n 1, 1) := by decide +kernel
theorem dt_Ru_checkValue_9 : decode prog_10_method_9_code 9 = .ok (.getfield 30, 3) := by decide +kernel
theorem dt_Ru_checkValue_12 : decode prog_10_method_9_code 12 = .ok (.bipush 12, 2) := by decide +kernel
theorem dt_Ru_checkValue_14 : decode prog_10_method_9_code 14 = .ok (.if_icmp .ge 7, 3) := by decide +kernel
theorem dt_Ru_checkValue_17 : decode prog_10_method_9_code 17 = .ok (.iconst 1, 1) := by decide +kernel
theorem dt_Ru_checkValue_18 : decode prog_10_method_9_code 18 = .ok (.goto 4, 3) := by decide +kernel
theorem dt_Ru_checkValue_21 : decode prog_10_method_9_code 21 = .ok (.iconst 0, 1) := by decide +kernel
theorem dt_Ru_checkValue_22 : decode prog_10_method_9_code 22 = .ok (.istore_n 2, 1) := by decide +kernel
theorem dt_Ru_checkValue_23 : decode prog_10_method_9_code 23 = .ok (.iload_n 2, 1) := by decide +kernel
theorem dt_Ru_checkValue_24 : decode prog_10_method_9_code 24 = .ok (.ifCond .ne 20, 3) := by decide +kernel
theorem dt_Ru_checkValue_27 : decode prog_10_method_9_code 27 = .ok (.aload_n 1, 1) := by decide +kernel
theorem dt_Ru_checkValue_28 : decode prog_10_method_9_code 28 = .ok (.getfield 53, 3) := by decide +kernel
theorem dt_Ru_checkValue_31 : decode prog_10_method_9_code 31 = .ok (.bipush (-2), 2) := by decide +kernel
theorem dt_Ru_checkValue_33 : decode prog_10_method_9_code 33 = .ok (.if_icmp .eq 11, 3) := by decide +kernel
theorem dt_Ru_checkValue_36 : decode prog_10_method_9_code 36 = .ok (.aload_n 1, 1) := by decide +kernel
theorem dt_Ru_checkValue_37 : decode prog_10_method_9_code 37 = .ok (.iconst 0, 1) := by decide +kernel
theorem dt_Ru_checkValue_38 : decode prog_10_method_9_code 38 = .ok (.invokevirtual 33, 3) := by decide +kernel
theorem dt_Ru_checkValue_41 : decode prog_10_method_9_code 41 = .ok (.goto 20, 3) := by decide +kernel
theorem dt_Ru_checkValue_44 : decode prog_10_method_9_code 44 = .ok (.iload_n 2, 1) := by decide +kernel
theorem dt_Ru_checkValue_45 : decode prog_10_method_9_code 45 = .ok (.ifCond .ne 16, 3) := by decide +kernel
theorem dt_Ru_checkValue_48 : decode prog_10_method_9_code 48 = .ok (.aload_n 1, 1) := by decide +kernel
theorem dt_Ru_checkValue_49 : decode prog_10_method_9_code 49 = .ok (.getfield 78, 3) := by decide +kernel
theorem dt_Ru_checkValue_52 : decode prog_10_method_9_code 52 = .ok (.iconst (-1), 1) := by decide +kernel
theorem dt_Ru_checkValue_53 : decode prog_10_method_9_code 53 = .ok (.if_icmp .ne 8, 3) := by decide +kernel
theorem dt_Ru_checkValue_56 : decode prog_10_method_9_code 56 = .ok (.aload_n 1, 1) := by decide +kernel
theorem dt_Ru_checkValue_57 : decode prog_10_method_9_code 57 = .ok (.iconst 1, 1) := by decide +kernel
theorem dt_Ru_checkValue_58 : decode prog_10_method_9_code 58 = .ok (.invokevirtual 33, 3) := by decide +kernel
theorem dt_Ru_checkValue_61 : decode prog_10_method_9_code 61 = .ok (.aload_n 0, 1) := by decide +kernel
theorem dt_Ru_checkValue_62 : decode prog_10_method_9_code 62 = .ok (.aload_n 1, 1) := by decide +kernel
theorem dt_Ru_checkValue_63 : decode prog_10_method_9_code 63 = .ok (.invokevirtual 72, 3) := by decide +kernel
theorem dt_Ru_checkValue_66 : decode prog_10_method_9_code 66 = .ok (.return_, 1) := by decide +kernel
set_option maxHeartbeats 4000000 in
set_option maxRecDepth 10000 in
theorem tm_Ru_checkValue {N : Nat} {T : Nat → tm_S} {w : ab_W} {rr : Nat} {tp : Nat} (hW : tm_W N T w) (h_rr : is_Ru T rr) (h_tp : is_Ta T tp) (ne_rr_tp : rr + 2 ≤ tp ∨ tp + 2 ≤ rr) : ab_Mt g_G g_rs mt_Ru_checkValue 2 0 0 [ab_R rr, ab_R tp] w (tm_Qv N T (fun w2 => (∀ (p : Nat) (j : Int), ¬ ((p = rr ∧ (j = 2)) ∨ (p = tp ∧ (j = 2 ∨ j = 4 ∨ j = 6 ∨ j = 7 ∨ j = 8))) → tm_g w2 p j = tm_g w p j))) := by
  obtain ⟨rrt0, rrt1⟩ := id h_rr
  obtain ⟨tpt0, tpt1⟩ := id h_tp
  have hF0 : ∀ (p : Nat) (j : Int), ¬ ((p = rr ∧ (j = 2)) ∨ (p = tp ∧ (j = 2 ∨ j = 4 ∨ j = 6 ∨ j = 7 ∨ j = 8))) → tm_g w p j = tm_g w p j := fun _ _ _ => rfl
  refine ab_Mt.of rfl (Nat.le_of_ble_eq_true rfl) ?_
  show ab_Ev g_G g_rs mt_Ru_checkValue _ _ _ 0 [some (ab_R rr), some (ab_R tp), none] [] _ _
  refine ev_aload_n dt_Ru_checkValue_0 rfl rfl ?_
  refine tm_getI (K := 8) dt_Ru_checkValue_1 hW tpt0 fl_Ru_30 rfl rfl (fun v15 kv15 lv15 uv15 => ?_)
  refine ev_iconst dt_Ru_checkValue_4 ?_
  refine ev_icmp_eq (tgt := 21) dt_Ru_checkValue_5 (by decide) (by omega) (by omega) (fun h16 => ?_) (fun h16 => ?_)
  · skip
    refine ev_iconst dt_Ru_checkValue_21 ?_
    refine ev_istore_n (l' := [_, _, _]) dt_Ru_checkValue_22 rfl (Nat.le_of_ble_eq_true rfl) rfl ?_
    refine ev_iload_n dt_Ru_checkValue_23 rfl rfl ?_
    refine ev_if_ne (tgt := 44) dt_Ru_checkValue_24 (by decide) (by omega) (fun h17 => ?_) (fun h17 => ?_)
    · skip
      exfalso
      omega
    · skip
      refine ev_aload_n dt_Ru_checkValue_27 rfl rfl ?_
      refine tm_getI (K := 6) dt_Ru_checkValue_28 hW tpt0 fl_Ru_53 rfl rfl (fun v18 kv18 lv18 uv18 => ?_)
      refine ev_bipush dt_Ru_checkValue_31 rfl ?_
      refine ev_icmp_eq (tgt := 44) dt_Ru_checkValue_33 (by decide) (by omega) (by omega) (fun h19 => ?_) (fun h19 => ?_)
      · skip
        refine ev_iload_n dt_Ru_checkValue_44 rfl rfl ?_
        refine ev_if_ne (tgt := 61) dt_Ru_checkValue_45 (by decide) (by omega) (fun h20 => ?_) (fun h20 => ?_)
        · skip
          exfalso
          omega
        · skip
          refine ev_aload_n dt_Ru_checkValue_48 rfl rfl ?_
          refine tm_getI (K := 7) dt_Ru_checkValue_49 hW tpt0 fl_Ru_78 rfl rfl (fun v21 kv21 lv21 uv21 => ?_)
          refine ev_iconst dt_Ru_checkValue_52 ?_
          refine ev_icmp_ne (tgt := 61) dt_Ru_checkValue_53 (by decide) (by omega) (by omega) (fun h22 => ?_) (fun h22 => ?_)
          · skip
            refine ev_aload_n dt_Ru_checkValue_61 rfl rfl ?_
            refine ev_aload_n dt_Ru_checkValue_62 rfl rfl ?_
            refine tm_vv dt_Ru_checkValue_63 (tm_Ru_countToken hW h_rr h_tp (by omega)) kb_Ru_72 ⟨im_Ru_countToken, se_Ru_countToken⟩ rfl hW rrt0 rfl (Nat.le_of_ble_eq_true rfl) (by decide) (fun w23 hWw23 hRw23 => ?_)
            have hfw23 := hRw23
            have hFw23 : ∀ (p : Nat) (j : Int), ¬ ((p = rr ∧ (j = 2)) ∨ (p = tp ∧ (j = 2 ∨ j = 4 ∨ j = 6 ∨ j = 7 ∨ j = 8))) → tm_g w23 p j = tm_g w p j := fun p j h => (hfw23 p j (by omega)).trans (hF0 p j h)
            exact ev_return dt_Ru_checkValue_66 rfl ⟨hWw23, rfl, hFw23⟩
          · skip
            refine ev_aload_n dt_Ru_checkValue_56 rfl rfl ?_
            refine ev_iconst dt_Ru_checkValue_57 ?_
            refine tm_vv dt_Ru_checkValue_58 (tm_Ta_fail hW h_tp (1) (by omega) (by omega)) kb_Ru_33 ⟨im_Ta_fail, se_Ta_fail⟩ rfl hW tpt0 rfl (Nat.le_of_ble_eq_true rfl) (by decide) (fun w24 hWw24 hRw24 => ?_)
            obtain ⟨hfw24, v25, kv25, hpw24⟩ := hRw24
            have hFw24 : ∀ (p : Nat) (j : Int), ¬ ((p = rr ∧ (j = 2)) ∨ (p = tp ∧ (j = 2 ∨ j = 4 ∨ j = 6 ∨ j = 7 ∨ j = 8))) → tm_g w24 p j = tm_g w p j := fun p j h => (hfw24 p j (by omega)).trans (hF0 p j h)
            have bv25 : (-2147483648) ≤ v25 ∧ v25 ≤ 2147483647 := by obtain ⟨a, e, h0, h1⟩ := tm_peek (k := 4) (K := 4) hWw24 tpt0 rfl rfl; rw [kv25] at e; injection e with e; injection e with e; omega
            refine ev_aload_n dt_Ru_checkValue_61 rfl rfl ?_
            refine ev_aload_n dt_Ru_checkValue_62 rfl rfl ?_
            refine tm_vv dt_Ru_checkValue_63 (tm_Ru_countToken hWw24 h_rr h_tp (by omega)) kb_Ru_72 ⟨im_Ru_countToken, se_Ru_countToken⟩ rfl hWw24 rrt0 rfl (Nat.le_of_ble_eq_true rfl) (by decide) (fun w26 hWw26 hRw26 => ?_)
            have hfw26 := hRw26
            have hFw26 : ∀ (p : Nat) (j : Int), ¬ ((p = rr ∧ (j = 2)) ∨ (p = tp ∧ (j = 2 ∨ j = 4 ∨ j = 6 ∨ j = 7 ∨ j = 8))) → tm_g w26 p j = tm_g w p j := fun p j h => (hfw26 p j (by omega)).trans (hFw24 p j h)
            exact ev_return dt_Ru_checkValue_66 rfl ⟨hWw26, rfl, hFw26⟩
      · skip
        refine ev_aload_n dt_Ru_checkValue_36 rfl rfl ?_
        refine ev_iconst dt_Ru_checkValue_37 ?_
        refine tm_vv dt_Ru_checkValue_38 (tm_Ta_fail hW h_tp (0) (by omega) (by omega)) kb_Ru_33 ⟨im_Ta_fail, se_Ta_fail⟩ rfl hW tpt0 rfl (Nat.le_of_ble_eq_true rfl) (by decide) (fun w27 hWw27 hRw27 => ?_)
        obtain ⟨hfw27, v28, kv28, hpw27⟩ := hRw27
        have hFw27 : ∀ (p : Nat) (j : Int), ¬ ((p = rr ∧ (j = 2)) ∨ (p = tp ∧ (j = 2 ∨ j = 4 ∨ j = 6 ∨ j = 7 ∨ j = 8))) → tm_g w27 p j = tm_g w p j := fun p j h => (hfw27 p j (by omega)).trans (hF0 p j h)
        have bv28 : (-2147483648) ≤ v28 ∧ v28 ≤ 2147483647 := by obtain ⟨a, e, h0, h1⟩ := tm_peek (k := 4) (K := 4) hWw27 tpt0 rfl rfl; rw [kv28] at e; injection e with e; injection e with e; omega
        refine ev_goto (tgt := 61) dt_Ru_checkValue_41 (by decide) ?_
        refine ev_aload_n dt_Ru_checkValue_61 rfl rfl ?_
        refine ev_aload_n dt_Ru_checkValue_62 rfl rfl ?_
        refine tm_vv dt_Ru_checkValue_63 (tm_Ru_countToken hWw27 h_rr h_tp (by omega)) kb_Ru_72 ⟨im_Ru_countToken, se_Ru_countToken⟩ rfl hWw27 rrt0 rfl (Nat.le_of_ble_eq_true rfl) (by decide) (fun w29 hWw29 hRw29 => ?_)
        have hfw29 := hRw29
        have hFw29 : ∀ (p : Nat) (j : Int), ¬ ((p = rr ∧ (j = 2)) ∨ (p = tp ∧ (j = 2 ∨ j = 4 ∨ j = 6 ∨ j = 7 ∨ j = 8))) → tm_g w29 p j = tm_g w p j := fun p j h => (hfw29 p j (by omega)).trans (hFw27 p j h)
        exact ev_return dt_Ru_checkValue_66 rfl ⟨hWw29, rfl, hFw29⟩
  · skip
    refine ev_aload_n dt_Ru_checkValue_8 rfl rfl ?_
    refine tm_getK (K := 8) dt_Ru_checkValue_9 hW tpt0 fl_Ru_30 rfl kv15 ?_
    refine ev_bipush dt_Ru_checkValue_12 rfl ?_
    refine ev_icmp_ge (tgt := 21) dt_Ru_checkValue_14 (by decide) (by omega) (by omega) (fun h30 => ?_) (fun h30 => ?_)
    · skip
      refine ev_iconst dt_Ru_checkValue_21 ?_
      refine ev_istore_n (l' := [_, _, _]) dt_Ru_checkValue_22 rfl (Nat.le_of_ble_eq_true rfl) rfl ?_
      refine ev_iload_n dt_Ru_checkValue_23 rfl rfl ?_
      refine ev_if_ne (tgt := 44) dt_Ru_checkValue_24 (by decide) (by omega) (fun h31 => ?_) (fun h31 => ?_)
      · skip
        exfalso
        omega
      · skip
        refine ev_aload_n dt_Ru_checkValue_27 rfl rfl ?_
        refine tm_getI (K := 6) dt_Ru_checkValue_28 hW tpt0 fl_Ru_53 rfl rfl (fun v32 kv32 lv32 uv32 => ?_)
        refine ev_bipush dt_Ru_checkValue_31 rfl ?_
        refine ev_icmp_eq (tgt := 44) dt_Ru_checkValue_33 (by decide) (by omega) (by omega) (fun h33 => ?_) (fun h33 => ?_)
        · skip
          refine ev_iload_n dt_Ru_checkValue_44 rfl rfl ?_
          refine ev_if_ne (tgt := 61) dt_Ru_checkValue_45 (by decide) (by omega) (fun h34 => ?_) (fun h34 => ?_)
          · skip
            exfalso
            omega
          · skip
            refine ev_aload_n dt_Ru_checkValue_48 rfl rfl ?_
            refine tm_getI (K := 7) dt_Ru_checkValue_49 hW tpt0 fl_Ru_78 rfl rfl (fun v35 kv35 lv35 uv35 => ?_)
            refine ev_iconst dt_Ru_checkValue_52 ?_
            refine ev_icmp_ne (tgt := 61) dt_Ru_checkValue_53 (by decide) (by omega) (by omega) (fun h36 => ?_) (fun h36 => ?_)
            · skip
              refine ev_aload_n dt_Ru_checkValue_61 rfl rfl ?_
              refine ev_aload_n dt_Ru_checkValue_62 rfl rfl ?_
              refine tm_vv dt_Ru_checkValue_63 (tm_Ru_countToken hW h_rr h_tp (by omega)) kb_Ru_72 ⟨im_Ru_countToken, se_Ru_countToken⟩ rfl hW rrt0 rfl (Nat.le_of_ble_eq_true rfl) (by decide) (fun w37 hWw37 hRw37 => ?_)
              have hfw37 := hRw37
              have hFw37 : ∀ (p : Nat) (j : Int), ¬ ((p = rr ∧ (j = 2)) ∨ (p = tp ∧ (j = 2 ∨ j = 4 ∨ j = 6 ∨ j = 7 ∨ j = 8))) → tm_g w37 p j = tm_g w p j := fun p j h => (hfw37 p j (by omega)).trans (hF0 p j h)
              exact ev_return dt_Ru_checkValue_66 rfl ⟨hWw37, rfl, hFw37⟩
            · skip
              refine ev_aload_n dt_Ru_checkValue_56 rfl rfl ?_
              refine ev_iconst dt_Ru_checkValue_57 ?_
              refine tm_vv dt_Ru_checkValue_58 (tm_Ta_fail hW h_tp (1) (by omega) (by omega)) kb_Ru_33 ⟨im_Ta_fail, se_Ta_fail⟩ rfl hW tpt0 rfl (Nat.le_of_ble_eq_true rfl) (by decide) (fun w38 hWw38 hRw38 => ?_)
              obtain ⟨hfw38, v39, kv39, hpw38⟩ := hRw38
              have hFw38 : ∀ (p : Nat) (j : Int), ¬ ((p = rr ∧ (j = 2)) ∨ (p = tp ∧ (j = 2 ∨ j = 4 ∨ j = 6 ∨ j = 7 ∨ j = 8))) → tm_g w38 p j = tm_g w p j := fun p j h => (hfw38 p j (by omega)).trans (hF0 p j h)
              have bv39 : (-2147483648) ≤ v39 ∧ v39 ≤ 2147483647 := by obtain ⟨a, e, h0, h1⟩ := tm_peek (k := 4) (K := 4) hWw38 tpt0 rfl rfl; rw [kv39] at e; injection e with e; injection e with e; omega
              refine ev_aload_n dt_Ru_checkValue_61 rfl rfl ?_
              refine ev_aload_n dt_Ru_checkValue_62 rfl rfl ?_
              refine tm_vv dt_Ru_checkValue_63 (tm_Ru_countToken hWw38 h_rr h_tp (by omega)) kb_Ru_72 ⟨im_Ru_countToken, se_Ru_countToken⟩ rfl hWw38 rrt0 rfl (Nat.le_of_ble_eq_true rfl) (by decide) (fun w40 hWw40 hRw40 => ?_)
              have hfw40 := hRw40
              have hFw40 : ∀ (p : Nat) (j : Int), ¬ ((p = rr ∧ (j = 2)) ∨ (p = tp ∧ (j = 2 ∨ j = 4 ∨ j = 6 ∨ j = 7 ∨ j = 8))) → tm_g w40 p j = tm_g w p j := fun p j h => (hfw40 p j (by omega)).trans (hFw38 p j h)
              exact ev_return dt_Ru_checkValue_66 rfl ⟨hWw40, rfl, hFw40⟩
        · skip
          refine ev_aload_n dt_Ru_checkValue_36 rfl rfl ?_
          refine ev_iconst dt_Ru_checkValue_37 ?_
          refine tm_vv dt_Ru_checkValue_38 (tm_Ta_fail hW h_tp (0) (by omega) (by omega)) kb_Ru_33 ⟨im_Ta_fail, se_Ta_fail⟩ rfl hW tpt0 rfl (Nat.le_of_ble_eq_true rfl) (by decide) (fun w41 hWw41 hRw41 => ?_)
          obtain ⟨hfw41, v42, kv42, hpw41⟩ := hRw41
          have hFw41 : ∀ (p : Nat) (j : Int), ¬ ((p = rr ∧ (j = 2)) ∨ (p = tp ∧ (j = 2 ∨ j = 4 ∨ j = 6 ∨ j = 7 ∨ j = 8))) → tm_g w41 p j = tm_g w p j := fun p j h => (hfw41 p j (by omega)).trans (hF0 p j h)
          have bv42 : (-2147483648) ≤ v42 ∧ v42 ≤ 2147483647 := by obtain ⟨a, e, h0, h1⟩ := tm_peek (k := 4) (K := 4) hWw41 tpt0 rfl rfl; rw [kv42] at e; injection e with e; injection e with e; omega
          refine ev_goto (tgt := 61) dt_Ru_checkValue_41 (by decide) ?_
          refine ev_aload_n dt_Ru_checkValue_61 rfl rfl ?_
          refine ev_aload_n dt_Ru_checkValue_62 rfl rfl ?_
          refine tm_vv dt_Ru_checkValue_63 (tm_Ru_countToken hWw41 h_rr h_tp (by omega)) kb_Ru_72 ⟨im_Ru_countToken, se_Ru_countToken⟩ rfl hWw41 rrt0 rfl (Nat.le_of_ble_eq_true rfl) (by decide) (fun w43 hWw43 hRw43 => ?_)
          have hfw43 := hRw43
          have hFw43 : ∀ (p : Nat) (j : Int), ¬ ((p = rr ∧ (j = 2)) ∨ (p = tp ∧ (j = 2 ∨ j = 4 ∨ j = 6 ∨ j = 7 ∨ j = 8))) → tm_g w43 p j = tm_g w p j := fun p j h => (hfw43 p j (by omega)).trans (hFw41 p j h)
          exact ev_return dt_Ru_checkValue_66 rfl ⟨hWw43, rfl, hFw43⟩
    · skip
      refine ev_iconst dt_Ru_checkValue_17 ?_
      refine ev_goto (tgt := 22) dt_Ru_checkValue_18 (by decide) ?_
      refine ev_istore_n (l' := [_, _, _]) dt_Ru_checkValue_22 rfl (Nat.le_of_ble_eq_true rfl) rfl ?_
      refine ev_iload_n dt_Ru_checkValue_23 rfl rfl ?_
      refine ev_if_ne (tgt := 44) dt_Ru_checkValue_24 (by decide) (by omega) (fun h44 => ?_) (fun h44 => ?_)
      · skip
        refine ev_iload_n dt_Ru_checkValue_44 rfl rfl ?_
        refine ev_if_ne (tgt := 61) dt_Ru_checkValue_45 (by decide) (by omega) (fun h45 => ?_) (fun h45 => ?_)
        · skip
          refine ev_aload_n dt_Ru_checkValue_61 rfl rfl ?_
          refine ev_aload_n dt_Ru_checkValue_62 rfl rfl ?_
          refine tm_vv dt_Ru_checkValue_63 (tm_Ru_countToken hW h_rr h_tp (by omega)) kb_Ru_72 ⟨im_Ru_countToken, se_Ru_countToken⟩ rfl hW rrt0 rfl (Nat.le_of_ble_eq_true rfl) (by decide) (fun w46 hWw46 hRw46 => ?_)
          have hfw46 := hRw46
          have hFw46 : ∀ (p : Nat) (j : Int), ¬ ((p = rr ∧ (j = 2)) ∨ (p = tp ∧ (j = 2 ∨ j = 4 ∨ j = 6 ∨ j = 7 ∨ j = 8))) → tm_g w46 p j = tm_g w p j := fun p j h => (hfw46 p j (by omega)).trans (hF0 p j h)
          exact ev_return dt_Ru_checkValue_66 rfl ⟨hWw46, rfl, hFw46⟩
        · skip
          exfalso
          omega
      · skip
        exfalso
        omega
theorem dt_Ru_addingOf_0 : decode prog_10_method_10_code 0 = .ok (.iload_n 0, 1) := by decide +kernel
theorem dt_Ru_addingOf_1 : decode prog_10_method_10_code 1 = .ok (.lookupswitch 33 #[(43, 27), (45, 30)], 27) := by decide +kernel
theorem dt_Ru_addingOf_28 : decode prog_10_method_10_code 28 = .ok (.bipush (-21), 2) := by decide +kernel
theorem dt_Ru_addingOf_30 : decode prog_10_method_10_code 30 = .ok (.ireturn, 1) := by decide +kernel
theorem dt_Ru_addingOf_31 : decode prog_10_method_10_code 31 = .ok (.bipush (-22), 2) := by decide +kernel
theorem dt_Ru_addingOf_33 : decode prog_10_method_10_code 33 = .ok (.ireturn, 1) := by decide +kernel
theorem dt_Ru_addingOf_34 : decode prog_10_method_10_code 34 = .ok (.iconst 0, 1) := by decide +kernel
theorem dt_Ru_addingOf_35 : decode prog_10_method_10_code 35 = .ok (.ireturn, 1) := by decide +kernel
set_option maxHeartbeats 4000000 in
set_option maxRecDepth 10000 in
theorem tm_Ru_addingOf {N : Nat} {T : Nat → tm_S} {w : ab_W} (hW : tm_W N T w) (a : Int) (l_a : (-2147483648) ≤ a) (u_a : a ≤ 2147483647) : ab_Mt g_G g_rs mt_Ru_addingOf 0 0 0 [ab_I a] w (tm_P w (fun v => (-35) ≤ v ∧ v ≤ 0)) := by
  refine ab_Mt.of rfl (Nat.le_of_ble_eq_true rfl) ?_
  show ab_Ev g_G g_rs mt_Ru_addingOf _ _ _ 0 [some (ab_I a)] [] _ _
  refine ev_iload_n dt_Ru_addingOf_0 rfl rfl ?_
  rcases (by omega : a = 43 ∨ a = 45 ∨ (¬ (43 = a) ∧ ¬ (45 = a))) with c47 | c47 | c47
  · skip
    refine tm_lk (off := 27) (tgt := 28) dt_Ru_addingOf_1 (by decide) (by omega) (by rw [c47]; rfl) (by decide) ?_
    refine ev_bipush dt_Ru_addingOf_28 rfl ?_
    exact ev_ireturn dt_Ru_addingOf_30 rfl ⟨rfl, _, rfl, by omega⟩
  · skip
    refine tm_lk (off := 30) (tgt := 31) dt_Ru_addingOf_1 (by decide) (by omega) (by rw [c47]; rfl) (by decide) ?_
    refine ev_bipush dt_Ru_addingOf_31 rfl ?_
    exact ev_ireturn dt_Ru_addingOf_33 rfl ⟨rfl, _, rfl, by omega⟩
  · skip
    refine tm_lk (off := 33) (tgt := 34) dt_Ru_addingOf_1 (by decide) (by omega) (tm_lookD (by intro q hq; simp only [List.mem_cons, List.mem_nil_iff, or_false] at hq; rcases hq with rfl | rfl <;> omega)) (by decide) ?_
    refine ev_iconst dt_Ru_addingOf_34 ?_
    exact ev_ireturn dt_Ru_addingOf_35 rfl ⟨rfl, _, rfl, by omega⟩
theorem dt_Ru_timingOf_0 : decode prog_10_method_11_code 0 = .ok (.iload_n 0, 1) := by decide +kernel
theorem dt_Ru_timingOf_1 : decode prog_10_method_11_code 1 = .ok (.lookupswitch 44 #[(37, 41), (42, 35), (47, 38)], 35) := by decide +kernel
theorem dt_Ru_timingOf_36 : decode prog_10_method_11_code 36 = .ok (.bipush (-23), 2) := by decide +kernel
theorem dt_Ru_timingOf_38 : decode prog_10_method_11_code 38 = .ok (.ireturn, 1) := by decide +kernel
theorem dt_Ru_timingOf_39 : decode prog_10_method_11_code 39 = .ok (.bipush (-24), 2) := by decide +kernel
theorem dt_Ru_timingOf_41 : decode prog_10_method_11_code 41 = .ok (.ireturn, 1) := by decide +kernel
theorem dt_Ru_timingOf_42 : decode prog_10_method_11_code 42 = .ok (.bipush (-25), 2) := by decide +kernel
theorem dt_Ru_timingOf_44 : decode prog_10_method_11_code 44 = .ok (.ireturn, 1) := by decide +kernel
theorem dt_Ru_timingOf_45 : decode prog_10_method_11_code 45 = .ok (.iconst 0, 1) := by decide +kernel
theorem dt_Ru_timingOf_46 : decode prog_10_method_11_code 46 = .ok (.ireturn, 1) := by decide +kernel
set_option maxHeartbeats 4000000 in
set_option maxRecDepth 10000 in
theorem tm_Ru_timingOf {N : Nat} {T : Nat → tm_S} {w : ab_W} (hW : tm_W N T w) (a : Int) (l_a : (-2147483648) ≤ a) (u_a : a ≤ 2147483647) : ab_Mt g_G g_rs mt_Ru_timingOf 0 0 0 [ab_I a] w (tm_P w (fun v => (-35) ≤ v ∧ v ≤ 0)) := by
  refine ab_Mt.of rfl (Nat.le_of_ble_eq_true rfl) ?_
  show ab_Ev g_G g_rs mt_Ru_timingOf _ _ _ 0 [some (ab_I a)] [] _ _
  refine ev_iload_n dt_Ru_timingOf_0 rfl rfl ?_
  rcases (by omega : a = 37 ∨ a = 42 ∨ a = 47 ∨ (¬ (37 = a) ∧ ¬ (42 = a) ∧ ¬ (47 = a))) with c48 | c48 | c48 | c48
  · skip
    refine tm_lk (off := 41) (tgt := 42) dt_Ru_timingOf_1 (by decide) (by omega) (by rw [c48]; rfl) (by decide) ?_
    refine ev_bipush dt_Ru_timingOf_42 rfl ?_
    exact ev_ireturn dt_Ru_timingOf_44 rfl ⟨rfl, _, rfl, by omega⟩
  · skip
    refine tm_lk (off := 35) (tgt := 36) dt_Ru_timingOf_1 (by decide) (by omega) (by rw [c48]; rfl) (by decide) ?_
    refine ev_bipush dt_Ru_timingOf_36 rfl ?_
    exact ev_ireturn dt_Ru_timingOf_38 rfl ⟨rfl, _, rfl, by omega⟩
  · skip
    refine tm_lk (off := 38) (tgt := 39) dt_Ru_timingOf_1 (by decide) (by omega) (by rw [c48]; rfl) (by decide) ?_
    refine ev_bipush dt_Ru_timingOf_39 rfl ?_
    exact ev_ireturn dt_Ru_timingOf_41 rfl ⟨rfl, _, rfl, by omega⟩
  · skip
    refine tm_lk (off := 44) (tgt := 45) dt_Ru_timingOf_1 (by decide) (by omega) (tm_lookD (by intro q hq; simp only [List.mem_cons, List.mem_nil_iff, or_false] at hq; rcases hq with rfl | rfl | rfl <;> omega)) (by decide) ?_
    refine ev_iconst dt_Ru_timingOf_45 ?_
    exact ev_ireturn dt_Ru_timingOf_46 rfl ⟨rfl, _, rfl, by omega⟩
theorem dt_Ru_comparisonOf_0 : decode prog_10_method_12_code 0 = .ok (.iload_n 0, 1) := by decide +kernel
theorem dt_Ru_comparisonOf_1 : decode prog_10_method_12_code 1 = .ok (.lookupswitch 66 #[(60, 51), (61, 57), (62, 63), (256, 54), (257, 60)], 51) := by decide +kernel
theorem dt_Ru_comparisonOf_52 : decode prog_10_method_12_code 52 = .ok (.bipush (-26), 2) := by decide +kernel
theorem dt_Ru_comparisonOf_54 : decode prog_10_method_12_code 54 = .ok (.ireturn, 1) := by decide +kernel
theorem dt_Ru_comparisonOf_55 : decode prog_10_method_12_code 55 = .ok (.bipush (-27), 2) := by decide +kernel
theorem dt_Ru_comparisonOf_57 : decode prog_10_method_12_code 57 = .ok (.ireturn, 1) := by decide +kernel
theorem dt_Ru_comparisonOf_58 : decode prog_10_method_12_code 58 = .ok (.bipush (-28), 2) := by decide +kernel
theorem dt_Ru_comparisonOf_60 : decode prog_10_method_12_code 60 = .ok (.ireturn, 1) := by decide +kernel
theorem dt_Ru_comparisonOf_61 : decode prog_10_method_12_code 61 = .ok (.bipush (-29), 2) := by decide +kernel
theorem dt_Ru_comparisonOf_63 : decode prog_10_method_12_code 63 = .ok (.ireturn, 1) := by decide +kernel
theorem dt_Ru_comparisonOf_64 : decode prog_10_method_12_code 64 = .ok (.bipush (-30), 2) := by decide +kernel
theorem dt_Ru_comparisonOf_66 : decode prog_10_method_12_code 66 = .ok (.ireturn, 1) := by decide +kernel
theorem dt_Ru_comparisonOf_67 : decode prog_10_method_12_code 67 = .ok (.iconst 0, 1) := by decide +kernel
theorem dt_Ru_comparisonOf_68 : decode prog_10_method_12_code 68 = .ok (.ireturn, 1) := by decide +kernel
set_option maxHeartbeats 4000000 in
set_option maxRecDepth 10000 in
theorem tm_Ru_comparisonOf {N : Nat} {T : Nat → tm_S} {w : ab_W} (hW : tm_W N T w) (a : Int) (l_a : (-2147483648) ≤ a) (u_a : a ≤ 2147483647) : ab_Mt g_G g_rs mt_Ru_comparisonOf 0 0 0 [ab_I a] w (tm_P w (fun v => (-35) ≤ v ∧ v ≤ 0)) := by
  refine ab_Mt.of rfl (Nat.le_of_ble_eq_true rfl) ?_
  show ab_Ev g_G g_rs mt_Ru_comparisonOf _ _ _ 0 [some (ab_I a)] [] _ _
  refine ev_iload_n dt_Ru_comparisonOf_0 rfl rfl ?_
  rcases (by omega : a = 60 ∨ a = 61 ∨ a = 62 ∨ a = 256 ∨ a = 257 ∨ (¬ (60 = a) ∧ ¬ (61 = a) ∧ ¬ (62 = a) ∧ ¬ (256 = a) ∧ ¬ (257 = a))) with c49 | c49 | c49 | c49 | c49 | c49
  · skip
    refine tm_lk (off := 51) (tgt := 52) dt_Ru_comparisonOf_1 (by decide) (by omega) (by rw [c49]; rfl) (by decide) ?_
    refine ev_bipush dt_Ru_comparisonOf_52 rfl ?_
    exact ev_ireturn dt_Ru_comparisonOf_54 rfl ⟨rfl, _, rfl, by omega⟩
  · skip
    refine tm_lk (off := 57) (tgt := 58) dt_Ru_comparisonOf_1 (by decide) (by omega) (by rw [c49]; rfl) (by decide) ?_
    refine ev_bipush dt_Ru_comparisonOf_58 rfl ?_
    exact ev_ireturn dt_Ru_comparisonOf_60 rfl ⟨rfl, _, rfl, by omega⟩
  · skip
    refine tm_lk (off := 63) (tgt := 64) dt_Ru_comparisonOf_1 (by decide) (by omega) (by rw [c49]; rfl) (by decide) ?_
    refine ev_bipush dt_Ru_comparisonOf_64 rfl ?_
    exact ev_ireturn dt_Ru_comparisonOf_66 rfl ⟨rfl, _, rfl, by omega⟩
  · skip
    refine tm_lk (off := 54) (tgt := 55) dt_Ru_comparisonOf_1 (by decide) (by omega) (by rw [c49]; rfl) (by decide) ?_
    refine ev_bipush dt_Ru_comparisonOf_55 rfl ?_
    exact ev_ireturn dt_Ru_comparisonOf_57 rfl ⟨rfl, _, rfl, by omega⟩
  · skip
    refine tm_lk (off := 60) (tgt := 61) dt_Ru_comparisonOf_1 (by decide) (by omega) (by rw [c49]; rfl) (by decide) ?_
    refine ev_bipush dt_Ru_comparisonOf_61 rfl ?_
    exact ev_ireturn dt_Ru_comparisonOf_63 rfl ⟨rfl, _, rfl, by omega⟩
  · skip
    refine tm_lk (off := 66) (tgt := 67) dt_Ru_comparisonOf_1 (by decide) (by omega) (tm_lookD (by intro q hq; simp only [List.mem_cons, List.mem_nil_iff, or_false] at hq; rcases hq with rfl | rfl | rfl | rfl | rfl <;> omega)) (by decide) ?_
    refine ev_iconst dt_Ru_comparisonOf_67 ?_
    exact ev_ireturn dt_Ru_comparisonOf_68 rfl ⟨rfl, _, rfl, by omega⟩
theorem dt_Ru_readSum_0 : decode prog_10_method_8_code 0 = .ok (.iconst 0, 1) := by decide +kernel
theorem dt_Ru_readSum_1 : decode prog_10_method_8_code 1 = .ok (.istore_n 2, 1) := by decide +kernel
theorem dt_Ru_readSum_2 : decode prog_10_method_8_code 2 = .ok (.iconst 0, 1) := by decide +kernel
theorem dt_Ru_readSum_3 : decode prog_10_method_8_code 3 = .ok (.istore_n 3, 1) := by decide +kernel
theorem dt_Ru_readSum_4 : decode prog_10_method_8_code 4 = .ok (.iconst 1, 1) := by decide +kernel
theorem dt_Ru_readSum_5 : decode prog_10_method_8_code 5 = .ok (.istore 4, 2) := by decide +kernel
theorem dt_Ru_readSum_7 : decode prog_10_method_8_code 7 = .ok (.iconst 0, 1) := by decide +kernel
theorem dt_Ru_readSum_8 : decode prog_10_method_8_code 8 = .ok (.istore 5, 2) := by decide +kernel
theorem dt_Ru_readSum_10 : decode prog_10_method_8_code 10 = .ok (.iload 4, 2) := by decide +kernel
theorem dt_Ru_readSum_12 : decode prog_10_method_8_code 12 = .ok (.ifCond .eq 112, 3) := by decide +kernel
theorem dt_Ru_readSum_15 : decode prog_10_method_8_code 15 = .ok (.iload 5, 2) := by decide +kernel
theorem dt_Ru_readSum_17 : decode prog_10_method_8_code 17 = .ok (.bipush 60, 2) := by decide +kernel
theorem dt_Ru_readSum_19 : decode prog_10_method_8_code 19 = .ok (.if_icmp .gt 105, 3) := by decide +kernel
theorem dt_Ru_readSum_22 : decode prog_10_method_8_code 22 = .ok (.aload_n 0, 1) := by decide +kernel
theorem dt_Ru_readSum_23 : decode prog_10_method_8_code 23 = .ok (.aload_n 1, 1) := by decide +kernel
theorem dt_Ru_readSum_24 : decode prog_10_method_8_code 24 = .ok (.invokevirtual 75, 3) := by decide +kernel
theorem dt_Ru_readSum_27 : decode prog_10_method_8_code 27 = .ok (.aload_n 0, 1) := by decide +kernel
theorem dt_Ru_readSum_28 : decode prog_10_method_8_code 28 = .ok (.aload_n 1, 1) := by decide +kernel
theorem dt_Ru_readSum_29 : decode prog_10_method_8_code 29 = .ok (.getfield 30, 3) := by decide +kernel
theorem dt_Ru_readSum_32 : decode prog_10_method_8_code 32 = .ok (.iconst (-1), 1) := by decide +kernel
theorem dt_Ru_readSum_33 : decode prog_10_method_8_code 33 = .ok (.if_icmp .ne 10, 3) := by decide +kernel
theorem dt_Ru_readSum_36 : decode prog_10_method_8_code 36 = .ok (.aload_n 1, 1) := by decide +kernel
theorem dt_Ru_readSum_37 : decode prog_10_method_8_code 37 = .ok (.getfield 78, 3) := by decide +kernel
theorem dt_Ru_readSum_40 : decode prog_10_method_8_code 40 = .ok (.goto 9, 3) := by decide +kernel
theorem dt_Ru_readSum_43 : decode prog_10_method_8_code 43 = .ok (.iconst (-1), 1) := by decide +kernel
theorem dt_Ru_readSum_44 : decode prog_10_method_8_code 44 = .ok (.aload_n 1, 1) := by decide +kernel
theorem dt_Ru_readSum_45 : decode prog_10_method_8_code 45 = .ok (.getfield 30, 3) := by decide +kernel
theorem dt_Ru_readSum_48 : decode prog_10_method_8_code 48 = .ok (.isub, 1) := by decide +kernel
theorem dt_Ru_readSum_49 : decode prog_10_method_8_code 49 = .ok (.invokevirtual 50, 3) := by decide +kernel
theorem dt_Ru_readSum_52 : decode prog_10_method_8_code 52 = .ok (.aload_n 1, 1) := by decide +kernel
theorem dt_Ru_readSum_53 : decode prog_10_method_8_code 53 = .ok (.invokevirtual 37, 3) := by decide +kernel
theorem dt_Ru_readSum_56 : decode prog_10_method_8_code 56 = .ok (.iload_n 3, 1) := by decide +kernel
theorem dt_Ru_readSum_57 : decode prog_10_method_8_code 57 = .ok (.ifCond .eq 8, 3) := by decide +kernel
theorem dt_Ru_readSum_60 : decode prog_10_method_8_code 60 = .ok (.aload_n 0, 1) := by decide +kernel
theorem dt_Ru_readSum_61 : decode prog_10_method_8_code 61 = .ok (.iload_n 3, 1) := by decide +kernel
theorem dt_Ru_readSum_62 : decode prog_10_method_8_code 62 = .ok (.invokevirtual 50, 3) := by decide +kernel
theorem dt_Ru_readSum_65 : decode prog_10_method_8_code 65 = .ok (.aload_n 1, 1) := by decide +kernel
theorem dt_Ru_readSum_66 : decode prog_10_method_8_code 66 = .ok (.getfield 53, 3) := by decide +kernel
theorem dt_Ru_readSum_69 : decode prog_10_method_8_code 69 = .ok (.invokestatic 81, 3) := by decide +kernel
theorem dt_Ru_readSum_72 : decode prog_10_method_8_code 72 = .ok (.istore_n 3, 1) := by decide +kernel
theorem dt_Ru_readSum_73 : decode prog_10_method_8_code 73 = .ok (.iload_n 3, 1) := by decide +kernel
theorem dt_Ru_readSum_74 : decode prog_10_method_8_code 74 = .ok (.ifCond .ne 20, 3) := by decide +kernel
theorem dt_Ru_readSum_77 : decode prog_10_method_8_code 77 = .ok (.iload_n 2, 1) := by decide +kernel
theorem dt_Ru_readSum_78 : decode prog_10_method_8_code 78 = .ok (.ifCond .eq 8, 3) := by decide +kernel
theorem dt_Ru_readSum_81 : decode prog_10_method_8_code 81 = .ok (.aload_n 0, 1) := by decide +kernel
theorem dt_Ru_readSum_82 : decode prog_10_method_8_code 82 = .ok (.iload_n 2, 1) := by decide +kernel
theorem dt_Ru_readSum_83 : decode prog_10_method_8_code 83 = .ok (.invokevirtual 50, 3) := by decide +kernel
theorem dt_Ru_readSum_86 : decode prog_10_method_8_code 86 = .ok (.aload_n 1, 1) := by decide +kernel
theorem dt_Ru_readSum_87 : decode prog_10_method_8_code 87 = .ok (.getfield 53, 3) := by decide +kernel
theorem dt_Ru_readSum_90 : decode prog_10_method_8_code 90 = .ok (.invokestatic 84, 3) := by decide +kernel
theorem dt_Ru_readSum_93 : decode prog_10_method_8_code 93 = .ok (.istore_n 2, 1) := by decide +kernel
theorem dt_Ru_readSum_94 : decode prog_10_method_8_code 94 = .ok (.iload_n 3, 1) := by decide +kernel
theorem dt_Ru_readSum_95 : decode prog_10_method_8_code 95 = .ok (.ifCond .ne 7, 3) := by decide +kernel
theorem dt_Ru_readSum_98 : decode prog_10_method_8_code 98 = .ok (.iload_n 2, 1) := by decide +kernel
theorem dt_Ru_readSum_99 : decode prog_10_method_8_code 99 = .ok (.ifCond .eq 7, 3) := by decide +kernel
theorem dt_Ru_readSum_102 : decode prog_10_method_8_code 102 = .ok (.iconst 1, 1) := by decide +kernel
theorem dt_Ru_readSum_103 : decode prog_10_method_8_code 103 = .ok (.goto 4, 3) := by decide +kernel
theorem dt_Ru_readSum_106 : decode prog_10_method_8_code 106 = .ok (.iconst 0, 1) := by decide +kernel
theorem dt_Ru_readSum_107 : decode prog_10_method_8_code 107 = .ok (.istore 4, 2) := by decide +kernel
theorem dt_Ru_readSum_109 : decode prog_10_method_8_code 109 = .ok (.iload 4, 2) := by decide +kernel
theorem dt_Ru_readSum_111 : decode prog_10_method_8_code 111 = .ok (.ifCond .eq 7, 3) := by decide +kernel
theorem dt_Ru_readSum_114 : decode prog_10_method_8_code 114 = .ok (.aload_n 1, 1) := by decide +kernel
theorem dt_Ru_readSum_115 : decode prog_10_method_8_code 115 = .ok (.invokevirtual 37, 3) := by decide +kernel
theorem dt_Ru_readSum_118 : decode prog_10_method_8_code 118 = .ok (.iinc 5 1, 3) := by decide +kernel
theorem dt_Ru_readSum_121 : decode prog_10_method_8_code 121 = .ok (.goto (-111), 3) := by decide +kernel
theorem dt_Ru_readSum_124 : decode prog_10_method_8_code 124 = .ok (.return_, 1) := by decide +kernel
set_option maxHeartbeats 4000000 in
set_option maxRecDepth 10000 in
theorem tm_Ru_readSum {N : Nat} {T : Nat → tm_S} {w : ab_W} {rr : Nat} {tp : Nat} (hW : tm_W N T w) (h_rr : is_Ru T rr) (h_tp : is_Ta T tp) (ne_rr_tp : rr + 2 ≤ tp ∨ tp + 2 ≤ rr) : ab_Mt g_G g_rs mt_Ru_readSum 6 0 0 [ab_R rr, ab_R tp] w (tm_Qv N T (fun w2 => (∀ (p : Nat) (j : Int), ¬ (p = (rr + 1) ∨ (p = rr ∧ (j = 1 ∨ j = 2)) ∨ (p = tp ∧ (j = 2 ∨ j = 5 ∨ j = 6 ∨ j = 7 ∨ j = 8 ∨ j = 4))) → tm_g w2 p j = tm_g w p j))) := by
  obtain ⟨rrt0, rrt1⟩ := id h_rr
  obtain ⟨tpt0, tpt1⟩ := id h_tp
  have hF0 : ∀ (p : Nat) (j : Int), ¬ (p = (rr + 1) ∨ (p = rr ∧ (j = 1 ∨ j = 2)) ∨ (p = tp ∧ (j = 2 ∨ j = 5 ∨ j = 6 ∨ j = 7 ∨ j = 8 ∨ j = 4))) → tm_g w p j = tm_g w p j := fun _ _ _ => rfl
  refine ab_Mt.of rfl (Nat.le_of_ble_eq_true rfl) ?_
  show ab_Ev g_G g_rs mt_Ru_readSum _ _ _ 0 [some (ab_R rr), some (ab_R tp), none, none, none, none] [] _ _
  refine ev_iconst dt_Ru_readSum_0 ?_
  refine ev_istore_n (l' := [_, _, _, _, _, _]) dt_Ru_readSum_1 rfl (Nat.le_of_ble_eq_true rfl) rfl ?_
  refine ev_iconst dt_Ru_readSum_2 ?_
  refine ev_istore_n (l' := [_, _, _, _, _, _]) dt_Ru_readSum_3 rfl (Nat.le_of_ble_eq_true rfl) rfl ?_
  refine ev_iconst dt_Ru_readSum_4 ?_
  refine ev_istore (l' := [_, _, _, _, _, _]) dt_Ru_readSum_5 (Nat.le_of_ble_eq_true rfl) rfl ?_
  refine ev_iconst dt_Ru_readSum_7 ?_
  refine ev_istore (l' := [_, _, _, _, _, _]) dt_Ru_readSum_8 (Nat.le_of_ble_eq_true rfl) rfl ?_
  have L50 : ∀ (n : Nat) (i51 : Int) (i52 : Int) (i53 : Int) (i54 : Int)  (w55 : ab_W), tm_W N T w55 → (∀ (p : Nat) (j : Int), ¬ (p = (rr + 1) ∨ (p = rr ∧ (j = 1 ∨ j = 2)) ∨ (p = tp ∧ (j = 2 ∨ j = 5 ∨ j = 6 ∨ j = 7 ∨ j = 8 ∨ j = 4))) → tm_g w55 p j = tm_g w p j) → (-35) ≤ i51 → i51 ≤ 0 → (-35) ≤ i52 → i52 ≤ 0 → 0 ≤ i53 → i53 ≤ 1 → 0 ≤ i54 → i54 ≤ 61 → 61 - i54 < (n : Int) → ab_Ev g_G g_rs mt_Ru_readSum 6 0 0 10 [some (ab_R rr), some (ab_R tp), some (ab_I i51), some (ab_I i52), some (ab_I i53), some (ab_I i54)] [] w55 (tm_Qv N T (fun w2 => (∀ (p : Nat) (j : Int), ¬ (p = (rr + 1) ∨ (p = rr ∧ (j = 1 ∨ j = 2)) ∨ (p = tp ∧ (j = 2 ∨ j = 5 ∨ j = 6 ∨ j = 7 ∨ j = 8 ∨ j = 4))) → tm_g w2 p j = tm_g w p j))) := by
    intro n
    induction n with
    | zero =>
      intro i51 i52 i53 i54  w55 hWw55 hFw55 li51 ui51 li52 ui52 li53 ui53 li54 ui54 mL50
      exfalso
      omega
    | succ nL50 ihL50 =>
      intro i51 i52 i53 i54  w55 hWw55 hFw55 li51 ui51 li52 ui52 li53 ui53 li54 ui54 mL50
      refine ev_iload dt_Ru_readSum_10 rfl ?_
      refine ev_if_eq (tgt := 124) dt_Ru_readSum_12 (by decide) (by omega) (fun h56 => ?_) (fun h56 => ?_)
      · skip
        exact ev_return dt_Ru_readSum_124 rfl ⟨hWw55, rfl, hFw55⟩
      · skip
        refine ev_iload dt_Ru_readSum_15 rfl ?_
        refine ev_bipush dt_Ru_readSum_17 rfl ?_
        refine ev_icmp_gt (tgt := 124) dt_Ru_readSum_19 (by decide) (by omega) (by omega) (fun h57 => ?_) (fun h57 => ?_)
        · skip
          exact ev_return dt_Ru_readSum_124 rfl ⟨hWw55, rfl, hFw55⟩
        · skip
          refine ev_aload_n dt_Ru_readSum_22 rfl rfl ?_
          refine ev_aload_n dt_Ru_readSum_23 rfl rfl ?_
          refine tm_vv dt_Ru_readSum_24 (tm_Ru_checkValue hWw55 h_rr h_tp (by omega)) kb_Ru_75 ⟨im_Ru_checkValue, se_Ru_checkValue⟩ rfl hWw55 rrt0 rfl (Nat.le_of_ble_eq_true rfl) (by decide) (fun w58 hWw58 hRw58 => ?_)
          have hfw58 := hRw58
          have hFw58 : ∀ (p : Nat) (j : Int), ¬ (p = (rr + 1) ∨ (p = rr ∧ (j = 1 ∨ j = 2)) ∨ (p = tp ∧ (j = 2 ∨ j = 5 ∨ j = 6 ∨ j = 7 ∨ j = 8 ∨ j = 4))) → tm_g w58 p j = tm_g w p j := fun p j h => (hfw58 p j (by omega)).trans (hFw55 p j h)
          refine ev_aload_n dt_Ru_readSum_27 rfl rfl ?_
          refine ev_aload_n dt_Ru_readSum_28 rfl rfl ?_
          refine tm_getI (K := 8) dt_Ru_readSum_29 hWw58 tpt0 fl_Ru_30 rfl rfl (fun v59 kv59 lv59 uv59 => ?_)
          refine ev_iconst dt_Ru_readSum_32 ?_
          refine ev_icmp_ne (tgt := 43) dt_Ru_readSum_33 (by decide) (by omega) (by omega) (fun h60 => ?_) (fun h60 => ?_)
          · skip
            refine ev_iconst dt_Ru_readSum_43 ?_
            refine ev_aload_n dt_Ru_readSum_44 rfl rfl ?_
            refine tm_getK (K := 8) dt_Ru_readSum_45 hWw58 tpt0 fl_Ru_30 rfl kv59 ?_
            refine ev_isub dt_Ru_readSum_48 ?_
            refine tm_vv dt_Ru_readSum_49 (tm_Ru_emit hWw58 h_rr (((-1) - v59)) (by omega) (by omega)) kb_Ru_50 ⟨im_Ru_emit, se_Ru_emit⟩ rfl hWw58 rrt0 rfl (Nat.le_of_ble_eq_true rfl) (by decide) (fun w61 hWw61 hRw61 => ?_)
            have hfw61 := hRw61
            have hFw61 : ∀ (p : Nat) (j : Int), ¬ (p = (rr + 1) ∨ (p = rr ∧ (j = 1 ∨ j = 2)) ∨ (p = tp ∧ (j = 2 ∨ j = 5 ∨ j = 6 ∨ j = 7 ∨ j = 8 ∨ j = 4))) → tm_g w61 p j = tm_g w p j := fun p j h => (hfw61 p j (by omega)).trans (hFw58 p j h)
            have z62 := (hfw61 tp 8 (by omega)).trans kv59
            refine ev_aload_n dt_Ru_readSum_52 rfl rfl ?_
            refine tm_vv dt_Ru_readSum_53 (tm_Ta_advance hWw61 h_tp) kb_Ru_37 ⟨im_Ta_advance, se_Ta_advance⟩ rfl hWw61 tpt0 rfl (Nat.le_of_ble_eq_true rfl) (by decide) (fun w63 hWw63 hRw63 => ?_)
            have hfw63 := hRw63
            have hFw63 : ∀ (p : Nat) (j : Int), ¬ (p = (rr + 1) ∨ (p = rr ∧ (j = 1 ∨ j = 2)) ∨ (p = tp ∧ (j = 2 ∨ j = 5 ∨ j = 6 ∨ j = 7 ∨ j = 8 ∨ j = 4))) → tm_g w63 p j = tm_g w p j := fun p j h => (hfw63 p j (by omega)).trans (hFw61 p j h)
            refine ev_iload_n dt_Ru_readSum_56 rfl rfl ?_
            refine ev_if_eq (tgt := 65) dt_Ru_readSum_57 (by decide) (by omega) (fun h64 => ?_) (fun h64 => ?_)
            · skip
              refine ev_aload_n dt_Ru_readSum_65 rfl rfl ?_
              refine tm_getI (K := 6) dt_Ru_readSum_66 hWw63 tpt0 fl_Ru_53 rfl rfl (fun v65 kv65 lv65 uv65 => ?_)
              refine tm_sp dt_Ru_readSum_69 (tm_Ru_timingOf hWw63 (v65) (by omega) (by omega)) kb_Ru_81 sc_Ru_timingOf rfl (Nat.le_of_ble_eq_true rfl) (by decide) (fun v66 hv66 => ?_)
              refine ev_istore_n (l' := [_, _, _, _, _, _]) dt_Ru_readSum_72 rfl (Nat.le_of_ble_eq_true rfl) rfl ?_
              refine ev_iload_n dt_Ru_readSum_73 rfl rfl ?_
              refine ev_if_ne (tgt := 94) dt_Ru_readSum_74 (by decide) (by omega) (fun h67 => ?_) (fun h67 => ?_)
              · skip
                refine ev_iload_n dt_Ru_readSum_94 rfl rfl ?_
                refine ev_if_ne (tgt := 102) dt_Ru_readSum_95 (by decide) (by omega) (fun h68 => ?_) (fun h68 => ?_)
                · skip
                  refine ev_iconst dt_Ru_readSum_102 ?_
                  refine ev_goto (tgt := 107) dt_Ru_readSum_103 (by decide) ?_
                  refine ev_istore (l' := [_, _, _, _, _, _]) dt_Ru_readSum_107 (Nat.le_of_ble_eq_true rfl) rfl ?_
                  refine ev_iload dt_Ru_readSum_109 rfl ?_
                  refine ev_if_eq (tgt := 118) dt_Ru_readSum_111 (by decide) (by omega) (fun h69 => ?_) (fun h69 => ?_)
                  · skip
                    exfalso
                    omega
                  · skip
                    refine ev_aload_n dt_Ru_readSum_114 rfl rfl ?_
                    refine tm_vv dt_Ru_readSum_115 (tm_Ta_advance hWw63 h_tp) kb_Ru_37 ⟨im_Ta_advance, se_Ta_advance⟩ rfl hWw63 tpt0 rfl (Nat.le_of_ble_eq_true rfl) (by decide) (fun w70 hWw70 hRw70 => ?_)
                    have hfw70 := hRw70
                    have hFw70 : ∀ (p : Nat) (j : Int), ¬ (p = (rr + 1) ∨ (p = rr ∧ (j = 1 ∨ j = 2)) ∨ (p = tp ∧ (j = 2 ∨ j = 5 ∨ j = 6 ∨ j = 7 ∨ j = 8 ∨ j = 4))) → tm_g w70 p j = tm_g w p j := fun p j h => (hfw70 p j (by omega)).trans (hFw63 p j h)
                    refine ev_iinc (l' := [_, _, _, _, _, _]) dt_Ru_readSum_118 rfl rfl ?_
                    refine ev_goto (tgt := 10) dt_Ru_readSum_121 (by decide) ?_
                    exact tm_loc (tm_le_s (tm_le_s (tm_le_s (tm_le_s (tm_le_s (tm_le_s tm_le_0)))))) (ihL50 (i51) (v66) (1) ((i54 + 1)) w70 hWw70 hFw70 (by omega) (by omega) (by omega) (by omega) (by omega) (by omega) (by omega) (by omega) (by omega))
                · skip
                  exfalso
                  omega
              · skip
                refine ev_iload_n dt_Ru_readSum_77 rfl rfl ?_
                refine ev_if_eq (tgt := 86) dt_Ru_readSum_78 (by decide) (by omega) (fun h71 => ?_) (fun h71 => ?_)
                · skip
                  refine ev_aload_n dt_Ru_readSum_86 rfl rfl ?_
                  refine tm_getK (K := 6) dt_Ru_readSum_87 hWw63 tpt0 fl_Ru_53 rfl kv65 ?_
                  refine tm_sp dt_Ru_readSum_90 (tm_Ru_addingOf hWw63 (v65) (by omega) (by omega)) kb_Ru_84 sc_Ru_addingOf rfl (Nat.le_of_ble_eq_true rfl) (by decide) (fun v72 hv72 => ?_)
                  refine ev_istore_n (l' := [_, _, _, _, _, _]) dt_Ru_readSum_93 rfl (Nat.le_of_ble_eq_true rfl) rfl ?_
                  refine ev_iload_n dt_Ru_readSum_94 rfl rfl ?_
                  refine ev_if_ne (tgt := 102) dt_Ru_readSum_95 (by decide) (by omega) (fun h73 => ?_) (fun h73 => ?_)
                  · skip
                    exfalso
                    omega
                  · skip
                    refine ev_iload_n dt_Ru_readSum_98 rfl rfl ?_
                    refine ev_if_eq (tgt := 106) dt_Ru_readSum_99 (by decide) (by omega) (fun h74 => ?_) (fun h74 => ?_)
                    · skip
                      refine ev_iconst dt_Ru_readSum_106 ?_
                      refine ev_istore (l' := [_, _, _, _, _, _]) dt_Ru_readSum_107 (Nat.le_of_ble_eq_true rfl) rfl ?_
                      refine ev_iload dt_Ru_readSum_109 rfl ?_
                      refine ev_if_eq (tgt := 118) dt_Ru_readSum_111 (by decide) (by omega) (fun h75 => ?_) (fun h75 => ?_)
                      · skip
                        refine ev_iinc (l' := [_, _, _, _, _, _]) dt_Ru_readSum_118 rfl rfl ?_
                        refine ev_goto (tgt := 10) dt_Ru_readSum_121 (by decide) ?_
                        exact tm_loc (tm_le_s (tm_le_s (tm_le_s (tm_le_s (tm_le_s (tm_le_s tm_le_0)))))) (ihL50 (v72) (v66) (0) ((i54 + 1)) w63 hWw63 hFw63 (by omega) (by omega) (by omega) (by omega) (by omega) (by omega) (by omega) (by omega) (by omega))
                      · skip
                        exfalso
                        omega
                    · skip
                      refine ev_iconst dt_Ru_readSum_102 ?_
                      refine ev_goto (tgt := 107) dt_Ru_readSum_103 (by decide) ?_
                      refine ev_istore (l' := [_, _, _, _, _, _]) dt_Ru_readSum_107 (Nat.le_of_ble_eq_true rfl) rfl ?_
                      refine ev_iload dt_Ru_readSum_109 rfl ?_
                      refine ev_if_eq (tgt := 118) dt_Ru_readSum_111 (by decide) (by omega) (fun h76 => ?_) (fun h76 => ?_)
                      · skip
                        exfalso
                        omega
                      · skip
                        refine ev_aload_n dt_Ru_readSum_114 rfl rfl ?_
                        refine tm_vv dt_Ru_readSum_115 (tm_Ta_advance hWw63 h_tp) kb_Ru_37 ⟨im_Ta_advance, se_Ta_advance⟩ rfl hWw63 tpt0 rfl (Nat.le_of_ble_eq_true rfl) (by decide) (fun w77 hWw77 hRw77 => ?_)
                        have hfw77 := hRw77
                        have hFw77 : ∀ (p : Nat) (j : Int), ¬ (p = (rr + 1) ∨ (p = rr ∧ (j = 1 ∨ j = 2)) ∨ (p = tp ∧ (j = 2 ∨ j = 5 ∨ j = 6 ∨ j = 7 ∨ j = 8 ∨ j = 4))) → tm_g w77 p j = tm_g w p j := fun p j h => (hfw77 p j (by omega)).trans (hFw63 p j h)
                        refine ev_iinc (l' := [_, _, _, _, _, _]) dt_Ru_readSum_118 rfl rfl ?_
                        refine ev_goto (tgt := 10) dt_Ru_readSum_121 (by decide) ?_
                        exact tm_loc (tm_le_s (tm_le_s (tm_le_s (tm_le_s (tm_le_s (tm_le_s tm_le_0)))))) (ihL50 (v72) (v66) (1) ((i54 + 1)) w77 hWw77 hFw77 (by omega) (by omega) (by omega) (by omega) (by omega) (by omega) (by omega) (by omega) (by omega))
                · skip
                  refine ev_aload_n dt_Ru_readSum_81 rfl rfl ?_
                  refine ev_iload_n dt_Ru_readSum_82 rfl rfl ?_
                  refine tm_vv dt_Ru_readSum_83 (tm_Ru_emit hWw63 h_rr (i51) (by omega) (by omega)) kb_Ru_50 ⟨im_Ru_emit, se_Ru_emit⟩ rfl hWw63 rrt0 rfl (Nat.le_of_ble_eq_true rfl) (by decide) (fun w78 hWw78 hRw78 => ?_)
                  have hfw78 := hRw78
                  have hFw78 : ∀ (p : Nat) (j : Int), ¬ (p = (rr + 1) ∨ (p = rr ∧ (j = 1 ∨ j = 2)) ∨ (p = tp ∧ (j = 2 ∨ j = 5 ∨ j = 6 ∨ j = 7 ∨ j = 8 ∨ j = 4))) → tm_g w78 p j = tm_g w p j := fun p j h => (hfw78 p j (by omega)).trans (hFw63 p j h)
                  have z79 := (hfw78 tp 6 (by omega)).trans kv65
                  refine ev_aload_n dt_Ru_readSum_86 rfl rfl ?_
                  refine tm_getK (K := 6) dt_Ru_readSum_87 hWw78 tpt0 fl_Ru_53 rfl z79 ?_
                  refine tm_sp dt_Ru_readSum_90 (tm_Ru_addingOf hWw78 (v65) (by omega) (by omega)) kb_Ru_84 sc_Ru_addingOf rfl (Nat.le_of_ble_eq_true rfl) (by decide) (fun v80 hv80 => ?_)
                  refine ev_istore_n (l' := [_, _, _, _, _, _]) dt_Ru_readSum_93 rfl (Nat.le_of_ble_eq_true rfl) rfl ?_
                  refine ev_iload_n dt_Ru_readSum_94 rfl rfl ?_
                  refine ev_if_ne (tgt := 102) dt_Ru_readSum_95 (by decide) (by omega) (fun h81 => ?_) (fun h81 => ?_)
                  · skip
                    exfalso
                    omega
                  · skip
                    refine ev_iload_n dt_Ru_readSum_98 rfl rfl ?_
                    refine ev_if_eq (tgt := 106) dt_Ru_readSum_99 (by decide) (by omega) (fun h82 => ?_) (fun h82 => ?_)
                    · skip
                      refine ev_iconst dt_Ru_readSum_106 ?_
                      refine ev_istore (l' := [_, _, _, _, _, _]) dt_Ru_readSum_107 (Nat.le_of_ble_eq_true rfl) rfl ?_
                      refine ev_iload dt_Ru_readSum_109 rfl ?_
                      refine ev_if_eq (tgt := 118) dt_Ru_readSum_111 (by decide) (by omega) (fun h83 => ?_) (fun h83 => ?_)
                      · skip
                        refine ev_iinc (l' := [_, _, _, _, _, _]) dt_Ru_readSum_118 rfl rfl ?_
                        refine ev_goto (tgt := 10) dt_Ru_readSum_121 (by decide) ?_
                        exact tm_loc (tm_le_s (tm_le_s (tm_le_s (tm_le_s (tm_le_s (tm_le_s tm_le_0)))))) (ihL50 (v80) (v66) (0) ((i54 + 1)) w78 hWw78 hFw78 (by omega) (by omega) (by omega) (by omega) (by omega) (by omega) (by omega) (by omega) (by omega))
                      · skip
                        exfalso
                        omega
                    · skip
                      refine ev_iconst dt_Ru_readSum_102 ?_
                      refine ev_goto (tgt := 107) dt_Ru_readSum_103 (by decide) ?_
                      refine ev_istore (l' := [_, _, _, _, _, _]) dt_Ru_readSum_107 (Nat.le_of_ble_eq_true rfl) rfl ?_
                      refine ev_iload dt_Ru_readSum_109 rfl ?_
                      refine ev_if_eq (tgt := 118) dt_Ru_readSum_111 (by decide) (by omega) (fun h84 => ?_) (fun h84 => ?_)
                      · skip
                        exfalso
                        omega
                      · skip
                        refine ev_aload_n dt_Ru_readSum_114 rfl rfl ?_
                        refine tm_vv dt_Ru_readSum_115 (tm_Ta_advance hWw78 h_tp) kb_Ru_37 ⟨im_Ta_advance, se_Ta_advance⟩ rfl hWw78 tpt0 rfl (Nat.le_of_ble_eq_true rfl) (by decide) (fun w85 hWw85 hRw85 => ?_)
                        have hfw85 := hRw85
                        have hFw85 : ∀ (p : Nat) (j : Int), ¬ (p = (rr + 1) ∨ (p = rr ∧ (j = 1 ∨ j = 2)) ∨ (p = tp ∧ (j = 2 ∨ j = 5 ∨ j = 6 ∨ j = 7 ∨ j = 8 ∨ j = 4))) → tm_g w85 p j = tm_g w p j := fun p j h => (hfw85 p j (by omega)).trans (hFw78 p j h)
                        refine ev_iinc (l' := [_, _, _, _, _, _]) dt_Ru_readSum_118 rfl rfl ?_
                        refine ev_goto (tgt := 10) dt_Ru_readSum_121 (by decide) ?_
                        exact tm_loc (tm_le_s (tm_le_s (tm_le_s (tm_le_s (tm_le_s (tm_le_s tm_le_0)))))) (ihL50 (v80) (v66) (1) ((i54 + 1)) w85 hWw85 hFw85 (by omega) (by omega) (by omega) (by omega) (by omega) (by omega) (by omega) (by omega) (by omega))
            · skip
              refine ev_aload_n dt_Ru_readSum_60 rfl rfl ?_
              refine ev_iload_n dt_Ru_readSum_61 rfl rfl ?_
              refine tm_vv dt_Ru_readSum_62 (tm_Ru_emit hWw63 h_rr (i52) (by omega) (by omega)) kb_Ru_50 ⟨im_Ru_emit, se_Ru_emit⟩ rfl hWw63 rrt0 rfl (Nat.le_of_ble_eq_true rfl) (by decide) (fun w86 hWw86 hRw86 => ?_)
              have hfw86 := hRw86
              have hFw86 : ∀ (p : Nat) (j : Int), ¬ (p = (rr + 1) ∨ (p = rr ∧ (j = 1 ∨ j = 2)) ∨ (p = tp ∧ (j = 2 ∨ j = 5 ∨ j = 6 ∨ j = 7 ∨ j = 8 ∨ j = 4))) → tm_g w86 p j = tm_g w p j := fun p j h => (hfw86 p j (by omega)).trans (hFw63 p j h)
              refine ev_aload_n dt_Ru_readSum_65 rfl rfl ?_
              refine tm_getI (K := 6) dt_Ru_readSum_66 hWw86 tpt0 fl_Ru_53 rfl rfl (fun v87 kv87 lv87 uv87 => ?_)
              refine tm_sp dt_Ru_readSum_69 (tm_Ru_timingOf hWw86 (v87) (by omega) (by omega)) kb_Ru_81 sc_Ru_timingOf rfl (Nat.le_of_ble_eq_true rfl) (by decide) (fun v88 hv88 => ?_)
              refine ev_istore_n (l' := [_, _, _, _, _, _]) dt_Ru_readSum_72 rfl (Nat.le_of_ble_eq_true rfl) rfl ?_
              refine ev_iload_n dt_Ru_readSum_73 rfl rfl ?_
              refine ev_if_ne (tgt := 94) dt_Ru_readSum_74 (by decide) (by omega) (fun h89 => ?_) (fun h89 => ?_)
              · skip
                refine ev_iload_n dt_Ru_readSum_94 rfl rfl ?_
                refine ev_if_ne (tgt := 102) dt_Ru_readSum_95 (by decide) (by omega) (fun h90 => ?_) (fun h90 => ?_)
                · skip
                  refine ev_iconst dt_Ru_readSum_102 ?_
                  refine ev_goto (tgt := 107) dt_Ru_readSum_103 (by decide) ?_
                  refine ev_istore (l' := [_, _, _, _, _, _]) dt_Ru_readSum_107 (Nat.le_of_ble_eq_true rfl) rfl ?_
                  refine ev_iload dt_Ru_readSum_109 rfl ?_
                  refine ev_if_eq (tgt := 118) dt_Ru_readSum_111 (by decide) (by omega) (fun h91 => ?_) (fun h91 => ?_)
                  · skip
                    exfalso
                    omega
                  · skip
                    refine ev_aload_n dt_Ru_readSum_114 rfl rfl ?_
                    refine tm_vv dt_Ru_readSum_115 (tm_Ta_advance hWw86 h_tp) kb_Ru_37 ⟨im_Ta_advance, se_Ta_advance⟩ rfl hWw86 tpt0 rfl (Nat.le_of_ble_eq_true rfl) (by decide) (fun w92 hWw92 hRw92 => ?_)
                    have hfw92 := hRw92
                    have hFw92 : ∀ (p : Nat) (j : Int), ¬ (p = (rr + 1) ∨ (p = rr ∧ (j = 1 ∨ j = 2)) ∨ (p = tp ∧ (j = 2 ∨ j = 5 ∨ j = 6 ∨ j = 7 ∨ j = 8 ∨ j = 4))) → tm_g w92 p j = tm_g w p j := fun p j h => (hfw92 p j (by omega)).trans (hFw86 p j h)
                    refine ev_iinc (l' := [_, _, _, _, _, _]) dt_Ru_readSum_118 rfl rfl ?_
                    refine ev_goto (tgt := 10) dt_Ru_readSum_121 (by decide) ?_
                    exact tm_loc (tm_le_s (tm_le_s (tm_le_s (tm_le_s (tm_le_s (tm_le_s tm_le_0)))))) (ihL50 (i51) (v88) (1) ((i54 + 1)) w92 hWw92 hFw92 (by omega) (by omega) (by omega) (by omega) (by omega) (by omega) (by omega) (by omega) (by omega))
                · skip
                  exfalso
                  omega
              · skip
                refine ev_iload_n dt_Ru_readSum_77 rfl rfl ?_
                refine ev_if_eq (tgt := 86) dt_Ru_readSum_78 (by decide) (by omega) (fun h93 => ?_) (fun h93 => ?_)
                · skip
                  refine ev_aload_n dt_Ru_readSum_86 rfl rfl ?_
                  refine tm_getK (K := 6) dt_Ru_readSum_87 hWw86 tpt0 fl_Ru_53 rfl kv87 ?_
                  refine tm_sp dt_Ru_readSum_90 (tm_Ru_addingOf hWw86 (v87) (by omega) (by omega)) kb_Ru_84 sc_Ru_addingOf rfl (Nat.le_of_ble_eq_true rfl) (by decide) (fun v94 hv94 => ?_)
                  refine ev_istore_n (l' := [_, _, _, _, _, _]) dt_Ru_readSum_93 rfl (Nat.le_of_ble_eq_true rfl) rfl ?_
                  refine ev_iload_n dt_Ru_readSum_94 rfl rfl ?_
                  refine ev_if_ne (tgt := 102) dt_Ru_readSum_95 (by decide) (by omega) (fun h95 => ?_) (fun h95 => ?_)
                  · skip
                    exfalso
                    omega
                  · skip
                    refine ev_iload_n dt_Ru_readSum_98 rfl rfl ?_
                    refine ev_if_eq (tgt := 106) dt_Ru_readSum_99 (by decide) (by omega) (fun h96 => ?_) (fun h96 => ?_)
                    · skip
                      refine ev_iconst dt_Ru_readSum_106 ?_
                      refine ev_istore (l' := [_, _, _, _, _, _]) dt_Ru_readSum_107 (Nat.le_of_ble_eq_true rfl) rfl ?_
                      refine ev_iload dt_Ru_readSum_109 rfl ?_
                      refine ev_if_eq (tgt := 118) dt_Ru_readSum_111 (by decide) (by omega) (fun h97 => ?_) (fun h97 => ?_)
                      · skip
                        refine ev_iinc (l' := [_, _, _, _, _, _]) dt_Ru_readSum_118 rfl rfl ?_
                        refine ev_goto (tgt := 10) dt_Ru_readSum_121 (by decide) ?_
                        exact tm_loc (tm_le_s (tm_le_s (tm_le_s (tm_le_s (tm_le_s (tm_le_s tm_le_0)))))) (ihL50 (v94) (v88) (0) ((i54 + 1)) w86 hWw86 hFw86 (by omega) (by omega) (by omega) (by omega) (by omega) (by omega) (by omega) (by omega) (by omega))
                      · skip
                        exfalso
                        omega
                    · skip
                      refine ev_iconst dt_Ru_readSum_102 ?_
                      refine ev_goto (tgt := 107) dt_Ru_readSum_103 (by decide) ?_
                      refine ev_istore (l' := [_, _, _, _, _, _]) dt_Ru_readSum_107 (Nat.le_of_ble_eq_true rfl) rfl ?_
                      refine ev_iload dt_Ru_readSum_109 rfl ?_
                      refine ev_if_eq (tgt := 118) dt_Ru_readSum_111 (by decide) (by omega) (fun h98 => ?_) (fun h98 => ?_)
                      · skip
                        exfalso
                        omega
                      · skip
                        refine ev_aload_n dt_Ru_readSum_114 rfl rfl ?_
                        refine tm_vv dt_Ru_readSum_115 (tm_Ta_advance hWw86 h_tp) kb_Ru_37 ⟨im_Ta_advance, se_Ta_advance⟩ rfl hWw86 tpt0 rfl (Nat.le_of_ble_eq_true rfl) (by decide) (fun w99 hWw99 hRw99 => ?_)
                        have hfw99 := hRw99
                        have hFw99 : ∀ (p : Nat) (j : Int), ¬ (p = (rr + 1) ∨ (p = rr ∧ (j = 1 ∨ j = 2)) ∨ (p = tp ∧ (j = 2 ∨ j = 5 ∨ j = 6 ∨ j = 7 ∨ j = 8 ∨ j = 4))) → tm_g w99 p j = tm_g w p j := fun p j h => (hfw99 p j (by omega)).trans (hFw86 p j h)
                        refine ev_iinc (l' := [_, _, _, _, _, _]) dt_Ru_readSum_118 rfl rfl ?_
                        refine ev_goto (tgt := 10) dt_Ru_readSum_121 (by decide) ?_
                        exact tm_loc (tm_le_s (tm_le_s (tm_le_s (tm_le_s (tm_le_s (tm_le_s tm_le_0)))))) (ihL50 (v94) (v88) (1) ((i54 + 1)) w99 hWw99 hFw99 (by omega) (by omega) (by omega) (by omega) (by omega) (by omega) (by omega) (by omega) (by omega))
                · skip
                  refine ev_aload_n dt_Ru_readSum_81 rfl rfl ?_
                  refine ev_iload_n dt_Ru_readSum_82 rfl rfl ?_
                  refine tm_vv dt_Ru_readSum_83 (tm_Ru_emit hWw86 h_rr (i51) (by omega) (by omega)) kb_Ru_50 ⟨im_Ru_emit, se_Ru_emit⟩ rfl hWw86 rrt0 rfl (Nat.le_of_ble_eq_true rfl) (by decide) (fun w100 hWw100 hRw100 => ?_)
                  have hfw100 := hRw100
                  have hFw100 : ∀ (p : Nat) (j : Int), ¬ (p = (rr + 1) ∨ (p = rr ∧ (j = 1 ∨ j = 2)) ∨ (p = tp ∧ (j = 2 ∨ j = 5 ∨ j = 6 ∨ j = 7 ∨ j = 8 ∨ j = 4))) → tm_g w100 p j = tm_g w p j := fun p j h => (hfw100 p j (by omega)).trans (hFw86 p j h)
                  have z101 := (hfw100 tp 6 (by omega)).trans kv87
                  refine ev_aload_n dt_Ru_readSum_86 rfl rfl ?_
                  refine tm_getK (K := 6) dt_Ru_readSum_87 hWw100 tpt0 fl_Ru_53 rfl z101 ?_
                  refine tm_sp dt_Ru_readSum_90 (tm_Ru_addingOf hWw100 (v87) (by omega) (by omega)) kb_Ru_84 sc_Ru_addingOf rfl (Nat.le_of_ble_eq_true rfl) (by decide) (fun v102 hv102 => ?_)
                  refine ev_istore_n (l' := [_, _, _, _, _, _]) dt_Ru_readSum_93 rfl (Nat.le_of_ble_eq_true rfl) rfl ?_
                  refine ev_iload_n dt_Ru_readSum_94 rfl rfl ?_
                  refine ev_if_ne (tgt := 102) dt_Ru_readSum_95 (by decide) (by omega) (fun h103 => ?_) (fun h103 => ?_)
                  · skip
                    exfalso
                    omega
                  · skip
                    refine ev_iload_n dt_Ru_readSum_98 rfl rfl ?_
                    refine ev_if_eq (tgt := 106) dt_Ru_readSum_99 (by decide) (by omega) (fun h104 => ?_) (fun h104 => ?_)
                    · skip
                      refine ev_iconst dt_Ru_readSum_106 ?_
                      refine ev_istore (l' := [_, _, _, _, _, _]) dt_Ru_readSum_107 (Nat.le_of_ble_eq_true rfl) rfl ?_
                      refine ev_iload dt_Ru_readSum_109 rfl ?_
                      refine ev_if_eq (tgt := 118) dt_Ru_readSum_111 (by decide) (by omega) (fun h105 => ?_) (fun h105 => ?_)
                      · skip
                        refine ev_iinc (l' := [_, _, _, _, _, _]) dt_Ru_readSum_118 rfl rfl ?_
                        refine ev_goto (tgt := 10) dt_Ru_readSum_121 (by decide) ?_
                        exact tm_loc (tm_le_s (tm_le_s (tm_le_s (tm_le_s (tm_le_s (tm_le_s tm_le_0)))))) (ihL50 (v102) (v88) (0) ((i54 + 1)) w100 hWw100 hFw100 (by omega) (by omega) (by omega) (by omega) (by omega) (by omega) (by omega) (by omega) (by omega))
                      · skip
                        exfalso
                        omega
                    · skip
                      refine ev_iconst dt_Ru_readSum_102 ?_
                      refine ev_goto (tgt := 107) dt_Ru_readSum_103 (by decide) ?_
                      refine ev_istore (l' := [_, _, _, _, _, _]) dt_Ru_readSum_107 (Nat.le_of_ble_eq_true rfl) rfl ?_
                      refine ev_iload dt_Ru_readSum_109 rfl ?_
                      refine ev_if_eq (tgt := 118) dt_Ru_readSum_111 (by decide) (by omega) (fun h106 => ?_) (fun h106 => ?_)
                      · skip
                        exfalso
                        omega
                      · skip
                        refine ev_aload_n dt_Ru_readSum_114 rfl rfl ?_
                        refine tm_vv dt_Ru_readSum_115 (tm_Ta_advance hWw100 h_tp) kb_Ru_37 ⟨im_Ta_advance, se_Ta_advance⟩ rfl hWw100 tpt0 rfl (Nat.le_of_ble_eq_true rfl) (by decide) (fun w107 hWw107 hRw107 => ?_)
                        have hfw107 := hRw107
                        have hFw107 : ∀ (p : Nat) (j : Int), ¬ (p = (rr + 1) ∨ (p = rr ∧ (j = 1 ∨ j = 2)) ∨ (p = tp ∧ (j = 2 ∨ j = 5 ∨ j = 6 ∨ j = 7 ∨ j = 8 ∨ j = 4))) → tm_g w107 p j = tm_g w p j := fun p j h => (hfw107 p j (by omega)).trans (hFw100 p j h)
                        refine ev_iinc (l' := [_, _, _, _, _, _]) dt_Ru_readSum_118 rfl rfl ?_
                        refine ev_goto (tgt := 10) dt_Ru_readSum_121 (by decide) ?_
                        exact tm_loc (tm_le_s (tm_le_s (tm_le_s (tm_le_s (tm_le_s (tm_le_s tm_le_0)))))) (ihL50 (v102) (v88) (1) ((i54 + 1)) w107 hWw107 hFw107 (by omega) (by omega) (by omega) (by omega) (by omega) (by omega) (by omega) (by omega) (by omega))
          · skip
            refine ev_aload_n dt_Ru_readSum_36 rfl rfl ?_
            refine tm_getI (K := 7) dt_Ru_readSum_37 hWw58 tpt0 fl_Ru_78 rfl rfl (fun v108 kv108 lv108 uv108 => ?_)
            refine ev_goto (tgt := 49) dt_Ru_readSum_40 (by decide) ?_
            refine tm_vv dt_Ru_readSum_49 (tm_Ru_emit hWw58 h_rr (v108) (by omega) (by omega)) kb_Ru_50 ⟨im_Ru_emit, se_Ru_emit⟩ rfl hWw58 rrt0 rfl (Nat.le_of_ble_eq_true rfl) (by decide) (fun w109 hWw109 hRw109 => ?_)
            have hfw109 := hRw109
            have hFw109 : ∀ (p : Nat) (j : Int), ¬ (p = (rr + 1) ∨ (p = rr ∧ (j = 1 ∨ j = 2)) ∨ (p = tp ∧ (j = 2 ∨ j = 5 ∨ j = 6 ∨ j = 7 ∨ j = 8 ∨ j = 4))) → tm_g w109 p j = tm_g w p j := fun p j h => (hfw109 p j (by omega)).trans (hFw58 p j h)
            have z110 := (hfw109 tp 8 (by omega)).trans kv59
            have z111 := (hfw109 tp 7 (by omega)).trans kv108
            refine ev_aload_n dt_Ru_readSum_52 rfl rfl ?_
            refine tm_vv dt_Ru_readSum_53 (tm_Ta_advance hWw109 h_tp) kb_Ru_37 ⟨im_Ta_advance, se_Ta_advance⟩ rfl hWw109 tpt0 rfl (Nat.le_of_ble_eq_true rfl) (by decide) (fun w112 hWw112 hRw112 => ?_)
            have hfw112 := hRw112
            have hFw112 : ∀ (p : Nat) (j : Int), ¬ (p = (rr + 1) ∨ (p = rr ∧ (j = 1 ∨ j = 2)) ∨ (p = tp ∧ (j = 2 ∨ j = 5 ∨ j = 6 ∨ j = 7 ∨ j = 8 ∨ j = 4))) → tm_g w112 p j = tm_g w p j := fun p j h => (hfw112 p j (by omega)).trans (hFw109 p j h)
            refine ev_iload_n dt_Ru_readSum_56 rfl rfl ?_
            refine ev_if_eq (tgt := 65) dt_Ru_readSum_57 (by decide) (by omega) (fun h113 => ?_) (fun h113 => ?_)
            · skip
              refine ev_aload_n dt_Ru_readSum_65 rfl rfl ?_
              refine tm_getI (K := 6) dt_Ru_readSum_66 hWw112 tpt0 fl_Ru_53 rfl rfl (fun v114 kv114 lv114 uv114 => ?_)
              refine tm_sp dt_Ru_readSum_69 (tm_Ru_timingOf hWw112 (v114) (by omega) (by omega)) kb_Ru_81 sc_Ru_timingOf rfl (Nat.le_of_ble_eq_true rfl) (by decide) (fun v115 hv115 => ?_)
              refine ev_istore_n (l' := [_, _, _, _, _, _]) dt_Ru_readSum_72 rfl (Nat.le_of_ble_eq_true rfl) rfl ?_
              refine ev_iload_n dt_Ru_readSum_73 rfl rfl ?_
              refine ev_if_ne (tgt := 94) dt_Ru_readSum_74 (by decide) (by omega) (fun h116 => ?_) (fun h116 => ?_)
              · skip
                refine ev_iload_n dt_Ru_readSum_94 rfl rfl ?_
                refine ev_if_ne (tgt := 102) dt_Ru_readSum_95 (by decide) (by omega) (fun h117 => ?_) (fun h117 => ?_)
                · skip
                  refine ev_iconst dt_Ru_readSum_102 ?_
                  refine ev_goto (tgt := 107) dt_Ru_readSum_103 (by decide) ?_
                  refine ev_istore (l' := [_, _, _, _, _, _]) dt_Ru_readSum_107 (Nat.le_of_ble_eq_true rfl) rfl ?_
                  refine ev_iload dt_Ru_readSum_109 rfl ?_
                  refine ev_if_eq (tgt := 118) dt_Ru_readSum_111 (by decide) (by omega) (fun h118 => ?_) (fun h118 => ?_)
                  · skip
                    exfalso
                    omega
                  · skip
                    refine ev_aload_n dt_Ru_readSum_114 rfl rfl ?_
                    refine tm_vv dt_Ru_readSum_115 (tm_Ta_advance hWw112 h_tp) kb_Ru_37 ⟨im_Ta_advance, se_Ta_advance⟩ rfl hWw112 tpt0 rfl (Nat.le_of_ble_eq_true rfl) (by decide) (fun w119 hWw119 hRw119 => ?_)
                    have hfw119 := hRw119
                    have hFw119 : ∀ (p : Nat) (j : Int), ¬ (p = (rr + 1) ∨ (p = rr ∧ (j = 1 ∨ j = 2)) ∨ (p = tp ∧ (j = 2 ∨ j = 5 ∨ j = 6 ∨ j = 7 ∨ j = 8 ∨ j = 4))) → tm_g w119 p j = tm_g w p j := fun p j h => (hfw119 p j (by omega)).trans (hFw112 p j h)
                    refine ev_iinc (l' := [_, _, _, _, _, _]) dt_Ru_readSum_118 rfl rfl ?_
                    refine ev_goto (tgt := 10) dt_Ru_readSum_121 (by decide) ?_
                    exact tm_loc (tm_le_s (tm_le_s (tm_le_s (tm_le_s (tm_le_s (tm_le_s tm_le_0)))))) (ihL50 (i51) (v115) (1) ((i54 + 1)) w119 hWw119 hFw119 (by omega) (by omega) (by omega) (by omega) (by omega) (by omega) (by omega) (by omega) (by omega))
                · skip
                  exfalso
                  omega
              · skip
                refine ev_iload_n dt_Ru_readSum_77 rfl rfl ?_
                refine ev_if_eq (tgt := 86) dt_Ru_readSum_78 (by decide) (by omega) (fun h120 => ?_) (fun h120 => ?_)
                · skip
                  refine ev_aload_n dt_Ru_readSum_86 rfl rfl ?_
                  refine tm_getK (K := 6) dt_Ru_readSum_87 hWw112 tpt0 fl_Ru_53 rfl kv114 ?_
                  refine tm_sp dt_Ru_readSum_90 (tm_Ru_addingOf hWw112 (v114) (by omega) (by omega)) kb_Ru_84 sc_Ru_addingOf rfl (Nat.le_of_ble_eq_true rfl) (by decide) (fun v121 hv121 => ?_)
                  refine ev_istore_n (l' := [_, _, _, _, _, _]) dt_Ru_readSum_93 rfl (Nat.le_of_ble_eq_true rfl) rfl ?_
                  refine ev_iload_n dt_Ru_readSum_94 rfl rfl ?_
                  refine ev_if_ne (tgt := 102) dt_Ru_readSum_95 (by decide) (by omega) (fun h122 => ?_) (fun h122 => ?_)
                  · skip
                    exfalso
                    omega
                  · skip
                    refine ev_iload_n dt_Ru_readSum_98 rfl rfl ?_
                    refine ev_if_eq (tgt := 106) dt_Ru_readSum_99 (by decide) (by omega) (fun h123 => ?_) (fun h123 => ?_)
                    · skip
                      refine ev_iconst dt_Ru_readSum_106 ?_
                      refine ev_istore (l' := [_, _, _, _, _, _]) dt_Ru_readSum_107 (Nat.le_of_ble_eq_true rfl) rfl ?_
                      refine ev_iload dt_Ru_readSum_109 rfl ?_
                      refine ev_if_eq (tgt := 118) dt_Ru_readSum_111 (by decide) (by omega) (fun h124 => ?_) (fun h124 => ?_)
                      · skip
                        refine ev_iinc (l' := [_, _, _, _, _, _]) dt_Ru_readSum_118 rfl rfl ?_
                        refine ev_goto (tgt := 10) dt_Ru_readSum_121 (by decide) ?_
                        exact tm_loc (tm_le_s (tm_le_s (tm_le_s (tm_le_s (tm_le_s (tm_le_s tm_le_0)))))) (ihL50 (v121) (v115) (0) ((i54 + 1)) w112 hWw112 hFw112 (by omega) (by omega) (by omega) (by omega) (by omega) (by omega) (by omega) (by omega) (by omega))
                      · skip
                        exfalso
                        omega
                    · skip
                      refine ev_iconst dt_Ru_readSum_102 ?_
                      refine ev_goto (tgt := 107) dt_Ru_readSum_103 (by decide) ?_
                      refine ev_istore (l' := [_, _, _, _, _, _]) dt_Ru_readSum_107 (Nat.le_of_ble_eq_true rfl) rfl ?_
                      refine ev_iload dt_Ru_readSum_109 rfl ?_
                      refine ev_if_eq (tgt := 118) dt_Ru_readSum_111 (by decide) (by omega) (fun h125 => ?_) (fun h125 => ?_)
                      · skip
                        exfalso
                        omega
                      · skip
                        refine ev_aload_n dt_Ru_readSum_114 rfl rfl ?_
                        refine tm_vv dt_Ru_readSum_115 (tm_Ta_advance hWw112 h_tp) kb_Ru_37 ⟨im_Ta_advance, se_Ta_advance⟩ rfl hWw112 tpt0 rfl (Nat.le_of_ble_eq_true rfl) (by decide) (fun w126 hWw126 hRw126 => ?_)
                        have hfw126 := hRw126
                        have hFw126 : ∀ (p : Nat) (j : Int), ¬ (p = (rr + 1) ∨ (p = rr ∧ (j = 1 ∨ j = 2)) ∨ (p = tp ∧ (j = 2 ∨ j = 5 ∨ j = 6 ∨ j = 7 ∨ j = 8 ∨ j = 4))) → tm_g w126 p j = tm_g w p j := fun p j h => (hfw126 p j (by omega)).trans (hFw112 p j h)
                        refine ev_iinc (l' := [_, _, _, _, _, _]) dt_Ru_readSum_118 rfl rfl ?_
                        refine ev_goto (tgt := 10) dt_Ru_readSum_121 (by decide) ?_
                        exact tm_loc (tm_le_s (tm_le_s (tm_le_s (tm_le_s (tm_le_s (tm_le_s tm_le_0)))))) (ihL50 (v121) (v115) (1) ((i54 + 1)) w126 hWw126 hFw126 (by omega) (by omega) (by omega) (by omega) (by omega) (by omega) (by omega) (by omega) (by omega))
                · skip
                  refine ev_aload_n dt_Ru_readSum_81 rfl rfl ?_
                  refine ev_iload_n dt_Ru_readSum_82 rfl rfl ?_
                  refine tm_vv dt_Ru_readSum_83 (tm_Ru_emit hWw112 h_rr (i51) (by omega) (by omega)) kb_Ru_50 ⟨im_Ru_emit, se_Ru_emit⟩ rfl hWw112 rrt0 rfl (Nat.le_of_ble_eq_true rfl) (by decide) (fun w127 hWw127 hRw127 => ?_)
                  have hfw127 := hRw127
                  have hFw127 : ∀ (p : Nat) (j : Int), ¬ (p = (rr + 1) ∨ (p = rr ∧ (j = 1 ∨ j = 2)) ∨ (p = tp ∧ (j = 2 ∨ j = 5 ∨ j = 6 ∨ j = 7 ∨ j = 8 ∨ j = 4))) → tm_g w127 p j = tm_g w p j := fun p j h => (hfw127 p j (by omega)).trans (hFw112 p j h)
                  have z128 := (hfw127 tp 6 (by omega)).trans kv114
                  refine ev_aload_n dt_Ru_readSum_86 rfl rfl ?_
                  refine tm_getK (K := 6) dt_Ru_readSum_87 hWw127 tpt0 fl_Ru_53 rfl z128 ?_
                  refine tm_sp dt_Ru_readSum_90 (tm_Ru_addingOf hWw127 (v114) (by omega) (by omega)) kb_Ru_84 sc_Ru_addingOf rfl (Nat.le_of_ble_eq_true rfl) (by decide) (fun v129 hv129 => ?_)
                  refine ev_istore_n (l' := [_, _, _, _, _, _]) dt_Ru_readSum_93 rfl (Nat.le_of_ble_eq_true rfl) rfl ?_
                  refine ev_iload_n dt_Ru_readSum_94 rfl rfl ?_
                  refine ev_if_ne (tgt := 102) dt_Ru_readSum_95 (by decide) (by omega) (fun h130 => ?_) (fun h130 => ?_)
                  · skip
                    exfalso
                    omega
                  · skip
                    refine ev_iload_n dt_Ru_readSum_98 rfl rfl ?_
                    refine ev_if_eq (tgt := 106) dt_Ru_readSum_99 (by decide) (by omega) (fun h131 => ?_) (fun h131 => ?_)
                    · skip
                      refine ev_iconst dt_Ru_readSum_106 ?_
                      refine ev_istore (l' := [_, _, _, _, _, _]) dt_Ru_readSum_107 (Nat.le_of_ble_eq_true rfl) rfl ?_
                      refine ev_iload dt_Ru_readSum_109 rfl ?_
                      refine ev_if_eq (tgt := 118) dt_Ru_readSum_111 (by decide) (by omega) (fun h132 => ?_) (fun h132 => ?_)
                      · skip
                        refine ev_iinc (l' := [_, _, _, _, _, _]) dt_Ru_readSum_118 rfl rfl ?_
                        refine ev_goto (tgt := 10) dt_Ru_readSum_121 (by decide) ?_
                        exact tm_loc (tm_le_s (tm_le_s (tm_le_s (tm_le_s (tm_le_s (tm_le_s tm_le_0)))))) (ihL50 (v129) (v115) (0) ((i54 + 1)) w127 hWw127 hFw127 (by omega) (by omega) (by omega) (by omega) (by omega) (by omega) (by omega) (by omega) (by omega))
                      · skip
                        exfalso
                        omega
                    · skip
                      refine ev_iconst dt_Ru_readSum_102 ?_
                      refine ev_goto (tgt := 107) dt_Ru_readSum_103 (by decide) ?_
                      refine ev_istore (l' := [_, _, _, _, _, _]) dt_Ru_readSum_107 (Nat.le_of_ble_eq_true rfl) rfl ?_
                      refine ev_iload dt_Ru_readSum_109 rfl ?_
                      refine ev_if_eq (tgt := 118) dt_Ru_readSum_111 (by decide) (by omega) (fun h133 => ?_) (fun h133 => ?_)
                      · skip
                        exfalso
                        omega
                      · skip
                        refine ev_aload_n dt_Ru_readSum_114 rfl rfl ?_
                        refine tm_vv dt_Ru_readSum_115 (tm_Ta_advance hWw127 h_tp) kb_Ru_37 ⟨im_Ta_advance, se_Ta_advance⟩ rfl hWw127 tpt0 rfl (Nat.le_of_ble_eq_true rfl) (by decide) (fun w134 hWw134 hRw134 => ?_)
                        have hfw134 := hRw134
                        have hFw134 : ∀ (p : Nat) (j : Int), ¬ (p = (rr + 1) ∨ (p = rr ∧ (j = 1 ∨ j = 2)) ∨ (p = tp ∧ (j = 2 ∨ j = 5 ∨ j = 6 ∨ j = 7 ∨ j = 8 ∨ j = 4))) → tm_g w134 p j = tm_g w p j := fun p j h => (hfw134 p j (by omega)).trans (hFw127 p j h)
                        refine ev_iinc (l' := [_, _, _, _, _, _]) dt_Ru_readSum_118 rfl rfl ?_
                        refine ev_goto (tgt := 10) dt_Ru_readSum_121 (by decide) ?_
                        exact tm_loc (tm_le_s (tm_le_s (tm_le_s (tm_le_s (tm_le_s (tm_le_s tm_le_0)))))) (ihL50 (v129) (v115) (1) ((i54 + 1)) w134 hWw134 hFw134 (by omega) (by omega) (by omega) (by omega) (by omega) (by omega) (by omega) (by omega) (by omega))
            · skip
              refine ev_aload_n dt_Ru_readSum_60 rfl rfl ?_
              refine ev_iload_n dt_Ru_readSum_61 rfl rfl ?_
              refine tm_vv dt_Ru_readSum_62 (tm_Ru_emit hWw112 h_rr (i52) (by omega) (by omega)) kb_Ru_50 ⟨im_Ru_emit, se_Ru_emit⟩ rfl hWw112 rrt0 rfl (Nat.le_of_ble_eq_true rfl) (by decide) (fun w135 hWw135 hRw135 => ?_)
              have hfw135 := hRw135
              have hFw135 : ∀ (p : Nat) (j : Int), ¬ (p = (rr + 1) ∨ (p = rr ∧ (j = 1 ∨ j = 2)) ∨ (p = tp ∧ (j = 2 ∨ j = 5 ∨ j = 6 ∨ j = 7 ∨ j = 8 ∨ j = 4))) → tm_g w135 p j = tm_g w p j := fun p j h => (hfw135 p j (by omega)).trans (hFw112 p j h)
              refine ev_aload_n dt_Ru_readSum_65 rfl rfl ?_
              refine tm_getI (K := 6) dt_Ru_readSum_66 hWw135 tpt0 fl_Ru_53 rfl rfl (fun v136 kv136 lv136 uv136 => ?_)
              refine tm_sp dt_Ru_readSum_69 (tm_Ru_timingOf hWw135 (v136) (by omega) (by omega)) kb_Ru_81 sc_Ru_timingOf rfl (Nat.le_of_ble_eq_true rfl) (by decide) (fun v137 hv137 => ?_)
              refine ev_istore_n (l' := [_, _, _, _, _, _]) dt_Ru_readSum_72 rfl (Nat.le_of_ble_eq_true rfl) rfl ?_
              refine ev_iload_n dt_Ru_readSum_73 rfl rfl ?_
              refine ev_if_ne (tgt := 94) dt_Ru_readSum_74 (by decide) (by omega) (fun h138 => ?_) (fun h138 => ?_)
              · skip
                refine ev_iload_n dt_Ru_readSum_94 rfl rfl ?_
                refine ev_if_ne (tgt := 102) dt_Ru_readSum_95 (by decide) (by omega) (fun h139 => ?_) (fun h139 => ?_)
                · skip
                  refine ev_iconst dt_Ru_readSum_102 ?_
                  refine ev_goto (tgt := 107) dt_Ru_readSum_103 (by decide) ?_
                  refine ev_istore (l' := [_, _, _, _, _, _]) dt_Ru_readSum_107 (Nat.le_of_ble_eq_true rfl) rfl ?_
                  refine ev_iload dt_Ru_readSum_109 rfl ?_
                  refine ev_if_eq (tgt := 118) dt_Ru_readSum_111 (by decide) (by omega) (fun h140 => ?_) (fun h140 => ?_)
                  · skip
                    exfalso
                    omega
                  · skip
                    refine ev_aload_n dt_Ru_readSum_114 rfl rfl ?_
                    refine tm_vv dt_Ru_readSum_115 (tm_Ta_advance hWw135 h_tp) kb_Ru_37 ⟨im_Ta_advance, se_Ta_advance⟩ rfl hWw135 tpt0 rfl (Nat.le_of_ble_eq_true rfl) (by decide) (fun w141 hWw141 hRw141 => ?_)
                    have hfw141 := hRw141
                    have hFw141 : ∀ (p : Nat) (j : Int), ¬ (p = (rr + 1) ∨ (p = rr ∧ (j = 1 ∨ j = 2)) ∨ (p = tp ∧ (j = 2 ∨ j = 5 ∨ j = 6 ∨ j = 7 ∨ j = 8 ∨ j = 4))) → tm_g w141 p j = tm_g w p j := fun p j h => (hfw141 p j (by omega)).trans (hFw135 p j h)
                    refine ev_iinc (l' := [_, _, _, _, _, _]) dt_Ru_readSum_118 rfl rfl ?_
                    refine ev_goto (tgt := 10) dt_Ru_readSum_121 (by decide) ?_
                    exact tm_loc (tm_le_s (tm_le_s (tm_le_s (tm_le_s (tm_le_s (tm_le_s tm_le_0)))))) (ihL50 (i51) (v137) (1) ((i54 + 1)) w141 hWw141 hFw141 (by omega) (by omega) (by omega) (by omega) (by omega) (by omega) (by omega) (by omega) (by omega))
                · skip
                  exfalso
                  omega
              · skip
                refine ev_iload_n dt_Ru_readSum_77 rfl rfl ?_
                refine ev_if_eq (tgt := 86) dt_Ru_readSum_78 (by decide) (by omega) (fun h142 => ?_) (fun h142 => ?_)
                · skip
                  refine ev_aload_n dt_Ru_readSum_86 rfl rfl ?_
                  refine tm_getK (K := 6) dt_Ru_readSum_87 hWw135 tpt0 fl_Ru_53 rfl kv136 ?_
                  refine tm_sp dt_Ru_readSum_90 (tm_Ru_addingOf hWw135 (v136) (by omega) (by omega)) kb_Ru_84 sc_Ru_addingOf rfl (Nat.le_of_ble_eq_true rfl) (by decide) (fun v143 hv143 => ?_)
                  refine ev_istore_n (l' := [_, _, _, _, _, _]) dt_Ru_readSum_93 rfl (Nat.le_of_ble_eq_true rfl) rfl ?_
                  refine ev_iload_n dt_Ru_readSum_94 rfl rfl ?_
                  refine ev_if_ne (tgt := 102) dt_Ru_readSum_95 (by decide) (by omega) (fun h144 => ?_) (fun h144 => ?_)
                  · skip
                    exfalso
                    omega
                  · skip
                    refine ev_iload_n dt_Ru_readSum_98 rfl rfl ?_
                    refine ev_if_eq (tgt := 106) dt_Ru_readSum_99 (by decide) (by omega) (fun h145 => ?_) (fun h145 => ?_)
                    · skip
                      refine ev_iconst dt_Ru_readSum_106 ?_
                      refine ev_istore (l' := [_, _, _, _, _, _]) dt_Ru_readSum_107 (Nat.le_of_ble_eq_true rfl) rfl ?_
                      refine ev_iload dt_Ru_readSum_109 rfl ?_
                      refine ev_if_eq (tgt := 118) dt_Ru_readSum_111 (by decide) (by omega) (fun h146 => ?_) (fun h146 => ?_)
                      · skip
                        refine ev_iinc (l' := [_, _, _, _, _, _]) dt_Ru_readSum_118 rfl rfl ?_
                        refine ev_goto (tgt := 10) dt_Ru_readSum_121 (by decide) ?_
                        exact tm_loc (tm_le_s (tm_le_s (tm_le_s (tm_le_s (tm_le_s (tm_le_s tm_le_0)))))) (ihL50 (v143) (v137) (0) ((i54 + 1)) w135 hWw135 hFw135 (by omega) (by omega) (by omega) (by omega) (by omega) (by omega) (by omega) (by omega) (by omega))
                      · skip
                        exfalso
                        omega
                    · skip
                      refine ev_iconst dt_Ru_readSum_102 ?_
                      refine ev_goto (tgt := 107) dt_Ru_readSum_103 (by decide) ?_
                      refine ev_istore (l' := [_, _, _, _, _, _]) dt_Ru_readSum_107 (Nat.le_of_ble_eq_true rfl) rfl ?_
                      refine ev_iload dt_Ru_readSum_109 rfl ?_
                      refine ev_if_eq (tgt := 118) dt_Ru_readSum_111 (by decide) (by omega) (fun h147 => ?_) (fun h147 => ?_)
                      · skip
                        exfalso
                        omega
                      · skip
                        refine ev_aload_n dt_Ru_readSum_114 rfl rfl ?_
                        refine tm_vv dt_Ru_readSum_115 (tm_Ta_advance hWw135 h_tp) kb_Ru_37 ⟨im_Ta_advance, se_Ta_advance⟩ rfl hWw135 tpt0 rfl (Nat.le_of_ble_eq_true rfl) (by decide) (fun w148 hWw148 hRw148 => ?_)
                        have hfw148 := hRw148
                        have hFw148 : ∀ (p : Nat) (j : Int), ¬ (p = (rr + 1) ∨ (p = rr ∧ (j = 1 ∨ j = 2)) ∨ (p = tp ∧ (j = 2 ∨ j = 5 ∨ j = 6 ∨ j = 7 ∨ j = 8 ∨ j = 4))) → tm_g w148 p j = tm_g w p j := fun p j h => (hfw148 p j (by omega)).trans (hFw135 p j h)
                        refine ev_iinc (l' := [_, _, _, _, _, _]) dt_Ru_readSum_118 rfl rfl ?_
                        refine ev_goto (tgt := 10) dt_Ru_readSum_121 (by decide) ?_
                        exact tm_loc (tm_le_s (tm_le_s (tm_le_s (tm_le_s (tm_le_s (tm_le_s tm_le_0)))))) (ihL50 (v143) (v137) (1) ((i54 + 1)) w148 hWw148 hFw148 (by omega) (by omega) (by omega) (by omega) (by omega) (by omega) (by omega) (by omega) (by omega))
                · skip
                  refine ev_aload_n dt_Ru_readSum_81 rfl rfl ?_
                  refine ev_iload_n dt_Ru_readSum_82 rfl rfl ?_
                  refine tm_vv dt_Ru_readSum_83 (tm_Ru_emit hWw135 h_rr (i51) (by omega) (by omega)) kb_Ru_50 ⟨im_Ru_emit, se_Ru_emit⟩ rfl hWw135 rrt0 rfl (Nat.le_of_ble_eq_true rfl) (by decide) (fun w149 hWw149 hRw149 => ?_)
                  have hfw149 := hRw149
                  have hFw149 : ∀ (p : Nat) (j : Int), ¬ (p = (rr + 1) ∨ (p = rr ∧ (j = 1 ∨ j = 2)) ∨ (p = tp ∧ (j = 2 ∨ j = 5 ∨ j = 6 ∨ j = 7 ∨ j = 8 ∨ j = 4))) → tm_g w149 p j = tm_g w p j := fun p j h => (hfw149 p j (by omega)).trans (hFw135 p j h)
                  have z150 := (hfw149 tp 6 (by omega)).trans kv136
                  refine ev_aload_n dt_Ru_readSum_86 rfl rfl ?_
                  refine tm_getK (K := 6) dt_Ru_readSum_87 hWw149 tpt0 fl_Ru_53 rfl z150 ?_
                  refine tm_sp dt_Ru_readSum_90 (tm_Ru_addingOf hWw149 (v136) (by omega) (by omega)) kb_Ru_84 sc_Ru_addingOf rfl (Nat.le_of_ble_eq_true rfl) (by decide) (fun v151 hv151 => ?_)
                  refine ev_istore_n (l' := [_, _, _, _, _, _]) dt_Ru_readSum_93 rfl (Nat.le_of_ble_eq_true rfl) rfl ?_
                  refine ev_iload_n dt_Ru_readSum_94 rfl rfl ?_
                  refine ev_if_ne (tgt := 102) dt_Ru_readSum_95 (by decide) (by omega) (fun h152 => ?_) (fun h152 => ?_)
                  · skip
                    exfalso
                    omega
                  · skip
                    refine ev_iload_n dt_Ru_readSum_98 rfl rfl ?_
                    refine ev_if_eq (tgt := 106) dt_Ru_readSum_99 (by decide) (by omega) (fun h153 => ?_) (fun h153 => ?_)
                    · skip
                      refine ev_iconst dt_Ru_readSum_106 ?_
                      refine ev_istore (l' := [_, _, _, _, _, _]) dt_Ru_readSum_107 (Nat.le_of_ble_eq_true rfl) rfl ?_
                      refine ev_iload dt_Ru_readSum_109 rfl ?_
                      refine ev_if_eq (tgt := 118) dt_Ru_readSum_111 (by decide) (by omega) (fun h154 => ?_) (fun h154 => ?_)
                      · skip
                        refine ev_iinc (l' := [_, _, _, _, _, _]) dt_Ru_readSum_118 rfl rfl ?_
                        refine ev_goto (tgt := 10) dt_Ru_readSum_121 (by decide) ?_
                        exact tm_loc (tm_le_s (tm_le_s (tm_le_s (tm_le_s (tm_le_s (tm_le_s tm_le_0)))))) (ihL50 (v151) (v137) (0) ((i54 + 1)) w149 hWw149 hFw149 (by omega) (by omega) (by omega) (by omega) (by omega) (by omega) (by omega) (by omega) (by omega))
                      · skip
                        exfalso
                        omega
                    · skip
                      refine ev_iconst dt_Ru_readSum_102 ?_
                      refine ev_goto (tgt := 107) dt_Ru_readSum_103 (by decide) ?_
                      refine ev_istore (l' := [_, _, _, _, _, _]) dt_Ru_readSum_107 (Nat.le_of_ble_eq_true rfl) rfl ?_
                      refine ev_iload dt_Ru_readSum_109 rfl ?_
                      refine ev_if_eq (tgt := 118) dt_Ru_readSum_111 (by decide) (by omega) (fun h155 => ?_) (fun h155 => ?_)
                      · skip
                        exfalso
                        omega
                      · skip
                        refine ev_aload_n dt_Ru_readSum_114 rfl rfl ?_
                        refine tm_vv dt_Ru_readSum_115 (tm_Ta_advance hWw149 h_tp) kb_Ru_37 ⟨im_Ta_advance, se_Ta_advance⟩ rfl hWw149 tpt0 rfl (Nat.le_of_ble_eq_true rfl) (by decide) (fun w156 hWw156 hRw156 => ?_)
                        have hfw156 := hRw156
                        have hFw156 : ∀ (p : Nat) (j : Int), ¬ (p = (rr + 1) ∨ (p = rr ∧ (j = 1 ∨ j = 2)) ∨ (p = tp ∧ (j = 2 ∨ j = 5 ∨ j = 6 ∨ j = 7 ∨ j = 8 ∨ j = 4))) → tm_g w156 p j = tm_g w p j := fun p j h => (hfw156 p j (by omega)).trans (hFw149 p j h)
                        refine ev_iinc (l' := [_, _, _, _, _, _]) dt_Ru_readSum_118 rfl rfl ?_
                        refine ev_goto (tgt := 10) dt_Ru_readSum_121 (by decide) ?_
                        exact tm_loc (tm_le_s (tm_le_s (tm_le_s (tm_le_s (tm_le_s (tm_le_s tm_le_0)))))) (ihL50 (v151) (v137) (1) ((i54 + 1)) w156 hWw156 hFw156 (by omega) (by omega) (by omega) (by omega) (by omega) (by omega) (by omega) (by omega) (by omega))
  exact tm_loc (tm_le_s (tm_le_s (tm_le_s (tm_le_s (tm_le_s (tm_le_s tm_le_0)))))) (L50 (61 - (0) + 1 : Int).toNat (0) (0) (1) (0)  w hW hF0 (by omega) (by omega) (by omega) (by omega) (by omega) (by omega) (by omega) (by omega) (by omega))
