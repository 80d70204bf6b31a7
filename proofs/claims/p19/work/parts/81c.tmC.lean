theorem dt_Ta_putBytes_0 : decode prog_11_method_2_code 0 = .ok (.bipush 24, 2) := by decide +kernel
theorem dt_Ta_putBytes_2 : decode prog_11_method_2_code 2 = .ok (.istore_n 2, 1) := by decide +kernel
theorem dt_Ta_putBytes_3 : decode prog_11_method_2_code 3 = .ok (.iload_n 2, 1) := by decide +kernel
theorem dt_Ta_putBytes_4 : decode prog_11_method_2_code 4 = .ok (.ifCond .lt 42, 3) := by decide +kernel
theorem dt_Ta_putBytes_7 : decode prog_11_method_2_code 7 = .ok (.aload_n 0, 1) := by decide +kernel
theorem dt_Ta_putBytes_8 : decode prog_11_method_2_code 8 = .ok (.getfield 21, 3) := by decide +kernel
theorem dt_Ta_putBytes_11 : decode prog_11_method_2_code 11 = .ok (.sipush 400, 3) := by decide +kernel
theorem dt_Ta_putBytes_14 : decode prog_11_method_2_code 14 = .ok (.if_icmp .ge 32, 3) := by decide +kernel
theorem dt_Ta_putBytes_17 : decode prog_11_method_2_code 17 = .ok (.aload_n 0, 1) := by decide +kernel
theorem dt_Ta_putBytes_18 : decode prog_11_method_2_code 18 = .ok (.getfield 9, 3) := by decide +kernel
theorem dt_Ta_putBytes_21 : decode prog_11_method_2_code 21 = .ok (.aload_n 0, 1) := by decide +kernel
theorem dt_Ta_putBytes_22 : decode prog_11_method_2_code 22 = .ok (.getfield 21, 3) := by decide +kernel
theorem dt_Ta_putBytes_25 : decode prog_11_method_2_code 25 = .ok (.iload_n 1, 1) := by decide +kernel
theorem dt_Ta_putBytes_26 : decode prog_11_method_2_code 26 = .ok (.iload_n 2, 1) := by decide +kernel
theorem dt_Ta_putBytes_27 : decode prog_11_method_2_code 27 = .ok (.iushr, 1) := by decide +kernel
theorem dt_Ta_putBytes_28 : decode prog_11_method_2_code 28 = .ok (.i2b, 1) := by decide +kernel
theorem dt_Ta_putBytes_29 : decode prog_11_method_2_code 29 = .ok (.bastore, 1) := by decide +kernel
theorem dt_Ta_putBytes_30 : decode prog_11_method_2_code 30 = .ok (.aload_n 0, 1) := by decide +kernel
theorem dt_Ta_putBytes_31 : decode prog_11_method_2_code 31 = .ok (.dup, 1) := by decide +kernel
theorem dt_Ta_putBytes_32 : decode prog_11_method_2_code 32 = .ok (.getfield 21, 3) := by decide +kernel
theorem dt_Ta_putBytes_35 : decode prog_11_method_2_code 35 = .ok (.iconst 1, 1) := by decide +kernel
theorem dt_Ta_putBytes_36 : decode prog_11_method_2_code 36 = .ok (.iadd, 1) := by decide +kernel
theorem dt_Ta_putBytes_37 : decode prog_11_method_2_code 37 = .ok (.putfield 21, 3) := by decide +kernel
theorem dt_Ta_putBytes_40 : decode prog_11_method_2_code 40 = .ok (.iinc 2 (-8), 3) := by decide +kernel
theorem dt_Ta_putBytes_43 : decode prog_11_method_2_code 43 = .ok (.goto (-40), 3) := by decide +kernel
theorem dt_Ta_putBytes_46 : decode prog_11_method_2_code 46 = .ok (.return_, 1) := by decide +kernel
set_option maxHeartbeats 4000000 in
set_option maxRecDepth 10000 in
theorem tm_Ta_putBytes {N : Nat} {T : Nat → tm_S} {w : ab_W} {tp : Nat} (hW : tm_W N T w) (h_tp : is_Ta T tp) (a : Int) (l_a : (-2147483648) ≤ a) (u_a : a ≤ 2147483647) : ab_Mt g_G g_rs mt_Ta_putBytes 0 0 0 [ab_R tp, ab_I a] w (tm_Qv N T (fun w2 => (∀ (p : Nat) (j : Int), ¬ ((p = tp ∧ (j = 1)) ∨ p = (tp + 1)) → tm_g w2 p j = tm_g w p j))) := by
  obtain ⟨tpt0, tpt1⟩ := id h_tp
  have hF0 : ∀ (p : Nat) (j : Int), ¬ ((p = tp ∧ (j = 1)) ∨ p = (tp + 1)) → tm_g w p j = tm_g w p j := fun _ _ _ => rfl
  refine ab_Mt.of rfl (Nat.le_of_ble_eq_true rfl) ?_
  show ab_Ev g_G g_rs mt_Ta_putBytes _ _ _ 0 [some (ab_R tp), some (ab_I a), none] [] _ _
  refine ev_bipush dt_Ta_putBytes_0 rfl ?_
  refine ev_istore_n (l' := [_, _, _]) dt_Ta_putBytes_2 rfl (Nat.le_of_ble_eq_true rfl) rfl ?_
  have L1 : ∀ (n : Nat) (i2 : Int)  (w3 : ab_W), tm_W N T w3 → (∀ (p : Nat) (j : Int), ¬ ((p = tp ∧ (j = 1)) ∨ p = (tp + 1)) → tm_g w3 p j = tm_g w p j) → (-8) ≤ i2 → i2 ≤ 24 → i2 - (-8) < (n : Int) → ab_Ev g_G g_rs mt_Ta_putBytes 0 0 0 3 [some (ab_R tp), some (ab_I a), some (ab_I i2)] [] w3 (tm_Qv N T (fun w2 => (∀ (p : Nat) (j : Int), ¬ ((p = tp ∧ (j = 1)) ∨ p = (tp + 1)) → tm_g w2 p j = tm_g w p j))) := by
    intro n
    induction n with
    | zero =>
      intro i2  w3 hWw3 hFw3 li2 ui2 mL1
      exfalso
      omega
    | succ nL1 ihL1 =>
      intro i2  w3 hWw3 hFw3 li2 ui2 mL1
      refine ev_iload_n dt_Ta_putBytes_3 rfl rfl ?_
      refine ev_if_lt (tgt := 46) dt_Ta_putBytes_4 (by decide) (by omega) (fun h4 => ?_) (fun h4 => ?_)
      · skip
        exact ev_return dt_Ta_putBytes_46 rfl ⟨hWw3, rfl, hFw3⟩
      · skip
        refine ev_aload_n dt_Ta_putBytes_7 rfl rfl ?_
        refine tm_getI (K := 1) dt_Ta_putBytes_8 hWw3 tpt0 fl_Ta_21 rfl rfl (fun v5 kv5 lv5 uv5 => ?_)
        refine ev_sipush dt_Ta_putBytes_11 rfl ?_
        refine ev_icmp_ge (tgt := 46) dt_Ta_putBytes_14 (by decide) (by omega) (by omega) (fun h6 => ?_) (fun h6 => ?_)
        · skip
          exact ev_return dt_Ta_putBytes_46 rfl ⟨hWw3, rfl, hFw3⟩
        · skip
          refine ev_aload_n dt_Ta_putBytes_17 rfl rfl ?_
          refine tm_getR dt_Ta_putBytes_18 hWw3 tpt0 fl_Ta_9 rfl ?_
          refine ev_aload_n dt_Ta_putBytes_21 rfl rfl ?_
          refine tm_getK (K := 1) dt_Ta_putBytes_22 hWw3 tpt0 fl_Ta_21 rfl kv5 ?_
          refine ev_iload_n dt_Ta_putBytes_25 rfl rfl ?_
          refine ev_iload_n dt_Ta_putBytes_26 rfl rfl ?_
          refine ev_iushr dt_Ta_putBytes_27 (by omega) (by omega) (by omega) ?_
          refine tm_any (fun v7 hv7 _ => ?_)
          refine ev_i2b dt_Ta_putBytes_28 ?_
          refine tm_any (fun v8 hv8 _ => ?_)
          refine tm_bastore dt_Ta_putBytes_29 hWw3 tpt1 (by omega) (by omega) (by omega) (fun w9 hWw9 hfw9 => ?_)
          have hFw9 : ∀ (p : Nat) (j : Int), ¬ ((p = tp ∧ (j = 1)) ∨ p = (tp + 1)) → tm_g w9 p j = tm_g w p j := fun p j h => (hfw9 p j (by omega)).trans (hFw3 p j h)
          have z10 := (hfw9 tp 1 (by omega)).trans kv5
          refine ev_aload_n dt_Ta_putBytes_30 rfl rfl ?_
          refine ev_dup dt_Ta_putBytes_31 rfl ?_
          refine tm_getK (K := 1) dt_Ta_putBytes_32 hWw9 tpt0 fl_Ta_21 rfl z10 ?_
          refine ev_iconst dt_Ta_putBytes_35 ?_
          refine ev_iadd dt_Ta_putBytes_36 ?_
          refine tm_putI (K := 1) dt_Ta_putBytes_37 hWw9 tpt0 (fp_Ta_21 _) rfl rfl trivial (by omega) (by omega) (fun w11 hWw11 kkw11 hfw11 => ?_)
          have hFw11 : ∀ (p : Nat) (j : Int), ¬ ((p = tp ∧ (j = 1)) ∨ p = (tp + 1)) → tm_g w11 p j = tm_g w p j := fun p j h => (hfw11 p j (by omega)).trans (hFw9 p j h)
          refine ev_iinc (l' := [_, _, _]) dt_Ta_putBytes_40 rfl rfl ?_
          refine ev_goto (tgt := 3) dt_Ta_putBytes_43 (by decide) ?_
          exact tm_loc (tm_le_s (tm_le_s (tm_le_s tm_le_0))) (ihL1 ((i2 + (-8))) w11 hWw11 hFw11 (by omega) (by omega) (by omega))
  exact tm_loc (tm_le_s (tm_le_s (tm_le_s tm_le_0))) (L1 ((24) - (-8) + 1 : Int).toNat (24)  w hW hF0 (by omega) (by omega) (by omega))
theorem dt_Ta_fail_0 : decode prog_11_method_4_code 0 = .ok (.aload_n 0, 1) := by decide +kernel
theorem dt_Ta_fail_1 : decode prog_11_method_4_code 1 = .ok (.getfield 28, 3) := by decide +kernel
theorem dt_Ta_fail_4 : decode prog_11_method_4_code 4 = .ok (.ifCond .ne 18, 3) := by decide +kernel
theorem dt_Ta_fail_7 : decode prog_11_method_4_code 7 = .ok (.aload_n 0, 1) := by decide +kernel
theorem dt_Ta_fail_8 : decode prog_11_method_4_code 8 = .ok (.iconst 1, 1) := by decide +kernel
theorem dt_Ta_fail_9 : decode prog_11_method_4_code 9 = .ok (.bipush 8, 2) := by decide +kernel
theorem dt_Ta_fail_11 : decode prog_11_method_4_code 11 = .ok (.aload_n 0, 1) := by decide +kernel
theorem dt_Ta_fail_12 : decode prog_11_method_4_code 12 = .ok (.getfield 34, 3) := by decide +kernel
theorem dt_Ta_fail_15 : decode prog_11_method_4_code 15 = .ok (.imul, 1) := by decide +kernel
theorem dt_Ta_fail_16 : decode prog_11_method_4_code 16 = .ok (.iadd, 1) := by decide +kernel
theorem dt_Ta_fail_17 : decode prog_11_method_4_code 17 = .ok (.iload_n 1, 1) := by decide +kernel
theorem dt_Ta_fail_18 : decode prog_11_method_4_code 18 = .ok (.iadd, 1) := by decide +kernel
theorem dt_Ta_fail_19 : decode prog_11_method_4_code 19 = .ok (.putfield 28, 3) := by decide +kernel
theorem dt_Ta_fail_22 : decode prog_11_method_4_code 22 = .ok (.aload_n 0, 1) := by decide +kernel
theorem dt_Ta_fail_23 : decode prog_11_method_4_code 23 = .ok (.aload_n 0, 1) := by decide +kernel
theorem dt_Ta_fail_24 : decode prog_11_method_4_code 24 = .ok (.getfield 21, 3) := by decide +kernel
theorem dt_Ta_fail_27 : decode prog_11_method_4_code 27 = .ok (.putfield 25, 3) := by decide +kernel
theorem dt_Ta_fail_30 : decode prog_11_method_4_code 30 = .ok (.aload_n 0, 1) := by decide +kernel
theorem dt_Ta_fail_31 : decode prog_11_method_4_code 31 = .ok (.iconst (-1), 1) := by decide +kernel
theorem dt_Ta_fail_32 : decode prog_11_method_4_code 32 = .ok (.putfield 37, 3) := by decide +kernel
theorem dt_Ta_fail_35 : decode prog_11_method_4_code 35 = .ok (.aload_n 0, 1) := by decide +kernel
theorem dt_Ta_fail_36 : decode prog_11_method_4_code 36 = .ok (.iconst (-1), 1) := by decide +kernel
theorem dt_Ta_fail_37 : decode prog_11_method_4_code 37 = .ok (.putfield 40, 3) := by decide +kernel
theorem dt_Ta_fail_40 : decode prog_11_method_4_code 40 = .ok (.aload_n 0, 1) := by decide +kernel
theorem dt_Ta_fail_41 : decode prog_11_method_4_code 41 = .ok (.iconst (-1), 1) := by decide +kernel
theorem dt_Ta_fail_42 : decode prog_11_method_4_code 42 = .ok (.putfield 43, 3) := by decide +kernel
theorem dt_Ta_fail_45 : decode prog_11_method_4_code 45 = .ok (.return_, 1) := by decide +kernel
set_option maxHeartbeats 4000000 in
set_option maxRecDepth 10000 in
theorem tm_Ta_fail {N : Nat} {T : Nat → tm_S} {w : ab_W} {tp : Nat} (hW : tm_W N T w) (h_tp : is_Ta T tp) (a : Int) (l_a : 0 ≤ a) (u_a : a ≤ 4) : ab_Mt g_G g_rs mt_Ta_fail 0 0 0 [ab_R tp, ab_I a] w (tm_Qv N T (fun w2 => (∀ (p : Nat) (j : Int), ¬ ((p = tp ∧ (j = 2 ∨ j = 4 ∨ j = 6 ∨ j = 7 ∨ j = 8))) → tm_g w2 p j = tm_g w p j) ∧ ∃ f1 : Int, tm_g w2 tp 4 = some (ab_I f1) ∧ (¬ f1 = 0))) := by
  obtain ⟨tpt0, tpt1⟩ := id h_tp
  have hF0 : ∀ (p : Nat) (j : Int), ¬ ((p = tp ∧ (j = 2 ∨ j = 4 ∨ j = 6 ∨ j = 7 ∨ j = 8))) → tm_g w p j = tm_g w p j := fun _ _ _ => rfl
  refine ab_Mt.of rfl (Nat.le_of_ble_eq_true rfl) ?_
  show ab_Ev g_G g_rs mt_Ta_fail _ _ _ 0 [some (ab_R tp), some (ab_I a)] [] _ _
  refine ev_aload_n dt_Ta_fail_0 rfl rfl ?_
  refine tm_getI (K := 4) dt_Ta_fail_1 hW tpt0 fl_Ta_28 rfl rfl (fun v12 kv12 lv12 uv12 => ?_)
  refine ev_if_ne (tgt := 22) dt_Ta_fail_4 (by decide) (by omega) (fun h13 => ?_) (fun h13 => ?_)
  · skip
    refine ev_aload_n dt_Ta_fail_22 rfl rfl ?_
    refine ev_aload_n dt_Ta_fail_23 rfl rfl ?_
    refine tm_getI (K := 1) dt_Ta_fail_24 hW tpt0 fl_Ta_21 rfl rfl (fun v14 kv14 lv14 uv14 => ?_)
    refine tm_putI (K := 2) dt_Ta_fail_27 hW tpt0 (fp_Ta_25 _) rfl rfl trivial (by omega) (by omega) (fun w15 hWw15 kkw15 hfw15 => ?_)
    have hFw15 : ∀ (p : Nat) (j : Int), ¬ ((p = tp ∧ (j = 2 ∨ j = 4 ∨ j = 6 ∨ j = 7 ∨ j = 8))) → tm_g w15 p j = tm_g w p j := fun p j h => (hfw15 p j (by omega)).trans (hF0 p j h)
    have z16 := (hfw15 tp 4 (by omega)).trans kv12
    refine ev_aload_n dt_Ta_fail_30 rfl rfl ?_
    refine ev_iconst dt_Ta_fail_31 ?_
    refine tm_putI (K := 6) dt_Ta_fail_32 hWw15 tpt0 (fp_Ta_37 _) rfl rfl trivial (by omega) (by omega) (fun w17 hWw17 kkw17 hfw17 => ?_)
    have hFw17 : ∀ (p : Nat) (j : Int), ¬ ((p = tp ∧ (j = 2 ∨ j = 4 ∨ j = 6 ∨ j = 7 ∨ j = 8))) → tm_g w17 p j = tm_g w p j := fun p j h => (hfw17 p j (by omega)).trans (hFw15 p j h)
    have z18 := (hfw17 tp 4 (by omega)).trans z16
    have z19 := (hfw17 tp 2 (by omega)).trans kkw15
    refine ev_aload_n dt_Ta_fail_35 rfl rfl ?_
    refine ev_iconst dt_Ta_fail_36 ?_
    refine tm_putI (K := 7) dt_Ta_fail_37 hWw17 tpt0 (fp_Ta_40 _) rfl rfl trivial (by omega) (by omega) (fun w20 hWw20 kkw20 hfw20 => ?_)
    have hFw20 : ∀ (p : Nat) (j : Int), ¬ ((p = tp ∧ (j = 2 ∨ j = 4 ∨ j = 6 ∨ j = 7 ∨ j = 8))) → tm_g w20 p j = tm_g w p j := fun p j h => (hfw20 p j (by omega)).trans (hFw17 p j h)
    have z21 := (hfw20 tp 4 (by omega)).trans z18
    have z22 := (hfw20 tp 2 (by omega)).trans z19
    have z23 := (hfw20 tp 6 (by omega)).trans kkw17
    refine ev_aload_n dt_Ta_fail_40 rfl rfl ?_
    refine ev_iconst dt_Ta_fail_41 ?_
    refine tm_putI (K := 8) dt_Ta_fail_42 hWw20 tpt0 (fp_Ta_43 _) rfl rfl trivial (by omega) (by omega) (fun w24 hWw24 kkw24 hfw24 => ?_)
    have hFw24 : ∀ (p : Nat) (j : Int), ¬ ((p = tp ∧ (j = 2 ∨ j = 4 ∨ j = 6 ∨ j = 7 ∨ j = 8))) → tm_g w24 p j = tm_g w p j := fun p j h => (hfw24 p j (by omega)).trans (hFw20 p j h)
    have z25 := (hfw24 tp 4 (by omega)).trans z21
    have z26 := (hfw24 tp 2 (by omega)).trans z22
    have z27 := (hfw24 tp 6 (by omega)).trans z23
    have z28 := (hfw24 tp 7 (by omega)).trans kkw20
    exact ev_return dt_Ta_fail_45 rfl ⟨hWw24, rfl, ⟨hFw24, v12, z25, by omega⟩⟩
  · skip
    refine ev_aload_n dt_Ta_fail_7 rfl rfl ?_
    refine ev_iconst dt_Ta_fail_8 ?_
    refine ev_bipush dt_Ta_fail_9 rfl ?_
    refine ev_aload_n dt_Ta_fail_11 rfl rfl ?_
    refine tm_getI (K := 5) dt_Ta_fail_12 hW tpt0 fl_Ta_34 rfl rfl (fun v29 kv29 lv29 uv29 => ?_)
    refine ev_imul dt_Ta_fail_15 ?_
    refine ev_iadd dt_Ta_fail_16 ?_
    refine ev_iload_n dt_Ta_fail_17 rfl rfl ?_
    refine ev_iadd dt_Ta_fail_18 ?_
    refine tm_putI (K := 4) dt_Ta_fail_19 hW tpt0 (fp_Ta_28 _) rfl rfl trivial (by omega) (by omega) (fun w30 hWw30 kkw30 hfw30 => ?_)
    have hFw30 : ∀ (p : Nat) (j : Int), ¬ ((p = tp ∧ (j = 2 ∨ j = 4 ∨ j = 6 ∨ j = 7 ∨ j = 8))) → tm_g w30 p j = tm_g w p j := fun p j h => (hfw30 p j (by omega)).trans (hF0 p j h)
    refine ev_aload_n dt_Ta_fail_22 rfl rfl ?_
    refine ev_aload_n dt_Ta_fail_23 rfl rfl ?_
    refine tm_getI (K := 1) dt_Ta_fail_24 hWw30 tpt0 fl_Ta_21 rfl rfl (fun v31 kv31 lv31 uv31 => ?_)
    have z32 := (hFw30 tp 1 (by omega)).symm.trans kv31
    refine tm_putI (K := 2) dt_Ta_fail_27 hWw30 tpt0 (fp_Ta_25 _) rfl rfl trivial (by omega) (by omega) (fun w33 hWw33 kkw33 hfw33 => ?_)
    have hFw33 : ∀ (p : Nat) (j : Int), ¬ ((p = tp ∧ (j = 2 ∨ j = 4 ∨ j = 6 ∨ j = 7 ∨ j = 8))) → tm_g w33 p j = tm_g w p j := fun p j h => (hfw33 p j (by omega)).trans (hFw30 p j h)
    have z34 := (hfw33 tp 4 (by omega)).trans kkw30
    refine ev_aload_n dt_Ta_fail_30 rfl rfl ?_
    refine ev_iconst dt_Ta_fail_31 ?_
    refine tm_putI (K := 6) dt_Ta_fail_32 hWw33 tpt0 (fp_Ta_37 _) rfl rfl trivial (by omega) (by omega) (fun w35 hWw35 kkw35 hfw35 => ?_)
    have hFw35 : ∀ (p : Nat) (j : Int), ¬ ((p = tp ∧ (j = 2 ∨ j = 4 ∨ j = 6 ∨ j = 7 ∨ j = 8))) → tm_g w35 p j = tm_g w p j := fun p j h => (hfw35 p j (by omega)).trans (hFw33 p j h)
    have z36 := (hfw35 tp 4 (by omega)).trans z34
    have z37 := (hfw35 tp 2 (by omega)).trans kkw33
    refine ev_aload_n dt_Ta_fail_35 rfl rfl ?_
    refine ev_iconst dt_Ta_fail_36 ?_
    refine tm_putI (K := 7) dt_Ta_fail_37 hWw35 tpt0 (fp_Ta_40 _) rfl rfl trivial (by omega) (by omega) (fun w38 hWw38 kkw38 hfw38 => ?_)
    have hFw38 : ∀ (p : Nat) (j : Int), ¬ ((p = tp ∧ (j = 2 ∨ j = 4 ∨ j = 6 ∨ j = 7 ∨ j = 8))) → tm_g w38 p j = tm_g w p j := fun p j h => (hfw38 p j (by omega)).trans (hFw35 p j h)
    have z39 := (hfw38 tp 4 (by omega)).trans z36
    have z40 := (hfw38 tp 2 (by omega)).trans z37
    have z41 := (hfw38 tp 6 (by omega)).trans kkw35
    refine ev_aload_n dt_Ta_fail_40 rfl rfl ?_
    refine ev_iconst dt_Ta_fail_41 ?_
    refine tm_putI (K := 8) dt_Ta_fail_42 hWw38 tpt0 (fp_Ta_43 _) rfl rfl trivial (by omega) (by omega) (fun w42 hWw42 kkw42 hfw42 => ?_)
    have hFw42 : ∀ (p : Nat) (j : Int), ¬ ((p = tp ∧ (j = 2 ∨ j = 4 ∨ j = 6 ∨ j = 7 ∨ j = 8))) → tm_g w42 p j = tm_g w p j := fun p j h => (hfw42 p j (by omega)).trans (hFw38 p j h)
    have z43 := (hfw42 tp 4 (by omega)).trans z39
    have z44 := (hfw42 tp 2 (by omega)).trans z40
    have z45 := (hfw42 tp 6 (by omega)).trans z41
    have z46 := (hfw42 tp 7 (by omega)).trans kkw38
    exact ev_return dt_Ta_fail_45 rfl ⟨hWw42, rfl, ⟨hFw42, ((1 + (8 * v29)) + a), z43, by omega⟩⟩
theorem dt_Ta_readNumber_0 : decode prog_11_method_6_code 0 = .ok (.iconst 0, 1) := by decide +kernel
theorem dt_Ta_readNumber_1 : decode prog_11_method_6_code 1 = .ok (.istore_n 1, 1) := by decide +kernel
theorem dt_Ta_readNumber_2 : decode prog_11_method_6_code 2 = .ok (.aload_n 0, 1) := by decide +kernel
theorem dt_Ta_readNumber_3 : decode prog_11_method_6_code 3 = .ok (.getfield 25, 3) := by decide +kernel
theorem dt_Ta_readNumber_6 : decode prog_11_method_6_code 6 = .ok (.aload_n 0, 1) := by decide +kernel
theorem dt_Ta_readNumber_7 : decode prog_11_method_6_code 7 = .ok (.getfield 21, 3) := by decide +kernel
theorem dt_Ta_readNumber_10 : decode prog_11_method_6_code 10 = .ok (.if_icmp .ge 75, 3) := by decide +kernel
theorem dt_Ta_readNumber_13 : decode prog_11_method_6_code 13 = .ok (.aload_n 0, 1) := by decide +kernel
theorem dt_Ta_readNumber_14 : decode prog_11_method_6_code 14 = .ok (.getfield 9, 3) := by decide +kernel
theorem dt_Ta_readNumber_17 : decode prog_11_method_6_code 17 = .ok (.aload_n 0, 1) := by decide +kernel
theorem dt_Ta_readNumber_18 : decode prog_11_method_6_code 18 = .ok (.getfield 25, 3) := by decide +kernel
theorem dt_Ta_readNumber_21 : decode prog_11_method_6_code 21 = .ok (.baload, 1) := by decide +kernel
theorem dt_Ta_readNumber_22 : decode prog_11_method_6_code 22 = .ok (.bipush 48, 2) := by decide +kernel
theorem dt_Ta_readNumber_24 : decode prog_11_method_6_code 24 = .ok (.if_icmp .lt 61, 3) := by decide +kernel
theorem dt_Ta_readNumber_27 : decode prog_11_method_6_code 27 = .ok (.aload_n 0, 1) := by decide +kernel
theorem dt_Ta_readNumber_28 : decode prog_11_method_6_code 28 = .ok (.getfield 9, 3) := by decide +kernel
theorem dt_Ta_readNumber_31 : decode prog_11_method_6_code 31 = .ok (.aload_n 0, 1) := by decide +kernel
theorem dt_Ta_readNumber_32 : decode prog_11_method_6_code 32 = .ok (.getfield 25, 3) := by decide +kernel
theorem dt_Ta_readNumber_35 : decode prog_11_method_6_code 35 = .ok (.baload, 1) := by decide +kernel
theorem dt_Ta_readNumber_36 : decode prog_11_method_6_code 36 = .ok (.bipush 57, 2) := by decide +kernel
theorem dt_Ta_readNumber_38 : decode prog_11_method_6_code 38 = .ok (.if_icmp .gt 47, 3) := by decide +kernel
theorem dt_Ta_readNumber_41 : decode prog_11_method_6_code 41 = .ok (.aload_n 0, 1) := by decide +kernel
theorem dt_Ta_readNumber_42 : decode prog_11_method_6_code 42 = .ok (.getfield 25, 3) := by decide +kernel
theorem dt_Ta_readNumber_45 : decode prog_11_method_6_code 45 = .ok (.aload_n 0, 1) := by decide +kernel
theorem dt_Ta_readNumber_46 : decode prog_11_method_6_code 46 = .ok (.getfield 34, 3) := by decide +kernel
theorem dt_Ta_readNumber_49 : decode prog_11_method_6_code 49 = .ok (.isub, 1) := by decide +kernel
theorem dt_Ta_readNumber_50 : decode prog_11_method_6_code 50 = .ok (.iconst 5, 1) := by decide +kernel
theorem dt_Ta_readNumber_51 : decode prog_11_method_6_code 51 = .ok (.if_icmp .ge 21, 3) := by decide +kernel
theorem dt_Ta_readNumber_54 : decode prog_11_method_6_code 54 = .ok (.iload_n 1, 1) := by decide +kernel
theorem dt_Ta_readNumber_55 : decode prog_11_method_6_code 55 = .ok (.bipush 10, 2) := by decide +kernel
theorem dt_Ta_readNumber_57 : decode prog_11_method_6_code 57 = .ok (.imul, 1) := by decide +kernel
theorem dt_Ta_readNumber_58 : decode prog_11_method_6_code 58 = .ok (.aload_n 0, 1) := by decide +kernel
theorem dt_Ta_readNumber_59 : decode prog_11_method_6_code 59 = .ok (.getfield 9, 3) := by decide +kernel
theorem dt_Ta_readNumber_62 : decode prog_11_method_6_code 62 = .ok (.aload_n 0, 1) := by decide +kernel
theorem dt_Ta_readNumber_63 : decode prog_11_method_6_code 63 = .ok (.getfield 25, 3) := by decide +kernel
theorem dt_Ta_readNumber_66 : decode prog_11_method_6_code 66 = .ok (.baload, 1) := by decide +kernel
theorem dt_Ta_readNumber_67 : decode prog_11_method_6_code 67 = .ok (.iadd, 1) := by decide +kernel
theorem dt_Ta_readNumber_68 : decode prog_11_method_6_code 68 = .ok (.bipush 48, 2) := by decide +kernel
theorem dt_Ta_readNumber_70 : decode prog_11_method_6_code 70 = .ok (.isub, 1) := by decide +kernel
theorem dt_Ta_readNumber_71 : decode prog_11_method_6_code 71 = .ok (.istore_n 1, 1) := by decide +kernel
theorem dt_Ta_readNumber_72 : decode prog_11_method_6_code 72 = .ok (.aload_n 0, 1) := by decide +kernel
theorem dt_Ta_readNumber_73 : decode prog_11_method_6_code 73 = .ok (.dup, 1) := by decide +kernel
theorem dt_Ta_readNumber_74 : decode prog_11_method_6_code 74 = .ok (.getfield 25, 3) := by decide +kernel
theorem dt_Ta_readNumber_77 : decode prog_11_method_6_code 77 = .ok (.iconst 1, 1) := by decide +kernel
theorem dt_Ta_readNumber_78 : decode prog_11_method_6_code 78 = .ok (.iadd, 1) := by decide +kernel
theorem dt_Ta_readNumber_79 : decode prog_11_method_6_code 79 = .ok (.putfield 25, 3) := by decide +kernel
theorem dt_Ta_readNumber_82 : decode prog_11_method_6_code 82 = .ok (.goto (-80), 3) := by decide +kernel
theorem dt_Ta_readNumber_85 : decode prog_11_method_6_code 85 = .ok (.aload_n 0, 1) := by decide +kernel
theorem dt_Ta_readNumber_86 : decode prog_11_method_6_code 86 = .ok (.aload_n 0, 1) := by decide +kernel
theorem dt_Ta_readNumber_87 : decode prog_11_method_6_code 87 = .ok (.getfield 25, 3) := by decide +kernel
theorem dt_Ta_readNumber_90 : decode prog_11_method_6_code 90 = .ok (.aload_n 0, 1) := by decide +kernel
theorem dt_Ta_readNumber_91 : decode prog_11_method_6_code 91 = .ok (.getfield 34, 3) := by decide +kernel
theorem dt_Ta_readNumber_94 : decode prog_11_method_6_code 94 = .ok (.isub, 1) := by decide +kernel
theorem dt_Ta_readNumber_95 : decode prog_11_method_6_code 95 = .ok (.iconst 5, 1) := by decide +kernel
theorem dt_Ta_readNumber_96 : decode prog_11_method_6_code 96 = .ok (.if_icmp .gt 7, 3) := by decide +kernel
theorem dt_Ta_readNumber_99 : decode prog_11_method_6_code 99 = .ok (.iload_n 1, 1) := by decide +kernel
theorem dt_Ta_readNumber_100 : decode prog_11_method_6_code 100 = .ok (.goto 4, 3) := by decide +kernel
theorem dt_Ta_readNumber_103 : decode prog_11_method_6_code 103 = .ok (.iconst (-1), 1) := by decide +kernel
theorem dt_Ta_readNumber_104 : decode prog_11_method_6_code 104 = .ok (.putfield 40, 3) := by decide +kernel
theorem dt_Ta_readNumber_107 : decode prog_11_method_6_code 107 = .ok (.return_, 1) := by decide +kernel
set_option maxHeartbeats 4000000 in
set_option maxRecDepth 10000 in
theorem tm_Ta_readNumber {N : Nat} {T : Nat → tm_S} {w : ab_W} {tp : Nat} (hW : tm_W N T w) (h_tp : is_Ta T tp) : ab_Mt g_G g_rs mt_Ta_readNumber 0 0 0 [ab_R tp] w (tm_Qv N T (fun w2 => (∀ (p : Nat) (j : Int), ¬ ((p = tp ∧ (j = 2 ∨ j = 7))) → tm_g w2 p j = tm_g w p j))) := by
  obtain ⟨tpt0, tpt1⟩ := id h_tp
  have hF0 : ∀ (p : Nat) (j : Int), ¬ ((p = tp ∧ (j = 2 ∨ j = 7))) → tm_g w p j = tm_g w p j := fun _ _ _ => rfl
  refine ab_Mt.of rfl (Nat.le_of_ble_eq_true rfl) ?_
  show ab_Ev g_G g_rs mt_Ta_readNumber _ _ _ 0 [some (ab_R tp), none] [] _ _
  refine ev_iconst dt_Ta_readNumber_0 ?_
  refine ev_istore_n (l' := [_, _]) dt_Ta_readNumber_1 rfl (Nat.le_of_ble_eq_true rfl) rfl ?_
  obtain ⟨v47, kv47, lv47, uv47⟩ := tm_peek (k := 2) (K := 2) hW tpt0 rfl rfl
  have L48 : ∀ (n : Nat) (i49 : Int) (t51 : Int) (w50 : ab_W), tm_W N T w50 → (∀ (p : Nat) (j : Int), ¬ ((p = tp ∧ (j = 2 ∨ j = 7))) → tm_g w50 p j = tm_g w p j) → tm_g w50 tp 2 = some (ab_I t51) → (-2147483648) ≤ i49 → i49 ≤ 2147483647 → 0 ≤ t51 → t51 ≤ 400 → 400 - t51 < (n : Int) → ab_Ev g_G g_rs mt_Ta_readNumber 0 0 0 2 [some (ab_R tp), some (ab_I i49)] [] w50 (tm_Qv N T (fun w2 => (∀ (p : Nat) (j : Int), ¬ ((p = tp ∧ (j = 2 ∨ j = 7))) → tm_g w2 p j = tm_g w p j))) := by
    intro n
    induction n with
    | zero =>
      intro i49 t51 w50 hWw50 hFw50 kt51 li49 ui49 lt51 ut51 mL48
      exfalso
      omega
    | succ nL48 ihL48 =>
      intro i49 t51 w50 hWw50 hFw50 kt51 li49 ui49 lt51 ut51 mL48
      refine ev_aload_n dt_Ta_readNumber_2 rfl rfl ?_
      refine tm_getK (K := 2) dt_Ta_readNumber_3 hWw50 tpt0 fl_Ta_25 rfl kt51 ?_
      refine ev_aload_n dt_Ta_readNumber_6 rfl rfl ?_
      refine tm_getI (K := 1) dt_Ta_readNumber_7 hWw50 tpt0 fl_Ta_21 rfl rfl (fun v52 kv52 lv52 uv52 => ?_)
      have z53 := (hFw50 tp 1 (by omega)).symm.trans kv52
      refine ev_icmp_ge (tgt := 85) dt_Ta_readNumber_10 (by decide) (by omega) (by omega) (fun h54 => ?_) (fun h54 => ?_)
      · skip
        refine ev_aload_n dt_Ta_readNumber_85 rfl rfl ?_
        refine ev_aload_n dt_Ta_readNumber_86 rfl rfl ?_
        refine tm_getK (K := 2) dt_Ta_readNumber_87 hWw50 tpt0 fl_Ta_25 rfl kt51 ?_
        refine ev_aload_n dt_Ta_readNumber_90 rfl rfl ?_
        refine tm_getI (K := 5) dt_Ta_readNumber_91 hWw50 tpt0 fl_Ta_34 rfl rfl (fun v55 kv55 lv55 uv55 => ?_)
        have z56 := (hFw50 tp 5 (by omega)).symm.trans kv55
        refine ev_isub dt_Ta_readNumber_94 ?_
        refine ev_iconst dt_Ta_readNumber_95 ?_
        refine ev_icmp_gt (tgt := 103) dt_Ta_readNumber_96 (by decide) (by omega) (by omega) (fun h57 => ?_) (fun h57 => ?_)
        · skip
          refine ev_iconst dt_Ta_readNumber_103 ?_
          refine tm_putI (K := 7) dt_Ta_readNumber_104 hWw50 tpt0 (fp_Ta_40 _) rfl rfl trivial (by omega) (by omega) (fun w58 hWw58 kkw58 hfw58 => ?_)
          have hFw58 : ∀ (p : Nat) (j : Int), ¬ ((p = tp ∧ (j = 2 ∨ j = 7))) → tm_g w58 p j = tm_g w p j := fun p j h => (hfw58 p j (by omega)).trans (hFw50 p j h)
          have z59 := (hfw58 tp 2 (by omega)).trans kt51
          exact ev_return dt_Ta_readNumber_107 rfl ⟨hWw58, rfl, hFw58⟩
        · skip
          refine ev_iload_n dt_Ta_readNumber_99 rfl rfl ?_
          refine ev_goto (tgt := 104) dt_Ta_readNumber_100 (by decide) ?_
          refine tm_putI (K := 7) dt_Ta_readNumber_104 hWw50 tpt0 (fp_Ta_40 _) rfl rfl trivial (by omega) (by omega) (fun w60 hWw60 kkw60 hfw60 => ?_)
          have hFw60 : ∀ (p : Nat) (j : Int), ¬ ((p = tp ∧ (j = 2 ∨ j = 7))) → tm_g w60 p j = tm_g w p j := fun p j h => (hfw60 p j (by omega)).trans (hFw50 p j h)
          have z61 := (hfw60 tp 2 (by omega)).trans kt51
          exact ev_return dt_Ta_readNumber_107 rfl ⟨hWw60, rfl, hFw60⟩
      · skip
        refine ev_aload_n dt_Ta_readNumber_13 rfl rfl ?_
        refine tm_getR dt_Ta_readNumber_14 hWw50 tpt0 fl_Ta_9 rfl ?_
        refine ev_aload_n dt_Ta_readNumber_17 rfl rfl ?_
        refine tm_getK (K := 2) dt_Ta_readNumber_18 hWw50 tpt0 fl_Ta_25 rfl kt51 ?_
        refine tm_baload dt_Ta_readNumber_21 hWw50 tpt1 (by omega) (by omega) (by omega) (fun v62 kv62 lv62 uv62 => ?_)
        refine ev_bipush dt_Ta_readNumber_22 rfl ?_
        refine ev_icmp_lt (tgt := 85) dt_Ta_readNumber_24 (by decide) (by omega) (by omega) (fun h63 => ?_) (fun h63 => ?_)
        · skip
          refine ev_aload_n dt_Ta_readNumber_85 rfl rfl ?_
          refine ev_aload_n dt_Ta_readNumber_86 rfl rfl ?_
          refine tm_getK (K := 2) dt_Ta_readNumber_87 hWw50 tpt0 fl_Ta_25 rfl kt51 ?_
          refine ev_aload_n dt_Ta_readNumber_90 rfl rfl ?_
          refine tm_getI (K := 5) dt_Ta_readNumber_91 hWw50 tpt0 fl_Ta_34 rfl rfl (fun v64 kv64 lv64 uv64 => ?_)
          have z65 := (hFw50 tp 5 (by omega)).symm.trans kv64
          refine ev_isub dt_Ta_readNumber_94 ?_
          refine ev_iconst dt_Ta_readNumber_95 ?_
          refine ev_icmp_gt (tgt := 103) dt_Ta_readNumber_96 (by decide) (by omega) (by omega) (fun h66 => ?_) (fun h66 => ?_)
          · skip
            refine ev_iconst dt_Ta_readNumber_103 ?_
            refine tm_putI (K := 7) dt_Ta_readNumber_104 hWw50 tpt0 (fp_Ta_40 _) rfl rfl trivial (by omega) (by omega) (fun w67 hWw67 kkw67 hfw67 => ?_)
            have hFw67 : ∀ (p : Nat) (j : Int), ¬ ((p = tp ∧ (j = 2 ∨ j = 7))) → tm_g w67 p j = tm_g w p j := fun p j h => (hfw67 p j (by omega)).trans (hFw50 p j h)
            have z68 := (hfw67 tp 2 (by omega)).trans kt51
            exact ev_return dt_Ta_readNumber_107 rfl ⟨hWw67, rfl, hFw67⟩
          · skip
            refine ev_iload_n dt_Ta_readNumber_99 rfl rfl ?_
            refine ev_goto (tgt := 104) dt_Ta_readNumber_100 (by decide) ?_
            refine tm_putI (K := 7) dt_Ta_readNumber_104 hWw50 tpt0 (fp_Ta_40 _) rfl rfl trivial (by omega) (by omega) (fun w69 hWw69 kkw69 hfw69 => ?_)
            have hFw69 : ∀ (p : Nat) (j : Int), ¬ ((p = tp ∧ (j = 2 ∨ j = 7))) → tm_g w69 p j = tm_g w p j := fun p j h => (hfw69 p j (by omega)).trans (hFw50 p j h)
            have z70 := (hfw69 tp 2 (by omega)).trans kt51
            exact ev_return dt_Ta_readNumber_107 rfl ⟨hWw69, rfl, hFw69⟩
        · skip
          refine ev_aload_n dt_Ta_readNumber_27 rfl rfl ?_
          refine tm_getR dt_Ta_readNumber_28 hWw50 tpt0 fl_Ta_9 rfl ?_
          refine ev_aload_n dt_Ta_readNumber_31 rfl rfl ?_
          refine tm_getK (K := 2) dt_Ta_readNumber_32 hWw50 tpt0 fl_Ta_25 rfl kt51 ?_
          refine tm_baload dt_Ta_readNumber_35 hWw50 tpt1 (by omega) (by omega) (by omega) (fun v71 kv71 lv71 uv71 => ?_)
          refine ev_bipush dt_Ta_readNumber_36 rfl ?_
          refine ev_icmp_gt (tgt := 85) dt_Ta_readNumber_38 (by decide) (by omega) (by omega) (fun h72 => ?_) (fun h72 => ?_)
          · skip
            refine ev_aload_n dt_Ta_readNumber_85 rfl rfl ?_
            refine ev_aload_n dt_Ta_readNumber_86 rfl rfl ?_
            refine tm_getK (K := 2) dt_Ta_readNumber_87 hWw50 tpt0 fl_Ta_25 rfl kt51 ?_
            refine ev_aload_n dt_Ta_readNumber_90 rfl rfl ?_
            refine tm_getI (K := 5) dt_Ta_readNumber_91 hWw50 tpt0 fl_Ta_34 rfl rfl (fun v73 kv73 lv73 uv73 => ?_)
            have z74 := (hFw50 tp 5 (by omega)).symm.trans kv73
            refine ev_isub dt_Ta_readNumber_94 ?_
            refine ev_iconst dt_Ta_readNumber_95 ?_
            refine ev_icmp_gt (tgt := 103) dt_Ta_readNumber_96 (by decide) (by omega) (by omega) (fun h75 => ?_) (fun h75 => ?_)
            · skip
              refine ev_iconst dt_Ta_readNumber_103 ?_
              refine tm_putI (K := 7) dt_Ta_readNumber_104 hWw50 tpt0 (fp_Ta_40 _) rfl rfl trivial (by omega) (by omega) (fun w76 hWw76 kkw76 hfw76 => ?_)
              have hFw76 : ∀ (p : Nat) (j : Int), ¬ ((p = tp ∧ (j = 2 ∨ j = 7))) → tm_g w76 p j = tm_g w p j := fun p j h => (hfw76 p j (by omega)).trans (hFw50 p j h)
              have z77 := (hfw76 tp 2 (by omega)).trans kt51
              exact ev_return dt_Ta_readNumber_107 rfl ⟨hWw76, rfl, hFw76⟩
            · skip
              refine ev_iload_n dt_Ta_readNumber_99 rfl rfl ?_
              refine ev_goto (tgt := 104) dt_Ta_readNumber_100 (by decide) ?_
              refine tm_putI (K := 7) dt_Ta_readNumber_104 hWw50 tpt0 (fp_Ta_40 _) rfl rfl trivial (by omega) (by omega) (fun w78 hWw78 kkw78 hfw78 => ?_)
              have hFw78 : ∀ (p : Nat) (j : Int), ¬ ((p = tp ∧ (j = 2 ∨ j = 7))) → tm_g w78 p j = tm_g w p j := fun p j h => (hfw78 p j (by omega)).trans (hFw50 p j h)
              have z79 := (hfw78 tp 2 (by omega)).trans kt51
              exact ev_return dt_Ta_readNumber_107 rfl ⟨hWw78, rfl, hFw78⟩
          · skip
            refine ev_aload_n dt_Ta_readNumber_41 rfl rfl ?_
            refine tm_getK (K := 2) dt_Ta_readNumber_42 hWw50 tpt0 fl_Ta_25 rfl kt51 ?_
            refine ev_aload_n dt_Ta_readNumber_45 rfl rfl ?_
            refine tm_getI (K := 5) dt_Ta_readNumber_46 hWw50 tpt0 fl_Ta_34 rfl rfl (fun v80 kv80 lv80 uv80 => ?_)
            have z81 := (hFw50 tp 5 (by omega)).symm.trans kv80
            refine ev_isub dt_Ta_readNumber_49 ?_
            refine ev_iconst dt_Ta_readNumber_50 ?_
            refine ev_icmp_ge (tgt := 72) dt_Ta_readNumber_51 (by decide) (by omega) (by omega) (fun h82 => ?_) (fun h82 => ?_)
            · skip
              refine ev_aload_n dt_Ta_readNumber_72 rfl rfl ?_
              refine ev_dup dt_Ta_readNumber_73 rfl ?_
              refine tm_getK (K := 2) dt_Ta_readNumber_74 hWw50 tpt0 fl_Ta_25 rfl kt51 ?_
              refine ev_iconst dt_Ta_readNumber_77 ?_
              refine ev_iadd dt_Ta_readNumber_78 ?_
              refine tm_putI (K := 2) dt_Ta_readNumber_79 hWw50 tpt0 (fp_Ta_25 _) rfl rfl trivial (by omega) (by omega) (fun w83 hWw83 kkw83 hfw83 => ?_)
              have hFw83 : ∀ (p : Nat) (j : Int), ¬ ((p = tp ∧ (j = 2 ∨ j = 7))) → tm_g w83 p j = tm_g w p j := fun p j h => (hfw83 p j (by omega)).trans (hFw50 p j h)
              refine ev_goto (tgt := 2) dt_Ta_readNumber_82 (by decide) ?_
              exact tm_loc (tm_le_s (tm_le_s tm_le_0)) (ihL48 (i49) ((t51 + 1)) w83 hWw83 hFw83 kkw83 (by omega) (by omega) (by omega) (by omega) (by omega))
            · skip
              refine ev_iload_n dt_Ta_readNumber_54 rfl rfl ?_
              refine ev_bipush dt_Ta_readNumber_55 rfl ?_
              refine ev_imul dt_Ta_readNumber_57 ?_
              refine tm_any (fun v84 hv84 _ => ?_)
              refine ev_aload_n dt_Ta_readNumber_58 rfl rfl ?_
              refine tm_getR dt_Ta_readNumber_59 hWw50 tpt0 fl_Ta_9 rfl ?_
              refine ev_aload_n dt_Ta_readNumber_62 rfl rfl ?_
              refine tm_getK (K := 2) dt_Ta_readNumber_63 hWw50 tpt0 fl_Ta_25 rfl kt51 ?_
              refine tm_baload dt_Ta_readNumber_66 hWw50 tpt1 (by omega) (by omega) (by omega) (fun v85 kv85 lv85 uv85 => ?_)
              refine ev_iadd dt_Ta_readNumber_67 ?_
              refine tm_any (fun v86 hv86 _ => ?_)
              refine ev_bipush dt_Ta_readNumber_68 rfl ?_
              refine ev_isub dt_Ta_readNumber_70 ?_
              refine tm_any (fun v87 hv87 _ => ?_)
              refine ev_istore_n (l' := [_, _]) dt_Ta_readNumber_71 rfl (Nat.le_of_ble_eq_true rfl) rfl ?_
              refine ev_aload_n dt_Ta_readNumber_72 rfl rfl ?_
              refine ev_dup dt_Ta_readNumber_73 rfl ?_
              refine tm_getK (K := 2) dt_Ta_readNumber_74 hWw50 tpt0 fl_Ta_25 rfl kt51 ?_
              refine ev_iconst dt_Ta_readNumber_77 ?_
              refine ev_iadd dt_Ta_readNumber_78 ?_
              refine tm_putI (K := 2) dt_Ta_readNumber_79 hWw50 tpt0 (fp_Ta_25 _) rfl rfl trivial (by omega) (by omega) (fun w88 hWw88 kkw88 hfw88 => ?_)
              have hFw88 : ∀ (p : Nat) (j : Int), ¬ ((p = tp ∧ (j = 2 ∨ j = 7))) → tm_g w88 p j = tm_g w p j := fun p j h => (hfw88 p j (by omega)).trans (hFw50 p j h)
              refine ev_goto (tgt := 2) dt_Ta_readNumber_82 (by decide) ?_
              exact tm_loc (tm_le_s (tm_le_s tm_le_0)) (ihL48 (v87) ((t51 + 1)) w88 hWw88 hFw88 kkw88 (by omega) (by omega) (by omega) (by omega) (by omega))
  exact tm_loc (tm_le_s (tm_le_s tm_le_0)) (L48 (400 - (v47) + 1 : Int).toNat (0) (v47) w hW hF0 kv47 (by omega) (by omega) (by omega) (by omega) (by omega))
theorem dt_Ta_readWord_0 : decode prog_11_method_7_code 0 = .ok (.aload_n 0, 1) := by decide +kernel
theorem dt_Ta_readWord_1 : decode prog_11_method_7_code 1 = .ok (.getfield 25, 3) := by decide +kernel
theorem dt_Ta_readWord_4 : decode prog_11_method_7_code 4 = .ok (.aload_n 0, 1) := by decide +kernel
theorem dt_Ta_readWord_5 : decode prog_11_method_7_code 5 = .ok (.getfield 21, 3) := by decide +kernel
theorem dt_Ta_readWord_8 : decode prog_11_method_7_code 8 = .ok (.if_icmp .ge 44, 3) := by decide +kernel
theorem dt_Ta_readWord_11 : decode prog_11_method_7_code 11 = .ok (.aload_n 0, 1) := by decide +kernel
theorem dt_Ta_readWord_12 : decode prog_11_method_7_code 12 = .ok (.getfield 9, 3) := by decide +kernel
theorem dt_Ta_readWord_15 : decode prog_11_method_7_code 15 = .ok (.aload_n 0, 1) := by decide +kernel
theorem dt_Ta_readWord_16 : decode prog_11_method_7_code 16 = .ok (.getfield 25, 3) := by decide +kernel
theorem dt_Ta_readWord_19 : decode prog_11_method_7_code 19 = .ok (.baload, 1) := by decide +kernel
theorem dt_Ta_readWord_20 : decode prog_11_method_7_code 20 = .ok (.bipush 97, 2) := by decide +kernel
theorem dt_Ta_readWord_22 : decode prog_11_method_7_code 22 = .ok (.if_icmp .lt 30, 3) := by decide +kernel
theorem dt_Ta_readWord_25 : decode prog_11_method_7_code 25 = .ok (.aload_n 0, 1) := by decide +kernel
theorem dt_Ta_readWord_26 : decode prog_11_method_7_code 26 = .ok (.getfield 9, 3) := by decide +kernel
theorem dt_Ta_readWord_29 : decode prog_11_method_7_code 29 = .ok (.aload_n 0, 1) := by decide +kernel
theorem dt_Ta_readWord_30 : decode prog_11_method_7_code 30 = .ok (.getfield 25, 3) := by decide +kernel
theorem dt_Ta_readWord_33 : decode prog_11_method_7_code 33 = .ok (.baload, 1) := by decide +kernel
theorem dt_Ta_readWord_34 : decode prog_11_method_7_code 34 = .ok (.bipush 122, 2) := by decide +kernel
theorem dt_Ta_readWord_36 : decode prog_11_method_7_code 36 = .ok (.if_icmp .gt 16, 3) := by decide +kernel
theorem dt_Ta_readWord_39 : decode prog_11_method_7_code 39 = .ok (.aload_n 0, 1) := by decide +kernel
theorem dt_Ta_readWord_40 : decode prog_11_method_7_code 40 = .ok (.dup, 1) := by decide +kernel
theorem dt_Ta_readWord_41 : decode prog_11_method_7_code 41 = .ok (.getfield 25, 3) := by decide +kernel
theorem dt_Ta_readWord_44 : decode prog_11_method_7_code 44 = .ok (.iconst 1, 1) := by decide +kernel
theorem dt_Ta_readWord_45 : decode prog_11_method_7_code 45 = .ok (.iadd, 1) := by decide +kernel
theorem dt_Ta_readWord_46 : decode prog_11_method_7_code 46 = .ok (.putfield 25, 3) := by decide +kernel
theorem dt_Ta_readWord_49 : decode prog_11_method_7_code 49 = .ok (.goto (-49), 3) := by decide +kernel
theorem dt_Ta_readWord_52 : decode prog_11_method_7_code 52 = .ok (.iconst 0, 1) := by decide +kernel
theorem dt_Ta_readWord_53 : decode prog_11_method_7_code 53 = .ok (.istore_n 1, 1) := by decide +kernel
theorem dt_Ta_readWord_54 : decode prog_11_method_7_code 54 = .ok (.iconst 0, 1) := by decide +kernel
theorem dt_Ta_readWord_55 : decode prog_11_method_7_code 55 = .ok (.istore_n 2, 1) := by decide +kernel
theorem dt_Ta_readWord_56 : decode prog_11_method_7_code 56 = .ok (.iconst 0, 1) := by decide +kernel
theorem dt_Ta_readWord_57 : decode prog_11_method_7_code 57 = .ok (.istore_n 3, 1) := by decide +kernel
theorem dt_Ta_readWord_58 : decode prog_11_method_7_code 58 = .ok (.iload_n 3, 1) := by decide +kernel
theorem dt_Ta_readWord_59 : decode prog_11_method_7_code 59 = .ok (.aload_n 0, 1) := by decide +kernel
theorem dt_Ta_readWord_60 : decode prog_11_method_7_code 60 = .ok (.getfield 17, 3) := by decide +kernel
theorem dt_Ta_readWord_63 : decode prog_11_method_7_code 63 = .ok (.invokevirtual 55, 3) := by decide +kernel
theorem dt_Ta_readWord_66 : decode prog_11_method_7_code 66 = .ok (.if_icmp .ge 141, 3) := by decide +kernel
theorem dt_Ta_readWord_69 : decode prog_11_method_7_code 69 = .ok (.aload_n 0, 1) := by decide +kernel
theorem dt_Ta_readWord_70 : decode prog_11_method_7_code 70 = .ok (.getfield 43, 3) := by decide +kernel
theorem dt_Ta_readWord_73 : decode prog_11_method_7_code 73 = .ok (.iconst (-1), 1) := by decide +kernel
theorem dt_Ta_readWord_74 : decode prog_11_method_7_code 74 = .ok (.if_icmp .ne 133, 3) := by decide +kernel
theorem dt_Ta_readWord_77 : decode prog_11_method_7_code 77 = .ok (.aload_n 0, 1) := by decide +kernel
theorem dt_Ta_readWord_78 : decode prog_11_method_7_code 78 = .ok (.getfield 17, 3) := by decide +kernel
theorem dt_Ta_readWord_81 : decode prog_11_method_7_code 81 = .ok (.iload_n 3, 1) := by decide +kernel
theorem dt_Ta_readWord_82 : decode prog_11_method_7_code 82 = .ok (.invokevirtual 60, 3) := by decide +kernel
theorem dt_Ta_readWord_85 : decode prog_11_method_7_code 85 = .ok (.istore 4, 2) := by decide +kernel
theorem dt_Ta_readWord_87 : decode prog_11_method_7_code 87 = .ok (.iload 4, 2) := by decide +kernel
theorem dt_Ta_readWord_89 : decode prog_11_method_7_code 89 = .ok (.bipush 32, 2) := by decide +kernel
theorem dt_Ta_readWord_91 : decode prog_11_method_7_code 91 = .ok (.if_icmp .ne 11, 3) := by decide +kernel
theorem dt_Ta_readWord_94 : decode prog_11_method_7_code 94 = .ok (.iinc 1 1, 3) := by decide +kernel
theorem dt_Ta_readWord_97 : decode prog_11_method_7_code 97 = .ok (.iconst 0, 1) := by decide +kernel
theorem dt_Ta_readWord_98 : decode prog_11_method_7_code 98 = .ok (.istore_n 2, 1) := by decide +kernel
theorem dt_Ta_readWord_99 : decode prog_11_method_7_code 99 = .ok (.goto 102, 3) := by decide +kernel
theorem dt_Ta_readWord_102 : decode prog_11_method_7_code 102 = .ok (.iload_n 2, 1) := by decide +kernel
theorem dt_Ta_readWord_103 : decode prog_11_method_7_code 103 = .ok (.ifCond .lt 96, 3) := by decide +kernel
theorem dt_Ta_readWord_106 : decode prog_11_method_7_code 106 = .ok (.aload_n 0, 1) := by decide +kernel
theorem dt_Ta_readWord_107 : decode prog_11_method_7_code 107 = .ok (.getfield 34, 3) := by decide +kernel
theorem dt_Ta_readWord_110 : decode prog_11_method_7_code 110 = .ok (.iload_n 2, 1) := by decide +kernel
theorem dt_Ta_readWord_111 : decode prog_11_method_7_code 111 = .ok (.iadd, 1) := by decide +kernel
theorem dt_Ta_readWord_112 : decode prog_11_method_7_code 112 = .ok (.aload_n 0, 1) := by decide +kernel
theorem dt_Ta_readWord_113 : decode prog_11_method_7_code 113 = .ok (.getfield 25, 3) := by decide +kernel
theorem dt_Ta_readWord_116 : decode prog_11_method_7_code 116 = .ok (.if_icmp .ge 83, 3) := by decide +kernel
theorem dt_Ta_readWord_119 : decode prog_11_method_7_code 119 = .ok (.aload_n 0, 1) := by decide +kernel
theorem dt_Ta_readWord_120 : decode prog_11_method_7_code 120 = .ok (.getfield 9, 3) := by decide +kernel
theorem dt_Ta_readWord_123 : decode prog_11_method_7_code 123 = .ok (.aload_n 0, 1) := by decide +kernel
theorem dt_Ta_readWord_124 : decode prog_11_method_7_code 124 = .ok (.getfield 34, 3) := by decide +kernel
theorem dt_Ta_readWord_127 : decode prog_11_method_7_code 127 = .ok (.iload_n 2, 1) := by decide +kernel
theorem dt_Ta_readWord_128 : decode prog_11_method_7_code 128 = .ok (.iadd, 1) := by decide +kernel
theorem dt_Ta_readWord_129 : decode prog_11_method_7_code 129 = .ok (.baload, 1) := by decide +kernel
theorem dt_Ta_readWord_130 : decode prog_11_method_7_code 130 = .ok (.iload 4, 2) := by decide +kernel
theorem dt_Ta_readWord_132 : decode prog_11_method_7_code 132 = .ok (.if_icmp .ne 67, 3) := by decide +kernel
theorem dt_Ta_readWord_135 : decode prog_11_method_7_code 135 = .ok (.iinc 2 1, 3) := by decide +kernel
theorem dt_Ta_readWord_138 : decode prog_11_method_7_code 138 = .ok (.iload_n 3, 1) := by decide +kernel
theorem dt_Ta_readWord_139 : decode prog_11_method_7_code 139 = .ok (.iconst 1, 1) := by decide +kernel
theorem dt_Ta_readWord_140 : decode prog_11_method_7_code 140 = .ok (.iadd, 1) := by decide +kernel
theorem dt_Ta_readWord_141 : decode prog_11_method_7_code 141 = .ok (.aload_n 0, 1) := by decide +kernel
theorem dt_Ta_readWord_142 : decode prog_11_method_7_code 142 = .ok (.getfield 17, 3) := by decide +kernel
theorem dt_Ta_readWord_145 : decode prog_11_method_7_code 145 = .ok (.invokevirtual 55, 3) := by decide +kernel
theorem dt_Ta_readWord_148 : decode prog_11_method_7_code 148 = .ok (.if_icmp .eq 18, 3) := by decide +kernel
theorem dt_Ta_readWord_151 : decode prog_11_method_7_code 151 = .ok (.aload_n 0, 1) := by decide +kernel
theorem dt_Ta_readWord_152 : decode prog_11_method_7_code 152 = .ok (.getfield 17, 3) := by decide +kernel
theorem dt_Ta_readWord_155 : decode prog_11_method_7_code 155 = .ok (.iload_n 3, 1) := by decide +kernel
theorem dt_Ta_readWord_156 : decode prog_11_method_7_code 156 = .ok (.iconst 1, 1) := by decide +kernel
theorem dt_Ta_readWord_157 : decode prog_11_method_7_code 157 = .ok (.iadd, 1) := by decide +kernel
theorem dt_Ta_readWord_158 : decode prog_11_method_7_code 158 = .ok (.invokevirtual 60, 3) := by decide +kernel
theorem dt_Ta_readWord_161 : decode prog_11_method_7_code 161 = .ok (.bipush 32, 2) := by decide +kernel
theorem dt_Ta_readWord_163 : decode prog_11_method_7_code 163 = .ok (.if_icmp .ne 7, 3) := by decide +kernel
theorem dt_Ta_readWord_166 : decode prog_11_method_7_code 166 = .ok (.iconst 1, 1) := by decide +kernel
theorem dt_Ta_readWord_167 : decode prog_11_method_7_code 167 = .ok (.goto 4, 3) := by decide +kernel
theorem dt_Ta_readWord_170 : decode prog_11_method_7_code 170 = .ok (.iconst 0, 1) := by decide +kernel
theorem dt_Ta_readWord_171 : decode prog_11_method_7_code 171 = .ok (.istore 5, 2) := by decide +kernel
theorem dt_Ta_readWord_173 : decode prog_11_method_7_code 173 = .ok (.iload 5, 2) := by decide +kernel
theorem dt_Ta_readWord_175 : decode prog_11_method_7_code 175 = .ok (.ifCond .eq 21, 3) := by decide +kernel
theorem dt_Ta_readWord_178 : decode prog_11_method_7_code 178 = .ok (.aload_n 0, 1) := by decide +kernel
theorem dt_Ta_readWord_179 : decode prog_11_method_7_code 179 = .ok (.getfield 34, 3) := by decide +kernel
theorem dt_Ta_readWord_182 : decode prog_11_method_7_code 182 = .ok (.iload_n 2, 1) := by decide +kernel
theorem dt_Ta_readWord_183 : decode prog_11_method_7_code 183 = .ok (.iadd, 1) := by decide +kernel
theorem dt_Ta_readWord_184 : decode prog_11_method_7_code 184 = .ok (.aload_n 0, 1) := by decide +kernel
theorem dt_Ta_readWord_185 : decode prog_11_method_7_code 185 = .ok (.getfield 25, 3) := by decide +kernel
theorem dt_Ta_readWord_188 : decode prog_11_method_7_code 188 = .ok (.if_icmp .ne 8, 3) := by decide +kernel
theorem dt_Ta_readWord_191 : decode prog_11_method_7_code 191 = .ok (.aload_n 0, 1) := by decide +kernel
theorem dt_Ta_readWord_192 : decode prog_11_method_7_code 192 = .ok (.iload_n 1, 1) := by decide +kernel
theorem dt_Ta_readWord_193 : decode prog_11_method_7_code 193 = .ok (.putfield 43, 3) := by decide +kernel
theorem dt_Ta_readWord_196 : decode prog_11_method_7_code 196 = .ok (.goto 5, 3) := by decide +kernel
theorem dt_Ta_readWord_199 : decode prog_11_method_7_code 199 = .ok (.iconst (-1), 1) := by decide +kernel
theorem dt_Ta_readWord_200 : decode prog_11_method_7_code 200 = .ok (.istore_n 2, 1) := by decide +kernel
theorem dt_Ta_readWord_201 : decode prog_11_method_7_code 201 = .ok (.iinc 3 1, 3) := by decide +kernel
theorem dt_Ta_readWord_204 : decode prog_11_method_7_code 204 = .ok (.goto (-146), 3) := by decide +kernel
theorem dt_Ta_readWord_207 : decode prog_11_method_7_code 207 = .ok (.return_, 1) := by decide +kernel
set_option maxHeartbeats 4000000 in
set_option maxRecDepth 10000 in
theorem tm_Ta_readWord {N : Nat} {T : Nat → tm_S} {w : ab_W} {tp : Nat} (hW : tm_W N T w) (h_tp : is_Ta T tp) : ab_Mt g_G g_rs mt_Ta_readWord 4 0 0 [ab_R tp] w (tm_Qv N T (fun w2 => (∀ (p : Nat) (j : Int), ¬ ((p = tp ∧ (j = 2 ∨ j = 8))) → tm_g w2 p j = tm_g w p j))) := by
  obtain ⟨sk, kS, hsk⟩ := tm_peekS (k := 3) (K := 3) hW h_tp.1 rfl rfl
  obtain ⟨tpt0, tpt1⟩ := id h_tp
  have hF0 : ∀ (p : Nat) (j : Int), ¬ ((p = tp ∧ (j = 2 ∨ j = 8))) → tm_g w p j = tm_g w p j := fun _ _ _ => rfl
  refine ab_Mt.of rfl (Nat.le_of_ble_eq_true rfl) ?_
  show ab_Ev g_G g_rs mt_Ta_readWord _ _ _ 0 [some (ab_R tp), none, none, none, none, none] [] _ _
  obtain ⟨v89, kv89, lv89, uv89⟩ := tm_peek (k := 2) (K := 2) hW tpt0 rfl rfl
  have L90 : ∀ (n : Nat)  (t92 : Int) (w91 : ab_W), tm_W N T w91 → (∀ (p : Nat) (j : Int), ¬ ((p = tp ∧ (j = 2 ∨ j = 8))) → tm_g w91 p j = tm_g w p j) → tm_g w91 tp 2 = some (ab_I t92) → 0 ≤ t92 → t92 ≤ 400 → 400 - t92 < (n : Int) → ab_Ev g_G g_rs mt_Ta_readWord 4 0 0 0 [some (ab_R tp), none, none, none, none, none] [] w91 (tm_Qv N T (fun w2 => (∀ (p : Nat) (j : Int), ¬ ((p = tp ∧ (j = 2 ∨ j = 8))) → tm_g w2 p j = tm_g w p j))) := by
    intro n
    induction n with
    | zero =>
      intro  t92 w91 hWw91 hFw91 kt92 lt92 ut92 mL90
      exfalso
      omega
    | succ nL90 ihL90 =>
      intro  t92 w91 hWw91 hFw91 kt92 lt92 ut92 mL90
      refine ev_aload_n dt_Ta_readWord_0 rfl rfl ?_
      refine tm_getK (K := 2) dt_Ta_readWord_1 hWw91 tpt0 fl_Ta_25 rfl kt92 ?_
      refine ev_aload_n dt_Ta_readWord_4 rfl rfl ?_
      refine tm_getI (K := 1) dt_Ta_readWord_5 hWw91 tpt0 fl_Ta_21 rfl rfl (fun v93 kv93 lv93 uv93 => ?_)
      have z94 := (hFw91 tp 1 (by omega)).symm.trans kv93
      refine ev_icmp_ge (tgt := 52) dt_Ta_readWord_8 (by decide) (by omega) (by omega) (fun h95 => ?_) (fun h95 => ?_)
      · skip
        refine ev_iconst dt_Ta_readWord_52 ?_
        refine ev_istore_n (l' := [_, _, _, _, _, _]) dt_Ta_readWord_53 rfl (Nat.le_of_ble_eq_true rfl) rfl ?_
        refine ev_iconst dt_Ta_readWord_54 ?_
        refine ev_istore_n (l' := [_, _, _, _, _, _]) dt_Ta_readWord_55 rfl (Nat.le_of_ble_eq_true rfl) rfl ?_
        refine ev_iconst dt_Ta_readWord_56 ?_
        refine ev_istore_n (l' := [_, _, _, _, _, _]) dt_Ta_readWord_57 rfl (Nat.le_of_ble_eq_true rfl) rfl ?_
        have L96 : ∀ (n : Nat) (i97 : Int) (i98 : Int) (i99 : Int)  (w100 : ab_W), tm_W N T w100 → (∀ (p : Nat) (j : Int), ¬ ((p = tp ∧ (j = 2 ∨ j = 8))) → tm_g w100 p j = tm_g w p j) → 0 ≤ i97 → i97 ≤ 1000 → (-1) ≤ i98 → i98 ≤ 400 → 0 ≤ i99 → i99 ≤ 1000 → i97 ≤ i99 → 1000 - i99 < (n : Int) → ab_Ev g_G g_rs mt_Ta_readWord 4 0 0 58 [some (ab_R tp), some (ab_I i97), some (ab_I i98), some (ab_I i99), none, none] [] w100 (tm_Qv N T (fun w2 => (∀ (p : Nat) (j : Int), ¬ ((p = tp ∧ (j = 2 ∨ j = 8))) → tm_g w2 p j = tm_g w p j))) := by
          intro n
          induction n with
          | zero =>
            intro i97 i98 i99  w100 hWw100 hFw100 li97 ui97 li98 ui98 li99 ui99 q0L96 mL96
            exfalso
            omega
          | succ nL96 ihL96 =>
            intro i97 i98 i99  w100 hWw100 hFw100 li97 ui97 li98 ui98 li99 ui99 q0L96 mL96
            refine ev_iload_n dt_Ta_readWord_58 rfl rfl ?_
            refine ev_aload_n dt_Ta_readWord_59 rfl rfl ?_
            refine tm_getK (K := 3) dt_Ta_readWord_60 hWw100 tpt0 fl_Ta_17 rfl ((hFw100 tp 3 (by omega)).trans kS) ?_
            have hl63_17 : ((g_ln.getD sk 0 : Nat) : Int) ≤ 1000 := by have := (sb_all sk hsk).1; omega
            refine ev_sk dt_Ta_readWord_63 (co_St_length w100 sk hsk) rfl hsk kb_Ta_55 ⟨im_St_length, se_St_length⟩ rfl (Nat.le_of_ble_eq_true rfl) (by decide) ?_
            refine ev_icmp_ge (tgt := 207) dt_Ta_readWord_66 (by decide) (by omega) (by omega) (fun h101 => ?_) (fun h101 => ?_)
            · skip
              exact ev_return dt_Ta_readWord_207 rfl ⟨hWw100, rfl, hFw100⟩
            · skip
              refine ev_aload_n dt_Ta_readWord_69 rfl rfl ?_
              refine tm_getI (K := 8) dt_Ta_readWord_70 hWw100 tpt0 fl_Ta_43 rfl rfl (fun v102 kv102 lv102 uv102 => ?_)
              refine ev_iconst dt_Ta_readWord_73 ?_
              refine ev_icmp_ne (tgt := 207) dt_Ta_readWord_74 (by decide) (by omega) (by omega) (fun h103 => ?_) (fun h103 => ?_)
              · skip
                exact ev_return dt_Ta_readWord_207 rfl ⟨hWw100, rfl, hFw100⟩
              · skip
                refine ev_aload_n dt_Ta_readWord_77 rfl rfl ?_
                refine tm_getK (K := 3) dt_Ta_readWord_78 hWw100 tpt0 fl_Ta_17 rfl ((hFw100 tp 3 (by omega)).trans kS) ?_
                refine ev_iload_n dt_Ta_readWord_81 rfl rfl ?_
                refine ev_sk dt_Ta_readWord_82 (co_St_charAt w100 sk hsk _ (by omega) (by omega)) rfl hsk kb_Ta_60 ⟨im_St_charAt, se_St_charAt⟩ rfl (Nat.le_of_ble_eq_true rfl) (by decide) ?_
                refine tm_any (fun v104 hv104 _ => ?_)
                refine ev_istore (l' := [_, _, _, _, _, _]) dt_Ta_readWord_85 (Nat.le_of_ble_eq_true rfl) rfl ?_
                refine ev_iload dt_Ta_readWord_87 rfl ?_
                refine ev_bipush dt_Ta_readWord_89 rfl ?_
                refine ev_icmp_ne (tgt := 102) dt_Ta_readWord_91 (by decide) (by omega) (by omega) (fun h105 => ?_) (fun h105 => ?_)
                · skip
                  refine ev_iload_n dt_Ta_readWord_102 rfl rfl ?_
                  refine ev_if_lt (tgt := 199) dt_Ta_readWord_103 (by decide) (by omega) (fun h106 => ?_) (fun h106 => ?_)
                  · skip
                    refine ev_iconst dt_Ta_readWord_199 ?_
                    refine ev_istore_n (l' := [_, _, _, _, _, _]) dt_Ta_readWord_200 rfl (Nat.le_of_ble_eq_true rfl) rfl ?_
                    refine ev_iinc (l' := [_, _, _, _, _, _]) dt_Ta_readWord_201 rfl rfl ?_
                    refine ev_goto (tgt := 58) dt_Ta_readWord_204 (by decide) ?_
                    exact tm_loc (tm_le_s (tm_le_s (tm_le_s (tm_le_s (tm_le_n (tm_le_n tm_le_0)))))) (ihL96 (i97) ((-1)) ((i99 + 1)) w100 hWw100 hFw100 (by omega) (by omega) (by omega) (by omega) (by omega) (by omega) (by omega) (by omega))
                  · skip
                    refine ev_aload_n dt_Ta_readWord_106 rfl rfl ?_
                    refine tm_getI (K := 5) dt_Ta_readWord_107 hWw100 tpt0 fl_Ta_34 rfl rfl (fun v107 kv107 lv107 uv107 => ?_)
                    have z108 := (hFw100 tp 5 (by omega)).symm.trans kv107
                    refine ev_iload_n dt_Ta_readWord_110 rfl rfl ?_
                    refine ev_iadd dt_Ta_readWord_111 ?_
                    refine ev_aload_n dt_Ta_readWord_112 rfl rfl ?_
                    refine tm_getI (K := 2) dt_Ta_readWord_113 hWw100 tpt0 fl_Ta_25 rfl rfl (fun v109 kv109 lv109 uv109 => ?_)
                    refine ev_icmp_ge (tgt := 199) dt_Ta_readWord_116 (by decide) (by omega) (by omega) (fun h110 => ?_) (fun h110 => ?_)
                    · skip
                      refine ev_iconst dt_Ta_readWord_199 ?_
                      refine ev_istore_n (l' := [_, _, _, _, _, _]) dt_Ta_readWord_200 rfl (Nat.le_of_ble_eq_true rfl) rfl ?_
                      refine ev_iinc (l' := [_, _, _, _, _, _]) dt_Ta_readWord_201 rfl rfl ?_
                      refine ev_goto (tgt := 58) dt_Ta_readWord_204 (by decide) ?_
                      exact tm_loc (tm_le_s (tm_le_s (tm_le_s (tm_le_s (tm_le_n (tm_le_n tm_le_0)))))) (ihL96 (i97) ((-1)) ((i99 + 1)) w100 hWw100 hFw100 (by omega) (by omega) (by omega) (by omega) (by omega) (by omega) (by omega) (by omega))
                    · skip
                      refine ev_aload_n dt_Ta_readWord_119 rfl rfl ?_
                      refine tm_getR dt_Ta_readWord_120 hWw100 tpt0 fl_Ta_9 rfl ?_
                      refine ev_aload_n dt_Ta_readWord_123 rfl rfl ?_
                      refine tm_getK (K := 5) dt_Ta_readWord_124 hWw100 tpt0 fl_Ta_34 rfl ((hFw100 tp 5 (by omega)).trans z108) ?_
                      refine ev_iload_n dt_Ta_readWord_127 rfl rfl ?_
                      refine ev_iadd dt_Ta_readWord_128 ?_
                      refine tm_baload dt_Ta_readWord_129 hWw100 tpt1 (by omega) (by omega) (by omega) (fun v111 kv111 lv111 uv111 => ?_)
                      refine ev_iload dt_Ta_readWord_130 rfl ?_
                      refine ev_icmp_ne (tgt := 199) dt_Ta_readWord_132 (by decide) (by omega) (by omega) (fun h112 => ?_) (fun h112 => ?_)
                      · skip
                        refine ev_iconst dt_Ta_readWord_199 ?_
                        refine ev_istore_n (l' := [_, _, _, _, _, _]) dt_Ta_readWord_200 rfl (Nat.le_of_ble_eq_true rfl) rfl ?_
                        refine ev_iinc (l' := [_, _, _, _, _, _]) dt_Ta_readWord_201 rfl rfl ?_
                        refine ev_goto (tgt := 58) dt_Ta_readWord_204 (by decide) ?_
                        exact tm_loc (tm_le_s (tm_le_s (tm_le_s (tm_le_s (tm_le_n (tm_le_n tm_le_0)))))) (ihL96 (i97) ((-1)) ((i99 + 1)) w100 hWw100 hFw100 (by omega) (by omega) (by omega) (by omega) (by omega) (by omega) (by omega) (by omega))
                      · skip
                        refine ev_iinc (l' := [_, _, _, _, _, _]) dt_Ta_readWord_135 rfl rfl ?_
                        refine ev_iload_n dt_Ta_readWord_138 rfl rfl ?_
                        refine ev_iconst dt_Ta_readWord_139 ?_
                        refine ev_iadd dt_Ta_readWord_140 ?_
                        refine ev_aload_n dt_Ta_readWord_141 rfl rfl ?_
                        refine tm_getK (K := 3) dt_Ta_readWord_142 hWw100 tpt0 fl_Ta_17 rfl ((hFw100 tp 3 (by omega)).trans kS) ?_
                        have hl145_72 : ((g_ln.getD sk 0 : Nat) : Int) ≤ 1000 := by have := (sb_all sk hsk).1; omega
                        refine ev_sk dt_Ta_readWord_145 (co_St_length w100 sk hsk) rfl hsk kb_Ta_55 ⟨im_St_length, se_St_length⟩ rfl (Nat.le_of_ble_eq_true rfl) (by decide) ?_
                        refine ev_icmp_eq (tgt := 166) dt_Ta_readWord_148 (by decide) (by omega) (by omega) (fun h113 => ?_) (fun h113 => ?_)
                        · skip
                          refine ev_iconst dt_Ta_readWord_166 ?_
                          refine ev_goto (tgt := 171) dt_Ta_readWord_167 (by decide) ?_
                          refine ev_istore (l' := [_, _, _, _, _, _]) dt_Ta_readWord_171 (Nat.le_of_ble_eq_true rfl) rfl ?_
                          refine ev_iload dt_Ta_readWord_173 rfl ?_
                          refine ev_if_eq (tgt := 196) dt_Ta_readWord_175 (by decide) (by omega) (fun h114 => ?_) (fun h114 => ?_)
                          · skip
                            exfalso
                            omega
                          · skip
                            refine ev_aload_n dt_Ta_readWord_178 rfl rfl ?_
                            refine tm_getK (K := 5) dt_Ta_readWord_179 hWw100 tpt0 fl_Ta_34 rfl ((hFw100 tp 5 (by omega)).trans z108) ?_
                            refine ev_iload_n dt_Ta_readWord_182 rfl rfl ?_
                            refine ev_iadd dt_Ta_readWord_183 ?_
                            refine ev_aload_n dt_Ta_readWord_184 rfl rfl ?_
                            refine tm_getK (K := 2) dt_Ta_readWord_185 hWw100 tpt0 fl_Ta_25 rfl kv109 ?_
                            refine ev_icmp_ne (tgt := 196) dt_Ta_readWord_188 (by decide) (by omega) (by omega) (fun h115 => ?_) (fun h115 => ?_)
                            · skip
                              refine ev_goto (tgt := 201) dt_Ta_readWord_196 (by decide) ?_
                              refine ev_iinc (l' := [_, _, _, _, _, _]) dt_Ta_readWord_201 rfl rfl ?_
                              refine ev_goto (tgt := 58) dt_Ta_readWord_204 (by decide) ?_
                              exact tm_loc (tm_le_s (tm_le_s (tm_le_s (tm_le_s (tm_le_n (tm_le_n tm_le_0)))))) (ihL96 (i97) ((i98 + 1)) ((i99 + 1)) w100 hWw100 hFw100 (by omega) (by omega) (by omega) (by omega) (by omega) (by omega) (by omega) (by omega))
                            · skip
                              refine ev_aload_n dt_Ta_readWord_191 rfl rfl ?_
                              refine ev_iload_n dt_Ta_readWord_192 rfl rfl ?_
                              refine tm_putI (K := 8) dt_Ta_readWord_193 hWw100 tpt0 (fp_Ta_43 _) rfl rfl trivial (by omega) (by omega) (fun w116 hWw116 kkw116 hfw116 => ?_)
                              have hFw116 : ∀ (p : Nat) (j : Int), ¬ ((p = tp ∧ (j = 2 ∨ j = 8))) → tm_g w116 p j = tm_g w p j := fun p j h => (hfw116 p j (by omega)).trans (hFw100 p j h)
                              have z117 := (hfw116 tp 2 (by omega)).trans kv109
                              refine ev_goto (tgt := 201) dt_Ta_readWord_196 (by decide) ?_
                              refine ev_iinc (l' := [_, _, _, _, _, _]) dt_Ta_readWord_201 rfl rfl ?_
                              refine ev_goto (tgt := 58) dt_Ta_readWord_204 (by decide) ?_
                              exact tm_loc (tm_le_s (tm_le_s (tm_le_s (tm_le_s (tm_le_n (tm_le_n tm_le_0)))))) (ihL96 (i97) ((i98 + 1)) ((i99 + 1)) w116 hWw116 hFw116 (by omega) (by omega) (by omega) (by omega) (by omega) (by omega) (by omega) (by omega))
                        · skip
                          refine ev_aload_n dt_Ta_readWord_151 rfl rfl ?_
                          refine tm_getK (K := 3) dt_Ta_readWord_152 hWw100 tpt0 fl_Ta_17 rfl ((hFw100 tp 3 (by omega)).trans kS) ?_
                          refine ev_iload_n dt_Ta_readWord_155 rfl rfl ?_
                          refine ev_iconst dt_Ta_readWord_156 ?_
                          refine ev_iadd dt_Ta_readWord_157 ?_
                          refine ev_sk dt_Ta_readWord_158 (co_St_charAt w100 sk hsk _ (by omega) (by omega)) rfl hsk kb_Ta_60 ⟨im_St_charAt, se_St_charAt⟩ rfl (Nat.le_of_ble_eq_true rfl) (by decide) ?_
                          refine tm_any (fun v118 hv118 _ => ?_)
                          refine ev_bipush dt_Ta_readWord_161 rfl ?_
                          refine ev_icmp_ne (tgt := 170) dt_Ta_readWord_163 (by decide) (by omega) (by omega) (fun h119 => ?_) (fun h119 => ?_)
                          · skip
                            refine ev_iconst dt_Ta_readWord_170 ?_
                            refine ev_istore (l' := [_, _, _, _, _, _]) dt_Ta_readWord_171 (Nat.le_of_ble_eq_true rfl) rfl ?_
                            refine ev_iload dt_Ta_readWord_173 rfl ?_
                            refine ev_if_eq (tgt := 196) dt_Ta_readWord_175 (by decide) (by omega) (fun h120 => ?_) (fun h120 => ?_)
                            · skip
                              refine ev_goto (tgt := 201) dt_Ta_readWord_196 (by decide) ?_
                              refine ev_iinc (l' := [_, _, _, _, _, _]) dt_Ta_readWord_201 rfl rfl ?_
                              refine ev_goto (tgt := 58) dt_Ta_readWord_204 (by decide) ?_
                              exact tm_loc (tm_le_s (tm_le_s (tm_le_s (tm_le_s (tm_le_n (tm_le_n tm_le_0)))))) (ihL96 (i97) ((i98 + 1)) ((i99 + 1)) w100 hWw100 hFw100 (by omega) (by omega) (by omega) (by omega) (by omega) (by omega) (by omega) (by omega))
                            · skip
                              exfalso
                              omega
                          · skip
                            refine ev_iconst dt_Ta_readWord_166 ?_
                            refine ev_goto (tgt := 171) dt_Ta_readWord_167 (by decide) ?_
                            refine ev_istore (l' := [_, _, _, _, _, _]) dt_Ta_readWord_171 (Nat.le_of_ble_eq_true rfl) rfl ?_
                            refine ev_iload dt_Ta_readWord_173 rfl ?_
                            refine ev_if_eq (tgt := 196) dt_Ta_readWord_175 (by decide) (by omega) (fun h121 => ?_) (fun h121 => ?_)
                            · skip
                              exfalso
                              omega
                            · skip
                              refine ev_aload_n dt_Ta_readWord_178 rfl rfl ?_
                              refine tm_getK (K := 5) dt_Ta_readWord_179 hWw100 tpt0 fl_Ta_34 rfl ((hFw100 tp 5 (by omega)).trans z108) ?_
                              refine ev_iload_n dt_Ta_readWord_182 rfl rfl ?_
                              refine ev_iadd dt_Ta_readWord_183 ?_
                              refine ev_aload_n dt_Ta_readWord_184 rfl rfl ?_
                              refine tm_getK (K := 2) dt_Ta_readWord_185 hWw100 tpt0 fl_Ta_25 rfl kv109 ?_
                              refine ev_icmp_ne (tgt := 196) dt_Ta_readWord_188 (by decide) (by omega) (by omega) (fun h122 => ?_) (fun h122 => ?_)
                              · skip
                                refine ev_goto (tgt := 201) dt_Ta_readWord_196 (by decide) ?_
                                refine ev_iinc (l' := [_, _, _, _, _, _]) dt_Ta_readWord_201 rfl rfl ?_
                                refine ev_goto (tgt := 58) dt_Ta_readWord_204 (by decide) ?_
                                exact tm_loc (tm_le_s (tm_le_s (tm_le_s (tm_le_s (tm_le_n (tm_le_n tm_le_0)))))) (ihL96 (i97) ((i98 + 1)) ((i99 + 1)) w100 hWw100 hFw100 (by omega) (by omega) (by omega) (by omega) (by omega) (by omega) (by omega) (by omega))
                              · skip
                                refine ev_aload_n dt_Ta_readWord_191 rfl rfl ?_
                                refine ev_iload_n dt_Ta_readWord_192 rfl rfl ?_
                                refine tm_putI (K := 8) dt_Ta_readWord_193 hWw100 tpt0 (fp_Ta_43 _) rfl rfl trivial (by omega) (by omega) (fun w123 hWw123 kkw123 hfw123 => ?_)
                                have hFw123 : ∀ (p : Nat) (j : Int), ¬ ((p = tp ∧ (j = 2 ∨ j = 8))) → tm_g w123 p j = tm_g w p j := fun p j h => (hfw123 p j (by omega)).trans (hFw100 p j h)
                                have z124 := (hfw123 tp 2 (by omega)).trans kv109
                                refine ev_goto (tgt := 201) dt_Ta_readWord_196 (by decide) ?_
                                refine ev_iinc (l' := [_, _, _, _, _, _]) dt_Ta_readWord_201 rfl rfl ?_
                                refine ev_goto (tgt := 58) dt_Ta_readWord_204 (by decide) ?_
                                exact tm_loc (tm_le_s (tm_le_s (tm_le_s (tm_le_s (tm_le_n (tm_le_n tm_le_0)))))) (ihL96 (i97) ((i98 + 1)) ((i99 + 1)) w123 hWw123 hFw123 (by omega) (by omega) (by omega) (by omega) (by omega) (by omega) (by omega) (by omega))
                · skip
                  refine ev_iinc (l' := [_, _, _, _, _, _]) dt_Ta_readWord_94 rfl rfl ?_
                  refine ev_iconst dt_Ta_readWord_97 ?_
                  refine ev_istore_n (l' := [_, _, _, _, _, _]) dt_Ta_readWord_98 rfl (Nat.le_of_ble_eq_true rfl) rfl ?_
                  refine ev_goto (tgt := 201) dt_Ta_readWord_99 (by decide) ?_
                  refine ev_iinc (l' := [_, _, _, _, _, _]) dt_Ta_readWord_201 rfl rfl ?_
                  refine ev_goto (tgt := 58) dt_Ta_readWord_204 (by decide) ?_
                  exact tm_loc (tm_le_s (tm_le_s (tm_le_s (tm_le_s (tm_le_n (tm_le_n tm_le_0)))))) (ihL96 ((i97 + 1)) (0) ((i99 + 1)) w100 hWw100 hFw100 (by omega) (by omega) (by omega) (by omega) (by omega) (by omega) (by omega) (by omega))
        exact tm_loc (tm_le_s (tm_le_s (tm_le_s (tm_le_s (tm_le_n (tm_le_n tm_le_0)))))) (L96 (1000 - (0) + 1 : Int).toNat (0) (0) (0)  w91 hWw91 hFw91 (by omega) (by omega) (by omega) (by omega) (by omega) (by omega) (by omega) (by omega))
      · skip
        refine ev_aload_n dt_Ta_readWord_11 rfl rfl ?_
        refine tm_getR dt_Ta_readWord_12 hWw91 tpt0 fl_Ta_9 rfl ?_
        refine ev_aload_n dt_Ta_readWord_15 rfl rfl ?_
        refine tm_getK (K := 2) dt_Ta_readWord_16 hWw91 tpt0 fl_Ta_25 rfl kt92 ?_
        refine tm_baload dt_Ta_readWord_19 hWw91 tpt1 (by omega) (by omega) (by omega) (fun v125 kv125 lv125 uv125 => ?_)
        refine ev_bipush dt_Ta_readWord_20 rfl ?_
        refine ev_icmp_lt (tgt := 52) dt_Ta_readWord_22 (by decide) (by omega) (by omega) (fun h126 => ?_) (fun h126 => ?_)
        · skip
          refine ev_iconst dt_Ta_readWord_52 ?_
          refine ev_istore_n (l' := [_, _, _, _, _, _]) dt_Ta_readWord_53 rfl (Nat.le_of_ble_eq_true rfl) rfl ?_
          refine ev_iconst dt_Ta_readWord_54 ?_
          refine ev_istore_n (l' := [_, _, _, _, _, _]) dt_Ta_readWord_55 rfl (Nat.le_of_ble_eq_true rfl) rfl ?_
          refine ev_iconst dt_Ta_readWord_56 ?_
          refine ev_istore_n (l' := [_, _, _, _, _, _]) dt_Ta_readWord_57 rfl (Nat.le_of_ble_eq_true rfl) rfl ?_
          have L127 : ∀ (n : Nat) (i128 : Int) (i129 : Int) (i130 : Int)  (w131 : ab_W), tm_W N T w131 → (∀ (p : Nat) (j : Int), ¬ ((p = tp ∧ (j = 2 ∨ j = 8))) → tm_g w131 p j = tm_g w p j) → 0 ≤ i128 → i128 ≤ 1000 → (-1) ≤ i129 → i129 ≤ 400 → 0 ≤ i130 → i130 ≤ 1000 → i128 ≤ i130 → 1000 - i130 < (n : Int) → ab_Ev g_G g_rs mt_Ta_readWord 4 0 0 58 [some (ab_R tp), some (ab_I i128), some (ab_I i129), some (ab_I i130), none, none] [] w131 (tm_Qv N T (fun w2 => (∀ (p : Nat) (j : Int), ¬ ((p = tp ∧ (j = 2 ∨ j = 8))) → tm_g w2 p j = tm_g w p j))) := by
            intro n
            induction n with
            | zero =>
              intro i128 i129 i130  w131 hWw131 hFw131 li128 ui128 li129 ui129 li130 ui130 q0L127 mL127
              exfalso
              omega
            | succ nL127 ihL127 =>
              intro i128 i129 i130  w131 hWw131 hFw131 li128 ui128 li129 ui129 li130 ui130 q0L127 mL127
              refine ev_iload_n dt_Ta_readWord_58 rfl rfl ?_
              refine ev_aload_n dt_Ta_readWord_59 rfl rfl ?_
              refine tm_getK (K := 3) dt_Ta_readWord_60 hWw131 tpt0 fl_Ta_17 rfl ((hFw131 tp 3 (by omega)).trans kS) ?_
              have hl63_160 : ((g_ln.getD sk 0 : Nat) : Int) ≤ 1000 := by have := (sb_all sk hsk).1; omega
              refine ev_sk dt_Ta_readWord_63 (co_St_length w131 sk hsk) rfl hsk kb_Ta_55 ⟨im_St_length, se_St_length⟩ rfl (Nat.le_of_ble_eq_true rfl) (by decide) ?_
              refine ev_icmp_ge (tgt := 207) dt_Ta_readWord_66 (by decide) (by omega) (by omega) (fun h132 => ?_) (fun h132 => ?_)
              · skip
                exact ev_return dt_Ta_readWord_207 rfl ⟨hWw131, rfl, hFw131⟩
              · skip
                refine ev_aload_n dt_Ta_readWord_69 rfl rfl ?_
                refine tm_getI (K := 8) dt_Ta_readWord_70 hWw131 tpt0 fl_Ta_43 rfl rfl (fun v133 kv133 lv133 uv133 => ?_)
                refine ev_iconst dt_Ta_readWord_73 ?_
                refine ev_icmp_ne (tgt := 207) dt_Ta_readWord_74 (by decide) (by omega) (by omega) (fun h134 => ?_) (fun h134 => ?_)
                · skip
                  exact ev_return dt_Ta_readWord_207 rfl ⟨hWw131, rfl, hFw131⟩
                · skip
                  refine ev_aload_n dt_Ta_readWord_77 rfl rfl ?_
                  refine tm_getK (K := 3) dt_Ta_readWord_78 hWw131 tpt0 fl_Ta_17 rfl ((hFw131 tp 3 (by omega)).trans kS) ?_
                  refine ev_iload_n dt_Ta_readWord_81 rfl rfl ?_
                  refine ev_sk dt_Ta_readWord_82 (co_St_charAt w131 sk hsk _ (by omega) (by omega)) rfl hsk kb_Ta_60 ⟨im_St_charAt, se_St_charAt⟩ rfl (Nat.le_of_ble_eq_true rfl) (by decide) ?_
                  refine tm_any (fun v135 hv135 _ => ?_)
                  refine ev_istore (l' := [_, _, _, _, _, _]) dt_Ta_readWord_85 (Nat.le_of_ble_eq_true rfl) rfl ?_
                  refine ev_iload dt_Ta_readWord_87 rfl ?_
                  refine ev_bipush dt_Ta_readWord_89 rfl ?_
                  refine ev_icmp_ne (tgt := 102) dt_Ta_readWord_91 (by decide) (by omega) (by omega) (fun h136 => ?_) (fun h136 => ?_)
                  · skip
                    refine ev_iload_n dt_Ta_readWord_102 rfl rfl ?_
                    refine ev_if_lt (tgt := 199) dt_Ta_readWord_103 (by decide) (by omega) (fun h137 => ?_) (fun h137 => ?_)
                    · skip
                      refine ev_iconst dt_Ta_readWord_199 ?_
                      refine ev_istore_n (l' := [_, _, _, _, _, _]) dt_Ta_readWord_200 rfl (Nat.le_of_ble_eq_true rfl) rfl ?_
                      refine ev_iinc (l' := [_, _, _, _, _, _]) dt_Ta_readWord_201 rfl rfl ?_
                      refine ev_goto (tgt := 58) dt_Ta_readWord_204 (by decide) ?_
                      exact tm_loc (tm_le_s (tm_le_s (tm_le_s (tm_le_s (tm_le_n (tm_le_n tm_le_0)))))) (ihL127 (i128) ((-1)) ((i130 + 1)) w131 hWw131 hFw131 (by omega) (by omega) (by omega) (by omega) (by omega) (by omega) (by omega) (by omega))
                    · skip
                      refine ev_aload_n dt_Ta_readWord_106 rfl rfl ?_
                      refine tm_getI (K := 5) dt_Ta_readWord_107 hWw131 tpt0 fl_Ta_34 rfl rfl (fun v138 kv138 lv138 uv138 => ?_)
                      have z139 := (hFw131 tp 5 (by omega)).symm.trans kv138
                      refine ev_iload_n dt_Ta_readWord_110 rfl rfl ?_
                      refine ev_iadd dt_Ta_readWord_111 ?_
                      refine ev_aload_n dt_Ta_readWord_112 rfl rfl ?_
                      refine tm_getI (K := 2) dt_Ta_readWord_113 hWw131 tpt0 fl_Ta_25 rfl rfl (fun v140 kv140 lv140 uv140 => ?_)
                      refine ev_icmp_ge (tgt := 199) dt_Ta_readWord_116 (by decide) (by omega) (by omega) (fun h141 => ?_) (fun h141 => ?_)
                      · skip
                        refine ev_iconst dt_Ta_readWord_199 ?_
                        refine ev_istore_n (l' := [_, _, _, _, _, _]) dt_Ta_readWord_200 rfl (Nat.le_of_ble_eq_true rfl) rfl ?_
                        refine ev_iinc (l' := [_, _, _, _, _, _]) dt_Ta_readWord_201 rfl rfl ?_
                        refine ev_goto (tgt := 58) dt_Ta_readWord_204 (by decide) ?_
                        exact tm_loc (tm_le_s (tm_le_s (tm_le_s (tm_le_s (tm_le_n (tm_le_n tm_le_0)))))) (ihL127 (i128) ((-1)) ((i130 + 1)) w131 hWw131 hFw131 (by omega) (by omega) (by omega) (by omega) (by omega) (by omega) (by omega) (by omega))
                      · skip
                        refine ev_aload_n dt_Ta_readWord_119 rfl rfl ?_
                        refine tm_getR dt_Ta_readWord_120 hWw131 tpt0 fl_Ta_9 rfl ?_
                        refine ev_aload_n dt_Ta_readWord_123 rfl rfl ?_
                        refine tm_getK (K := 5) dt_Ta_readWord_124 hWw131 tpt0 fl_Ta_34 rfl ((hFw131 tp 5 (by omega)).trans z139) ?_
                        refine ev_iload_n dt_Ta_readWord_127 rfl rfl ?_
                        refine ev_iadd dt_Ta_readWord_128 ?_
                        refine tm_baload dt_Ta_readWord_129 hWw131 tpt1 (by omega) (by omega) (by omega) (fun v142 kv142 lv142 uv142 => ?_)
                        refine ev_iload dt_Ta_readWord_130 rfl ?_
                        refine ev_icmp_ne (tgt := 199) dt_Ta_readWord_132 (by decide) (by omega) (by omega) (fun h143 => ?_) (fun h143 => ?_)
                        · skip
                          refine ev_iconst dt_Ta_readWord_199 ?_
                          refine ev_istore_n (l' := [_, _, _, _, _, _]) dt_Ta_readWord_200 rfl (Nat.le_of_ble_eq_true rfl) rfl ?_
                          refine ev_iinc (l' := [_, _, _, _, _, _]) dt_Ta_readWord_201 rfl rfl ?_
                          refine ev_goto (tgt := 58) dt_Ta_readWord_204 (by decide) ?_
                          exact tm_loc (tm_le_s (tm_le_s (tm_le_s (tm_le_s (tm_le_n (tm_le_n tm_le_0)))))) (ihL127 (i128) ((-1)) ((i130 + 1)) w131 hWw131 hFw131 (by omega) (by omega) (by omega) (by omega) (by omega) (by omega) (by omega) (by omega))
                        · skip
                          refine ev_iinc (l' := [_, _, _, _, _, _]) dt_Ta_readWord_135 rfl rfl ?_
                          refine ev_iload_n dt_Ta_readWord_138 rfl rfl ?_
                          refine ev_iconst dt_Ta_readWord_139 ?_
                          refine ev_iadd dt_Ta_readWord_140 ?_
                          refine ev_aload_n dt_Ta_readWord_141 rfl rfl ?_
                          refine tm_getK (K := 3) dt_Ta_readWord_142 hWw131 tpt0 fl_Ta_17 rfl ((hFw131 tp 3 (by omega)).trans kS) ?_
                          have hl145_215 : ((g_ln.getD sk 0 : Nat) : Int) ≤ 1000 := by have := (sb_all sk hsk).1; omega
                          refine ev_sk dt_Ta_readWord_145 (co_St_length w131 sk hsk) rfl hsk kb_Ta_55 ⟨im_St_length, se_St_length⟩ rfl (Nat.le_of_ble_eq_true rfl) (by decide) ?_
                          refine ev_icmp_eq (tgt := 166) dt_Ta_readWord_148 (by decide) (by omega) (by omega) (fun h144 => ?_) (fun h144 => ?_)
                          · skip
                            refine ev_iconst dt_Ta_readWord_166 ?_
                            refine ev_goto (tgt := 171) dt_Ta_readWord_167 (by decide) ?_
                            refine ev_istore (l' := [_, _, _, _, _, _]) dt_Ta_readWord_171 (Nat.le_of_ble_eq_true rfl) rfl ?_
                            refine ev_iload dt_Ta_readWord_173 rfl ?_
                            refine ev_if_eq (tgt := 196) dt_Ta_readWord_175 (by decide) (by omega) (fun h145 => ?_) (fun h145 => ?_)
                            · skip
                              exfalso
                              omega
                            · skip
                              refine ev_aload_n dt_Ta_readWord_178 rfl rfl ?_
                              refine tm_getK (K := 5) dt_Ta_readWord_179 hWw131 tpt0 fl_Ta_34 rfl ((hFw131 tp 5 (by omega)).trans z139) ?_
                              refine ev_iload_n dt_Ta_readWord_182 rfl rfl ?_
                              refine ev_iadd dt_Ta_readWord_183 ?_
                              refine ev_aload_n dt_Ta_readWord_184 rfl rfl ?_
                              refine tm_getK (K := 2) dt_Ta_readWord_185 hWw131 tpt0 fl_Ta_25 rfl kv140 ?_
                              refine ev_icmp_ne (tgt := 196) dt_Ta_readWord_188 (by decide) (by omega) (by omega) (fun h146 => ?_) (fun h146 => ?_)
                              · skip
                                refine ev_goto (tgt := 201) dt_Ta_readWord_196 (by decide) ?_
                                refine ev_iinc (l' := [_, _, _, _, _, _]) dt_Ta_readWord_201 rfl rfl ?_
                                refine ev_goto (tgt := 58) dt_Ta_readWord_204 (by decide) ?_
                                exact tm_loc (tm_le_s (tm_le_s (tm_le_s (tm_le_s (tm_le_n (tm_le_n tm_le_0)))))) (ihL127 (i128) ((i129 + 1)) ((i130 + 1)) w131 hWw131 hFw131 (by omega) (by omega) (by omega) (by omega) (by omega) (by omega) (by omega) (by omega))
                              · skip
                                refine ev_aload_n dt_Ta_readWord_191 rfl rfl ?_
                                refine ev_iload_n dt_Ta_readWord_192 rfl rfl ?_
                                refine tm_putI (K := 8) dt_Ta_readWord_193 hWw131 tpt0 (fp_Ta_43 _) rfl rfl trivial (by omega) (by omega) (fun w147 hWw147 kkw147 hfw147 => ?_)
                                have hFw147 : ∀ (p : Nat) (j : Int), ¬ ((p = tp ∧ (j = 2 ∨ j = 8))) → tm_g w147 p j = tm_g w p j := fun p j h => (hfw147 p j (by omega)).trans (hFw131 p j h)
                                have z148 := (hfw147 tp 2 (by omega)).trans kv140
                                refine ev_goto (tgt := 201) dt_Ta_readWord_196 (by decide) ?_
                                refine ev_iinc (l' := [_, _, _, _, _, _]) dt_Ta_readWord_201 rfl rfl ?_
                                refine ev_goto (tgt := 58) dt_Ta_readWord_204 (by decide) ?_
                                exact tm_loc (tm_le_s (tm_le_s (tm_le_s (tm_le_s (tm_le_n (tm_le_n tm_le_0)))))) (ihL127 (i128) ((i129 + 1)) ((i130 + 1)) w147 hWw147 hFw147 (by omega) (by omega) (by omega) (by omega) (by omega) (by omega) (by omega) (by omega))
                          · skip
                            refine ev_aload_n dt_Ta_readWord_151 rfl rfl ?_
                            refine tm_getK (K := 3) dt_Ta_readWord_152 hWw131 tpt0 fl_Ta_17 rfl ((hFw131 tp 3 (by omega)).trans kS) ?_
                            refine ev_iload_n dt_Ta_readWord_155 rfl rfl ?_
                            refine ev_iconst dt_Ta_readWord_156 ?_
                            refine ev_iadd dt_Ta_readWord_157 ?_
                            refine ev_sk dt_Ta_readWord_158 (co_St_charAt w131 sk hsk _ (by omega) (by omega)) rfl hsk kb_Ta_60 ⟨im_St_charAt, se_St_charAt⟩ rfl (Nat.le_of_ble_eq_true rfl) (by decide) ?_
                            refine tm_any (fun v149 hv149 _ => ?_)
                            refine ev_bipush dt_Ta_readWord_161 rfl ?_
                            refine ev_icmp_ne (tgt := 170) dt_Ta_readWord_163 (by decide) (by omega) (by omega) (fun h150 => ?_) (fun h150 => ?_)
                            · skip
                              refine ev_iconst dt_Ta_readWord_170 ?_
                              refine ev_istore (l' := [_, _, _, _, _, _]) dt_Ta_readWord_171 (Nat.le_of_ble_eq_true rfl) rfl ?_
                              refine ev_iload dt_Ta_readWord_173 rfl ?_
                              refine ev_if_eq (tgt := 196) dt_Ta_readWord_175 (by decide) (by omega) (fun h151 => ?_) (fun h151 => ?_)
                              · skip
                                refine ev_goto (tgt := 201) dt_Ta_readWord_196 (by decide) ?_
                                refine ev_iinc (l' := [_, _, _, _, _, _]) dt_Ta_readWord_201 rfl rfl ?_
                                refine ev_goto (tgt := 58) dt_Ta_readWord_204 (by decide) ?_
                                exact tm_loc (tm_le_s (tm_le_s (tm_le_s (tm_le_s (tm_le_n (tm_le_n tm_le_0)))))) (ihL127 (i128) ((i129 + 1)) ((i130 + 1)) w131 hWw131 hFw131 (by omega) (by omega) (by omega) (by omega) (by omega) (by omega) (by omega) (by omega))
                              · skip
                                exfalso
                                omega
                            · skip
                              refine ev_iconst dt_Ta_readWord_166 ?_
                              refine ev_goto (tgt := 171) dt_Ta_readWord_167 (by decide) ?_
                              refine ev_istore (l' := [_, _, _, _, _, _]) dt_Ta_readWord_171 (Nat.le_of_ble_eq_true rfl) rfl ?_
                              refine ev_iload dt_Ta_readWord_173 rfl ?_
                              refine ev_if_eq (tgt := 196) dt_Ta_readWord_175 (by decide) (by omega) (fun h152 => ?_) (fun h152 => ?_)
                              · skip
                                exfalso
                                omega
                              · skip
                                refine ev_aload_n dt_Ta_readWord_178 rfl rfl ?_
                                refine tm_getK (K := 5) dt_Ta_readWord_179 hWw131 tpt0 fl_Ta_34 rfl ((hFw131 tp 5 (by omega)).trans z139) ?_
                                refine ev_iload_n dt_Ta_readWord_182 rfl rfl ?_
                                refine ev_iadd dt_Ta_readWord_183 ?_
                                refine ev_aload_n dt_Ta_readWord_184 rfl rfl ?_
                                refine tm_getK (K := 2) dt_Ta_readWord_185 hWw131 tpt0 fl_Ta_25 rfl kv140 ?_
                                refine ev_icmp_ne (tgt := 196) dt_Ta_readWord_188 (by decide) (by omega) (by omega) (fun h153 => ?_) (fun h153 => ?_)
                                · skip
                                  refine ev_goto (tgt := 201) dt_Ta_readWord_196 (by decide) ?_
                                  refine ev_iinc (l' := [_, _, _, _, _, _]) dt_Ta_readWord_201 rfl rfl ?_
                                  refine ev_goto (tgt := 58) dt_Ta_readWord_204 (by decide) ?_
                                  exact tm_loc (tm_le_s (tm_le_s (tm_le_s (tm_le_s (tm_le_n (tm_le_n tm_le_0)))))) (ihL127 (i128) ((i129 + 1)) ((i130 + 1)) w131 hWw131 hFw131 (by omega) (by omega) (by omega) (by omega) (by omega) (by omega) (by omega) (by omega))
                                · skip
                                  refine ev_aload_n dt_Ta_readWord_191 rfl rfl ?_
                                  refine ev_iload_n dt_Ta_readWord_192 rfl rfl ?_
                                  refine tm_putI (K := 8) dt_Ta_readWord_193 hWw131 tpt0 (fp_Ta_43 _) rfl rfl trivial (by omega) (by omega) (fun w154 hWw154 kkw154 hfw154 => ?_)
                                  have hFw154 : ∀ (p : Nat) (j : Int), ¬ ((p = tp ∧ (j = 2 ∨ j = 8))) → tm_g w154 p j = tm_g w p j := fun p j h => (hfw154 p j (by omega)).trans (hFw131 p j h)
                                  have z155 := (hfw154 tp 2 (by omega)).trans kv140
                                  refine ev_goto (tgt := 201) dt_Ta_readWord_196 (by decide) ?_
                                  refine ev_iinc (l' := [_, _, _, _, _, _]) dt_Ta_readWord_201 rfl rfl ?_
                                  refine ev_goto (tgt := 58) dt_Ta_readWord_204 (by decide) ?_
                                  exact tm_loc (tm_le_s (tm_le_s (tm_le_s (tm_le_s (tm_le_n (tm_le_n tm_le_0)))))) (ihL127 (i128) ((i129 + 1)) ((i130 + 1)) w154 hWw154 hFw154 (by omega) (by omega) (by omega) (by omega) (by omega) (by omega) (by omega) (by omega))
                  · skip
                    refine ev_iinc (l' := [_, _, _, _, _, _]) dt_Ta_readWord_94 rfl rfl ?_
                    refine ev_iconst dt_Ta_readWord_97 ?_
                    refine ev_istore_n (l' := [_, _, _, _, _, _]) dt_Ta_readWord_98 rfl (Nat.le_of_ble_eq_true rfl) rfl ?_
                    refine ev_goto (tgt := 201) dt_Ta_readWord_99 (by decide) ?_
                    refine ev_iinc (l' := [_, _, _, _, _, _]) dt_Ta_readWord_201 rfl rfl ?_
                    refine ev_goto (tgt := 58) dt_Ta_readWord_204 (by decide) ?_
                    exact tm_loc (tm_le_s (tm_le_s (tm_le_s (tm_le_s (tm_le_n (tm_le_n tm_le_0)))))) (ihL127 ((i128 + 1)) (0) ((i130 + 1)) w131 hWw131 hFw131 (by omega) (by omega) (by omega) (by omega) (by omega) (by omega) (by omega) (by omega))
          exact tm_loc (tm_le_s (tm_le_s (tm_le_s (tm_le_s (tm_le_n (tm_le_n tm_le_0)))))) (L127 (1000 - (0) + 1 : Int).toNat (0) (0) (0)  w91 hWw91 hFw91 (by omega) (by omega) (by omega) (by omega) (by omega) (by omega) (by omega) (by omega))
        · skip
          refine ev_aload_n dt_Ta_readWord_25 rfl rfl ?_
          refine tm_getR dt_Ta_readWord_26 hWw91 tpt0 fl_Ta_9 rfl ?_
          refine ev_aload_n dt_Ta_readWord_29 rfl rfl ?_
          refine tm_getK (K := 2) dt_Ta_readWord_30 hWw91 tpt0 fl_Ta_25 rfl kt92 ?_
          refine tm_baload dt_Ta_readWord_33 hWw91 tpt1 (by omega) (by omega) (by omega) (fun v156 kv156 lv156 uv156 => ?_)
          refine ev_bipush dt_Ta_readWord_34 rfl ?_
          refine ev_icmp_gt (tgt := 52) dt_Ta_readWord_36 (by decide) (by omega) (by omega) (fun h157 => ?_) (fun h157 => ?_)
          · skip
            refine ev_iconst dt_Ta_readWord_52 ?_
            refine ev_istore_n (l' := [_, _, _, _, _, _]) dt_Ta_readWord_53 rfl (Nat.le_of_ble_eq_true rfl) rfl ?_
            refine ev_iconst dt_Ta_readWord_54 ?_
            refine ev_istore_n (l' := [_, _, _, _, _, _]) dt_Ta_readWord_55 rfl (Nat.le_of_ble_eq_true rfl) rfl ?_
            refine ev_iconst dt_Ta_readWord_56 ?_
            refine ev_istore_n (l' := [_, _, _, _, _, _]) dt_Ta_readWord_57 rfl (Nat.le_of_ble_eq_true rfl) rfl ?_
            have L158 : ∀ (n : Nat) (i159 : Int) (i160 : Int) (i161 : Int)  (w162 : ab_W), tm_W N T w162 → (∀ (p : Nat) (j : Int), ¬ ((p = tp ∧ (j = 2 ∨ j = 8))) → tm_g w162 p j = tm_g w p j) → 0 ≤ i159 → i159 ≤ 1000 → (-1) ≤ i160 → i160 ≤ 400 → 0 ≤ i161 → i161 ≤ 1000 → i159 ≤ i161 → 1000 - i161 < (n : Int) → ab_Ev g_G g_rs mt_Ta_readWord 4 0 0 58 [some (ab_R tp), some (ab_I i159), some (ab_I i160), some (ab_I i161), none, none] [] w162 (tm_Qv N T (fun w2 => (∀ (p : Nat) (j : Int), ¬ ((p = tp ∧ (j = 2 ∨ j = 8))) → tm_g w2 p j = tm_g w p j))) := by
              intro n
              induction n with
              | zero =>
                intro i159 i160 i161  w162 hWw162 hFw162 li159 ui159 li160 ui160 li161 ui161 q0L158 mL158
                exfalso
                omega
              | succ nL158 ihL158 =>
                intro i159 i160 i161  w162 hWw162 hFw162 li159 ui159 li160 ui160 li161 ui161 q0L158 mL158
                refine ev_iload_n dt_Ta_readWord_58 rfl rfl ?_
                refine ev_aload_n dt_Ta_readWord_59 rfl rfl ?_
                refine tm_getK (K := 3) dt_Ta_readWord_60 hWw162 tpt0 fl_Ta_17 rfl ((hFw162 tp 3 (by omega)).trans kS) ?_
                have hl63_303 : ((g_ln.getD sk 0 : Nat) : Int) ≤ 1000 := by have := (sb_all sk hsk).1; omega
                refine ev_sk dt_Ta_readWord_63 (co_St_length w162 sk hsk) rfl hsk kb_Ta_55 ⟨im_St_length, se_St_length⟩ rfl (Nat.le_of_ble_eq_true rfl) (by decide) ?_
                refine ev_icmp_ge (tgt := 207) dt_Ta_readWord_66 (by decide) (by omega) (by omega) (fun h163 => ?_) (fun h163 => ?_)
                · skip
                  exact ev_return dt_Ta_readWord_207 rfl ⟨hWw162, rfl, hFw162⟩
                · skip
                  refine ev_aload_n dt_Ta_readWord_69 rfl rfl ?_
                  refine tm_getI (K := 8) dt_Ta_readWord_70 hWw162 tpt0 fl_Ta_43 rfl rfl (fun v164 kv164 lv164 uv164 => ?_)
                  refine ev_iconst dt_Ta_readWord_73 ?_
                  refine ev_icmp_ne (tgt := 207) dt_Ta_readWord_74 (by decide) (by omega) (by omega) (fun h165 => ?_) (fun h165 => ?_)
                  · skip
                    exact ev_return dt_Ta_readWord_207 rfl ⟨hWw162, rfl, hFw162⟩
                  · skip
                    refine ev_aload_n dt_Ta_readWord_77 rfl rfl ?_
                    refine tm_getK (K := 3) dt_Ta_readWord_78 hWw162 tpt0 fl_Ta_17 rfl ((hFw162 tp 3 (by omega)).trans kS) ?_
                    refine ev_iload_n dt_Ta_readWord_81 rfl rfl ?_
                    refine ev_sk dt_Ta_readWord_82 (co_St_charAt w162 sk hsk _ (by omega) (by omega)) rfl hsk kb_Ta_60 ⟨im_St_charAt, se_St_charAt⟩ rfl (Nat.le_of_ble_eq_true rfl) (by decide) ?_
                    refine tm_any (fun v166 hv166 _ => ?_)
                    refine ev_istore (l' := [_, _, _, _, _, _]) dt_Ta_readWord_85 (Nat.le_of_ble_eq_true rfl) rfl ?_
                    refine ev_iload dt_Ta_readWord_87 rfl ?_
                    refine ev_bipush dt_Ta_readWord_89 rfl ?_
                    refine ev_icmp_ne (tgt := 102) dt_Ta_readWord_91 (by decide) (by omega) (by omega) (fun h167 => ?_) (fun h167 => ?_)
                    · skip
                      refine ev_iload_n dt_Ta_readWord_102 rfl rfl ?_
                      refine ev_if_lt (tgt := 199) dt_Ta_readWord_103 (by decide) (by omega) (fun h168 => ?_) (fun h168 => ?_)
                      · skip
                        refine ev_iconst dt_Ta_readWord_199 ?_
                        refine ev_istore_n (l' := [_, _, _, _, _, _]) dt_Ta_readWord_200 rfl (Nat.le_of_ble_eq_true rfl) rfl ?_
                        refine ev_iinc (l' := [_, _, _, _, _, _]) dt_Ta_readWord_201 rfl rfl ?_
                        refine ev_goto (tgt := 58) dt_Ta_readWord_204 (by decide) ?_
                        exact tm_loc (tm_le_s (tm_le_s (tm_le_s (tm_le_s (tm_le_n (tm_le_n tm_le_0)))))) (ihL158 (i159) ((-1)) ((i161 + 1)) w162 hWw162 hFw162 (by omega) (by omega) (by omega) (by omega) (by omega) (by omega) (by omega) (by omega))
                      · skip
                        refine ev_aload_n dt_Ta_readWord_106 rfl rfl ?_
                        refine tm_getI (K := 5) dt_Ta_readWord_107 hWw162 tpt0 fl_Ta_34 rfl rfl (fun v169 kv169 lv169 uv169 => ?_)
                        have z170 := (hFw162 tp 5 (by omega)).symm.trans kv169
                        refine ev_iload_n dt_Ta_readWord_110 rfl rfl ?_
                        refine ev_iadd dt_Ta_readWord_111 ?_
                        refine ev_aload_n dt_Ta_readWord_112 rfl rfl ?_
                        refine tm_getI (K := 2) dt_Ta_readWord_113 hWw162 tpt0 fl_Ta_25 rfl rfl (fun v171 kv171 lv171 uv171 => ?_)
                        refine ev_icmp_ge (tgt := 199) dt_Ta_readWord_116 (by decide) (by omega) (by omega) (fun h172 => ?_) (fun h172 => ?_)
                        · skip
                          refine ev_iconst dt_Ta_readWord_199 ?_
                          refine ev_istore_n (l' := [_, _, _, _, _, _]) dt_Ta_readWord_200 rfl (Nat.le_of_ble_eq_true rfl) rfl ?_
                          refine ev_iinc (l' := [_, _, _, _, _, _]) dt_Ta_readWord_201 rfl rfl ?_
                          refine ev_goto (tgt := 58) dt_Ta_readWord_204 (by decide) ?_
                          exact tm_loc (tm_le_s (tm_le_s (tm_le_s (tm_le_s (tm_le_n (tm_le_n tm_le_0)))))) (ihL158 (i159) ((-1)) ((i161 + 1)) w162 hWw162 hFw162 (by omega) (by omega) (by omega) (by omega) (by omega) (by omega) (by omega) (by omega))
                        · skip
                          refine ev_aload_n dt_Ta_readWord_119 rfl rfl ?_
                          refine tm_getR dt_Ta_readWord_120 hWw162 tpt0 fl_Ta_9 rfl ?_
                          refine ev_aload_n dt_Ta_readWord_123 rfl rfl ?_
                          refine tm_getK (K := 5) dt_Ta_readWord_124 hWw162 tpt0 fl_Ta_34 rfl ((hFw162 tp 5 (by omega)).trans z170) ?_
                          refine ev_iload_n dt_Ta_readWord_127 rfl rfl ?_
                          refine ev_iadd dt_Ta_readWord_128 ?_
                          refine tm_baload dt_Ta_readWord_129 hWw162 tpt1 (by omega) (by omega) (by omega) (fun v173 kv173 lv173 uv173 => ?_)
                          refine ev_iload dt_Ta_readWord_130 rfl ?_
                          refine ev_icmp_ne (tgt := 199) dt_Ta_readWord_132 (by decide) (by omega) (by omega) (fun h174 => ?_) (fun h174 => ?_)
                          · skip
                            refine ev_iconst dt_Ta_readWord_199 ?_
                            refine ev_istore_n (l' := [_, _, _, _, _, _]) dt_Ta_readWord_200 rfl (Nat.le_of_ble_eq_true rfl) rfl ?_
                            refine ev_iinc (l' := [_, _, _, _, _, _]) dt_Ta_readWord_201 rfl rfl ?_
                            refine ev_goto (tgt := 58) dt_Ta_readWord_204 (by decide) ?_
                            exact tm_loc (tm_le_s (tm_le_s (tm_le_s (tm_le_s (tm_le_n (tm_le_n tm_le_0)))))) (ihL158 (i159) ((-1)) ((i161 + 1)) w162 hWw162 hFw162 (by omega) (by omega) (by omega) (by omega) (by omega) (by omega) (by omega) (by omega))
                          · skip
                            refine ev_iinc (l' := [_, _, _, _, _, _]) dt_Ta_readWord_135 rfl rfl ?_
                            refine ev_iload_n dt_Ta_readWord_138 rfl rfl ?_
                            refine ev_iconst dt_Ta_readWord_139 ?_
                            refine ev_iadd dt_Ta_readWord_140 ?_
                            refine ev_aload_n dt_Ta_readWord_141 rfl rfl ?_
                            refine tm_getK (K := 3) dt_Ta_readWord_142 hWw162 tpt0 fl_Ta_17 rfl ((hFw162 tp 3 (by omega)).trans kS) ?_
                            have hl145_358 : ((g_ln.getD sk 0 : Nat) : Int) ≤ 1000 := by have := (sb_all sk hsk).1; omega
                            refine ev_sk dt_Ta_readWord_145 (co_St_length w162 sk hsk) rfl hsk kb_Ta_55 ⟨im_St_length, se_St_length⟩ rfl (Nat.le_of_ble_eq_true rfl) (by decide) ?_
                            refine ev_icmp_eq (tgt := 166) dt_Ta_readWord_148 (by decide) (by omega) (by omega) (fun h175 => ?_) (fun h175 => ?_)
                            · skip
                              refine ev_iconst dt_Ta_readWord_166 ?_
                              refine ev_goto (tgt := 171) dt_Ta_readWord_167 (by decide) ?_
                              refine ev_istore (l' := [_, _, _, _, _, _]) dt_Ta_readWord_171 (Nat.le_of_ble_eq_true rfl) rfl ?_
                              refine ev_iload dt_Ta_readWord_173 rfl ?_
                              refine ev_if_eq (tgt := 196) dt_Ta_readWord_175 (by decide) (by omega) (fun h176 => ?_) (fun h176 => ?_)
                              · skip
                                exfalso
                                omega
                              · skip
                                refine ev_aload_n dt_Ta_readWord_178 rfl rfl ?_
                                refine tm_getK (K := 5) dt_Ta_readWord_179 hWw162 tpt0 fl_Ta_34 rfl ((hFw162 tp 5 (by omega)).trans z170) ?_
                                refine ev_iload_n dt_Ta_readWord_182 rfl rfl ?_
                                refine ev_iadd dt_Ta_readWord_183 ?_
                                refine ev_aload_n dt_Ta_readWord_184 rfl rfl ?_
                                refine tm_getK (K := 2) dt_Ta_readWord_185 hWw162 tpt0 fl_Ta_25 rfl kv171 ?_
                                refine ev_icmp_ne (tgt := 196) dt_Ta_readWord_188 (by decide) (by omega) (by omega) (fun h177 => ?_) (fun h177 => ?_)
                                · skip
                                  refine ev_goto (tgt := 201) dt_Ta_readWord_196 (by decide) ?_
                                  refine ev_iinc (l' := [_, _, _, _, _, _]) dt_Ta_readWord_201 rfl rfl ?_
                                  refine ev_goto (tgt := 58) dt_Ta_readWord_204 (by decide) ?_
                                  exact tm_loc (tm_le_s (tm_le_s (tm_le_s (tm_le_s (tm_le_n (tm_le_n tm_le_0)))))) (ihL158 (i159) ((i160 + 1)) ((i161 + 1)) w162 hWw162 hFw162 (by omega) (by omega) (by omega) (by omega) (by omega) (by omega) (by omega) (by omega))
                                · skip
                                  refine ev_aload_n dt_Ta_readWord_191 rfl rfl ?_
                                  refine ev_iload_n dt_Ta_readWord_192 rfl rfl ?_
                                  refine tm_putI (K := 8) dt_Ta_readWord_193 hWw162 tpt0 (fp_Ta_43 _) rfl rfl trivial (by omega) (by omega) (fun w178 hWw178 kkw178 hfw178 => ?_)
                                  have hFw178 : ∀ (p : Nat) (j : Int), ¬ ((p = tp ∧ (j = 2 ∨ j = 8))) → tm_g w178 p j = tm_g w p j := fun p j h => (hfw178 p j (by omega)).trans (hFw162 p j h)
                                  have z179 := (hfw178 tp 2 (by omega)).trans kv171
                                  refine ev_goto (tgt := 201) dt_Ta_readWord_196 (by decide) ?_
                                  refine ev_iinc (l' := [_, _, _, _, _, _]) dt_Ta_readWord_201 rfl rfl ?_
                                  refine ev_goto (tgt := 58) dt_Ta_readWord_204 (by decide) ?_
                                  exact tm_loc (tm_le_s (tm_le_s (tm_le_s (tm_le_s (tm_le_n (tm_le_n tm_le_0)))))) (ihL158 (i159) ((i160 + 1)) ((i161 + 1)) w178 hWw178 hFw178 (by omega) (by omega) (by omega) (by omega) (by omega) (by omega) (by omega) (by omega))
                            · skip
                              refine ev_aload_n dt_Ta_readWord_151 rfl rfl ?_
                              refine tm_getK (K := 3) dt_Ta_readWord_152 hWw162 tpt0 fl_Ta_17 rfl ((hFw162 tp 3 (by omega)).trans kS) ?_
                              refine ev_iload_n dt_Ta_readWord_155 rfl rfl ?_
                              refine ev_iconst dt_Ta_readWord_156 ?_
                              refine ev_iadd dt_Ta_readWord_157 ?_
                              refine ev_sk dt_Ta_readWord_158 (co_St_charAt w162 sk hsk _ (by omega) (by omega)) rfl hsk kb_Ta_60 ⟨im_St_charAt, se_St_charAt⟩ rfl (Nat.le_of_ble_eq_true rfl) (by decide) ?_
                              refine tm_any (fun v180 hv180 _ => ?_)
                              refine ev_bipush dt_Ta_readWord_161 rfl ?_
                              refine ev_icmp_ne (tgt := 170) dt_Ta_readWord_163 (by decide) (by omega) (by omega) (fun h181 => ?_) (fun h181 => ?_)
                              · skip
                                refine ev_iconst dt_Ta_readWord_170 ?_
                                refine ev_istore (l' := [_, _, _, _, _, _]) dt_Ta_readWord_171 (Nat.le_of_ble_eq_true rfl) rfl ?_
                                refine ev_iload dt_Ta_readWord_173 rfl ?_
                                refine ev_if_eq (tgt := 196) dt_Ta_readWord_175 (by decide) (by omega) (fun h182 => ?_) (fun h182 => ?_)
                                · skip
                                  refine ev_goto (tgt := 201) dt_Ta_readWord_196 (by decide) ?_
                                  refine ev_iinc (l' := [_, _, _, _, _, _]) dt_Ta_readWord_201 rfl rfl ?_
                                  refine ev_goto (tgt := 58) dt_Ta_readWord_204 (by decide) ?_
                                  exact tm_loc (tm_le_s (tm_le_s (tm_le_s (tm_le_s (tm_le_n (tm_le_n tm_le_0)))))) (ihL158 (i159) ((i160 + 1)) ((i161 + 1)) w162 hWw162 hFw162 (by omega) (by omega) (by omega) (by omega) (by omega) (by omega) (by omega) (by omega))
                                · skip
                                  exfalso
                                  omega
                              · skip
                                refine ev_iconst dt_Ta_readWord_166 ?_
                                refine ev_goto (tgt := 171) dt_Ta_readWord_167 (by decide) ?_
                                refine ev_istore (l' := [_, _, _, _, _, _]) dt_Ta_readWord_171 (Nat.le_of_ble_eq_true rfl) rfl ?_
                                refine ev_iload dt_Ta_readWord_173 rfl ?_
                                refine ev_if_eq (tgt := 196) dt_Ta_readWord_175 (by decide) (by omega) (fun h183 => ?_) (fun h183 => ?_)
                                · skip
                                  exfalso
                                  omega
                                · skip
                                  refine ev_aload_n dt_Ta_readWord_178 rfl rfl ?_
                                  refine tm_getK (K := 5) dt_Ta_readWord_179 hWw162 tpt0 fl_Ta_34 rfl ((hFw162 tp 5 (by omega)).trans z170) ?_
                                  refine ev_iload_n dt_Ta_readWord_182 rfl rfl ?_
                                  refine ev_iadd dt_Ta_readWord_183 ?_
                                  refine ev_aload_n dt_Ta_readWord_184 rfl rfl ?_
                                  refine tm_getK (K := 2) dt_Ta_readWord_185 hWw162 tpt0 fl_Ta_25 rfl kv171 ?_
                                  refine ev_icmp_ne (tgt := 196) dt_Ta_readWord_188 (by decide) (by omega) (by omega) (fun h184 => ?_) (fun h184 => ?_)
                                  · skip
                                    refine ev_goto (tgt := 201) dt_Ta_readWord_196 (by decide) ?_
                                    refine ev_iinc (l' := [_, _, _, _, _, _]) dt_Ta_readWord_201 rfl rfl ?_
                                    refine ev_goto (tgt := 58) dt_Ta_readWord_204 (by decide) ?_
                                    exact tm_loc (tm_le_s (tm_le_s (tm_le_s (tm_le_s (tm_le_n (tm_le_n tm_le_0)))))) (ihL158 (i159) ((i160 + 1)) ((i161 + 1)) w162 hWw162 hFw162 (by omega) (by omega) (by omega) (by omega) (by omega) (by omega) (by omega) (by omega))
                                  · skip
                                    refine ev_aload_n dt_Ta_readWord_191 rfl rfl ?_
                                    refine ev_iload_n dt_Ta_readWord_192 rfl rfl ?_
                                    refine tm_putI (K := 8) dt_Ta_readWord_193 hWw162 tpt0 (fp_Ta_43 _) rfl rfl trivial (by omega) (by omega) (fun w185 hWw185 kkw185 hfw185 => ?_)
                                    have hFw185 : ∀ (p : Nat) (j : Int), ¬ ((p = tp ∧ (j = 2 ∨ j = 8))) → tm_g w185 p j = tm_g w p j := fun p j h => (hfw185 p j (by omega)).trans (hFw162 p j h)
                                    have z186 := (hfw185 tp 2 (by omega)).trans kv171
                                    refine ev_goto (tgt := 201) dt_Ta_readWord_196 (by decide) ?_
                                    refine ev_iinc (l' := [_, _, _, _, _, _]) dt_Ta_readWord_201 rfl rfl ?_
                                    refine ev_goto (tgt := 58) dt_Ta_readWord_204 (by decide) ?_
                                    exact tm_loc (tm_le_s (tm_le_s (tm_le_s (tm_le_s (tm_le_n (tm_le_n tm_le_0)))))) (ihL158 (i159) ((i160 + 1)) ((i161 + 1)) w185 hWw185 hFw185 (by omega) (by omega) (by omega) (by omega) (by omega) (by omega) (by omega) (by omega))
                    · skip
                      refine ev_iinc (l' := [_, _, _, _, _, _]) dt_Ta_readWord_94 rfl rfl ?_
                      refine ev_iconst dt_Ta_readWord_97 ?_
                      refine ev_istore_n (l' := [_, _, _, _, _, _]) dt_Ta_readWord_98 rfl (Nat.le_of_ble_eq_true rfl) rfl ?_
                      refine ev_goto (tgt := 201) dt_Ta_readWord_99 (by decide) ?_
                      refine ev_iinc (l' := [_, _, _, _, _, _]) dt_Ta_readWord_201 rfl rfl ?_
                      refine ev_goto (tgt := 58) dt_Ta_readWord_204 (by decide) ?_
                      exact tm_loc (tm_le_s (tm_le_s (tm_le_s (tm_le_s (tm_le_n (tm_le_n tm_le_0)))))) (ihL158 ((i159 + 1)) (0) ((i161 + 1)) w162 hWw162 hFw162 (by omega) (by omega) (by omega) (by omega) (by omega) (by omega) (by omega) (by omega))
            exact tm_loc (tm_le_s (tm_le_s (tm_le_s (tm_le_s (tm_le_n (tm_le_n tm_le_0)))))) (L158 (1000 - (0) + 1 : Int).toNat (0) (0) (0)  w91 hWw91 hFw91 (by omega) (by omega) (by omega) (by omega) (by omega) (by omega) (by omega) (by omega))
          · skip
            refine ev_aload_n dt_Ta_readWord_39 rfl rfl ?_
            refine ev_dup dt_Ta_readWord_40 rfl ?_
            refine tm_getK (K := 2) dt_Ta_readWord_41 hWw91 tpt0 fl_Ta_25 rfl kt92 ?_
            refine ev_iconst dt_Ta_readWord_44 ?_
            refine ev_iadd dt_Ta_readWord_45 ?_
            refine tm_putI (K := 2) dt_Ta_readWord_46 hWw91 tpt0 (fp_Ta_25 _) rfl rfl trivial (by omega) (by omega) (fun w187 hWw187 kkw187 hfw187 => ?_)
            have hFw187 : ∀ (p : Nat) (j : Int), ¬ ((p = tp ∧ (j = 2 ∨ j = 8))) → tm_g w187 p j = tm_g w p j := fun p j h => (hfw187 p j (by omega)).trans (hFw91 p j h)
            refine ev_goto (tgt := 0) dt_Ta_readWord_49 (by decide) ?_
            exact tm_loc (tm_le_s (tm_le_n (tm_le_n (tm_le_n (tm_le_n (tm_le_n tm_le_0)))))) (ihL90 ((t92 + 1)) w187 hWw187 hFw187 kkw187 (by omega) (by omega) (by omega))
  exact tm_loc (tm_le_s (tm_le_n (tm_le_n (tm_le_n (tm_le_n (tm_le_n tm_le_0)))))) (L90 (400 - (v89) + 1 : Int).toNat  (v89) w hW hF0 kv89 (by omega) (by omega) (by omega))
theorem dt_Ta_readSign_0 : decode prog_11_method_8_code 0 = .ok (.aload_n 0, 1) := by decide +kernel
theorem dt_Ta_readSign_1 : decode prog_11_method_8_code 1 = .ok (.aload_n 0, 1) := by decide +kernel
theorem dt_Ta_readSign_2 : decode prog_11_method_8_code 2 = .ok (.getfield 9, 3) := by decide +kernel
theorem dt_Ta_readSign_5 : decode prog_11_method_8_code 5 = .ok (.aload_n 0, 1) := by decide +kernel
theorem dt_Ta_readSign_6 : decode prog_11_method_8_code 6 = .ok (.getfield 25, 3) := by decide +kernel
theorem dt_Ta_readSign_9 : decode prog_11_method_8_code 9 = .ok (.baload, 1) := by decide +kernel
theorem dt_Ta_readSign_10 : decode prog_11_method_8_code 10 = .ok (.sipush 255, 3) := by decide +kernel
theorem dt_Ta_readSign_13 : decode prog_11_method_8_code 13 = .ok (.iand, 1) := by decide +kernel
theorem dt_Ta_readSign_14 : decode prog_11_method_8_code 14 = .ok (.putfield 37, 3) := by decide +kernel
theorem dt_Ta_readSign_17 : decode prog_11_method_8_code 17 = .ok (.aload_n 0, 1) := by decide +kernel
theorem dt_Ta_readSign_18 : decode prog_11_method_8_code 18 = .ok (.dup, 1) := by decide +kernel
theorem dt_Ta_readSign_19 : decode prog_11_method_8_code 19 = .ok (.getfield 25, 3) := by decide +kernel
theorem dt_Ta_readSign_22 : decode prog_11_method_8_code 22 = .ok (.iconst 1, 1) := by decide +kernel
theorem dt_Ta_readSign_23 : decode prog_11_method_8_code 23 = .ok (.iadd, 1) := by decide +kernel
theorem dt_Ta_readSign_24 : decode prog_11_method_8_code 24 = .ok (.putfield 25, 3) := by decide +kernel
theorem dt_Ta_readSign_27 : decode prog_11_method_8_code 27 = .ok (.aload_n 0, 1) := by decide +kernel
theorem dt_Ta_readSign_28 : decode prog_11_method_8_code 28 = .ok (.getfield 25, 3) := by decide +kernel
theorem dt_Ta_readSign_31 : decode prog_11_method_8_code 31 = .ok (.aload_n 0, 1) := by decide +kernel
theorem dt_Ta_readSign_32 : decode prog_11_method_8_code 32 = .ok (.getfield 21, 3) := by decide +kernel
theorem dt_Ta_readSign_35 : decode prog_11_method_8_code 35 = .ok (.if_icmp .ge 21, 3) := by decide +kernel
theorem dt_Ta_readSign_38 : decode prog_11_method_8_code 38 = .ok (.aload_n 0, 1) := by decide +kernel
theorem dt_Ta_readSign_39 : decode prog_11_method_8_code 39 = .ok (.getfield 9, 3) := by decide +kernel
theorem dt_Ta_readSign_42 : decode prog_11_method_8_code 42 = .ok (.aload_n 0, 1) := by decide +kernel
theorem dt_Ta_readSign_43 : decode prog_11_method_8_code 43 = .ok (.getfield 25, 3) := by decide +kernel
theorem dt_Ta_readSign_46 : decode prog_11_method_8_code 46 = .ok (.baload, 1) := by decide +kernel
theorem dt_Ta_readSign_47 : decode prog_11_method_8_code 47 = .ok (.bipush 61, 2) := by decide +kernel
theorem dt_Ta_readSign_49 : decode prog_11_method_8_code 49 = .ok (.if_icmp .ne 7, 3) := by decide +kernel
theorem dt_Ta_readSign_52 : decode prog_11_method_8_code 52 = .ok (.iconst 1, 1) := by decide +kernel
theorem dt_Ta_readSign_53 : decode prog_11_method_8_code 53 = .ok (.goto 4, 3) := by decide +kernel
theorem dt_Ta_readSign_56 : decode prog_11_method_8_code 56 = .ok (.iconst 0, 1) := by decide +kernel
theorem dt_Ta_readSign_57 : decode prog_11_method_8_code 57 = .ok (.istore_n 1, 1) := by decide +kernel
theorem dt_Ta_readSign_58 : decode prog_11_method_8_code 58 = .ok (.iload_n 1, 1) := by decide +kernel
theorem dt_Ta_readSign_59 : decode prog_11_method_8_code 59 = .ok (.ifCond .eq 53, 3) := by decide +kernel
theorem dt_Ta_readSign_62 : decode prog_11_method_8_code 62 = .ok (.aload_n 0, 1) := by decide +kernel
theorem dt_Ta_readSign_63 : decode prog_11_method_8_code 63 = .ok (.getfield 37, 3) := by decide +kernel
theorem dt_Ta_readSign_66 : decode prog_11_method_8_code 66 = .ok (.bipush 60, 2) := by decide +kernel
theorem dt_Ta_readSign_68 : decode prog_11_method_8_code 68 = .ok (.if_icmp .eq 12, 3) := by decide +kernel
theorem dt_Ta_readSign_71 : decode prog_11_method_8_code 71 = .ok (.aload_n 0, 1) := by decide +kernel
theorem dt_Ta_readSign_72 : decode prog_11_method_8_code 72 = .ok (.getfield 37, 3) := by decide +kernel
theorem dt_Ta_readSign_75 : decode prog_11_method_8_code 75 = .ok (.bipush 62, 2) := by decide +kernel
theorem dt_Ta_readSign_77 : decode prog_11_method_8_code 77 = .ok (.if_icmp .ne 35, 3) := by decide +kernel
theorem dt_Ta_readSign_80 : decode prog_11_method_8_code 80 = .ok (.aload_n 0, 1) := by decide +kernel
theorem dt_Ta_readSign_81 : decode prog_11_method_8_code 81 = .ok (.aload_n 0, 1) := by decide +kernel
theorem dt_Ta_readSign_82 : decode prog_11_method_8_code 82 = .ok (.getfield 37, 3) := by decide +kernel
theorem dt_Ta_readSign_85 : decode prog_11_method_8_code 85 = .ok (.bipush 60, 2) := by decide +kernel
theorem dt_Ta_readSign_87 : decode prog_11_method_8_code 87 = .ok (.if_icmp .ne 9, 3) := by decide +kernel
theorem dt_Ta_readSign_90 : decode prog_11_method_8_code 90 = .ok (.sipush 256, 3) := by decide +kernel
theorem dt_Ta_readSign_93 : decode prog_11_method_8_code 93 = .ok (.goto 6, 3) := by decide +kernel
theorem dt_Ta_readSign_96 : decode prog_11_method_8_code 96 = .ok (.sipush 257, 3) := by decide +kernel
theorem dt_Ta_readSign_99 : decode prog_11_method_8_code 99 = .ok (.putfield 37, 3) := by decide +kernel
theorem dt_Ta_readSign_102 : decode prog_11_method_8_code 102 = .ok (.aload_n 0, 1) := by decide +kernel
theorem dt_Ta_readSign_103 : decode prog_11_method_8_code 103 = .ok (.dup, 1) := by decide +kernel
theorem dt_Ta_readSign_104 : decode prog_11_method_8_code 104 = .ok (.getfield 25, 3) := by decide +kernel
theorem dt_Ta_readSign_107 : decode prog_11_method_8_code 107 = .ok (.iconst 1, 1) := by decide +kernel
theorem dt_Ta_readSign_108 : decode prog_11_method_8_code 108 = .ok (.iadd, 1) := by decide +kernel
theorem dt_Ta_readSign_109 : decode prog_11_method_8_code 109 = .ok (.putfield 25, 3) := by decide +kernel
theorem dt_Ta_readSign_112 : decode prog_11_method_8_code 112 = .ok (.return_, 1) := by decide +kernel
set_option maxHeartbeats 4000000 in
set_option maxRecDepth 10000 in
theorem tm_Ta_readSign {N : Nat} {T : Nat → tm_S} {w : ab_W} {tp : Nat} (hW : tm_W N T w) (h_tp : is_Ta T tp) (a0 : Int) (k_a0 : tm_g w tp 2 = some (ab_I a0)) (l_a0 : 0 ≤ a0) (u_a0 : a0 ≤ 399) : ab_Mt g_G g_rs mt_Ta_readSign 0 0 0 [ab_R tp] w (tm_Qv N T (fun w2 => (∀ (p : Nat) (j : Int), ¬ ((p = tp ∧ (j = 6 ∨ j = 2))) → tm_g w2 p j = tm_g w p j))) := by
  obtain ⟨tpt0, tpt1⟩ := id h_tp
  have hF0 : ∀ (p : Nat) (j : Int), ¬ ((p = tp ∧ (j = 6 ∨ j = 2))) → tm_g w p j = tm_g w p j := fun _ _ _ => rfl
  refine ab_Mt.of rfl (Nat.le_of_ble_eq_true rfl) ?_
  show ab_Ev g_G g_rs mt_Ta_readSign _ _ _ 0 [some (ab_R tp), none] [] _ _
  refine ev_aload_n dt_Ta_readSign_0 rfl rfl ?_
  refine ev_aload_n dt_Ta_readSign_1 rfl rfl ?_
  refine tm_getR dt_Ta_readSign_2 hW tpt0 fl_Ta_9 rfl ?_
  refine ev_aload_n dt_Ta_readSign_5 rfl rfl ?_
  refine tm_getK (K := 2) dt_Ta_readSign_6 hW tpt0 fl_Ta_25 rfl k_a0 ?_
  refine tm_baload dt_Ta_readSign_9 hW tpt1 (by omega) (by omega) (by omega) (fun v188 kv188 lv188 uv188 => ?_)
  refine ev_sipush dt_Ta_readSign_10 rfl ?_
  refine tm_iand dt_Ta_readSign_13 (by omega) (by omega) (fun v189 x1 x2 x3 => ?_)
  have hv189 : 0 ≤ v189 ∧ v189 ≤ 255 := by omega
  clear x1 x2 x3
  refine tm_putI (K := 6) dt_Ta_readSign_14 hW tpt0 (fp_Ta_37 _) rfl rfl trivial (by omega) (by omega) (fun w190 hWw190 kkw190 hfw190 => ?_)
  have hFw190 : ∀ (p : Nat) (j : Int), ¬ ((p = tp ∧ (j = 6 ∨ j = 2))) → tm_g w190 p j = tm_g w p j := fun p j h => (hfw190 p j (by omega)).trans (hF0 p j h)
  have z191 := (hfw190 tp 2 (by omega)).trans k_a0
  refine ev_aload_n dt_Ta_readSign_17 rfl rfl ?_
  refine ev_dup dt_Ta_readSign_18 rfl ?_
  refine tm_getK (K := 2) dt_Ta_readSign_19 hWw190 tpt0 fl_Ta_25 rfl z191 ?_
  refine ev_iconst dt_Ta_readSign_22 ?_
  refine ev_iadd dt_Ta_readSign_23 ?_
  refine tm_putI (K := 2) dt_Ta_readSign_24 hWw190 tpt0 (fp_Ta_25 _) rfl rfl trivial (by omega) (by omega) (fun w192 hWw192 kkw192 hfw192 => ?_)
  have hFw192 : ∀ (p : Nat) (j : Int), ¬ ((p = tp ∧ (j = 6 ∨ j = 2))) → tm_g w192 p j = tm_g w p j := fun p j h => (hfw192 p j (by omega)).trans (hFw190 p j h)
  have z193 := (hfw192 tp 6 (by omega)).trans kkw190
  refine ev_aload_n dt_Ta_readSign_27 rfl rfl ?_
  refine tm_getK (K := 2) dt_Ta_readSign_28 hWw192 tpt0 fl_Ta_25 rfl kkw192 ?_
  refine ev_aload_n dt_Ta_readSign_31 rfl rfl ?_
  refine tm_getI (K := 1) dt_Ta_readSign_32 hWw192 tpt0 fl_Ta_21 rfl rfl (fun v194 kv194 lv194 uv194 => ?_)
  have z195 := (hFw192 tp 1 (by omega)).symm.trans kv194
  refine ev_icmp_ge (tgt := 56) dt_Ta_readSign_35 (by decide) (by omega) (by omega) (fun h196 => ?_) (fun h196 => ?_)
  · skip
    refine ev_iconst dt_Ta_readSign_56 ?_
    refine ev_istore_n (l' := [_, _]) dt_Ta_readSign_57 rfl (Nat.le_of_ble_eq_true rfl) rfl ?_
    refine ev_iload_n dt_Ta_readSign_58 rfl rfl ?_
    refine ev_if_eq (tgt := 112) dt_Ta_readSign_59 (by decide) (by omega) (fun h197 => ?_) (fun h197 => ?_)
    · skip
      exact ev_return dt_Ta_readSign_112 rfl ⟨hWw192, rfl, hFw192⟩
    · skip
      exfalso
      omega
  · skip
    refine ev_aload_n dt_Ta_readSign_38 rfl rfl ?_
    refine tm_getR dt_Ta_readSign_39 hWw192 tpt0 fl_Ta_9 rfl ?_
    refine ev_aload_n dt_Ta_readSign_42 rfl rfl ?_
    refine tm_getK (K := 2) dt_Ta_readSign_43 hWw192 tpt0 fl_Ta_25 rfl kkw192 ?_
    refine tm_baload dt_Ta_readSign_46 hWw192 tpt1 (by omega) (by omega) (by omega) (fun v198 kv198 lv198 uv198 => ?_)
    refine ev_bipush dt_Ta_readSign_47 rfl ?_
    refine ev_icmp_ne (tgt := 56) dt_Ta_readSign_49 (by decide) (by omega) (by omega) (fun h199 => ?_) (fun h199 => ?_)
    · skip
      refine ev_iconst dt_Ta_readSign_56 ?_
      refine ev_istore_n (l' := [_, _]) dt_Ta_readSign_57 rfl (Nat.le_of_ble_eq_true rfl) rfl ?_
      refine ev_iload_n dt_Ta_readSign_58 rfl rfl ?_
      refine ev_if_eq (tgt := 112) dt_Ta_readSign_59 (by decide) (by omega) (fun h200 => ?_) (fun h200 => ?_)
      · skip
        exact ev_return dt_Ta_readSign_112 rfl ⟨hWw192, rfl, hFw192⟩
      · skip
        exfalso
        omega
    · skip
      refine ev_iconst dt_Ta_readSign_52 ?_
      refine ev_goto (tgt := 57) dt_Ta_readSign_53 (by decide) ?_
      refine ev_istore_n (l' := [_, _]) dt_Ta_readSign_57 rfl (Nat.le_of_ble_eq_true rfl) rfl ?_
      refine ev_iload_n dt_Ta_readSign_58 rfl rfl ?_
      refine ev_if_eq (tgt := 112) dt_Ta_readSign_59 (by decide) (by omega) (fun h201 => ?_) (fun h201 => ?_)
      · skip
        exfalso
        omega
      · skip
        refine ev_aload_n dt_Ta_readSign_62 rfl rfl ?_
        refine tm_getK (K := 6) dt_Ta_readSign_63 hWw192 tpt0 fl_Ta_37 rfl z193 ?_
        refine ev_bipush dt_Ta_readSign_66 rfl ?_
        refine ev_icmp_eq (tgt := 80) dt_Ta_readSign_68 (by decide) (by omega) (by omega) (fun h202 => ?_) (fun h202 => ?_)
        · skip
          refine ev_aload_n dt_Ta_readSign_80 rfl rfl ?_
          refine ev_aload_n dt_Ta_readSign_81 rfl rfl ?_
          refine tm_getK (K := 6) dt_Ta_readSign_82 hWw192 tpt0 fl_Ta_37 rfl z193 ?_
          refine ev_bipush dt_Ta_readSign_85 rfl ?_
          refine ev_icmp_ne (tgt := 96) dt_Ta_readSign_87 (by decide) (by omega) (by omega) (fun h203 => ?_) (fun h203 => ?_)
          · skip
            exfalso
            omega
          · skip
            refine ev_sipush dt_Ta_readSign_90 rfl ?_
            refine ev_goto (tgt := 99) dt_Ta_readSign_93 (by decide) ?_
            refine tm_putI (K := 6) dt_Ta_readSign_99 hWw192 tpt0 (fp_Ta_37 _) rfl rfl trivial (by omega) (by omega) (fun w204 hWw204 kkw204 hfw204 => ?_)
            have hFw204 : ∀ (p : Nat) (j : Int), ¬ ((p = tp ∧ (j = 6 ∨ j = 2))) → tm_g w204 p j = tm_g w p j := fun p j h => (hfw204 p j (by omega)).trans (hFw192 p j h)
            have z205 := (hfw204 tp 2 (by omega)).trans kkw192
            refine ev_aload_n dt_Ta_readSign_102 rfl rfl ?_
            refine ev_dup dt_Ta_readSign_103 rfl ?_
            refine tm_getK (K := 2) dt_Ta_readSign_104 hWw204 tpt0 fl_Ta_25 rfl z205 ?_
            refine ev_iconst dt_Ta_readSign_107 ?_
            refine ev_iadd dt_Ta_readSign_108 ?_
            refine tm_putI (K := 2) dt_Ta_readSign_109 hWw204 tpt0 (fp_Ta_25 _) rfl rfl trivial (by omega) (by omega) (fun w206 hWw206 kkw206 hfw206 => ?_)
            have hFw206 : ∀ (p : Nat) (j : Int), ¬ ((p = tp ∧ (j = 6 ∨ j = 2))) → tm_g w206 p j = tm_g w p j := fun p j h => (hfw206 p j (by omega)).trans (hFw204 p j h)
            have z207 := (hfw206 tp 6 (by omega)).trans kkw204
            exact ev_return dt_Ta_readSign_112 rfl ⟨hWw206, rfl, hFw206⟩
        · skip
          refine ev_aload_n dt_Ta_readSign_71 rfl rfl ?_
          refine tm_getK (K := 6) dt_Ta_readSign_72 hWw192 tpt0 fl_Ta_37 rfl z193 ?_
          refine ev_bipush dt_Ta_readSign_75 rfl ?_
          refine ev_icmp_ne (tgt := 112) dt_Ta_readSign_77 (by decide) (by omega) (by omega) (fun h208 => ?_) (fun h208 => ?_)
          · skip
            exact ev_return dt_Ta_readSign_112 rfl ⟨hWw192, rfl, hFw192⟩
          · skip
            refine ev_aload_n dt_Ta_readSign_80 rfl rfl ?_
            refine ev_aload_n dt_Ta_readSign_81 rfl rfl ?_
            refine tm_getK (K := 6) dt_Ta_readSign_82 hWw192 tpt0 fl_Ta_37 rfl z193 ?_
            refine ev_bipush dt_Ta_readSign_85 rfl ?_
            refine ev_icmp_ne (tgt := 96) dt_Ta_readSign_87 (by decide) (by omega) (by omega) (fun h209 => ?_) (fun h209 => ?_)
            · skip
              refine ev_sipush dt_Ta_readSign_96 rfl ?_
              refine tm_putI (K := 6) dt_Ta_readSign_99 hWw192 tpt0 (fp_Ta_37 _) rfl rfl trivial (by omega) (by omega) (fun w210 hWw210 kkw210 hfw210 => ?_)
              have hFw210 : ∀ (p : Nat) (j : Int), ¬ ((p = tp ∧ (j = 6 ∨ j = 2))) → tm_g w210 p j = tm_g w p j := fun p j h => (hfw210 p j (by omega)).trans (hFw192 p j h)
              have z211 := (hfw210 tp 2 (by omega)).trans kkw192
              refine ev_aload_n dt_Ta_readSign_102 rfl rfl ?_
              refine ev_dup dt_Ta_readSign_103 rfl ?_
              refine tm_getK (K := 2) dt_Ta_readSign_104 hWw210 tpt0 fl_Ta_25 rfl z211 ?_
              refine ev_iconst dt_Ta_readSign_107 ?_
              refine ev_iadd dt_Ta_readSign_108 ?_
              refine tm_putI (K := 2) dt_Ta_readSign_109 hWw210 tpt0 (fp_Ta_25 _) rfl rfl trivial (by omega) (by omega) (fun w212 hWw212 kkw212 hfw212 => ?_)
              have hFw212 : ∀ (p : Nat) (j : Int), ¬ ((p = tp ∧ (j = 6 ∨ j = 2))) → tm_g w212 p j = tm_g w p j := fun p j h => (hfw212 p j (by omega)).trans (hFw210 p j h)
              have z213 := (hfw212 tp 6 (by omega)).trans kkw210
              exact ev_return dt_Ta_readSign_112 rfl ⟨hWw212, rfl, hFw212⟩
            · skip
              exfalso
              omega
theorem dt_Ta_advance_0 : decode prog_11_method_5_code 0 = .ok (.aload_n 0, 1) := by decide +kernel
theorem dt_Ta_advance_1 : decode prog_11_method_5_code 1 = .ok (.getfield 25, 3) := by decide +kernel
theorem dt_Ta_advance_4 : decode prog_11_method_5_code 4 = .ok (.aload_n 0, 1) := by decide +kernel
theorem dt_Ta_advance_5 : decode prog_11_method_5_code 5 = .ok (.getfield 21, 3) := by decide +kernel
theorem dt_Ta_advance_8 : decode prog_11_method_5_code 8 = .ok (.if_icmp .ge 30, 3) := by decide +kernel
theorem dt_Ta_advance_11 : decode prog_11_method_5_code 11 = .ok (.aload_n 0, 1) := by decide +kernel
theorem dt_Ta_advance_12 : decode prog_11_method_5_code 12 = .ok (.getfield 9, 3) := by decide +kernel
theorem dt_Ta_advance_15 : decode prog_11_method_5_code 15 = .ok (.aload_n 0, 1) := by decide +kernel
theorem dt_Ta_advance_16 : decode prog_11_method_5_code 16 = .ok (.getfield 25, 3) := by decide +kernel
theorem dt_Ta_advance_19 : decode prog_11_method_5_code 19 = .ok (.baload, 1) := by decide +kernel
theorem dt_Ta_advance_20 : decode prog_11_method_5_code 20 = .ok (.bipush 32, 2) := by decide +kernel
theorem dt_Ta_advance_22 : decode prog_11_method_5_code 22 = .ok (.if_icmp .ne 16, 3) := by decide +kernel
theorem dt_Ta_advance_25 : decode prog_11_method_5_code 25 = .ok (.aload_n 0, 1) := by decide +kernel
theorem dt_Ta_advance_26 : decode prog_11_method_5_code 26 = .ok (.dup, 1) := by decide +kernel
theorem dt_Ta_advance_27 : decode prog_11_method_5_code 27 = .ok (.getfield 25, 3) := by decide +kernel
theorem dt_Ta_advance_30 : decode prog_11_method_5_code 30 = .ok (.iconst 1, 1) := by decide +kernel
theorem dt_Ta_advance_31 : decode prog_11_method_5_code 31 = .ok (.iadd, 1) := by decide +kernel
theorem dt_Ta_advance_32 : decode prog_11_method_5_code 32 = .ok (.putfield 25, 3) := by decide +kernel
theorem dt_Ta_advance_35 : decode prog_11_method_5_code 35 = .ok (.goto (-35), 3) := by decide +kernel
theorem dt_Ta_advance_38 : decode prog_11_method_5_code 38 = .ok (.aload_n 0, 1) := by decide +kernel
theorem dt_Ta_advance_39 : decode prog_11_method_5_code 39 = .ok (.aload_n 0, 1) := by decide +kernel
theorem dt_Ta_advance_40 : decode prog_11_method_5_code 40 = .ok (.getfield 25, 3) := by decide +kernel
theorem dt_Ta_advance_43 : decode prog_11_method_5_code 43 = .ok (.putfield 34, 3) := by decide +kernel
theorem dt_Ta_advance_46 : decode prog_11_method_5_code 46 = .ok (.aload_n 0, 1) := by decide +kernel
theorem dt_Ta_advance_47 : decode prog_11_method_5_code 47 = .ok (.iconst (-1), 1) := by decide +kernel
theorem dt_Ta_advance_48 : decode prog_11_method_5_code 48 = .ok (.putfield 40, 3) := by decide +kernel
theorem dt_Ta_advance_51 : decode prog_11_method_5_code 51 = .ok (.aload_n 0, 1) := by decide +kernel
theorem dt_Ta_advance_52 : decode prog_11_method_5_code 52 = .ok (.iconst (-1), 1) := by decide +kernel
theorem dt_Ta_advance_53 : decode prog_11_method_5_code 53 = .ok (.putfield 43, 3) := by decide +kernel
theorem dt_Ta_advance_56 : decode prog_11_method_5_code 56 = .ok (.aload_n 0, 1) := by decide +kernel
theorem dt_Ta_advance_57 : decode prog_11_method_5_code 57 = .ok (.getfield 25, 3) := by decide +kernel
theorem dt_Ta_advance_60 : decode prog_11_method_5_code 60 = .ok (.aload_n 0, 1) := by decide +kernel
theorem dt_Ta_advance_61 : decode prog_11_method_5_code 61 = .ok (.getfield 21, 3) := by decide +kernel
theorem dt_Ta_advance_64 : decode prog_11_method_5_code 64 = .ok (.if_icmp .lt 11, 3) := by decide +kernel
theorem dt_Ta_advance_67 : decode prog_11_method_5_code 67 = .ok (.aload_n 0, 1) := by decide +kernel
theorem dt_Ta_advance_68 : decode prog_11_method_5_code 68 = .ok (.iconst (-1), 1) := by decide +kernel
theorem dt_Ta_advance_69 : decode prog_11_method_5_code 69 = .ok (.putfield 37, 3) := by decide +kernel
theorem dt_Ta_advance_72 : decode prog_11_method_5_code 72 = .ok (.goto 89, 3) := by decide +kernel
theorem dt_Ta_advance_75 : decode prog_11_method_5_code 75 = .ok (.aload_n 0, 1) := by decide +kernel
theorem dt_Ta_advance_76 : decode prog_11_method_5_code 76 = .ok (.getfield 9, 3) := by decide +kernel
theorem dt_Ta_advance_79 : decode prog_11_method_5_code 79 = .ok (.aload_n 0, 1) := by decide +kernel
theorem dt_Ta_advance_80 : decode prog_11_method_5_code 80 = .ok (.getfield 25, 3) := by decide +kernel
theorem dt_Ta_advance_83 : decode prog_11_method_5_code 83 = .ok (.baload, 1) := by decide +kernel
theorem dt_Ta_advance_84 : decode prog_11_method_5_code 84 = .ok (.bipush 48, 2) := by decide +kernel
theorem dt_Ta_advance_86 : decode prog_11_method_5_code 86 = .ok (.if_icmp .lt 30, 3) := by decide +kernel
theorem dt_Ta_advance_89 : decode prog_11_method_5_code 89 = .ok (.aload_n 0, 1) := by decide +kernel
theorem dt_Ta_advance_90 : decode prog_11_method_5_code 90 = .ok (.getfield 9, 3) := by decide +kernel
theorem dt_Ta_advance_93 : decode prog_11_method_5_code 93 = .ok (.aload_n 0, 1) := by decide +kernel
theorem dt_Ta_advance_94 : decode prog_11_method_5_code 94 = .ok (.getfield 25, 3) := by decide +kernel
theorem dt_Ta_advance_97 : decode prog_11_method_5_code 97 = .ok (.baload, 1) := by decide +kernel
theorem dt_Ta_advance_98 : decode prog_11_method_5_code 98 = .ok (.bipush 57, 2) := by decide +kernel
theorem dt_Ta_advance_100 : decode prog_11_method_5_code 100 = .ok (.if_icmp .gt 16, 3) := by decide +kernel
theorem dt_Ta_advance_103 : decode prog_11_method_5_code 103 = .ok (.aload_n 0, 1) := by decide +kernel
theorem dt_Ta_advance_104 : decode prog_11_method_5_code 104 = .ok (.bipush (-2), 2) := by decide +kernel
theorem dt_Ta_advance_106 : decode prog_11_method_5_code 106 = .ok (.putfield 37, 3) := by decide +kernel
theorem dt_Ta_advance_109 : decode prog_11_method_5_code 109 = .ok (.aload_n 0, 1) := by decide +kernel
theorem dt_Ta_advance_110 : decode prog_11_method_5_code 110 = .ok (.invokevirtual 46, 3) := by decide +kernel
theorem dt_Ta_advance_113 : decode prog_11_method_5_code 113 = .ok (.goto 48, 3) := by decide +kernel
theorem dt_Ta_advance_116 : decode prog_11_method_5_code 116 = .ok (.aload_n 0, 1) := by decide +kernel
theorem dt_Ta_advance_117 : decode prog_11_method_5_code 117 = .ok (.getfield 9, 3) := by decide +kernel
theorem dt_Ta_advance_120 : decode prog_11_method_5_code 120 = .ok (.aload_n 0, 1) := by decide +kernel
theorem dt_Ta_advance_121 : decode prog_11_method_5_code 121 = .ok (.getfield 25, 3) := by decide +kernel
theorem dt_Ta_advance_124 : decode prog_11_method_5_code 124 = .ok (.baload, 1) := by decide +kernel
theorem dt_Ta_advance_125 : decode prog_11_method_5_code 125 = .ok (.bipush 97, 2) := by decide +kernel
theorem dt_Ta_advance_127 : decode prog_11_method_5_code 127 = .ok (.if_icmp .lt 30, 3) := by decide +kernel
theorem dt_Ta_advance_130 : decode prog_11_method_5_code 130 = .ok (.aload_n 0, 1) := by decide +kernel
theorem dt_Ta_advance_131 : decode prog_11_method_5_code 131 = .ok (.getfield 9, 3) := by decide +kernel
theorem dt_Ta_advance_134 : decode prog_11_method_5_code 134 = .ok (.aload_n 0, 1) := by decide +kernel
theorem dt_Ta_advance_135 : decode prog_11_method_5_code 135 = .ok (.getfield 25, 3) := by decide +kernel
theorem dt_Ta_advance_138 : decode prog_11_method_5_code 138 = .ok (.baload, 1) := by decide +kernel
theorem dt_Ta_advance_139 : decode prog_11_method_5_code 139 = .ok (.bipush 122, 2) := by decide +kernel
theorem dt_Ta_advance_141 : decode prog_11_method_5_code 141 = .ok (.if_icmp .gt 16, 3) := by decide +kernel
theorem dt_Ta_advance_144 : decode prog_11_method_5_code 144 = .ok (.aload_n 0, 1) := by decide +kernel
theorem dt_Ta_advance_145 : decode prog_11_method_5_code 145 = .ok (.bipush (-3), 2) := by decide +kernel
theorem dt_Ta_advance_147 : decode prog_11_method_5_code 147 = .ok (.putfield 37, 3) := by decide +kernel
theorem dt_Ta_advance_150 : decode prog_11_method_5_code 150 = .ok (.aload_n 0, 1) := by decide +kernel
theorem dt_Ta_advance_151 : decode prog_11_method_5_code 151 = .ok (.invokevirtual 49, 3) := by decide +kernel
theorem dt_Ta_advance_154 : decode prog_11_method_5_code 154 = .ok (.goto 7, 3) := by decide +kernel
theorem dt_Ta_advance_157 : decode prog_11_method_5_code 157 = .ok (.aload_n 0, 1) := by decide +kernel
theorem dt_Ta_advance_158 : decode prog_11_method_5_code 158 = .ok (.invokevirtual 52, 3) := by decide +kernel
theorem dt_Ta_advance_161 : decode prog_11_method_5_code 161 = .ok (.return_, 1) := by decide +kernel
set_option maxHeartbeats 4000000 in
set_option maxRecDepth 10000 in
theorem tm_Ta_advance {N : Nat} {T : Nat → tm_S} {w : ab_W} {tp : Nat} (hW : tm_W N T w) (h_tp : is_Ta T tp) : ab_Mt g_G g_rs mt_Ta_advance 5 0 0 [ab_R tp] w (tm_Qv N T (fun w2 => (∀ (p : Nat) (j : Int), ¬ ((p = tp ∧ (j = 2 ∨ j = 5 ∨ j = 6 ∨ j = 7 ∨ j = 8))) → tm_g w2 p j = tm_g w p j))) := by
  obtain ⟨tpt0, tpt1⟩ := id h_tp
  have hF0 : ∀ (p : Nat) (j : Int), ¬ ((p = tp ∧ (j = 2 ∨ j = 5 ∨ j = 6 ∨ j = 7 ∨ j = 8))) → tm_g w p j = tm_g w p j := fun _ _ _ => rfl
  refine ab_Mt.of rfl (Nat.le_of_ble_eq_true rfl) ?_
  show ab_Ev g_G g_rs mt_Ta_advance _ _ _ 0 [some (ab_R tp)] [] _ _
  obtain ⟨v214, kv214, lv214, uv214⟩ := tm_peek (k := 2) (K := 2) hW tpt0 rfl rfl
  have L215 : ∀ (n : Nat)  (t217 : Int) (w216 : ab_W), tm_W N T w216 → (∀ (p : Nat) (j : Int), ¬ ((p = tp ∧ (j = 2 ∨ j = 5 ∨ j = 6 ∨ j = 7 ∨ j = 8))) → tm_g w216 p j = tm_g w p j) → tm_g w216 tp 2 = some (ab_I t217) → 0 ≤ t217 → t217 ≤ 400 → 400 - t217 < (n : Int) → ab_Ev g_G g_rs mt_Ta_advance 5 0 0 0 [some (ab_R tp)] [] w216 (tm_Qv N T (fun w2 => (∀ (p : Nat) (j : Int), ¬ ((p = tp ∧ (j = 2 ∨ j = 5 ∨ j = 6 ∨ j = 7 ∨ j = 8))) → tm_g w2 p j = tm_g w p j))) := by
    intro n
    induction n with
    | zero =>
      intro  t217 w216 hWw216 hFw216 kt217 lt217 ut217 mL215
      exfalso
      omega
    | succ nL215 ihL215 =>
      intro  t217 w216 hWw216 hFw216 kt217 lt217 ut217 mL215
      refine ev_aload_n dt_Ta_advance_0 rfl rfl ?_
      refine tm_getK (K := 2) dt_Ta_advance_1 hWw216 tpt0 fl_Ta_25 rfl kt217 ?_
      refine ev_aload_n dt_Ta_advance_4 rfl rfl ?_
      refine tm_getI (K := 1) dt_Ta_advance_5 hWw216 tpt0 fl_Ta_21 rfl rfl (fun v218 kv218 lv218 uv218 => ?_)
      have z219 := (hFw216 tp 1 (by omega)).symm.trans kv218
      refine ev_icmp_ge (tgt := 38) dt_Ta_advance_8 (by decide) (by omega) (by omega) (fun h220 => ?_) (fun h220 => ?_)
      · skip
        refine ev_aload_n dt_Ta_advance_38 rfl rfl ?_
        refine ev_aload_n dt_Ta_advance_39 rfl rfl ?_
        refine tm_getK (K := 2) dt_Ta_advance_40 hWw216 tpt0 fl_Ta_25 rfl kt217 ?_
        refine tm_putI (K := 5) dt_Ta_advance_43 hWw216 tpt0 (fp_Ta_34 _) rfl rfl trivial (by omega) (by omega) (fun w221 hWw221 kkw221 hfw221 => ?_)
        have hFw221 : ∀ (p : Nat) (j : Int), ¬ ((p = tp ∧ (j = 2 ∨ j = 5 ∨ j = 6 ∨ j = 7 ∨ j = 8))) → tm_g w221 p j = tm_g w p j := fun p j h => (hfw221 p j (by omega)).trans (hFw216 p j h)
        have z222 := (hfw221 tp 2 (by omega)).trans kt217
        refine ev_aload_n dt_Ta_advance_46 rfl rfl ?_
        refine ev_iconst dt_Ta_advance_47 ?_
        refine tm_putI (K := 7) dt_Ta_advance_48 hWw221 tpt0 (fp_Ta_40 _) rfl rfl trivial (by omega) (by omega) (fun w223 hWw223 kkw223 hfw223 => ?_)
        have hFw223 : ∀ (p : Nat) (j : Int), ¬ ((p = tp ∧ (j = 2 ∨ j = 5 ∨ j = 6 ∨ j = 7 ∨ j = 8))) → tm_g w223 p j = tm_g w p j := fun p j h => (hfw223 p j (by omega)).trans (hFw221 p j h)
        have z224 := (hfw223 tp 2 (by omega)).trans z222
        have z225 := (hfw223 tp 5 (by omega)).trans kkw221
        refine ev_aload_n dt_Ta_advance_51 rfl rfl ?_
        refine ev_iconst dt_Ta_advance_52 ?_
        refine tm_putI (K := 8) dt_Ta_advance_53 hWw223 tpt0 (fp_Ta_43 _) rfl rfl trivial (by omega) (by omega) (fun w226 hWw226 kkw226 hfw226 => ?_)
        have hFw226 : ∀ (p : Nat) (j : Int), ¬ ((p = tp ∧ (j = 2 ∨ j = 5 ∨ j = 6 ∨ j = 7 ∨ j = 8))) → tm_g w226 p j = tm_g w p j := fun p j h => (hfw226 p j (by omega)).trans (hFw223 p j h)
        have z227 := (hfw226 tp 2 (by omega)).trans z224
        have z228 := (hfw226 tp 5 (by omega)).trans z225
        have z229 := (hfw226 tp 7 (by omega)).trans kkw223
        refine ev_aload_n dt_Ta_advance_56 rfl rfl ?_
        refine tm_getK (K := 2) dt_Ta_advance_57 hWw226 tpt0 fl_Ta_25 rfl z227 ?_
        refine ev_aload_n dt_Ta_advance_60 rfl rfl ?_
        refine tm_getK (K := 1) dt_Ta_advance_61 hWw226 tpt0 fl_Ta_21 rfl ((hFw226 tp 1 (by omega)).trans z219) ?_
        refine ev_icmp_lt (tgt := 75) dt_Ta_advance_64 (by decide) (by omega) (by omega) (fun h230 => ?_) (fun h230 => ?_)
        · skip
          refine ev_aload_n dt_Ta_advance_75 rfl rfl ?_
          refine tm_getR dt_Ta_advance_76 hWw226 tpt0 fl_Ta_9 rfl ?_
          refine ev_aload_n dt_Ta_advance_79 rfl rfl ?_
          refine tm_getK (K := 2) dt_Ta_advance_80 hWw226 tpt0 fl_Ta_25 rfl z227 ?_
          refine tm_baload dt_Ta_advance_83 hWw226 tpt1 (by omega) (by omega) (by omega) (fun v231 kv231 lv231 uv231 => ?_)
          refine ev_bipush dt_Ta_advance_84 rfl ?_
          refine ev_icmp_lt (tgt := 116) dt_Ta_advance_86 (by decide) (by omega) (by omega) (fun h232 => ?_) (fun h232 => ?_)
          · skip
            refine ev_aload_n dt_Ta_advance_116 rfl rfl ?_
            refine tm_getR dt_Ta_advance_117 hWw226 tpt0 fl_Ta_9 rfl ?_
            refine ev_aload_n dt_Ta_advance_120 rfl rfl ?_
            refine tm_getK (K := 2) dt_Ta_advance_121 hWw226 tpt0 fl_Ta_25 rfl z227 ?_
            refine tm_baload dt_Ta_advance_124 hWw226 tpt1 (by omega) (by omega) (by omega) (fun v233 kv233 lv233 uv233 => ?_)
            refine ev_bipush dt_Ta_advance_125 rfl ?_
            refine ev_icmp_lt (tgt := 157) dt_Ta_advance_127 (by decide) (by omega) (by omega) (fun h234 => ?_) (fun h234 => ?_)
            · skip
              refine ev_aload_n dt_Ta_advance_157 rfl rfl ?_
              refine tm_vv dt_Ta_advance_158 (tm_Ta_readSign hWw226 h_tp (t217) z227 (by omega) (by omega)) kb_Ta_52 ⟨im_Ta_readSign, se_Ta_readSign⟩ rfl hWw226 tpt0 rfl (Nat.le_of_ble_eq_true rfl) (by decide) (fun w235 hWw235 hRw235 => ?_)
              have hfw235 := hRw235
              have hFw235 : ∀ (p : Nat) (j : Int), ¬ ((p = tp ∧ (j = 2 ∨ j = 5 ∨ j = 6 ∨ j = 7 ∨ j = 8))) → tm_g w235 p j = tm_g w p j := fun p j h => (hfw235 p j (by omega)).trans (hFw226 p j h)
              have z236 := (hfw235 tp 5 (by omega)).trans z228
              have z237 := (hfw235 tp 7 (by omega)).trans z229
              have z238 := (hfw235 tp 8 (by omega)).trans kkw226
              exact ev_return dt_Ta_advance_161 rfl ⟨hWw235, rfl, hFw235⟩
            · skip
              refine ev_aload_n dt_Ta_advance_130 rfl rfl ?_
              refine tm_getR dt_Ta_advance_131 hWw226 tpt0 fl_Ta_9 rfl ?_
              refine ev_aload_n dt_Ta_advance_134 rfl rfl ?_
              refine tm_getK (K := 2) dt_Ta_advance_135 hWw226 tpt0 fl_Ta_25 rfl z227 ?_
              refine tm_baload dt_Ta_advance_138 hWw226 tpt1 (by omega) (by omega) (by omega) (fun v239 kv239 lv239 uv239 => ?_)
              refine ev_bipush dt_Ta_advance_139 rfl ?_
              refine ev_icmp_gt (tgt := 157) dt_Ta_advance_141 (by decide) (by omega) (by omega) (fun h240 => ?_) (fun h240 => ?_)
              · skip
                refine ev_aload_n dt_Ta_advance_157 rfl rfl ?_
                refine tm_vv dt_Ta_advance_158 (tm_Ta_readSign hWw226 h_tp (t217) z227 (by omega) (by omega)) kb_Ta_52 ⟨im_Ta_readSign, se_Ta_readSign⟩ rfl hWw226 tpt0 rfl (Nat.le_of_ble_eq_true rfl) (by decide) (fun w241 hWw241 hRw241 => ?_)
                have hfw241 := hRw241
                have hFw241 : ∀ (p : Nat) (j : Int), ¬ ((p = tp ∧ (j = 2 ∨ j = 5 ∨ j = 6 ∨ j = 7 ∨ j = 8))) → tm_g w241 p j = tm_g w p j := fun p j h => (hfw241 p j (by omega)).trans (hFw226 p j h)
                have z242 := (hfw241 tp 5 (by omega)).trans z228
                have z243 := (hfw241 tp 7 (by omega)).trans z229
                have z244 := (hfw241 tp 8 (by omega)).trans kkw226
                exact ev_return dt_Ta_advance_161 rfl ⟨hWw241, rfl, hFw241⟩
              · skip
                refine ev_aload_n dt_Ta_advance_144 rfl rfl ?_
                refine ev_bipush dt_Ta_advance_145 rfl ?_
                refine tm_putI (K := 6) dt_Ta_advance_147 hWw226 tpt0 (fp_Ta_37 _) rfl rfl trivial (by omega) (by omega) (fun w245 hWw245 kkw245 hfw245 => ?_)
                have hFw245 : ∀ (p : Nat) (j : Int), ¬ ((p = tp ∧ (j = 2 ∨ j = 5 ∨ j = 6 ∨ j = 7 ∨ j = 8))) → tm_g w245 p j = tm_g w p j := fun p j h => (hfw245 p j (by omega)).trans (hFw226 p j h)
                have z246 := (hfw245 tp 2 (by omega)).trans z227
                have z247 := (hfw245 tp 5 (by omega)).trans z228
                have z248 := (hfw245 tp 7 (by omega)).trans z229
                have z249 := (hfw245 tp 8 (by omega)).trans kkw226
                refine ev_aload_n dt_Ta_advance_150 rfl rfl ?_
                refine tm_vv dt_Ta_advance_151 (tm_Ta_readWord hWw245 h_tp) kb_Ta_49 ⟨im_Ta_readWord, se_Ta_readWord⟩ rfl hWw245 tpt0 rfl (Nat.le_of_ble_eq_true rfl) (by decide) (fun w250 hWw250 hRw250 => ?_)
                have hfw250 := hRw250
                have hFw250 : ∀ (p : Nat) (j : Int), ¬ ((p = tp ∧ (j = 2 ∨ j = 5 ∨ j = 6 ∨ j = 7 ∨ j = 8))) → tm_g w250 p j = tm_g w p j := fun p j h => (hfw250 p j (by omega)).trans (hFw245 p j h)
                have z251 := (hfw250 tp 5 (by omega)).trans z247
                have z252 := (hfw250 tp 7 (by omega)).trans z248
                have z253 := (hfw250 tp 6 (by omega)).trans kkw245
                refine ev_goto (tgt := 161) dt_Ta_advance_154 (by decide) ?_
                exact ev_return dt_Ta_advance_161 rfl ⟨hWw250, rfl, hFw250⟩
          · skip
            refine ev_aload_n dt_Ta_advance_89 rfl rfl ?_
            refine tm_getR dt_Ta_advance_90 hWw226 tpt0 fl_Ta_9 rfl ?_
            refine ev_aload_n dt_Ta_advance_93 rfl rfl ?_
            refine tm_getK (K := 2) dt_Ta_advance_94 hWw226 tpt0 fl_Ta_25 rfl z227 ?_
            refine tm_baload dt_Ta_advance_97 hWw226 tpt1 (by omega) (by omega) (by omega) (fun v254 kv254 lv254 uv254 => ?_)
            refine ev_bipush dt_Ta_advance_98 rfl ?_
            refine ev_icmp_gt (tgt := 116) dt_Ta_advance_100 (by decide) (by omega) (by omega) (fun h255 => ?_) (fun h255 => ?_)
            · skip
              refine ev_aload_n dt_Ta_advance_116 rfl rfl ?_
              refine tm_getR dt_Ta_advance_117 hWw226 tpt0 fl_Ta_9 rfl ?_
              refine ev_aload_n dt_Ta_advance_120 rfl rfl ?_
              refine tm_getK (K := 2) dt_Ta_advance_121 hWw226 tpt0 fl_Ta_25 rfl z227 ?_
              refine tm_baload dt_Ta_advance_124 hWw226 tpt1 (by omega) (by omega) (by omega) (fun v256 kv256 lv256 uv256 => ?_)
              refine ev_bipush dt_Ta_advance_125 rfl ?_
              refine ev_icmp_lt (tgt := 157) dt_Ta_advance_127 (by decide) (by omega) (by omega) (fun h257 => ?_) (fun h257 => ?_)
              · skip
                refine ev_aload_n dt_Ta_advance_157 rfl rfl ?_
                refine tm_vv dt_Ta_advance_158 (tm_Ta_readSign hWw226 h_tp (t217) z227 (by omega) (by omega)) kb_Ta_52 ⟨im_Ta_readSign, se_Ta_readSign⟩ rfl hWw226 tpt0 rfl (Nat.le_of_ble_eq_true rfl) (by decide) (fun w258 hWw258 hRw258 => ?_)
                have hfw258 := hRw258
                have hFw258 : ∀ (p : Nat) (j : Int), ¬ ((p = tp ∧ (j = 2 ∨ j = 5 ∨ j = 6 ∨ j = 7 ∨ j = 8))) → tm_g w258 p j = tm_g w p j := fun p j h => (hfw258 p j (by omega)).trans (hFw226 p j h)
                have z259 := (hfw258 tp 5 (by omega)).trans z228
                have z260 := (hfw258 tp 7 (by omega)).trans z229
                have z261 := (hfw258 tp 8 (by omega)).trans kkw226
                exact ev_return dt_Ta_advance_161 rfl ⟨hWw258, rfl, hFw258⟩
              · skip
                refine ev_aload_n dt_Ta_advance_130 rfl rfl ?_
                refine tm_getR dt_Ta_advance_131 hWw226 tpt0 fl_Ta_9 rfl ?_
                refine ev_aload_n dt_Ta_advance_134 rfl rfl ?_
                refine tm_getK (K := 2) dt_Ta_advance_135 hWw226 tpt0 fl_Ta_25 rfl z227 ?_
                refine tm_baload dt_Ta_advance_138 hWw226 tpt1 (by omega) (by omega) (by omega) (fun v262 kv262 lv262 uv262 => ?_)
                refine ev_bipush dt_Ta_advance_139 rfl ?_
                refine ev_icmp_gt (tgt := 157) dt_Ta_advance_141 (by decide) (by omega) (by omega) (fun h263 => ?_) (fun h263 => ?_)
                · skip
                  refine ev_aload_n dt_Ta_advance_157 rfl rfl ?_
                  refine tm_vv dt_Ta_advance_158 (tm_Ta_readSign hWw226 h_tp (t217) z227 (by omega) (by omega)) kb_Ta_52 ⟨im_Ta_readSign, se_Ta_readSign⟩ rfl hWw226 tpt0 rfl (Nat.le_of_ble_eq_true rfl) (by decide) (fun w264 hWw264 hRw264 => ?_)
                  have hfw264 := hRw264
                  have hFw264 : ∀ (p : Nat) (j : Int), ¬ ((p = tp ∧ (j = 2 ∨ j = 5 ∨ j = 6 ∨ j = 7 ∨ j = 8))) → tm_g w264 p j = tm_g w p j := fun p j h => (hfw264 p j (by omega)).trans (hFw226 p j h)
                  have z265 := (hfw264 tp 5 (by omega)).trans z228
                  have z266 := (hfw264 tp 7 (by omega)).trans z229
                  have z267 := (hfw264 tp 8 (by omega)).trans kkw226
                  exact ev_return dt_Ta_advance_161 rfl ⟨hWw264, rfl, hFw264⟩
                · skip
                  refine ev_aload_n dt_Ta_advance_144 rfl rfl ?_
                  refine ev_bipush dt_Ta_advance_145 rfl ?_
                  refine tm_putI (K := 6) dt_Ta_advance_147 hWw226 tpt0 (fp_Ta_37 _) rfl rfl trivial (by omega) (by omega) (fun w268 hWw268 kkw268 hfw268 => ?_)
                  have hFw268 : ∀ (p : Nat) (j : Int), ¬ ((p = tp ∧ (j = 2 ∨ j = 5 ∨ j = 6 ∨ j = 7 ∨ j = 8))) → tm_g w268 p j = tm_g w p j := fun p j h => (hfw268 p j (by omega)).trans (hFw226 p j h)
                  have z269 := (hfw268 tp 2 (by omega)).trans z227
                  have z270 := (hfw268 tp 5 (by omega)).trans z228
                  have z271 := (hfw268 tp 7 (by omega)).trans z229
                  have z272 := (hfw268 tp 8 (by omega)).trans kkw226
                  refine ev_aload_n dt_Ta_advance_150 rfl rfl ?_
                  refine tm_vv dt_Ta_advance_151 (tm_Ta_readWord hWw268 h_tp) kb_Ta_49 ⟨im_Ta_readWord, se_Ta_readWord⟩ rfl hWw268 tpt0 rfl (Nat.le_of_ble_eq_true rfl) (by decide) (fun w273 hWw273 hRw273 => ?_)
                  have hfw273 := hRw273
                  have hFw273 : ∀ (p : Nat) (j : Int), ¬ ((p = tp ∧ (j = 2 ∨ j = 5 ∨ j = 6 ∨ j = 7 ∨ j = 8))) → tm_g w273 p j = tm_g w p j := fun p j h => (hfw273 p j (by omega)).trans (hFw268 p j h)
                  have z274 := (hfw273 tp 5 (by omega)).trans z270
                  have z275 := (hfw273 tp 7 (by omega)).trans z271
                  have z276 := (hfw273 tp 6 (by omega)).trans kkw268
                  refine ev_goto (tgt := 161) dt_Ta_advance_154 (by decide) ?_
                  exact ev_return dt_Ta_advance_161 rfl ⟨hWw273, rfl, hFw273⟩
            · skip
              refine ev_aload_n dt_Ta_advance_103 rfl rfl ?_
              refine ev_bipush dt_Ta_advance_104 rfl ?_
              refine tm_putI (K := 6) dt_Ta_advance_106 hWw226 tpt0 (fp_Ta_37 _) rfl rfl trivial (by omega) (by omega) (fun w277 hWw277 kkw277 hfw277 => ?_)
              have hFw277 : ∀ (p : Nat) (j : Int), ¬ ((p = tp ∧ (j = 2 ∨ j = 5 ∨ j = 6 ∨ j = 7 ∨ j = 8))) → tm_g w277 p j = tm_g w p j := fun p j h => (hfw277 p j (by omega)).trans (hFw226 p j h)
              have z278 := (hfw277 tp 2 (by omega)).trans z227
              have z279 := (hfw277 tp 5 (by omega)).trans z228
              have z280 := (hfw277 tp 7 (by omega)).trans z229
              have z281 := (hfw277 tp 8 (by omega)).trans kkw226
              refine ev_aload_n dt_Ta_advance_109 rfl rfl ?_
              refine tm_vv dt_Ta_advance_110 (tm_Ta_readNumber hWw277 h_tp) kb_Ta_46 ⟨im_Ta_readNumber, se_Ta_readNumber⟩ rfl hWw277 tpt0 rfl (Nat.le_of_ble_eq_true rfl) (by decide) (fun w282 hWw282 hRw282 => ?_)
              have hfw282 := hRw282
              have hFw282 : ∀ (p : Nat) (j : Int), ¬ ((p = tp ∧ (j = 2 ∨ j = 5 ∨ j = 6 ∨ j = 7 ∨ j = 8))) → tm_g w282 p j = tm_g w p j := fun p j h => (hfw282 p j (by omega)).trans (hFw277 p j h)
              have z283 := (hfw282 tp 5 (by omega)).trans z279
              have z284 := (hfw282 tp 8 (by omega)).trans z281
              have z285 := (hfw282 tp 6 (by omega)).trans kkw277
              refine ev_goto (tgt := 161) dt_Ta_advance_113 (by decide) ?_
              exact ev_return dt_Ta_advance_161 rfl ⟨hWw282, rfl, hFw282⟩
        · skip
          refine ev_aload_n dt_Ta_advance_67 rfl rfl ?_
          refine ev_iconst dt_Ta_advance_68 ?_
          refine tm_putI (K := 6) dt_Ta_advance_69 hWw226 tpt0 (fp_Ta_37 _) rfl rfl trivial (by omega) (by omega) (fun w286 hWw286 kkw286 hfw286 => ?_)
          have hFw286 : ∀ (p : Nat) (j : Int), ¬ ((p = tp ∧ (j = 2 ∨ j = 5 ∨ j = 6 ∨ j = 7 ∨ j = 8))) → tm_g w286 p j = tm_g w p j := fun p j h => (hfw286 p j (by omega)).trans (hFw226 p j h)
          have z287 := (hfw286 tp 2 (by omega)).trans z227
          have z288 := (hfw286 tp 5 (by omega)).trans z228
          have z289 := (hfw286 tp 7 (by omega)).trans z229
          have z290 := (hfw286 tp 8 (by omega)).trans kkw226
          refine ev_goto (tgt := 161) dt_Ta_advance_72 (by decide) ?_
          exact ev_return dt_Ta_advance_161 rfl ⟨hWw286, rfl, hFw286⟩
      · skip
        refine ev_aload_n dt_Ta_advance_11 rfl rfl ?_
        refine tm_getR dt_Ta_advance_12 hWw216 tpt0 fl_Ta_9 rfl ?_
        refine ev_aload_n dt_Ta_advance_15 rfl rfl ?_
        refine tm_getK (K := 2) dt_Ta_advance_16 hWw216 tpt0 fl_Ta_25 rfl kt217 ?_
        refine tm_baload dt_Ta_advance_19 hWw216 tpt1 (by omega) (by omega) (by omega) (fun v291 kv291 lv291 uv291 => ?_)
        refine ev_bipush dt_Ta_advance_20 rfl ?_
        refine ev_icmp_ne (tgt := 38) dt_Ta_advance_22 (by decide) (by omega) (by omega) (fun h292 => ?_) (fun h292 => ?_)
        · skip
          refine ev_aload_n dt_Ta_advance_38 rfl rfl ?_
          refine ev_aload_n dt_Ta_advance_39 rfl rfl ?_
          refine tm_getK (K := 2) dt_Ta_advance_40 hWw216 tpt0 fl_Ta_25 rfl kt217 ?_
          refine tm_putI (K := 5) dt_Ta_advance_43 hWw216 tpt0 (fp_Ta_34 _) rfl rfl trivial (by omega) (by omega) (fun w293 hWw293 kkw293 hfw293 => ?_)
          have hFw293 : ∀ (p : Nat) (j : Int), ¬ ((p = tp ∧ (j = 2 ∨ j = 5 ∨ j = 6 ∨ j = 7 ∨ j = 8))) → tm_g w293 p j = tm_g w p j := fun p j h => (hfw293 p j (by omega)).trans (hFw216 p j h)
          have z294 := (hfw293 tp 2 (by omega)).trans kt217
          refine ev_aload_n dt_Ta_advance_46 rfl rfl ?_
          refine ev_iconst dt_Ta_advance_47 ?_
          refine tm_putI (K := 7) dt_Ta_advance_48 hWw293 tpt0 (fp_Ta_40 _) rfl rfl trivial (by omega) (by omega) (fun w295 hWw295 kkw295 hfw295 => ?_)
          have hFw295 : ∀ (p : Nat) (j : Int), ¬ ((p = tp ∧ (j = 2 ∨ j = 5 ∨ j = 6 ∨ j = 7 ∨ j = 8))) → tm_g w295 p j = tm_g w p j := fun p j h => (hfw295 p j (by omega)).trans (hFw293 p j h)
          have z296 := (hfw295 tp 2 (by omega)).trans z294
          have z297 := (hfw295 tp 5 (by omega)).trans kkw293
          refine ev_aload_n dt_Ta_advance_51 rfl rfl ?_
          refine ev_iconst dt_Ta_advance_52 ?_
          refine tm_putI (K := 8) dt_Ta_advance_53 hWw295 tpt0 (fp_Ta_43 _) rfl rfl trivial (by omega) (by omega) (fun w298 hWw298 kkw298 hfw298 => ?_)
          have hFw298 : ∀ (p : Nat) (j : Int), ¬ ((p = tp ∧ (j = 2 ∨ j = 5 ∨ j = 6 ∨ j = 7 ∨ j = 8))) → tm_g w298 p j = tm_g w p j := fun p j h => (hfw298 p j (by omega)).trans (hFw295 p j h)
          have z299 := (hfw298 tp 2 (by omega)).trans z296
          have z300 := (hfw298 tp 5 (by omega)).trans z297
          have z301 := (hfw298 tp 7 (by omega)).trans kkw295
          refine ev_aload_n dt_Ta_advance_56 rfl rfl ?_
          refine tm_getK (K := 2) dt_Ta_advance_57 hWw298 tpt0 fl_Ta_25 rfl z299 ?_
          refine ev_aload_n dt_Ta_advance_60 rfl rfl ?_
          refine tm_getK (K := 1) dt_Ta_advance_61 hWw298 tpt0 fl_Ta_21 rfl ((hFw298 tp 1 (by omega)).trans z219) ?_
          refine ev_icmp_lt (tgt := 75) dt_Ta_advance_64 (by decide) (by omega) (by omega) (fun h302 => ?_) (fun h302 => ?_)
          · skip
            refine ev_aload_n dt_Ta_advance_75 rfl rfl ?_
            refine tm_getR dt_Ta_advance_76 hWw298 tpt0 fl_Ta_9 rfl ?_
            refine ev_aload_n dt_Ta_advance_79 rfl rfl ?_
            refine tm_getK (K := 2) dt_Ta_advance_80 hWw298 tpt0 fl_Ta_25 rfl z299 ?_
            refine tm_baload dt_Ta_advance_83 hWw298 tpt1 (by omega) (by omega) (by omega) (fun v303 kv303 lv303 uv303 => ?_)
            refine ev_bipush dt_Ta_advance_84 rfl ?_
            refine ev_icmp_lt (tgt := 116) dt_Ta_advance_86 (by decide) (by omega) (by omega) (fun h304 => ?_) (fun h304 => ?_)
            · skip
              refine ev_aload_n dt_Ta_advance_116 rfl rfl ?_
              refine tm_getR dt_Ta_advance_117 hWw298 tpt0 fl_Ta_9 rfl ?_
              refine ev_aload_n dt_Ta_advance_120 rfl rfl ?_
              refine tm_getK (K := 2) dt_Ta_advance_121 hWw298 tpt0 fl_Ta_25 rfl z299 ?_
              refine tm_baload dt_Ta_advance_124 hWw298 tpt1 (by omega) (by omega) (by omega) (fun v305 kv305 lv305 uv305 => ?_)
              refine ev_bipush dt_Ta_advance_125 rfl ?_
              refine ev_icmp_lt (tgt := 157) dt_Ta_advance_127 (by decide) (by omega) (by omega) (fun h306 => ?_) (fun h306 => ?_)
              · skip
                refine ev_aload_n dt_Ta_advance_157 rfl rfl ?_
                refine tm_vv dt_Ta_advance_158 (tm_Ta_readSign hWw298 h_tp (t217) z299 (by omega) (by omega)) kb_Ta_52 ⟨im_Ta_readSign, se_Ta_readSign⟩ rfl hWw298 tpt0 rfl (Nat.le_of_ble_eq_true rfl) (by decide) (fun w307 hWw307 hRw307 => ?_)
                have hfw307 := hRw307
                have hFw307 : ∀ (p : Nat) (j : Int), ¬ ((p = tp ∧ (j = 2 ∨ j = 5 ∨ j = 6 ∨ j = 7 ∨ j = 8))) → tm_g w307 p j = tm_g w p j := fun p j h => (hfw307 p j (by omega)).trans (hFw298 p j h)
                have z308 := (hfw307 tp 5 (by omega)).trans z300
                have z309 := (hfw307 tp 7 (by omega)).trans z301
                have z310 := (hfw307 tp 8 (by omega)).trans kkw298
                exact ev_return dt_Ta_advance_161 rfl ⟨hWw307, rfl, hFw307⟩
              · skip
                refine ev_aload_n dt_Ta_advance_130 rfl rfl ?_
                refine tm_getR dt_Ta_advance_131 hWw298 tpt0 fl_Ta_9 rfl ?_
                refine ev_aload_n dt_Ta_advance_134 rfl rfl ?_
                refine tm_getK (K := 2) dt_Ta_advance_135 hWw298 tpt0 fl_Ta_25 rfl z299 ?_
                refine tm_baload dt_Ta_advance_138 hWw298 tpt1 (by omega) (by omega) (by omega) (fun v311 kv311 lv311 uv311 => ?_)
                refine ev_bipush dt_Ta_advance_139 rfl ?_
                refine ev_icmp_gt (tgt := 157) dt_Ta_advance_141 (by decide) (by omega) (by omega) (fun h312 => ?_) (fun h312 => ?_)
                · skip
                  refine ev_aload_n dt_Ta_advance_157 rfl rfl ?_
                  refine tm_vv dt_Ta_advance_158 (tm_Ta_readSign hWw298 h_tp (t217) z299 (by omega) (by omega)) kb_Ta_52 ⟨im_Ta_readSign, se_Ta_readSign⟩ rfl hWw298 tpt0 rfl (Nat.le_of_ble_eq_true rfl) (by decide) (fun w313 hWw313 hRw313 => ?_)
                  have hfw313 := hRw313
                  have hFw313 : ∀ (p : Nat) (j : Int), ¬ ((p = tp ∧ (j = 2 ∨ j = 5 ∨ j = 6 ∨ j = 7 ∨ j = 8))) → tm_g w313 p j = tm_g w p j := fun p j h => (hfw313 p j (by omega)).trans (hFw298 p j h)
                  have z314 := (hfw313 tp 5 (by omega)).trans z300
                  have z315 := (hfw313 tp 7 (by omega)).trans z301
                  have z316 := (hfw313 tp 8 (by omega)).trans kkw298
                  exact ev_return dt_Ta_advance_161 rfl ⟨hWw313, rfl, hFw313⟩
                · skip
                  refine ev_aload_n dt_Ta_advance_144 rfl rfl ?_
                  refine ev_bipush dt_Ta_advance_145 rfl ?_
                  refine tm_putI (K := 6) dt_Ta_advance_147 hWw298 tpt0 (fp_Ta_37 _) rfl rfl trivial (by omega) (by omega) (fun w317 hWw317 kkw317 hfw317 => ?_)
                  have hFw317 : ∀ (p : Nat) (j : Int), ¬ ((p = tp ∧ (j = 2 ∨ j = 5 ∨ j = 6 ∨ j = 7 ∨ j = 8))) → tm_g w317 p j = tm_g w p j := fun p j h => (hfw317 p j (by omega)).trans (hFw298 p j h)
                  have z318 := (hfw317 tp 2 (by omega)).trans z299
                  have z319 := (hfw317 tp 5 (by omega)).trans z300
                  have z320 := (hfw317 tp 7 (by omega)).trans z301
                  have z321 := (hfw317 tp 8 (by omega)).trans kkw298
                  refine ev_aload_n dt_Ta_advance_150 rfl rfl ?_
                  refine tm_vv dt_Ta_advance_151 (tm_Ta_readWord hWw317 h_tp) kb_Ta_49 ⟨im_Ta_readWord, se_Ta_readWord⟩ rfl hWw317 tpt0 rfl (Nat.le_of_ble_eq_true rfl) (by decide) (fun w322 hWw322 hRw322 => ?_)
                  have hfw322 := hRw322
                  have hFw322 : ∀ (p : Nat) (j : Int), ¬ ((p = tp ∧ (j = 2 ∨ j = 5 ∨ j = 6 ∨ j = 7 ∨ j = 8))) → tm_g w322 p j = tm_g w p j := fun p j h => (hfw322 p j (by omega)).trans (hFw317 p j h)
                  have z323 := (hfw322 tp 5 (by omega)).trans z319
                  have z324 := (hfw322 tp 7 (by omega)).trans z320
                  have z325 := (hfw322 tp 6 (by omega)).trans kkw317
                  refine ev_goto (tgt := 161) dt_Ta_advance_154 (by decide) ?_
                  exact ev_return dt_Ta_advance_161 rfl ⟨hWw322, rfl, hFw322⟩
            · skip
              refine ev_aload_n dt_Ta_advance_89 rfl rfl ?_
              refine tm_getR dt_Ta_advance_90 hWw298 tpt0 fl_Ta_9 rfl ?_
              refine ev_aload_n dt_Ta_advance_93 rfl rfl ?_
              refine tm_getK (K := 2) dt_Ta_advance_94 hWw298 tpt0 fl_Ta_25 rfl z299 ?_
              refine tm_baload dt_Ta_advance_97 hWw298 tpt1 (by omega) (by omega) (by omega) (fun v326 kv326 lv326 uv326 => ?_)
              refine ev_bipush dt_Ta_advance_98 rfl ?_
              refine ev_icmp_gt (tgt := 116) dt_Ta_advance_100 (by decide) (by omega) (by omega) (fun h327 => ?_) (fun h327 => ?_)
              · skip
                refine ev_aload_n dt_Ta_advance_116 rfl rfl ?_
                refine tm_getR dt_Ta_advance_117 hWw298 tpt0 fl_Ta_9 rfl ?_
                refine ev_aload_n dt_Ta_advance_120 rfl rfl ?_
                refine tm_getK (K := 2) dt_Ta_advance_121 hWw298 tpt0 fl_Ta_25 rfl z299 ?_
                refine tm_baload dt_Ta_advance_124 hWw298 tpt1 (by omega) (by omega) (by omega) (fun v328 kv328 lv328 uv328 => ?_)
                refine ev_bipush dt_Ta_advance_125 rfl ?_
                refine ev_icmp_lt (tgt := 157) dt_Ta_advance_127 (by decide) (by omega) (by omega) (fun h329 => ?_) (fun h329 => ?_)
                · skip
                  refine ev_aload_n dt_Ta_advance_157 rfl rfl ?_
                  refine tm_vv dt_Ta_advance_158 (tm_Ta_readSign hWw298 h_tp (t217) z299 (by omega) (by omega)) kb_Ta_52 ⟨im_Ta_readSign, se_Ta_readSign⟩ rfl hWw298 tpt0 rfl (Nat.le_of_ble_eq_true rfl) (by decide) (fun w330 hWw330 hRw330 => ?_)
                  have hfw330 := hRw330
                  have hFw330 : ∀ (p : Nat) (j : Int), ¬ ((p = tp ∧ (j = 2 ∨ j = 5 ∨ j = 6 ∨ j = 7 ∨ j = 8))) → tm_g w330 p j = tm_g w p j := fun p j h => (hfw330 p j (by omega)).trans (hFw298 p j h)
                  have z331 := (hfw330 tp 5 (by omega)).trans z300
                  have z332 := (hfw330 tp 7 (by omega)).trans z301
                  have z333 := (hfw330 tp 8 (by omega)).trans kkw298
                  exact ev_return dt_Ta_advance_161 rfl ⟨hWw330, rfl, hFw330⟩
                · skip
                  refine ev_aload_n dt_Ta_advance_130 rfl rfl ?_
                  refine tm_getR dt_Ta_advance_131 hWw298 tpt0 fl_Ta_9 rfl ?_
                  refine ev_aload_n dt_Ta_advance_134 rfl rfl ?_
                  refine tm_getK (K := 2) dt_Ta_advance_135 hWw298 tpt0 fl_Ta_25 rfl z299 ?_
                  refine tm_baload dt_Ta_advance_138 hWw298 tpt1 (by omega) (by omega) (by omega) (fun v334 kv334 lv334 uv334 => ?_)
                  refine ev_bipush dt_Ta_advance_139 rfl ?_
                  refine ev_icmp_gt (tgt := 157) dt_Ta_advance_141 (by decide) (by omega) (by omega) (fun h335 => ?_) (fun h335 => ?_)
                  · skip
                    refine ev_aload_n dt_Ta_advance_157 rfl rfl ?_
                    refine tm_vv dt_Ta_advance_158 (tm_Ta_readSign hWw298 h_tp (t217) z299 (by omega) (by omega)) kb_Ta_52 ⟨im_Ta_readSign, se_Ta_readSign⟩ rfl hWw298 tpt0 rfl (Nat.le_of_ble_eq_true rfl) (by decide) (fun w336 hWw336 hRw336 => ?_)
                    have hfw336 := hRw336
                    have hFw336 : ∀ (p : Nat) (j : Int), ¬ ((p = tp ∧ (j = 2 ∨ j = 5 ∨ j = 6 ∨ j = 7 ∨ j = 8))) → tm_g w336 p j = tm_g w p j := fun p j h => (hfw336 p j (by omega)).trans (hFw298 p j h)
                    have z337 := (hfw336 tp 5 (by omega)).trans z300
                    have z338 := (hfw336 tp 7 (by omega)).trans z301
                    have z339 := (hfw336 tp 8 (by omega)).trans kkw298
                    exact ev_return dt_Ta_advance_161 rfl ⟨hWw336, rfl, hFw336⟩
                  · skip
                    refine ev_aload_n dt_Ta_advance_144 rfl rfl ?_
                    refine ev_bipush dt_Ta_advance_145 rfl ?_
                    refine tm_putI (K := 6) dt_Ta_advance_147 hWw298 tpt0 (fp_Ta_37 _) rfl rfl trivial (by omega) (by omega) (fun w340 hWw340 kkw340 hfw340 => ?_)
                    have hFw340 : ∀ (p : Nat) (j : Int), ¬ ((p = tp ∧ (j = 2 ∨ j = 5 ∨ j = 6 ∨ j = 7 ∨ j = 8))) → tm_g w340 p j = tm_g w p j := fun p j h => (hfw340 p j (by omega)).trans (hFw298 p j h)
                    have z341 := (hfw340 tp 2 (by omega)).trans z299
                    have z342 := (hfw340 tp 5 (by omega)).trans z300
                    have z343 := (hfw340 tp 7 (by omega)).trans z301
                    have z344 := (hfw340 tp 8 (by omega)).trans kkw298
                    refine ev_aload_n dt_Ta_advance_150 rfl rfl ?_
                    refine tm_vv dt_Ta_advance_151 (tm_Ta_readWord hWw340 h_tp) kb_Ta_49 ⟨im_Ta_readWord, se_Ta_readWord⟩ rfl hWw340 tpt0 rfl (Nat.le_of_ble_eq_true rfl) (by decide) (fun w345 hWw345 hRw345 => ?_)
                    have hfw345 := hRw345
                    have hFw345 : ∀ (p : Nat) (j : Int), ¬ ((p = tp ∧ (j = 2 ∨ j = 5 ∨ j = 6 ∨ j = 7 ∨ j = 8))) → tm_g w345 p j = tm_g w p j := fun p j h => (hfw345 p j (by omega)).trans (hFw340 p j h)
                    have z346 := (hfw345 tp 5 (by omega)).trans z342
                    have z347 := (hfw345 tp 7 (by omega)).trans z343
                    have z348 := (hfw345 tp 6 (by omega)).trans kkw340
                    refine ev_goto (tgt := 161) dt_Ta_advance_154 (by decide) ?_
                    exact ev_return dt_Ta_advance_161 rfl ⟨hWw345, rfl, hFw345⟩
              · skip
                refine ev_aload_n dt_Ta_advance_103 rfl rfl ?_
                refine ev_bipush dt_Ta_advance_104 rfl ?_
                refine tm_putI (K := 6) dt_Ta_advance_106 hWw298 tpt0 (fp_Ta_37 _) rfl rfl trivial (by omega) (by omega) (fun w349 hWw349 kkw349 hfw349 => ?_)
                have hFw349 : ∀ (p : Nat) (j : Int), ¬ ((p = tp ∧ (j = 2 ∨ j = 5 ∨ j = 6 ∨ j = 7 ∨ j = 8))) → tm_g w349 p j = tm_g w p j := fun p j h => (hfw349 p j (by omega)).trans (hFw298 p j h)
                have z350 := (hfw349 tp 2 (by omega)).trans z299
                have z351 := (hfw349 tp 5 (by omega)).trans z300
                have z352 := (hfw349 tp 7 (by omega)).trans z301
                have z353 := (hfw349 tp 8 (by omega)).trans kkw298
                refine ev_aload_n dt_Ta_advance_109 rfl rfl ?_
                refine tm_vv dt_Ta_advance_110 (tm_Ta_readNumber hWw349 h_tp) kb_Ta_46 ⟨im_Ta_readNumber, se_Ta_readNumber⟩ rfl hWw349 tpt0 rfl (Nat.le_of_ble_eq_true rfl) (by decide) (fun w354 hWw354 hRw354 => ?_)
                have hfw354 := hRw354
                have hFw354 : ∀ (p : Nat) (j : Int), ¬ ((p = tp ∧ (j = 2 ∨ j = 5 ∨ j = 6 ∨ j = 7 ∨ j = 8))) → tm_g w354 p j = tm_g w p j := fun p j h => (hfw354 p j (by omega)).trans (hFw349 p j h)
                have z355 := (hfw354 tp 5 (by omega)).trans z351
                have z356 := (hfw354 tp 8 (by omega)).trans z353
                have z357 := (hfw354 tp 6 (by omega)).trans kkw349
                refine ev_goto (tgt := 161) dt_Ta_advance_113 (by decide) ?_
                exact ev_return dt_Ta_advance_161 rfl ⟨hWw354, rfl, hFw354⟩
          · skip
            refine ev_aload_n dt_Ta_advance_67 rfl rfl ?_
            refine ev_iconst dt_Ta_advance_68 ?_
            refine tm_putI (K := 6) dt_Ta_advance_69 hWw298 tpt0 (fp_Ta_37 _) rfl rfl trivial (by omega) (by omega) (fun w358 hWw358 kkw358 hfw358 => ?_)
            have hFw358 : ∀ (p : Nat) (j : Int), ¬ ((p = tp ∧ (j = 2 ∨ j = 5 ∨ j = 6 ∨ j = 7 ∨ j = 8))) → tm_g w358 p j = tm_g w p j := fun p j h => (hfw358 p j (by omega)).trans (hFw298 p j h)
            have z359 := (hfw358 tp 2 (by omega)).trans z299
            have z360 := (hfw358 tp 5 (by omega)).trans z300
            have z361 := (hfw358 tp 7 (by omega)).trans z301
            have z362 := (hfw358 tp 8 (by omega)).trans kkw298
            refine ev_goto (tgt := 161) dt_Ta_advance_72 (by decide) ?_
            exact ev_return dt_Ta_advance_161 rfl ⟨hWw358, rfl, hFw358⟩
        · skip
          refine ev_aload_n dt_Ta_advance_25 rfl rfl ?_
          refine ev_dup dt_Ta_advance_26 rfl ?_
          refine tm_getK (K := 2) dt_Ta_advance_27 hWw216 tpt0 fl_Ta_25 rfl kt217 ?_
          refine ev_iconst dt_Ta_advance_30 ?_
          refine ev_iadd dt_Ta_advance_31 ?_
          refine tm_putI (K := 2) dt_Ta_advance_32 hWw216 tpt0 (fp_Ta_25 _) rfl rfl trivial (by omega) (by omega) (fun w363 hWw363 kkw363 hfw363 => ?_)
          have hFw363 : ∀ (p : Nat) (j : Int), ¬ ((p = tp ∧ (j = 2 ∨ j = 5 ∨ j = 6 ∨ j = 7 ∨ j = 8))) → tm_g w363 p j = tm_g w p j := fun p j h => (hfw363 p j (by omega)).trans (hFw216 p j h)
          refine ev_goto (tgt := 0) dt_Ta_advance_35 (by decide) ?_
          exact tm_loc (tm_le_s tm_le_0) (ihL215 ((t217 + 1)) w363 hWw363 hFw363 kkw363 (by omega) (by omega) (by omega))
  exact tm_loc (tm_le_s tm_le_0) (L215 (400 - (v214) + 1 : Int).toNat  (v214) w hW hF0 kv214 (by omega) (by omega) (by omega))
theorem dt_Ta_begin_0 : decode prog_11_method_3_code 0 = .ok (.aload_n 0, 1) := by decide +kernel
theorem dt_Ta_begin_1 : decode prog_11_method_3_code 1 = .ok (.aload_n 1, 1) := by decide +kernel
theorem dt_Ta_begin_2 : decode prog_11_method_3_code 2 = .ok (.putfield 17, 3) := by decide +kernel
theorem dt_Ta_begin_5 : decode prog_11_method_3_code 5 = .ok (.aload_n 0, 1) := by decide +kernel
theorem dt_Ta_begin_6 : decode prog_11_method_3_code 6 = .ok (.iconst 0, 1) := by decide +kernel
theorem dt_Ta_begin_7 : decode prog_11_method_3_code 7 = .ok (.putfield 25, 3) := by decide +kernel
theorem dt_Ta_begin_10 : decode prog_11_method_3_code 10 = .ok (.aload_n 0, 1) := by decide +kernel
theorem dt_Ta_begin_11 : decode prog_11_method_3_code 11 = .ok (.iconst 0, 1) := by decide +kernel
theorem dt_Ta_begin_12 : decode prog_11_method_3_code 12 = .ok (.putfield 28, 3) := by decide +kernel
theorem dt_Ta_begin_15 : decode prog_11_method_3_code 15 = .ok (.aload_n 0, 1) := by decide +kernel
theorem dt_Ta_begin_16 : decode prog_11_method_3_code 16 = .ok (.invokevirtual 31, 3) := by decide +kernel
theorem dt_Ta_begin_19 : decode prog_11_method_3_code 19 = .ok (.return_, 1) := by decide +kernel
set_option maxHeartbeats 4000000 in
set_option maxRecDepth 10000 in
theorem tm_Ta_begin {N : Nat} {T : Nat → tm_S} {w : ab_W} {tp : Nat} (hW : tm_W N T w) (h_tp : is_Ta T tp) (sk : Nat) (hs_sk : sk < g_ln.length) : ab_Mt g_G g_rs mt_Ta_begin 6 0 0 [ab_R tp, ab_R (ab_sb + sk)] w (tm_Qv N T (fun w2 => (∀ (p : Nat) (j : Int), ¬ ((p = tp ∧ (j = 2 ∨ j = 5 ∨ j = 6 ∨ j = 7 ∨ j = 8 ∨ j = 4 ∨ j = 3))) → tm_g w2 p j = tm_g w p j))) := by
  obtain ⟨tpt0, tpt1⟩ := id h_tp
  have hF0 : ∀ (p : Nat) (j : Int), ¬ ((p = tp ∧ (j = 2 ∨ j = 5 ∨ j = 6 ∨ j = 7 ∨ j = 8 ∨ j = 4 ∨ j = 3))) → tm_g w p j = tm_g w p j := fun _ _ _ => rfl
  refine ab_Mt.of rfl (Nat.le_of_ble_eq_true rfl) ?_
  show ab_Ev g_G g_rs mt_Ta_begin _ _ _ 0 [some (ab_R tp), some (ab_R (ab_sb + sk))] [] _ _
  refine ev_aload_n dt_Ta_begin_0 rfl rfl ?_
  refine ev_aload_n dt_Ta_begin_1 rfl rfl ?_
  refine tm_putV (K := 3) dt_Ta_begin_2 hW tpt0 (fp_Ta_17 _) rfl rfl trivial ⟨_, rfl, hs_sk⟩ (Or.inr (Nat.le_add_right _ _)) (fun w364 hWw364 kkw364 hfw364 => ?_)
  have hFw364 : ∀ (p : Nat) (j : Int), ¬ ((p = tp ∧ (j = 2 ∨ j = 5 ∨ j = 6 ∨ j = 7 ∨ j = 8 ∨ j = 4 ∨ j = 3))) → tm_g w364 p j = tm_g w p j := fun p j h => (hfw364 p j (by omega)).trans (hF0 p j h)
  refine ev_aload_n dt_Ta_begin_5 rfl rfl ?_
  refine ev_iconst dt_Ta_begin_6 ?_
  refine tm_putI (K := 2) dt_Ta_begin_7 hWw364 tpt0 (fp_Ta_25 _) rfl rfl trivial (by omega) (by omega) (fun w365 hWw365 kkw365 hfw365 => ?_)
  have hFw365 : ∀ (p : Nat) (j : Int), ¬ ((p = tp ∧ (j = 2 ∨ j = 5 ∨ j = 6 ∨ j = 7 ∨ j = 8 ∨ j = 4 ∨ j = 3))) → tm_g w365 p j = tm_g w p j := fun p j h => (hfw365 p j (by omega)).trans (hFw364 p j h)
  refine ev_aload_n dt_Ta_begin_10 rfl rfl ?_
  refine ev_iconst dt_Ta_begin_11 ?_
  refine tm_putI (K := 4) dt_Ta_begin_12 hWw365 tpt0 (fp_Ta_28 _) rfl rfl trivial (by omega) (by omega) (fun w366 hWw366 kkw366 hfw366 => ?_)
  have hFw366 : ∀ (p : Nat) (j : Int), ¬ ((p = tp ∧ (j = 2 ∨ j = 5 ∨ j = 6 ∨ j = 7 ∨ j = 8 ∨ j = 4 ∨ j = 3))) → tm_g w366 p j = tm_g w p j := fun p j h => (hfw366 p j (by omega)).trans (hFw365 p j h)
  have z367 := (hfw366 tp 2 (by omega)).trans kkw365
  refine ev_aload_n dt_Ta_begin_15 rfl rfl ?_
  refine tm_vv dt_Ta_begin_16 (tm_Ta_advance hWw366 h_tp) kb_Ta_31 ⟨im_Ta_advance, se_Ta_advance⟩ rfl hWw366 tpt0 rfl (Nat.le_of_ble_eq_true rfl) (by decide) (fun w368 hWw368 hRw368 => ?_)
  have hfw368 := hRw368
  have hFw368 : ∀ (p : Nat) (j : Int), ¬ ((p = tp ∧ (j = 2 ∨ j = 5 ∨ j = 6 ∨ j = 7 ∨ j = 8 ∨ j = 4 ∨ j = 3))) → tm_g w368 p j = tm_g w p j := fun p j h => (hfw368 p j (by omega)).trans (hFw366 p j h)
  have z369 := (hfw368 tp 4 (by omega)).trans kkw366
  exact ev_return dt_Ta_begin_19 rfl ⟨hWw368, rfl, hFw368⟩
theorem dt_Ta_takeNumber_0 : decode prog_11_method_9_code 0 = .ok (.aload_n 0, 1) := by decide +kernel
theorem dt_Ta_takeNumber_1 : decode prog_11_method_9_code 1 = .ok (.getfield 40, 3) := by decide +kernel
theorem dt_Ta_takeNumber_4 : decode prog_11_method_9_code 4 = .ok (.istore_n 3, 1) := by decide +kernel
theorem dt_Ta_takeNumber_5 : decode prog_11_method_9_code 5 = .ok (.aload_n 0, 1) := by decide +kernel
theorem dt_Ta_takeNumber_6 : decode prog_11_method_9_code 6 = .ok (.getfield 37, 3) := by decide +kernel
theorem dt_Ta_takeNumber_9 : decode prog_11_method_9_code 9 = .ok (.bipush (-2), 2) := by decide +kernel
theorem dt_Ta_takeNumber_11 : decode prog_11_method_9_code 11 = .ok (.if_icmp .eq 11, 3) := by decide +kernel
theorem dt_Ta_takeNumber_14 : decode prog_11_method_9_code 14 = .ok (.aload_n 0, 1) := by decide +kernel
theorem dt_Ta_takeNumber_15 : decode prog_11_method_9_code 15 = .ok (.iconst 0, 1) := by decide +kernel
theorem dt_Ta_takeNumber_16 : decode prog_11_method_9_code 16 = .ok (.invokevirtual 64, 3) := by decide +kernel
theorem dt_Ta_takeNumber_19 : decode prog_11_method_9_code 19 = .ok (.goto 32, 3) := by decide +kernel
theorem dt_Ta_takeNumber_22 : decode prog_11_method_9_code 22 = .ok (.iload_n 3, 1) := by decide +kernel
theorem dt_Ta_takeNumber_23 : decode prog_11_method_9_code 23 = .ok (.iload_n 1, 1) := by decide +kernel
theorem dt_Ta_takeNumber_24 : decode prog_11_method_9_code 24 = .ok (.if_icmp .lt 13, 3) := by decide +kernel
theorem dt_Ta_takeNumber_27 : decode prog_11_method_9_code 27 = .ok (.iload_n 3, 1) := by decide +kernel
theorem dt_Ta_takeNumber_28 : decode prog_11_method_9_code 28 = .ok (.iload_n 2, 1) := by decide +kernel
theorem dt_Ta_takeNumber_29 : decode prog_11_method_9_code 29 = .ok (.if_icmp .gt 8, 3) := by decide +kernel
theorem dt_Ta_takeNumber_32 : decode prog_11_method_9_code 32 = .ok (.iload_n 3, 1) := by decide +kernel
theorem dt_Ta_takeNumber_33 : decode prog_11_method_9_code 33 = .ok (.iconst (-1), 1) := by decide +kernel
theorem dt_Ta_takeNumber_34 : decode prog_11_method_9_code 34 = .ok (.if_icmp .ne 11, 3) := by decide +kernel
theorem dt_Ta_takeNumber_37 : decode prog_11_method_9_code 37 = .ok (.aload_n 0, 1) := by decide +kernel
theorem dt_Ta_takeNumber_38 : decode prog_11_method_9_code 38 = .ok (.iconst 1, 1) := by decide +kernel
theorem dt_Ta_takeNumber_39 : decode prog_11_method_9_code 39 = .ok (.invokevirtual 64, 3) := by decide +kernel
theorem dt_Ta_takeNumber_42 : decode prog_11_method_9_code 42 = .ok (.goto 9, 3) := by decide +kernel
theorem dt_Ta_takeNumber_45 : decode prog_11_method_9_code 45 = .ok (.aload_n 0, 1) := by decide +kernel
theorem dt_Ta_takeNumber_46 : decode prog_11_method_9_code 46 = .ok (.invokevirtual 31, 3) := by decide +kernel
theorem dt_Ta_takeNumber_49 : decode prog_11_method_9_code 49 = .ok (.iload_n 3, 1) := by decide +kernel
theorem dt_Ta_takeNumber_50 : decode prog_11_method_9_code 50 = .ok (.ireturn, 1) := by decide +kernel
theorem dt_Ta_takeNumber_51 : decode prog_11_method_9_code 51 = .ok (.iconst (-1), 1) := by decide +kernel
theorem dt_Ta_takeNumber_52 : decode prog_11_method_9_code 52 = .ok (.ireturn, 1) := by decide +kernel
set_option maxHeartbeats 4000000 in
set_option maxRecDepth 10000 in
theorem tm_Ta_takeNumber {N : Nat} {T : Nat → tm_S} {w : ab_W} {tp : Nat} (hW : tm_W N T w) (h_tp : is_Ta T tp) (a : Int) (l_a : (-2147483648) ≤ a) (u_a : a ≤ 2147483647) (b : Int) (l_b : (-2147483648) ≤ b) (u_b : b ≤ 2147483647) (f0 : Int) (k_f0 : tm_g w tp 4 = some (ab_I f0)) : ab_Mt g_G g_rs mt_Ta_takeNumber 6 0 0 [ab_R tp, ab_I a, ab_I b] w (tm_Qi N T (fun v w2 => (∀ (p : Nat) (j : Int), ¬ ((p = tp ∧ (j = 2 ∨ j = 5 ∨ j = 6 ∨ j = 7 ∨ j = 8 ∨ j = 4))) → tm_g w2 p j = tm_g w p j) ∧ ∃ f1 : Int, tm_g w2 tp 4 = some (ab_I f1) ∧ ((-2147483648) ≤ v ∧ v ≤ 2147483647 ∧ ((¬ f0 = 0 → ¬ f1 = 0) ∧ ((a ≤ v ∧ v ≤ b ∧ ¬ v = -1) ∨ (v = -1 ∧ ¬ f1 = 0)))))) := by
  obtain ⟨tpt0, tpt1⟩ := id h_tp
  have hF0 : ∀ (p : Nat) (j : Int), ¬ ((p = tp ∧ (j = 2 ∨ j = 5 ∨ j = 6 ∨ j = 7 ∨ j = 8 ∨ j = 4))) → tm_g w p j = tm_g w p j := fun _ _ _ => rfl
  refine ab_Mt.of rfl (Nat.le_of_ble_eq_true rfl) ?_
  show ab_Ev g_G g_rs mt_Ta_takeNumber _ _ _ 0 [some (ab_R tp), some (ab_I a), some (ab_I b), none] [] _ _
  have b_f0 : (-2147483648) ≤ f0 ∧ f0 ≤ 2147483647 := by obtain ⟨a, e, h0, h1⟩ := tm_peek (k := 4) (K := 4) hW tpt0 rfl rfl; rw [k_f0] at e; injection e with e; injection e with e; omega
  refine ev_aload_n dt_Ta_takeNumber_0 rfl rfl ?_
  refine tm_getI (K := 7) dt_Ta_takeNumber_1 hW tpt0 fl_Ta_40 rfl rfl (fun v370 kv370 lv370 uv370 => ?_)
  refine ev_istore_n (l' := [_, _, _, _]) dt_Ta_takeNumber_4 rfl (Nat.le_of_ble_eq_true rfl) rfl ?_
  refine ev_aload_n dt_Ta_takeNumber_5 rfl rfl ?_
  refine tm_getI (K := 6) dt_Ta_takeNumber_6 hW tpt0 fl_Ta_37 rfl rfl (fun v371 kv371 lv371 uv371 => ?_)
  refine ev_bipush dt_Ta_takeNumber_9 rfl ?_
  refine ev_icmp_eq (tgt := 22) dt_Ta_takeNumber_11 (by decide) (by omega) (by omega) (fun h372 => ?_) (fun h372 => ?_)
  · skip
    refine ev_iload_n dt_Ta_takeNumber_22 rfl rfl ?_
    refine ev_iload_n dt_Ta_takeNumber_23 rfl rfl ?_
    refine ev_icmp_lt (tgt := 37) dt_Ta_takeNumber_24 (by decide) (by omega) (by omega) (fun h373 => ?_) (fun h373 => ?_)
    · skip
      refine ev_aload_n dt_Ta_takeNumber_37 rfl rfl ?_
      refine ev_iconst dt_Ta_takeNumber_38 ?_
      refine tm_vv dt_Ta_takeNumber_39 (tm_Ta_fail hW h_tp (1) (by omega) (by omega)) kb_Ta_64 ⟨im_Ta_fail, se_Ta_fail⟩ rfl hW tpt0 rfl (Nat.le_of_ble_eq_true rfl) (by decide) (fun w374 hWw374 hRw374 => ?_)
      obtain ⟨hfw374, v375, kv375, hpw374⟩ := hRw374
      have hFw374 : ∀ (p : Nat) (j : Int), ¬ ((p = tp ∧ (j = 2 ∨ j = 5 ∨ j = 6 ∨ j = 7 ∨ j = 8 ∨ j = 4))) → tm_g w374 p j = tm_g w p j := fun p j h => (hfw374 p j (by omega)).trans (hF0 p j h)
      have bv375 : (-2147483648) ≤ v375 ∧ v375 ≤ 2147483647 := by obtain ⟨a, e, h0, h1⟩ := tm_peek (k := 4) (K := 4) hWw374 tpt0 rfl rfl; rw [kv375] at e; injection e with e; injection e with e; omega
      refine ev_goto (tgt := 51) dt_Ta_takeNumber_42 (by decide) ?_
      refine ev_iconst dt_Ta_takeNumber_51 ?_
      exact ev_ireturn dt_Ta_takeNumber_52 rfl ⟨hWw374, _, rfl, ⟨hFw374, v375, kv375, by omega⟩⟩
    · skip
      refine ev_iload_n dt_Ta_takeNumber_27 rfl rfl ?_
      refine ev_iload_n dt_Ta_takeNumber_28 rfl rfl ?_
      refine ev_icmp_gt (tgt := 37) dt_Ta_takeNumber_29 (by decide) (by omega) (by omega) (fun h376 => ?_) (fun h376 => ?_)
      · skip
        refine ev_aload_n dt_Ta_takeNumber_37 rfl rfl ?_
        refine ev_iconst dt_Ta_takeNumber_38 ?_
        refine tm_vv dt_Ta_takeNumber_39 (tm_Ta_fail hW h_tp (1) (by omega) (by omega)) kb_Ta_64 ⟨im_Ta_fail, se_Ta_fail⟩ rfl hW tpt0 rfl (Nat.le_of_ble_eq_true rfl) (by decide) (fun w377 hWw377 hRw377 => ?_)
        obtain ⟨hfw377, v378, kv378, hpw377⟩ := hRw377
        have hFw377 : ∀ (p : Nat) (j : Int), ¬ ((p = tp ∧ (j = 2 ∨ j = 5 ∨ j = 6 ∨ j = 7 ∨ j = 8 ∨ j = 4))) → tm_g w377 p j = tm_g w p j := fun p j h => (hfw377 p j (by omega)).trans (hF0 p j h)
        have bv378 : (-2147483648) ≤ v378 ∧ v378 ≤ 2147483647 := by obtain ⟨a, e, h0, h1⟩ := tm_peek (k := 4) (K := 4) hWw377 tpt0 rfl rfl; rw [kv378] at e; injection e with e; injection e with e; omega
        refine ev_goto (tgt := 51) dt_Ta_takeNumber_42 (by decide) ?_
        refine ev_iconst dt_Ta_takeNumber_51 ?_
        exact ev_ireturn dt_Ta_takeNumber_52 rfl ⟨hWw377, _, rfl, ⟨hFw377, v378, kv378, by omega⟩⟩
      · skip
        refine ev_iload_n dt_Ta_takeNumber_32 rfl rfl ?_
        refine ev_iconst dt_Ta_takeNumber_33 ?_
        refine ev_icmp_ne (tgt := 45) dt_Ta_takeNumber_34 (by decide) (by omega) (by omega) (fun h379 => ?_) (fun h379 => ?_)
        · skip
          refine ev_aload_n dt_Ta_takeNumber_45 rfl rfl ?_
          refine tm_vv dt_Ta_takeNumber_46 (tm_Ta_advance hW h_tp) kb_Ta_31 ⟨im_Ta_advance, se_Ta_advance⟩ rfl hW tpt0 rfl (Nat.le_of_ble_eq_true rfl) (by decide) (fun w380 hWw380 hRw380 => ?_)
          have hfw380 := hRw380
          have hFw380 : ∀ (p : Nat) (j : Int), ¬ ((p = tp ∧ (j = 2 ∨ j = 5 ∨ j = 6 ∨ j = 7 ∨ j = 8 ∨ j = 4))) → tm_g w380 p j = tm_g w p j := fun p j h => (hfw380 p j (by omega)).trans (hF0 p j h)
          have z381 := (hfw380 tp 4 (by omega)).trans k_f0
          refine ev_iload_n dt_Ta_takeNumber_49 rfl rfl ?_
          exact ev_ireturn dt_Ta_takeNumber_50 rfl ⟨hWw380, _, rfl, ⟨hFw380, f0, z381, by omega⟩⟩
        · skip
          refine ev_aload_n dt_Ta_takeNumber_37 rfl rfl ?_
          refine ev_iconst dt_Ta_takeNumber_38 ?_
          refine tm_vv dt_Ta_takeNumber_39 (tm_Ta_fail hW h_tp (1) (by omega) (by omega)) kb_Ta_64 ⟨im_Ta_fail, se_Ta_fail⟩ rfl hW tpt0 rfl (Nat.le_of_ble_eq_true rfl) (by decide) (fun w382 hWw382 hRw382 => ?_)
          obtain ⟨hfw382, v383, kv383, hpw382⟩ := hRw382
          have hFw382 : ∀ (p : Nat) (j : Int), ¬ ((p = tp ∧ (j = 2 ∨ j = 5 ∨ j = 6 ∨ j = 7 ∨ j = 8 ∨ j = 4))) → tm_g w382 p j = tm_g w p j := fun p j h => (hfw382 p j (by omega)).trans (hF0 p j h)
          have bv383 : (-2147483648) ≤ v383 ∧ v383 ≤ 2147483647 := by obtain ⟨a, e, h0, h1⟩ := tm_peek (k := 4) (K := 4) hWw382 tpt0 rfl rfl; rw [kv383] at e; injection e with e; injection e with e; omega
          refine ev_goto (tgt := 51) dt_Ta_takeNumber_42 (by decide) ?_
          refine ev_iconst dt_Ta_takeNumber_51 ?_
          exact ev_ireturn dt_Ta_takeNumber_52 rfl ⟨hWw382, _, rfl, ⟨hFw382, v383, kv383, by omega⟩⟩
  · skip
    refine ev_aload_n dt_Ta_takeNumber_14 rfl rfl ?_
    refine ev_iconst dt_Ta_takeNumber_15 ?_
    refine tm_vv dt_Ta_takeNumber_16 (tm_Ta_fail hW h_tp (0) (by omega) (by omega)) kb_Ta_64 ⟨im_Ta_fail, se_Ta_fail⟩ rfl hW tpt0 rfl (Nat.le_of_ble_eq_true rfl) (by decide) (fun w384 hWw384 hRw384 => ?_)
    obtain ⟨hfw384, v385, kv385, hpw384⟩ := hRw384
    have hFw384 : ∀ (p : Nat) (j : Int), ¬ ((p = tp ∧ (j = 2 ∨ j = 5 ∨ j = 6 ∨ j = 7 ∨ j = 8 ∨ j = 4))) → tm_g w384 p j = tm_g w p j := fun p j h => (hfw384 p j (by omega)).trans (hF0 p j h)
    have bv385 : (-2147483648) ≤ v385 ∧ v385 ≤ 2147483647 := by obtain ⟨a, e, h0, h1⟩ := tm_peek (k := 4) (K := 4) hWw384 tpt0 rfl rfl; rw [kv385] at e; injection e with e; injection e with e; omega
    refine ev_goto (tgt := 51) dt_Ta_takeNumber_19 (by decide) ?_
    refine ev_iconst dt_Ta_takeNumber_51 ?_
    exact ev_ireturn dt_Ta_takeNumber_52 rfl ⟨hWw384, _, rfl, ⟨hFw384, v385, kv385, by omega⟩⟩
