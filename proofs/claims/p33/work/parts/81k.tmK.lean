theorem dt_Gu_findTurns_0 : decode prog_4_method_2_code 0 = .ok (.aload_n 0, 1) := by decide +kernel
theorem dt_Gu_findTurns_1 : decode prog_4_method_2_code 1 = .ok (.iconst 0, 1) := by decide +kernel
theorem dt_Gu_findTurns_2 : decode prog_4_method_2_code 2 = .ok (.putfield 21, 3) := by decide +kernel
theorem dt_Gu_findTurns_5 : decode prog_4_method_2_code 5 = .ok (.iconst 0, 1) := by decide +kernel
theorem dt_Gu_findTurns_6 : decode prog_4_method_2_code 6 = .ok (.istore_n 2, 1) := by decide +kernel
theorem dt_Gu_findTurns_7 : decode prog_4_method_2_code 7 = .ok (.iload_n 2, 1) := by decide +kernel
theorem dt_Gu_findTurns_8 : decode prog_4_method_2_code 8 = .ok (.bipush 12, 2) := by decide +kernel
theorem dt_Gu_findTurns_10 : decode prog_4_method_2_code 10 = .ok (.if_icmp .ge 62, 3) := by decide +kernel
theorem dt_Gu_findTurns_13 : decode prog_4_method_2_code 13 = .ok (.bipush (-3), 2) := by decide +kernel
theorem dt_Gu_findTurns_15 : decode prog_4_method_2_code 15 = .ok (.istore_n 3, 1) := by decide +kernel
theorem dt_Gu_findTurns_16 : decode prog_4_method_2_code 16 = .ok (.iload_n 3, 1) := by decide +kernel
theorem dt_Gu_findTurns_17 : decode prog_4_method_2_code 17 = .ok (.iconst 3, 1) := by decide +kernel
theorem dt_Gu_findTurns_18 : decode prog_4_method_2_code 18 = .ok (.if_icmp .gt 48, 3) := by decide +kernel
theorem dt_Gu_findTurns_21 : decode prog_4_method_2_code 21 = .ok (.aload_n 1, 1) := by decide +kernel
theorem dt_Gu_findTurns_22 : decode prog_4_method_2_code 22 = .ok (.iload_n 2, 1) := by decide +kernel
theorem dt_Gu_findTurns_23 : decode prog_4_method_2_code 23 = .ok (.iload_n 3, 1) := by decide +kernel
theorem dt_Gu_findTurns_24 : decode prog_4_method_2_code 24 = .ok (.invokestatic 25, 3) := by decide +kernel
theorem dt_Gu_findTurns_27 : decode prog_4_method_2_code 27 = .ok (.ifCond .eq 33, 3) := by decide +kernel
theorem dt_Gu_findTurns_30 : decode prog_4_method_2_code 30 = .ok (.aload_n 0, 1) := by decide +kernel
theorem dt_Gu_findTurns_31 : decode prog_4_method_2_code 31 = .ok (.getfield 11, 3) := by decide +kernel
theorem dt_Gu_findTurns_34 : decode prog_4_method_2_code 34 = .ok (.aload_n 0, 1) := by decide +kernel
theorem dt_Gu_findTurns_35 : decode prog_4_method_2_code 35 = .ok (.getfield 21, 3) := by decide +kernel
theorem dt_Gu_findTurns_38 : decode prog_4_method_2_code 38 = .ok (.iload_n 2, 1) := by decide +kernel
theorem dt_Gu_findTurns_39 : decode prog_4_method_2_code 39 = .ok (.iastore, 1) := by decide +kernel
theorem dt_Gu_findTurns_40 : decode prog_4_method_2_code 40 = .ok (.aload_n 0, 1) := by decide +kernel
theorem dt_Gu_findTurns_41 : decode prog_4_method_2_code 41 = .ok (.getfield 15, 3) := by decide +kernel
theorem dt_Gu_findTurns_44 : decode prog_4_method_2_code 44 = .ok (.aload_n 0, 1) := by decide +kernel
theorem dt_Gu_findTurns_45 : decode prog_4_method_2_code 45 = .ok (.getfield 21, 3) := by decide +kernel
theorem dt_Gu_findTurns_48 : decode prog_4_method_2_code 48 = .ok (.iload_n 3, 1) := by decide +kernel
theorem dt_Gu_findTurns_49 : decode prog_4_method_2_code 49 = .ok (.iastore, 1) := by decide +kernel
theorem dt_Gu_findTurns_50 : decode prog_4_method_2_code 50 = .ok (.aload_n 0, 1) := by decide +kernel
theorem dt_Gu_findTurns_51 : decode prog_4_method_2_code 51 = .ok (.dup, 1) := by decide +kernel
theorem dt_Gu_findTurns_52 : decode prog_4_method_2_code 52 = .ok (.getfield 21, 3) := by decide +kernel
theorem dt_Gu_findTurns_55 : decode prog_4_method_2_code 55 = .ok (.iconst 1, 1) := by decide +kernel
theorem dt_Gu_findTurns_56 : decode prog_4_method_2_code 56 = .ok (.iadd, 1) := by decide +kernel
theorem dt_Gu_findTurns_57 : decode prog_4_method_2_code 57 = .ok (.putfield 21, 3) := by decide +kernel
theorem dt_Gu_findTurns_60 : decode prog_4_method_2_code 60 = .ok (.iinc 3 1, 3) := by decide +kernel
theorem dt_Gu_findTurns_63 : decode prog_4_method_2_code 63 = .ok (.goto (-47), 3) := by decide +kernel
theorem dt_Gu_findTurns_66 : decode prog_4_method_2_code 66 = .ok (.iinc 2 1, 3) := by decide +kernel
theorem dt_Gu_findTurns_69 : decode prog_4_method_2_code 69 = .ok (.goto (-62), 3) := by decide +kernel
theorem dt_Gu_findTurns_72 : decode prog_4_method_2_code 72 = .ok (.return_, 1) := by decide +kernel
set_option maxHeartbeats 4000000 in
set_option maxRecDepth 10000 in
theorem tm_Gu_findTurns {N : Nat} {T : Nat → tm_S} {w : ab_W} {gu : Nat} {o : Nat} (hW : tm_W N T w) (h_gu : is_Gu T gu) (h_o : is_Ri T o) (ne_gu_o : gu + 4 ≤ o ∨ o + 13 ≤ gu) : ab_Mt g_G g_rs mt_Gu_findTurns 3 0 0 [ab_R gu, ab_R o] w (tm_Qv N T (fun w2 => (∀ (p : Nat) (j : Int), ¬ (p = (gu + 1) ∨ p = (gu + 2) ∨ (p = gu ∧ (j = 2))) → tm_g w2 p j = tm_g w p j))) := by
  obtain ⟨gut0, gut1, gut2, gut3⟩ := id h_gu
  obtain ⟨ot0, ot1, ot2, ot3, ot4, ot5, ot6, ot7, ot8, ot9, ot10, ot11, ot12⟩ := id h_o
  have od := is_Ri.d h_o
  have hF0 : ∀ (p : Nat) (j : Int), ¬ (p = (gu + 1) ∨ p = (gu + 2) ∨ (p = gu ∧ (j = 2))) → tm_g w p j = tm_g w p j := fun _ _ _ => rfl
  refine ab_Mt.of rfl (Nat.le_of_ble_eq_true rfl) ?_
  show ab_Ev g_G g_rs mt_Gu_findTurns _ _ _ 0 [some (ab_R gu), some (ab_R o), none, none] [] _ _
  refine ev_aload_n dt_Gu_findTurns_0 rfl rfl ?_
  refine ev_iconst dt_Gu_findTurns_1 ?_
  refine tm_putI (K := 2) dt_Gu_findTurns_2 hW gut0 (fp_Gu_21 _) rfl rfl trivial (by omega) (by omega) (fun w1 hWw1 kkw1 hfw1 => ?_)
  have hFw1 : ∀ (p : Nat) (j : Int), ¬ (p = (gu + 1) ∨ p = (gu + 2) ∨ (p = gu ∧ (j = 2))) → tm_g w1 p j = tm_g w p j := fun p j h => (hfw1 p j (by omega)).trans (hF0 p j h)
  refine ev_iconst dt_Gu_findTurns_5 ?_
  refine ev_istore_n (l' := [_, _, _, _]) dt_Gu_findTurns_6 rfl (Nat.le_of_ble_eq_true rfl) rfl ?_
  have L2 : ∀ (n : Nat) (i3 : Int) (t5 : Int) (w4 : ab_W), tm_W N T w4 → (∀ (p : Nat) (j : Int), ¬ (p = (gu + 1) ∨ p = (gu + 2) ∨ (p = gu ∧ (j = 2))) → tm_g w4 p j = tm_g w p j) → tm_g w4 gu 2 = some (ab_I t5) → 0 ≤ i3 → i3 ≤ 12 → 0 ≤ t5 → t5 ≤ 84 → t5 ≤ 7 * i3 → 12 - i3 < (n : Int) → ab_Ev g_G g_rs mt_Gu_findTurns 3 0 0 7 [some (ab_R gu), some (ab_R o), some (ab_I i3), none] [] w4 (tm_Qv N T (fun w2 => (∀ (p : Nat) (j : Int), ¬ (p = (gu + 1) ∨ p = (gu + 2) ∨ (p = gu ∧ (j = 2))) → tm_g w2 p j = tm_g w p j))) := by
    intro n
    induction n with
    | zero =>
      intro i3 t5 w4 hWw4 hFw4 kt5 li3 ui3 lt5 ut5 q0L2 mL2
      exfalso
      omega
    | succ nL2 ihL2 =>
      intro i3 t5 w4 hWw4 hFw4 kt5 li3 ui3 lt5 ut5 q0L2 mL2
      refine ev_iload_n dt_Gu_findTurns_7 rfl rfl ?_
      refine ev_bipush dt_Gu_findTurns_8 rfl ?_
      refine ev_icmp_ge (tgt := 72) dt_Gu_findTurns_10 (by decide) (by omega) (by omega) (fun h6 => ?_) (fun h6 => ?_)
      · skip
        exact ev_return dt_Gu_findTurns_72 rfl ⟨hWw4, rfl, hFw4⟩
      · skip
        refine ev_bipush dt_Gu_findTurns_13 rfl ?_
        refine ev_istore_n (l' := [_, _, _, _]) dt_Gu_findTurns_15 rfl (Nat.le_of_ble_eq_true rfl) rfl ?_
        have L7 : ∀ (n : Nat) (i8 : Int) (t10 : Int) (w9 : ab_W), tm_W N T w9 → (∀ (p : Nat) (j : Int), ¬ (p = (gu + 1) ∨ p = (gu + 2) ∨ (p = gu ∧ (j = 2))) → tm_g w9 p j = tm_g w p j) → tm_g w9 gu 2 = some (ab_I t10) → (-3) ≤ i8 → i8 ≤ 4 → 0 ≤ t10 → t10 ≤ 84 → t10 ≤ 7 * (i3) + i8 + 3 → 4 - i8 < (n : Int) → ab_Ev g_G g_rs mt_Gu_findTurns 3 0 0 16 [some (ab_R gu), some (ab_R o), some (ab_I i3), some (ab_I i8)] [] w9 (tm_Qv N T (fun w2 => (∀ (p : Nat) (j : Int), ¬ (p = (gu + 1) ∨ p = (gu + 2) ∨ (p = gu ∧ (j = 2))) → tm_g w2 p j = tm_g w p j))) := by
          intro n
          induction n with
          | zero =>
            intro i8 t10 w9 hWw9 hFw9 kt10 li8 ui8 lt10 ut10 q0L7 mL7
            exfalso
            omega
          | succ nL7 ihL7 =>
            intro i8 t10 w9 hWw9 hFw9 kt10 li8 ui8 lt10 ut10 q0L7 mL7
            refine ev_iload_n dt_Gu_findTurns_16 rfl rfl ?_
            refine ev_iconst dt_Gu_findTurns_17 ?_
            refine ev_icmp_gt (tgt := 66) dt_Gu_findTurns_18 (by decide) (by omega) (by omega) (fun h11 => ?_) (fun h11 => ?_)
            · skip
              refine ev_iinc (l' := [_, _, _, _]) dt_Gu_findTurns_66 rfl rfl ?_
              refine ev_goto (tgt := 7) dt_Gu_findTurns_69 (by decide) ?_
              exact tm_loc (tm_le_s (tm_le_s (tm_le_s (tm_le_n tm_le_0)))) (ihL2 ((i3 + 1)) (t10) w9 hWw9 hFw9 kt10 (by omega) (by omega) (by omega) (by omega) (by omega) (by omega))
            · skip
              refine ev_aload_n dt_Gu_findTurns_21 rfl rfl ?_
              refine ev_iload_n dt_Gu_findTurns_22 rfl rfl ?_
              refine ev_iload_n dt_Gu_findTurns_23 rfl rfl ?_
              refine tm_sp dt_Gu_findTurns_24 (tm_Gu_fitsDiary hWw9 h_o (i3) (by omega) (by omega) (i8) (by omega) (by omega)) kb_Gu_25 sc_Gu_fitsDiary rfl (Nat.le_of_ble_eq_true rfl) (by decide) (fun v12 hv12 => ?_)
              refine ev_if_eq (tgt := 60) dt_Gu_findTurns_27 (by decide) (by omega) (fun h13 => ?_) (fun h13 => ?_)
              · skip
                refine ev_iinc (l' := [_, _, _, _]) dt_Gu_findTurns_60 rfl rfl ?_
                refine ev_goto (tgt := 16) dt_Gu_findTurns_63 (by decide) ?_
                exact tm_loc (tm_le_s (tm_le_s (tm_le_s (tm_le_s tm_le_0)))) (ihL7 ((i8 + 1)) (t10) w9 hWw9 hFw9 kt10 (by omega) (by omega) (by omega) (by omega) (by omega) (by omega))
              · skip
                refine ev_aload_n dt_Gu_findTurns_30 rfl rfl ?_
                refine tm_getR dt_Gu_findTurns_31 hWw9 gut0 fl_Gu_11 rfl ?_
                refine ev_aload_n dt_Gu_findTurns_34 rfl rfl ?_
                refine tm_getK (K := 2) dt_Gu_findTurns_35 hWw9 gut0 fl_Gu_21 rfl kt10 ?_
                refine ev_iload_n dt_Gu_findTurns_38 rfl rfl ?_
                refine tm_iastore dt_Gu_findTurns_39 hWw9 gut1 (by omega) (by omega) (by omega) (by omega) (by omega) (fun w14 hWw14 kkw14 hfw14 => ?_)
                have hFw14 : ∀ (p : Nat) (j : Int), ¬ (p = (gu + 1) ∨ p = (gu + 2) ∨ (p = gu ∧ (j = 2))) → tm_g w14 p j = tm_g w p j := fun p j h => (hfw14 p j (by omega)).trans (hFw9 p j h)
                have z15 := (hfw14 gu 2 (by omega)).trans kt10
                refine ev_aload_n dt_Gu_findTurns_40 rfl rfl ?_
                refine tm_getR dt_Gu_findTurns_41 hWw14 gut0 fl_Gu_15 rfl ?_
                refine ev_aload_n dt_Gu_findTurns_44 rfl rfl ?_
                refine tm_getK (K := 2) dt_Gu_findTurns_45 hWw14 gut0 fl_Gu_21 rfl z15 ?_
                refine ev_iload_n dt_Gu_findTurns_48 rfl rfl ?_
                refine tm_iastore dt_Gu_findTurns_49 hWw14 gut2 (by omega) (by omega) (by omega) (by omega) (by omega) (fun w16 hWw16 kkw16 hfw16 => ?_)
                have hFw16 : ∀ (p : Nat) (j : Int), ¬ (p = (gu + 1) ∨ p = (gu + 2) ∨ (p = gu ∧ (j = 2))) → tm_g w16 p j = tm_g w p j := fun p j h => (hfw16 p j (by omega)).trans (hFw14 p j h)
                have z17 := (hfw16 gu 2 (by omega)).trans z15
                refine ev_aload_n dt_Gu_findTurns_50 rfl rfl ?_
                refine ev_dup dt_Gu_findTurns_51 rfl ?_
                refine tm_getK (K := 2) dt_Gu_findTurns_52 hWw16 gut0 fl_Gu_21 rfl z17 ?_
                refine ev_iconst dt_Gu_findTurns_55 ?_
                refine ev_iadd dt_Gu_findTurns_56 ?_
                refine tm_putI (K := 2) dt_Gu_findTurns_57 hWw16 gut0 (fp_Gu_21 _) rfl rfl trivial (by omega) (by omega) (fun w18 hWw18 kkw18 hfw18 => ?_)
                have hFw18 : ∀ (p : Nat) (j : Int), ¬ (p = (gu + 1) ∨ p = (gu + 2) ∨ (p = gu ∧ (j = 2))) → tm_g w18 p j = tm_g w p j := fun p j h => (hfw18 p j (by omega)).trans (hFw16 p j h)
                refine ev_iinc (l' := [_, _, _, _]) dt_Gu_findTurns_60 rfl rfl ?_
                refine ev_goto (tgt := 16) dt_Gu_findTurns_63 (by decide) ?_
                exact tm_loc (tm_le_s (tm_le_s (tm_le_s (tm_le_s tm_le_0)))) (ihL7 ((i8 + 1)) ((t10 + 1)) w18 hWw18 hFw18 kkw18 (by omega) (by omega) (by omega) (by omega) (by omega) (by omega))
        exact tm_loc (tm_le_s (tm_le_s (tm_le_s (tm_le_s tm_le_0)))) (L7 (4 - ((-3)) + 1 : Int).toNat ((-3)) (t5) w4 hWw4 hFw4 kt5 (by omega) (by omega) (by omega) (by omega) (by omega) (by omega))
  exact tm_loc (tm_le_s (tm_le_s (tm_le_s (tm_le_n tm_le_0)))) (L2 (12 - (0) + 1 : Int).toNat (0) (0) w1 hWw1 hFw1 kkw1 (by omega) (by omega) (by omega) (by omega) (by omega) (by omega))
