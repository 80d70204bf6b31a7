set_option maxHeartbeats 4000000 in
set_option maxRecDepth 10000 in
theorem gx_Ru_timingOf {N : Nat} {T : Nat → tm_S} {w : ab_W} (hW : tm_W N T w) (a : Int) (l_a : (-2147483648) ≤ a) (u_a : a ≤ 2147483647) : ab_Mt g_G g_rs mt_Ru_timingOf 0 0 0 [ab_I a] w (tm_P w (fun v => (-35) ≤ v ∧ v ≤ 0 ∧ (v = a_tim a))) := by
  refine ab_Mt.of rfl (Nat.le_of_ble_eq_true rfl) ?_
  show ab_Ev g_G g_rs mt_Ru_timingOf _ _ _ 0 [some (ab_I a)] [] _ _
  refine ev_iload_n dt_Ru_timingOf_0 rfl rfl ?_
  rcases (by omega : a = 37 ∨ a = 42 ∨ a = 47 ∨ (¬ (37 = a) ∧ ¬ (42 = a) ∧ ¬ (47 = a))) with c1 | c1 | c1 | c1
  · skip
    refine tm_lk (off := 41) (tgt := 42) dt_Ru_timingOf_1 (by decide) (by omega) (by rw [c1]; rfl) (by decide) ?_
    refine ev_bipush dt_Ru_timingOf_42 rfl ?_
    exact ev_ireturn dt_Ru_timingOf_44 rfl ⟨rfl, _, rfl, by omega, by omega, (by unfold a_tim; (repeat' split) <;> omega)⟩
  · skip
    refine tm_lk (off := 35) (tgt := 36) dt_Ru_timingOf_1 (by decide) (by omega) (by rw [c1]; rfl) (by decide) ?_
    refine ev_bipush dt_Ru_timingOf_36 rfl ?_
    exact ev_ireturn dt_Ru_timingOf_38 rfl ⟨rfl, _, rfl, by omega, by omega, (by unfold a_tim; (repeat' split) <;> omega)⟩
  · skip
    refine tm_lk (off := 38) (tgt := 39) dt_Ru_timingOf_1 (by decide) (by omega) (by rw [c1]; rfl) (by decide) ?_
    refine ev_bipush dt_Ru_timingOf_39 rfl ?_
    exact ev_ireturn dt_Ru_timingOf_41 rfl ⟨rfl, _, rfl, by omega, by omega, (by unfold a_tim; (repeat' split) <;> omega)⟩
  · skip
    refine tm_lk (off := 44) (tgt := 45) dt_Ru_timingOf_1 (by decide) (by omega) (tm_lookD (by intro q hq; simp only [List.mem_cons, List.mem_nil_iff, or_false] at hq; rcases hq with rfl | rfl | rfl <;> omega)) (by decide) ?_
    refine ev_iconst dt_Ru_timingOf_45 ?_
    exact ev_ireturn dt_Ru_timingOf_46 rfl ⟨rfl, _, rfl, by omega, by omega, (by unfold a_tim; (repeat' split) <;> omega)⟩
set_option maxHeartbeats 4000000 in
set_option maxRecDepth 10000 in
theorem gx_Ru_addingOf {N : Nat} {T : Nat → tm_S} {w : ab_W} (hW : tm_W N T w) (a : Int) (l_a : (-2147483648) ≤ a) (u_a : a ≤ 2147483647) : ab_Mt g_G g_rs mt_Ru_addingOf 0 0 0 [ab_I a] w (tm_P w (fun v => (-35) ≤ v ∧ v ≤ 0 ∧ (v = a_add a))) := by
  refine ab_Mt.of rfl (Nat.le_of_ble_eq_true rfl) ?_
  show ab_Ev g_G g_rs mt_Ru_addingOf _ _ _ 0 [some (ab_I a)] [] _ _
  refine ev_iload_n dt_Ru_addingOf_0 rfl rfl ?_
  rcases (by omega : a = 43 ∨ a = 45 ∨ (¬ (43 = a) ∧ ¬ (45 = a))) with c2 | c2 | c2
  · skip
    refine tm_lk (off := 27) (tgt := 28) dt_Ru_addingOf_1 (by decide) (by omega) (by rw [c2]; rfl) (by decide) ?_
    refine ev_bipush dt_Ru_addingOf_28 rfl ?_
    exact ev_ireturn dt_Ru_addingOf_30 rfl ⟨rfl, _, rfl, by omega, by omega, (by unfold a_add; (repeat' split) <;> omega)⟩
  · skip
    refine tm_lk (off := 30) (tgt := 31) dt_Ru_addingOf_1 (by decide) (by omega) (by rw [c2]; rfl) (by decide) ?_
    refine ev_bipush dt_Ru_addingOf_31 rfl ?_
    exact ev_ireturn dt_Ru_addingOf_33 rfl ⟨rfl, _, rfl, by omega, by omega, (by unfold a_add; (repeat' split) <;> omega)⟩
  · skip
    refine tm_lk (off := 33) (tgt := 34) dt_Ru_addingOf_1 (by decide) (by omega) (tm_lookD (by intro q hq; simp only [List.mem_cons, List.mem_nil_iff, or_false] at hq; rcases hq with rfl | rfl <;> omega)) (by decide) ?_
    refine ev_iconst dt_Ru_addingOf_34 ?_
    exact ev_ireturn dt_Ru_addingOf_35 rfl ⟨rfl, _, rfl, by omega, by omega, (by unfold a_add; (repeat' split) <;> omega)⟩
set_option maxHeartbeats 4000000 in
set_option maxRecDepth 10000 in
theorem gx_Ru_comparisonOf {N : Nat} {T : Nat → tm_S} {w : ab_W} (hW : tm_W N T w) (a : Int) (l_a : (-2147483648) ≤ a) (u_a : a ≤ 2147483647) : ab_Mt g_G g_rs mt_Ru_comparisonOf 0 0 0 [ab_I a] w (tm_P w (fun v => (-35) ≤ v ∧ v ≤ 0 ∧ (v = a_cmo a))) := by
  refine ab_Mt.of rfl (Nat.le_of_ble_eq_true rfl) ?_
  show ab_Ev g_G g_rs mt_Ru_comparisonOf _ _ _ 0 [some (ab_I a)] [] _ _
  refine ev_iload_n dt_Ru_comparisonOf_0 rfl rfl ?_
  rcases (by omega : a = 60 ∨ a = 61 ∨ a = 62 ∨ a = 256 ∨ a = 257 ∨ (¬ (60 = a) ∧ ¬ (61 = a) ∧ ¬ (62 = a) ∧ ¬ (256 = a) ∧ ¬ (257 = a))) with c3 | c3 | c3 | c3 | c3 | c3
  · skip
    refine tm_lk (off := 51) (tgt := 52) dt_Ru_comparisonOf_1 (by decide) (by omega) (by rw [c3]; rfl) (by decide) ?_
    refine ev_bipush dt_Ru_comparisonOf_52 rfl ?_
    exact ev_ireturn dt_Ru_comparisonOf_54 rfl ⟨rfl, _, rfl, by omega, by omega, (by unfold a_cmo; (repeat' split) <;> omega)⟩
  · skip
    refine tm_lk (off := 57) (tgt := 58) dt_Ru_comparisonOf_1 (by decide) (by omega) (by rw [c3]; rfl) (by decide) ?_
    refine ev_bipush dt_Ru_comparisonOf_58 rfl ?_
    exact ev_ireturn dt_Ru_comparisonOf_60 rfl ⟨rfl, _, rfl, by omega, by omega, (by unfold a_cmo; (repeat' split) <;> omega)⟩
  · skip
    refine tm_lk (off := 63) (tgt := 64) dt_Ru_comparisonOf_1 (by decide) (by omega) (by rw [c3]; rfl) (by decide) ?_
    refine ev_bipush dt_Ru_comparisonOf_64 rfl ?_
    exact ev_ireturn dt_Ru_comparisonOf_66 rfl ⟨rfl, _, rfl, by omega, by omega, (by unfold a_cmo; (repeat' split) <;> omega)⟩
  · skip
    refine tm_lk (off := 54) (tgt := 55) dt_Ru_comparisonOf_1 (by decide) (by omega) (by rw [c3]; rfl) (by decide) ?_
    refine ev_bipush dt_Ru_comparisonOf_55 rfl ?_
    exact ev_ireturn dt_Ru_comparisonOf_57 rfl ⟨rfl, _, rfl, by omega, by omega, (by unfold a_cmo; (repeat' split) <;> omega)⟩
  · skip
    refine tm_lk (off := 60) (tgt := 61) dt_Ru_comparisonOf_1 (by decide) (by omega) (by rw [c3]; rfl) (by decide) ?_
    refine ev_bipush dt_Ru_comparisonOf_61 rfl ?_
    exact ev_ireturn dt_Ru_comparisonOf_63 rfl ⟨rfl, _, rfl, by omega, by omega, (by unfold a_cmo; (repeat' split) <;> omega)⟩
  · skip
    refine tm_lk (off := 66) (tgt := 67) dt_Ru_comparisonOf_1 (by decide) (by omega) (tm_lookD (by intro q hq; simp only [List.mem_cons, List.mem_nil_iff, or_false] at hq; rcases hq with rfl | rfl | rfl | rfl | rfl <;> omega)) (by decide) ?_
    refine ev_iconst dt_Ru_comparisonOf_67 ?_
    exact ev_ireturn dt_Ru_comparisonOf_68 rfl ⟨rfl, _, rfl, by omega, by omega, (by unfold a_cmo; (repeat' split) <;> omega)⟩
set_option maxHeartbeats 4000000 in
set_option maxRecDepth 10000 in
theorem gx_Ru_countToken {N : Nat} {T : Nat → tm_S} {w : ab_W} {f : Int → Int} {K : Nat} {L : Int} {G : a_S} {rr : Nat} {tp : Nat} (hW : tm_W N T w) (h_rr : is_Ru T rr) (h_tp : is_Ta T tp) (ne_rr_tp : rr + 2 ≤ tp ∨ tp + 2 ≤ rr) (hK : K < g_ln.length) (hG : a_R f K L tp rr w G) : ab_Mt g_G g_rs mt_Ru_countToken 1 0 0 [ab_R rr, ab_R tp] w (tm_Qv N T (fun w2 => (∀ (p : Nat) (j : Int), ¬ ((p = rr ∧ (j = 2)) ∨ (p = tp ∧ (j = 2 ∨ j = 4 ∨ j = 6 ∨ j = 7 ∨ j = 8))) → tm_g w2 p j = tm_g w p j) ∧ (a_R f K L tp rr w2 (a_cnt G)))) := by
  obtain ⟨rrt0, rrt1⟩ := id h_rr
  obtain ⟨tpt0, tpt1⟩ := id h_tp
  have hF0 : ∀ (p : Nat) (j : Int), ¬ ((p = rr ∧ (j = 2)) ∨ (p = tp ∧ (j = 2 ∨ j = 4 ∨ j = 6 ∨ j = 7 ∨ j = 8))) → tm_g w p j = tm_g w p j := fun _ _ _ => rfl
  refine ab_Mt.of rfl (Nat.le_of_ble_eq_true rfl) ?_
  show ab_Ev g_G g_rs mt_Ru_countToken _ _ _ 0 [some (ab_R rr), some (ab_R tp)] [] _ _
  refine ev_aload_n dt_Ru_countToken_0 rfl rfl ?_
  refine tm_getK (K := 2) dt_Ru_countToken_1 hW rrt0 fl_Ru_27 rfl (a_R_ct hG) ?_
  have gb4 := tm_kb (k := 2) (K := 2) hW rrt0 rfl rfl (a_R_ct hG)
  refine ev_bipush dt_Ru_countToken_4 rfl ?_
  refine ev_icmp_lt (tgt := 14) dt_Ru_countToken_6 (by decide) (by omega) (by omega) (fun h5 => ?_) (fun h5 => ?_)
  · skip
    refine ev_aload_n dt_Ru_countToken_14 rfl rfl ?_
    refine ev_dup dt_Ru_countToken_15 rfl ?_
    refine tm_getK (K := 2) dt_Ru_countToken_16 hW rrt0 fl_Ru_27 rfl (a_R_ct hG) ?_
    have gb6 := tm_kb (k := 2) (K := 2) hW rrt0 rfl rfl (a_R_ct hG)
    refine ev_iconst dt_Ru_countToken_19 ?_
    refine ev_iadd dt_Ru_countToken_20 ?_
    refine tm_n32 ?_
    show ab_Ev _ _ _ _ _ _ _ _ (.inl (a_w ((G).2.2.1 + 1)) :: _) _ _
    have gb7 := a_w_b ((G).2.2.1 + 1)
    refine tm_putI (K := 2) dt_Ru_countToken_21 hW rrt0 (fp_Ru_27 _) rfl rfl trivial (by omega) (by omega) (fun w8 hWw8 kkw8 hfw8 => ?_)
    have hGw8 := a_R_put hG kkw8 (fun p j hp => hfw8 p j (by omega))
    have hFw8 : ∀ (p : Nat) (j : Int), ¬ ((p = rr ∧ (j = 2)) ∨ (p = tp ∧ (j = 2 ∨ j = 4 ∨ j = 6 ∨ j = 7 ∨ j = 8))) → tm_g w8 p j = tm_g w p j := fun p j h => (hfw8 p j (by omega)).trans (hF0 p j h)
    exact ev_return dt_Ru_countToken_24 rfl ⟨hWw8, rfl, ⟨hFw8, (a_R_eq hGw8 (by unfold a_cnt; first | exact (if_pos (by omega)).symm | exact (if_neg (by omega)).symm))⟩⟩
  · skip
    refine ev_aload_n dt_Ru_countToken_9 rfl rfl ?_
    refine ev_iconst dt_Ru_countToken_10 ?_
    refine tm_vv dt_Ru_countToken_11 (gx_Ta_fail hW h_tp (3) (by omega) (by omega) hK (by omega) hG) kb_Ru_33 ⟨im_Ta_fail, se_Ta_fail⟩ rfl hW tpt0 rfl (Nat.le_of_ble_eq_true rfl) (by decide) (fun w9 hWw9 hRw9 => ?_)
    obtain ⟨hfw9, hpw9⟩ := hRw9
    have hFw9 : ∀ (p : Nat) (j : Int), ¬ ((p = rr ∧ (j = 2)) ∨ (p = tp ∧ (j = 2 ∨ j = 4 ∨ j = 6 ∨ j = 7 ∨ j = 8))) → tm_g w9 p j = tm_g w p j := fun p j h => (hfw9 p j (by omega)).trans (hF0 p j h)
    refine ev_aload_n dt_Ru_countToken_14 rfl rfl ?_
    refine ev_dup dt_Ru_countToken_15 rfl ?_
    refine tm_getK (K := 2) dt_Ru_countToken_16 hWw9 rrt0 fl_Ru_27 rfl (a_R_ct hpw9) ?_
    have gb10 := tm_kb (k := 2) (K := 2) hWw9 rrt0 rfl rfl (a_R_ct hpw9)
    refine ev_iconst dt_Ru_countToken_19 ?_
    refine ev_iadd dt_Ru_countToken_20 ?_
    refine tm_n32 ?_
    show ab_Ev _ _ _ _ _ _ _ _ (.inl (a_w (((a_fail 3 G)).2.2.1 + 1)) :: _) _ _
    have gb11 := a_w_b (((a_fail 3 G)).2.2.1 + 1)
    refine tm_putI (K := 2) dt_Ru_countToken_21 hWw9 rrt0 (fp_Ru_27 _) rfl rfl trivial (by omega) (by omega) (fun w12 hWw12 kkw12 hfw12 => ?_)
    have hGw12 := a_R_put hpw9 kkw12 (fun p j hp => hfw12 p j (by omega))
    have hFw12 : ∀ (p : Nat) (j : Int), ¬ ((p = rr ∧ (j = 2)) ∨ (p = tp ∧ (j = 2 ∨ j = 4 ∨ j = 6 ∨ j = 7 ∨ j = 8))) → tm_g w12 p j = tm_g w p j := fun p j h => (hfw12 p j (by omega)).trans (hFw9 p j h)
    exact ev_return dt_Ru_countToken_24 rfl ⟨hWw12, rfl, ⟨hFw12, (a_R_eq hGw12 (by unfold a_cnt; first | exact (if_pos (by omega)).symm | exact (if_neg (by omega)).symm))⟩⟩
set_option maxHeartbeats 4000000 in
set_option maxRecDepth 10000 in
theorem gx_Ru_checkValue {N : Nat} {T : Nat → tm_S} {w : ab_W} {f : Int → Int} {K : Nat} {L : Int} {G : a_S} {rr : Nat} {tp : Nat} (hW : tm_W N T w) (h_rr : is_Ru T rr) (h_tp : is_Ta T tp) (ne_rr_tp : rr + 2 ≤ tp ∨ tp + 2 ≤ rr) (hK : K < g_ln.length) (hG : a_R f K L tp rr w G) : ab_Mt g_G g_rs mt_Ru_checkValue 2 0 0 [ab_R rr, ab_R tp] w (tm_Qv N T (fun w2 => (∀ (p : Nat) (j : Int), ¬ ((p = rr ∧ (j = 2)) ∨ (p = tp ∧ (j = 2 ∨ j = 4 ∨ j = 6 ∨ j = 7 ∨ j = 8))) → tm_g w2 p j = tm_g w p j) ∧ (a_R f K L tp rr w2 (a_chk f K L G)))) := by
  obtain ⟨rrt0, rrt1⟩ := id h_rr
  obtain ⟨tpt0, tpt1⟩ := id h_tp
  have hF0 : ∀ (p : Nat) (j : Int), ¬ ((p = rr ∧ (j = 2)) ∨ (p = tp ∧ (j = 2 ∨ j = 4 ∨ j = 6 ∨ j = 7 ∨ j = 8))) → tm_g w p j = tm_g w p j := fun _ _ _ => rfl
  refine ab_Mt.of rfl (Nat.le_of_ble_eq_true rfl) ?_
  show ab_Ev g_G g_rs mt_Ru_checkValue _ _ _ 0 [some (ab_R rr), some (ab_R tp), none] [] _ _
  refine ev_aload_n dt_Ru_checkValue_0 rfl rfl ?_
  refine tm_getK (K := 8) dt_Ru_checkValue_1 hW tpt0 fl_Ru_30 rfl (a_R_wd hG) ?_
  have gb13 := tm_kb (k := 8) (K := 8) hW tpt0 rfl rfl (a_R_wd hG)
  have gb14 := a_wd_b f L G hK
  refine ev_iconst dt_Ru_checkValue_4 ?_
  refine ev_icmp_eq (tgt := 21) dt_Ru_checkValue_5 (by decide) (by omega) (by omega) (fun h15 => ?_) (fun h15 => ?_)
  · skip
    refine ev_iconst dt_Ru_checkValue_21 ?_
    refine ev_istore_n (l' := [_, _, _]) dt_Ru_checkValue_22 rfl (Nat.le_of_ble_eq_true rfl) rfl ?_
    refine ev_iload_n dt_Ru_checkValue_23 rfl rfl ?_
    refine ev_if_ne (tgt := 44) dt_Ru_checkValue_24 (by decide) (by omega) (fun h16 => ?_) (fun h16 => ?_)
    · skip
      exfalso
      omega
    · skip
      refine ev_aload_n dt_Ru_checkValue_27 rfl rfl ?_
      refine tm_getK (K := 6) dt_Ru_checkValue_28 hW tpt0 fl_Ru_53 rfl (a_R_sg hG) ?_
      have gb17 := tm_kb (k := 6) (K := 6) hW tpt0 rfl rfl (a_R_sg hG)
      refine ev_bipush dt_Ru_checkValue_31 rfl ?_
      refine ev_icmp_eq (tgt := 44) dt_Ru_checkValue_33 (by decide) (by omega) (by omega) (fun h18 => ?_) (fun h18 => ?_)
      · skip
        refine ev_iload_n dt_Ru_checkValue_44 rfl rfl ?_
        refine ev_if_ne (tgt := 61) dt_Ru_checkValue_45 (by decide) (by omega) (fun h19 => ?_) (fun h19 => ?_)
        · skip
          exfalso
          omega
        · skip
          refine ev_aload_n dt_Ru_checkValue_48 rfl rfl ?_
          refine tm_getK (K := 7) dt_Ru_checkValue_49 hW tpt0 fl_Ru_78 rfl (a_R_nb hG) ?_
          have gb20 := tm_kb (k := 7) (K := 7) hW tpt0 rfl rfl (a_R_nb hG)
          refine ev_iconst dt_Ru_checkValue_52 ?_
          refine ev_icmp_ne (tgt := 61) dt_Ru_checkValue_53 (by decide) (by omega) (by omega) (fun h21 => ?_) (fun h21 => ?_)
          · skip
            refine ev_aload_n dt_Ru_checkValue_61 rfl rfl ?_
            refine ev_aload_n dt_Ru_checkValue_62 rfl rfl ?_
            refine tm_vv dt_Ru_checkValue_63 (gx_Ru_countToken hW h_rr h_tp (by omega) hK hG) kb_Ru_72 ⟨im_Ru_countToken, se_Ru_countToken⟩ rfl hW rrt0 rfl (Nat.le_of_ble_eq_true rfl) (by decide) (fun w22 hWw22 hRw22 => ?_)
            obtain ⟨hfw22, hpw22⟩ := hRw22
            have hFw22 : ∀ (p : Nat) (j : Int), ¬ ((p = rr ∧ (j = 2)) ∨ (p = tp ∧ (j = 2 ∨ j = 4 ∨ j = 6 ∨ j = 7 ∨ j = 8))) → tm_g w22 p j = tm_g w p j := fun p j h => (hfw22 p j (by omega)).trans (hF0 p j h)
            exact ev_return dt_Ru_checkValue_66 rfl ⟨hWw22, rfl, ⟨hFw22, (a_R_eq hpw22 (by unfold a_chk; (repeat' split) <;> first | rfl | (exfalso; omega)))⟩⟩
          · skip
            refine ev_aload_n dt_Ru_checkValue_56 rfl rfl ?_
            refine ev_iconst dt_Ru_checkValue_57 ?_
            refine tm_vv dt_Ru_checkValue_58 (gx_Ta_fail hW h_tp (1) (by omega) (by omega) hK (by omega) hG) kb_Ru_33 ⟨im_Ta_fail, se_Ta_fail⟩ rfl hW tpt0 rfl (Nat.le_of_ble_eq_true rfl) (by decide) (fun w23 hWw23 hRw23 => ?_)
            obtain ⟨hfw23, hpw23⟩ := hRw23
            have hFw23 : ∀ (p : Nat) (j : Int), ¬ ((p = rr ∧ (j = 2)) ∨ (p = tp ∧ (j = 2 ∨ j = 4 ∨ j = 6 ∨ j = 7 ∨ j = 8))) → tm_g w23 p j = tm_g w p j := fun p j h => (hfw23 p j (by omega)).trans (hF0 p j h)
            refine ev_aload_n dt_Ru_checkValue_61 rfl rfl ?_
            refine ev_aload_n dt_Ru_checkValue_62 rfl rfl ?_
            refine tm_vv dt_Ru_checkValue_63 (gx_Ru_countToken hWw23 h_rr h_tp (by omega) hK hpw23) kb_Ru_72 ⟨im_Ru_countToken, se_Ru_countToken⟩ rfl hWw23 rrt0 rfl (Nat.le_of_ble_eq_true rfl) (by decide) (fun w24 hWw24 hRw24 => ?_)
            obtain ⟨hfw24, hpw24⟩ := hRw24
            have hFw24 : ∀ (p : Nat) (j : Int), ¬ ((p = rr ∧ (j = 2)) ∨ (p = tp ∧ (j = 2 ∨ j = 4 ∨ j = 6 ∨ j = 7 ∨ j = 8))) → tm_g w24 p j = tm_g w p j := fun p j h => (hfw24 p j (by omega)).trans (hFw23 p j h)
            exact ev_return dt_Ru_checkValue_66 rfl ⟨hWw24, rfl, ⟨hFw24, (a_R_eq hpw24 (by unfold a_chk; (repeat' split) <;> first | rfl | (exfalso; omega)))⟩⟩
      · skip
        refine ev_aload_n dt_Ru_checkValue_36 rfl rfl ?_
        refine ev_iconst dt_Ru_checkValue_37 ?_
        refine tm_vv dt_Ru_checkValue_38 (gx_Ta_fail hW h_tp (0) (by omega) (by omega) hK (by omega) hG) kb_Ru_33 ⟨im_Ta_fail, se_Ta_fail⟩ rfl hW tpt0 rfl (Nat.le_of_ble_eq_true rfl) (by decide) (fun w25 hWw25 hRw25 => ?_)
        obtain ⟨hfw25, hpw25⟩ := hRw25
        have hFw25 : ∀ (p : Nat) (j : Int), ¬ ((p = rr ∧ (j = 2)) ∨ (p = tp ∧ (j = 2 ∨ j = 4 ∨ j = 6 ∨ j = 7 ∨ j = 8))) → tm_g w25 p j = tm_g w p j := fun p j h => (hfw25 p j (by omega)).trans (hF0 p j h)
        refine ev_goto (tgt := 61) dt_Ru_checkValue_41 (by decide) ?_
        refine ev_aload_n dt_Ru_checkValue_61 rfl rfl ?_
        refine ev_aload_n dt_Ru_checkValue_62 rfl rfl ?_
        refine tm_vv dt_Ru_checkValue_63 (gx_Ru_countToken hWw25 h_rr h_tp (by omega) hK hpw25) kb_Ru_72 ⟨im_Ru_countToken, se_Ru_countToken⟩ rfl hWw25 rrt0 rfl (Nat.le_of_ble_eq_true rfl) (by decide) (fun w26 hWw26 hRw26 => ?_)
        obtain ⟨hfw26, hpw26⟩ := hRw26
        have hFw26 : ∀ (p : Nat) (j : Int), ¬ ((p = rr ∧ (j = 2)) ∨ (p = tp ∧ (j = 2 ∨ j = 4 ∨ j = 6 ∨ j = 7 ∨ j = 8))) → tm_g w26 p j = tm_g w p j := fun p j h => (hfw26 p j (by omega)).trans (hFw25 p j h)
        exact ev_return dt_Ru_checkValue_66 rfl ⟨hWw26, rfl, ⟨hFw26, (a_R_eq hpw26 (by unfold a_chk; (repeat' split) <;> first | rfl | (exfalso; omega)))⟩⟩
  · skip
    refine ev_aload_n dt_Ru_checkValue_8 rfl rfl ?_
    refine tm_getK (K := 8) dt_Ru_checkValue_9 hW tpt0 fl_Ru_30 rfl (a_R_wd hG) ?_
    have gb27 := tm_kb (k := 8) (K := 8) hW tpt0 rfl rfl (a_R_wd hG)
    have gb28 := a_wd_b f L G hK
    refine ev_bipush dt_Ru_checkValue_12 rfl ?_
    refine ev_icmp_ge (tgt := 21) dt_Ru_checkValue_14 (by decide) (by omega) (by omega) (fun h29 => ?_) (fun h29 => ?_)
    · skip
      refine ev_iconst dt_Ru_checkValue_21 ?_
      refine ev_istore_n (l' := [_, _, _]) dt_Ru_checkValue_22 rfl (Nat.le_of_ble_eq_true rfl) rfl ?_
      refine ev_iload_n dt_Ru_checkValue_23 rfl rfl ?_
      refine ev_if_ne (tgt := 44) dt_Ru_checkValue_24 (by decide) (by omega) (fun h30 => ?_) (fun h30 => ?_)
      · skip
        exfalso
        omega
      · skip
        refine ev_aload_n dt_Ru_checkValue_27 rfl rfl ?_
        refine tm_getK (K := 6) dt_Ru_checkValue_28 hW tpt0 fl_Ru_53 rfl (a_R_sg hG) ?_
        have gb31 := tm_kb (k := 6) (K := 6) hW tpt0 rfl rfl (a_R_sg hG)
        refine ev_bipush dt_Ru_checkValue_31 rfl ?_
        refine ev_icmp_eq (tgt := 44) dt_Ru_checkValue_33 (by decide) (by omega) (by omega) (fun h32 => ?_) (fun h32 => ?_)
        · skip
          refine ev_iload_n dt_Ru_checkValue_44 rfl rfl ?_
          refine ev_if_ne (tgt := 61) dt_Ru_checkValue_45 (by decide) (by omega) (fun h33 => ?_) (fun h33 => ?_)
          · skip
            exfalso
            omega
          · skip
            refine ev_aload_n dt_Ru_checkValue_48 rfl rfl ?_
            refine tm_getK (K := 7) dt_Ru_checkValue_49 hW tpt0 fl_Ru_78 rfl (a_R_nb hG) ?_
            have gb34 := tm_kb (k := 7) (K := 7) hW tpt0 rfl rfl (a_R_nb hG)
            refine ev_iconst dt_Ru_checkValue_52 ?_
            refine ev_icmp_ne (tgt := 61) dt_Ru_checkValue_53 (by decide) (by omega) (by omega) (fun h35 => ?_) (fun h35 => ?_)
            · skip
              refine ev_aload_n dt_Ru_checkValue_61 rfl rfl ?_
              refine ev_aload_n dt_Ru_checkValue_62 rfl rfl ?_
              refine tm_vv dt_Ru_checkValue_63 (gx_Ru_countToken hW h_rr h_tp (by omega) hK hG) kb_Ru_72 ⟨im_Ru_countToken, se_Ru_countToken⟩ rfl hW rrt0 rfl (Nat.le_of_ble_eq_true rfl) (by decide) (fun w36 hWw36 hRw36 => ?_)
              obtain ⟨hfw36, hpw36⟩ := hRw36
              have hFw36 : ∀ (p : Nat) (j : Int), ¬ ((p = rr ∧ (j = 2)) ∨ (p = tp ∧ (j = 2 ∨ j = 4 ∨ j = 6 ∨ j = 7 ∨ j = 8))) → tm_g w36 p j = tm_g w p j := fun p j h => (hfw36 p j (by omega)).trans (hF0 p j h)
              exact ev_return dt_Ru_checkValue_66 rfl ⟨hWw36, rfl, ⟨hFw36, (a_R_eq hpw36 (by unfold a_chk; (repeat' split) <;> first | rfl | (exfalso; omega)))⟩⟩
            · skip
              refine ev_aload_n dt_Ru_checkValue_56 rfl rfl ?_
              refine ev_iconst dt_Ru_checkValue_57 ?_
              refine tm_vv dt_Ru_checkValue_58 (gx_Ta_fail hW h_tp (1) (by omega) (by omega) hK (by omega) hG) kb_Ru_33 ⟨im_Ta_fail, se_Ta_fail⟩ rfl hW tpt0 rfl (Nat.le_of_ble_eq_true rfl) (by decide) (fun w37 hWw37 hRw37 => ?_)
              obtain ⟨hfw37, hpw37⟩ := hRw37
              have hFw37 : ∀ (p : Nat) (j : Int), ¬ ((p = rr ∧ (j = 2)) ∨ (p = tp ∧ (j = 2 ∨ j = 4 ∨ j = 6 ∨ j = 7 ∨ j = 8))) → tm_g w37 p j = tm_g w p j := fun p j h => (hfw37 p j (by omega)).trans (hF0 p j h)
              refine ev_aload_n dt_Ru_checkValue_61 rfl rfl ?_
              refine ev_aload_n dt_Ru_checkValue_62 rfl rfl ?_
              refine tm_vv dt_Ru_checkValue_63 (gx_Ru_countToken hWw37 h_rr h_tp (by omega) hK hpw37) kb_Ru_72 ⟨im_Ru_countToken, se_Ru_countToken⟩ rfl hWw37 rrt0 rfl (Nat.le_of_ble_eq_true rfl) (by decide) (fun w38 hWw38 hRw38 => ?_)
              obtain ⟨hfw38, hpw38⟩ := hRw38
              have hFw38 : ∀ (p : Nat) (j : Int), ¬ ((p = rr ∧ (j = 2)) ∨ (p = tp ∧ (j = 2 ∨ j = 4 ∨ j = 6 ∨ j = 7 ∨ j = 8))) → tm_g w38 p j = tm_g w p j := fun p j h => (hfw38 p j (by omega)).trans (hFw37 p j h)
              exact ev_return dt_Ru_checkValue_66 rfl ⟨hWw38, rfl, ⟨hFw38, (a_R_eq hpw38 (by unfold a_chk; (repeat' split) <;> first | rfl | (exfalso; omega)))⟩⟩
        · skip
          refine ev_aload_n dt_Ru_checkValue_36 rfl rfl ?_
          refine ev_iconst dt_Ru_checkValue_37 ?_
          refine tm_vv dt_Ru_checkValue_38 (gx_Ta_fail hW h_tp (0) (by omega) (by omega) hK (by omega) hG) kb_Ru_33 ⟨im_Ta_fail, se_Ta_fail⟩ rfl hW tpt0 rfl (Nat.le_of_ble_eq_true rfl) (by decide) (fun w39 hWw39 hRw39 => ?_)
          obtain ⟨hfw39, hpw39⟩ := hRw39
          have hFw39 : ∀ (p : Nat) (j : Int), ¬ ((p = rr ∧ (j = 2)) ∨ (p = tp ∧ (j = 2 ∨ j = 4 ∨ j = 6 ∨ j = 7 ∨ j = 8))) → tm_g w39 p j = tm_g w p j := fun p j h => (hfw39 p j (by omega)).trans (hF0 p j h)
          refine ev_goto (tgt := 61) dt_Ru_checkValue_41 (by decide) ?_
          refine ev_aload_n dt_Ru_checkValue_61 rfl rfl ?_
          refine ev_aload_n dt_Ru_checkValue_62 rfl rfl ?_
          refine tm_vv dt_Ru_checkValue_63 (gx_Ru_countToken hWw39 h_rr h_tp (by omega) hK hpw39) kb_Ru_72 ⟨im_Ru_countToken, se_Ru_countToken⟩ rfl hWw39 rrt0 rfl (Nat.le_of_ble_eq_true rfl) (by decide) (fun w40 hWw40 hRw40 => ?_)
          obtain ⟨hfw40, hpw40⟩ := hRw40
          have hFw40 : ∀ (p : Nat) (j : Int), ¬ ((p = rr ∧ (j = 2)) ∨ (p = tp ∧ (j = 2 ∨ j = 4 ∨ j = 6 ∨ j = 7 ∨ j = 8))) → tm_g w40 p j = tm_g w p j := fun p j h => (hfw40 p j (by omega)).trans (hFw39 p j h)
          exact ev_return dt_Ru_checkValue_66 rfl ⟨hWw40, rfl, ⟨hFw40, (a_R_eq hpw40 (by unfold a_chk; (repeat' split) <;> first | rfl | (exfalso; omega)))⟩⟩
    · skip
      refine ev_iconst dt_Ru_checkValue_17 ?_
      refine ev_goto (tgt := 22) dt_Ru_checkValue_18 (by decide) ?_
      refine ev_istore_n (l' := [_, _, _]) dt_Ru_checkValue_22 rfl (Nat.le_of_ble_eq_true rfl) rfl ?_
      refine ev_iload_n dt_Ru_checkValue_23 rfl rfl ?_
      refine ev_if_ne (tgt := 44) dt_Ru_checkValue_24 (by decide) (by omega) (fun h41 => ?_) (fun h41 => ?_)
      · skip
        refine ev_iload_n dt_Ru_checkValue_44 rfl rfl ?_
        refine ev_if_ne (tgt := 61) dt_Ru_checkValue_45 (by decide) (by omega) (fun h42 => ?_) (fun h42 => ?_)
        · skip
          refine ev_aload_n dt_Ru_checkValue_61 rfl rfl ?_
          refine ev_aload_n dt_Ru_checkValue_62 rfl rfl ?_
          refine tm_vv dt_Ru_checkValue_63 (gx_Ru_countToken hW h_rr h_tp (by omega) hK hG) kb_Ru_72 ⟨im_Ru_countToken, se_Ru_countToken⟩ rfl hW rrt0 rfl (Nat.le_of_ble_eq_true rfl) (by decide) (fun w43 hWw43 hRw43 => ?_)
          obtain ⟨hfw43, hpw43⟩ := hRw43
          have hFw43 : ∀ (p : Nat) (j : Int), ¬ ((p = rr ∧ (j = 2)) ∨ (p = tp ∧ (j = 2 ∨ j = 4 ∨ j = 6 ∨ j = 7 ∨ j = 8))) → tm_g w43 p j = tm_g w p j := fun p j h => (hfw43 p j (by omega)).trans (hF0 p j h)
          exact ev_return dt_Ru_checkValue_66 rfl ⟨hWw43, rfl, ⟨hFw43, (a_R_eq hpw43 (by unfold a_chk; (repeat' split) <;> first | rfl | (exfalso; omega)))⟩⟩
        · skip
          exfalso
          omega
      · skip
        exfalso
        omega
set_option maxHeartbeats 4000000 in
set_option maxRecDepth 10000 in
theorem gx_Ru_readSum {N : Nat} {T : Nat → tm_S} {w : ab_W} {f : Int → Int} {K : Nat} {L : Int} {G : a_S} {rr : Nat} {tp : Nat} (hW : tm_W N T w) (h_rr : is_Ru T rr) (h_tp : is_Ta T tp) (ne_rr_tp : rr + 2 ≤ tp ∨ tp + 2 ≤ rr) (hK : K < g_ln.length) (hG : a_R f K L tp rr w G) : ab_Mt g_G g_rs mt_Ru_readSum 6 0 0 [ab_R rr, ab_R tp] w (tm_Qv N T (fun w2 => (∀ (p : Nat) (j : Int), ¬ (p = (rr + 1) ∨ (p = rr ∧ (j = 1 ∨ j = 2)) ∨ (p = tp ∧ (j = 2 ∨ j = 5 ∨ j = 6 ∨ j = 7 ∨ j = 8 ∨ j = 4))) → tm_g w2 p j = tm_g w p j) ∧ (a_R f K L tp rr w2 (a_sl f K L 61 0 0 G)))) := by
  obtain ⟨rrt0, rrt1⟩ := id h_rr
  obtain ⟨tpt0, tpt1⟩ := id h_tp
  have hF0 : ∀ (p : Nat) (j : Int), ¬ (p = (rr + 1) ∨ (p = rr ∧ (j = 1 ∨ j = 2)) ∨ (p = tp ∧ (j = 2 ∨ j = 5 ∨ j = 6 ∨ j = 7 ∨ j = 8 ∨ j = 4))) → tm_g w p j = tm_g w p j := fun _ _ _ => rfl
  refine ab_Mt.of rfl (Nat.le_of_ble_eq_true rfl) ?_
  show ab_Ev g_G g_rs mt_Ru_readSum _ _ _ 0 [some (ab_R rr), some (ab_R tp), none, none, none, none] [] _ _
  refine ev_iconst dt_Ru_readSum_0 ?_
  refine ev_istore_n (l' := [_, _, _, _, _, _]) dt_Ru_readSum_1 rfl (Nat.le_of_ble_eq_true rfl) rfl ?_
  refine ev_iconst dt_Ru_readSum_2 ?_
  refine ev_istore_n (l' := [_, _, _, _, _, _]) dt_Ru_readSum_3 rfl (Nat.le_of_ble_eq_true rfl) rfl ?_
  refine ev_iconst dt_Ru_readSum_4 ?_
  refine ev_istore (l' := [_, _, _, _, _, _]) dt_Ru_readSum_5 (Nat.le_of_ble_eq_true rfl) rfl ?_
  refine ev_iconst dt_Ru_readSum_7 ?_
  refine ev_istore (l' := [_, _, _, _, _, _]) dt_Ru_readSum_8 (Nat.le_of_ble_eq_true rfl) rfl ?_
  have L44 : ∀ (n : Nat) (i45 : Int) (i46 : Int) (i47 : Int) (i48 : Int)  (w49 : ab_W), tm_W N T w49 → (∀ (p : Nat) (j : Int), ¬ (p = (rr + 1) ∨ (p = rr ∧ (j = 1 ∨ j = 2)) ∨ (p = tp ∧ (j = 2 ∨ j = 5 ∨ j = 6 ∨ j = 7 ∨ j = 8 ∨ j = 4))) → tm_g w49 p j = tm_g w p j) → ∀ G50 : a_S, a_R f K L tp rr w49 G50 → (-35) ≤ i45 → i45 ≤ 0 → (-35) ≤ i46 → i46 ≤ 0 → 0 ≤ i47 → i47 ≤ 1 → 0 ≤ i48 → i48 ≤ 61 → ((if i47 = 1 then a_sl f K L (61 - i48).toNat i46 i45 G50 else G50) = a_sl f K L 61 0 0 G) → 61 - i48 < (n : Int) → ab_Ev g_G g_rs mt_Ru_readSum 6 0 0 10 [some (ab_R rr), some (ab_R tp), some (ab_I i45), some (ab_I i46), some (ab_I i47), some (ab_I i48)] [] w49 (tm_Qv N T (fun w2 => (∀ (p : Nat) (j : Int), ¬ (p = (rr + 1) ∨ (p = rr ∧ (j = 1 ∨ j = 2)) ∨ (p = tp ∧ (j = 2 ∨ j = 5 ∨ j = 6 ∨ j = 7 ∨ j = 8 ∨ j = 4))) → tm_g w2 p j = tm_g w p j) ∧ (a_R f K L tp rr w2 (a_sl f K L 61 0 0 G)))) := by
    intro n
    induction n with
    | zero =>
      intro i45 i46 i47 i48  w49 hWw49 hFw49 G50 hG50 li45 ui45 li46 ui46 li47 ui47 li48 ui48 q0L44 mL44
      exfalso
      omega
    | succ nL44 ihL44 =>
      intro i45 i46 i47 i48  w49 hWw49 hFw49 G50 hG50 li45 ui45 li46 ui46 li47 ui47 li48 ui48 q0L44 mL44
      refine ev_iload dt_Ru_readSum_10 rfl ?_
      refine ev_if_eq (tgt := 124) dt_Ru_readSum_12 (by decide) (by omega) (fun h51 => ?_) (fun h51 => ?_)
      · skip
        exact ev_return dt_Ru_readSum_124 rfl ⟨hWw49, rfl, ⟨hFw49, (a_R_eq hG50 (by rw [← q0L44]; first | rw [if_neg (by omega)] | (rw [if_pos (by omega), show (61 - i48).toNat = 0 by omega]; rfl)))⟩⟩
      · skip
        refine ev_iload dt_Ru_readSum_15 rfl ?_
        refine ev_bipush dt_Ru_readSum_17 rfl ?_
        refine ev_icmp_gt (tgt := 124) dt_Ru_readSum_19 (by decide) (by omega) (by omega) (fun h52 => ?_) (fun h52 => ?_)
        · skip
          exact ev_return dt_Ru_readSum_124 rfl ⟨hWw49, rfl, ⟨hFw49, (a_R_eq hG50 (by rw [← q0L44]; first | rw [if_neg (by omega)] | (rw [if_pos (by omega), show (61 - i48).toNat = 0 by omega]; rfl)))⟩⟩
        · skip
          refine ev_aload_n dt_Ru_readSum_22 rfl rfl ?_
          refine ev_aload_n dt_Ru_readSum_23 rfl rfl ?_
          refine tm_vv dt_Ru_readSum_24 (gx_Ru_checkValue hWw49 h_rr h_tp (by omega) hK hG50) kb_Ru_75 ⟨im_Ru_checkValue, se_Ru_checkValue⟩ rfl hWw49 rrt0 rfl (Nat.le_of_ble_eq_true rfl) (by decide) (fun w53 hWw53 hRw53 => ?_)
          obtain ⟨hfw53, hpw53⟩ := hRw53
          have hFw53 : ∀ (p : Nat) (j : Int), ¬ (p = (rr + 1) ∨ (p = rr ∧ (j = 1 ∨ j = 2)) ∨ (p = tp ∧ (j = 2 ∨ j = 5 ∨ j = 6 ∨ j = 7 ∨ j = 8 ∨ j = 4))) → tm_g w53 p j = tm_g w p j := fun p j h => (hfw53 p j (by omega)).trans (hFw49 p j h)
          refine ev_aload_n dt_Ru_readSum_27 rfl rfl ?_
          refine ev_aload_n dt_Ru_readSum_28 rfl rfl ?_
          refine tm_getK (K := 8) dt_Ru_readSum_29 hWw53 tpt0 fl_Ru_30 rfl (a_R_wd hpw53) ?_
          have gb54 := tm_kb (k := 8) (K := 8) hWw53 tpt0 rfl rfl (a_R_wd hpw53)
          have gb55 := a_wd_b f L (a_chk f K L G50) hK
          refine ev_iconst dt_Ru_readSum_32 ?_
          refine ev_icmp_ne (tgt := 43) dt_Ru_readSum_33 (by decide) (by omega) (by omega) (fun h56 => ?_) (fun h56 => ?_)
          · skip
            refine ev_iconst dt_Ru_readSum_43 ?_
            refine ev_aload_n dt_Ru_readSum_44 rfl rfl ?_
            refine tm_getK (K := 8) dt_Ru_readSum_45 hWw53 tpt0 fl_Ru_30 rfl (a_R_wd hpw53) ?_
            have gb57 := tm_kb (k := 8) (K := 8) hWw53 tpt0 rfl rfl (a_R_wd hpw53)
            have gb58 := a_wd_b f L (a_chk f K L G50) hK
            refine ev_isub dt_Ru_readSum_48 ?_
            refine tm_vv dt_Ru_readSum_49 (gx_Ru_emit hWw53 h_rr (((-1) - (a_wd f K L (a_chk f K L G50)))) (by omega) (by omega) hK (by omega) hpw53) kb_Ru_50 ⟨im_Ru_emit, se_Ru_emit⟩ rfl hWw53 rrt0 rfl (Nat.le_of_ble_eq_true rfl) (by decide) (fun w59 hWw59 hRw59 => ?_)
            obtain ⟨hfw59, hpw59⟩ := hRw59
            have hFw59 : ∀ (p : Nat) (j : Int), ¬ (p = (rr + 1) ∨ (p = rr ∧ (j = 1 ∨ j = 2)) ∨ (p = tp ∧ (j = 2 ∨ j = 5 ∨ j = 6 ∨ j = 7 ∨ j = 8 ∨ j = 4))) → tm_g w59 p j = tm_g w p j := fun p j h => (hfw59 p j (by omega)).trans (hFw53 p j h)
            refine ev_aload_n dt_Ru_readSum_52 rfl rfl ?_
            refine tm_vv dt_Ru_readSum_53 (gx_Ta_advance hWw59 h_tp hK (by omega) hpw59) kb_Ru_37 ⟨im_Ta_advance, se_Ta_advance⟩ rfl hWw59 tpt0 rfl (Nat.le_of_ble_eq_true rfl) (by decide) (fun w60 hWw60 hRw60 => ?_)
            obtain ⟨hfw60, hpw60⟩ := hRw60
            have hFw60 : ∀ (p : Nat) (j : Int), ¬ (p = (rr + 1) ∨ (p = rr ∧ (j = 1 ∨ j = 2)) ∨ (p = tp ∧ (j = 2 ∨ j = 5 ∨ j = 6 ∨ j = 7 ∨ j = 8 ∨ j = 4))) → tm_g w60 p j = tm_g w p j := fun p j h => (hfw60 p j (by omega)).trans (hFw59 p j h)
            have hx61 := a_R_eq hpw60 (show (a_adv f L (a_em (((-1) - (a_wd f K L (a_chk f K L G50)))) (a_chk f K L G50))) = (a_h f K L G50) from congrArg (a_adv f L) (by unfold a_vl; first | exact (if_pos (by omega)).symm | exact (if_neg (by omega)).symm))
            refine ev_iload_n dt_Ru_readSum_56 rfl rfl ?_
            refine ev_if_eq (tgt := 65) dt_Ru_readSum_57 (by decide) (by omega) (fun h62 => ?_) (fun h62 => ?_)
            · skip
              have hx63 := a_R_eq hx61 (show (a_h f K L G50) = (a_oe i46 (a_h f K L G50)) from (by unfold a_oe; first | exact (if_pos (by omega)).symm | exact (if_neg (by omega)).symm))
              refine ev_aload_n dt_Ru_readSum_65 rfl rfl ?_
              have gk64 : tm_g w60 tp 6 = some (ab_I (a_sg f L (a_h f K L G50))) := by rw [a_R_sg hx63]; simp only [a_em_sg, a_em_nb, a_em_wd, a_oe_sg, a_oe_nb, a_oe_wd, a_oa_sg, a_oa_wd, a_t2_sg, a_t2_wd]
              refine tm_getK (K := 6) dt_Ru_readSum_66 hWw60 tpt0 fl_Ru_53 rfl gk64 ?_
              have gb65 := tm_kb (k := 6) (K := 6) hWw60 tpt0 rfl rfl gk64
              refine tm_sp dt_Ru_readSum_69 (gx_Ru_timingOf hWw60 ((a_sg f L (a_h f K L G50))) (by omega) (by omega)) kb_Ru_81 sc_Ru_timingOf rfl (Nat.le_of_ble_eq_true rfl) (by decide) (fun v66 hv66 => ?_)
              obtain ⟨hlv66, huv66, ev66⟩ := hv66
              subst ev66
              refine ev_istore_n (l' := [_, _, _, _, _, _]) dt_Ru_readSum_72 rfl (Nat.le_of_ble_eq_true rfl) rfl ?_
              refine ev_iload_n dt_Ru_readSum_73 rfl rfl ?_
              refine ev_if_ne (tgt := 94) dt_Ru_readSum_74 (by decide) (by omega) (fun h67 => ?_) (fun h67 => ?_)
              · skip
                refine ev_iload_n dt_Ru_readSum_94 rfl rfl ?_
                refine ev_if_ne (tgt := 102) dt_Ru_readSum_95 (by decide) (by omega) (fun h68 => ?_) (fun h68 => ?_)
                · skip
                  refine ev_iconst dt_Ru_readSum_102 ?_
                  refine ev_goto (tgt := 107) dt_Ru_readSum_103 (by decide) ?_
                  refine ev_istore (l' := [_, _, _, _, _, _]) dt_Ru_readSum_107 (Nat.le_of_ble_eq_true rfl) rfl ?_
                  refine ev_iload dt_Ru_readSum_109 rfl ?_
                  refine ev_if_eq (tgt := 118) dt_Ru_readSum_111 (by decide) (by omega) (fun h69 => ?_) (fun h69 => ?_)
                  · skip
                    exfalso
                    omega
                  · skip
                    refine ev_aload_n dt_Ru_readSum_114 rfl rfl ?_
                    refine tm_vv dt_Ru_readSum_115 (gx_Ta_advance hWw60 h_tp hK (by omega) hx63) kb_Ru_37 ⟨im_Ta_advance, se_Ta_advance⟩ rfl hWw60 tpt0 rfl (Nat.le_of_ble_eq_true rfl) (by decide) (fun w70 hWw70 hRw70 => ?_)
                    obtain ⟨hfw70, hpw70⟩ := hRw70
                    have hFw70 : ∀ (p : Nat) (j : Int), ¬ (p = (rr + 1) ∨ (p = rr ∧ (j = 1 ∨ j = 2)) ∨ (p = tp ∧ (j = 2 ∨ j = 5 ∨ j = 6 ∨ j = 7 ∨ j = 8 ∨ j = 4))) → tm_g w70 p j = tm_g w p j := fun p j h => (hfw70 p j (by omega)).trans (hFw60 p j h)
                    refine ev_iinc (l' := [_, _, _, _, _, _]) dt_Ru_readSum_118 rfl rfl ?_
                    refine ev_goto (tgt := 10) dt_Ru_readSum_121 (by decide) ?_
                    exact tm_loc (tm_le_s (tm_le_s (tm_le_s (tm_le_s (tm_le_s (tm_le_s tm_le_0)))))) (ihL44 (i45) ((a_tim (a_sg f L (a_h f K L G50)))) (1) ((i48 + 1)) w70 hWw70 hFw70 ((a_adv f L (a_oe i46 (a_h f K L G50)))) hpw70 (by omega) (by omega) (by omega) (by omega) (by omega) (by omega) (by omega) (by omega) (by first | exact (if_pos (by omega)).trans ((a_slA (by omega) (by omega) (by omega)).symm.trans ((if_pos (by omega)).symm.trans q0L44)) | exact (if_pos (by omega)).trans ((a_slB (by omega) (by omega) (by omega) (by omega)).symm.trans ((if_pos (by omega)).symm.trans q0L44)) | exact (if_neg (by omega)).trans ((a_slC (by omega) (by omega) (by omega) (by omega)).symm.trans ((if_pos (by omega)).symm.trans q0L44))) (by omega))
                · skip
                  exfalso
                  omega
              · skip
                refine ev_iload_n dt_Ru_readSum_77 rfl rfl ?_
                refine ev_if_eq (tgt := 86) dt_Ru_readSum_78 (by decide) (by omega) (fun h71 => ?_) (fun h71 => ?_)
                · skip
                  have hx72 := a_R_eq hx63 (show (a_oe i46 (a_h f K L G50)) = (a_oe i45 (a_oe i46 (a_h f K L G50))) from (by unfold a_oe; first | exact (if_pos (by omega)).symm | exact (if_neg (by omega)).symm))
                  refine ev_aload_n dt_Ru_readSum_86 rfl rfl ?_
                  have gk73 : tm_g w60 tp 6 = some (ab_I (a_sg f L (a_h f K L G50))) := by rw [a_R_sg hx72]; simp only [a_em_sg, a_em_nb, a_em_wd, a_oe_sg, a_oe_nb, a_oe_wd, a_oa_sg, a_oa_wd, a_t2_sg, a_t2_wd]
                  refine tm_getK (K := 6) dt_Ru_readSum_87 hWw60 tpt0 fl_Ru_53 rfl gk73 ?_
                  have gb74 := tm_kb (k := 6) (K := 6) hWw60 tpt0 rfl rfl gk73
                  refine tm_sp dt_Ru_readSum_90 (gx_Ru_addingOf hWw60 ((a_sg f L (a_h f K L G50))) (by omega) (by omega)) kb_Ru_84 sc_Ru_addingOf rfl (Nat.le_of_ble_eq_true rfl) (by decide) (fun v75 hv75 => ?_)
                  obtain ⟨hlv75, huv75, ev75⟩ := hv75
                  subst ev75
                  refine ev_istore_n (l' := [_, _, _, _, _, _]) dt_Ru_readSum_93 rfl (Nat.le_of_ble_eq_true rfl) rfl ?_
                  refine ev_iload_n dt_Ru_readSum_94 rfl rfl ?_
                  refine ev_if_ne (tgt := 102) dt_Ru_readSum_95 (by decide) (by omega) (fun h76 => ?_) (fun h76 => ?_)
                  · skip
                    exfalso
                    omega
                  · skip
                    refine ev_iload_n dt_Ru_readSum_98 rfl rfl ?_
                    refine ev_if_eq (tgt := 106) dt_Ru_readSum_99 (by decide) (by omega) (fun h77 => ?_) (fun h77 => ?_)
                    · skip
                      refine ev_iconst dt_Ru_readSum_106 ?_
                      refine ev_istore (l' := [_, _, _, _, _, _]) dt_Ru_readSum_107 (Nat.le_of_ble_eq_true rfl) rfl ?_
                      refine ev_iload dt_Ru_readSum_109 rfl ?_
                      refine ev_if_eq (tgt := 118) dt_Ru_readSum_111 (by decide) (by omega) (fun h78 => ?_) (fun h78 => ?_)
                      · skip
                        refine ev_iinc (l' := [_, _, _, _, _, _]) dt_Ru_readSum_118 rfl rfl ?_
                        refine ev_goto (tgt := 10) dt_Ru_readSum_121 (by decide) ?_
                        exact tm_loc (tm_le_s (tm_le_s (tm_le_s (tm_le_s (tm_le_s (tm_le_s tm_le_0)))))) (ihL44 ((a_add (a_sg f L (a_h f K L G50)))) ((a_tim (a_sg f L (a_h f K L G50)))) (0) ((i48 + 1)) w60 hWw60 hFw60 ((a_oe i45 (a_oe i46 (a_h f K L G50)))) hx72 (by omega) (by omega) (by omega) (by omega) (by omega) (by omega) (by omega) (by omega) (by first | exact (if_pos (by omega)).trans ((a_slA (by omega) (by omega) (by omega)).symm.trans ((if_pos (by omega)).symm.trans q0L44)) | exact (if_pos (by omega)).trans ((a_slB (by omega) (by omega) (by omega) (by omega)).symm.trans ((if_pos (by omega)).symm.trans q0L44)) | exact (if_neg (by omega)).trans ((a_slC (by omega) (by omega) (by omega) (by omega)).symm.trans ((if_pos (by omega)).symm.trans q0L44))) (by omega))
                      · skip
                        exfalso
                        omega
                    · skip
                      refine ev_iconst dt_Ru_readSum_102 ?_
                      refine ev_goto (tgt := 107) dt_Ru_readSum_103 (by decide) ?_
                      refine ev_istore (l' := [_, _, _, _, _, _]) dt_Ru_readSum_107 (Nat.le_of_ble_eq_true rfl) rfl ?_
                      refine ev_iload dt_Ru_readSum_109 rfl ?_
                      refine ev_if_eq (tgt := 118) dt_Ru_readSum_111 (by decide) (by omega) (fun h79 => ?_) (fun h79 => ?_)
                      · skip
                        exfalso
                        omega
                      · skip
                        refine ev_aload_n dt_Ru_readSum_114 rfl rfl ?_
                        refine tm_vv dt_Ru_readSum_115 (gx_Ta_advance hWw60 h_tp hK (by omega) hx72) kb_Ru_37 ⟨im_Ta_advance, se_Ta_advance⟩ rfl hWw60 tpt0 rfl (Nat.le_of_ble_eq_true rfl) (by decide) (fun w80 hWw80 hRw80 => ?_)
                        obtain ⟨hfw80, hpw80⟩ := hRw80
                        have hFw80 : ∀ (p : Nat) (j : Int), ¬ (p = (rr + 1) ∨ (p = rr ∧ (j = 1 ∨ j = 2)) ∨ (p = tp ∧ (j = 2 ∨ j = 5 ∨ j = 6 ∨ j = 7 ∨ j = 8 ∨ j = 4))) → tm_g w80 p j = tm_g w p j := fun p j h => (hfw80 p j (by omega)).trans (hFw60 p j h)
                        refine ev_iinc (l' := [_, _, _, _, _, _]) dt_Ru_readSum_118 rfl rfl ?_
                        refine ev_goto (tgt := 10) dt_Ru_readSum_121 (by decide) ?_
                        exact tm_loc (tm_le_s (tm_le_s (tm_le_s (tm_le_s (tm_le_s (tm_le_s tm_le_0)))))) (ihL44 ((a_add (a_sg f L (a_h f K L G50)))) ((a_tim (a_sg f L (a_h f K L G50)))) (1) ((i48 + 1)) w80 hWw80 hFw80 ((a_adv f L (a_oe i45 (a_oe i46 (a_h f K L G50))))) hpw80 (by omega) (by omega) (by omega) (by omega) (by omega) (by omega) (by omega) (by omega) (by first | exact (if_pos (by omega)).trans ((a_slA (by omega) (by omega) (by omega)).symm.trans ((if_pos (by omega)).symm.trans q0L44)) | exact (if_pos (by omega)).trans ((a_slB (by omega) (by omega) (by omega) (by omega)).symm.trans ((if_pos (by omega)).symm.trans q0L44)) | exact (if_neg (by omega)).trans ((a_slC (by omega) (by omega) (by omega) (by omega)).symm.trans ((if_pos (by omega)).symm.trans q0L44))) (by omega))
                · skip
                  refine ev_aload_n dt_Ru_readSum_81 rfl rfl ?_
                  refine ev_iload_n dt_Ru_readSum_82 rfl rfl ?_
                  refine tm_vv dt_Ru_readSum_83 (gx_Ru_emit hWw60 h_rr (i45) (by omega) (by omega) hK (by omega) hx63) kb_Ru_50 ⟨im_Ru_emit, se_Ru_emit⟩ rfl hWw60 rrt0 rfl (Nat.le_of_ble_eq_true rfl) (by decide) (fun w81 hWw81 hRw81 => ?_)
                  obtain ⟨hfw81, hpw81⟩ := hRw81
                  have hFw81 : ∀ (p : Nat) (j : Int), ¬ (p = (rr + 1) ∨ (p = rr ∧ (j = 1 ∨ j = 2)) ∨ (p = tp ∧ (j = 2 ∨ j = 5 ∨ j = 6 ∨ j = 7 ∨ j = 8 ∨ j = 4))) → tm_g w81 p j = tm_g w p j := fun p j h => (hfw81 p j (by omega)).trans (hFw60 p j h)
                  have hx82 := a_R_eq hpw81 (show (a_em (i45) (a_oe i46 (a_h f K L G50))) = (a_oe i45 (a_oe i46 (a_h f K L G50))) from (by unfold a_oe; first | exact (if_pos (by omega)).symm | exact (if_neg (by omega)).symm))
                  refine ev_aload_n dt_Ru_readSum_86 rfl rfl ?_
                  have gk83 : tm_g w81 tp 6 = some (ab_I (a_sg f L (a_h f K L G50))) := by rw [a_R_sg hx82]; simp only [a_em_sg, a_em_nb, a_em_wd, a_oe_sg, a_oe_nb, a_oe_wd, a_oa_sg, a_oa_wd, a_t2_sg, a_t2_wd]
                  refine tm_getK (K := 6) dt_Ru_readSum_87 hWw81 tpt0 fl_Ru_53 rfl gk83 ?_
                  have gb84 := tm_kb (k := 6) (K := 6) hWw81 tpt0 rfl rfl gk83
                  refine tm_sp dt_Ru_readSum_90 (gx_Ru_addingOf hWw81 ((a_sg f L (a_h f K L G50))) (by omega) (by omega)) kb_Ru_84 sc_Ru_addingOf rfl (Nat.le_of_ble_eq_true rfl) (by decide) (fun v85 hv85 => ?_)
                  obtain ⟨hlv85, huv85, ev85⟩ := hv85
                  subst ev85
                  refine ev_istore_n (l' := [_, _, _, _, _, _]) dt_Ru_readSum_93 rfl (Nat.le_of_ble_eq_true rfl) rfl ?_
                  refine ev_iload_n dt_Ru_readSum_94 rfl rfl ?_
                  refine ev_if_ne (tgt := 102) dt_Ru_readSum_95 (by decide) (by omega) (fun h86 => ?_) (fun h86 => ?_)
                  · skip
                    exfalso
                    omega
                  · skip
                    refine ev_iload_n dt_Ru_readSum_98 rfl rfl ?_
                    refine ev_if_eq (tgt := 106) dt_Ru_readSum_99 (by decide) (by omega) (fun h87 => ?_) (fun h87 => ?_)
                    · skip
                      refine ev_iconst dt_Ru_readSum_106 ?_
                      refine ev_istore (l' := [_, _, _, _, _, _]) dt_Ru_readSum_107 (Nat.le_of_ble_eq_true rfl) rfl ?_
                      refine ev_iload dt_Ru_readSum_109 rfl ?_
                      refine ev_if_eq (tgt := 118) dt_Ru_readSum_111 (by decide) (by omega) (fun h88 => ?_) (fun h88 => ?_)
                      · skip
                        refine ev_iinc (l' := [_, _, _, _, _, _]) dt_Ru_readSum_118 rfl rfl ?_
                        refine ev_goto (tgt := 10) dt_Ru_readSum_121 (by decide) ?_
                        exact tm_loc (tm_le_s (tm_le_s (tm_le_s (tm_le_s (tm_le_s (tm_le_s tm_le_0)))))) (ihL44 ((a_add (a_sg f L (a_h f K L G50)))) ((a_tim (a_sg f L (a_h f K L G50)))) (0) ((i48 + 1)) w81 hWw81 hFw81 ((a_oe i45 (a_oe i46 (a_h f K L G50)))) hx82 (by omega) (by omega) (by omega) (by omega) (by omega) (by omega) (by omega) (by omega) (by first | exact (if_pos (by omega)).trans ((a_slA (by omega) (by omega) (by omega)).symm.trans ((if_pos (by omega)).symm.trans q0L44)) | exact (if_pos (by omega)).trans ((a_slB (by omega) (by omega) (by omega) (by omega)).symm.trans ((if_pos (by omega)).symm.trans q0L44)) | exact (if_neg (by omega)).trans ((a_slC (by omega) (by omega) (by omega) (by omega)).symm.trans ((if_pos (by omega)).symm.trans q0L44))) (by omega))
                      · skip
                        exfalso
                        omega
                    · skip
                      refine ev_iconst dt_Ru_readSum_102 ?_
                      refine ev_goto (tgt := 107) dt_Ru_readSum_103 (by decide) ?_
                      refine ev_istore (l' := [_, _, _, _, _, _]) dt_Ru_readSum_107 (Nat.le_of_ble_eq_true rfl) rfl ?_
                      refine ev_iload dt_Ru_readSum_109 rfl ?_
                      refine ev_if_eq (tgt := 118) dt_Ru_readSum_111 (by decide) (by omega) (fun h89 => ?_) (fun h89 => ?_)
                      · skip
                        exfalso
                        omega
                      · skip
                        refine ev_aload_n dt_Ru_readSum_114 rfl rfl ?_
                        refine tm_vv dt_Ru_readSum_115 (gx_Ta_advance hWw81 h_tp hK (by omega) hx82) kb_Ru_37 ⟨im_Ta_advance, se_Ta_advance⟩ rfl hWw81 tpt0 rfl (Nat.le_of_ble_eq_true rfl) (by decide) (fun w90 hWw90 hRw90 => ?_)
                        obtain ⟨hfw90, hpw90⟩ := hRw90
                        have hFw90 : ∀ (p : Nat) (j : Int), ¬ (p = (rr + 1) ∨ (p = rr ∧ (j = 1 ∨ j = 2)) ∨ (p = tp ∧ (j = 2 ∨ j = 5 ∨ j = 6 ∨ j = 7 ∨ j = 8 ∨ j = 4))) → tm_g w90 p j = tm_g w p j := fun p j h => (hfw90 p j (by omega)).trans (hFw81 p j h)
                        refine ev_iinc (l' := [_, _, _, _, _, _]) dt_Ru_readSum_118 rfl rfl ?_
                        refine ev_goto (tgt := 10) dt_Ru_readSum_121 (by decide) ?_
                        exact tm_loc (tm_le_s (tm_le_s (tm_le_s (tm_le_s (tm_le_s (tm_le_s tm_le_0)))))) (ihL44 ((a_add (a_sg f L (a_h f K L G50)))) ((a_tim (a_sg f L (a_h f K L G50)))) (1) ((i48 + 1)) w90 hWw90 hFw90 ((a_adv f L (a_oe i45 (a_oe i46 (a_h f K L G50))))) hpw90 (by omega) (by omega) (by omega) (by omega) (by omega) (by omega) (by omega) (by omega) (by first | exact (if_pos (by omega)).trans ((a_slA (by omega) (by omega) (by omega)).symm.trans ((if_pos (by omega)).symm.trans q0L44)) | exact (if_pos (by omega)).trans ((a_slB (by omega) (by omega) (by omega) (by omega)).symm.trans ((if_pos (by omega)).symm.trans q0L44)) | exact (if_neg (by omega)).trans ((a_slC (by omega) (by omega) (by omega) (by omega)).symm.trans ((if_pos (by omega)).symm.trans q0L44))) (by omega))
            · skip
              refine ev_aload_n dt_Ru_readSum_60 rfl rfl ?_
              refine ev_iload_n dt_Ru_readSum_61 rfl rfl ?_
              refine tm_vv dt_Ru_readSum_62 (gx_Ru_emit hWw60 h_rr (i46) (by omega) (by omega) hK (by omega) hx61) kb_Ru_50 ⟨im_Ru_emit, se_Ru_emit⟩ rfl hWw60 rrt0 rfl (Nat.le_of_ble_eq_true rfl) (by decide) (fun w91 hWw91 hRw91 => ?_)
              obtain ⟨hfw91, hpw91⟩ := hRw91
              have hFw91 : ∀ (p : Nat) (j : Int), ¬ (p = (rr + 1) ∨ (p = rr ∧ (j = 1 ∨ j = 2)) ∨ (p = tp ∧ (j = 2 ∨ j = 5 ∨ j = 6 ∨ j = 7 ∨ j = 8 ∨ j = 4))) → tm_g w91 p j = tm_g w p j := fun p j h => (hfw91 p j (by omega)).trans (hFw60 p j h)
              have hx92 := a_R_eq hpw91 (show (a_em (i46) (a_h f K L G50)) = (a_oe i46 (a_h f K L G50)) from (by unfold a_oe; first | exact (if_pos (by omega)).symm | exact (if_neg (by omega)).symm))
              refine ev_aload_n dt_Ru_readSum_65 rfl rfl ?_
              have gk93 : tm_g w91 tp 6 = some (ab_I (a_sg f L (a_h f K L G50))) := by rw [a_R_sg hx92]; simp only [a_em_sg, a_em_nb, a_em_wd, a_oe_sg, a_oe_nb, a_oe_wd, a_oa_sg, a_oa_wd, a_t2_sg, a_t2_wd]
              refine tm_getK (K := 6) dt_Ru_readSum_66 hWw91 tpt0 fl_Ru_53 rfl gk93 ?_
              have gb94 := tm_kb (k := 6) (K := 6) hWw91 tpt0 rfl rfl gk93
              refine tm_sp dt_Ru_readSum_69 (gx_Ru_timingOf hWw91 ((a_sg f L (a_h f K L G50))) (by omega) (by omega)) kb_Ru_81 sc_Ru_timingOf rfl (Nat.le_of_ble_eq_true rfl) (by decide) (fun v95 hv95 => ?_)
              obtain ⟨hlv95, huv95, ev95⟩ := hv95
              subst ev95
              refine ev_istore_n (l' := [_, _, _, _, _, _]) dt_Ru_readSum_72 rfl (Nat.le_of_ble_eq_true rfl) rfl ?_
              refine ev_iload_n dt_Ru_readSum_73 rfl rfl ?_
              refine ev_if_ne (tgt := 94) dt_Ru_readSum_74 (by decide) (by omega) (fun h96 => ?_) (fun h96 => ?_)
              · skip
                refine ev_iload_n dt_Ru_readSum_94 rfl rfl ?_
                refine ev_if_ne (tgt := 102) dt_Ru_readSum_95 (by decide) (by omega) (fun h97 => ?_) (fun h97 => ?_)
                · skip
                  refine ev_iconst dt_Ru_readSum_102 ?_
                  refine ev_goto (tgt := 107) dt_Ru_readSum_103 (by decide) ?_
                  refine ev_istore (l' := [_, _, _, _, _, _]) dt_Ru_readSum_107 (Nat.le_of_ble_eq_true rfl) rfl ?_
                  refine ev_iload dt_Ru_readSum_109 rfl ?_
                  refine ev_if_eq (tgt := 118) dt_Ru_readSum_111 (by decide) (by omega) (fun h98 => ?_) (fun h98 => ?_)
                  · skip
                    exfalso
                    omega
                  · skip
                    refine ev_aload_n dt_Ru_readSum_114 rfl rfl ?_
                    refine tm_vv dt_Ru_readSum_115 (gx_Ta_advance hWw91 h_tp hK (by omega) hx92) kb_Ru_37 ⟨im_Ta_advance, se_Ta_advance⟩ rfl hWw91 tpt0 rfl (Nat.le_of_ble_eq_true rfl) (by decide) (fun w99 hWw99 hRw99 => ?_)
                    obtain ⟨hfw99, hpw99⟩ := hRw99
                    have hFw99 : ∀ (p : Nat) (j : Int), ¬ (p = (rr + 1) ∨ (p = rr ∧ (j = 1 ∨ j = 2)) ∨ (p = tp ∧ (j = 2 ∨ j = 5 ∨ j = 6 ∨ j = 7 ∨ j = 8 ∨ j = 4))) → tm_g w99 p j = tm_g w p j := fun p j h => (hfw99 p j (by omega)).trans (hFw91 p j h)
                    refine ev_iinc (l' := [_, _, _, _, _, _]) dt_Ru_readSum_118 rfl rfl ?_
                    refine ev_goto (tgt := 10) dt_Ru_readSum_121 (by decide) ?_
                    exact tm_loc (tm_le_s (tm_le_s (tm_le_s (tm_le_s (tm_le_s (tm_le_s tm_le_0)))))) (ihL44 (i45) ((a_tim (a_sg f L (a_h f K L G50)))) (1) ((i48 + 1)) w99 hWw99 hFw99 ((a_adv f L (a_oe i46 (a_h f K L G50)))) hpw99 (by omega) (by omega) (by omega) (by omega) (by omega) (by omega) (by omega) (by omega) (by first | exact (if_pos (by omega)).trans ((a_slA (by omega) (by omega) (by omega)).symm.trans ((if_pos (by omega)).symm.trans q0L44)) | exact (if_pos (by omega)).trans ((a_slB (by omega) (by omega) (by omega) (by omega)).symm.trans ((if_pos (by omega)).symm.trans q0L44)) | exact (if_neg (by omega)).trans ((a_slC (by omega) (by omega) (by omega) (by omega)).symm.trans ((if_pos (by omega)).symm.trans q0L44))) (by omega))
                · skip
                  exfalso
                  omega
              · skip
                refine ev_iload_n dt_Ru_readSum_77 rfl rfl ?_
                refine ev_if_eq (tgt := 86) dt_Ru_readSum_78 (by decide) (by omega) (fun h100 => ?_) (fun h100 => ?_)
                · skip
                  have hx101 := a_R_eq hx92 (show (a_oe i46 (a_h f K L G50)) = (a_oe i45 (a_oe i46 (a_h f K L G50))) from (by unfold a_oe; first | exact (if_pos (by omega)).symm | exact (if_neg (by omega)).symm))
                  refine ev_aload_n dt_Ru_readSum_86 rfl rfl ?_
                  have gk102 : tm_g w91 tp 6 = some (ab_I (a_sg f L (a_h f K L G50))) := by rw [a_R_sg hx101]; simp only [a_em_sg, a_em_nb, a_em_wd, a_oe_sg, a_oe_nb, a_oe_wd, a_oa_sg, a_oa_wd, a_t2_sg, a_t2_wd]
                  refine tm_getK (K := 6) dt_Ru_readSum_87 hWw91 tpt0 fl_Ru_53 rfl gk102 ?_
                  have gb103 := tm_kb (k := 6) (K := 6) hWw91 tpt0 rfl rfl gk102
                  refine tm_sp dt_Ru_readSum_90 (gx_Ru_addingOf hWw91 ((a_sg f L (a_h f K L G50))) (by omega) (by omega)) kb_Ru_84 sc_Ru_addingOf rfl (Nat.le_of_ble_eq_true rfl) (by decide) (fun v104 hv104 => ?_)
                  obtain ⟨hlv104, huv104, ev104⟩ := hv104
                  subst ev104
                  refine ev_istore_n (l' := [_, _, _, _, _, _]) dt_Ru_readSum_93 rfl (Nat.le_of_ble_eq_true rfl) rfl ?_
                  refine ev_iload_n dt_Ru_readSum_94 rfl rfl ?_
                  refine ev_if_ne (tgt := 102) dt_Ru_readSum_95 (by decide) (by omega) (fun h105 => ?_) (fun h105 => ?_)
                  · skip
                    exfalso
                    omega
                  · skip
                    refine ev_iload_n dt_Ru_readSum_98 rfl rfl ?_
                    refine ev_if_eq (tgt := 106) dt_Ru_readSum_99 (by decide) (by omega) (fun h106 => ?_) (fun h106 => ?_)
                    · skip
                      refine ev_iconst dt_Ru_readSum_106 ?_
                      refine ev_istore (l' := [_, _, _, _, _, _]) dt_Ru_readSum_107 (Nat.le_of_ble_eq_true rfl) rfl ?_
                      refine ev_iload dt_Ru_readSum_109 rfl ?_
                      refine ev_if_eq (tgt := 118) dt_Ru_readSum_111 (by decide) (by omega) (fun h107 => ?_) (fun h107 => ?_)
                      · skip
                        refine ev_iinc (l' := [_, _, _, _, _, _]) dt_Ru_readSum_118 rfl rfl ?_
                        refine ev_goto (tgt := 10) dt_Ru_readSum_121 (by decide) ?_
                        exact tm_loc (tm_le_s (tm_le_s (tm_le_s (tm_le_s (tm_le_s (tm_le_s tm_le_0)))))) (ihL44 ((a_add (a_sg f L (a_h f K L G50)))) ((a_tim (a_sg f L (a_h f K L G50)))) (0) ((i48 + 1)) w91 hWw91 hFw91 ((a_oe i45 (a_oe i46 (a_h f K L G50)))) hx101 (by omega) (by omega) (by omega) (by omega) (by omega) (by omega) (by omega) (by omega) (by first | exact (if_pos (by omega)).trans ((a_slA (by omega) (by omega) (by omega)).symm.trans ((if_pos (by omega)).symm.trans q0L44)) | exact (if_pos (by omega)).trans ((a_slB (by omega) (by omega) (by omega) (by omega)).symm.trans ((if_pos (by omega)).symm.trans q0L44)) | exact (if_neg (by omega)).trans ((a_slC (by omega) (by omega) (by omega) (by omega)).symm.trans ((if_pos (by omega)).symm.trans q0L44))) (by omega))
                      · skip
                        exfalso
                        omega
                    · skip
                      refine ev_iconst dt_Ru_readSum_102 ?_
                      refine ev_goto (tgt := 107) dt_Ru_readSum_103 (by decide) ?_
                      refine ev_istore (l' := [_, _, _, _, _, _]) dt_Ru_readSum_107 (Nat.le_of_ble_eq_true rfl) rfl ?_
                      refine ev_iload dt_Ru_readSum_109 rfl ?_
                      refine ev_if_eq (tgt := 118) dt_Ru_readSum_111 (by decide) (by omega) (fun h108 => ?_) (fun h108 => ?_)
                      · skip
                        exfalso
                        omega
                      · skip
                        refine ev_aload_n dt_Ru_readSum_114 rfl rfl ?_
                        refine tm_vv dt_Ru_readSum_115 (gx_Ta_advance hWw91 h_tp hK (by omega) hx101) kb_Ru_37 ⟨im_Ta_advance, se_Ta_advance⟩ rfl hWw91 tpt0 rfl (Nat.le_of_ble_eq_true rfl) (by decide) (fun w109 hWw109 hRw109 => ?_)
                        obtain ⟨hfw109, hpw109⟩ := hRw109
                        have hFw109 : ∀ (p : Nat) (j : Int), ¬ (p = (rr + 1) ∨ (p = rr ∧ (j = 1 ∨ j = 2)) ∨ (p = tp ∧ (j = 2 ∨ j = 5 ∨ j = 6 ∨ j = 7 ∨ j = 8 ∨ j = 4))) → tm_g w109 p j = tm_g w p j := fun p j h => (hfw109 p j (by omega)).trans (hFw91 p j h)
                        refine ev_iinc (l' := [_, _, _, _, _, _]) dt_Ru_readSum_118 rfl rfl ?_
                        refine ev_goto (tgt := 10) dt_Ru_readSum_121 (by decide) ?_
                        exact tm_loc (tm_le_s (tm_le_s (tm_le_s (tm_le_s (tm_le_s (tm_le_s tm_le_0)))))) (ihL44 ((a_add (a_sg f L (a_h f K L G50)))) ((a_tim (a_sg f L (a_h f K L G50)))) (1) ((i48 + 1)) w109 hWw109 hFw109 ((a_adv f L (a_oe i45 (a_oe i46 (a_h f K L G50))))) hpw109 (by omega) (by omega) (by omega) (by omega) (by omega) (by omega) (by omega) (by omega) (by first | exact (if_pos (by omega)).trans ((a_slA (by omega) (by omega) (by omega)).symm.trans ((if_pos (by omega)).symm.trans q0L44)) | exact (if_pos (by omega)).trans ((a_slB (by omega) (by omega) (by omega) (by omega)).symm.trans ((if_pos (by omega)).symm.trans q0L44)) | exact (if_neg (by omega)).trans ((a_slC (by omega) (by omega) (by omega) (by omega)).symm.trans ((if_pos (by omega)).symm.trans q0L44))) (by omega))
                · skip
                  refine ev_aload_n dt_Ru_readSum_81 rfl rfl ?_
                  refine ev_iload_n dt_Ru_readSum_82 rfl rfl ?_
                  refine tm_vv dt_Ru_readSum_83 (gx_Ru_emit hWw91 h_rr (i45) (by omega) (by omega) hK (by omega) hx92) kb_Ru_50 ⟨im_Ru_emit, se_Ru_emit⟩ rfl hWw91 rrt0 rfl (Nat.le_of_ble_eq_true rfl) (by decide) (fun w110 hWw110 hRw110 => ?_)
                  obtain ⟨hfw110, hpw110⟩ := hRw110
                  have hFw110 : ∀ (p : Nat) (j : Int), ¬ (p = (rr + 1) ∨ (p = rr ∧ (j = 1 ∨ j = 2)) ∨ (p = tp ∧ (j = 2 ∨ j = 5 ∨ j = 6 ∨ j = 7 ∨ j = 8 ∨ j = 4))) → tm_g w110 p j = tm_g w p j := fun p j h => (hfw110 p j (by omega)).trans (hFw91 p j h)
                  have hx111 := a_R_eq hpw110 (show (a_em (i45) (a_oe i46 (a_h f K L G50))) = (a_oe i45 (a_oe i46 (a_h f K L G50))) from (by unfold a_oe; first | exact (if_pos (by omega)).symm | exact (if_neg (by omega)).symm))
                  refine ev_aload_n dt_Ru_readSum_86 rfl rfl ?_
                  have gk112 : tm_g w110 tp 6 = some (ab_I (a_sg f L (a_h f K L G50))) := by rw [a_R_sg hx111]; simp only [a_em_sg, a_em_nb, a_em_wd, a_oe_sg, a_oe_nb, a_oe_wd, a_oa_sg, a_oa_wd, a_t2_sg, a_t2_wd]
                  refine tm_getK (K := 6) dt_Ru_readSum_87 hWw110 tpt0 fl_Ru_53 rfl gk112 ?_
                  have gb113 := tm_kb (k := 6) (K := 6) hWw110 tpt0 rfl rfl gk112
                  refine tm_sp dt_Ru_readSum_90 (gx_Ru_addingOf hWw110 ((a_sg f L (a_h f K L G50))) (by omega) (by omega)) kb_Ru_84 sc_Ru_addingOf rfl (Nat.le_of_ble_eq_true rfl) (by decide) (fun v114 hv114 => ?_)
                  obtain ⟨hlv114, huv114, ev114⟩ := hv114
                  subst ev114
                  refine ev_istore_n (l' := [_, _, _, _, _, _]) dt_Ru_readSum_93 rfl (Nat.le_of_ble_eq_true rfl) rfl ?_
                  refine ev_iload_n dt_Ru_readSum_94 rfl rfl ?_
                  refine ev_if_ne (tgt := 102) dt_Ru_readSum_95 (by decide) (by omega) (fun h115 => ?_) (fun h115 => ?_)
                  · skip
                    exfalso
                    omega
                  · skip
                    refine ev_iload_n dt_Ru_readSum_98 rfl rfl ?_
                    refine ev_if_eq (tgt := 106) dt_Ru_readSum_99 (by decide) (by omega) (fun h116 => ?_) (fun h116 => ?_)
                    · skip
                      refine ev_iconst dt_Ru_readSum_106 ?_
                      refine ev_istore (l' := [_, _, _, _, _, _]) dt_Ru_readSum_107 (Nat.le_of_ble_eq_true rfl) rfl ?_
                      refine ev_iload dt_Ru_readSum_109 rfl ?_
                      refine ev_if_eq (tgt := 118) dt_Ru_readSum_111 (by decide) (by omega) (fun h117 => ?_) (fun h117 => ?_)
                      · skip
                        refine ev_iinc (l' := [_, _, _, _, _, _]) dt_Ru_readSum_118 rfl rfl ?_
                        refine ev_goto (tgt := 10) dt_Ru_readSum_121 (by decide) ?_
                        exact tm_loc (tm_le_s (tm_le_s (tm_le_s (tm_le_s (tm_le_s (tm_le_s tm_le_0)))))) (ihL44 ((a_add (a_sg f L (a_h f K L G50)))) ((a_tim (a_sg f L (a_h f K L G50)))) (0) ((i48 + 1)) w110 hWw110 hFw110 ((a_oe i45 (a_oe i46 (a_h f K L G50)))) hx111 (by omega) (by omega) (by omega) (by omega) (by omega) (by omega) (by omega) (by omega) (by first | exact (if_pos (by omega)).trans ((a_slA (by omega) (by omega) (by omega)).symm.trans ((if_pos (by omega)).symm.trans q0L44)) | exact (if_pos (by omega)).trans ((a_slB (by omega) (by omega) (by omega) (by omega)).symm.trans ((if_pos (by omega)).symm.trans q0L44)) | exact (if_neg (by omega)).trans ((a_slC (by omega) (by omega) (by omega) (by omega)).symm.trans ((if_pos (by omega)).symm.trans q0L44))) (by omega))
                      · skip
                        exfalso
                        omega
                    · skip
                      refine ev_iconst dt_Ru_readSum_102 ?_
                      refine ev_goto (tgt := 107) dt_Ru_readSum_103 (by decide) ?_
                      refine ev_istore (l' := [_, _, _, _, _, _]) dt_Ru_readSum_107 (Nat.le_of_ble_eq_true rfl) rfl ?_
                      refine ev_iload dt_Ru_readSum_109 rfl ?_
                      refine ev_if_eq (tgt := 118) dt_Ru_readSum_111 (by decide) (by omega) (fun h118 => ?_) (fun h118 => ?_)
                      · skip
                        exfalso
                        omega
                      · skip
                        refine ev_aload_n dt_Ru_readSum_114 rfl rfl ?_
                        refine tm_vv dt_Ru_readSum_115 (gx_Ta_advance hWw110 h_tp hK (by omega) hx111) kb_Ru_37 ⟨im_Ta_advance, se_Ta_advance⟩ rfl hWw110 tpt0 rfl (Nat.le_of_ble_eq_true rfl) (by decide) (fun w119 hWw119 hRw119 => ?_)
                        obtain ⟨hfw119, hpw119⟩ := hRw119
                        have hFw119 : ∀ (p : Nat) (j : Int), ¬ (p = (rr + 1) ∨ (p = rr ∧ (j = 1 ∨ j = 2)) ∨ (p = tp ∧ (j = 2 ∨ j = 5 ∨ j = 6 ∨ j = 7 ∨ j = 8 ∨ j = 4))) → tm_g w119 p j = tm_g w p j := fun p j h => (hfw119 p j (by omega)).trans (hFw110 p j h)
                        refine ev_iinc (l' := [_, _, _, _, _, _]) dt_Ru_readSum_118 rfl rfl ?_
                        refine ev_goto (tgt := 10) dt_Ru_readSum_121 (by decide) ?_
                        exact tm_loc (tm_le_s (tm_le_s (tm_le_s (tm_le_s (tm_le_s (tm_le_s tm_le_0)))))) (ihL44 ((a_add (a_sg f L (a_h f K L G50)))) ((a_tim (a_sg f L (a_h f K L G50)))) (1) ((i48 + 1)) w119 hWw119 hFw119 ((a_adv f L (a_oe i45 (a_oe i46 (a_h f K L G50))))) hpw119 (by omega) (by omega) (by omega) (by omega) (by omega) (by omega) (by omega) (by omega) (by first | exact (if_pos (by omega)).trans ((a_slA (by omega) (by omega) (by omega)).symm.trans ((if_pos (by omega)).symm.trans q0L44)) | exact (if_pos (by omega)).trans ((a_slB (by omega) (by omega) (by omega) (by omega)).symm.trans ((if_pos (by omega)).symm.trans q0L44)) | exact (if_neg (by omega)).trans ((a_slC (by omega) (by omega) (by omega) (by omega)).symm.trans ((if_pos (by omega)).symm.trans q0L44))) (by omega))
          · skip
            refine ev_aload_n dt_Ru_readSum_36 rfl rfl ?_
            refine tm_getK (K := 7) dt_Ru_readSum_37 hWw53 tpt0 fl_Ru_78 rfl (a_R_nb hpw53) ?_
            have gb120 := tm_kb (k := 7) (K := 7) hWw53 tpt0 rfl rfl (a_R_nb hpw53)
            refine ev_goto (tgt := 49) dt_Ru_readSum_40 (by decide) ?_
            refine tm_vv dt_Ru_readSum_49 (gx_Ru_emit hWw53 h_rr ((a_nb f L (a_chk f K L G50))) (by omega) (by omega) hK (by omega) hpw53) kb_Ru_50 ⟨im_Ru_emit, se_Ru_emit⟩ rfl hWw53 rrt0 rfl (Nat.le_of_ble_eq_true rfl) (by decide) (fun w121 hWw121 hRw121 => ?_)
            obtain ⟨hfw121, hpw121⟩ := hRw121
            have hFw121 : ∀ (p : Nat) (j : Int), ¬ (p = (rr + 1) ∨ (p = rr ∧ (j = 1 ∨ j = 2)) ∨ (p = tp ∧ (j = 2 ∨ j = 5 ∨ j = 6 ∨ j = 7 ∨ j = 8 ∨ j = 4))) → tm_g w121 p j = tm_g w p j := fun p j h => (hfw121 p j (by omega)).trans (hFw53 p j h)
            refine ev_aload_n dt_Ru_readSum_52 rfl rfl ?_
            refine tm_vv dt_Ru_readSum_53 (gx_Ta_advance hWw121 h_tp hK (by omega) hpw121) kb_Ru_37 ⟨im_Ta_advance, se_Ta_advance⟩ rfl hWw121 tpt0 rfl (Nat.le_of_ble_eq_true rfl) (by decide) (fun w122 hWw122 hRw122 => ?_)
            obtain ⟨hfw122, hpw122⟩ := hRw122
            have hFw122 : ∀ (p : Nat) (j : Int), ¬ (p = (rr + 1) ∨ (p = rr ∧ (j = 1 ∨ j = 2)) ∨ (p = tp ∧ (j = 2 ∨ j = 5 ∨ j = 6 ∨ j = 7 ∨ j = 8 ∨ j = 4))) → tm_g w122 p j = tm_g w p j := fun p j h => (hfw122 p j (by omega)).trans (hFw121 p j h)
            have hx123 := a_R_eq hpw122 (show (a_adv f L (a_em ((a_nb f L (a_chk f K L G50))) (a_chk f K L G50))) = (a_h f K L G50) from congrArg (a_adv f L) (by unfold a_vl; first | exact (if_pos (by omega)).symm | exact (if_neg (by omega)).symm))
            refine ev_iload_n dt_Ru_readSum_56 rfl rfl ?_
            refine ev_if_eq (tgt := 65) dt_Ru_readSum_57 (by decide) (by omega) (fun h124 => ?_) (fun h124 => ?_)
            · skip
              have hx125 := a_R_eq hx123 (show (a_h f K L G50) = (a_oe i46 (a_h f K L G50)) from (by unfold a_oe; first | exact (if_pos (by omega)).symm | exact (if_neg (by omega)).symm))
              refine ev_aload_n dt_Ru_readSum_65 rfl rfl ?_
              have gk126 : tm_g w122 tp 6 = some (ab_I (a_sg f L (a_h f K L G50))) := by rw [a_R_sg hx125]; simp only [a_em_sg, a_em_nb, a_em_wd, a_oe_sg, a_oe_nb, a_oe_wd, a_oa_sg, a_oa_wd, a_t2_sg, a_t2_wd]
              refine tm_getK (K := 6) dt_Ru_readSum_66 hWw122 tpt0 fl_Ru_53 rfl gk126 ?_
              have gb127 := tm_kb (k := 6) (K := 6) hWw122 tpt0 rfl rfl gk126
              refine tm_sp dt_Ru_readSum_69 (gx_Ru_timingOf hWw122 ((a_sg f L (a_h f K L G50))) (by omega) (by omega)) kb_Ru_81 sc_Ru_timingOf rfl (Nat.le_of_ble_eq_true rfl) (by decide) (fun v128 hv128 => ?_)
              obtain ⟨hlv128, huv128, ev128⟩ := hv128
              subst ev128
              refine ev_istore_n (l' := [_, _, _, _, _, _]) dt_Ru_readSum_72 rfl (Nat.le_of_ble_eq_true rfl) rfl ?_
              refine ev_iload_n dt_Ru_readSum_73 rfl rfl ?_
              refine ev_if_ne (tgt := 94) dt_Ru_readSum_74 (by decide) (by omega) (fun h129 => ?_) (fun h129 => ?_)
              · skip
                refine ev_iload_n dt_Ru_readSum_94 rfl rfl ?_
                refine ev_if_ne (tgt := 102) dt_Ru_readSum_95 (by decide) (by omega) (fun h130 => ?_) (fun h130 => ?_)
                · skip
                  refine ev_iconst dt_Ru_readSum_102 ?_
                  refine ev_goto (tgt := 107) dt_Ru_readSum_103 (by decide) ?_
                  refine ev_istore (l' := [_, _, _, _, _, _]) dt_Ru_readSum_107 (Nat.le_of_ble_eq_true rfl) rfl ?_
                  refine ev_iload dt_Ru_readSum_109 rfl ?_
                  refine ev_if_eq (tgt := 118) dt_Ru_readSum_111 (by decide) (by omega) (fun h131 => ?_) (fun h131 => ?_)
                  · skip
                    exfalso
                    omega
                  · skip
                    refine ev_aload_n dt_Ru_readSum_114 rfl rfl ?_
                    refine tm_vv dt_Ru_readSum_115 (gx_Ta_advance hWw122 h_tp hK (by omega) hx125) kb_Ru_37 ⟨im_Ta_advance, se_Ta_advance⟩ rfl hWw122 tpt0 rfl (Nat.le_of_ble_eq_true rfl) (by decide) (fun w132 hWw132 hRw132 => ?_)
                    obtain ⟨hfw132, hpw132⟩ := hRw132
                    have hFw132 : ∀ (p : Nat) (j : Int), ¬ (p = (rr + 1) ∨ (p = rr ∧ (j = 1 ∨ j = 2)) ∨ (p = tp ∧ (j = 2 ∨ j = 5 ∨ j = 6 ∨ j = 7 ∨ j = 8 ∨ j = 4))) → tm_g w132 p j = tm_g w p j := fun p j h => (hfw132 p j (by omega)).trans (hFw122 p j h)
                    refine ev_iinc (l' := [_, _, _, _, _, _]) dt_Ru_readSum_118 rfl rfl ?_
                    refine ev_goto (tgt := 10) dt_Ru_readSum_121 (by decide) ?_
                    exact tm_loc (tm_le_s (tm_le_s (tm_le_s (tm_le_s (tm_le_s (tm_le_s tm_le_0)))))) (ihL44 (i45) ((a_tim (a_sg f L (a_h f K L G50)))) (1) ((i48 + 1)) w132 hWw132 hFw132 ((a_adv f L (a_oe i46 (a_h f K L G50)))) hpw132 (by omega) (by omega) (by omega) (by omega) (by omega) (by omega) (by omega) (by omega) (by first | exact (if_pos (by omega)).trans ((a_slA (by omega) (by omega) (by omega)).symm.trans ((if_pos (by omega)).symm.trans q0L44)) | exact (if_pos (by omega)).trans ((a_slB (by omega) (by omega) (by omega) (by omega)).symm.trans ((if_pos (by omega)).symm.trans q0L44)) | exact (if_neg (by omega)).trans ((a_slC (by omega) (by omega) (by omega) (by omega)).symm.trans ((if_pos (by omega)).symm.trans q0L44))) (by omega))
                · skip
                  exfalso
                  omega
              · skip
                refine ev_iload_n dt_Ru_readSum_77 rfl rfl ?_
                refine ev_if_eq (tgt := 86) dt_Ru_readSum_78 (by decide) (by omega) (fun h133 => ?_) (fun h133 => ?_)
                · skip
                  have hx134 := a_R_eq hx125 (show (a_oe i46 (a_h f K L G50)) = (a_oe i45 (a_oe i46 (a_h f K L G50))) from (by unfold a_oe; first | exact (if_pos (by omega)).symm | exact (if_neg (by omega)).symm))
                  refine ev_aload_n dt_Ru_readSum_86 rfl rfl ?_
                  have gk135 : tm_g w122 tp 6 = some (ab_I (a_sg f L (a_h f K L G50))) := by rw [a_R_sg hx134]; simp only [a_em_sg, a_em_nb, a_em_wd, a_oe_sg, a_oe_nb, a_oe_wd, a_oa_sg, a_oa_wd, a_t2_sg, a_t2_wd]
                  refine tm_getK (K := 6) dt_Ru_readSum_87 hWw122 tpt0 fl_Ru_53 rfl gk135 ?_
                  have gb136 := tm_kb (k := 6) (K := 6) hWw122 tpt0 rfl rfl gk135
                  refine tm_sp dt_Ru_readSum_90 (gx_Ru_addingOf hWw122 ((a_sg f L (a_h f K L G50))) (by omega) (by omega)) kb_Ru_84 sc_Ru_addingOf rfl (Nat.le_of_ble_eq_true rfl) (by decide) (fun v137 hv137 => ?_)
                  obtain ⟨hlv137, huv137, ev137⟩ := hv137
                  subst ev137
                  refine ev_istore_n (l' := [_, _, _, _, _, _]) dt_Ru_readSum_93 rfl (Nat.le_of_ble_eq_true rfl) rfl ?_
                  refine ev_iload_n dt_Ru_readSum_94 rfl rfl ?_
                  refine ev_if_ne (tgt := 102) dt_Ru_readSum_95 (by decide) (by omega) (fun h138 => ?_) (fun h138 => ?_)
                  · skip
                    exfalso
                    omega
                  · skip
                    refine ev_iload_n dt_Ru_readSum_98 rfl rfl ?_
                    refine ev_if_eq (tgt := 106) dt_Ru_readSum_99 (by decide) (by omega) (fun h139 => ?_) (fun h139 => ?_)
                    · skip
                      refine ev_iconst dt_Ru_readSum_106 ?_
                      refine ev_istore (l' := [_, _, _, _, _, _]) dt_Ru_readSum_107 (Nat.le_of_ble_eq_true rfl) rfl ?_
                      refine ev_iload dt_Ru_readSum_109 rfl ?_
                      refine ev_if_eq (tgt := 118) dt_Ru_readSum_111 (by decide) (by omega) (fun h140 => ?_) (fun h140 => ?_)
                      · skip
                        refine ev_iinc (l' := [_, _, _, _, _, _]) dt_Ru_readSum_118 rfl rfl ?_
                        refine ev_goto (tgt := 10) dt_Ru_readSum_121 (by decide) ?_
                        exact tm_loc (tm_le_s (tm_le_s (tm_le_s (tm_le_s (tm_le_s (tm_le_s tm_le_0)))))) (ihL44 ((a_add (a_sg f L (a_h f K L G50)))) ((a_tim (a_sg f L (a_h f K L G50)))) (0) ((i48 + 1)) w122 hWw122 hFw122 ((a_oe i45 (a_oe i46 (a_h f K L G50)))) hx134 (by omega) (by omega) (by omega) (by omega) (by omega) (by omega) (by omega) (by omega) (by first | exact (if_pos (by omega)).trans ((a_slA (by omega) (by omega) (by omega)).symm.trans ((if_pos (by omega)).symm.trans q0L44)) | exact (if_pos (by omega)).trans ((a_slB (by omega) (by omega) (by omega) (by omega)).symm.trans ((if_pos (by omega)).symm.trans q0L44)) | exact (if_neg (by omega)).trans ((a_slC (by omega) (by omega) (by omega) (by omega)).symm.trans ((if_pos (by omega)).symm.trans q0L44))) (by omega))
                      · skip
                        exfalso
                        omega
                    · skip
                      refine ev_iconst dt_Ru_readSum_102 ?_
                      refine ev_goto (tgt := 107) dt_Ru_readSum_103 (by decide) ?_
                      refine ev_istore (l' := [_, _, _, _, _, _]) dt_Ru_readSum_107 (Nat.le_of_ble_eq_true rfl) rfl ?_
                      refine ev_iload dt_Ru_readSum_109 rfl ?_
                      refine ev_if_eq (tgt := 118) dt_Ru_readSum_111 (by decide) (by omega) (fun h141 => ?_) (fun h141 => ?_)
                      · skip
                        exfalso
                        omega
                      · skip
                        refine ev_aload_n dt_Ru_readSum_114 rfl rfl ?_
                        refine tm_vv dt_Ru_readSum_115 (gx_Ta_advance hWw122 h_tp hK (by omega) hx134) kb_Ru_37 ⟨im_Ta_advance, se_Ta_advance⟩ rfl hWw122 tpt0 rfl (Nat.le_of_ble_eq_true rfl) (by decide) (fun w142 hWw142 hRw142 => ?_)
                        obtain ⟨hfw142, hpw142⟩ := hRw142
                        have hFw142 : ∀ (p : Nat) (j : Int), ¬ (p = (rr + 1) ∨ (p = rr ∧ (j = 1 ∨ j = 2)) ∨ (p = tp ∧ (j = 2 ∨ j = 5 ∨ j = 6 ∨ j = 7 ∨ j = 8 ∨ j = 4))) → tm_g w142 p j = tm_g w p j := fun p j h => (hfw142 p j (by omega)).trans (hFw122 p j h)
                        refine ev_iinc (l' := [_, _, _, _, _, _]) dt_Ru_readSum_118 rfl rfl ?_
                        refine ev_goto (tgt := 10) dt_Ru_readSum_121 (by decide) ?_
                        exact tm_loc (tm_le_s (tm_le_s (tm_le_s (tm_le_s (tm_le_s (tm_le_s tm_le_0)))))) (ihL44 ((a_add (a_sg f L (a_h f K L G50)))) ((a_tim (a_sg f L (a_h f K L G50)))) (1) ((i48 + 1)) w142 hWw142 hFw142 ((a_adv f L (a_oe i45 (a_oe i46 (a_h f K L G50))))) hpw142 (by omega) (by omega) (by omega) (by omega) (by omega) (by omega) (by omega) (by omega) (by first | exact (if_pos (by omega)).trans ((a_slA (by omega) (by omega) (by omega)).symm.trans ((if_pos (by omega)).symm.trans q0L44)) | exact (if_pos (by omega)).trans ((a_slB (by omega) (by omega) (by omega) (by omega)).symm.trans ((if_pos (by omega)).symm.trans q0L44)) | exact (if_neg (by omega)).trans ((a_slC (by omega) (by omega) (by omega) (by omega)).symm.trans ((if_pos (by omega)).symm.trans q0L44))) (by omega))
                · skip
                  refine ev_aload_n dt_Ru_readSum_81 rfl rfl ?_
                  refine ev_iload_n dt_Ru_readSum_82 rfl rfl ?_
                  refine tm_vv dt_Ru_readSum_83 (gx_Ru_emit hWw122 h_rr (i45) (by omega) (by omega) hK (by omega) hx125) kb_Ru_50 ⟨im_Ru_emit, se_Ru_emit⟩ rfl hWw122 rrt0 rfl (Nat.le_of_ble_eq_true rfl) (by decide) (fun w143 hWw143 hRw143 => ?_)
                  obtain ⟨hfw143, hpw143⟩ := hRw143
                  have hFw143 : ∀ (p : Nat) (j : Int), ¬ (p = (rr + 1) ∨ (p = rr ∧ (j = 1 ∨ j = 2)) ∨ (p = tp ∧ (j = 2 ∨ j = 5 ∨ j = 6 ∨ j = 7 ∨ j = 8 ∨ j = 4))) → tm_g w143 p j = tm_g w p j := fun p j h => (hfw143 p j (by omega)).trans (hFw122 p j h)
                  have hx144 := a_R_eq hpw143 (show (a_em (i45) (a_oe i46 (a_h f K L G50))) = (a_oe i45 (a_oe i46 (a_h f K L G50))) from (by unfold a_oe; first | exact (if_pos (by omega)).symm | exact (if_neg (by omega)).symm))
                  refine ev_aload_n dt_Ru_readSum_86 rfl rfl ?_
                  have gk145 : tm_g w143 tp 6 = some (ab_I (a_sg f L (a_h f K L G50))) := by rw [a_R_sg hx144]; simp only [a_em_sg, a_em_nb, a_em_wd, a_oe_sg, a_oe_nb, a_oe_wd, a_oa_sg, a_oa_wd, a_t2_sg, a_t2_wd]
                  refine tm_getK (K := 6) dt_Ru_readSum_87 hWw143 tpt0 fl_Ru_53 rfl gk145 ?_
                  have gb146 := tm_kb (k := 6) (K := 6) hWw143 tpt0 rfl rfl gk145
                  refine tm_sp dt_Ru_readSum_90 (gx_Ru_addingOf hWw143 ((a_sg f L (a_h f K L G50))) (by omega) (by omega)) kb_Ru_84 sc_Ru_addingOf rfl (Nat.le_of_ble_eq_true rfl) (by decide) (fun v147 hv147 => ?_)
                  obtain ⟨hlv147, huv147, ev147⟩ := hv147
                  subst ev147
                  refine ev_istore_n (l' := [_, _, _, _, _, _]) dt_Ru_readSum_93 rfl (Nat.le_of_ble_eq_true rfl) rfl ?_
                  refine ev_iload_n dt_Ru_readSum_94 rfl rfl ?_
                  refine ev_if_ne (tgt := 102) dt_Ru_readSum_95 (by decide) (by omega) (fun h148 => ?_) (fun h148 => ?_)
                  · skip
                    exfalso
                    omega
                  · skip
                    refine ev_iload_n dt_Ru_readSum_98 rfl rfl ?_
                    refine ev_if_eq (tgt := 106) dt_Ru_readSum_99 (by decide) (by omega) (fun h149 => ?_) (fun h149 => ?_)
                    · skip
                      refine ev_iconst dt_Ru_readSum_106 ?_
                      refine ev_istore (l' := [_, _, _, _, _, _]) dt_Ru_readSum_107 (Nat.le_of_ble_eq_true rfl) rfl ?_
                      refine ev_iload dt_Ru_readSum_109 rfl ?_
                      refine ev_if_eq (tgt := 118) dt_Ru_readSum_111 (by decide) (by omega) (fun h150 => ?_) (fun h150 => ?_)
                      · skip
                        refine ev_iinc (l' := [_, _, _, _, _, _]) dt_Ru_readSum_118 rfl rfl ?_
                        refine ev_goto (tgt := 10) dt_Ru_readSum_121 (by decide) ?_
                        exact tm_loc (tm_le_s (tm_le_s (tm_le_s (tm_le_s (tm_le_s (tm_le_s tm_le_0)))))) (ihL44 ((a_add (a_sg f L (a_h f K L G50)))) ((a_tim (a_sg f L (a_h f K L G50)))) (0) ((i48 + 1)) w143 hWw143 hFw143 ((a_oe i45 (a_oe i46 (a_h f K L G50)))) hx144 (by omega) (by omega) (by omega) (by omega) (by omega) (by omega) (by omega) (by omega) (by first | exact (if_pos (by omega)).trans ((a_slA (by omega) (by omega) (by omega)).symm.trans ((if_pos (by omega)).symm.trans q0L44)) | exact (if_pos (by omega)).trans ((a_slB (by omega) (by omega) (by omega) (by omega)).symm.trans ((if_pos (by omega)).symm.trans q0L44)) | exact (if_neg (by omega)).trans ((a_slC (by omega) (by omega) (by omega) (by omega)).symm.trans ((if_pos (by omega)).symm.trans q0L44))) (by omega))
                      · skip
                        exfalso
                        omega
                    · skip
                      refine ev_iconst dt_Ru_readSum_102 ?_
                      refine ev_goto (tgt := 107) dt_Ru_readSum_103 (by decide) ?_
                      refine ev_istore (l' := [_, _, _, _, _, _]) dt_Ru_readSum_107 (Nat.le_of_ble_eq_true rfl) rfl ?_
                      refine ev_iload dt_Ru_readSum_109 rfl ?_
                      refine ev_if_eq (tgt := 118) dt_Ru_readSum_111 (by decide) (by omega) (fun h151 => ?_) (fun h151 => ?_)
                      · skip
                        exfalso
                        omega
                      · skip
                        refine ev_aload_n dt_Ru_readSum_114 rfl rfl ?_
                        refine tm_vv dt_Ru_readSum_115 (gx_Ta_advance hWw143 h_tp hK (by omega) hx144) kb_Ru_37 ⟨im_Ta_advance, se_Ta_advance⟩ rfl hWw143 tpt0 rfl (Nat.le_of_ble_eq_true rfl) (by decide) (fun w152 hWw152 hRw152 => ?_)
                        obtain ⟨hfw152, hpw152⟩ := hRw152
                        have hFw152 : ∀ (p : Nat) (j : Int), ¬ (p = (rr + 1) ∨ (p = rr ∧ (j = 1 ∨ j = 2)) ∨ (p = tp ∧ (j = 2 ∨ j = 5 ∨ j = 6 ∨ j = 7 ∨ j = 8 ∨ j = 4))) → tm_g w152 p j = tm_g w p j := fun p j h => (hfw152 p j (by omega)).trans (hFw143 p j h)
                        refine ev_iinc (l' := [_, _, _, _, _, _]) dt_Ru_readSum_118 rfl rfl ?_
                        refine ev_goto (tgt := 10) dt_Ru_readSum_121 (by decide) ?_
                        exact tm_loc (tm_le_s (tm_le_s (tm_le_s (tm_le_s (tm_le_s (tm_le_s tm_le_0)))))) (ihL44 ((a_add (a_sg f L (a_h f K L G50)))) ((a_tim (a_sg f L (a_h f K L G50)))) (1) ((i48 + 1)) w152 hWw152 hFw152 ((a_adv f L (a_oe i45 (a_oe i46 (a_h f K L G50))))) hpw152 (by omega) (by omega) (by omega) (by omega) (by omega) (by omega) (by omega) (by omega) (by first | exact (if_pos (by omega)).trans ((a_slA (by omega) (by omega) (by omega)).symm.trans ((if_pos (by omega)).symm.trans q0L44)) | exact (if_pos (by omega)).trans ((a_slB (by omega) (by omega) (by omega) (by omega)).symm.trans ((if_pos (by omega)).symm.trans q0L44)) | exact (if_neg (by omega)).trans ((a_slC (by omega) (by omega) (by omega) (by omega)).symm.trans ((if_pos (by omega)).symm.trans q0L44))) (by omega))
            · skip
              refine ev_aload_n dt_Ru_readSum_60 rfl rfl ?_
              refine ev_iload_n dt_Ru_readSum_61 rfl rfl ?_
              refine tm_vv dt_Ru_readSum_62 (gx_Ru_emit hWw122 h_rr (i46) (by omega) (by omega) hK (by omega) hx123) kb_Ru_50 ⟨im_Ru_emit, se_Ru_emit⟩ rfl hWw122 rrt0 rfl (Nat.le_of_ble_eq_true rfl) (by decide) (fun w153 hWw153 hRw153 => ?_)
              obtain ⟨hfw153, hpw153⟩ := hRw153
              have hFw153 : ∀ (p : Nat) (j : Int), ¬ (p = (rr + 1) ∨ (p = rr ∧ (j = 1 ∨ j = 2)) ∨ (p = tp ∧ (j = 2 ∨ j = 5 ∨ j = 6 ∨ j = 7 ∨ j = 8 ∨ j = 4))) → tm_g w153 p j = tm_g w p j := fun p j h => (hfw153 p j (by omega)).trans (hFw122 p j h)
              have hx154 := a_R_eq hpw153 (show (a_em (i46) (a_h f K L G50)) = (a_oe i46 (a_h f K L G50)) from (by unfold a_oe; first | exact (if_pos (by omega)).symm | exact (if_neg (by omega)).symm))
              refine ev_aload_n dt_Ru_readSum_65 rfl rfl ?_
              have gk155 : tm_g w153 tp 6 = some (ab_I (a_sg f L (a_h f K L G50))) := by rw [a_R_sg hx154]; simp only [a_em_sg, a_em_nb, a_em_wd, a_oe_sg, a_oe_nb, a_oe_wd, a_oa_sg, a_oa_wd, a_t2_sg, a_t2_wd]
              refine tm_getK (K := 6) dt_Ru_readSum_66 hWw153 tpt0 fl_Ru_53 rfl gk155 ?_
              have gb156 := tm_kb (k := 6) (K := 6) hWw153 tpt0 rfl rfl gk155
              refine tm_sp dt_Ru_readSum_69 (gx_Ru_timingOf hWw153 ((a_sg f L (a_h f K L G50))) (by omega) (by omega)) kb_Ru_81 sc_Ru_timingOf rfl (Nat.le_of_ble_eq_true rfl) (by decide) (fun v157 hv157 => ?_)
              obtain ⟨hlv157, huv157, ev157⟩ := hv157
              subst ev157
              refine ev_istore_n (l' := [_, _, _, _, _, _]) dt_Ru_readSum_72 rfl (Nat.le_of_ble_eq_true rfl) rfl ?_
              refine ev_iload_n dt_Ru_readSum_73 rfl rfl ?_
              refine ev_if_ne (tgt := 94) dt_Ru_readSum_74 (by decide) (by omega) (fun h158 => ?_) (fun h158 => ?_)
              · skip
                refine ev_iload_n dt_Ru_readSum_94 rfl rfl ?_
                refine ev_if_ne (tgt := 102) dt_Ru_readSum_95 (by decide) (by omega) (fun h159 => ?_) (fun h159 => ?_)
                · skip
                  refine ev_iconst dt_Ru_readSum_102 ?_
                  refine ev_goto (tgt := 107) dt_Ru_readSum_103 (by decide) ?_
                  refine ev_istore (l' := [_, _, _, _, _, _]) dt_Ru_readSum_107 (Nat.le_of_ble_eq_true rfl) rfl ?_
                  refine ev_iload dt_Ru_readSum_109 rfl ?_
                  refine ev_if_eq (tgt := 118) dt_Ru_readSum_111 (by decide) (by omega) (fun h160 => ?_) (fun h160 => ?_)
                  · skip
                    exfalso
                    omega
                  · skip
                    refine ev_aload_n dt_Ru_readSum_114 rfl rfl ?_
                    refine tm_vv dt_Ru_readSum_115 (gx_Ta_advance hWw153 h_tp hK (by omega) hx154) kb_Ru_37 ⟨im_Ta_advance, se_Ta_advance⟩ rfl hWw153 tpt0 rfl (Nat.le_of_ble_eq_true rfl) (by decide) (fun w161 hWw161 hRw161 => ?_)
                    obtain ⟨hfw161, hpw161⟩ := hRw161
                    have hFw161 : ∀ (p : Nat) (j : Int), ¬ (p = (rr + 1) ∨ (p = rr ∧ (j = 1 ∨ j = 2)) ∨ (p = tp ∧ (j = 2 ∨ j = 5 ∨ j = 6 ∨ j = 7 ∨ j = 8 ∨ j = 4))) → tm_g w161 p j = tm_g w p j := fun p j h => (hfw161 p j (by omega)).trans (hFw153 p j h)
                    refine ev_iinc (l' := [_, _, _, _, _, _]) dt_Ru_readSum_118 rfl rfl ?_
                    refine ev_goto (tgt := 10) dt_Ru_readSum_121 (by decide) ?_
                    exact tm_loc (tm_le_s (tm_le_s (tm_le_s (tm_le_s (tm_le_s (tm_le_s tm_le_0)))))) (ihL44 (i45) ((a_tim (a_sg f L (a_h f K L G50)))) (1) ((i48 + 1)) w161 hWw161 hFw161 ((a_adv f L (a_oe i46 (a_h f K L G50)))) hpw161 (by omega) (by omega) (by omega) (by omega) (by omega) (by omega) (by omega) (by omega) (by first | exact (if_pos (by omega)).trans ((a_slA (by omega) (by omega) (by omega)).symm.trans ((if_pos (by omega)).symm.trans q0L44)) | exact (if_pos (by omega)).trans ((a_slB (by omega) (by omega) (by omega) (by omega)).symm.trans ((if_pos (by omega)).symm.trans q0L44)) | exact (if_neg (by omega)).trans ((a_slC (by omega) (by omega) (by omega) (by omega)).symm.trans ((if_pos (by omega)).symm.trans q0L44))) (by omega))
                · skip
                  exfalso
                  omega
              · skip
                refine ev_iload_n dt_Ru_readSum_77 rfl rfl ?_
                refine ev_if_eq (tgt := 86) dt_Ru_readSum_78 (by decide) (by omega) (fun h162 => ?_) (fun h162 => ?_)
                · skip
                  have hx163 := a_R_eq hx154 (show (a_oe i46 (a_h f K L G50)) = (a_oe i45 (a_oe i46 (a_h f K L G50))) from (by unfold a_oe; first | exact (if_pos (by omega)).symm | exact (if_neg (by omega)).symm))
                  refine ev_aload_n dt_Ru_readSum_86 rfl rfl ?_
                  have gk164 : tm_g w153 tp 6 = some (ab_I (a_sg f L (a_h f K L G50))) := by rw [a_R_sg hx163]; simp only [a_em_sg, a_em_nb, a_em_wd, a_oe_sg, a_oe_nb, a_oe_wd, a_oa_sg, a_oa_wd, a_t2_sg, a_t2_wd]
                  refine tm_getK (K := 6) dt_Ru_readSum_87 hWw153 tpt0 fl_Ru_53 rfl gk164 ?_
                  have gb165 := tm_kb (k := 6) (K := 6) hWw153 tpt0 rfl rfl gk164
                  refine tm_sp dt_Ru_readSum_90 (gx_Ru_addingOf hWw153 ((a_sg f L (a_h f K L G50))) (by omega) (by omega)) kb_Ru_84 sc_Ru_addingOf rfl (Nat.le_of_ble_eq_true rfl) (by decide) (fun v166 hv166 => ?_)
                  obtain ⟨hlv166, huv166, ev166⟩ := hv166
                  subst ev166
                  refine ev_istore_n (l' := [_, _, _, _, _, _]) dt_Ru_readSum_93 rfl (Nat.le_of_ble_eq_true rfl) rfl ?_
                  refine ev_iload_n dt_Ru_readSum_94 rfl rfl ?_
                  refine ev_if_ne (tgt := 102) dt_Ru_readSum_95 (by decide) (by omega) (fun h167 => ?_) (fun h167 => ?_)
                  · skip
                    exfalso
                    omega
                  · skip
                    refine ev_iload_n dt_Ru_readSum_98 rfl rfl ?_
                    refine ev_if_eq (tgt := 106) dt_Ru_readSum_99 (by decide) (by omega) (fun h168 => ?_) (fun h168 => ?_)
                    · skip
                      refine ev_iconst dt_Ru_readSum_106 ?_
                      refine ev_istore (l' := [_, _, _, _, _, _]) dt_Ru_readSum_107 (Nat.le_of_ble_eq_true rfl) rfl ?_
                      refine ev_iload dt_Ru_readSum_109 rfl ?_
                      refine ev_if_eq (tgt := 118) dt_Ru_readSum_111 (by decide) (by omega) (fun h169 => ?_) (fun h169 => ?_)
                      · skip
                        refine ev_iinc (l' := [_, _, _, _, _, _]) dt_Ru_readSum_118 rfl rfl ?_
                        refine ev_goto (tgt := 10) dt_Ru_readSum_121 (by decide) ?_
                        exact tm_loc (tm_le_s (tm_le_s (tm_le_s (tm_le_s (tm_le_s (tm_le_s tm_le_0)))))) (ihL44 ((a_add (a_sg f L (a_h f K L G50)))) ((a_tim (a_sg f L (a_h f K L G50)))) (0) ((i48 + 1)) w153 hWw153 hFw153 ((a_oe i45 (a_oe i46 (a_h f K L G50)))) hx163 (by omega) (by omega) (by omega) (by omega) (by omega) (by omega) (by omega) (by omega) (by first | exact (if_pos (by omega)).trans ((a_slA (by omega) (by omega) (by omega)).symm.trans ((if_pos (by omega)).symm.trans q0L44)) | exact (if_pos (by omega)).trans ((a_slB (by omega) (by omega) (by omega) (by omega)).symm.trans ((if_pos (by omega)).symm.trans q0L44)) | exact (if_neg (by omega)).trans ((a_slC (by omega) (by omega) (by omega) (by omega)).symm.trans ((if_pos (by omega)).symm.trans q0L44))) (by omega))
                      · skip
                        exfalso
                        omega
                    · skip
                      refine ev_iconst dt_Ru_readSum_102 ?_
                      refine ev_goto (tgt := 107) dt_Ru_readSum_103 (by decide) ?_
                      refine ev_istore (l' := [_, _, _, _, _, _]) dt_Ru_readSum_107 (Nat.le_of_ble_eq_true rfl) rfl ?_
                      refine ev_iload dt_Ru_readSum_109 rfl ?_
                      refine ev_if_eq (tgt := 118) dt_Ru_readSum_111 (by decide) (by omega) (fun h170 => ?_) (fun h170 => ?_)
                      · skip
                        exfalso
                        omega
                      · skip
                        refine ev_aload_n dt_Ru_readSum_114 rfl rfl ?_
                        refine tm_vv dt_Ru_readSum_115 (gx_Ta_advance hWw153 h_tp hK (by omega) hx163) kb_Ru_37 ⟨im_Ta_advance, se_Ta_advance⟩ rfl hWw153 tpt0 rfl (Nat.le_of_ble_eq_true rfl) (by decide) (fun w171 hWw171 hRw171 => ?_)
                        obtain ⟨hfw171, hpw171⟩ := hRw171
                        have hFw171 : ∀ (p : Nat) (j : Int), ¬ (p = (rr + 1) ∨ (p = rr ∧ (j = 1 ∨ j = 2)) ∨ (p = tp ∧ (j = 2 ∨ j = 5 ∨ j = 6 ∨ j = 7 ∨ j = 8 ∨ j = 4))) → tm_g w171 p j = tm_g w p j := fun p j h => (hfw171 p j (by omega)).trans (hFw153 p j h)
                        refine ev_iinc (l' := [_, _, _, _, _, _]) dt_Ru_readSum_118 rfl rfl ?_
                        refine ev_goto (tgt := 10) dt_Ru_readSum_121 (by decide) ?_
                        exact tm_loc (tm_le_s (tm_le_s (tm_le_s (tm_le_s (tm_le_s (tm_le_s tm_le_0)))))) (ihL44 ((a_add (a_sg f L (a_h f K L G50)))) ((a_tim (a_sg f L (a_h f K L G50)))) (1) ((i48 + 1)) w171 hWw171 hFw171 ((a_adv f L (a_oe i45 (a_oe i46 (a_h f K L G50))))) hpw171 (by omega) (by omega) (by omega) (by omega) (by omega) (by omega) (by omega) (by omega) (by first | exact (if_pos (by omega)).trans ((a_slA (by omega) (by omega) (by omega)).symm.trans ((if_pos (by omega)).symm.trans q0L44)) | exact (if_pos (by omega)).trans ((a_slB (by omega) (by omega) (by omega) (by omega)).symm.trans ((if_pos (by omega)).symm.trans q0L44)) | exact (if_neg (by omega)).trans ((a_slC (by omega) (by omega) (by omega) (by omega)).symm.trans ((if_pos (by omega)).symm.trans q0L44))) (by omega))
                · skip
                  refine ev_aload_n dt_Ru_readSum_81 rfl rfl ?_
                  refine ev_iload_n dt_Ru_readSum_82 rfl rfl ?_
                  refine tm_vv dt_Ru_readSum_83 (gx_Ru_emit hWw153 h_rr (i45) (by omega) (by omega) hK (by omega) hx154) kb_Ru_50 ⟨im_Ru_emit, se_Ru_emit⟩ rfl hWw153 rrt0 rfl (Nat.le_of_ble_eq_true rfl) (by decide) (fun w172 hWw172 hRw172 => ?_)
                  obtain ⟨hfw172, hpw172⟩ := hRw172
                  have hFw172 : ∀ (p : Nat) (j : Int), ¬ (p = (rr + 1) ∨ (p = rr ∧ (j = 1 ∨ j = 2)) ∨ (p = tp ∧ (j = 2 ∨ j = 5 ∨ j = 6 ∨ j = 7 ∨ j = 8 ∨ j = 4))) → tm_g w172 p j = tm_g w p j := fun p j h => (hfw172 p j (by omega)).trans (hFw153 p j h)
                  have hx173 := a_R_eq hpw172 (show (a_em (i45) (a_oe i46 (a_h f K L G50))) = (a_oe i45 (a_oe i46 (a_h f K L G50))) from (by unfold a_oe; first | exact (if_pos (by omega)).symm | exact (if_neg (by omega)).symm))
                  refine ev_aload_n dt_Ru_readSum_86 rfl rfl ?_
                  have gk174 : tm_g w172 tp 6 = some (ab_I (a_sg f L (a_h f K L G50))) := by rw [a_R_sg hx173]; simp only [a_em_sg, a_em_nb, a_em_wd, a_oe_sg, a_oe_nb, a_oe_wd, a_oa_sg, a_oa_wd, a_t2_sg, a_t2_wd]
                  refine tm_getK (K := 6) dt_Ru_readSum_87 hWw172 tpt0 fl_Ru_53 rfl gk174 ?_
                  have gb175 := tm_kb (k := 6) (K := 6) hWw172 tpt0 rfl rfl gk174
                  refine tm_sp dt_Ru_readSum_90 (gx_Ru_addingOf hWw172 ((a_sg f L (a_h f K L G50))) (by omega) (by omega)) kb_Ru_84 sc_Ru_addingOf rfl (Nat.le_of_ble_eq_true rfl) (by decide) (fun v176 hv176 => ?_)
                  obtain ⟨hlv176, huv176, ev176⟩ := hv176
                  subst ev176
                  refine ev_istore_n (l' := [_, _, _, _, _, _]) dt_Ru_readSum_93 rfl (Nat.le_of_ble_eq_true rfl) rfl ?_
                  refine ev_iload_n dt_Ru_readSum_94 rfl rfl ?_
                  refine ev_if_ne (tgt := 102) dt_Ru_readSum_95 (by decide) (by omega) (fun h177 => ?_) (fun h177 => ?_)
                  · skip
                    exfalso
                    omega
                  · skip
                    refine ev_iload_n dt_Ru_readSum_98 rfl rfl ?_
                    refine ev_if_eq (tgt := 106) dt_Ru_readSum_99 (by decide) (by omega) (fun h178 => ?_) (fun h178 => ?_)
                    · skip
                      refine ev_iconst dt_Ru_readSum_106 ?_
                      refine ev_istore (l' := [_, _, _, _, _, _]) dt_Ru_readSum_107 (Nat.le_of_ble_eq_true rfl) rfl ?_
                      refine ev_iload dt_Ru_readSum_109 rfl ?_
                      refine ev_if_eq (tgt := 118) dt_Ru_readSum_111 (by decide) (by omega) (fun h179 => ?_) (fun h179 => ?_)
                      · skip
                        refine ev_iinc (l' := [_, _, _, _, _, _]) dt_Ru_readSum_118 rfl rfl ?_
                        refine ev_goto (tgt := 10) dt_Ru_readSum_121 (by decide) ?_
                        exact tm_loc (tm_le_s (tm_le_s (tm_le_s (tm_le_s (tm_le_s (tm_le_s tm_le_0)))))) (ihL44 ((a_add (a_sg f L (a_h f K L G50)))) ((a_tim (a_sg f L (a_h f K L G50)))) (0) ((i48 + 1)) w172 hWw172 hFw172 ((a_oe i45 (a_oe i46 (a_h f K L G50)))) hx173 (by omega) (by omega) (by omega) (by omega) (by omega) (by omega) (by omega) (by omega) (by first | exact (if_pos (by omega)).trans ((a_slA (by omega) (by omega) (by omega)).symm.trans ((if_pos (by omega)).symm.trans q0L44)) | exact (if_pos (by omega)).trans ((a_slB (by omega) (by omega) (by omega) (by omega)).symm.trans ((if_pos (by omega)).symm.trans q0L44)) | exact (if_neg (by omega)).trans ((a_slC (by omega) (by omega) (by omega) (by omega)).symm.trans ((if_pos (by omega)).symm.trans q0L44))) (by omega))
                      · skip
                        exfalso
                        omega
                    · skip
                      refine ev_iconst dt_Ru_readSum_102 ?_
                      refine ev_goto (tgt := 107) dt_Ru_readSum_103 (by decide) ?_
                      refine ev_istore (l' := [_, _, _, _, _, _]) dt_Ru_readSum_107 (Nat.le_of_ble_eq_true rfl) rfl ?_
                      refine ev_iload dt_Ru_readSum_109 rfl ?_
                      refine ev_if_eq (tgt := 118) dt_Ru_readSum_111 (by decide) (by omega) (fun h180 => ?_) (fun h180 => ?_)
                      · skip
                        exfalso
                        omega
                      · skip
                        refine ev_aload_n dt_Ru_readSum_114 rfl rfl ?_
                        refine tm_vv dt_Ru_readSum_115 (gx_Ta_advance hWw172 h_tp hK (by omega) hx173) kb_Ru_37 ⟨im_Ta_advance, se_Ta_advance⟩ rfl hWw172 tpt0 rfl (Nat.le_of_ble_eq_true rfl) (by decide) (fun w181 hWw181 hRw181 => ?_)
                        obtain ⟨hfw181, hpw181⟩ := hRw181
                        have hFw181 : ∀ (p : Nat) (j : Int), ¬ (p = (rr + 1) ∨ (p = rr ∧ (j = 1 ∨ j = 2)) ∨ (p = tp ∧ (j = 2 ∨ j = 5 ∨ j = 6 ∨ j = 7 ∨ j = 8 ∨ j = 4))) → tm_g w181 p j = tm_g w p j := fun p j h => (hfw181 p j (by omega)).trans (hFw172 p j h)
                        refine ev_iinc (l' := [_, _, _, _, _, _]) dt_Ru_readSum_118 rfl rfl ?_
                        refine ev_goto (tgt := 10) dt_Ru_readSum_121 (by decide) ?_
                        exact tm_loc (tm_le_s (tm_le_s (tm_le_s (tm_le_s (tm_le_s (tm_le_s tm_le_0)))))) (ihL44 ((a_add (a_sg f L (a_h f K L G50)))) ((a_tim (a_sg f L (a_h f K L G50)))) (1) ((i48 + 1)) w181 hWw181 hFw181 ((a_adv f L (a_oe i45 (a_oe i46 (a_h f K L G50))))) hpw181 (by omega) (by omega) (by omega) (by omega) (by omega) (by omega) (by omega) (by omega) (by first | exact (if_pos (by omega)).trans ((a_slA (by omega) (by omega) (by omega)).symm.trans ((if_pos (by omega)).symm.trans q0L44)) | exact (if_pos (by omega)).trans ((a_slB (by omega) (by omega) (by omega) (by omega)).symm.trans ((if_pos (by omega)).symm.trans q0L44)) | exact (if_neg (by omega)).trans ((a_slC (by omega) (by omega) (by omega) (by omega)).symm.trans ((if_pos (by omega)).symm.trans q0L44))) (by omega))
  exact tm_loc (tm_le_s (tm_le_s (tm_le_s (tm_le_s (tm_le_s (tm_le_s tm_le_0)))))) (L44 (61 - (0) + 1 : Int).toNat (0) (0) (1) (0)  w hW hF0 (G) hG (by omega) (by omega) (by omega) (by omega) (by omega) (by omega) (by omega) (by omega) (if_pos rfl) (by omega))
