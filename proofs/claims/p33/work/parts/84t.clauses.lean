set_option maxHeartbeats 4000000 in
set_option maxRecDepth 10000 in
theorem gr_Rr_readGate {N : Nat} {T : Nat → tm_S} {w : ab_W} {f : Int → Int} {K : Nat} {L : Int} {c : Int × List Int} {rd : Int → Int} {n : Int} {tp : Nat} {o : Nat} (hW : tm_W N T w) (h_tp : is_Ta T tp) (h_o : is_Ri T o) (ne_tp_o : tp + 2 ≤ o ∨ o + 13 ≤ tp) (hK : K < g_ln.length) (h0 : 0 ≤ n) (h1 : n ≤ L) (hG : a_T f K L tp w (0, tk_sk f L n, c)) (hR : b_rel o rd w) : ab_Mt g_G g_rs mt_Rr_readGate 7 0 0 [ab_R tp, ab_R o] w (tm_Qv N T (fun w2 => (∀ (p : Nat) (j : Int), ¬ ((p = tp ∧ (j = 2 ∨ j = 5 ∨ j = 6 ∨ j = 7 ∨ j = 8 ∨ j = 4)) ∨ (p = o ∧ (j = 9))) → tm_g w2 p j = tm_g w p j) ∧ (b_rr f K L tp c o w2 (bs_gate f L n rd)))) := by
  have hR7 := hR.1.2.2.2.2.2.1
  have hR8 := hR.1.2.2.2.2.2.2.1
  have hR9 := hR.1.2.2.2.2.2.2.2
  have bR7 : 0 ≤ rd 1 ∧ rd 1 ≤ 7 := tm_kb (k := 7) (K := 7) hW h_o.1 rfl rfl hR7
  have bR8 : -2147483648 ≤ rd 2 ∧ rd 2 ≤ 2147483647 := tm_kb (k := 8) (K := 8) hW h_o.1 rfl rfl hR8
  have bR9 : -2147483648 ≤ rd 3 ∧ rd 3 ≤ 2147483647 := tm_kb (k := 9) (K := 9) hW h_o.1 rfl rfl hR9
  obtain ⟨tpt0, tpt1⟩ := id h_tp
  obtain ⟨ot0, ot1, ot2, ot3, ot4, ot5, ot6, ot7, ot8, ot9, ot10, ot11, ot12⟩ := id h_o
  have od := is_Ri.d h_o
  have hF0 : ∀ (p : Nat) (j : Int), ¬ ((p = tp ∧ (j = 2 ∨ j = 5 ∨ j = 6 ∨ j = 7 ∨ j = 8 ∨ j = 4)) ∨ (p = o ∧ (j = 9))) → tm_g w p j = tm_g w p j := fun _ _ _ => rfl
  refine ab_Mt.of rfl (Nat.le_of_ble_eq_true rfl) ?_
  show ab_Ev g_G g_rs mt_Rr_readGate _ _ _ 0 [some (ab_R tp), some (ab_R o), none] [] _ _
  refine ev_aload_n dt_Rr_readGate_0 rfl rfl ?_
  refine ev_iconst dt_Rr_readGate_1 ?_
  refine ev_bipush dt_Rr_readGate_2 rfl ?_
  refine tm_vi dt_Rr_readGate_4 (gr_take hW h_tp hK (n := n) (by omega) (by omega) hG (0) (11) (by omega) (by omega) (by omega) (by omega)) kb_Rr_59 ⟨im_Ta_takeNumber, se_Ta_takeNumber⟩ rfl hW tpt0 rfl (Nat.le_of_ble_eq_true rfl) (by decide) (fun w1 v2 hWw1 hSw1 => ?_)
  obtain ⟨hfw1, hqw1⟩ := hSw1
  have hFw1 : ∀ (p : Nat) (j : Int), ¬ ((p = tp ∧ (j = 2 ∨ j = 5 ∨ j = 6 ∨ j = 7 ∨ j = 8 ∨ j = 4)) ∨ (p = o ∧ (j = 9))) → tm_g w1 p j = tm_g w p j := fun p j h => (hfw1 p j (by omega)).trans (hF0 p j h)
  have z3 := (hfw1 o 9 (by omega)).trans hR9
  have hRw1 := b_rel_fr hR (fun p j hp => hfw1 p j (by omega))
  rcases hxw1 : rs_num f L (0) (11) n with ew1 | ⟨nw1, xw1⟩
  · skip
    rw [hxw1] at hqw1
    obtain ⟨evw1, ⟨lew1, uew1⟩, pw1, hGw1⟩ := hqw1
    refine ev_istore_n (l' := [_, _, _]) dt_Rr_readGate_7 rfl (Nat.le_of_ble_eq_true rfl) rfl ?_
    refine ev_aload_n dt_Rr_readGate_8 rfl rfl ?_
    refine tm_getK (K := 4) dt_Rr_readGate_9 hWw1 tpt0 fl_Rr_46 rfl (a_T_ft hGw1) ?_
    refine ev_if_ne (tgt := 27) dt_Rr_readGate_12 (by decide) (by omega) (fun h4 => ?_) (fun h4 => ?_)
    · skip
      exact ev_return dt_Rr_readGate_27 rfl ⟨hWw1, rfl, ⟨hFw1, (b_rr_er (by omega) (by omega) hGw1 (by unfold bs_gate; simp only [hxw1]))⟩⟩
    · skip
      exfalso
      omega
  · skip
    rw [hxw1] at hqw1
    obtain ⟨evw1, ⟨lxw1, uxw1⟩, ⟨lnw1, unw1⟩, hGw1⟩ := hqw1
    subst evw1
    refine ev_istore_n (l' := [_, _, _]) dt_Rr_readGate_7 rfl (Nat.le_of_ble_eq_true rfl) rfl ?_
    refine ev_aload_n dt_Rr_readGate_8 rfl rfl ?_
    refine tm_getK (K := 4) dt_Rr_readGate_9 hWw1 tpt0 fl_Rr_46 rfl (a_T_ft hGw1) ?_
    refine ev_if_ne (tgt := 27) dt_Rr_readGate_12 (by decide) (by omega) (fun h5 => ?_) (fun h5 => ?_)
    · skip
      exfalso
      omega
    · skip
      refine ev_aload_n dt_Rr_readGate_15 rfl rfl ?_
      refine ev_dup dt_Rr_readGate_16 rfl ?_
      refine tm_getK (K := 9) dt_Rr_readGate_17 hWw1 ot0 fl_Rr_106 rfl z3 ?_
      refine ev_iconst dt_Rr_readGate_20 ?_
      refine ev_iload_n dt_Rr_readGate_21 rfl rfl ?_
      refine ev_ishl dt_Rr_readGate_22 (by omega) (by omega) ?_
      refine ev_ior dt_Rr_readGate_23 ?_
      have gb6 := (tm_ior_b (rd 3) (1 * 2 ^ (v2).toNat)).1
      refine tm_putI (K := 9) dt_Rr_readGate_24 hWw1 ot0 (fp_Rr_106 _) rfl rfl trivial (by omega) (by omega) (fun w7 hWw7 kkw7 hfw7 => ?_)
      have hFw7 : ∀ (p : Nat) (j : Int), ¬ ((p = tp ∧ (j = 2 ∨ j = 5 ∨ j = 6 ∨ j = 7 ∨ j = 8 ∨ j = 4)) ∨ (p = o ∧ (j = 9))) → tm_g w7 p j = tm_g w p j := fun p j h => (hfw7 p j (by omega)).trans (hFw1 p j h)
      have z8 := (hfw7 tp 4 (by omega)).trans (a_T_ft hGw1)
      have hGw7 := a_T_fr hGw1 (fun p j hp => hfw7 p j (by omega))
      have hRw7 := b_gate hRw1 kkw7 (fun p j hp hn => hfw7 p j (by omega))
      exact ev_return dt_Rr_readGate_27 rfl ⟨hWw7, rfl, ⟨hFw7, (b_rr_ok (by omega) (by omega) hGw7 hRw7 (by unfold bs_gate; simp only [hxw1]))⟩⟩
set_option maxHeartbeats 4000000 in
set_option maxRecDepth 10000 in
theorem gr_Rr_readRate {N : Nat} {T : Nat → tm_S} {w : ab_W} {f : Int → Int} {K : Nat} {L : Int} {c : Int × List Int} {rd : Int → Int} {n : Int} {tp : Nat} {o : Nat} (hW : tm_W N T w) (h_tp : is_Ta T tp) (h_o : is_Ri T o) (ne_tp_o : tp + 2 ≤ o ∨ o + 13 ≤ tp) (hK : K < g_ln.length) (h0 : 0 ≤ n) (h1 : n ≤ L) (hG : a_T f K L tp w (0, tk_sk f L n, c)) (hR : b_rel o rd w) : ab_Mt g_G g_rs mt_Rr_readRate 7 0 0 [ab_R tp, ab_R o] w (tm_Qv N T (fun w2 => (∀ (p : Nat) (j : Int), ¬ ((p = tp ∧ (j = 2 ∨ j = 5 ∨ j = 6 ∨ j = 7 ∨ j = 8 ∨ j = 4)) ∨ p = (o + 6)) → tm_g w2 p j = tm_g w p j) ∧ (b_rr f K L tp c o w2 (bs_rate f L n rd)))) := by
  have hR7 := hR.1.2.2.2.2.2.1
  have hR8 := hR.1.2.2.2.2.2.2.1
  have hR9 := hR.1.2.2.2.2.2.2.2
  have bR7 : 0 ≤ rd 1 ∧ rd 1 ≤ 7 := tm_kb (k := 7) (K := 7) hW h_o.1 rfl rfl hR7
  have bR8 : -2147483648 ≤ rd 2 ∧ rd 2 ≤ 2147483647 := tm_kb (k := 8) (K := 8) hW h_o.1 rfl rfl hR8
  have bR9 : -2147483648 ≤ rd 3 ∧ rd 3 ≤ 2147483647 := tm_kb (k := 9) (K := 9) hW h_o.1 rfl rfl hR9
  obtain ⟨tpt0, tpt1⟩ := id h_tp
  obtain ⟨ot0, ot1, ot2, ot3, ot4, ot5, ot6, ot7, ot8, ot9, ot10, ot11, ot12⟩ := id h_o
  have od := is_Ri.d h_o
  have hF0 : ∀ (p : Nat) (j : Int), ¬ ((p = tp ∧ (j = 2 ∨ j = 5 ∨ j = 6 ∨ j = 7 ∨ j = 8 ∨ j = 4)) ∨ p = (o + 6)) → tm_g w p j = tm_g w p j := fun _ _ _ => rfl
  refine ab_Mt.of rfl (Nat.le_of_ble_eq_true rfl) ?_
  show ab_Ev g_G g_rs mt_Rr_readRate _ _ _ 0 [some (ab_R tp), some (ab_R o), none, none, none] [] _ _
  refine ev_aload_n dt_Rr_readRate_0 rfl rfl ?_
  refine ev_iconst dt_Rr_readRate_1 ?_
  refine ev_bipush dt_Rr_readRate_2 rfl ?_
  refine tm_vi dt_Rr_readRate_4 (gr_take hW h_tp hK (n := n) (by omega) (by omega) hG (0) (23) (by omega) (by omega) (by omega) (by omega)) kb_Rr_59 ⟨im_Ta_takeNumber, se_Ta_takeNumber⟩ rfl hW tpt0 rfl (Nat.le_of_ble_eq_true rfl) (by decide) (fun w9 v10 hWw9 hSw9 => ?_)
  obtain ⟨hfw9, hqw9⟩ := hSw9
  have hFw9 : ∀ (p : Nat) (j : Int), ¬ ((p = tp ∧ (j = 2 ∨ j = 5 ∨ j = 6 ∨ j = 7 ∨ j = 8 ∨ j = 4)) ∨ p = (o + 6)) → tm_g w9 p j = tm_g w p j := fun p j h => (hfw9 p j (by omega)).trans (hF0 p j h)
  have hRw9 := b_rel_fr hR (fun p j hp => hfw9 p j (by omega))
  rcases hxw9 : rs_num f L (0) (23) n with ew9 | ⟨nw9, xw9⟩
  · skip
    rw [hxw9] at hqw9
    obtain ⟨evw9, ⟨lew9, uew9⟩, pw9, hGw9⟩ := hqw9
    refine ev_istore_n (l' := [_, _, _, _, _]) dt_Rr_readRate_7 rfl (Nat.le_of_ble_eq_true rfl) rfl ?_
    refine ev_aload_n dt_Rr_readRate_8 rfl rfl ?_
    refine ev_iload_n dt_Rr_readRate_9 rfl rfl ?_
    refine ev_bipush dt_Rr_readRate_10 rfl ?_
    refine tm_vi dt_Rr_readRate_12 (gd_take hWw9 h_tp hK (by omega) hGw9 (v10) (23) (by omega) (by omega) (by omega) (by omega)) kb_Rr_59 ⟨im_Ta_takeNumber, se_Ta_takeNumber⟩ rfl hWw9 tpt0 rfl (Nat.le_of_ble_eq_true rfl) (by decide) (fun w11 v12 hWw11 hSw11 => ?_)
    obtain ⟨hfw11, evw11, hGw11⟩ := hSw11
    have hFw11 : ∀ (p : Nat) (j : Int), ¬ ((p = tp ∧ (j = 2 ∨ j = 5 ∨ j = 6 ∨ j = 7 ∨ j = 8 ∨ j = 4)) ∨ p = (o + 6)) → tm_g w11 p j = tm_g w p j := fun p j h => (hfw11 p j (by omega)).trans (hFw9 p j h)
    have hRw11 := b_rel_fr hRw9 (fun p j hp => hfw11 p j (by omega))
    refine ev_istore_n (l' := [_, _, _, _, _]) dt_Rr_readRate_15 rfl (Nat.le_of_ble_eq_true rfl) rfl ?_
    refine ev_aload_n dt_Rr_readRate_16 rfl rfl ?_
    refine ev_iconst dt_Rr_readRate_17 ?_
    refine ev_bipush dt_Rr_readRate_18 rfl ?_
    refine tm_vi dt_Rr_readRate_20 (gd_take hWw11 h_tp hK (by omega) hGw11 (0) (6) (by omega) (by omega) (by omega) (by omega)) kb_Rr_59 ⟨im_Ta_takeNumber, se_Ta_takeNumber⟩ rfl hWw11 tpt0 rfl (Nat.le_of_ble_eq_true rfl) (by decide) (fun w13 v14 hWw13 hSw13 => ?_)
    obtain ⟨hfw13, evw13, hGw13⟩ := hSw13
    have hFw13 : ∀ (p : Nat) (j : Int), ¬ ((p = tp ∧ (j = 2 ∨ j = 5 ∨ j = 6 ∨ j = 7 ∨ j = 8 ∨ j = 4)) ∨ p = (o + 6)) → tm_g w13 p j = tm_g w p j := fun p j h => (hfw13 p j (by omega)).trans (hFw11 p j h)
    have hRw13 := b_rel_fr hRw11 (fun p j hp => hfw13 p j (by omega))
    refine ev_istore (l' := [_, _, _, _, _]) dt_Rr_readRate_23 (Nat.le_of_ble_eq_true rfl) rfl ?_
    refine ev_aload_n dt_Rr_readRate_25 rfl rfl ?_
    refine tm_getK (K := 4) dt_Rr_readRate_26 hWw13 tpt0 fl_Rr_46 rfl (a_T_ft hGw13) ?_
    refine ev_if_ne (tgt := 42) dt_Rr_readRate_29 (by decide) (by omega) (fun h15 => ?_) (fun h15 => ?_)
    · skip
      exact ev_return dt_Rr_readRate_42 rfl ⟨hWw13, rfl, ⟨hFw13, (b_rr_er (by omega) (by omega) hGw13 (by unfold bs_rate; simp only [hxw9]))⟩⟩
    · skip
      exfalso
      omega
  · skip
    rw [hxw9] at hqw9
    obtain ⟨evw9, ⟨lxw9, uxw9⟩, ⟨lnw9, unw9⟩, hGw9⟩ := hqw9
    subst evw9
    refine ev_istore_n (l' := [_, _, _, _, _]) dt_Rr_readRate_7 rfl (Nat.le_of_ble_eq_true rfl) rfl ?_
    refine ev_aload_n dt_Rr_readRate_8 rfl rfl ?_
    refine ev_iload_n dt_Rr_readRate_9 rfl rfl ?_
    refine ev_bipush dt_Rr_readRate_10 rfl ?_
    refine tm_vi dt_Rr_readRate_12 (gr_take hWw9 h_tp hK (n := nw9) (by omega) (by omega) hGw9 (v10) (23) (by omega) (by omega) (by omega) (by omega)) kb_Rr_59 ⟨im_Ta_takeNumber, se_Ta_takeNumber⟩ rfl hWw9 tpt0 rfl (Nat.le_of_ble_eq_true rfl) (by decide) (fun w16 v17 hWw16 hSw16 => ?_)
    obtain ⟨hfw16, hqw16⟩ := hSw16
    have hFw16 : ∀ (p : Nat) (j : Int), ¬ ((p = tp ∧ (j = 2 ∨ j = 5 ∨ j = 6 ∨ j = 7 ∨ j = 8 ∨ j = 4)) ∨ p = (o + 6)) → tm_g w16 p j = tm_g w p j := fun p j h => (hfw16 p j (by omega)).trans (hFw9 p j h)
    have hRw16 := b_rel_fr hRw9 (fun p j hp => hfw16 p j (by omega))
    rcases hxw16 : rs_num f L (v10) (23) nw9 with ew16 | ⟨nw16, xw16⟩
    · skip
      rw [hxw16] at hqw16
      obtain ⟨evw16, ⟨lew16, uew16⟩, pw16, hGw16⟩ := hqw16
      refine ev_istore_n (l' := [_, _, _, _, _]) dt_Rr_readRate_15 rfl (Nat.le_of_ble_eq_true rfl) rfl ?_
      refine ev_aload_n dt_Rr_readRate_16 rfl rfl ?_
      refine ev_iconst dt_Rr_readRate_17 ?_
      refine ev_bipush dt_Rr_readRate_18 rfl ?_
      refine tm_vi dt_Rr_readRate_20 (gd_take hWw16 h_tp hK (by omega) hGw16 (0) (6) (by omega) (by omega) (by omega) (by omega)) kb_Rr_59 ⟨im_Ta_takeNumber, se_Ta_takeNumber⟩ rfl hWw16 tpt0 rfl (Nat.le_of_ble_eq_true rfl) (by decide) (fun w18 v19 hWw18 hSw18 => ?_)
      obtain ⟨hfw18, evw18, hGw18⟩ := hSw18
      have hFw18 : ∀ (p : Nat) (j : Int), ¬ ((p = tp ∧ (j = 2 ∨ j = 5 ∨ j = 6 ∨ j = 7 ∨ j = 8 ∨ j = 4)) ∨ p = (o + 6)) → tm_g w18 p j = tm_g w p j := fun p j h => (hfw18 p j (by omega)).trans (hFw16 p j h)
      have hRw18 := b_rel_fr hRw16 (fun p j hp => hfw18 p j (by omega))
      refine ev_istore (l' := [_, _, _, _, _]) dt_Rr_readRate_23 (Nat.le_of_ble_eq_true rfl) rfl ?_
      refine ev_aload_n dt_Rr_readRate_25 rfl rfl ?_
      refine tm_getK (K := 4) dt_Rr_readRate_26 hWw18 tpt0 fl_Rr_46 rfl (a_T_ft hGw18) ?_
      refine ev_if_ne (tgt := 42) dt_Rr_readRate_29 (by decide) (by omega) (fun h20 => ?_) (fun h20 => ?_)
      · skip
        exact ev_return dt_Rr_readRate_42 rfl ⟨hWw18, rfl, ⟨hFw18, (b_rr_er (by omega) (by omega) hGw18 (by unfold bs_rate; simp only [hxw9, hxw16]))⟩⟩
      · skip
        exfalso
        omega
    · skip
      rw [hxw16] at hqw16
      obtain ⟨evw16, ⟨lxw16, uxw16⟩, ⟨lnw16, unw16⟩, hGw16⟩ := hqw16
      subst evw16
      refine ev_istore_n (l' := [_, _, _, _, _]) dt_Rr_readRate_15 rfl (Nat.le_of_ble_eq_true rfl) rfl ?_
      refine ev_aload_n dt_Rr_readRate_16 rfl rfl ?_
      refine ev_iconst dt_Rr_readRate_17 ?_
      refine ev_bipush dt_Rr_readRate_18 rfl ?_
      refine tm_vi dt_Rr_readRate_20 (gr_take hWw16 h_tp hK (n := nw16) (by omega) (by omega) hGw16 (0) (6) (by omega) (by omega) (by omega) (by omega)) kb_Rr_59 ⟨im_Ta_takeNumber, se_Ta_takeNumber⟩ rfl hWw16 tpt0 rfl (Nat.le_of_ble_eq_true rfl) (by decide) (fun w21 v22 hWw21 hSw21 => ?_)
      obtain ⟨hfw21, hqw21⟩ := hSw21
      have hFw21 : ∀ (p : Nat) (j : Int), ¬ ((p = tp ∧ (j = 2 ∨ j = 5 ∨ j = 6 ∨ j = 7 ∨ j = 8 ∨ j = 4)) ∨ p = (o + 6)) → tm_g w21 p j = tm_g w p j := fun p j h => (hfw21 p j (by omega)).trans (hFw16 p j h)
      have hRw21 := b_rel_fr hRw16 (fun p j hp => hfw21 p j (by omega))
      rcases hxw21 : rs_num f L (0) (6) nw16 with ew21 | ⟨nw21, xw21⟩
      · skip
        rw [hxw21] at hqw21
        obtain ⟨evw21, ⟨lew21, uew21⟩, pw21, hGw21⟩ := hqw21
        refine ev_istore (l' := [_, _, _, _, _]) dt_Rr_readRate_23 (Nat.le_of_ble_eq_true rfl) rfl ?_
        refine ev_aload_n dt_Rr_readRate_25 rfl rfl ?_
        refine tm_getK (K := 4) dt_Rr_readRate_26 hWw21 tpt0 fl_Rr_46 rfl (a_T_ft hGw21) ?_
        refine ev_if_ne (tgt := 42) dt_Rr_readRate_29 (by decide) (by omega) (fun h23 => ?_) (fun h23 => ?_)
        · skip
          exact ev_return dt_Rr_readRate_42 rfl ⟨hWw21, rfl, ⟨hFw21, (b_rr_er (by omega) (by omega) hGw21 (by unfold bs_rate; simp only [hxw9, hxw16, hxw21]))⟩⟩
        · skip
          exfalso
          omega
      · skip
        rw [hxw21] at hqw21
        obtain ⟨evw21, ⟨lxw21, uxw21⟩, ⟨lnw21, unw21⟩, hGw21⟩ := hqw21
        subst evw21
        refine ev_istore (l' := [_, _, _, _, _]) dt_Rr_readRate_23 (Nat.le_of_ble_eq_true rfl) rfl ?_
        refine ev_aload_n dt_Rr_readRate_25 rfl rfl ?_
        refine tm_getK (K := 4) dt_Rr_readRate_26 hWw21 tpt0 fl_Rr_46 rfl (a_T_ft hGw21) ?_
        refine ev_if_ne (tgt := 42) dt_Rr_readRate_29 (by decide) (by omega) (fun h24 => ?_) (fun h24 => ?_)
        · skip
          exfalso
          omega
        · skip
          refine ev_aload_n dt_Rr_readRate_32 rfl rfl ?_
          refine ev_iload_n dt_Rr_readRate_33 rfl rfl ?_
          refine ev_iload_n dt_Rr_readRate_34 rfl rfl ?_
          refine ev_iload dt_Rr_readRate_35 rfl ?_
          refine ev_iconst dt_Rr_readRate_37 ?_
          refine ev_isub dt_Rr_readRate_38 ?_
          refine tm_vv dt_Rr_readRate_39 (gb_Ri_setRates hWw21 h_o v10 (by omega) (by omega) v17 (by omega) (by omega) (v22 - 3) (by omega) (by omega) hRw21 (by omega)) kb_Rr_109 ⟨im_Ri_setRates, se_Ri_setRates⟩ rfl hWw21 ot0 rfl (Nat.le_of_ble_eq_true rfl) (by decide) (fun w25 hWw25 hSw25 => ?_)
          obtain ⟨hfw25, hRw25⟩ := hSw25
          have hFw25 : ∀ (p : Nat) (j : Int), ¬ ((p = tp ∧ (j = 2 ∨ j = 5 ∨ j = 6 ∨ j = 7 ∨ j = 8 ∨ j = 4)) ∨ p = (o + 6)) → tm_g w25 p j = tm_g w p j := fun p j h => (hfw25 p j (by omega)).trans (hFw21 p j h)
          have z26 := (hfw25 tp 4 (by omega)).trans (a_T_ft hGw21)
          have hGw25 := a_T_fr hGw21 (fun p j hp => hfw25 p j (by omega))
          exact ev_return dt_Rr_readRate_42 rfl ⟨hWw25, rfl, ⟨hFw25, (b_rr_ok (by omega) (by omega) hGw25 hRw25 (by unfold bs_rate; simp only [hxw9, hxw16, hxw21]))⟩⟩
set_option maxHeartbeats 4000000 in
set_option maxRecDepth 10000 in
theorem gr_Rr_readSight {N : Nat} {T : Nat → tm_S} {w : ab_W} {f : Int → Int} {K : Nat} {L : Int} {c : Int × List Int} {rd : Int → Int} {n : Int} {tp : Nat} {o : Nat} (hW : tm_W N T w) (h_tp : is_Ta T tp) (h_o : is_Ri T o) (ne_tp_o : tp + 2 ≤ o ∨ o + 13 ≤ tp) (hK : K < g_ln.length) (h0 : 0 ≤ n) (h1 : n ≤ L) (hG : a_T f K L tp w (0, tk_sk f L n, c)) (hR : b_rel o rd w) (hs : 0 ≤ rd 2 ∧ rd 2 ≤ 11) : ab_Mt g_G g_rs mt_Rr_readSight 7 0 0 [ab_R tp, ab_R o] w (tm_Qv N T (fun w2 => (∀ (p : Nat) (j : Int), ¬ ((p = tp ∧ (j = 2 ∨ j = 5 ∨ j = 6 ∨ j = 7 ∨ j = 8 ∨ j = 4)) ∨ p = (o + 5) ∨ (p = o ∧ (j = 8))) → tm_g w2 p j = tm_g w p j) ∧ (b_rr f K L tp c o w2 (bs_sight f L n rd)))) := by
  have hR7 := hR.1.2.2.2.2.2.1
  have hR8 := hR.1.2.2.2.2.2.2.1
  have hR9 := hR.1.2.2.2.2.2.2.2
  have bR7 : 0 ≤ rd 1 ∧ rd 1 ≤ 7 := tm_kb (k := 7) (K := 7) hW h_o.1 rfl rfl hR7
  have bR8 : -2147483648 ≤ rd 2 ∧ rd 2 ≤ 2147483647 := tm_kb (k := 8) (K := 8) hW h_o.1 rfl rfl hR8
  have bR9 : -2147483648 ≤ rd 3 ∧ rd 3 ≤ 2147483647 := tm_kb (k := 9) (K := 9) hW h_o.1 rfl rfl hR9
  obtain ⟨tpt0, tpt1⟩ := id h_tp
  obtain ⟨ot0, ot1, ot2, ot3, ot4, ot5, ot6, ot7, ot8, ot9, ot10, ot11, ot12⟩ := id h_o
  have od := is_Ri.d h_o
  have hF0 : ∀ (p : Nat) (j : Int), ¬ ((p = tp ∧ (j = 2 ∨ j = 5 ∨ j = 6 ∨ j = 7 ∨ j = 8 ∨ j = 4)) ∨ p = (o + 5) ∨ (p = o ∧ (j = 8))) → tm_g w p j = tm_g w p j := fun _ _ _ => rfl
  refine ab_Mt.of rfl (Nat.le_of_ble_eq_true rfl) ?_
  show ab_Ev g_G g_rs mt_Rr_readSight _ _ _ 0 [some (ab_R tp), some (ab_R o), none, none, none, none] [] _ _
  refine ev_aload_n dt_Rr_readSight_0 rfl rfl ?_
  refine ev_iconst dt_Rr_readSight_1 ?_
  refine ev_iconst dt_Rr_readSight_2 ?_
  refine tm_vi dt_Rr_readSight_3 (gr_take hW h_tp hK (n := n) (by omega) (by omega) hG (0) (4) (by omega) (by omega) (by omega) (by omega)) kb_Rr_59 ⟨im_Ta_takeNumber, se_Ta_takeNumber⟩ rfl hW tpt0 rfl (Nat.le_of_ble_eq_true rfl) (by decide) (fun w27 v28 hWw27 hSw27 => ?_)
  obtain ⟨hfw27, hqw27⟩ := hSw27
  have hFw27 : ∀ (p : Nat) (j : Int), ¬ ((p = tp ∧ (j = 2 ∨ j = 5 ∨ j = 6 ∨ j = 7 ∨ j = 8 ∨ j = 4)) ∨ p = (o + 5) ∨ (p = o ∧ (j = 8))) → tm_g w27 p j = tm_g w p j := fun p j h => (hfw27 p j (by omega)).trans (hF0 p j h)
  have hRw27 := b_rel_fr hR (fun p j hp => hfw27 p j (by omega))
  rcases hxw27 : rs_num f L (0) (4) n with ew27 | ⟨nw27, xw27⟩
  · skip
    rw [hxw27] at hqw27
    obtain ⟨evw27, ⟨lew27, uew27⟩, pw27, hGw27⟩ := hqw27
    refine ev_istore_n (l' := [_, _, _, _, _, _]) dt_Rr_readSight_6 rfl (Nat.le_of_ble_eq_true rfl) rfl ?_
    refine ev_aload_n dt_Rr_readSight_7 rfl rfl ?_
    refine ev_iconst dt_Rr_readSight_8 ?_
    refine ev_bipush dt_Rr_readSight_9 rfl ?_
    refine tm_vi dt_Rr_readSight_11 (gd_take hWw27 h_tp hK (by omega) hGw27 (0) (11) (by omega) (by omega) (by omega) (by omega)) kb_Rr_59 ⟨im_Ta_takeNumber, se_Ta_takeNumber⟩ rfl hWw27 tpt0 rfl (Nat.le_of_ble_eq_true rfl) (by decide) (fun w29 v30 hWw29 hSw29 => ?_)
    obtain ⟨hfw29, evw29, hGw29⟩ := hSw29
    have hFw29 : ∀ (p : Nat) (j : Int), ¬ ((p = tp ∧ (j = 2 ∨ j = 5 ∨ j = 6 ∨ j = 7 ∨ j = 8 ∨ j = 4)) ∨ p = (o + 5) ∨ (p = o ∧ (j = 8))) → tm_g w29 p j = tm_g w p j := fun p j h => (hfw29 p j (by omega)).trans (hFw27 p j h)
    have hRw29 := b_rel_fr hRw27 (fun p j hp => hfw29 p j (by omega))
    refine ev_istore_n (l' := [_, _, _, _, _, _]) dt_Rr_readSight_14 rfl (Nat.le_of_ble_eq_true rfl) rfl ?_
    refine ev_aload_n dt_Rr_readSight_15 rfl rfl ?_
    refine ev_iconst dt_Rr_readSight_16 ?_
    refine ev_bipush dt_Rr_readSight_17 rfl ?_
    refine tm_vi dt_Rr_readSight_19 (gd_take hWw29 h_tp hK (by omega) hGw29 (0) (23) (by omega) (by omega) (by omega) (by omega)) kb_Rr_59 ⟨im_Ta_takeNumber, se_Ta_takeNumber⟩ rfl hWw29 tpt0 rfl (Nat.le_of_ble_eq_true rfl) (by decide) (fun w31 v32 hWw31 hSw31 => ?_)
    obtain ⟨hfw31, evw31, hGw31⟩ := hSw31
    have hFw31 : ∀ (p : Nat) (j : Int), ¬ ((p = tp ∧ (j = 2 ∨ j = 5 ∨ j = 6 ∨ j = 7 ∨ j = 8 ∨ j = 4)) ∨ p = (o + 5) ∨ (p = o ∧ (j = 8))) → tm_g w31 p j = tm_g w p j := fun p j h => (hfw31 p j (by omega)).trans (hFw29 p j h)
    have hRw31 := b_rel_fr hRw29 (fun p j hp => hfw31 p j (by omega))
    refine ev_istore (l' := [_, _, _, _, _, _]) dt_Rr_readSight_22 (Nat.le_of_ble_eq_true rfl) rfl ?_
    refine ev_aload_n dt_Rr_readSight_24 rfl rfl ?_
    refine ev_iload dt_Rr_readSight_25 rfl ?_
    refine ev_bipush dt_Rr_readSight_27 rfl ?_
    refine tm_vi dt_Rr_readSight_29 (gd_take hWw31 h_tp hK (by omega) hGw31 (v32) (23) (by omega) (by omega) (by omega) (by omega)) kb_Rr_59 ⟨im_Ta_takeNumber, se_Ta_takeNumber⟩ rfl hWw31 tpt0 rfl (Nat.le_of_ble_eq_true rfl) (by decide) (fun w33 v34 hWw33 hSw33 => ?_)
    obtain ⟨hfw33, evw33, hGw33⟩ := hSw33
    have hFw33 : ∀ (p : Nat) (j : Int), ¬ ((p = tp ∧ (j = 2 ∨ j = 5 ∨ j = 6 ∨ j = 7 ∨ j = 8 ∨ j = 4)) ∨ p = (o + 5) ∨ (p = o ∧ (j = 8))) → tm_g w33 p j = tm_g w p j := fun p j h => (hfw33 p j (by omega)).trans (hFw31 p j h)
    have hRw33 := b_rel_fr hRw31 (fun p j hp => hfw33 p j (by omega))
    refine ev_istore (l' := [_, _, _, _, _, _]) dt_Rr_readSight_32 (Nat.le_of_ble_eq_true rfl) rfl ?_
    refine ev_aload_n dt_Rr_readSight_34 rfl rfl ?_
    refine tm_getK (K := 4) dt_Rr_readSight_35 hWw33 tpt0 fl_Rr_46 rfl (a_T_ft hGw33) ?_
    refine ev_if_ne (tgt := 51) dt_Rr_readSight_38 (by decide) (by omega) (fun h35 => ?_) (fun h35 => ?_)
    · skip
      exact ev_return dt_Rr_readSight_51 rfl ⟨hWw33, rfl, ⟨hFw33, (b_rr_er (by omega) (by omega) hGw33 (by unfold bs_sight; simp only [hxw27]))⟩⟩
    · skip
      exfalso
      omega
  · skip
    rw [hxw27] at hqw27
    obtain ⟨evw27, ⟨lxw27, uxw27⟩, ⟨lnw27, unw27⟩, hGw27⟩ := hqw27
    subst evw27
    refine ev_istore_n (l' := [_, _, _, _, _, _]) dt_Rr_readSight_6 rfl (Nat.le_of_ble_eq_true rfl) rfl ?_
    refine ev_aload_n dt_Rr_readSight_7 rfl rfl ?_
    refine ev_iconst dt_Rr_readSight_8 ?_
    refine ev_bipush dt_Rr_readSight_9 rfl ?_
    refine tm_vi dt_Rr_readSight_11 (gr_take hWw27 h_tp hK (n := nw27) (by omega) (by omega) hGw27 (0) (11) (by omega) (by omega) (by omega) (by omega)) kb_Rr_59 ⟨im_Ta_takeNumber, se_Ta_takeNumber⟩ rfl hWw27 tpt0 rfl (Nat.le_of_ble_eq_true rfl) (by decide) (fun w36 v37 hWw36 hSw36 => ?_)
    obtain ⟨hfw36, hqw36⟩ := hSw36
    have hFw36 : ∀ (p : Nat) (j : Int), ¬ ((p = tp ∧ (j = 2 ∨ j = 5 ∨ j = 6 ∨ j = 7 ∨ j = 8 ∨ j = 4)) ∨ p = (o + 5) ∨ (p = o ∧ (j = 8))) → tm_g w36 p j = tm_g w p j := fun p j h => (hfw36 p j (by omega)).trans (hFw27 p j h)
    have hRw36 := b_rel_fr hRw27 (fun p j hp => hfw36 p j (by omega))
    rcases hxw36 : rs_num f L (0) (11) nw27 with ew36 | ⟨nw36, xw36⟩
    · skip
      rw [hxw36] at hqw36
      obtain ⟨evw36, ⟨lew36, uew36⟩, pw36, hGw36⟩ := hqw36
      refine ev_istore_n (l' := [_, _, _, _, _, _]) dt_Rr_readSight_14 rfl (Nat.le_of_ble_eq_true rfl) rfl ?_
      refine ev_aload_n dt_Rr_readSight_15 rfl rfl ?_
      refine ev_iconst dt_Rr_readSight_16 ?_
      refine ev_bipush dt_Rr_readSight_17 rfl ?_
      refine tm_vi dt_Rr_readSight_19 (gd_take hWw36 h_tp hK (by omega) hGw36 (0) (23) (by omega) (by omega) (by omega) (by omega)) kb_Rr_59 ⟨im_Ta_takeNumber, se_Ta_takeNumber⟩ rfl hWw36 tpt0 rfl (Nat.le_of_ble_eq_true rfl) (by decide) (fun w38 v39 hWw38 hSw38 => ?_)
      obtain ⟨hfw38, evw38, hGw38⟩ := hSw38
      have hFw38 : ∀ (p : Nat) (j : Int), ¬ ((p = tp ∧ (j = 2 ∨ j = 5 ∨ j = 6 ∨ j = 7 ∨ j = 8 ∨ j = 4)) ∨ p = (o + 5) ∨ (p = o ∧ (j = 8))) → tm_g w38 p j = tm_g w p j := fun p j h => (hfw38 p j (by omega)).trans (hFw36 p j h)
      have hRw38 := b_rel_fr hRw36 (fun p j hp => hfw38 p j (by omega))
      refine ev_istore (l' := [_, _, _, _, _, _]) dt_Rr_readSight_22 (Nat.le_of_ble_eq_true rfl) rfl ?_
      refine ev_aload_n dt_Rr_readSight_24 rfl rfl ?_
      refine ev_iload dt_Rr_readSight_25 rfl ?_
      refine ev_bipush dt_Rr_readSight_27 rfl ?_
      refine tm_vi dt_Rr_readSight_29 (gd_take hWw38 h_tp hK (by omega) hGw38 (v39) (23) (by omega) (by omega) (by omega) (by omega)) kb_Rr_59 ⟨im_Ta_takeNumber, se_Ta_takeNumber⟩ rfl hWw38 tpt0 rfl (Nat.le_of_ble_eq_true rfl) (by decide) (fun w40 v41 hWw40 hSw40 => ?_)
      obtain ⟨hfw40, evw40, hGw40⟩ := hSw40
      have hFw40 : ∀ (p : Nat) (j : Int), ¬ ((p = tp ∧ (j = 2 ∨ j = 5 ∨ j = 6 ∨ j = 7 ∨ j = 8 ∨ j = 4)) ∨ p = (o + 5) ∨ (p = o ∧ (j = 8))) → tm_g w40 p j = tm_g w p j := fun p j h => (hfw40 p j (by omega)).trans (hFw38 p j h)
      have hRw40 := b_rel_fr hRw38 (fun p j hp => hfw40 p j (by omega))
      refine ev_istore (l' := [_, _, _, _, _, _]) dt_Rr_readSight_32 (Nat.le_of_ble_eq_true rfl) rfl ?_
      refine ev_aload_n dt_Rr_readSight_34 rfl rfl ?_
      refine tm_getK (K := 4) dt_Rr_readSight_35 hWw40 tpt0 fl_Rr_46 rfl (a_T_ft hGw40) ?_
      refine ev_if_ne (tgt := 51) dt_Rr_readSight_38 (by decide) (by omega) (fun h42 => ?_) (fun h42 => ?_)
      · skip
        exact ev_return dt_Rr_readSight_51 rfl ⟨hWw40, rfl, ⟨hFw40, (b_rr_er (by omega) (by omega) hGw40 (by unfold bs_sight; simp only [hxw27, hxw36]))⟩⟩
      · skip
        exfalso
        omega
    · skip
      rw [hxw36] at hqw36
      obtain ⟨evw36, ⟨lxw36, uxw36⟩, ⟨lnw36, unw36⟩, hGw36⟩ := hqw36
      subst evw36
      refine ev_istore_n (l' := [_, _, _, _, _, _]) dt_Rr_readSight_14 rfl (Nat.le_of_ble_eq_true rfl) rfl ?_
      refine ev_aload_n dt_Rr_readSight_15 rfl rfl ?_
      refine ev_iconst dt_Rr_readSight_16 ?_
      refine ev_bipush dt_Rr_readSight_17 rfl ?_
      refine tm_vi dt_Rr_readSight_19 (gr_take hWw36 h_tp hK (n := nw36) (by omega) (by omega) hGw36 (0) (23) (by omega) (by omega) (by omega) (by omega)) kb_Rr_59 ⟨im_Ta_takeNumber, se_Ta_takeNumber⟩ rfl hWw36 tpt0 rfl (Nat.le_of_ble_eq_true rfl) (by decide) (fun w43 v44 hWw43 hSw43 => ?_)
      obtain ⟨hfw43, hqw43⟩ := hSw43
      have hFw43 : ∀ (p : Nat) (j : Int), ¬ ((p = tp ∧ (j = 2 ∨ j = 5 ∨ j = 6 ∨ j = 7 ∨ j = 8 ∨ j = 4)) ∨ p = (o + 5) ∨ (p = o ∧ (j = 8))) → tm_g w43 p j = tm_g w p j := fun p j h => (hfw43 p j (by omega)).trans (hFw36 p j h)
      have hRw43 := b_rel_fr hRw36 (fun p j hp => hfw43 p j (by omega))
      rcases hxw43 : rs_num f L (0) (23) nw36 with ew43 | ⟨nw43, xw43⟩
      · skip
        rw [hxw43] at hqw43
        obtain ⟨evw43, ⟨lew43, uew43⟩, pw43, hGw43⟩ := hqw43
        refine ev_istore (l' := [_, _, _, _, _, _]) dt_Rr_readSight_22 (Nat.le_of_ble_eq_true rfl) rfl ?_
        refine ev_aload_n dt_Rr_readSight_24 rfl rfl ?_
        refine ev_iload dt_Rr_readSight_25 rfl ?_
        refine ev_bipush dt_Rr_readSight_27 rfl ?_
        refine tm_vi dt_Rr_readSight_29 (gd_take hWw43 h_tp hK (by omega) hGw43 (v44) (23) (by omega) (by omega) (by omega) (by omega)) kb_Rr_59 ⟨im_Ta_takeNumber, se_Ta_takeNumber⟩ rfl hWw43 tpt0 rfl (Nat.le_of_ble_eq_true rfl) (by decide) (fun w45 v46 hWw45 hSw45 => ?_)
        obtain ⟨hfw45, evw45, hGw45⟩ := hSw45
        have hFw45 : ∀ (p : Nat) (j : Int), ¬ ((p = tp ∧ (j = 2 ∨ j = 5 ∨ j = 6 ∨ j = 7 ∨ j = 8 ∨ j = 4)) ∨ p = (o + 5) ∨ (p = o ∧ (j = 8))) → tm_g w45 p j = tm_g w p j := fun p j h => (hfw45 p j (by omega)).trans (hFw43 p j h)
        have hRw45 := b_rel_fr hRw43 (fun p j hp => hfw45 p j (by omega))
        refine ev_istore (l' := [_, _, _, _, _, _]) dt_Rr_readSight_32 (Nat.le_of_ble_eq_true rfl) rfl ?_
        refine ev_aload_n dt_Rr_readSight_34 rfl rfl ?_
        refine tm_getK (K := 4) dt_Rr_readSight_35 hWw45 tpt0 fl_Rr_46 rfl (a_T_ft hGw45) ?_
        refine ev_if_ne (tgt := 51) dt_Rr_readSight_38 (by decide) (by omega) (fun h47 => ?_) (fun h47 => ?_)
        · skip
          exact ev_return dt_Rr_readSight_51 rfl ⟨hWw45, rfl, ⟨hFw45, (b_rr_er (by omega) (by omega) hGw45 (by unfold bs_sight; simp only [hxw27, hxw36, hxw43]))⟩⟩
        · skip
          exfalso
          omega
      · skip
        rw [hxw43] at hqw43
        obtain ⟨evw43, ⟨lxw43, uxw43⟩, ⟨lnw43, unw43⟩, hGw43⟩ := hqw43
        subst evw43
        refine ev_istore (l' := [_, _, _, _, _, _]) dt_Rr_readSight_22 (Nat.le_of_ble_eq_true rfl) rfl ?_
        refine ev_aload_n dt_Rr_readSight_24 rfl rfl ?_
        refine ev_iload dt_Rr_readSight_25 rfl ?_
        refine ev_bipush dt_Rr_readSight_27 rfl ?_
        refine tm_vi dt_Rr_readSight_29 (gr_take hWw43 h_tp hK (n := nw43) (by omega) (by omega) hGw43 (v44) (23) (by omega) (by omega) (by omega) (by omega)) kb_Rr_59 ⟨im_Ta_takeNumber, se_Ta_takeNumber⟩ rfl hWw43 tpt0 rfl (Nat.le_of_ble_eq_true rfl) (by decide) (fun w48 v49 hWw48 hSw48 => ?_)
        obtain ⟨hfw48, hqw48⟩ := hSw48
        have hFw48 : ∀ (p : Nat) (j : Int), ¬ ((p = tp ∧ (j = 2 ∨ j = 5 ∨ j = 6 ∨ j = 7 ∨ j = 8 ∨ j = 4)) ∨ p = (o + 5) ∨ (p = o ∧ (j = 8))) → tm_g w48 p j = tm_g w p j := fun p j h => (hfw48 p j (by omega)).trans (hFw43 p j h)
        have hRw48 := b_rel_fr hRw43 (fun p j hp => hfw48 p j (by omega))
        rcases hxw48 : rs_num f L (v44) (23) nw43 with ew48 | ⟨nw48, xw48⟩
        · skip
          rw [hxw48] at hqw48
          obtain ⟨evw48, ⟨lew48, uew48⟩, pw48, hGw48⟩ := hqw48
          refine ev_istore (l' := [_, _, _, _, _, _]) dt_Rr_readSight_32 (Nat.le_of_ble_eq_true rfl) rfl ?_
          refine ev_aload_n dt_Rr_readSight_34 rfl rfl ?_
          refine tm_getK (K := 4) dt_Rr_readSight_35 hWw48 tpt0 fl_Rr_46 rfl (a_T_ft hGw48) ?_
          refine ev_if_ne (tgt := 51) dt_Rr_readSight_38 (by decide) (by omega) (fun h50 => ?_) (fun h50 => ?_)
          · skip
            exact ev_return dt_Rr_readSight_51 rfl ⟨hWw48, rfl, ⟨hFw48, (b_rr_er (by omega) (by omega) hGw48 (by unfold bs_sight; simp only [hxw27, hxw36, hxw43, hxw48]))⟩⟩
          · skip
            exfalso
            omega
        · skip
          rw [hxw48] at hqw48
          obtain ⟨evw48, ⟨lxw48, uxw48⟩, ⟨lnw48, unw48⟩, hGw48⟩ := hqw48
          subst evw48
          refine ev_istore (l' := [_, _, _, _, _, _]) dt_Rr_readSight_32 (Nat.le_of_ble_eq_true rfl) rfl ?_
          refine ev_aload_n dt_Rr_readSight_34 rfl rfl ?_
          refine tm_getK (K := 4) dt_Rr_readSight_35 hWw48 tpt0 fl_Rr_46 rfl (a_T_ft hGw48) ?_
          refine ev_if_ne (tgt := 51) dt_Rr_readSight_38 (by decide) (by omega) (fun h51 => ?_) (fun h51 => ?_)
          · skip
            exfalso
            omega
          · skip
            refine ev_aload_n dt_Rr_readSight_41 rfl rfl ?_
            refine ev_iload_n dt_Rr_readSight_42 rfl rfl ?_
            refine ev_iload_n dt_Rr_readSight_43 rfl rfl ?_
            refine ev_iload dt_Rr_readSight_44 rfl ?_
            refine ev_iload dt_Rr_readSight_46 rfl ?_
            refine tm_vv dt_Rr_readSight_48 (gb_Ri_addSight hWw48 h_o v28 (by omega) (by omega) v37 (by omega) (by omega) v44 (by omega) (by omega) v49 (by omega) (by omega) hRw48 (by omega) (by omega)) kb_Rr_98 ⟨im_Ri_addSight, se_Ri_addSight⟩ rfl hWw48 ot0 rfl (Nat.le_of_ble_eq_true rfl) (by decide) (fun w52 hWw52 hSw52 => ?_)
            obtain ⟨hfw52, hRw52⟩ := hSw52
            have hFw52 : ∀ (p : Nat) (j : Int), ¬ ((p = tp ∧ (j = 2 ∨ j = 5 ∨ j = 6 ∨ j = 7 ∨ j = 8 ∨ j = 4)) ∨ p = (o + 5) ∨ (p = o ∧ (j = 8))) → tm_g w52 p j = tm_g w p j := fun p j h => (hfw52 p j (by omega)).trans (hFw48 p j h)
            have z53 := (hfw52 tp 4 (by omega)).trans (a_T_ft hGw48)
            have hGw52 := a_T_fr hGw48 (fun p j hp => hfw52 p j (by omega))
            exact ev_return dt_Rr_readSight_51 rfl ⟨hWw52, rfl, ⟨hFw52, (b_rr_ok (by omega) (by omega) hGw52 hRw52 (by unfold bs_sight; simp only [hxw27, hxw36, hxw43, hxw48]))⟩⟩
set_option maxHeartbeats 4000000 in
set_option maxRecDepth 10000 in
theorem gr_Rr_readLiking {N : Nat} {T : Nat → tm_S} {w : ab_W} {f : Int → Int} {K : Nat} {L : Int} {c : Int × List Int} {rd : Int → Int} {n : Int} {tp : Nat} {o : Nat} (hW : tm_W N T w) (h_tp : is_Ta T tp) (h_o : is_Ri T o) (ne_tp_o : tp + 2 ≤ o ∨ o + 13 ≤ tp) (a : Int) (l_a : (-1) ≤ a) (u_a : a ≤ 1) (hK : K < g_ln.length) (h0 : 0 ≤ n) (h1 : n ≤ L) (hG : a_T f K L tp w (0, tk_sk f L n, c)) (hR : b_rel o rd w) (ha : a = 1 ∨ a = -1) : ab_Mt g_G g_rs mt_Rr_readLiking 7 0 0 [ab_R tp, ab_R o, ab_I a] w (tm_Qv N T (fun w2 => (∀ (p : Nat) (j : Int), ¬ ((p = tp ∧ (j = 2 ∨ j = 5 ∨ j = 6 ∨ j = 7 ∨ j = 8 ∨ j = 4)) ∨ p = (o + 4)) → tm_g w2 p j = tm_g w p j) ∧ (b_rr f K L tp c o w2 (bs_like f L n a rd)))) := by
  have hR7 := hR.1.2.2.2.2.2.1
  have hR8 := hR.1.2.2.2.2.2.2.1
  have hR9 := hR.1.2.2.2.2.2.2.2
  have bR7 : 0 ≤ rd 1 ∧ rd 1 ≤ 7 := tm_kb (k := 7) (K := 7) hW h_o.1 rfl rfl hR7
  have bR8 : -2147483648 ≤ rd 2 ∧ rd 2 ≤ 2147483647 := tm_kb (k := 8) (K := 8) hW h_o.1 rfl rfl hR8
  have bR9 : -2147483648 ≤ rd 3 ∧ rd 3 ≤ 2147483647 := tm_kb (k := 9) (K := 9) hW h_o.1 rfl rfl hR9
  obtain ⟨tpt0, tpt1⟩ := id h_tp
  obtain ⟨ot0, ot1, ot2, ot3, ot4, ot5, ot6, ot7, ot8, ot9, ot10, ot11, ot12⟩ := id h_o
  have od := is_Ri.d h_o
  have hF0 : ∀ (p : Nat) (j : Int), ¬ ((p = tp ∧ (j = 2 ∨ j = 5 ∨ j = 6 ∨ j = 7 ∨ j = 8 ∨ j = 4)) ∨ p = (o + 4)) → tm_g w p j = tm_g w p j := fun _ _ _ => rfl
  refine ab_Mt.of rfl (Nat.le_of_ble_eq_true rfl) ?_
  show ab_Ev g_G g_rs mt_Rr_readLiking _ _ _ 0 [some (ab_R tp), some (ab_R o), some (ab_I a), none, none, none] [] _ _
  refine ev_aload_n dt_Rr_readLiking_0 rfl rfl ?_
  refine ev_iconst dt_Rr_readLiking_1 ?_
  refine ev_aload_n dt_Rr_readLiking_2 rfl rfl ?_
  refine tm_getK (K := 7) dt_Rr_readLiking_3 hW ot0 fl_Rr_53 rfl hR7 ?_
  refine ev_iconst dt_Rr_readLiking_6 ?_
  refine ev_isub dt_Rr_readLiking_7 ?_
  refine tm_vi dt_Rr_readLiking_8 (gr_take hW h_tp hK (n := n) (by omega) (by omega) hG (0) (((rd 1) - 1)) (by omega) (by omega) (by omega) (by omega)) kb_Rr_59 ⟨im_Ta_takeNumber, se_Ta_takeNumber⟩ rfl hW tpt0 rfl (Nat.le_of_ble_eq_true rfl) (by decide) (fun w54 v55 hWw54 hSw54 => ?_)
  obtain ⟨hfw54, hqw54⟩ := hSw54
  have hFw54 : ∀ (p : Nat) (j : Int), ¬ ((p = tp ∧ (j = 2 ∨ j = 5 ∨ j = 6 ∨ j = 7 ∨ j = 8 ∨ j = 4)) ∨ p = (o + 4)) → tm_g w54 p j = tm_g w p j := fun p j h => (hfw54 p j (by omega)).trans (hF0 p j h)
  have z56 := (hfw54 o 7 (by omega)).trans hR7
  have hRw54 := b_rel_fr hR (fun p j hp => hfw54 p j (by omega))
  rcases hxw54 : rs_num f L (0) (((rd 1) - 1)) n with ew54 | ⟨nw54, xw54⟩
  · skip
    rw [hxw54] at hqw54
    obtain ⟨evw54, ⟨lew54, uew54⟩, pw54, hGw54⟩ := hqw54
    refine ev_istore_n (l' := [_, _, _, _, _, _]) dt_Rr_readLiking_11 rfl (Nat.le_of_ble_eq_true rfl) rfl ?_
    refine ev_aload_n dt_Rr_readLiking_12 rfl rfl ?_
    refine ev_iconst dt_Rr_readLiking_13 ?_
    refine ev_iconst dt_Rr_readLiking_14 ?_
    refine tm_vi dt_Rr_readLiking_15 (gd_take hWw54 h_tp hK (by omega) hGw54 (0) (4) (by omega) (by omega) (by omega) (by omega)) kb_Rr_59 ⟨im_Ta_takeNumber, se_Ta_takeNumber⟩ rfl hWw54 tpt0 rfl (Nat.le_of_ble_eq_true rfl) (by decide) (fun w57 v58 hWw57 hSw57 => ?_)
    obtain ⟨hfw57, evw57, hGw57⟩ := hSw57
    have hFw57 : ∀ (p : Nat) (j : Int), ¬ ((p = tp ∧ (j = 2 ∨ j = 5 ∨ j = 6 ∨ j = 7 ∨ j = 8 ∨ j = 4)) ∨ p = (o + 4)) → tm_g w57 p j = tm_g w p j := fun p j h => (hfw57 p j (by omega)).trans (hFw54 p j h)
    have z59 := (hfw57 o 7 (by omega)).trans z56
    have hRw57 := b_rel_fr hRw54 (fun p j hp => hfw57 p j (by omega))
    refine ev_istore (l' := [_, _, _, _, _, _]) dt_Rr_readLiking_18 (Nat.le_of_ble_eq_true rfl) rfl ?_
    refine ev_aload_n dt_Rr_readLiking_20 rfl rfl ?_
    refine ev_iconst dt_Rr_readLiking_21 ?_
    refine ev_bipush dt_Rr_readLiking_22 rfl ?_
    refine tm_vi dt_Rr_readLiking_24 (gd_take hWw57 h_tp hK (by omega) hGw57 (1) (9) (by omega) (by omega) (by omega) (by omega)) kb_Rr_59 ⟨im_Ta_takeNumber, se_Ta_takeNumber⟩ rfl hWw57 tpt0 rfl (Nat.le_of_ble_eq_true rfl) (by decide) (fun w60 v61 hWw60 hSw60 => ?_)
    obtain ⟨hfw60, evw60, hGw60⟩ := hSw60
    have hFw60 : ∀ (p : Nat) (j : Int), ¬ ((p = tp ∧ (j = 2 ∨ j = 5 ∨ j = 6 ∨ j = 7 ∨ j = 8 ∨ j = 4)) ∨ p = (o + 4)) → tm_g w60 p j = tm_g w p j := fun p j h => (hfw60 p j (by omega)).trans (hFw57 p j h)
    have z62 := (hfw60 o 7 (by omega)).trans z59
    have hRw60 := b_rel_fr hRw57 (fun p j hp => hfw60 p j (by omega))
    refine ev_istore (l' := [_, _, _, _, _, _]) dt_Rr_readLiking_27 (Nat.le_of_ble_eq_true rfl) rfl ?_
    refine ev_aload_n dt_Rr_readLiking_29 rfl rfl ?_
    refine tm_getK (K := 4) dt_Rr_readLiking_30 hWw60 tpt0 fl_Rr_46 rfl (a_T_ft hGw60) ?_
    refine ev_if_ne (tgt := 51) dt_Rr_readLiking_33 (by decide) (by omega) (fun h63 => ?_) (fun h63 => ?_)
    · skip
      exact ev_return dt_Rr_readLiking_51 rfl ⟨hWw60, rfl, ⟨hFw60, (b_rr_er (by omega) (by omega) hGw60 (by unfold bs_like; simp only [hxw54]))⟩⟩
    · skip
      exfalso
      omega
  · skip
    rw [hxw54] at hqw54
    obtain ⟨evw54, ⟨lxw54, uxw54⟩, ⟨lnw54, unw54⟩, hGw54⟩ := hqw54
    subst evw54
    refine ev_istore_n (l' := [_, _, _, _, _, _]) dt_Rr_readLiking_11 rfl (Nat.le_of_ble_eq_true rfl) rfl ?_
    refine ev_aload_n dt_Rr_readLiking_12 rfl rfl ?_
    refine ev_iconst dt_Rr_readLiking_13 ?_
    refine ev_iconst dt_Rr_readLiking_14 ?_
    refine tm_vi dt_Rr_readLiking_15 (gr_take hWw54 h_tp hK (n := nw54) (by omega) (by omega) hGw54 (0) (4) (by omega) (by omega) (by omega) (by omega)) kb_Rr_59 ⟨im_Ta_takeNumber, se_Ta_takeNumber⟩ rfl hWw54 tpt0 rfl (Nat.le_of_ble_eq_true rfl) (by decide) (fun w64 v65 hWw64 hSw64 => ?_)
    obtain ⟨hfw64, hqw64⟩ := hSw64
    have hFw64 : ∀ (p : Nat) (j : Int), ¬ ((p = tp ∧ (j = 2 ∨ j = 5 ∨ j = 6 ∨ j = 7 ∨ j = 8 ∨ j = 4)) ∨ p = (o + 4)) → tm_g w64 p j = tm_g w p j := fun p j h => (hfw64 p j (by omega)).trans (hFw54 p j h)
    have z66 := (hfw64 o 7 (by omega)).trans z56
    have hRw64 := b_rel_fr hRw54 (fun p j hp => hfw64 p j (by omega))
    rcases hxw64 : rs_num f L (0) (4) nw54 with ew64 | ⟨nw64, xw64⟩
    · skip
      rw [hxw64] at hqw64
      obtain ⟨evw64, ⟨lew64, uew64⟩, pw64, hGw64⟩ := hqw64
      refine ev_istore (l' := [_, _, _, _, _, _]) dt_Rr_readLiking_18 (Nat.le_of_ble_eq_true rfl) rfl ?_
      refine ev_aload_n dt_Rr_readLiking_20 rfl rfl ?_
      refine ev_iconst dt_Rr_readLiking_21 ?_
      refine ev_bipush dt_Rr_readLiking_22 rfl ?_
      refine tm_vi dt_Rr_readLiking_24 (gd_take hWw64 h_tp hK (by omega) hGw64 (1) (9) (by omega) (by omega) (by omega) (by omega)) kb_Rr_59 ⟨im_Ta_takeNumber, se_Ta_takeNumber⟩ rfl hWw64 tpt0 rfl (Nat.le_of_ble_eq_true rfl) (by decide) (fun w67 v68 hWw67 hSw67 => ?_)
      obtain ⟨hfw67, evw67, hGw67⟩ := hSw67
      have hFw67 : ∀ (p : Nat) (j : Int), ¬ ((p = tp ∧ (j = 2 ∨ j = 5 ∨ j = 6 ∨ j = 7 ∨ j = 8 ∨ j = 4)) ∨ p = (o + 4)) → tm_g w67 p j = tm_g w p j := fun p j h => (hfw67 p j (by omega)).trans (hFw64 p j h)
      have z69 := (hfw67 o 7 (by omega)).trans z66
      have hRw67 := b_rel_fr hRw64 (fun p j hp => hfw67 p j (by omega))
      refine ev_istore (l' := [_, _, _, _, _, _]) dt_Rr_readLiking_27 (Nat.le_of_ble_eq_true rfl) rfl ?_
      refine ev_aload_n dt_Rr_readLiking_29 rfl rfl ?_
      refine tm_getK (K := 4) dt_Rr_readLiking_30 hWw67 tpt0 fl_Rr_46 rfl (a_T_ft hGw67) ?_
      refine ev_if_ne (tgt := 51) dt_Rr_readLiking_33 (by decide) (by omega) (fun h70 => ?_) (fun h70 => ?_)
      · skip
        exact ev_return dt_Rr_readLiking_51 rfl ⟨hWw67, rfl, ⟨hFw67, (b_rr_er (by omega) (by omega) hGw67 (by unfold bs_like; simp only [hxw54, hxw64]))⟩⟩
      · skip
        exfalso
        omega
    · skip
      rw [hxw64] at hqw64
      obtain ⟨evw64, ⟨lxw64, uxw64⟩, ⟨lnw64, unw64⟩, hGw64⟩ := hqw64
      subst evw64
      refine ev_istore (l' := [_, _, _, _, _, _]) dt_Rr_readLiking_18 (Nat.le_of_ble_eq_true rfl) rfl ?_
      refine ev_aload_n dt_Rr_readLiking_20 rfl rfl ?_
      refine ev_iconst dt_Rr_readLiking_21 ?_
      refine ev_bipush dt_Rr_readLiking_22 rfl ?_
      refine tm_vi dt_Rr_readLiking_24 (gr_take hWw64 h_tp hK (n := nw64) (by omega) (by omega) hGw64 (1) (9) (by omega) (by omega) (by omega) (by omega)) kb_Rr_59 ⟨im_Ta_takeNumber, se_Ta_takeNumber⟩ rfl hWw64 tpt0 rfl (Nat.le_of_ble_eq_true rfl) (by decide) (fun w71 v72 hWw71 hSw71 => ?_)
      obtain ⟨hfw71, hqw71⟩ := hSw71
      have hFw71 : ∀ (p : Nat) (j : Int), ¬ ((p = tp ∧ (j = 2 ∨ j = 5 ∨ j = 6 ∨ j = 7 ∨ j = 8 ∨ j = 4)) ∨ p = (o + 4)) → tm_g w71 p j = tm_g w p j := fun p j h => (hfw71 p j (by omega)).trans (hFw64 p j h)
      have z73 := (hfw71 o 7 (by omega)).trans z66
      have hRw71 := b_rel_fr hRw64 (fun p j hp => hfw71 p j (by omega))
      rcases hxw71 : rs_num f L (1) (9) nw64 with ew71 | ⟨nw71, xw71⟩
      · skip
        rw [hxw71] at hqw71
        obtain ⟨evw71, ⟨lew71, uew71⟩, pw71, hGw71⟩ := hqw71
        refine ev_istore (l' := [_, _, _, _, _, _]) dt_Rr_readLiking_27 (Nat.le_of_ble_eq_true rfl) rfl ?_
        refine ev_aload_n dt_Rr_readLiking_29 rfl rfl ?_
        refine tm_getK (K := 4) dt_Rr_readLiking_30 hWw71 tpt0 fl_Rr_46 rfl (a_T_ft hGw71) ?_
        refine ev_if_ne (tgt := 51) dt_Rr_readLiking_33 (by decide) (by omega) (fun h74 => ?_) (fun h74 => ?_)
        · skip
          exact ev_return dt_Rr_readLiking_51 rfl ⟨hWw71, rfl, ⟨hFw71, (b_rr_er (by omega) (by omega) hGw71 (by unfold bs_like; simp only [hxw54, hxw64, hxw71]))⟩⟩
        · skip
          exfalso
          omega
      · skip
        rw [hxw71] at hqw71
        obtain ⟨evw71, ⟨lxw71, uxw71⟩, ⟨lnw71, unw71⟩, hGw71⟩ := hqw71
        subst evw71
        refine ev_istore (l' := [_, _, _, _, _, _]) dt_Rr_readLiking_27 (Nat.le_of_ble_eq_true rfl) rfl ?_
        refine ev_aload_n dt_Rr_readLiking_29 rfl rfl ?_
        refine tm_getK (K := 4) dt_Rr_readLiking_30 hWw71 tpt0 fl_Rr_46 rfl (a_T_ft hGw71) ?_
        refine ev_if_ne (tgt := 51) dt_Rr_readLiking_33 (by decide) (by omega) (fun h75 => ?_) (fun h75 => ?_)
        · skip
          exfalso
          omega
        · skip
          refine ev_aload_n dt_Rr_readLiking_36 rfl rfl ?_
          refine tm_getR dt_Rr_readLiking_37 hWw71 ot0 fl_Rr_102 rfl ?_
          refine ev_iload_n dt_Rr_readLiking_40 rfl rfl ?_
          refine ev_iconst dt_Rr_readLiking_41 ?_
          refine ev_imul dt_Rr_readLiking_42 ?_
          refine ev_iload dt_Rr_readLiking_43 rfl ?_
          refine ev_iadd dt_Rr_readLiking_45 ?_
          refine ev_iload_n dt_Rr_readLiking_46 rfl rfl ?_
          refine ev_iload dt_Rr_readLiking_47 rfl ?_
          refine ev_imul dt_Rr_readLiking_49 ?_
          have gb76 : -9 ≤ (a * v72) ∧ (a * v72) ≤ 9 := by rcases ha with z | z <;> rw [z] <;> omega
          refine tm_iastore dt_Rr_readLiking_50 hWw71 ot4 (by omega) (by omega) (by omega) (by omega) (by omega) (fun w77 hWw77 kkw77 hfw77 => ?_)
          have hFw77 : ∀ (p : Nat) (j : Int), ¬ ((p = tp ∧ (j = 2 ∨ j = 5 ∨ j = 6 ∨ j = 7 ∨ j = 8 ∨ j = 4)) ∨ p = (o + 4)) → tm_g w77 p j = tm_g w p j := fun p j h => (hfw77 p j (by omega)).trans (hFw71 p j h)
          have z78 := (hfw77 o 7 (by omega)).trans z73
          have z79 := (hfw77 tp 4 (by omega)).trans (a_T_ft hGw71)
          have hGw77 := a_T_fr hGw71 (fun p j hp => hfw77 p j (by omega))
          have hRw77 := b_like hRw71 (by omega) (by omega) kkw77 (fun p j hp hn => hfw77 p j (by omega)) (by omega)
          exact ev_return dt_Rr_readLiking_51 rfl ⟨hWw77, rfl, ⟨hFw77, (b_rr_ok (by omega) (by omega) hGw77 hRw77 (by unfold bs_like; simp only [hxw54, hxw64, hxw71]; (congr 3; omega)))⟩⟩
