set_option maxHeartbeats 4000000 in
set_option maxRecDepth 10000 in
theorem gb_Ri_addHouse {N : Nat} {T : Nat → tm_S} {w : ab_W} {rd : Int → Int} {o : Nat} (hW : tm_W N T w) (h_o : is_Ri T o) (a : Int) (l_a : 0 ≤ a) (u_a : a ≤ 11) (b : Int) (l_b : (-2147483648) ≤ b) (u_b : b ≤ 2147483647) (h : Int) (k_h : tm_g w o 7 = some (ab_I h)) (l_h : 0 ≤ h) (u_h : h ≤ 6) (hR : b_rel o rd w) (hh : rd 1 = h) : ab_Mt g_G g_rs mt_Ri_addHouse 0 0 0 [ab_R o, ab_I a, ab_I b] w (tm_Qv N T (fun w2 => (∀ (p : Nat) (j : Int), ¬ (p = (o + 1) ∨ p = (o + 2) ∨ p = (o + 3) ∨ (p = o ∧ (j = 7))) → tm_g w2 p j = tm_g w p j) ∧ (b_rel o (b_hrow rd h a b) w2))) := by
  obtain ⟨ot0, ot1, ot2, ot3, ot4, ot5, ot6, ot7, ot8, ot9, ot10, ot11, ot12⟩ := id h_o
  have od := is_Ri.d h_o
  have hF0 : ∀ (p : Nat) (j : Int), ¬ (p = (o + 1) ∨ p = (o + 2) ∨ p = (o + 3) ∨ (p = o ∧ (j = 7))) → tm_g w p j = tm_g w p j := fun _ _ _ => rfl
  refine ab_Mt.of rfl (Nat.le_of_ble_eq_true rfl) ?_
  show ab_Ev g_G g_rs mt_Ri_addHouse _ _ _ 0 [some (ab_R o), some (ab_I a), some (ab_I b)] [] _ _
  refine ev_aload_n dt_Ri_addHouse_0 rfl rfl ?_
  refine tm_getR dt_Ri_addHouse_1 hW ot0 fl_Ri_9 rfl ?_
  refine ev_aload_n dt_Ri_addHouse_4 rfl rfl ?_
  refine tm_getK (K := 7) dt_Ri_addHouse_5 hW ot0 fl_Ri_64 rfl k_h ?_
  refine ev_iload_n dt_Ri_addHouse_8 rfl rfl ?_
  refine tm_iastore dt_Ri_addHouse_9 hW ot1 (by omega) (by omega) (by omega) (by omega) (by omega) (fun w1 hWw1 kkw1 hfw1 => ?_)
  have hFw1 : ∀ (p : Nat) (j : Int), ¬ (p = (o + 1) ∨ p = (o + 2) ∨ p = (o + 3) ∨ (p = o ∧ (j = 7))) → tm_g w1 p j = tm_g w p j := fun p j h => (hfw1 p j (by omega)).trans (hF0 p j h)
  have z2 := (hfw1 o 7 (by omega)).trans k_h
  refine ev_aload_n dt_Ri_addHouse_10 rfl rfl ?_
  refine tm_getR dt_Ri_addHouse_11 hWw1 ot0 fl_Ri_15 rfl ?_
  refine ev_aload_n dt_Ri_addHouse_14 rfl rfl ?_
  refine tm_getK (K := 7) dt_Ri_addHouse_15 hWw1 ot0 fl_Ri_64 rfl z2 ?_
  refine ev_iload_n dt_Ri_addHouse_18 rfl rfl ?_
  refine tm_iastore dt_Ri_addHouse_19 hWw1 ot2 (by omega) (by omega) (by omega) (by omega) (by omega) (fun w3 hWw3 kkw3 hfw3 => ?_)
  have hFw3 : ∀ (p : Nat) (j : Int), ¬ (p = (o + 1) ∨ p = (o + 2) ∨ p = (o + 3) ∨ (p = o ∧ (j = 7))) → tm_g w3 p j = tm_g w p j := fun p j h => (hfw3 p j (by omega)).trans (hFw1 p j h)
  have z4 := (hfw3 o 7 (by omega)).trans z2
  refine ev_aload_n dt_Ri_addHouse_20 rfl rfl ?_
  refine tm_getR dt_Ri_addHouse_21 hWw3 ot0 fl_Ri_18 rfl ?_
  refine ev_aload_n dt_Ri_addHouse_24 rfl rfl ?_
  refine tm_getK (K := 7) dt_Ri_addHouse_25 hWw3 ot0 fl_Ri_64 rfl z4 ?_
  refine ev_iload_n dt_Ri_addHouse_28 rfl rfl ?_
  refine tm_iastore dt_Ri_addHouse_29 hWw3 ot3 (by omega) (by omega) (by omega) (by omega) (by omega) (fun w5 hWw5 kkw5 hfw5 => ?_)
  have hFw5 : ∀ (p : Nat) (j : Int), ¬ (p = (o + 1) ∨ p = (o + 2) ∨ p = (o + 3) ∨ (p = o ∧ (j = 7))) → tm_g w5 p j = tm_g w p j := fun p j h => (hfw5 p j (by omega)).trans (hFw3 p j h)
  have z6 := (hfw5 o 7 (by omega)).trans z4
  refine ev_aload_n dt_Ri_addHouse_30 rfl rfl ?_
  refine ev_dup dt_Ri_addHouse_31 rfl ?_
  refine tm_getK (K := 7) dt_Ri_addHouse_32 hWw5 ot0 fl_Ri_64 rfl z6 ?_
  refine ev_iconst dt_Ri_addHouse_35 ?_
  refine ev_iadd dt_Ri_addHouse_36 ?_
  refine tm_putI (K := 7) dt_Ri_addHouse_37 hWw5 ot0 (fp_Ri_64 _) rfl rfl trivial (by omega) (by omega) (fun w7 hWw7 kkw7 hfw7 => ?_)
  have hFw7 : ∀ (p : Nat) (j : Int), ¬ (p = (o + 1) ∨ p = (o + 2) ∨ p = (o + 3) ∨ (p = o ∧ (j = 7))) → tm_g w7 p j = tm_g w p j := fun p j h => (hfw7 p j (by omega)).trans (hFw5 p j h)
  exact ev_return dt_Ri_addHouse_40 rfl ⟨hWw7, rfl, ⟨hFw7, b_house hR hh (by omega) (by omega) ((hfw7 (o + 1) h (by omega)).trans ((hfw5 (o + 1) h (by omega)).trans ((hfw3 (o + 1) h (by omega)).trans kkw1))) ((hfw7 (o + 2) h (by omega)).trans ((hfw5 (o + 2) h (by omega)).trans kkw3)) ((hfw7 (o + 3) h (by omega)).trans kkw5) kkw7 (fun p j hp h1 h2 => ((hfw7 p j (by omega)).trans ((hfw5 p j (by omega)).trans ((hfw3 p j (by omega)).trans (hfw1 p j (by omega))))))⟩⟩
set_option maxHeartbeats 4000000 in
set_option maxRecDepth 10000 in
theorem gb_Ri_setRates {N : Nat} {T : Nat → tm_S} {w : ab_W} {rd : Int → Int} {o : Nat} (hW : tm_W N T w) (h_o : is_Ri T o) (a : Int) (l_a : 0 ≤ a) (u_a : a ≤ 23) (b : Int) (l_b : 0 ≤ b) (u_b : b ≤ 23) (c : Int) (l_c : (-2147483648) ≤ c) (u_c : c ≤ 2147483647) (hR : b_rel o rd w) (hab : a ≤ b) : ab_Mt g_G g_rs mt_Ri_setRates 0 0 0 [ab_R o, ab_I a, ab_I b, ab_I c] w (tm_Qv N T (fun w2 => (∀ (p : Nat) (j : Int), ¬ (p = (o + 6)) → tm_g w2 p j = tm_g w p j) ∧ (b_rel o (rs_fill rd (10 + a) c (b - a + 1).toNat) w2))) := by
  obtain ⟨ot0, ot1, ot2, ot3, ot4, ot5, ot6, ot7, ot8, ot9, ot10, ot11, ot12⟩ := id h_o
  have od := is_Ri.d h_o
  have hF0 : ∀ (p : Nat) (j : Int), ¬ (p = (o + 6)) → tm_g w p j = tm_g w p j := fun _ _ _ => rfl
  refine ab_Mt.of rfl (Nat.le_of_ble_eq_true rfl) ?_
  show ab_Ev g_G g_rs mt_Ri_setRates _ _ _ 0 [some (ab_R o), some (ab_I a), some (ab_I b), some (ab_I c), none] [] _ _
  refine ev_iload_n dt_Ri_setRates_0 rfl rfl ?_
  refine ev_istore (l' := [_, _, _, _, _]) dt_Ri_setRates_1 (Nat.le_of_ble_eq_true rfl) rfl ?_
  have L8 : ∀ (n : Nat) (i9 : Int)  (w10 : ab_W), tm_W N T w10 → (∀ (p : Nat) (j : Int), ¬ (p = (o + 6)) → tm_g w10 p j = tm_g w p j) → 0 ≤ i9 → i9 ≤ 24 → (a ≤ i9) → (i9 ≤ b + 1) → (b_rel o (rs_fill rd (10 + a) c (i9 - a).toNat) w10) → 24 - i9 < (n : Int) → ab_Ev g_G g_rs mt_Ri_setRates 0 0 0 3 [some (ab_R o), none, some (ab_I b), some (ab_I c), some (ab_I i9)] [] w10 (tm_Qv N T (fun w2 => (∀ (p : Nat) (j : Int), ¬ (p = (o + 6)) → tm_g w2 p j = tm_g w p j) ∧ (b_rel o (rs_fill rd (10 + a) c (b - a + 1).toNat) w2))) := by
    intro n
    induction n with
    | zero =>
      intro i9  w10 hWw10 hFw10 li9 ui9 q0L8 q1L8 q2L8 mL8
      exfalso
      omega
    | succ nL8 ihL8 =>
      intro i9  w10 hWw10 hFw10 li9 ui9 q0L8 q1L8 q2L8 mL8
      refine ev_iload dt_Ri_setRates_3 rfl ?_
      refine ev_iload_n dt_Ri_setRates_5 rfl rfl ?_
      refine ev_icmp_gt (tgt := 23) dt_Ri_setRates_6 (by decide) (by omega) (by omega) (fun h11 => ?_) (fun h11 => ?_)
      · skip
        exact ev_return dt_Ri_setRates_23 rfl ⟨hWw10, rfl, ⟨hFw10, (by have z := q2L8; rw [show (i9 - a).toNat = (b - a + 1).toNat by omega] at z; exact z)⟩⟩
      · skip
        refine ev_aload_n dt_Ri_setRates_9 rfl rfl ?_
        refine tm_getR dt_Ri_setRates_10 hWw10 ot0 fl_Ri_28 rfl ?_
        refine ev_iload dt_Ri_setRates_13 rfl ?_
        refine ev_iload_n dt_Ri_setRates_15 rfl rfl ?_
        refine tm_iastore dt_Ri_setRates_16 hWw10 ot6 (by omega) (by omega) (by omega) (by omega) (by omega) (fun w12 hWw12 kkw12 hfw12 => ?_)
        have hFw12 : ∀ (p : Nat) (j : Int), ¬ (p = (o + 6)) → tm_g w12 p j = tm_g w p j := fun p j h => (hfw12 p j (by omega)).trans (hFw10 p j h)
        refine ev_iinc (l' := [_, _, _, _, _]) dt_Ri_setRates_17 rfl rfl ?_
        refine ev_goto (tgt := 3) dt_Ri_setRates_20 (by decide) ?_
        exact tm_loc (tm_le_s (tm_le_n (tm_le_s (tm_le_s (tm_le_s tm_le_0))))) (ihL8 ((i9 + 1)) w12 hWw12 hFw12 (by omega) (by omega) (by omega) (by omega) (b_rates_s q2L8 (by omega) (by omega) (by omega) kkw12 (fun p j hp hn => hfw12 p j (by omega))) (by omega))
  exact tm_loc (tm_le_s (tm_le_n (tm_le_s (tm_le_s (tm_le_s tm_le_0))))) (L8 (24 - (a) + 1 : Int).toNat (a)  w hW hF0 (by omega) (by omega) (by omega) (by omega) (by rw [show ((a) - a).toNat = 0 by omega]; exact hR) (by omega))
set_option maxHeartbeats 4000000 in
set_option maxRecDepth 10000 in
theorem gb_Ri_addSight {N : Nat} {T : Nat → tm_S} {w : ab_W} {rd : Int → Int} {o : Nat} (hW : tm_W N T w) (h_o : is_Ri T o) (a : Int) (l_a : 0 ≤ a) (u_a : a ≤ 4) (b : Int) (l_b : 0 ≤ b) (u_b : b ≤ 11) (c : Int) (l_c : 0 ≤ c) (u_c : c ≤ 23) (e : Int) (l_e : 0 ≤ e) (u_e : e ≤ 23) (hR : b_rel o rd w) (hs : 0 ≤ rd 2 ∧ rd 2 ≤ 11) (hce : c ≤ e) : ab_Mt g_G g_rs mt_Ri_addSight 0 0 0 [ab_R o, ab_I a, ab_I b, ab_I c, ab_I e] w (tm_Qv N T (fun w2 => (∀ (p : Nat) (j : Int), ¬ (p = (o + 5) ∨ (p = o ∧ (j = 8))) → tm_g w2 p j = tm_g w p j) ∧ (b_rel o (b_srow rd a b c e) w2))) := by
  have hR7 := hR.1.2.2.2.2.2.1
  have hR8 := hR.1.2.2.2.2.2.2.1
  have hR9 := hR.1.2.2.2.2.2.2.2
  have bR7 : 0 ≤ rd 1 ∧ rd 1 ≤ 7 := tm_kb (k := 7) (K := 7) hW h_o.1 rfl rfl hR7
  have bR8 : -2147483648 ≤ rd 2 ∧ rd 2 ≤ 2147483647 := tm_kb (k := 8) (K := 8) hW h_o.1 rfl rfl hR8
  have bR9 : -2147483648 ≤ rd 3 ∧ rd 3 ≤ 2147483647 := tm_kb (k := 9) (K := 9) hW h_o.1 rfl rfl hR9
  obtain ⟨V, hV⟩ := tm_alV hW h_o.2.2.2.2.2.1
  obtain ⟨ot0, ot1, ot2, ot3, ot4, ot5, ot6, ot7, ot8, ot9, ot10, ot11, ot12⟩ := id h_o
  have od := is_Ri.d h_o
  have hF0 : ∀ (p : Nat) (j : Int), ¬ (p = (o + 5) ∨ (p = o ∧ (j = 8))) → tm_g w p j = tm_g w p j := fun _ _ _ => rfl
  refine ab_Mt.of rfl (Nat.le_of_ble_eq_true rfl) ?_
  show ab_Ev g_G g_rs mt_Ri_addSight _ _ _ 0 [some (ab_R o), some (ab_I a), some (ab_I b), some (ab_I c), some (ab_I e), none] [] _ _
  refine ev_iload_n dt_Ri_addSight_0 rfl rfl ?_
  refine ev_istore (l' := [_, _, _, _, _, _]) dt_Ri_addSight_1 (Nat.le_of_ble_eq_true rfl) rfl ?_
  have L13 : ∀ (n : Nat) (i14 : Int)  (w15 : ab_W), tm_W N T w15 → (∀ (p : Nat) (j : Int), ¬ (p = (o + 5) ∨ (p = o ∧ (j = 8))) → tm_g w15 p j = tm_g w p j) → 0 ≤ i14 → i14 ≤ 24 → (tm_g w15 o 8 = some (ab_I (rd 2))) → (∀ (p : Nat) (j : Int), ¬ p = o + 5 → tm_g w15 p j = tm_g w p j) → (∀ j : Int, tm_g w15 (o + 5) j = some (ab_J (if c ≤ j ∧ j < i14 then V j ||| (Int64.ofInt 1 <<< ((Int32.ofInt (b * 5 + a)).toInt64 &&& 63)) else V j))) → (c ≤ i14) → (i14 ≤ e + 1) → 24 - i14 < (n : Int) → ab_Ev g_G g_rs mt_Ri_addSight 0 0 0 3 [some (ab_R o), some (ab_I a), some (ab_I b), none, some (ab_I e), some (ab_I i14)] [] w15 (tm_Qv N T (fun w2 => (∀ (p : Nat) (j : Int), ¬ (p = (o + 5) ∨ (p = o ∧ (j = 8))) → tm_g w2 p j = tm_g w p j) ∧ (b_rel o (b_srow rd a b c e) w2))) := by
    intro n
    induction n with
    | zero =>
      intro i14  w15 hWw15 hFw15 li14 ui14 q0L13 q1L13 q2L13 q3L13 q4L13 mL13
      exfalso
      omega
    | succ nL13 ihL13 =>
      intro i14  w15 hWw15 hFw15 li14 ui14 q0L13 q1L13 q2L13 q3L13 q4L13 mL13
      refine ev_iload dt_Ri_addSight_3 rfl ?_
      refine ev_iload dt_Ri_addSight_5 rfl ?_
      refine ev_icmp_gt (tgt := 33) dt_Ri_addSight_7 (by decide) (by omega) (by omega) (fun h16 => ?_) (fun h16 => ?_)
      · skip
        refine ev_aload_n dt_Ri_addSight_33 rfl rfl ?_
        refine ev_dup dt_Ri_addSight_34 rfl ?_
        refine tm_getK (K := 8) dt_Ri_addSight_35 hWw15 ot0 fl_Ri_67 rfl q0L13 ?_
        refine ev_iconst dt_Ri_addSight_38 ?_
        refine ev_iadd dt_Ri_addSight_39 ?_
        refine tm_putI (K := 8) dt_Ri_addSight_40 hWw15 ot0 (fp_Ri_67 _) rfl rfl trivial (by omega) (by omega) (fun w17 hWw17 kkw17 hfw17 => ?_)
        have hFw17 : ∀ (p : Nat) (j : Int), ¬ (p = (o + 5) ∨ (p = o ∧ (j = 8))) → tm_g w17 p j = tm_g w p j := fun p j h => (hfw17 p j (by omega)).trans (hFw15 p j h)
        exact ev_return dt_Ri_addSight_43 rfl ⟨hWw17, rfl, ⟨hFw17, b_sights hR rfl (by omega) kkw17 (fun p j hp h1 h2 => (hfw17 p j (by omega)).trans (q1L13 p j h2)) (fun k h2 h3 => (ab_upn _ _ h2).trans ((ab_upn _ _ (by omega)).trans ((ab_upn _ _ (by omega)).trans ((ab_upn _ _ (by omega)).trans (ab_upn _ _ (by omega)))))) (ab_upe _ _ _) (by omega) (b_vw_s hR.2.2.2.2.2.2 hs (by omega) (by omega) (by omega) (by omega) hV (fun j => ((hfw17 (o + 5) j (by omega)).trans (q2L13 j)).trans (congrArg (fun z => some (ab_J z)) (by by_cases y : c ≤ j ∧ j ≤ e; (rw [if_pos y, if_pos (by omega)]); (rw [if_neg y, if_neg (by omega)])))))⟩⟩
      · skip
        refine ev_aload_n dt_Ri_addSight_10 rfl rfl ?_
        refine tm_getR dt_Ri_addSight_11 hWw15 ot0 fl_Ri_24 rfl ?_
        refine ev_iload dt_Ri_addSight_14 rfl ?_
        refine ev_dup2 dt_Ri_addSight_16 rfl rfl ?_
        have hv17 : tm_g w15 (o + 5) i14 = some (ab_J (V i14)) := by rw [q2L13 i14, if_neg (by omega)]
        refine tm_laloadK dt_Ri_addSight_17 hWw15 ot5 (by omega) (by omega) (by omega) hv17 ?_
        refine ev_lconsti (n := 1) dt_Ri_addSight_18 (by decide) ?_
        refine ev_iload_n dt_Ri_addSight_19 rfl rfl ?_
        refine ev_iconst dt_Ri_addSight_20 ?_
        refine ev_imul dt_Ri_addSight_21 ?_
        refine ev_iload_n dt_Ri_addSight_22 rfl rfl ?_
        refine ev_iadd dt_Ri_addSight_23 ?_
        refine ev_lshl dt_Ri_addSight_24 ?_
        refine ev_lor dt_Ri_addSight_25 ?_
        refine tm_lastoreK dt_Ri_addSight_26 hWw15 ot5 (by omega) (by omega) (by omega) (fun w18 hWw18 kkw18 hfw18 => ?_)
        have hFw18 : ∀ (p : Nat) (j : Int), ¬ (p = (o + 5) ∨ (p = o ∧ (j = 8))) → tm_g w18 p j = tm_g w p j := fun p j h => (hfw18 p j (by omega)).trans (hFw15 p j h)
        refine ev_iinc (l' := [_, _, _, _, _, _]) dt_Ri_addSight_27 rfl rfl ?_
        refine ev_goto (tgt := 3) dt_Ri_addSight_30 (by decide) ?_
        exact tm_loc (tm_le_s (tm_le_s (tm_le_s (tm_le_n (tm_le_s (tm_le_s tm_le_0)))))) (ihL13 ((i14 + 1)) w18 hWw18 hFw18 (by omega) (by omega) ((hfw18 o 8 (by omega)).trans q0L13) (fun p j h => (hfw18 p j (by omega)).trans (q1L13 p j h)) (b_vs q2L13 kkw18 hfw18 (by omega)) (by omega) (by omega) (by omega))
  exact tm_loc (tm_le_s (tm_le_s (tm_le_s (tm_le_n (tm_le_s (tm_le_s tm_le_0)))))) (L13 (24 - (c) + 1 : Int).toNat (c)  w hW hF0 (by omega) (by omega) hR8 (fun _ _ _ => rfl) (fun j => by rw [if_neg (by omega)]; exact hV j) (by omega) (by omega) (by omega))
set_option maxHeartbeats 4000000 in
set_option maxRecDepth 10000 in
theorem gb_Ri_slotTaken {N : Nat} {T : Nat → tm_S} {w : ab_W} {rd : Int → Int} {o : Nat} (hW : tm_W N T w) (h_o : is_Ri T o) (a : Int) (l_a : (-2147483648) ≤ a) (u_a : a ≤ 2147483647) (hR : b_rel o rd w) : ab_Mt g_G g_rs mt_Ri_slotTaken 0 0 0 [ab_R o, ab_I a] w (tm_P w (fun v => 0 ≤ v ∧ v ≤ 1 ∧ (v = (if rs_dup rd (rd 1) a = true then 1 else 0) ∧ (v = 1 → 0 ≤ a ∧ a ≤ 11)))) := by
  have hR7 := hR.1.2.2.2.2.2.1
  have hR8 := hR.1.2.2.2.2.2.2.1
  have hR9 := hR.1.2.2.2.2.2.2.2
  have bR7 : 0 ≤ rd 1 ∧ rd 1 ≤ 7 := tm_kb (k := 7) (K := 7) hW h_o.1 rfl rfl hR7
  have bR8 : -2147483648 ≤ rd 2 ∧ rd 2 ≤ 2147483647 := tm_kb (k := 8) (K := 8) hW h_o.1 rfl rfl hR8
  have bR9 : -2147483648 ≤ rd 3 ∧ rd 3 ≤ 2147483647 := tm_kb (k := 9) (K := 9) hW h_o.1 rfl rfl hR9
  obtain ⟨ot0, ot1, ot2, ot3, ot4, ot5, ot6, ot7, ot8, ot9, ot10, ot11, ot12⟩ := id h_o
  have od := is_Ri.d h_o
  refine ab_Mt.of rfl (Nat.le_of_ble_eq_true rfl) ?_
  show ab_Ev g_G g_rs mt_Ri_slotTaken _ _ _ 0 [some (ab_R o), some (ab_I a), none] [] _ _
  refine ev_iconst dt_Ri_slotTaken_0 ?_
  refine ev_istore_n (l' := [_, _, _]) dt_Ri_slotTaken_1 rfl (Nat.le_of_ble_eq_true rfl) rfl ?_
  have L19 : ∀ (n : Nat) (i20 : Int) , 0 ≤ i20 → i20 ≤ 7 → (∀ k : Nat, (k : Int) < i20 → rd (46 + (k : Int)) ≠ a) → 7 - i20 < (n : Int) → ab_Ev g_G g_rs mt_Ri_slotTaken 0 0 0 2 [some (ab_R o), some (ab_I a), some (ab_I i20)] [] w (tm_P w (fun v => 0 ≤ v ∧ v ≤ 1 ∧ (v = (if rs_dup rd (rd 1) a = true then 1 else 0) ∧ (v = 1 → 0 ≤ a ∧ a ≤ 11)))) := by
    intro n
    induction n with
    | zero =>
      intro i20  li20 ui20 q0L19 mL19
      exfalso
      omega
    | succ nL19 ihL19 =>
      intro i20  li20 ui20 q0L19 mL19
      refine ev_iload_n dt_Ri_slotTaken_2 rfl rfl ?_
      refine ev_aload_n dt_Ri_slotTaken_3 rfl rfl ?_
      refine tm_getK (K := 7) dt_Ri_slotTaken_4 hW ot0 fl_Ri_64 rfl hR7 ?_
      refine ev_icmp_ge (tgt := 28) dt_Ri_slotTaken_7 (by decide) (by omega) (by omega) (fun h21 => ?_) (fun h21 => ?_)
      · skip
        refine ev_iconst dt_Ri_slotTaken_28 ?_
        exact ev_zreturn dt_Ri_slotTaken_29 rfl (by omega) ⟨rfl, _, rfl, by omega, by omega, (by first | (have z : rs_dup rd (rd 1) a = true := rs_dup_t (k := (i20).toNat) (by omega) (by rw [show ((i20).toNat : Int) = i20 by omega]; omega); rw [if_pos z]) | (have z : rs_dup rd (rd 1) a = false := rs_dup_f (fun k hk => q0L19 k (by omega)); rw [if_neg (by rw [z]; decide)])), by omega⟩
      · skip
        refine ev_aload_n dt_Ri_slotTaken_10 rfl rfl ?_
        refine tm_getR dt_Ri_slotTaken_11 hW ot0 fl_Ri_9 rfl ?_
        refine ev_iload_n dt_Ri_slotTaken_14 rfl rfl ?_
        have ab22 := tm_ab hW ot1 (hR.2.1 i20 (by omega) (by omega)).1
        refine tm_iaK dt_Ri_slotTaken_15 hW ot1 (by omega) (by omega) (by omega) (hR.2.1 i20 (by omega) (by omega)).1 ?_
        refine ev_iload_n dt_Ri_slotTaken_16 rfl rfl ?_
        refine ev_icmp_ne (tgt := 22) dt_Ri_slotTaken_17 (by decide) (by omega) (by omega) (fun h23 => ?_) (fun h23 => ?_)
        · skip
          refine ev_iinc (l' := [_, _, _]) dt_Ri_slotTaken_22 rfl rfl ?_
          refine ev_goto (tgt := 2) dt_Ri_slotTaken_25 (by decide) ?_
          exact tm_loc (tm_le_s (tm_le_s (tm_le_s tm_le_0))) (ihL19 ((i20 + 1)) (by omega) (by omega) (fun k hk => by by_cases z : (k : Int) = i20; (rw [z]; omega); exact q0L19 k (by omega)) (by omega))
        · skip
          refine ev_iconst dt_Ri_slotTaken_20 ?_
          exact ev_zreturn dt_Ri_slotTaken_21 rfl (by omega) ⟨rfl, _, rfl, by omega, by omega, (by first | (have z : rs_dup rd (rd 1) a = true := rs_dup_t (k := (i20).toNat) (by omega) (by rw [show ((i20).toNat : Int) = i20 by omega]; omega); rw [if_pos z]) | (have z : rs_dup rd (rd 1) a = false := rs_dup_f (fun k hk => q0L19 k (by omega)); rw [if_neg (by rw [z]; decide)])), by omega⟩
  exact tm_loc (tm_le_s (tm_le_s (tm_le_s tm_le_0))) (L19 (7 - (0) + 1 : Int).toNat (0)  (by omega) (by omega) (fun k hk => by exfalso; omega) (by omega))
set_option maxHeartbeats 4000000 in
set_option maxRecDepth 10000 in
theorem gb_Rr_mayFollow {N : Nat} {T : Nat → tm_S} {w : ab_W} {rd : Int → Int} {o : Nat} (hW : tm_W N T w) (h_o : is_Ri T o) (a : Int) (l_a : (-2147483648) ≤ a) (u_a : a ≤ 2147483647) (b : Int) (l_b : (-2147483648) ≤ b) (u_b : b ≤ 2147483647) (hR : b_rel o rd w) : ab_Mt g_G g_rs mt_Rr_mayFollow 0 0 0 [ab_R o, ab_I a, ab_I b] w (tm_P w (fun v => 0 ≤ v ∧ v ≤ 1 ∧ (v = b_may (rd 1) (rd 2) a b))) := by
  have hR7 := hR.1.2.2.2.2.2.1
  have hR8 := hR.1.2.2.2.2.2.2.1
  have hR9 := hR.1.2.2.2.2.2.2.2
  have bR7 : 0 ≤ rd 1 ∧ rd 1 ≤ 7 := tm_kb (k := 7) (K := 7) hW h_o.1 rfl rfl hR7
  have bR8 : -2147483648 ≤ rd 2 ∧ rd 2 ≤ 2147483647 := tm_kb (k := 8) (K := 8) hW h_o.1 rfl rfl hR8
  have bR9 : -2147483648 ≤ rd 3 ∧ rd 3 ≤ 2147483647 := tm_kb (k := 9) (K := 9) hW h_o.1 rfl rfl hR9
  obtain ⟨ot0, ot1, ot2, ot3, ot4, ot5, ot6, ot7, ot8, ot9, ot10, ot11, ot12⟩ := id h_o
  have od := is_Ri.d h_o
  refine ab_Mt.of rfl (Nat.le_of_ble_eq_true rfl) ?_
  show ab_Ev g_G g_rs mt_Rr_mayFollow _ _ _ 0 [some (ab_R o), some (ab_I a), some (ab_I b)] [] _ _
  refine ev_iload_n dt_Rr_mayFollow_0 rfl rfl ?_
  refine ev_iconst dt_Rr_mayFollow_1 ?_
  refine ev_icmp_ne (tgt := 14) dt_Rr_mayFollow_2 (by decide) (by omega) (by omega) (fun h24 => ?_) (fun h24 => ?_)
  · skip
    refine ev_iload_n dt_Rr_mayFollow_14 rfl rfl ?_
    refine ev_iconst dt_Rr_mayFollow_15 ?_
    refine ev_icmp_ne (tgt := 30) dt_Rr_mayFollow_16 (by decide) (by omega) (by omega) (fun h25 => ?_) (fun h25 => ?_)
    · skip
      refine ev_iload_n dt_Rr_mayFollow_30 rfl rfl ?_
      refine ev_if_ne (tgt := 38) dt_Rr_mayFollow_31 (by decide) (by omega) (fun h26 => ?_) (fun h26 => ?_)
      · skip
        refine ev_iconst dt_Rr_mayFollow_38 ?_
        refine ev_iload_n dt_Rr_mayFollow_39 rfl rfl ?_
        refine ev_if_ne (tgt := 47) dt_Rr_mayFollow_40 (by decide) (by omega) (fun h27 => ?_) (fun h27 => ?_)
        · skip
          refine ev_iconst dt_Rr_mayFollow_47 ?_
          refine ev_icmp_ne (tgt := 55) dt_Rr_mayFollow_48 (by decide) (by omega) (by omega) (fun h28 => ?_) (fun h28 => ?_)
          · skip
            exfalso
            omega
          · skip
            refine ev_iconst dt_Rr_mayFollow_51 ?_
            refine ev_goto (tgt := 56) dt_Rr_mayFollow_52 (by decide) ?_
            exact ev_zreturn dt_Rr_mayFollow_56 rfl (by omega) ⟨rfl, _, rfl, by omega, by omega, (by unfold b_may; (repeat' split) <;> omega)⟩
        · skip
          refine ev_iconst dt_Rr_mayFollow_43 ?_
          refine ev_goto (tgt := 48) dt_Rr_mayFollow_44 (by decide) ?_
          refine ev_icmp_ne (tgt := 55) dt_Rr_mayFollow_48 (by decide) (by omega) (by omega) (fun h29 => ?_) (fun h29 => ?_)
          · skip
            refine ev_iconst dt_Rr_mayFollow_55 ?_
            exact ev_zreturn dt_Rr_mayFollow_56 rfl (by omega) ⟨rfl, _, rfl, by omega, by omega, (by unfold b_may; (repeat' split) <;> omega)⟩
          · skip
            exfalso
            omega
      · skip
        refine ev_iconst dt_Rr_mayFollow_34 ?_
        refine ev_goto (tgt := 39) dt_Rr_mayFollow_35 (by decide) ?_
        refine ev_iload_n dt_Rr_mayFollow_39 rfl rfl ?_
        refine ev_if_ne (tgt := 47) dt_Rr_mayFollow_40 (by decide) (by omega) (fun h30 => ?_) (fun h30 => ?_)
        · skip
          refine ev_iconst dt_Rr_mayFollow_47 ?_
          refine ev_icmp_ne (tgt := 55) dt_Rr_mayFollow_48 (by decide) (by omega) (by omega) (fun h31 => ?_) (fun h31 => ?_)
          · skip
            refine ev_iconst dt_Rr_mayFollow_55 ?_
            exact ev_zreturn dt_Rr_mayFollow_56 rfl (by omega) ⟨rfl, _, rfl, by omega, by omega, (by unfold b_may; (repeat' split) <;> omega)⟩
          · skip
            exfalso
            omega
        · skip
          refine ev_iconst dt_Rr_mayFollow_43 ?_
          refine ev_goto (tgt := 48) dt_Rr_mayFollow_44 (by decide) ?_
          refine ev_icmp_ne (tgt := 55) dt_Rr_mayFollow_48 (by decide) (by omega) (by omega) (fun h32 => ?_) (fun h32 => ?_)
          · skip
            exfalso
            omega
          · skip
            refine ev_iconst dt_Rr_mayFollow_51 ?_
            refine ev_goto (tgt := 56) dt_Rr_mayFollow_52 (by decide) ?_
            exact ev_zreturn dt_Rr_mayFollow_56 rfl (by omega) ⟨rfl, _, rfl, by omega, by omega, (by unfold b_may; (repeat' split) <;> omega)⟩
    · skip
      refine ev_aload_n dt_Rr_mayFollow_19 rfl rfl ?_
      refine tm_getK (K := 8) dt_Rr_mayFollow_20 hW ot0 fl_Rr_56 rfl hR8 ?_
      refine ev_bipush dt_Rr_mayFollow_23 rfl ?_
      refine ev_icmp_ne (tgt := 30) dt_Rr_mayFollow_25 (by decide) (by omega) (by omega) (fun h33 => ?_) (fun h33 => ?_)
      · skip
        refine ev_iload_n dt_Rr_mayFollow_30 rfl rfl ?_
        refine ev_if_ne (tgt := 38) dt_Rr_mayFollow_31 (by decide) (by omega) (fun h34 => ?_) (fun h34 => ?_)
        · skip
          refine ev_iconst dt_Rr_mayFollow_38 ?_
          refine ev_iload_n dt_Rr_mayFollow_39 rfl rfl ?_
          refine ev_if_ne (tgt := 47) dt_Rr_mayFollow_40 (by decide) (by omega) (fun h35 => ?_) (fun h35 => ?_)
          · skip
            refine ev_iconst dt_Rr_mayFollow_47 ?_
            refine ev_icmp_ne (tgt := 55) dt_Rr_mayFollow_48 (by decide) (by omega) (by omega) (fun h36 => ?_) (fun h36 => ?_)
            · skip
              exfalso
              omega
            · skip
              refine ev_iconst dt_Rr_mayFollow_51 ?_
              refine ev_goto (tgt := 56) dt_Rr_mayFollow_52 (by decide) ?_
              exact ev_zreturn dt_Rr_mayFollow_56 rfl (by omega) ⟨rfl, _, rfl, by omega, by omega, (by unfold b_may; (repeat' split) <;> omega)⟩
          · skip
            refine ev_iconst dt_Rr_mayFollow_43 ?_
            refine ev_goto (tgt := 48) dt_Rr_mayFollow_44 (by decide) ?_
            refine ev_icmp_ne (tgt := 55) dt_Rr_mayFollow_48 (by decide) (by omega) (by omega) (fun h37 => ?_) (fun h37 => ?_)
            · skip
              refine ev_iconst dt_Rr_mayFollow_55 ?_
              exact ev_zreturn dt_Rr_mayFollow_56 rfl (by omega) ⟨rfl, _, rfl, by omega, by omega, (by unfold b_may; (repeat' split) <;> omega)⟩
            · skip
              exfalso
              omega
        · skip
          exfalso
          omega
      · skip
        refine ev_iconst dt_Rr_mayFollow_28 ?_
        exact ev_zreturn dt_Rr_mayFollow_29 rfl (by omega) ⟨rfl, _, rfl, by omega, by omega, (by unfold b_may; (repeat' split) <;> omega)⟩
  · skip
    refine ev_aload_n dt_Rr_mayFollow_5 rfl rfl ?_
    refine tm_getK (K := 7) dt_Rr_mayFollow_6 hW ot0 fl_Rr_53 rfl hR7 ?_
    refine ev_bipush dt_Rr_mayFollow_9 rfl ?_
    refine ev_icmp_eq (tgt := 28) dt_Rr_mayFollow_11 (by decide) (by omega) (by omega) (fun h38 => ?_) (fun h38 => ?_)
    · skip
      refine ev_iconst dt_Rr_mayFollow_28 ?_
      exact ev_zreturn dt_Rr_mayFollow_29 rfl (by omega) ⟨rfl, _, rfl, by omega, by omega, (by unfold b_may; (repeat' split) <;> omega)⟩
    · skip
      refine ev_iload_n dt_Rr_mayFollow_14 rfl rfl ?_
      refine ev_iconst dt_Rr_mayFollow_15 ?_
      refine ev_icmp_ne (tgt := 30) dt_Rr_mayFollow_16 (by decide) (by omega) (by omega) (fun h39 => ?_) (fun h39 => ?_)
      · skip
        refine ev_iload_n dt_Rr_mayFollow_30 rfl rfl ?_
        refine ev_if_ne (tgt := 38) dt_Rr_mayFollow_31 (by decide) (by omega) (fun h40 => ?_) (fun h40 => ?_)
        · skip
          refine ev_iconst dt_Rr_mayFollow_38 ?_
          refine ev_iload_n dt_Rr_mayFollow_39 rfl rfl ?_
          refine ev_if_ne (tgt := 47) dt_Rr_mayFollow_40 (by decide) (by omega) (fun h41 => ?_) (fun h41 => ?_)
          · skip
            refine ev_iconst dt_Rr_mayFollow_47 ?_
            refine ev_icmp_ne (tgt := 55) dt_Rr_mayFollow_48 (by decide) (by omega) (by omega) (fun h42 => ?_) (fun h42 => ?_)
            · skip
              exfalso
              omega
            · skip
              refine ev_iconst dt_Rr_mayFollow_51 ?_
              refine ev_goto (tgt := 56) dt_Rr_mayFollow_52 (by decide) ?_
              exact ev_zreturn dt_Rr_mayFollow_56 rfl (by omega) ⟨rfl, _, rfl, by omega, by omega, (by unfold b_may; (repeat' split) <;> omega)⟩
          · skip
            refine ev_iconst dt_Rr_mayFollow_43 ?_
            refine ev_goto (tgt := 48) dt_Rr_mayFollow_44 (by decide) ?_
            refine ev_icmp_ne (tgt := 55) dt_Rr_mayFollow_48 (by decide) (by omega) (by omega) (fun h43 => ?_) (fun h43 => ?_)
            · skip
              refine ev_iconst dt_Rr_mayFollow_55 ?_
              exact ev_zreturn dt_Rr_mayFollow_56 rfl (by omega) ⟨rfl, _, rfl, by omega, by omega, (by unfold b_may; (repeat' split) <;> omega)⟩
            · skip
              exfalso
              omega
        · skip
          exfalso
          omega
      · skip
        exfalso
        omega
