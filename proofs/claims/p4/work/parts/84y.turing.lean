set_option maxHeartbeats 4000000 in
set_option maxRecDepth 10000 in
theorem tz_Tu_ring {N : Nat} {T : Nat → tm_S} {w : ab_W} {f : Int → Int} {tu tp im md rl ac rr ma pl tr gu a b : Nat} (hW : tm_W N T w) (h_all : is_All T tu tp im md rl ac rr ma pl tr gu a b) (kn : tm_g w tu 1 = some (ab_R a)) (kt : tm_g w tu 2 = some (ab_R b)) (L : Int) (k_L : tm_g w tp 1 = some (ab_I L)) (hf : ∀ j, tm_g w (tp + 1) j = some (ab_I (f j))) (rd0 : Int → Int) : ab_Mt g_G g_rs mt_Tu_ring 10 0 0 [ab_R tu] w (tm_Qi N T (fun v w2 => (∀ (p : Nat) (j : Int), ¬ ((p = tp ∧ (j = 2 ∨ j = 5 ∨ j = 6 ∨ j = 7 ∨ j = 8 ∨ j = 4 ∨ j = 3 ∨ j = 1)) ∨ p = b ∨ p = (b + 1) ∨ p = (b + 2) ∨ p = (b + 3) ∨ p = (b + 4) ∨ p = (b + 5) ∨ p = (b + 6) ∨ p = (b + 7) ∨ p = (b + 8) ∨ (p = tu ∧ (j = 1 ∨ j = 2)) ∨ (p = ac ∧ (j = 3))) → tm_g w2 p j = tm_g w p j) ∧ ((-2147483648) ≤ v ∧ v ≤ 2147483647 ∧ ((∃ a2 b2 : Nat, (a2 = a ∧ b2 = b ∨ a2 = b ∧ b2 = a) ∧ tm_g w2 tu 1 = some (ab_R a2) ∧ tm_g w2 tu 2 = some (ab_R b2) ∧ tm_g w2 a2 6 = tm_g w a 6) ∧ tm_g w2 tp 1 = some (ab_I 0) ∧ v = b_ans (rs_all f L (rs_ini rd0 46)))))) := by
  obtain ⟨tut0, imt0, mdt0, rlt0, h_tp, h_ac, h_rr, h_ma, h_pl, h_tr, h_gu, h_a, h_b, e_all, e_ab⟩ := id h_all
  obtain ⟨tpt0, tpt1⟩ := id h_tp
  obtain ⟨act0, act1, act2, act3⟩ := id h_ac
  obtain ⟨rrt0, rrt1⟩ := id h_rr
  obtain ⟨mat0, mat1⟩ := id h_ma
  obtain ⟨plt0, plt1, plt2, plt3, plt4⟩ := id h_pl
  obtain ⟨trt0, trt1, trt2, trt3, trt4, trt5⟩ := id h_tr
  obtain ⟨gut0, gut1, gut2, gut3⟩ := id h_gu
  obtain ⟨at0, at1, at2, at3, at4, at5, at6, at7, at8, at9, at10, at11, at12⟩ := id h_a
  have ad := is_Ri.d h_a
  obtain ⟨bt0, bt1, bt2, bt3, bt4, bt5, bt6, bt7, bt8, bt9, bt10, bt11, bt12⟩ := id h_b
  have bd := is_Ri.d h_b
  have hF0 : ∀ (p : Nat) (j : Int), ¬ ((p = tp ∧ (j = 2 ∨ j = 5 ∨ j = 6 ∨ j = 7 ∨ j = 8 ∨ j = 4 ∨ j = 3 ∨ j = 1)) ∨ p = b ∨ p = (b + 1) ∨ p = (b + 2) ∨ p = (b + 3) ∨ p = (b + 4) ∨ p = (b + 5) ∨ p = (b + 6) ∨ p = (b + 7) ∨ p = (b + 8) ∨ (p = tu ∧ (j = 1 ∨ j = 2)) ∨ (p = ac ∧ (j = 3))) → tm_g w p j = tm_g w p j := fun _ _ _ => rfl
  refine ab_Mt.of rfl (Nat.le_of_ble_eq_true rfl) ?_
  show ab_Ev g_G g_rs mt_Tu_ring _ _ _ 0 [some (ab_R tu), none, none] [] _ _
  have b_L : 0 ≤ L ∧ L ≤ 400 := by obtain ⟨a, e, h0, h1⟩ := tm_peek (k := 1) (K := 1) hW tpt0 rfl rfl; rw [k_L] at e; injection e with e; injection e with e; omega
  refine ev_aload_n dt_Tu_ring_0 rfl rfl ?_
  refine tm_getR dt_Tu_ring_1 hW tut0 fl_Tu_10 rfl ?_
  refine ev_aload_n dt_Tu_ring_4 rfl rfl ?_
  refine tm_getK (K := 2) dt_Tu_ring_5 hW tut0 fl_Tu_23 rfl kt ?_
  refine tm_si dt_Tu_ring_8 (gr_Rr_readAll hW h_tp h_b (by omega) (L) k_L hf rd0) kb_Tu_90 sc_Rr_readAll hW rfl (Nat.le_of_ble_eq_true rfl) (by decide) (fun w1 v2 hWw1 hRw1 => ?_)
  obtain ⟨hfw1, hpw1⟩ := hRw1
  have hFw1 : ∀ (p : Nat) (j : Int), ¬ ((p = tp ∧ (j = 2 ∨ j = 5 ∨ j = 6 ∨ j = 7 ∨ j = 8 ∨ j = 4 ∨ j = 3 ∨ j = 1)) ∨ p = b ∨ p = (b + 1) ∨ p = (b + 2) ∨ p = (b + 3) ∨ p = (b + 4) ∨ p = (b + 5) ∨ p = (b + 6) ∨ p = (b + 7) ∨ p = (b + 8) ∨ (p = tu ∧ (j = 1 ∨ j = 2)) ∨ (p = ac ∧ (j = 3))) → tm_g w1 p j = tm_g w p j := fun p j h => (hfw1 p j (by omega)).trans (hF0 p j h)
  have z3 := (hfw1 tp 1 (by omega)).trans k_L
  have z4 := (hfw1 tu 1 (by omega)).trans kn
  have z5 := (hfw1 tu 2 (by omega)).trans kt
  refine ev_istore_n (l' := [_, _, _]) dt_Tu_ring_11 rfl (Nat.le_of_ble_eq_true rfl) rfl ?_
  refine ev_aload_n dt_Tu_ring_12 rfl rfl ?_
  refine tm_getR dt_Tu_ring_13 hWw1 tut0 fl_Tu_10 rfl ?_
  refine ev_iconst dt_Tu_ring_16 ?_
  refine tm_putI (K := 1) dt_Tu_ring_17 hWw1 tpt0 (fp_Tu_82 _) rfl rfl trivial (by omega) (by omega) (fun w6 hWw6 kkw6 hfw6 => ?_)
  have hFw6 : ∀ (p : Nat) (j : Int), ¬ ((p = tp ∧ (j = 2 ∨ j = 5 ∨ j = 6 ∨ j = 7 ∨ j = 8 ∨ j = 4 ∨ j = 3 ∨ j = 1)) ∨ p = b ∨ p = (b + 1) ∨ p = (b + 2) ∨ p = (b + 3) ∨ p = (b + 4) ∨ p = (b + 5) ∨ p = (b + 6) ∨ p = (b + 7) ∨ p = (b + 8) ∨ (p = tu ∧ (j = 1 ∨ j = 2)) ∨ (p = ac ∧ (j = 3))) → tm_g w6 p j = tm_g w p j := fun p j h => (hfw6 p j (by omega)).trans (hFw1 p j h)
  have z7 := (hfw6 tu 1 (by omega)).trans z4
  have z8 := (hfw6 tu 2 (by omega)).trans z5
  rcases hX : (rs_all f L (rs_ini rd0 46)) with e | rd
  · skip
    rw [hX] at hpw1
    obtain ⟨-, -, ev, le, ue⟩ := hpw1
    refine ev_iload_n dt_Tu_ring_20 rfl rfl ?_
    refine ev_if_eq (tgt := 29) dt_Tu_ring_21 (by decide) (by omega) (fun h9 => ?_) (fun h9 => ?_)
    · skip
      exfalso
      omega
    · skip
      refine ev_bipush dt_Tu_ring_24 rfl ?_
      refine ev_iload_n dt_Tu_ring_26 rfl rfl ?_
      refine ev_isub dt_Tu_ring_27 ?_
      exact ev_ireturn dt_Tu_ring_28 rfl ⟨hWw6, _, rfl, ⟨hFw6, ⟨by omega, by omega, ⟨a, b, Or.inl ⟨rfl, rfl⟩, z7, z8, hFw6 a 6 (by omega)⟩, kkw6, (by first | (show _ = -2 - e; omega) | (rw [hX]; show _ = -2 - e; omega))⟩⟩⟩
  · skip
    rw [hX] at hpw1
    obtain ⟨-, -, ev, hR, ktd⟩ := hpw1
    refine ev_iload_n dt_Tu_ring_20 rfl rfl ?_
    refine ev_if_eq (tgt := 29) dt_Tu_ring_21 (by decide) (by omega) (fun h10 => ?_) (fun h10 => ?_)
    · skip
      refine ev_aload_n dt_Tu_ring_29 rfl rfl ?_
      refine tm_getK (K := 2) dt_Tu_ring_30 hWw6 tut0 fl_Tu_23 rfl z8 ?_
      refine ev_aload_n dt_Tu_ring_33 rfl rfl ?_
      refine tm_getK (K := 1) dt_Tu_ring_34 hWw6 tut0 fl_Tu_19 rfl z7 ?_
      refine tm_getI (K := 6) dt_Tu_ring_37 hWw6 at0 fl_Tu_96 rfl rfl (fun v11 kv11 lv11 uv11 => ?_)
      have z12 := (hFw6 a 6 (by omega)).symm.trans kv11
      refine tm_putI (K := 6) dt_Tu_ring_40 hWw6 bt0 (fp_Tu_96 _) rfl rfl trivial (by omega) (by omega) (fun w13 hWw13 kkw13 hfw13 => ?_)
      have hFw13 : ∀ (p : Nat) (j : Int), ¬ ((p = tp ∧ (j = 2 ∨ j = 5 ∨ j = 6 ∨ j = 7 ∨ j = 8 ∨ j = 4 ∨ j = 3 ∨ j = 1)) ∨ p = b ∨ p = (b + 1) ∨ p = (b + 2) ∨ p = (b + 3) ∨ p = (b + 4) ∨ p = (b + 5) ∨ p = (b + 6) ∨ p = (b + 7) ∨ p = (b + 8) ∨ (p = tu ∧ (j = 1 ∨ j = 2)) ∨ (p = ac ∧ (j = 3))) → tm_g w13 p j = tm_g w p j := fun p j h => (hfw13 p j (by omega)).trans (hFw6 p j h)
      have z14 := (hfw13 tu 1 (by omega)).trans z7
      have z15 := (hfw13 tu 2 (by omega)).trans z8
      have z16 := (hfw13 tp 1 (by omega)).trans kkw6
      refine ev_aload_n dt_Tu_ring_43 rfl rfl ?_
      refine tm_getK (K := 1) dt_Tu_ring_44 hWw13 tut0 fl_Tu_19 rfl z14 ?_
      refine ev_astore_n (l' := [_, _, _]) dt_Tu_ring_47 rfl (Nat.le_of_ble_eq_true rfl) rfl ?_
      refine ev_aload_n dt_Tu_ring_48 rfl rfl ?_
      refine ev_aload_n dt_Tu_ring_49 rfl rfl ?_
      refine tm_getK (K := 2) dt_Tu_ring_50 hWw13 tut0 fl_Tu_23 rfl z15 ?_
      refine tm_putV (K := 1) dt_Tu_ring_53 hWw13 tut0 (fp_Tu_19 _) rfl rfl trivial (tm_rrb e_ab) (Or.inl (tm_ltN hW bt0)) (fun w17 hWw17 kkw17 hfw17 => ?_)
      have hFw17 : ∀ (p : Nat) (j : Int), ¬ ((p = tp ∧ (j = 2 ∨ j = 5 ∨ j = 6 ∨ j = 7 ∨ j = 8 ∨ j = 4 ∨ j = 3 ∨ j = 1)) ∨ p = b ∨ p = (b + 1) ∨ p = (b + 2) ∨ p = (b + 3) ∨ p = (b + 4) ∨ p = (b + 5) ∨ p = (b + 6) ∨ p = (b + 7) ∨ p = (b + 8) ∨ (p = tu ∧ (j = 1 ∨ j = 2)) ∨ (p = ac ∧ (j = 3))) → tm_g w17 p j = tm_g w p j := fun p j h => (hfw17 p j (by omega)).trans (hFw13 p j h)
      have z18 := (hfw17 tu 2 (by omega)).trans z15
      have z19 := (hfw17 tp 1 (by omega)).trans z16
      have z20 := (hfw17 b 6 (by omega)).trans kkw13
      refine ev_aload_n dt_Tu_ring_56 rfl rfl ?_
      refine ev_aload_n dt_Tu_ring_57 rfl rfl ?_
      refine tm_putV (K := 2) dt_Tu_ring_58 hWw17 tut0 (fp_Tu_23 _) rfl rfl trivial (tm_rra e_ab) (Or.inl (tm_ltN hW at0)) (fun w21 hWw21 kkw21 hfw21 => ?_)
      have hFw21 : ∀ (p : Nat) (j : Int), ¬ ((p = tp ∧ (j = 2 ∨ j = 5 ∨ j = 6 ∨ j = 7 ∨ j = 8 ∨ j = 4 ∨ j = 3 ∨ j = 1)) ∨ p = b ∨ p = (b + 1) ∨ p = (b + 2) ∨ p = (b + 3) ∨ p = (b + 4) ∨ p = (b + 5) ∨ p = (b + 6) ∨ p = (b + 7) ∨ p = (b + 8) ∨ (p = tu ∧ (j = 1 ∨ j = 2)) ∨ (p = ac ∧ (j = 3))) → tm_g w21 p j = tm_g w p j := fun p j h => (hfw21 p j (by omega)).trans (hFw17 p j h)
      have z22 := (hfw21 tp 1 (by omega)).trans z19
      have z23 := (hfw21 b 6 (by omega)).trans z20
      have z24 := (hfw21 tu 1 (by omega)).trans kkw17
      refine ev_aload_n dt_Tu_ring_61 rfl rfl ?_
      refine tm_getR dt_Tu_ring_62 hWw21 tut0 fl_Tu_43 rfl ?_
      refine tm_vv dt_Tu_ring_65 (tm_Ac_forget hWw21 h_ac) kb_Tu_99 ⟨im_Ac_forget, se_Ac_forget⟩ rfl hWw21 act0 rfl (Nat.le_of_ble_eq_true rfl) (by decide) (fun w25 hWw25 hRw25 => ?_)
      have hfw25 := hRw25
      have hFw25 : ∀ (p : Nat) (j : Int), ¬ ((p = tp ∧ (j = 2 ∨ j = 5 ∨ j = 6 ∨ j = 7 ∨ j = 8 ∨ j = 4 ∨ j = 3 ∨ j = 1)) ∨ p = b ∨ p = (b + 1) ∨ p = (b + 2) ∨ p = (b + 3) ∨ p = (b + 4) ∨ p = (b + 5) ∨ p = (b + 6) ∨ p = (b + 7) ∨ p = (b + 8) ∨ (p = tu ∧ (j = 1 ∨ j = 2)) ∨ (p = ac ∧ (j = 3))) → tm_g w25 p j = tm_g w p j := fun p j h => (hfw25 p j (by omega)).trans (hFw21 p j h)
      have z26 := (hfw25 tp 1 (by omega)).trans z22
      have z27 := (hfw25 b 6 (by omega)).trans z23
      have z28 := (hfw25 tu 1 (by omega)).trans z24
      have z29 := (hfw25 tu 2 (by omega)).trans kkw21
      refine ev_aload_n dt_Tu_ring_68 rfl rfl ?_
      refine tm_getK (K := 1) dt_Tu_ring_69 hWw25 tut0 fl_Tu_19 rfl z28 ?_
      have hh7 : tm_g w25 b 7 = some (ab_I (rd 1)) := ((hfw25 b 7 (by omega)).trans ((hfw21 b 7 (by omega)).trans ((hfw17 b 7 (by omega)).trans ((hfw13 b 7 (by omega)).trans ((hfw6 b 7 (by omega)).trans hR.1.2.2.2.2.2.1)))))
      have bh7 : 0 ≤ rd 1 ∧ rd 1 ≤ 7 := tm_kb (k := 7) (K := 7) hWw25 h_b.1 rfl rfl hh7
      refine tm_getK (K := 7) dt_Tu_ring_72 hWw25 bt0 fl_Tu_102 rfl hh7 ?_
      exact ev_ireturn dt_Tu_ring_75 rfl ⟨hWw25, _, rfl, ⟨hFw25, ⟨by omega, by omega, ⟨b, a, Or.inr ⟨rfl, rfl⟩, z28, z29, z27.trans z12.symm⟩, z26, (by first | rfl | (rw [hX]; rfl))⟩⟩⟩
    · skip
      exfalso
      omega
