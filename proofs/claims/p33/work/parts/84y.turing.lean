/-- how it stands behind ring() -/
def b_end (w w2 : ab_W) (tu ac a b : Nat) : Except Int (Int → Int) → Prop
  | .error _ => tm_g w2 tu 1 = some (ab_R a) ∧ tm_g w2 ac 3 = tm_g w ac 3
  | .ok rd => tm_g w2 tu 1 = some (ab_R b) ∧ tm_g w2 ac 3 = some (ab_I 0) ∧ b_rel b rd w2 ∧ tm_g w2 b 0 = some (ab_I 1) ∧ tm_g w2 b 6 = tm_g w a 6 ∧ rd 0 = 1
set_option maxHeartbeats 4000000 in
set_option maxRecDepth 10000 in
theorem tq_Ac_forget {N : Nat} {T : Nat → tm_S} {w : ab_W} {ac : Nat} (hW : tm_W N T w) (h_ac : is_Ac T ac) : ab_Mt g_G g_rs mt_Ac_forget 0 0 0 [ab_R ac] w (tm_Qv N T (fun w2 => (∀ (p : Nat) (j : Int), ¬ ((p = ac ∧ (j = 3))) → tm_g w2 p j = tm_g w p j) ∧ (tm_g w2 ac 3 = some (ab_I 0)))) := by
  obtain ⟨act0, act1, act2, act3⟩ := id h_ac
  have hF0 : ∀ (p : Nat) (j : Int), ¬ ((p = ac ∧ (j = 3))) → tm_g w p j = tm_g w p j := fun _ _ _ => rfl
  refine ab_Mt.of rfl (Nat.le_of_ble_eq_true rfl) ?_
  show ab_Ev g_G g_rs mt_Ac_forget _ _ _ 0 [some (ab_R ac)] [] _ _
  refine ev_aload_n dt_Ac_forget_0 rfl rfl ?_
  refine ev_iconst dt_Ac_forget_1 ?_
  refine tm_putI (K := 3) dt_Ac_forget_2 hW act0 (fp_Ac_19 _) rfl rfl trivial (by omega) (by omega) (fun w1 hWw1 kkw1 hfw1 => ?_)
  have hFw1 : ∀ (p : Nat) (j : Int), ¬ ((p = ac ∧ (j = 3))) → tm_g w1 p j = tm_g w p j := fun p j h => (hfw1 p j (by omega)).trans (hF0 p j h)
  exact ev_return dt_Ac_forget_5 rfl ⟨hWw1, rfl, ⟨hFw1, kkw1⟩⟩
set_option maxHeartbeats 4000000 in
set_option maxRecDepth 10000 in
theorem tz_Tu_ring {N : Nat} {T : Nat → tm_S} {w : ab_W} {f : Int → Int} {tu tp im md rl ac rr ma pl tr gu a b : Nat} (hW : tm_W N T w) (h_all : is_All T tu tp im md rl ac rr ma pl tr gu a b) (kn : tm_g w tu 1 = some (ab_R a)) (kt : tm_g w tu 2 = some (ab_R b)) (L : Int) (k_L : tm_g w tp 1 = some (ab_I L)) (hf : ∀ j, tm_g w (tp + 1) j = some (ab_I (f j))) (rd0 : Int → Int) : ab_Mt g_G g_rs mt_Tu_ring 10 0 0 [ab_R tu] w (tm_Qi N T (fun v w2 => (∀ (p : Nat) (j : Int), ¬ ((p = tp ∧ (j = 2 ∨ j = 5 ∨ j = 6 ∨ j = 7 ∨ j = 8 ∨ j = 4 ∨ j = 3 ∨ j = 1)) ∨ p = b ∨ p = (b + 1) ∨ p = (b + 2) ∨ p = (b + 3) ∨ p = (b + 4) ∨ p = (b + 5) ∨ p = (b + 6) ∨ p = (b + 7) ∨ p = (b + 8) ∨ (p = tu ∧ (j = 1 ∨ j = 2)) ∨ (p = ac ∧ (j = 3))) → tm_g w2 p j = tm_g w p j) ∧ ((-2147483648) ≤ v ∧ v ≤ 2147483647 ∧ ((∃ a2 b2 : Nat, (a2 = a ∧ b2 = b ∨ a2 = b ∧ b2 = a) ∧ tm_g w2 tu 1 = some (ab_R a2) ∧ tm_g w2 tu 2 = some (ab_R b2) ∧ tm_g w2 a2 6 = tm_g w a 6) ∧ tm_g w2 tp 1 = some (ab_I 0) ∧ v = b_ans (rs_all f L (rs_ini rd0 46)) ∧ b_end w w2 tu ac a b (rs_all f L (rs_ini rd0 46)))))) := by
  obtain ⟨tut0, imt0, mdt0, rlt0, h_tp, h_ac, h_rr, h_ma, hzz⟩ := id h_all
  obtain ⟨h_pl, h_tr, h_gu, h_a, h_b, e_all, e_ab⟩ := hzz
  obtain ⟨tpt0, tpt1⟩ := id h_tp
  obtain ⟨act0, act1, act2, act3⟩ := id h_ac
  obtain ⟨rrt0, rrt1⟩ := id h_rr
  obtain ⟨mat0, mat1⟩ := id h_ma
  obtain ⟨plt0, plt1, plt2, plt3, plt4⟩ := id h_pl
  obtain ⟨trt0, trt1, trt2, trt3, trt4, trt5⟩ := id h_tr
  obtain ⟨gut0, gut1, gut2, gut3⟩ := id h_gu
  obtain ⟨at0, at1, at2, at3, at4, at5, at6, at7, at8, at9, at10, at11, at12⟩ := id h_a
  have ad := is_Ri.d h_a
  obtain ⟨bt0, bt1, bt2, bt3, bt4, bt5, bt6, bt7, bt8, bt9, bt10, bt11, bt12⟩ := id h_b
  have bd := is_Ri.d h_b
  have hF0 : ∀ (p : Nat) (j : Int), ¬ ((p = tp ∧ (j = 2 ∨ j = 5 ∨ j = 6 ∨ j = 7 ∨ j = 8 ∨ j = 4 ∨ j = 3 ∨ j = 1)) ∨ p = b ∨ p = (b + 1) ∨ p = (b + 2) ∨ p = (b + 3) ∨ p = (b + 4) ∨ p = (b + 5) ∨ p = (b + 6) ∨ p = (b + 7) ∨ p = (b + 8) ∨ (p = tu ∧ (j = 1 ∨ j = 2)) ∨ (p = ac ∧ (j = 3))) → tm_g w p j = tm_g w p j := fun _ _ _ => rfl
  refine ab_Mt.of rfl (Nat.le_of_ble_eq_true rfl) ?_
  show ab_Ev g_G g_rs mt_Tu_ring _ _ _ 0 [some (ab_R tu), none, none] [] _ _
  have b_L : 0 ≤ L ∧ L ≤ 400 := by obtain ⟨a, e, h0, h1⟩ := tm_peek (k := 1) (K := 1) hW tpt0 rfl rfl; rw [k_L] at e; injection e with e; injection e with e; omega
  refine ev_aload_n dt_Tu_ring_0 rfl rfl ?_
  refine tm_getR dt_Tu_ring_1 hW tut0 fl_Tu_10 rfl ?_
  refine ev_aload_n dt_Tu_ring_4 rfl rfl ?_
  refine tm_getK (K := 2) dt_Tu_ring_5 hW tut0 fl_Tu_23 rfl kt ?_
  refine tm_si dt_Tu_ring_8 (gr_Rr_readAll hW h_tp h_b (by omega) (L) k_L hf rd0) kb_Tu_90 sc_Rr_readAll hW rfl (Nat.le_of_ble_eq_true rfl) (by decide) (fun w2 v3 hWw2 hRw2 => ?_)
  obtain ⟨hfw2, hpw2⟩ := hRw2
  have hFw2 : ∀ (p : Nat) (j : Int), ¬ ((p = tp ∧ (j = 2 ∨ j = 5 ∨ j = 6 ∨ j = 7 ∨ j = 8 ∨ j = 4 ∨ j = 3 ∨ j = 1)) ∨ p = b ∨ p = (b + 1) ∨ p = (b + 2) ∨ p = (b + 3) ∨ p = (b + 4) ∨ p = (b + 5) ∨ p = (b + 6) ∨ p = (b + 7) ∨ p = (b + 8) ∨ (p = tu ∧ (j = 1 ∨ j = 2)) ∨ (p = ac ∧ (j = 3))) → tm_g w2 p j = tm_g w p j := fun p j h => (hfw2 p j (by omega)).trans (hF0 p j h)
  have z4 := (hfw2 tp 1 (by omega)).trans k_L
  have z5 := (hfw2 tu 1 (by omega)).trans kn
  have z6 := (hfw2 tu 2 (by omega)).trans kt
  refine ev_istore_n (l' := [_, _, _]) dt_Tu_ring_11 rfl (Nat.le_of_ble_eq_true rfl) rfl ?_
  refine ev_aload_n dt_Tu_ring_12 rfl rfl ?_
  refine tm_getR dt_Tu_ring_13 hWw2 tut0 fl_Tu_10 rfl ?_
  refine ev_iconst dt_Tu_ring_16 ?_
  refine tm_putI (K := 1) dt_Tu_ring_17 hWw2 tpt0 (fp_Tu_82 _) rfl rfl trivial (by omega) (by omega) (fun w7 hWw7 kkw7 hfw7 => ?_)
  have hFw7 : ∀ (p : Nat) (j : Int), ¬ ((p = tp ∧ (j = 2 ∨ j = 5 ∨ j = 6 ∨ j = 7 ∨ j = 8 ∨ j = 4 ∨ j = 3 ∨ j = 1)) ∨ p = b ∨ p = (b + 1) ∨ p = (b + 2) ∨ p = (b + 3) ∨ p = (b + 4) ∨ p = (b + 5) ∨ p = (b + 6) ∨ p = (b + 7) ∨ p = (b + 8) ∨ (p = tu ∧ (j = 1 ∨ j = 2)) ∨ (p = ac ∧ (j = 3))) → tm_g w7 p j = tm_g w p j := fun p j h => (hfw7 p j (by omega)).trans (hFw2 p j h)
  have z8 := (hfw7 tu 1 (by omega)).trans z5
  have z9 := (hfw7 tu 2 (by omega)).trans z6
  rcases hX : (rs_all f L (rs_ini rd0 46)) with e | rd
  · skip
    rw [hX] at hpw2
    obtain ⟨-, -, ev, le, ue⟩ := hpw2
    refine ev_iload_n dt_Tu_ring_20 rfl rfl ?_
    refine ev_if_eq (tgt := 29) dt_Tu_ring_21 (by decide) (by omega) (fun h10 => ?_) (fun h10 => ?_)
    · skip
      exfalso
      omega
    · skip
      refine ev_bipush dt_Tu_ring_24 rfl ?_
      refine ev_iload_n dt_Tu_ring_26 rfl rfl ?_
      refine ev_isub dt_Tu_ring_27 ?_
      exact ev_ireturn dt_Tu_ring_28 rfl ⟨hWw7, _, rfl, ⟨hFw7, ⟨by omega, by omega, ⟨a, b, Or.inl ⟨rfl, rfl⟩, z8, z9, hFw7 a 6 (by omega)⟩, kkw7, (by first | (show _ = -2 - e; omega) | (rw [hX]; show _ = -2 - e; omega)), (by first | exact (show b_end w w7 tu ac a b (Except.error e) from ⟨z8, ((hfw7 ac 3 (by omega)).trans ((hfw2 ac 3 (by omega)).trans rfl))⟩) | (rw [hX]; exact (show b_end w w7 tu ac a b (Except.error e) from ⟨z8, ((hfw7 ac 3 (by omega)).trans ((hfw2 ac 3 (by omega)).trans rfl))⟩)))⟩⟩⟩
  · skip
    rw [hX] at hpw2
    obtain ⟨-, -, ev, hR, ktd, hrd0⟩ := hpw2
    refine ev_iload_n dt_Tu_ring_20 rfl rfl ?_
    refine ev_if_eq (tgt := 29) dt_Tu_ring_21 (by decide) (by omega) (fun h11 => ?_) (fun h11 => ?_)
    · skip
      refine ev_aload_n dt_Tu_ring_29 rfl rfl ?_
      refine tm_getK (K := 2) dt_Tu_ring_30 hWw7 tut0 fl_Tu_23 rfl z9 ?_
      refine ev_aload_n dt_Tu_ring_33 rfl rfl ?_
      refine tm_getK (K := 1) dt_Tu_ring_34 hWw7 tut0 fl_Tu_19 rfl z8 ?_
      refine tm_getI (K := 6) dt_Tu_ring_37 hWw7 at0 fl_Tu_96 rfl rfl (fun v12 kv12 lv12 uv12 => ?_)
      have z13 := (hFw7 a 6 (by omega)).symm.trans kv12
      refine tm_putI (K := 6) dt_Tu_ring_40 hWw7 bt0 (fp_Tu_96 _) rfl rfl trivial (by omega) (by omega) (fun w14 hWw14 kkw14 hfw14 => ?_)
      have hFw14 : ∀ (p : Nat) (j : Int), ¬ ((p = tp ∧ (j = 2 ∨ j = 5 ∨ j = 6 ∨ j = 7 ∨ j = 8 ∨ j = 4 ∨ j = 3 ∨ j = 1)) ∨ p = b ∨ p = (b + 1) ∨ p = (b + 2) ∨ p = (b + 3) ∨ p = (b + 4) ∨ p = (b + 5) ∨ p = (b + 6) ∨ p = (b + 7) ∨ p = (b + 8) ∨ (p = tu ∧ (j = 1 ∨ j = 2)) ∨ (p = ac ∧ (j = 3))) → tm_g w14 p j = tm_g w p j := fun p j h => (hfw14 p j (by omega)).trans (hFw7 p j h)
      have z15 := (hfw14 tu 1 (by omega)).trans z8
      have z16 := (hfw14 tu 2 (by omega)).trans z9
      have z17 := (hfw14 tp 1 (by omega)).trans kkw7
      refine ev_aload_n dt_Tu_ring_43 rfl rfl ?_
      refine tm_getK (K := 1) dt_Tu_ring_44 hWw14 tut0 fl_Tu_19 rfl z15 ?_
      refine ev_astore_n (l' := [_, _, _]) dt_Tu_ring_47 rfl (Nat.le_of_ble_eq_true rfl) rfl ?_
      refine ev_aload_n dt_Tu_ring_48 rfl rfl ?_
      refine ev_aload_n dt_Tu_ring_49 rfl rfl ?_
      refine tm_getK (K := 2) dt_Tu_ring_50 hWw14 tut0 fl_Tu_23 rfl z16 ?_
      refine tm_putV (K := 1) dt_Tu_ring_53 hWw14 tut0 (fp_Tu_19 _) rfl rfl trivial (tm_rrb e_ab) (Or.inl (tm_ltN hW bt0)) (fun w18 hWw18 kkw18 hfw18 => ?_)
      have hFw18 : ∀ (p : Nat) (j : Int), ¬ ((p = tp ∧ (j = 2 ∨ j = 5 ∨ j = 6 ∨ j = 7 ∨ j = 8 ∨ j = 4 ∨ j = 3 ∨ j = 1)) ∨ p = b ∨ p = (b + 1) ∨ p = (b + 2) ∨ p = (b + 3) ∨ p = (b + 4) ∨ p = (b + 5) ∨ p = (b + 6) ∨ p = (b + 7) ∨ p = (b + 8) ∨ (p = tu ∧ (j = 1 ∨ j = 2)) ∨ (p = ac ∧ (j = 3))) → tm_g w18 p j = tm_g w p j := fun p j h => (hfw18 p j (by omega)).trans (hFw14 p j h)
      have z19 := (hfw18 tu 2 (by omega)).trans z16
      have z20 := (hfw18 tp 1 (by omega)).trans z17
      have z21 := (hfw18 b 6 (by omega)).trans kkw14
      refine ev_aload_n dt_Tu_ring_56 rfl rfl ?_
      refine ev_aload_n dt_Tu_ring_57 rfl rfl ?_
      refine tm_putV (K := 2) dt_Tu_ring_58 hWw18 tut0 (fp_Tu_23 _) rfl rfl trivial (tm_rra e_ab) (Or.inl (tm_ltN hW at0)) (fun w22 hWw22 kkw22 hfw22 => ?_)
      have hFw22 : ∀ (p : Nat) (j : Int), ¬ ((p = tp ∧ (j = 2 ∨ j = 5 ∨ j = 6 ∨ j = 7 ∨ j = 8 ∨ j = 4 ∨ j = 3 ∨ j = 1)) ∨ p = b ∨ p = (b + 1) ∨ p = (b + 2) ∨ p = (b + 3) ∨ p = (b + 4) ∨ p = (b + 5) ∨ p = (b + 6) ∨ p = (b + 7) ∨ p = (b + 8) ∨ (p = tu ∧ (j = 1 ∨ j = 2)) ∨ (p = ac ∧ (j = 3))) → tm_g w22 p j = tm_g w p j := fun p j h => (hfw22 p j (by omega)).trans (hFw18 p j h)
      have z23 := (hfw22 tp 1 (by omega)).trans z20
      have z24 := (hfw22 b 6 (by omega)).trans z21
      have z25 := (hfw22 tu 1 (by omega)).trans kkw18
      refine ev_aload_n dt_Tu_ring_61 rfl rfl ?_
      refine tm_getR dt_Tu_ring_62 hWw22 tut0 fl_Tu_43 rfl ?_
      refine tm_vv dt_Tu_ring_65 (tq_Ac_forget hWw22 h_ac) kb_Tu_99 ⟨im_Ac_forget, se_Ac_forget⟩ rfl hWw22 act0 rfl (Nat.le_of_ble_eq_true rfl) (by decide) (fun w26 hWw26 hRw26 => ?_)
      obtain ⟨hfw26, hpw26⟩ := hRw26
      have hFw26 : ∀ (p : Nat) (j : Int), ¬ ((p = tp ∧ (j = 2 ∨ j = 5 ∨ j = 6 ∨ j = 7 ∨ j = 8 ∨ j = 4 ∨ j = 3 ∨ j = 1)) ∨ p = b ∨ p = (b + 1) ∨ p = (b + 2) ∨ p = (b + 3) ∨ p = (b + 4) ∨ p = (b + 5) ∨ p = (b + 6) ∨ p = (b + 7) ∨ p = (b + 8) ∨ (p = tu ∧ (j = 1 ∨ j = 2)) ∨ (p = ac ∧ (j = 3))) → tm_g w26 p j = tm_g w p j := fun p j h => (hfw26 p j (by omega)).trans (hFw22 p j h)
      have z27 := (hfw26 tp 1 (by omega)).trans z23
      have z28 := (hfw26 b 6 (by omega)).trans z24
      have z29 := (hfw26 tu 1 (by omega)).trans z25
      have z30 := (hfw26 tu 2 (by omega)).trans kkw22
      refine ev_aload_n dt_Tu_ring_68 rfl rfl ?_
      refine tm_getK (K := 1) dt_Tu_ring_69 hWw26 tut0 fl_Tu_19 rfl z29 ?_
      have hh7 : tm_g w26 b 7 = some (ab_I (rd 1)) := ((hfw26 b 7 (by omega)).trans ((hfw22 b 7 (by omega)).trans ((hfw18 b 7 (by omega)).trans ((hfw14 b 7 (by omega)).trans ((hfw7 b 7 (by omega)).trans hR.1.2.2.2.2.2.1)))))
      have bh7 : 0 ≤ rd 1 ∧ rd 1 ≤ 7 := tm_kb (k := 7) (K := 7) hWw26 h_b.1 rfl rfl hh7
      refine tm_getK (K := 7) dt_Tu_ring_72 hWw26 bt0 fl_Tu_102 rfl hh7 ?_
      exact ev_ireturn dt_Tu_ring_75 rfl ⟨hWw26, _, rfl, ⟨hFw26, ⟨by omega, by omega, ⟨b, a, Or.inr ⟨rfl, rfl⟩, z29, z30, z28.trans z13.symm⟩, z27, (by first | rfl | (rw [hX]; rfl)), (by first | exact (show b_end w w26 tu ac a b (Except.ok rd) from ⟨z29, hpw26, b_rel_f0 hR (fun p j hp hn => ((hfw26 p j (by omega)).trans ((hfw22 p j (by omega)).trans ((hfw18 p j (by omega)).trans ((hfw14 p j (by omega)).trans ((hfw7 p j (by omega)).trans rfl)))))), ((hfw26 b 0 (by omega)).trans ((hfw22 b 0 (by omega)).trans ((hfw18 b 0 (by omega)).trans ((hfw14 b 0 (by omega)).trans ((hfw7 b 0 (by omega)).trans ktd))))), (z28).trans z13.symm, hrd0⟩) | (rw [hX]; exact (show b_end w w26 tu ac a b (Except.ok rd) from ⟨z29, hpw26, b_rel_f0 hR (fun p j hp hn => ((hfw26 p j (by omega)).trans ((hfw22 p j (by omega)).trans ((hfw18 p j (by omega)).trans ((hfw14 p j (by omega)).trans ((hfw7 p j (by omega)).trans rfl)))))), ((hfw26 b 0 (by omega)).trans ((hfw22 b 0 (by omega)).trans ((hfw18 b 0 (by omega)).trans ((hfw14 b 0 (by omega)).trans ((hfw7 b 0 (by omega)).trans ktd))))), (z28).trans z13.symm, hrd0⟩)))⟩⟩⟩
    · skip
      exfalso
      omega
