set_option maxHeartbeats 4000000 in
set_option maxRecDepth 10000 in
theorem gb_Ri_clear {N : Nat} {T : Nat → tm_S} {w : ab_W} {o : Nat} (hW : tm_W N T w) (h_o : is_Ri T o) : ab_Mt g_G g_rs mt_Ri_clear 1 0 0 [ab_R o] w (tm_Qv N T (fun w2 => (∀ (p : Nat) (j : Int), ¬ (p = o ∨ p = (o + 4) ∨ p = (o + 5) ∨ p = (o + 6) ∨ p = (o + 7) ∨ p = (o + 8)) → tm_g w2 p j = tm_g w p j) ∧ (∀ rd : Int → Int, b_rel o (rs_ini rd 46) w2))) := by
  obtain ⟨ot0, ot1, ot2, ot3, ot4, ot5, ot6, ot7, ot8, ot9, ot10, ot11, ot12⟩ := id h_o
  have od := is_Ri.d h_o
  have hF0 : ∀ (p : Nat) (j : Int), ¬ (p = o ∨ p = (o + 4) ∨ p = (o + 5) ∨ p = (o + 6) ∨ p = (o + 7) ∨ p = (o + 8)) → tm_g w p j = tm_g w p j := fun _ _ _ => rfl
  refine ab_Mt.of rfl (Nat.le_of_ble_eq_true rfl) ?_
  show ab_Ev g_G g_rs mt_Ri_clear _ _ _ 0 [some (ab_R o)] [] _ _
  refine ev_aload_n dt_Ri_clear_0 rfl rfl ?_
  refine ev_iconst dt_Ri_clear_1 ?_
  refine tm_putI (K := 0) dt_Ri_clear_2 hW ot0 (fp_Ri_41 _) rfl rfl (by have h0 := True; first | (show _ = _ ∨ _ = _; omega) | omega) (by omega) (by omega) (fun w1 hWw1 kkw1 hfw1 => ?_)
  have hFw1 : ∀ (p : Nat) (j : Int), ¬ (p = o ∨ p = (o + 4) ∨ p = (o + 5) ∨ p = (o + 6) ∨ p = (o + 7) ∨ p = (o + 8)) → tm_g w1 p j = tm_g w p j := fun p j h => (hfw1 p j (by omega)).trans (hF0 p j h)
  refine ev_aload_n dt_Ri_clear_5 rfl rfl ?_
  refine ev_iconst dt_Ri_clear_6 ?_
  refine tm_putI (K := 1) dt_Ri_clear_7 hWw1 ot0 (fp_Ri_45 _) rfl rfl trivial (by omega) (by omega) (fun w2 hWw2 kkw2 hfw2 => ?_)
  have hFw2 : ∀ (p : Nat) (j : Int), ¬ (p = o ∨ p = (o + 4) ∨ p = (o + 5) ∨ p = (o + 6) ∨ p = (o + 7) ∨ p = (o + 8)) → tm_g w2 p j = tm_g w p j := fun p j h => (hfw2 p j (by omega)).trans (hFw1 p j h)
  have z3 := (hfw2 o 0 (by omega)).trans kkw1
  refine ev_aload_n dt_Ri_clear_10 rfl rfl ?_
  refine ev_iconst dt_Ri_clear_11 ?_
  refine tm_putI (K := 2) dt_Ri_clear_12 hWw2 ot0 (fp_Ri_49 _) rfl rfl trivial (by omega) (by omega) (fun w4 hWw4 kkw4 hfw4 => ?_)
  have hFw4 : ∀ (p : Nat) (j : Int), ¬ (p = o ∨ p = (o + 4) ∨ p = (o + 5) ∨ p = (o + 6) ∨ p = (o + 7) ∨ p = (o + 8)) → tm_g w4 p j = tm_g w p j := fun p j h => (hfw4 p j (by omega)).trans (hFw2 p j h)
  have z5 := (hfw4 o 0 (by omega)).trans z3
  have z6 := (hfw4 o 1 (by omega)).trans kkw2
  refine ev_aload_n dt_Ri_clear_15 rfl rfl ?_
  refine ev_iconst dt_Ri_clear_16 ?_
  refine tm_putI (K := 3) dt_Ri_clear_17 hWw4 ot0 (fp_Ri_52 _) rfl rfl trivial (by omega) (by omega) (fun w7 hWw7 kkw7 hfw7 => ?_)
  have hFw7 : ∀ (p : Nat) (j : Int), ¬ (p = o ∨ p = (o + 4) ∨ p = (o + 5) ∨ p = (o + 6) ∨ p = (o + 7) ∨ p = (o + 8)) → tm_g w7 p j = tm_g w p j := fun p j h => (hfw7 p j (by omega)).trans (hFw4 p j h)
  have z8 := (hfw7 o 0 (by omega)).trans z5
  have z9 := (hfw7 o 1 (by omega)).trans z6
  have z10 := (hfw7 o 2 (by omega)).trans kkw4
  refine ev_aload_n dt_Ri_clear_20 rfl rfl ?_
  refine ev_iconst dt_Ri_clear_21 ?_
  refine tm_putI (K := 4) dt_Ri_clear_22 hWw7 ot0 (fp_Ri_55 _) rfl rfl (by have h0 := True; first | (show _ = _ ∨ _ = _; omega) | omega) (by omega) (by omega) (fun w11 hWw11 kkw11 hfw11 => ?_)
  have hFw11 : ∀ (p : Nat) (j : Int), ¬ (p = o ∨ p = (o + 4) ∨ p = (o + 5) ∨ p = (o + 6) ∨ p = (o + 7) ∨ p = (o + 8)) → tm_g w11 p j = tm_g w p j := fun p j h => (hfw11 p j (by omega)).trans (hFw7 p j h)
  have z12 := (hfw11 o 0 (by omega)).trans z8
  have z13 := (hfw11 o 1 (by omega)).trans z9
  have z14 := (hfw11 o 2 (by omega)).trans z10
  have z15 := (hfw11 o 3 (by omega)).trans kkw7
  refine ev_aload_n dt_Ri_clear_25 rfl rfl ?_
  refine ev_iconst dt_Ri_clear_26 ?_
  refine tm_putI (K := 5) dt_Ri_clear_27 hWw11 ot0 (fp_Ri_58 _) rfl rfl trivial (by omega) (by omega) (fun w16 hWw16 kkw16 hfw16 => ?_)
  have hFw16 : ∀ (p : Nat) (j : Int), ¬ (p = o ∨ p = (o + 4) ∨ p = (o + 5) ∨ p = (o + 6) ∨ p = (o + 7) ∨ p = (o + 8)) → tm_g w16 p j = tm_g w p j := fun p j h => (hfw16 p j (by omega)).trans (hFw11 p j h)
  have z17 := (hfw16 o 0 (by omega)).trans z12
  have z18 := (hfw16 o 1 (by omega)).trans z13
  have z19 := (hfw16 o 2 (by omega)).trans z14
  have z20 := (hfw16 o 3 (by omega)).trans z15
  have z21 := (hfw16 o 4 (by omega)).trans kkw11
  refine ev_aload_n dt_Ri_clear_30 rfl rfl ?_
  refine ev_iconst dt_Ri_clear_31 ?_
  refine tm_putI (K := 6) dt_Ri_clear_32 hWw16 ot0 (fp_Ri_61 _) rfl rfl trivial (by omega) (by omega) (fun w22 hWw22 kkw22 hfw22 => ?_)
  have hFw22 : ∀ (p : Nat) (j : Int), ¬ (p = o ∨ p = (o + 4) ∨ p = (o + 5) ∨ p = (o + 6) ∨ p = (o + 7) ∨ p = (o + 8)) → tm_g w22 p j = tm_g w p j := fun p j h => (hfw22 p j (by omega)).trans (hFw16 p j h)
  have z23 := (hfw22 o 0 (by omega)).trans z17
  have z24 := (hfw22 o 1 (by omega)).trans z18
  have z25 := (hfw22 o 2 (by omega)).trans z19
  have z26 := (hfw22 o 3 (by omega)).trans z20
  have z27 := (hfw22 o 4 (by omega)).trans z21
  have z28 := (hfw22 o 5 (by omega)).trans kkw16
  refine ev_aload_n dt_Ri_clear_35 rfl rfl ?_
  refine ev_iconst dt_Ri_clear_36 ?_
  refine tm_putI (K := 7) dt_Ri_clear_37 hWw22 ot0 (fp_Ri_64 _) rfl rfl trivial (by omega) (by omega) (fun w29 hWw29 kkw29 hfw29 => ?_)
  have hFw29 : ∀ (p : Nat) (j : Int), ¬ (p = o ∨ p = (o + 4) ∨ p = (o + 5) ∨ p = (o + 6) ∨ p = (o + 7) ∨ p = (o + 8)) → tm_g w29 p j = tm_g w p j := fun p j h => (hfw29 p j (by omega)).trans (hFw22 p j h)
  have z30 := (hfw29 o 0 (by omega)).trans z23
  have z31 := (hfw29 o 1 (by omega)).trans z24
  have z32 := (hfw29 o 2 (by omega)).trans z25
  have z33 := (hfw29 o 3 (by omega)).trans z26
  have z34 := (hfw29 o 4 (by omega)).trans z27
  have z35 := (hfw29 o 5 (by omega)).trans z28
  have z36 := (hfw29 o 6 (by omega)).trans kkw22
  refine ev_aload_n dt_Ri_clear_40 rfl rfl ?_
  refine ev_iconst dt_Ri_clear_41 ?_
  refine tm_putI (K := 8) dt_Ri_clear_42 hWw29 ot0 (fp_Ri_67 _) rfl rfl trivial (by omega) (by omega) (fun w37 hWw37 kkw37 hfw37 => ?_)
  have hFw37 : ∀ (p : Nat) (j : Int), ¬ (p = o ∨ p = (o + 4) ∨ p = (o + 5) ∨ p = (o + 6) ∨ p = (o + 7) ∨ p = (o + 8)) → tm_g w37 p j = tm_g w p j := fun p j h => (hfw37 p j (by omega)).trans (hFw29 p j h)
  have z38 := (hfw37 o 0 (by omega)).trans z30
  have z39 := (hfw37 o 1 (by omega)).trans z31
  have z40 := (hfw37 o 2 (by omega)).trans z32
  have z41 := (hfw37 o 3 (by omega)).trans z33
  have z42 := (hfw37 o 4 (by omega)).trans z34
  have z43 := (hfw37 o 5 (by omega)).trans z35
  have z44 := (hfw37 o 6 (by omega)).trans z36
  have z45 := (hfw37 o 7 (by omega)).trans kkw29
  refine ev_aload_n dt_Ri_clear_45 rfl rfl ?_
  refine ev_iconst dt_Ri_clear_46 ?_
  refine tm_putI (K := 9) dt_Ri_clear_47 hWw37 ot0 (fp_Ri_70 _) rfl rfl trivial (by omega) (by omega) (fun w46 hWw46 kkw46 hfw46 => ?_)
  have hFw46 : ∀ (p : Nat) (j : Int), ¬ (p = o ∨ p = (o + 4) ∨ p = (o + 5) ∨ p = (o + 6) ∨ p = (o + 7) ∨ p = (o + 8)) → tm_g w46 p j = tm_g w p j := fun p j h => (hfw46 p j (by omega)).trans (hFw37 p j h)
  have z47 := (hfw46 o 0 (by omega)).trans z38
  have z48 := (hfw46 o 1 (by omega)).trans z39
  have z49 := (hfw46 o 2 (by omega)).trans z40
  have z50 := (hfw46 o 3 (by omega)).trans z41
  have z51 := (hfw46 o 4 (by omega)).trans z42
  have z52 := (hfw46 o 5 (by omega)).trans z43
  have z53 := (hfw46 o 6 (by omega)).trans z44
  have z54 := (hfw46 o 7 (by omega)).trans z45
  have z55 := (hfw46 o 8 (by omega)).trans kkw37
  refine ev_aload_n dt_Ri_clear_50 rfl rfl ?_
  refine tm_getR dt_Ri_clear_51 hWw46 ot0 fl_Ri_21 rfl ?_
  refine ev_iconst dt_Ri_clear_54 ?_
  refine tm_sv dt_Ri_clear_55 (tm_fillIK hWw46 ot4 (by decide) 0 (by omega) (by omega)) kb_Ri_73 sc_Ar_fill_AIIV hWw46 rfl (Nat.le_of_ble_eq_true rfl) (by decide) (fun w56 hWw56 hSw56 => ?_)
  obtain ⟨hfw56, kfw56⟩ := hSw56
  have hFw56 : ∀ (p : Nat) (j : Int), ¬ (p = o ∨ p = (o + 4) ∨ p = (o + 5) ∨ p = (o + 6) ∨ p = (o + 7) ∨ p = (o + 8)) → tm_g w56 p j = tm_g w p j := fun p j h => (hfw56 p j (by omega)).trans (hFw46 p j h)
  have z57 := (hfw56 o 0 (by omega)).trans z47
  have z58 := (hfw56 o 1 (by omega)).trans z48
  have z59 := (hfw56 o 2 (by omega)).trans z49
  have z60 := (hfw56 o 3 (by omega)).trans z50
  have z61 := (hfw56 o 4 (by omega)).trans z51
  have z62 := (hfw56 o 5 (by omega)).trans z52
  have z63 := (hfw56 o 6 (by omega)).trans z53
  have z64 := (hfw56 o 7 (by omega)).trans z54
  have z65 := (hfw56 o 8 (by omega)).trans z55
  have z66 := (hfw56 o 9 (by omega)).trans kkw46
  refine ev_aload_n dt_Ri_clear_58 rfl rfl ?_
  refine tm_getR dt_Ri_clear_59 hWw56 ot0 fl_Ri_24 rfl ?_
  refine ev_lconsti (n := 0) dt_Ri_clear_62 (by decide) ?_
  refine tm_sv dt_Ri_clear_63 (tm_fillJK hWw56 ot5 (by decide) _) kb_Ri_79 sc_Ar_fill_AJJV hWw56 rfl (Nat.le_of_ble_eq_true rfl) (by decide) (fun w67 hWw67 hSw67 => ?_)
  obtain ⟨hfw67, kfw67⟩ := hSw67
  have hFw67 : ∀ (p : Nat) (j : Int), ¬ (p = o ∨ p = (o + 4) ∨ p = (o + 5) ∨ p = (o + 6) ∨ p = (o + 7) ∨ p = (o + 8)) → tm_g w67 p j = tm_g w p j := fun p j h => (hfw67 p j (by omega)).trans (hFw56 p j h)
  have z68 := (hfw67 o 0 (by omega)).trans z57
  have z69 := (hfw67 o 1 (by omega)).trans z58
  have z70 := (hfw67 o 2 (by omega)).trans z59
  have z71 := (hfw67 o 3 (by omega)).trans z60
  have z72 := (hfw67 o 4 (by omega)).trans z61
  have z73 := (hfw67 o 5 (by omega)).trans z62
  have z74 := (hfw67 o 6 (by omega)).trans z63
  have z75 := (hfw67 o 7 (by omega)).trans z64
  have z76 := (hfw67 o 8 (by omega)).trans z65
  have z77 := (hfw67 o 9 (by omega)).trans z66
  refine ev_aload_n dt_Ri_clear_66 rfl rfl ?_
  refine tm_getR dt_Ri_clear_67 hWw67 ot0 fl_Ri_28 rfl ?_
  refine ev_iconst dt_Ri_clear_70 ?_
  refine tm_sv dt_Ri_clear_71 (tm_fillIK hWw67 ot6 (by decide) 1 (by omega) (by omega)) kb_Ri_73 sc_Ar_fill_AIIV hWw67 rfl (Nat.le_of_ble_eq_true rfl) (by decide) (fun w78 hWw78 hSw78 => ?_)
  obtain ⟨hfw78, kfw78⟩ := hSw78
  have hFw78 : ∀ (p : Nat) (j : Int), ¬ (p = o ∨ p = (o + 4) ∨ p = (o + 5) ∨ p = (o + 6) ∨ p = (o + 7) ∨ p = (o + 8)) → tm_g w78 p j = tm_g w p j := fun p j h => (hfw78 p j (by omega)).trans (hFw67 p j h)
  have z79 := (hfw78 o 0 (by omega)).trans z68
  have z80 := (hfw78 o 1 (by omega)).trans z69
  have z81 := (hfw78 o 2 (by omega)).trans z70
  have z82 := (hfw78 o 3 (by omega)).trans z71
  have z83 := (hfw78 o 4 (by omega)).trans z72
  have z84 := (hfw78 o 5 (by omega)).trans z73
  have z85 := (hfw78 o 6 (by omega)).trans z74
  have z86 := (hfw78 o 7 (by omega)).trans z75
  have z87 := (hfw78 o 8 (by omega)).trans z76
  have z88 := (hfw78 o 9 (by omega)).trans z77
  refine ev_aload_n dt_Ri_clear_74 rfl rfl ?_
  refine tm_getR dt_Ri_clear_75 hWw78 ot0 fl_Ri_31 rfl ?_
  refine ev_iconst dt_Ri_clear_78 ?_
  refine tm_sv dt_Ri_clear_79 (tm_fillIK hWw78 ot7 (by decide) 0 (by omega) (by omega)) kb_Ri_73 sc_Ar_fill_AIIV hWw78 rfl (Nat.le_of_ble_eq_true rfl) (by decide) (fun w89 hWw89 hSw89 => ?_)
  obtain ⟨hfw89, kfw89⟩ := hSw89
  have hFw89 : ∀ (p : Nat) (j : Int), ¬ (p = o ∨ p = (o + 4) ∨ p = (o + 5) ∨ p = (o + 6) ∨ p = (o + 7) ∨ p = (o + 8)) → tm_g w89 p j = tm_g w p j := fun p j h => (hfw89 p j (by omega)).trans (hFw78 p j h)
  have z90 := (hfw89 o 0 (by omega)).trans z79
  have z91 := (hfw89 o 1 (by omega)).trans z80
  have z92 := (hfw89 o 2 (by omega)).trans z81
  have z93 := (hfw89 o 3 (by omega)).trans z82
  have z94 := (hfw89 o 4 (by omega)).trans z83
  have z95 := (hfw89 o 5 (by omega)).trans z84
  have z96 := (hfw89 o 6 (by omega)).trans z85
  have z97 := (hfw89 o 7 (by omega)).trans z86
  have z98 := (hfw89 o 8 (by omega)).trans z87
  have z99 := (hfw89 o 9 (by omega)).trans z88
  refine ev_aload_n dt_Ri_clear_82 rfl rfl ?_
  refine tm_getR dt_Ri_clear_83 hWw89 ot0 fl_Ri_37 rfl ?_
  refine ev_iconst dt_Ri_clear_86 ?_
  refine tm_putI (K := 0) dt_Ri_clear_87 hWw89 ot8 (fp_Ri_82 _) rfl rfl trivial (by omega) (by omega) (fun w100 hWw100 kkw100 hfw100 => ?_)
  have hFw100 : ∀ (p : Nat) (j : Int), ¬ (p = o ∨ p = (o + 4) ∨ p = (o + 5) ∨ p = (o + 6) ∨ p = (o + 7) ∨ p = (o + 8)) → tm_g w100 p j = tm_g w p j := fun p j h => (hfw100 p j (by omega)).trans (hFw89 p j h)
  have z101 := (hfw100 o 0 (by omega)).trans z90
  have z102 := (hfw100 o 1 (by omega)).trans z91
  have z103 := (hfw100 o 2 (by omega)).trans z92
  have z104 := (hfw100 o 3 (by omega)).trans z93
  have z105 := (hfw100 o 4 (by omega)).trans z94
  have z106 := (hfw100 o 5 (by omega)).trans z95
  have z107 := (hfw100 o 6 (by omega)).trans z96
  have z108 := (hfw100 o 7 (by omega)).trans z97
  have z109 := (hfw100 o 8 (by omega)).trans z98
  have z110 := (hfw100 o 9 (by omega)).trans z99
  exact ev_return dt_Ri_clear_90 rfl ⟨hWw100, rfl, ⟨hFw100, b_clear z102 z103 z104 z105 z106 z108 z109 z110 (fun k h0 h1 => ((hfw100 (o + 4) k (by omega)).trans ((hfw89 (o + 4) k (by omega)).trans ((hfw78 (o + 4) k (by omega)).trans ((hfw67 (o + 4) k (by omega)).trans (kfw56 k h0 h1)))))) (fun k h0 h1 => ((hfw100 (o + 6) k (by omega)).trans ((hfw89 (o + 6) k (by omega)).trans (kfw78 k h0 h1)))) (fun k h0 h1 => ((hfw100 (o + 7) k (by omega)).trans (kfw89 k h0 h1))) kkw100 (fun k h0 h1 => ((hfw100 (o + 5) k (by omega)).trans ((hfw89 (o + 5) k (by omega)).trans ((hfw78 (o + 5) k (by omega)).trans (kfw67 k h0 h1)))))⟩⟩
set_option maxHeartbeats 4000000 in
set_option maxRecDepth 10000 in
theorem gr_Rr_readAll {N : Nat} {T : Nat → tm_S} {w : ab_W} {f : Int → Int} {tp : Nat} {o : Nat} (hW : tm_W N T w) (h_tp : is_Ta T tp) (h_o : is_Ri T o) (ne_tp_o : tp + 2 ≤ o ∨ o + 13 ≤ tp) (L : Int) (k_L : tm_g w tp 1 = some (ab_I L)) (hf : ∀ j, tm_g w (tp + 1) j = some (ab_I (f j))) (rd0 : Int → Int) : ab_Mt g_G g_rs mt_Rr_readAll 9 0 0 [ab_R tp, ab_R o] w (tm_Qi N T (fun v w2 => (∀ (p : Nat) (j : Int), ¬ ((p = tp ∧ (j = 2 ∨ j = 5 ∨ j = 6 ∨ j = 7 ∨ j = 8 ∨ j = 4 ∨ j = 3)) ∨ p = o ∨ p = (o + 1) ∨ p = (o + 2) ∨ p = (o + 3) ∨ p = (o + 4) ∨ p = (o + 5) ∨ p = (o + 6) ∨ p = (o + 7) ∨ p = (o + 8)) → tm_g w2 p j = tm_g w p j) ∧ ((-2147483648) ≤ v ∧ v ≤ 2147483647 ∧ (b_ra f L tp (0, []) o w2 v (rs_all f L (rs_ini rd0 46)))))) := by
  have hK : 1 < g_ln.length := by decide
  have hfb : ∀ j, -128 ≤ f j ∧ f j ≤ 127 := tx_fb hW h_tp.2 hf
  obtain ⟨tpt0, tpt1⟩ := id h_tp
  obtain ⟨ot0, ot1, ot2, ot3, ot4, ot5, ot6, ot7, ot8, ot9, ot10, ot11, ot12⟩ := id h_o
  have od := is_Ri.d h_o
  have hF0 : ∀ (p : Nat) (j : Int), ¬ ((p = tp ∧ (j = 2 ∨ j = 5 ∨ j = 6 ∨ j = 7 ∨ j = 8 ∨ j = 4 ∨ j = 3)) ∨ p = o ∨ p = (o + 1) ∨ p = (o + 2) ∨ p = (o + 3) ∨ p = (o + 4) ∨ p = (o + 5) ∨ p = (o + 6) ∨ p = (o + 7) ∨ p = (o + 8)) → tm_g w p j = tm_g w p j := fun _ _ _ => rfl
  refine ab_Mt.of rfl (Nat.le_of_ble_eq_true rfl) ?_
  show ab_Ev g_G g_rs mt_Rr_readAll _ _ _ 0 [some (ab_R tp), some (ab_R o), none, none, none] [] _ _
  have b_L : 0 ≤ L ∧ L ≤ 400 := by obtain ⟨a, e, h0, h1⟩ := tm_peek (k := 1) (K := 1) hW tpt0 rfl rfl; rw [k_L] at e; injection e with e; injection e with e; omega
  refine ev_aload_n dt_Rr_readAll_0 rfl rfl ?_
  refine ev_ldcS (k := 1) dt_Rr_readAll_1 (List.mem_of_getElem? (i := 1) rfl) (by decide) ?_
  refine tm_vv dt_Rr_readAll_3 (gt_begin (f := f) (L := L) (K := 1) hW h_tp hK k_L hf) kb_Rr_13 ⟨im_Ta_begin, se_Ta_begin⟩ rfl hW tpt0 rfl (Nat.le_of_ble_eq_true rfl) (by decide) (fun w111 hWw111 hSw111 => ?_)
  obtain ⟨hfw111, hT0⟩ := hSw111
  have hFw111 : ∀ (p : Nat) (j : Int), ¬ ((p = tp ∧ (j = 2 ∨ j = 5 ∨ j = 6 ∨ j = 7 ∨ j = 8 ∨ j = 4 ∨ j = 3)) ∨ p = o ∨ p = (o + 1) ∨ p = (o + 2) ∨ p = (o + 3) ∨ p = (o + 4) ∨ p = (o + 5) ∨ p = (o + 6) ∨ p = (o + 7) ∨ p = (o + 8)) → tm_g w111 p j = tm_g w p j := fun p j h => (hfw111 p j (by omega)).trans (hF0 p j h)
  refine ev_aload_n dt_Rr_readAll_6 rfl rfl ?_
  refine tm_vv dt_Rr_readAll_7 (gb_Ri_clear hWw111 h_o) kb_Rr_19 ⟨im_Ri_clear, se_Ri_clear⟩ rfl hWw111 ot0 rfl (Nat.le_of_ble_eq_true rfl) (by decide) (fun w112 hWw112 hSw112 => ?_)
  obtain ⟨hfw112, hRc⟩ := hSw112
  have hFw112 : ∀ (p : Nat) (j : Int), ¬ ((p = tp ∧ (j = 2 ∨ j = 5 ∨ j = 6 ∨ j = 7 ∨ j = 8 ∨ j = 4 ∨ j = 3)) ∨ p = o ∨ p = (o + 1) ∨ p = (o + 2) ∨ p = (o + 3) ∨ p = (o + 4) ∨ p = (o + 5) ∨ p = (o + 6) ∨ p = (o + 7) ∨ p = (o + 8)) → tm_g w112 p j = tm_g w p j := fun p j h => (hfw112 p j (by omega)).trans (hFw111 p j h)
  have hT1 : a_T f 1 L tp w112 (0, tk_sk f L 0, (0, [])) := a_T_fr (hT0 (0, [])) (fun p j hp => hfw112 p j (by omega))
  refine ev_iconst dt_Rr_readAll_10 ?_
  refine ev_istore_n (l' := [_, _, _, _, _]) dt_Rr_readAll_11 rfl (Nat.le_of_ble_eq_true rfl) rfl ?_
  refine ev_iconst dt_Rr_readAll_12 ?_
  refine ev_istore_n (l' := [_, _, _, _, _]) dt_Rr_readAll_13 rfl (Nat.le_of_ble_eq_true rfl) rfl ?_
  have L113 : ∀ (n : Nat) (i114 : Int) (i115 : Int)  (w116 : ab_W), tm_W N T w116 → (∀ (p : Nat) (j : Int), ¬ ((p = tp ∧ (j = 2 ∨ j = 5 ∨ j = 6 ∨ j = 7 ∨ j = 8 ∨ j = 4 ∨ j = 3)) ∨ p = o ∨ p = (o + 1) ∨ p = (o + 2) ∨ p = (o + 3) ∨ p = (o + 4) ∨ p = (o + 5) ∨ p = (o + 6) ∨ p = (o + 7) ∨ p = (o + 8)) → tm_g w116 p j = tm_g w p j) → 0 ≤ i114 → i114 ≤ 1 → 0 ≤ i115 → i115 ≤ 41 → (b_lp f L tp (0, []) o w116 i114 i115 (rs_all f L (rs_ini rd0 46))) → 41 - i115 < (n : Int) → ab_Ev g_G g_rs mt_Rr_readAll 9 0 0 14 [some (ab_R tp), some (ab_R o), some (ab_I i114), some (ab_I i115), none] [] w116 (tm_Qi N T (fun v w2 => (∀ (p : Nat) (j : Int), ¬ ((p = tp ∧ (j = 2 ∨ j = 5 ∨ j = 6 ∨ j = 7 ∨ j = 8 ∨ j = 4 ∨ j = 3)) ∨ p = o ∨ p = (o + 1) ∨ p = (o + 2) ∨ p = (o + 3) ∨ p = (o + 4) ∨ p = (o + 5) ∨ p = (o + 6) ∨ p = (o + 7) ∨ p = (o + 8)) → tm_g w2 p j = tm_g w p j) ∧ ((-2147483648) ≤ v ∧ v ≤ 2147483647 ∧ (b_ra f L tp (0, []) o w2 v (rs_all f L (rs_ini rd0 46)))))) := by
    intro n
    induction n with
    | zero =>
      intro i114 i115  w116 hWw116 hFw116 li114 ui114 li115 ui115 q0L113 mL113
      exfalso
      omega
    | succ nL113 ihL113 =>
      intro i114 i115  w116 hWw116 hFw116 li114 ui114 li115 ui115 q0L113 mL113
      refine ev_iload_n dt_Rr_readAll_14 rfl rfl ?_
      refine ev_if_eq (tgt := 108) dt_Rr_readAll_15 (by decide) (by omega) (fun h117 => ?_) (fun h117 => ?_)
      · skip
        rcases q0L113 with ⟨em, i40, -⟩ | ⟨em, hfin⟩
        · exfalso
          omega
        · skip
          rcases hfin with ⟨e, p, ⟨le, ue⟩, hG, hXe⟩ | ⟨n, rd, ⟨n0, n1⟩, hG, hR, hrd9, hXo⟩
          · skip
            refine ev_aload_n dt_Rr_readAll_108 rfl rfl ?_
            have hs118 : tm_g w116 tp 6 = some (ab_I (-1)) := (a_T_sg hG).trans (congrArg (fun z => some (ab_I z)) (if_neg (show ¬ e = 0 by omega)))
            refine tm_getK (K := 6) dt_Rr_readAll_109 hWw116 tpt0 fl_Rr_43 rfl hs118 ?_
            refine ev_iconst dt_Rr_readAll_112 ?_
            refine ev_icmp_eq (tgt := 121) dt_Rr_readAll_113 (by decide) (by omega) (by omega) (fun h119 => ?_) (fun h119 => ?_)
            · skip
              refine ev_aload_n dt_Rr_readAll_121 rfl rfl ?_
              refine ev_aload_n dt_Rr_readAll_122 rfl rfl ?_
              refine tm_getK (K := 4) (v := ab_I e) dt_Rr_readAll_123 hWw116 tpt0 fl_Rr_46 rfl (a_T_ft hG) ?_
              refine ev_if_ne (tgt := 133) dt_Rr_readAll_126 (by decide) (by omega) (fun h120 => ?_) (fun h120 => ?_)
              · skip
                refine ev_iconst dt_Rr_readAll_133 ?_
                refine tm_putI (K := 0) dt_Rr_readAll_134 hWw116 ot0 (fp_Rr_49 _) rfl rfl (by have h0 := True; first | (show _ = _ ∨ _ = _; omega) | omega) (by omega) (by omega) (fun w121 hWw121 kkw121 hfw121 => ?_)
                have hFw121 : ∀ (p : Nat) (j : Int), ¬ ((p = tp ∧ (j = 2 ∨ j = 5 ∨ j = 6 ∨ j = 7 ∨ j = 8 ∨ j = 4 ∨ j = 3)) ∨ p = o ∨ p = (o + 1) ∨ p = (o + 2) ∨ p = (o + 3) ∨ p = (o + 4) ∨ p = (o + 5) ∨ p = (o + 6) ∨ p = (o + 7) ∨ p = (o + 8)) → tm_g w121 p j = tm_g w p j := fun p j h => (hfw121 p j (by omega)).trans (hFw116 p j h)
                have hGw121 := a_T_fr hG (fun p j hp => hfw121 p j (by omega))
                refine ev_aload_n dt_Rr_readAll_137 rfl rfl ?_
                refine tm_getK (K := 4) (v := ab_I e) dt_Rr_readAll_138 hWw121 tpt0 fl_Rr_46 rfl (a_T_ft hGw121) ?_
                exact ev_ireturn dt_Rr_readAll_141 rfl ⟨hWw121, _, rfl, ⟨hFw121, ⟨by omega, by omega, (by rw [hXe]; exact ⟨rfl, by omega, by omega⟩)⟩⟩⟩
              · skip
                exfalso
                omega
            · skip
              exfalso
              omega
          · skip
            have hsb := tk_sk_b f n1
            refine ev_aload_n dt_Rr_readAll_108 rfl rfl ?_
            have hs122 : tm_g w116 tp 6 = some (ab_I (k_sign f L (tk_sk f L n))) := a_T_sg hG
            have bhs122 := tm_kb (k := 6) (K := 6) hWw116 tpt0 rfl rfl hs122
            refine tm_getK (K := 6) dt_Rr_readAll_109 hWw116 tpt0 fl_Rr_43 rfl hs122 ?_
            refine ev_iconst dt_Rr_readAll_112 ?_
            refine ev_icmp_eq (tgt := 121) dt_Rr_readAll_113 (by decide) (by omega) (by omega) (fun h123 => ?_) (fun h123 => ?_)
            · skip
              refine ev_aload_n dt_Rr_readAll_121 rfl rfl ?_
              refine ev_aload_n dt_Rr_readAll_122 rfl rfl ?_
              refine tm_getK (K := 4) (v := ab_I 0) dt_Rr_readAll_123 hWw116 tpt0 fl_Rr_46 rfl (a_T_ft hG) ?_
              refine ev_if_ne (tgt := 133) dt_Rr_readAll_126 (by decide) (by omega) (fun h124 => ?_) (fun h124 => ?_)
              · skip
                exfalso
                omega
              · skip
                refine ev_iconst dt_Rr_readAll_129 ?_
                refine ev_goto (tgt := 134) dt_Rr_readAll_130 (by decide) ?_
                refine tm_putI (K := 0) dt_Rr_readAll_134 hWw116 ot0 (fp_Rr_49 _) rfl rfl (by have h0 := True; first | (show _ = _ ∨ _ = _; omega) | omega) (by omega) (by omega) (fun w125 hWw125 kkw125 hfw125 => ?_)
                have hFw125 : ∀ (p : Nat) (j : Int), ¬ ((p = tp ∧ (j = 2 ∨ j = 5 ∨ j = 6 ∨ j = 7 ∨ j = 8 ∨ j = 4 ∨ j = 3)) ∨ p = o ∨ p = (o + 1) ∨ p = (o + 2) ∨ p = (o + 3) ∨ p = (o + 4) ∨ p = (o + 5) ∨ p = (o + 6) ∨ p = (o + 7) ∨ p = (o + 8)) → tm_g w125 p j = tm_g w p j := fun p j h => (hfw125 p j (by omega)).trans (hFw116 p j h)
                have hGw125 := a_T_fr hG (fun p j hp => hfw125 p j (by omega))
                have hRw125 := b_rel_f0 hR (fun p j hp hn => hfw125 p j (by omega))
                refine ev_aload_n dt_Rr_readAll_137 rfl rfl ?_
                refine tm_getK (K := 4) (v := ab_I 0) dt_Rr_readAll_138 hWw125 tpt0 fl_Rr_46 rfl (a_T_ft hGw125) ?_
                exact ev_ireturn dt_Rr_readAll_141 rfl ⟨hWw125, _, rfl, ⟨hFw125, ⟨by omega, by omega, (by rw [hXo, if_pos ((sg_end hfb).mp (by omega))]; exact ⟨rfl, hRw125, kkw125, hrd9⟩)⟩⟩⟩
            · skip
              refine ev_aload_n dt_Rr_readAll_116 rfl rfl ?_
              refine ev_iconst dt_Rr_readAll_117 ?_
              refine tm_vv dt_Rr_readAll_118 (gt_fail hWw116 h_tp 0 (by omega) (by omega) hK hG) kb_Rr_28 ⟨im_Ta_fail, se_Ta_fail⟩ rfl hWw116 tpt0 rfl (Nat.le_of_ble_eq_true rfl) (by decide) (fun w126 hWw126 hSw126 => ?_)
              obtain ⟨hfw126, hGxw126⟩ := hSw126
              have hGw126 : a_T f 1 L tp w126 (1 + 8 * tk_sk f L n + 0, tk_sk f L n, (0, [])) := hGxw126
              have hFw126 : ∀ (p : Nat) (j : Int), ¬ ((p = tp ∧ (j = 2 ∨ j = 5 ∨ j = 6 ∨ j = 7 ∨ j = 8 ∨ j = 4 ∨ j = 3)) ∨ p = o ∨ p = (o + 1) ∨ p = (o + 2) ∨ p = (o + 3) ∨ p = (o + 4) ∨ p = (o + 5) ∨ p = (o + 6) ∨ p = (o + 7) ∨ p = (o + 8)) → tm_g w126 p j = tm_g w p j := fun p j h => (hfw126 p j (by omega)).trans (hFw116 p j h)
              have hRw126 := b_rel_fr hR (fun p j hp => hfw126 p j (by omega))
              have hXew126 : (rs_all f L (rs_ini rd0 46)) = .error (1 + 8 * tk_sk f L n + 0) := hXo.trans (if_neg (fun z => absurd ((sg_end hfb).mpr z) (by omega)))
              refine ev_aload_n dt_Rr_readAll_121 rfl rfl ?_
              refine ev_aload_n dt_Rr_readAll_122 rfl rfl ?_
              refine tm_getK (K := 4) (v := ab_I (1 + 8 * tk_sk f L n + 0)) dt_Rr_readAll_123 hWw126 tpt0 fl_Rr_46 rfl (a_T_ft hGw126) ?_
              refine ev_if_ne (tgt := 133) dt_Rr_readAll_126 (by decide) (by omega) (fun h127 => ?_) (fun h127 => ?_)
              · skip
                refine ev_iconst dt_Rr_readAll_133 ?_
                refine tm_putI (K := 0) dt_Rr_readAll_134 hWw126 ot0 (fp_Rr_49 _) rfl rfl (by have h0 := True; first | (show _ = _ ∨ _ = _; omega) | omega) (by omega) (by omega) (fun w128 hWw128 kkw128 hfw128 => ?_)
                have hFw128 : ∀ (p : Nat) (j : Int), ¬ ((p = tp ∧ (j = 2 ∨ j = 5 ∨ j = 6 ∨ j = 7 ∨ j = 8 ∨ j = 4 ∨ j = 3)) ∨ p = o ∨ p = (o + 1) ∨ p = (o + 2) ∨ p = (o + 3) ∨ p = (o + 4) ∨ p = (o + 5) ∨ p = (o + 6) ∨ p = (o + 7) ∨ p = (o + 8)) → tm_g w128 p j = tm_g w p j := fun p j h => (hfw128 p j (by omega)).trans (hFw126 p j h)
                have hGw128 := a_T_fr hGw126 (fun p j hp => hfw128 p j (by omega))
                refine ev_aload_n dt_Rr_readAll_137 rfl rfl ?_
                refine tm_getK (K := 4) (v := ab_I (1 + 8 * tk_sk f L n + 0)) dt_Rr_readAll_138 hWw128 tpt0 fl_Rr_46 rfl (a_T_ft hGw128) ?_
                exact ev_ireturn dt_Rr_readAll_141 rfl ⟨hWw128, _, rfl, ⟨hFw128, ⟨by omega, by omega, (by rw [hXew126]; exact ⟨rfl, by omega, by omega⟩)⟩⟩⟩
              · skip
                exfalso
                omega
      · skip
        refine ev_iload_n dt_Rr_readAll_18 rfl rfl ?_
        refine ev_bipush dt_Rr_readAll_19 rfl ?_
        refine ev_icmp_gt (tgt := 108) dt_Rr_readAll_21 (by decide) (by omega) (by omega) (fun h129 => ?_) (fun h129 => ?_)
        · skip
          rcases q0L113 with ⟨em, i40, -⟩ | ⟨em, hfin⟩
          · exfalso
            omega
          · skip
            exfalso
            omega
        · skip
          rcases q0L113 with ⟨em, i40, n, rd, ⟨n0, n1⟩, hG, hR, hrd0, hrd2, hX⟩ | ⟨em, -⟩
          · skip
            have hR7 := hR.1.2.2.2.2.2.1
            have bR7 : 0 ≤ rd 1 ∧ rd 1 ≤ 7 := tm_kb (k := 7) (K := 7) hWw116 h_o.1 rfl rfl hR7
            have hsb := tk_sk_b f n1
            have hwd := k_wd1 f L (tk_sk f L n)
            have hcl := cl_tie (f := f) (rd := rd) (i := i115) n1
            refine ev_aload_n dt_Rr_readAll_24 rfl rfl ?_
            refine tm_getK (K := 8) (v := ab_I (k_wd 1 f L (tk_sk f L n))) dt_Rr_readAll_25 hWw116 tpt0 fl_Rr_24 rfl (a_T_wd hG) ?_
            refine ev_istore (l' := [_, _, _, _, _]) dt_Rr_readAll_28 (Nat.le_of_ble_eq_true rfl) rfl ?_
            refine ev_iload dt_Rr_readAll_30 rfl ?_
            refine ev_iconst dt_Rr_readAll_32 ?_
            refine ev_icmp_ne (tgt := 44) dt_Rr_readAll_33 (by decide) (by omega) (by omega) (fun h130 => ?_) (fun h130 => ?_)
            · skip
              refine ev_iload_n dt_Rr_readAll_44 rfl rfl ?_
              refine ev_bipush dt_Rr_readAll_45 rfl ?_
              refine ev_icmp_eq (tgt := 60) dt_Rr_readAll_47 (by decide) (by omega) (by omega) (fun h131 => ?_) (fun h131 => ?_)
              · skip
                refine ev_aload_n dt_Rr_readAll_60 rfl rfl ?_
                refine ev_iconst dt_Rr_readAll_61 ?_
                refine tm_vv dt_Rr_readAll_62 (gt_fail hWw116 h_tp 4 (by omega) (by omega) hK hG) kb_Rr_28 ⟨im_Ta_fail, se_Ta_fail⟩ rfl hWw116 tpt0 rfl (Nat.le_of_ble_eq_true rfl) (by decide) (fun w132 hWw132 hSw132 => ?_)
                obtain ⟨hfw132, hGxw132⟩ := hSw132
                have hGw132 : a_T f 1 L tp w132 (1 + 8 * tk_sk f L n + 4, tk_sk f L n, (0, [])) := hGxw132
                have hFw132 : ∀ (p : Nat) (j : Int), ¬ ((p = tp ∧ (j = 2 ∨ j = 5 ∨ j = 6 ∨ j = 7 ∨ j = 8 ∨ j = 4 ∨ j = 3)) ∨ p = o ∨ p = (o + 1) ∨ p = (o + 2) ∨ p = (o + 3) ∨ p = (o + 4) ∨ p = (o + 5) ∨ p = (o + 6) ∨ p = (o + 7) ∨ p = (o + 8)) → tm_g w132 p j = tm_g w p j := fun p j h => (hfw132 p j (by omega)).trans (hFw116 p j h)
                have hRw132 := b_rel_fr hR (fun p j hp => hfw132 p j (by omega))
                have hXew132 : (rs_all f L (rs_ini rd0 46)) = .error (1 + 8 * tk_sk f L n + 4) := hX.symm.trans (b_ct_er (hcl.trans ((if_neg (by omega)).trans (if_pos (by omega)))))
                refine ev_goto (tgt := 79) dt_Rr_readAll_65 (by decide) ?_
                refine ev_aload_n dt_Rr_readAll_79 rfl rfl ?_
                have hs133 : tm_g w132 tp 6 = some (ab_I (-1)) := (a_T_sg hGw132).trans (congrArg (fun z => some (ab_I z)) (if_neg (show ¬ (1 + 8 * tk_sk f L n + 4) = 0 by omega)))
                refine tm_getK (K := 6) dt_Rr_readAll_80 hWw132 tpt0 fl_Rr_43 rfl hs133 ?_
                refine ev_bipush dt_Rr_readAll_83 rfl ?_
                refine ev_icmp_ne (tgt := 92) dt_Rr_readAll_85 (by decide) (by omega) (by omega) (fun h134 => ?_) (fun h134 => ?_)
                · skip
                  refine ev_iconst dt_Rr_readAll_92 ?_
                  refine ev_istore_n (l' := [_, _, _, _, _]) dt_Rr_readAll_93 rfl (Nat.le_of_ble_eq_true rfl) rfl ?_
                  refine ev_iload_n dt_Rr_readAll_94 rfl rfl ?_
                  refine ev_if_eq (tgt := 102) dt_Rr_readAll_95 (by decide) (by omega) (fun h135 => ?_) (fun h135 => ?_)
                  · skip
                    refine ev_iinc (l' := [_, _, _, _, _]) dt_Rr_readAll_102 rfl rfl ?_
                    refine ev_goto (tgt := 14) dt_Rr_readAll_105 (by decide) ?_
                    exact tm_loc (tm_le_s (tm_le_s (tm_le_s (tm_le_s (tm_le_n tm_le_0))))) (ihL113 (0) ((i115 + 1)) w132 hWw132 hFw132 (by omega) (by omega) (by omega) (by omega) (Or.inr ⟨rfl, Or.inl ⟨_, _, ⟨by omega, by omega⟩, hGw132, hXew132⟩⟩) (by omega))
                  · skip
                    exfalso
                    omega
                · skip
                  exfalso
                  omega
              · skip
                refine ev_aload_n dt_Rr_readAll_50 rfl rfl ?_
                refine ev_iload dt_Rr_readAll_51 rfl ?_
                refine ev_iload_n dt_Rr_readAll_53 rfl rfl ?_
                refine tm_sp dt_Rr_readAll_54 (gb_Rr_mayFollow hWw116 h_o (k_wd 1 f L (tk_sk f L n)) (by omega) (by omega) i115 (by omega) (by omega) hR) kb_Rr_32 sc_Rr_mayFollow rfl (Nat.le_of_ble_eq_true rfl) (by decide) (fun vm hvm => ?_)
                obtain ⟨lvm, uvm, evm⟩ := hvm
                refine ev_if_ne (tgt := 68) dt_Rr_readAll_57 (by decide) (by omega) (fun h136 => ?_) (fun h136 => ?_)
                · skip
                  have hmt : ¬ (((k_wd 1 f L (tk_sk f L n)) = 1 ∧ rd 1 = 7) ∨ ((k_wd 1 f L (tk_sk f L n)) = 2 ∧ rd 2 = 12) ∨ ((k_wd 1 f L (tk_sk f L n)) = 0 ∧ 0 < rd 0) ∨ (¬ (k_wd 1 f L (tk_sk f L n)) = 0 ∧ rd 0 = 0)) := by unfold b_may at evm; split at evm; omega; split at evm <;> omega
                  have hke := k_wle (f := f) (L := L) (K := 1) hsb.2 (by omega)
                  refine ev_aload_n dt_Rr_readAll_68 rfl rfl ?_
                  refine tm_vv dt_Rr_readAll_69 (gt_advance hWw116 h_tp hK hG) kb_Rr_36 ⟨im_Ta_advance, se_Ta_advance⟩ rfl hWw116 tpt0 rfl (Nat.le_of_ble_eq_true rfl) (by decide) (fun w137 hWw137 hSw137 => ?_)
                  obtain ⟨hfw137, hGxw137⟩ := hSw137
                  have hGw137 : a_T f 1 L tp w137 (0, tk_sk f L (tk_le f L (tk_sk f L n)), (0, [])) := a_T_eq hGxw137 (by show (0, tk_sk f L (k_end f L (tk_sk f L n)), (0, [])) = _; rw [hke.1])
                  have hFw137 : ∀ (p : Nat) (j : Int), ¬ ((p = tp ∧ (j = 2 ∨ j = 5 ∨ j = 6 ∨ j = 7 ∨ j = 8 ∨ j = 4 ∨ j = 3)) ∨ p = o ∨ p = (o + 1) ∨ p = (o + 2) ∨ p = (o + 3) ∨ p = (o + 4) ∨ p = (o + 5) ∨ p = (o + 6) ∨ p = (o + 7) ∨ p = (o + 8)) → tm_g w137 p j = tm_g w p j := fun p j h => (hfw137 p j (by omega)).trans (hFw116 p j h)
                  have hRw137 := b_rel_fr hR (fun p j hp => hfw137 p j (by omega))
                  refine ev_aload_n dt_Rr_readAll_72 rfl rfl ?_
                  refine ev_aload_n dt_Rr_readAll_73 rfl rfl ?_
                  refine ev_iload dt_Rr_readAll_74 rfl ?_
                  refine tm_sv dt_Rr_readAll_76 (gr_Rr_readRest (n := (tk_le f L (tk_sk f L n))) hWw137 h_tp h_o (by omega) (k_wd 1 f L (tk_sk f L n)) (by omega) (by omega) hK (by omega) (by omega) hGw137 hRw137 (by omega) (by omega)) kb_Rr_39 sc_Rr_readRest hWw137 rfl (Nat.le_of_ble_eq_true rfl) (by decide) (fun w138 hWw138 hSw138 => ?_)
                  obtain ⟨hfw138, hres⟩ := hSw138
                  have hFw138 : ∀ (p : Nat) (j : Int), ¬ ((p = tp ∧ (j = 2 ∨ j = 5 ∨ j = 6 ∨ j = 7 ∨ j = 8 ∨ j = 4 ∨ j = 3)) ∨ p = o ∨ p = (o + 1) ∨ p = (o + 2) ∨ p = (o + 3) ∨ p = (o + 4) ∨ p = (o + 5) ∨ p = (o + 6) ∨ p = (o + 7) ∨ p = (o + 8)) → tm_g w138 p j = tm_g w p j := fun p j h => (hfw138 p j (by omega)).trans (hFw137 p j h)
                  have hcb : rs_clause f L n i115 rd = b_line f L (tk_le f L (tk_sk f L n)) (k_wd 1 f L (tk_sk f L n)) rd := hcl.trans ((if_neg (by omega)).trans ((if_neg (by omega)).trans (if_neg hmt)))
                  rcases hbl : b_line f L (tk_le f L (tk_sk f L n)) (k_wd 1 f L (tk_sk f L n)) rd with e2 | ⟨n2, rd2⟩
                  · skip
                    rw [hbl] at hres hcb
                    obtain ⟨⟨le2, ue2⟩, p2, hG2⟩ := hres
                    have hXe2 : (rs_all f L (rs_ini rd0 46)) = .error e2 := hX.symm.trans (b_ct_er hcb)
                    refine ev_aload_n dt_Rr_readAll_79 rfl rfl ?_
                    have hs139 : tm_g w138 tp 6 = some (ab_I (-1)) := (a_T_sg hG2).trans (congrArg (fun z => some (ab_I z)) (if_neg (show ¬ e2 = 0 by omega)))
                    refine tm_getK (K := 6) dt_Rr_readAll_80 hWw138 tpt0 fl_Rr_43 rfl hs139 ?_
                    refine ev_bipush dt_Rr_readAll_83 rfl ?_
                    refine ev_icmp_ne (tgt := 92) dt_Rr_readAll_85 (by decide) (by omega) (by omega) (fun h140 => ?_) (fun h140 => ?_)
                    · skip
                      refine ev_iconst dt_Rr_readAll_92 ?_
                      refine ev_istore_n (l' := [_, _, _, _, _]) dt_Rr_readAll_93 rfl (Nat.le_of_ble_eq_true rfl) rfl ?_
                      refine ev_iload_n dt_Rr_readAll_94 rfl rfl ?_
                      refine ev_if_eq (tgt := 102) dt_Rr_readAll_95 (by decide) (by omega) (fun h141 => ?_) (fun h141 => ?_)
                      · skip
                        refine ev_iinc (l' := [_, _, _, _, _]) dt_Rr_readAll_102 rfl rfl ?_
                        refine ev_goto (tgt := 14) dt_Rr_readAll_105 (by decide) ?_
                        exact tm_loc (tm_le_s (tm_le_s (tm_le_s (tm_le_s (tm_le_n tm_le_0))))) (ihL113 (0) ((i115 + 1)) w138 hWw138 hFw138 (by omega) (by omega) (by omega) (by omega) (Or.inr ⟨rfl, Or.inl ⟨_, _, ⟨by omega, by omega⟩, hG2, hXe2⟩⟩) (by omega))
                      · skip
                        exfalso
                        omega
                    · skip
                      exfalso
                      omega
                  · skip
                    have hrr := b_line_r (f := f) (L := L) (rd := rd) (by omega) (by omega) bR7.1 (by omega) hrd2.1 hbl
                    rw [hbl] at hres hcb
                    obtain ⟨⟨ln2, un2⟩, hG2, hR2⟩ := hres
                    have hrd1 : rd2 0 = 1 := by rw [hrr.1]; split <;> omega
                    have hrd3 : 0 ≤ rd2 2 ∧ rd2 2 ≤ 12 := by rw [hrr.2]; split <;> omega
                    have hXo := hX.symm.trans (b_ct_ok hcb (by omega) (by omega))
                    have hsx := sg_x (f := f) (L := L) (s := tk_sk f L n2) (x := 59) hfb (Or.inr (Or.inr rfl))
                    have hsb2 := tk_sk_b f un2
                    refine ev_aload_n dt_Rr_readAll_79 rfl rfl ?_
                    have hs142 : tm_g w138 tp 6 = some (ab_I (k_sign f L (tk_sk f L n2))) := a_T_sg hG2
                    have bhs142 := tm_kb (k := 6) (K := 6) hWw138 tpt0 rfl rfl hs142
                    refine tm_getK (K := 6) dt_Rr_readAll_80 hWw138 tpt0 fl_Rr_43 rfl hs142 ?_
                    refine ev_bipush dt_Rr_readAll_83 rfl ?_
                    refine ev_icmp_ne (tgt := 92) dt_Rr_readAll_85 (by decide) (by omega) (by omega) (fun h143 => ?_) (fun h143 => ?_)
                    · skip
                      refine ev_iconst dt_Rr_readAll_92 ?_
                      refine ev_istore_n (l' := [_, _, _, _, _]) dt_Rr_readAll_93 rfl (Nat.le_of_ble_eq_true rfl) rfl ?_
                      refine ev_iload_n dt_Rr_readAll_94 rfl rfl ?_
                      refine ev_if_eq (tgt := 102) dt_Rr_readAll_95 (by decide) (by omega) (fun h144 => ?_) (fun h144 => ?_)
                      · skip
                        refine ev_iinc (l' := [_, _, _, _, _]) dt_Rr_readAll_102 rfl rfl ?_
                        refine ev_goto (tgt := 14) dt_Rr_readAll_105 (by decide) ?_
                        exact tm_loc (tm_le_s (tm_le_s (tm_le_s (tm_le_s (tm_le_n tm_le_0))))) (ihL113 (0) ((i115 + 1)) w138 hWw138 hFw138 (by omega) (by omega) (by omega) (by omega) (Or.inr ⟨rfl, Or.inr ⟨n2, rd2, ⟨by omega, by omega⟩, hG2, hR2, hrd1, hXo.trans (if_neg (fun z => absurd (hsx.1.mpr z) (by omega)))⟩⟩) (by omega))
                      · skip
                        exfalso
                        omega
                    · skip
                      refine ev_iconst dt_Rr_readAll_88 ?_
                      refine ev_goto (tgt := 93) dt_Rr_readAll_89 (by decide) ?_
                      refine ev_istore_n (l' := [_, _, _, _, _]) dt_Rr_readAll_93 rfl (Nat.le_of_ble_eq_true rfl) rfl ?_
                      refine ev_iload_n dt_Rr_readAll_94 rfl rfl ?_
                      refine ev_if_eq (tgt := 102) dt_Rr_readAll_95 (by decide) (by omega) (fun h145 => ?_) (fun h145 => ?_)
                      · skip
                        exfalso
                        omega
                      · skip
                        refine ev_aload_n dt_Rr_readAll_98 rfl rfl ?_
                        refine tm_vv dt_Rr_readAll_99 (gt_advance hWw138 h_tp hK hG2) kb_Rr_36 ⟨im_Ta_advance, se_Ta_advance⟩ rfl hWw138 tpt0 rfl (Nat.le_of_ble_eq_true rfl) (by decide) (fun w146 hWw146 hSw146 => ?_)
                        obtain ⟨hfw146, hGxw146⟩ := hSw146
                        have hGw146 : a_T f 1 L tp w146 (0, tk_sk f L (tk_sk f L n2 + 1), (0, [])) := a_T_eq hGxw146 (by show (0, tk_sk f L (k_end f L (tk_sk f L n2)), (0, [])) = _; rw [(hsx.2 (hsx.1.mp (by omega))).1])
                        have hFw146 : ∀ (p : Nat) (j : Int), ¬ ((p = tp ∧ (j = 2 ∨ j = 5 ∨ j = 6 ∨ j = 7 ∨ j = 8 ∨ j = 4 ∨ j = 3)) ∨ p = o ∨ p = (o + 1) ∨ p = (o + 2) ∨ p = (o + 3) ∨ p = (o + 4) ∨ p = (o + 5) ∨ p = (o + 6) ∨ p = (o + 7) ∨ p = (o + 8)) → tm_g w146 p j = tm_g w p j := fun p j h => (hfw146 p j (by omega)).trans (hFw138 p j h)
                        have hRw146 := b_rel_fr hR2 (fun p j hp => hfw146 p j (by omega))
                        refine ev_iinc (l' := [_, _, _, _, _]) dt_Rr_readAll_102 rfl rfl ?_
                        refine ev_goto (tgt := 14) dt_Rr_readAll_105 (by decide) ?_
                        exact tm_loc (tm_le_s (tm_le_s (tm_le_s (tm_le_s (tm_le_n tm_le_0))))) (ihL113 (1) ((i115 + 1)) w146 hWw146 hFw146 (by omega) (by omega) (by omega) (by omega) (Or.inl ⟨rfl, by omega, (tk_sk f L n2 + 1), rd2, ⟨by omega, by have z := (hsx.2 (hsx.1.mp (by omega))).2; omega⟩, hGw146, hRw146, Or.inr ⟨by omega, hrd1⟩, hrd3, (hXo.trans (if_pos (hsx.1.mp (by omega)))).symm⟩) (by omega))
                · skip
                  have hmf : ((k_wd 1 f L (tk_sk f L n)) = 1 ∧ rd 1 = 7) ∨ ((k_wd 1 f L (tk_sk f L n)) = 2 ∧ rd 2 = 12) ∨ ((k_wd 1 f L (tk_sk f L n)) = 0 ∧ 0 < rd 0) ∨ (¬ (k_wd 1 f L (tk_sk f L n)) = 0 ∧ rd 0 = 0) := by unfold b_may at evm; split at evm; omega; split at evm <;> omega
                  refine ev_aload_n dt_Rr_readAll_60 rfl rfl ?_
                  refine ev_iconst dt_Rr_readAll_61 ?_
                  refine tm_vv dt_Rr_readAll_62 (gt_fail hWw116 h_tp 4 (by omega) (by omega) hK hG) kb_Rr_28 ⟨im_Ta_fail, se_Ta_fail⟩ rfl hWw116 tpt0 rfl (Nat.le_of_ble_eq_true rfl) (by decide) (fun w147 hWw147 hSw147 => ?_)
                  obtain ⟨hfw147, hGxw147⟩ := hSw147
                  have hGw147 : a_T f 1 L tp w147 (1 + 8 * tk_sk f L n + 4, tk_sk f L n, (0, [])) := hGxw147
                  have hFw147 : ∀ (p : Nat) (j : Int), ¬ ((p = tp ∧ (j = 2 ∨ j = 5 ∨ j = 6 ∨ j = 7 ∨ j = 8 ∨ j = 4 ∨ j = 3)) ∨ p = o ∨ p = (o + 1) ∨ p = (o + 2) ∨ p = (o + 3) ∨ p = (o + 4) ∨ p = (o + 5) ∨ p = (o + 6) ∨ p = (o + 7) ∨ p = (o + 8)) → tm_g w147 p j = tm_g w p j := fun p j h => (hfw147 p j (by omega)).trans (hFw116 p j h)
                  have hRw147 := b_rel_fr hR (fun p j hp => hfw147 p j (by omega))
                  have hXew147 : (rs_all f L (rs_ini rd0 46)) = .error (1 + 8 * tk_sk f L n + 4) := hX.symm.trans (b_ct_er (hcl.trans ((if_neg (by omega)).trans ((if_neg (by omega)).trans (if_pos hmf)))))
                  refine ev_goto (tgt := 79) dt_Rr_readAll_65 (by decide) ?_
                  refine ev_aload_n dt_Rr_readAll_79 rfl rfl ?_
                  have hs148 : tm_g w147 tp 6 = some (ab_I (-1)) := (a_T_sg hGw147).trans (congrArg (fun z => some (ab_I z)) (if_neg (show ¬ (1 + 8 * tk_sk f L n + 4) = 0 by omega)))
                  refine tm_getK (K := 6) dt_Rr_readAll_80 hWw147 tpt0 fl_Rr_43 rfl hs148 ?_
                  refine ev_bipush dt_Rr_readAll_83 rfl ?_
                  refine ev_icmp_ne (tgt := 92) dt_Rr_readAll_85 (by decide) (by omega) (by omega) (fun h149 => ?_) (fun h149 => ?_)
                  · skip
                    refine ev_iconst dt_Rr_readAll_92 ?_
                    refine ev_istore_n (l' := [_, _, _, _, _]) dt_Rr_readAll_93 rfl (Nat.le_of_ble_eq_true rfl) rfl ?_
                    refine ev_iload_n dt_Rr_readAll_94 rfl rfl ?_
                    refine ev_if_eq (tgt := 102) dt_Rr_readAll_95 (by decide) (by omega) (fun h150 => ?_) (fun h150 => ?_)
                    · skip
                      refine ev_iinc (l' := [_, _, _, _, _]) dt_Rr_readAll_102 rfl rfl ?_
                      refine ev_goto (tgt := 14) dt_Rr_readAll_105 (by decide) ?_
                      exact tm_loc (tm_le_s (tm_le_s (tm_le_s (tm_le_s (tm_le_n tm_le_0))))) (ihL113 (0) ((i115 + 1)) w147 hWw147 hFw147 (by omega) (by omega) (by omega) (by omega) (Or.inr ⟨rfl, Or.inl ⟨_, _, ⟨by omega, by omega⟩, hGw147, hXew147⟩⟩) (by omega))
                    · skip
                      exfalso
                      omega
                  · skip
                    exfalso
                    omega
            · skip
              refine ev_aload_n dt_Rr_readAll_36 rfl rfl ?_
              refine ev_iconst dt_Rr_readAll_37 ?_
              refine tm_vv dt_Rr_readAll_38 (gt_fail hWw116 h_tp 0 (by omega) (by omega) hK hG) kb_Rr_28 ⟨im_Ta_fail, se_Ta_fail⟩ rfl hWw116 tpt0 rfl (Nat.le_of_ble_eq_true rfl) (by decide) (fun w151 hWw151 hSw151 => ?_)
              obtain ⟨hfw151, hGxw151⟩ := hSw151
              have hGw151 : a_T f 1 L tp w151 (1 + 8 * tk_sk f L n + 0, tk_sk f L n, (0, [])) := hGxw151
              have hFw151 : ∀ (p : Nat) (j : Int), ¬ ((p = tp ∧ (j = 2 ∨ j = 5 ∨ j = 6 ∨ j = 7 ∨ j = 8 ∨ j = 4 ∨ j = 3)) ∨ p = o ∨ p = (o + 1) ∨ p = (o + 2) ∨ p = (o + 3) ∨ p = (o + 4) ∨ p = (o + 5) ∨ p = (o + 6) ∨ p = (o + 7) ∨ p = (o + 8)) → tm_g w151 p j = tm_g w p j := fun p j h => (hfw151 p j (by omega)).trans (hFw116 p j h)
              have hRw151 := b_rel_fr hR (fun p j hp => hfw151 p j (by omega))
              have hXew151 : (rs_all f L (rs_ini rd0 46)) = .error (1 + 8 * tk_sk f L n + 0) := hX.symm.trans (b_ct_er (hcl.trans (if_pos (by omega))))
              refine ev_goto (tgt := 79) dt_Rr_readAll_41 (by decide) ?_
              refine ev_aload_n dt_Rr_readAll_79 rfl rfl ?_
              have hs152 : tm_g w151 tp 6 = some (ab_I (-1)) := (a_T_sg hGw151).trans (congrArg (fun z => some (ab_I z)) (if_neg (show ¬ (1 + 8 * tk_sk f L n + 0) = 0 by omega)))
              refine tm_getK (K := 6) dt_Rr_readAll_80 hWw151 tpt0 fl_Rr_43 rfl hs152 ?_
              refine ev_bipush dt_Rr_readAll_83 rfl ?_
              refine ev_icmp_ne (tgt := 92) dt_Rr_readAll_85 (by decide) (by omega) (by omega) (fun h153 => ?_) (fun h153 => ?_)
              · skip
                refine ev_iconst dt_Rr_readAll_92 ?_
                refine ev_istore_n (l' := [_, _, _, _, _]) dt_Rr_readAll_93 rfl (Nat.le_of_ble_eq_true rfl) rfl ?_
                refine ev_iload_n dt_Rr_readAll_94 rfl rfl ?_
                refine ev_if_eq (tgt := 102) dt_Rr_readAll_95 (by decide) (by omega) (fun h154 => ?_) (fun h154 => ?_)
                · skip
                  refine ev_iinc (l' := [_, _, _, _, _]) dt_Rr_readAll_102 rfl rfl ?_
                  refine ev_goto (tgt := 14) dt_Rr_readAll_105 (by decide) ?_
                  exact tm_loc (tm_le_s (tm_le_s (tm_le_s (tm_le_s (tm_le_n tm_le_0))))) (ihL113 (0) ((i115 + 1)) w151 hWw151 hFw151 (by omega) (by omega) (by omega) (by omega) (Or.inr ⟨rfl, Or.inl ⟨_, _, ⟨by omega, by omega⟩, hGw151, hXew151⟩⟩) (by omega))
                · skip
                  exfalso
                  omega
              · skip
                exfalso
                omega
          · exfalso
            omega
  exact tm_loc (tm_le_s (tm_le_s (tm_le_s (tm_le_s (tm_le_n tm_le_0))))) (L113 (41 - (0) + 1 : Int).toNat (1) (0)  w112 hWw112 hFw112 (by omega) (by omega) (by omega) (by omega) (Or.inl ⟨rfl, by decide, 0, rs_ini rd0 46, ⟨by omega, by omega⟩, hT1, hRc rd0, Or.inl ⟨rfl, (if_pos (by decide)).trans (if_neg (by decide))⟩, (by have z : rs_ini rd0 46 2 = 0 := (if_pos (by decide)).trans (if_neg (by decide)); omega), rfl⟩) (by omega))
