set_option maxHeartbeats 4000000 in
set_option maxRecDepth 10000 in
theorem tx_Ta_fail {N : Nat} {T : Nat → tm_S} {w : ab_W} {f : Int → Int} {K : Nat} {tp : Nat} (hW : tm_W N T w) (h_tp : is_Ta T tp) (a : Int) (l_a : 0 ≤ a) (u_a : a ≤ 4) (e0 : Int) (k_e0 : tm_g w tp 4 = some (ab_I e0)) (s0 : Int) (k_s0 : tm_g w tp 5 = some (ab_I s0)) (L : Int) (k_L : tm_g w tp 1 = some (ab_I L)) (hK : K < g_ln.length) (hf : ∀ j, tm_g w (tp + 1) j = some (ab_I (f j))) (kK : tm_g w tp 3 = some (ab_R (ab_sb + K))) : ab_Mt g_G g_rs mt_Ta_fail 0 0 0 [ab_R tp, ab_I a] w (tm_Qv N T (fun w2 => (∀ (p : Nat) (j : Int), ¬ ((p = tp ∧ (j = 2 ∨ j = 4 ∨ j = 6 ∨ j = 7 ∨ j = 8))) → tm_g w2 p j = tm_g w p j) ∧ ∃ a1 e1 g1 n1 w1 : Int, tm_g w2 tp 2 = some (ab_I a1) ∧ tm_g w2 tp 4 = some (ab_I e1) ∧ tm_g w2 tp 6 = some (ab_I g1) ∧ tm_g w2 tp 7 = some (ab_I n1) ∧ tm_g w2 tp 8 = some (ab_I w1) ∧ ((a1 = L ∧ g1 = -1 ∧ n1 = -1 ∧ w1 = -1) ∧ (e0 = 0 → e1 = 1 + 8 * s0 + a) ∧ (¬ e0 = 0 → e1 = e0)))) := by
  have hfb : ∀ j, -128 ≤ f j ∧ f j ≤ 127 := tx_fb hW h_tp.2 hf
  obtain ⟨tpt0, tpt1⟩ := id h_tp
  have hF0 : ∀ (p : Nat) (j : Int), ¬ ((p = tp ∧ (j = 2 ∨ j = 4 ∨ j = 6 ∨ j = 7 ∨ j = 8))) → tm_g w p j = tm_g w p j := fun _ _ _ => rfl
  refine ab_Mt.of rfl (Nat.le_of_ble_eq_true rfl) ?_
  show ab_Ev g_G g_rs mt_Ta_fail _ _ _ 0 [some (ab_R tp), some (ab_I a)] [] _ _
  have b_e0 : (-2147483648) ≤ e0 ∧ e0 ≤ 2147483647 := by obtain ⟨a, e, h0, h1⟩ := tm_peek (k := 4) (K := 4) hW tpt0 rfl rfl; rw [k_e0] at e; injection e with e; injection e with e; omega
  have b_s0 : 0 ≤ s0 ∧ s0 ≤ 400 := by obtain ⟨a, e, h0, h1⟩ := tm_peek (k := 5) (K := 5) hW tpt0 rfl rfl; rw [k_s0] at e; injection e with e; injection e with e; omega
  have b_L : 0 ≤ L ∧ L ≤ 400 := by obtain ⟨a, e, h0, h1⟩ := tm_peek (k := 1) (K := 1) hW tpt0 rfl rfl; rw [k_L] at e; injection e with e; injection e with e; omega
  refine ev_aload_n dt_Ta_fail_0 rfl rfl ?_
  refine tm_getK (K := 4) dt_Ta_fail_1 hW tpt0 fl_Ta_28 rfl k_e0 ?_
  refine ev_if_ne (tgt := 22) dt_Ta_fail_4 (by decide) (by omega) (fun h1 => ?_) (fun h1 => ?_)
  · skip
    refine ev_aload_n dt_Ta_fail_22 rfl rfl ?_
    refine ev_aload_n dt_Ta_fail_23 rfl rfl ?_
    refine tm_getK (K := 1) dt_Ta_fail_24 hW tpt0 fl_Ta_21 rfl k_L ?_
    refine tm_putI (K := 2) dt_Ta_fail_27 hW tpt0 (fp_Ta_25 _) rfl rfl trivial (by omega) (by omega) (fun w2 hWw2 kkw2 hfw2 => ?_)
    have hFw2 : ∀ (p : Nat) (j : Int), ¬ ((p = tp ∧ (j = 2 ∨ j = 4 ∨ j = 6 ∨ j = 7 ∨ j = 8))) → tm_g w2 p j = tm_g w p j := fun p j h => (hfw2 p j (by omega)).trans (hF0 p j h)
    have z3 := (hfw2 tp 4 (by omega)).trans k_e0
    refine ev_aload_n dt_Ta_fail_30 rfl rfl ?_
    refine ev_iconst dt_Ta_fail_31 ?_
    refine tm_putI (K := 6) dt_Ta_fail_32 hWw2 tpt0 (fp_Ta_37 _) rfl rfl trivial (by omega) (by omega) (fun w4 hWw4 kkw4 hfw4 => ?_)
    have hFw4 : ∀ (p : Nat) (j : Int), ¬ ((p = tp ∧ (j = 2 ∨ j = 4 ∨ j = 6 ∨ j = 7 ∨ j = 8))) → tm_g w4 p j = tm_g w p j := fun p j h => (hfw4 p j (by omega)).trans (hFw2 p j h)
    have z5 := (hfw4 tp 4 (by omega)).trans z3
    have z6 := (hfw4 tp 2 (by omega)).trans kkw2
    refine ev_aload_n dt_Ta_fail_35 rfl rfl ?_
    refine ev_iconst dt_Ta_fail_36 ?_
    refine tm_putI (K := 7) dt_Ta_fail_37 hWw4 tpt0 (fp_Ta_40 _) rfl rfl trivial (by omega) (by omega) (fun w7 hWw7 kkw7 hfw7 => ?_)
    have hFw7 : ∀ (p : Nat) (j : Int), ¬ ((p = tp ∧ (j = 2 ∨ j = 4 ∨ j = 6 ∨ j = 7 ∨ j = 8))) → tm_g w7 p j = tm_g w p j := fun p j h => (hfw7 p j (by omega)).trans (hFw4 p j h)
    have z8 := (hfw7 tp 4 (by omega)).trans z5
    have z9 := (hfw7 tp 2 (by omega)).trans z6
    have z10 := (hfw7 tp 6 (by omega)).trans kkw4
    refine ev_aload_n dt_Ta_fail_40 rfl rfl ?_
    refine ev_iconst dt_Ta_fail_41 ?_
    refine tm_putI (K := 8) dt_Ta_fail_42 hWw7 tpt0 (fp_Ta_43 _) rfl rfl trivial (by omega) (by omega) (fun w11 hWw11 kkw11 hfw11 => ?_)
    have hFw11 : ∀ (p : Nat) (j : Int), ¬ ((p = tp ∧ (j = 2 ∨ j = 4 ∨ j = 6 ∨ j = 7 ∨ j = 8))) → tm_g w11 p j = tm_g w p j := fun p j h => (hfw11 p j (by omega)).trans (hFw7 p j h)
    have z12 := (hfw11 tp 4 (by omega)).trans z8
    have z13 := (hfw11 tp 2 (by omega)).trans z9
    have z14 := (hfw11 tp 6 (by omega)).trans z10
    have z15 := (hfw11 tp 7 (by omega)).trans kkw7
    exact ev_return dt_Ta_fail_45 rfl ⟨hWw11, rfl, ⟨hFw11, L, e0, (-1), (-1), (-1), z13, z12, z14, z15, kkw11, by omega⟩⟩
  · skip
    refine ev_aload_n dt_Ta_fail_7 rfl rfl ?_
    refine ev_iconst dt_Ta_fail_8 ?_
    refine ev_bipush dt_Ta_fail_9 rfl ?_
    refine ev_aload_n dt_Ta_fail_11 rfl rfl ?_
    refine tm_getK (K := 5) dt_Ta_fail_12 hW tpt0 fl_Ta_34 rfl k_s0 ?_
    refine ev_imul dt_Ta_fail_15 ?_
    refine ev_iadd dt_Ta_fail_16 ?_
    refine ev_iload_n dt_Ta_fail_17 rfl rfl ?_
    refine ev_iadd dt_Ta_fail_18 ?_
    refine tm_putI (K := 4) dt_Ta_fail_19 hW tpt0 (fp_Ta_28 _) rfl rfl trivial (by omega) (by omega) (fun w16 hWw16 kkw16 hfw16 => ?_)
    have hFw16 : ∀ (p : Nat) (j : Int), ¬ ((p = tp ∧ (j = 2 ∨ j = 4 ∨ j = 6 ∨ j = 7 ∨ j = 8))) → tm_g w16 p j = tm_g w p j := fun p j h => (hfw16 p j (by omega)).trans (hF0 p j h)
    refine ev_aload_n dt_Ta_fail_22 rfl rfl ?_
    refine ev_aload_n dt_Ta_fail_23 rfl rfl ?_
    refine tm_getK (K := 1) dt_Ta_fail_24 hWw16 tpt0 fl_Ta_21 rfl ((hFw16 tp 1 (by omega)).trans k_L) ?_
    refine tm_putI (K := 2) dt_Ta_fail_27 hWw16 tpt0 (fp_Ta_25 _) rfl rfl trivial (by omega) (by omega) (fun w17 hWw17 kkw17 hfw17 => ?_)
    have hFw17 : ∀ (p : Nat) (j : Int), ¬ ((p = tp ∧ (j = 2 ∨ j = 4 ∨ j = 6 ∨ j = 7 ∨ j = 8))) → tm_g w17 p j = tm_g w p j := fun p j h => (hfw17 p j (by omega)).trans (hFw16 p j h)
    have z18 := (hfw17 tp 4 (by omega)).trans kkw16
    refine ev_aload_n dt_Ta_fail_30 rfl rfl ?_
    refine ev_iconst dt_Ta_fail_31 ?_
    refine tm_putI (K := 6) dt_Ta_fail_32 hWw17 tpt0 (fp_Ta_37 _) rfl rfl trivial (by omega) (by omega) (fun w19 hWw19 kkw19 hfw19 => ?_)
    have hFw19 : ∀ (p : Nat) (j : Int), ¬ ((p = tp ∧ (j = 2 ∨ j = 4 ∨ j = 6 ∨ j = 7 ∨ j = 8))) → tm_g w19 p j = tm_g w p j := fun p j h => (hfw19 p j (by omega)).trans (hFw17 p j h)
    have z20 := (hfw19 tp 4 (by omega)).trans z18
    have z21 := (hfw19 tp 2 (by omega)).trans kkw17
    refine ev_aload_n dt_Ta_fail_35 rfl rfl ?_
    refine ev_iconst dt_Ta_fail_36 ?_
    refine tm_putI (K := 7) dt_Ta_fail_37 hWw19 tpt0 (fp_Ta_40 _) rfl rfl trivial (by omega) (by omega) (fun w22 hWw22 kkw22 hfw22 => ?_)
    have hFw22 : ∀ (p : Nat) (j : Int), ¬ ((p = tp ∧ (j = 2 ∨ j = 4 ∨ j = 6 ∨ j = 7 ∨ j = 8))) → tm_g w22 p j = tm_g w p j := fun p j h => (hfw22 p j (by omega)).trans (hFw19 p j h)
    have z23 := (hfw22 tp 4 (by omega)).trans z20
    have z24 := (hfw22 tp 2 (by omega)).trans z21
    have z25 := (hfw22 tp 6 (by omega)).trans kkw19
    refine ev_aload_n dt_Ta_fail_40 rfl rfl ?_
    refine ev_iconst dt_Ta_fail_41 ?_
    refine tm_putI (K := 8) dt_Ta_fail_42 hWw22 tpt0 (fp_Ta_43 _) rfl rfl trivial (by omega) (by omega) (fun w26 hWw26 kkw26 hfw26 => ?_)
    have hFw26 : ∀ (p : Nat) (j : Int), ¬ ((p = tp ∧ (j = 2 ∨ j = 4 ∨ j = 6 ∨ j = 7 ∨ j = 8))) → tm_g w26 p j = tm_g w p j := fun p j h => (hfw26 p j (by omega)).trans (hFw22 p j h)
    have z27 := (hfw26 tp 4 (by omega)).trans z23
    have z28 := (hfw26 tp 2 (by omega)).trans z24
    have z29 := (hfw26 tp 6 (by omega)).trans z25
    have z30 := (hfw26 tp 7 (by omega)).trans kkw22
    exact ev_return dt_Ta_fail_45 rfl ⟨hWw26, rfl, ⟨hFw26, L, ((1 + (8 * s0)) + a), (-1), (-1), (-1), z28, z27, z29, z30, kkw26, by omega⟩⟩
theorem tx_Ta_readNumber {N : Nat} {T : Nat → tm_S} {w : ab_W} {f : Int → Int} {K : Nat} {tp : Nat} (hW : tm_W N T w) (h_tp : is_Ta T tp) (a0 : Int) (k_a0 : tm_g w tp 2 = some (ab_I a0)) (s0 : Int) (k_s0 : tm_g w tp 5 = some (ab_I s0)) (L : Int) (k_L : tm_g w tp 1 = some (ab_I L)) (hK : K < g_ln.length) (hf : ∀ j, tm_g w (tp + 1) j = some (ab_I (f j))) (kK : tm_g w tp 3 = some (ab_R (ab_sb + K))) (ha : a0 = s0) (hs : s0 ≤ L) : ab_Mt g_G g_rs mt_Ta_readNumber 0 0 0 [ab_R tp] w (tm_Qv N T (fun w2 => (∀ (p : Nat) (j : Int), ¬ ((p = tp ∧ (j = 2 ∨ j = 7))) → tm_g w2 p j = tm_g w p j) ∧ ∃ a1 n1 : Int, tm_g w2 tp 2 = some (ab_I a1) ∧ tm_g w2 tp 7 = some (ab_I n1) ∧ (a1 = tk_de f L s0 ∧ n1 = ct_num f L s0))) := by
  have hfb : ∀ j, -128 ≤ f j ∧ f j ≤ 127 := tx_fb hW h_tp.2 hf
  have hL : 0 ≤ L ∧ L ≤ 400 := by obtain ⟨a, e, h0, h1⟩ := tm_peek (k := 1) (K := 1) hW h_tp.1 rfl rfl; rw [k_L] at e; injection e with e; injection e with e; omega
  have hs0 : 0 ≤ s0 ∧ s0 ≤ 400 := by obtain ⟨a, e, h0, h1⟩ := tm_peek (k := 5) (K := 5) hW h_tp.1 rfl rfl; rw [k_s0] at e; injection e with e; injection e with e; omega
  obtain ⟨e0, ke, le0, ue0⟩ := tm_peek (k := 4) (K := 4) hW h_tp.1 rfl rfl
  obtain ⟨g0, kg, lg0, ug0⟩ := tm_peek (k := 6) (K := 6) hW h_tp.1 rfl rfl
  obtain ⟨n0, kn, ln0, un0⟩ := tm_peek (k := 7) (K := 7) hW h_tp.1 rfl rfl
  obtain ⟨w0, kw, lw0, uw0⟩ := tm_peek (k := 8) (K := 8) hW h_tp.1 rfl rfl
  subst ha
  have ht := tap_of hW h_tp k_L k_a0 kK ke k_s0 kg kn kw hf
  have hde := tk_de_b f hs
  have hnum : ab_in (ct_num f L a0) := by
    unfold ct_num
    split
    · have := tk_num_b (tape := f) (taped := L) (i := a0) (tk_de f L a0 - a0).toNat (fun k hk => tk_dgs hs (tk_de f L a0 - a0).toNat (by omega) k hk)
      omega
    · decide
  refine (co_Ta_readNumber (a := a0) ht ⟨hL.1, hL.2, fun k _ _ => hfb k⟩ (by omega) hs).conseq (fun r w2 h => ?_)
  obtain ⟨rfl, h2, hfr⟩ := h
  obtain ⟨q1, q2⟩ := tap_W hW h_tp h2 hfr hL (by omega) ⟨K, rfl, hK⟩ ⟨le0, ue0⟩ hs0 ⟨lg0, ug0⟩ hnum ⟨lw0, uw0⟩ hfb
  have hg := tap_g h2
  refine ⟨q1, rfl, fun p j hp => ?_, _, _, hg.1.2.1, hg.2.1.2.2.1, rfl, rfl⟩
  by_cases hpt : p = tp
  · subst hpt
    exact tap_fr ht h2 j (fun _ => rfl) (fun z => absurd z (by omega)) (fun _ => rfl) (fun _ => rfl) (fun _ => rfl) (fun _ => rfl) (fun z => absurd z (by omega)) (fun _ => rfl)
  · by_cases hp1 : p = tp + 1
    · subst hp1
      rw [hg.2.2 j, hf j]
    · exact q2 p j (by omega)
set_option maxHeartbeats 4000000 in
set_option maxRecDepth 10000 in
theorem tx_Ta_readSign {N : Nat} {T : Nat → tm_S} {w : ab_W} {f : Int → Int} {K : Nat} {tp : Nat} (hW : tm_W N T w) (h_tp : is_Ta T tp) (a0 : Int) (k_a0 : tm_g w tp 2 = some (ab_I a0)) (l_a0 : 0 ≤ a0) (u_a0 : a0 ≤ 399) (L : Int) (k_L : tm_g w tp 1 = some (ab_I L)) (hK : K < g_ln.length) (hf : ∀ j, tm_g w (tp + 1) j = some (ab_I (f j))) (kK : tm_g w tp 3 = some (ab_R (ab_sb + K))) (hs : a0 < L) : ab_Mt g_G g_rs mt_Ta_readSign 0 0 0 [ab_R tp] w (tm_Qv N T (fun w2 => (∀ (p : Nat) (j : Int), ¬ ((p = tp ∧ (j = 6 ∨ j = 2))) → tm_g w2 p j = tm_g w p j) ∧ ∃ a1 g1 : Int, tm_g w2 tp 2 = some (ab_I a1) ∧ tm_g w2 tp 6 = some (ab_I g1) ∧ (a1 = (if a0 + 1 < L ∧ f (a0 + 1) = 61 ∧ (f a0 = 60 ∨ f a0 = 62) then a0 + 2 else a0 + 1) ∧ g1 = (if a0 + 1 < L ∧ f (a0 + 1) = 61 ∧ (f a0 = 60 ∨ f a0 = 62) then (if f a0 = 60 then 256 else 257) else f a0 % 256)))) := by
  have hfb : ∀ j, -128 ≤ f j ∧ f j ≤ 127 := tx_fb hW h_tp.2 hf
  obtain ⟨tpt0, tpt1⟩ := id h_tp
  have hF0 : ∀ (p : Nat) (j : Int), ¬ ((p = tp ∧ (j = 6 ∨ j = 2))) → tm_g w p j = tm_g w p j := fun _ _ _ => rfl
  refine ab_Mt.of rfl (Nat.le_of_ble_eq_true rfl) ?_
  show ab_Ev g_G g_rs mt_Ta_readSign _ _ _ 0 [some (ab_R tp), none] [] _ _
  have b_L : 0 ≤ L ∧ L ≤ 400 := by obtain ⟨a, e, h0, h1⟩ := tm_peek (k := 1) (K := 1) hW tpt0 rfl rfl; rw [k_L] at e; injection e with e; injection e with e; omega
  refine ev_aload_n dt_Ta_readSign_0 rfl rfl ?_
  refine ev_aload_n dt_Ta_readSign_1 rfl rfl ?_
  refine tm_getR dt_Ta_readSign_2 hW tpt0 fl_Ta_9 rfl ?_
  refine ev_aload_n dt_Ta_readSign_5 rfl rfl ?_
  refine tm_getK (K := 2) dt_Ta_readSign_6 hW tpt0 fl_Ta_25 rfl k_a0 ?_
  refine tm_baK dt_Ta_readSign_9 hW tpt1 (by omega) (by omega) (by omega) (hf _) ?_
  have fb31 := hfb a0
  refine ev_sipush dt_Ta_readSign_10 rfl ?_
  refine ev_iand dt_Ta_readSign_13 ?_
  rw [k_byte _ (by omega) (by omega)]
  obtain ⟨v32, hv32⟩ : ∃ v, v = (f a0) % 256 := ⟨_, rfl⟩
  rw [← hv32]
  refine tm_putI (K := 6) dt_Ta_readSign_14 hW tpt0 (fp_Ta_37 _) rfl rfl trivial (by omega) (by omega) (fun w33 hWw33 kkw33 hfw33 => ?_)
  have hFw33 : ∀ (p : Nat) (j : Int), ¬ ((p = tp ∧ (j = 6 ∨ j = 2))) → tm_g w33 p j = tm_g w p j := fun p j h => (hfw33 p j (by omega)).trans (hF0 p j h)
  have z34 := (hfw33 tp 2 (by omega)).trans k_a0
  refine ev_aload_n dt_Ta_readSign_17 rfl rfl ?_
  refine ev_dup dt_Ta_readSign_18 rfl ?_
  refine tm_getK (K := 2) dt_Ta_readSign_19 hWw33 tpt0 fl_Ta_25 rfl z34 ?_
  refine ev_iconst dt_Ta_readSign_22 ?_
  refine ev_iadd dt_Ta_readSign_23 ?_
  refine tm_putI (K := 2) dt_Ta_readSign_24 hWw33 tpt0 (fp_Ta_25 _) rfl rfl trivial (by omega) (by omega) (fun w35 hWw35 kkw35 hfw35 => ?_)
  have hFw35 : ∀ (p : Nat) (j : Int), ¬ ((p = tp ∧ (j = 6 ∨ j = 2))) → tm_g w35 p j = tm_g w p j := fun p j h => (hfw35 p j (by omega)).trans (hFw33 p j h)
  have z36 := (hfw35 tp 6 (by omega)).trans kkw33
  refine ev_aload_n dt_Ta_readSign_27 rfl rfl ?_
  refine tm_getK (K := 2) dt_Ta_readSign_28 hWw35 tpt0 fl_Ta_25 rfl kkw35 ?_
  refine ev_aload_n dt_Ta_readSign_31 rfl rfl ?_
  refine tm_getK (K := 1) dt_Ta_readSign_32 hWw35 tpt0 fl_Ta_21 rfl ((hFw35 tp 1 (by omega)).trans k_L) ?_
  refine ev_icmp_ge (tgt := 56) dt_Ta_readSign_35 (by decide) (by omega) (by omega) (fun h37 => ?_) (fun h37 => ?_)
  · skip
    refine ev_iconst dt_Ta_readSign_56 ?_
    refine ev_istore_n (l' := [_, _]) dt_Ta_readSign_57 rfl (Nat.le_of_ble_eq_true rfl) rfl ?_
    refine ev_iload_n dt_Ta_readSign_58 rfl rfl ?_
    refine ev_if_eq (tgt := 112) dt_Ta_readSign_59 (by decide) (by omega) (fun h38 => ?_) (fun h38 => ?_)
    · skip
      exact ev_return dt_Ta_readSign_112 rfl ⟨hWw35, rfl, ⟨hFw35, (a0 + 1), v32, kkw35, z36, ⟨(by (repeat' split) <;> omega), (by (repeat' split) <;> omega)⟩⟩⟩
    · skip
      exfalso
      omega
  · skip
    refine ev_aload_n dt_Ta_readSign_38 rfl rfl ?_
    refine tm_getR dt_Ta_readSign_39 hWw35 tpt0 fl_Ta_9 rfl ?_
    refine ev_aload_n dt_Ta_readSign_42 rfl rfl ?_
    refine tm_getK (K := 2) dt_Ta_readSign_43 hWw35 tpt0 fl_Ta_25 rfl kkw35 ?_
    refine tm_baK dt_Ta_readSign_46 hWw35 tpt1 (by omega) (by omega) (by omega) (((hFw35 (tp + 1) _ (by omega)).trans (hf _))) ?_
    have fb39 := hfb (a0 + 1)
    refine ev_bipush dt_Ta_readSign_47 rfl ?_
    refine ev_icmp_ne (tgt := 56) dt_Ta_readSign_49 (by decide) (by omega) (by omega) (fun h40 => ?_) (fun h40 => ?_)
    · skip
      refine ev_iconst dt_Ta_readSign_56 ?_
      refine ev_istore_n (l' := [_, _]) dt_Ta_readSign_57 rfl (Nat.le_of_ble_eq_true rfl) rfl ?_
      refine ev_iload_n dt_Ta_readSign_58 rfl rfl ?_
      refine ev_if_eq (tgt := 112) dt_Ta_readSign_59 (by decide) (by omega) (fun h41 => ?_) (fun h41 => ?_)
      · skip
        exact ev_return dt_Ta_readSign_112 rfl ⟨hWw35, rfl, ⟨hFw35, (a0 + 1), v32, kkw35, z36, ⟨(by (repeat' split) <;> omega), (by (repeat' split) <;> omega)⟩⟩⟩
      · skip
        exfalso
        omega
    · skip
      refine ev_iconst dt_Ta_readSign_52 ?_
      refine ev_goto (tgt := 57) dt_Ta_readSign_53 (by decide) ?_
      refine ev_istore_n (l' := [_, _]) dt_Ta_readSign_57 rfl (Nat.le_of_ble_eq_true rfl) rfl ?_
      refine ev_iload_n dt_Ta_readSign_58 rfl rfl ?_
      refine ev_if_eq (tgt := 112) dt_Ta_readSign_59 (by decide) (by omega) (fun h42 => ?_) (fun h42 => ?_)
      · skip
        exfalso
        omega
      · skip
        refine ev_aload_n dt_Ta_readSign_62 rfl rfl ?_
        refine tm_getK (K := 6) dt_Ta_readSign_63 hWw35 tpt0 fl_Ta_37 rfl z36 ?_
        refine ev_bipush dt_Ta_readSign_66 rfl ?_
        refine ev_icmp_eq (tgt := 80) dt_Ta_readSign_68 (by decide) (by omega) (by omega) (fun h43 => ?_) (fun h43 => ?_)
        · skip
          refine ev_aload_n dt_Ta_readSign_80 rfl rfl ?_
          refine ev_aload_n dt_Ta_readSign_81 rfl rfl ?_
          refine tm_getK (K := 6) dt_Ta_readSign_82 hWw35 tpt0 fl_Ta_37 rfl z36 ?_
          refine ev_bipush dt_Ta_readSign_85 rfl ?_
          refine ev_icmp_ne (tgt := 96) dt_Ta_readSign_87 (by decide) (by omega) (by omega) (fun h44 => ?_) (fun h44 => ?_)
          · skip
            exfalso
            omega
          · skip
            refine ev_sipush dt_Ta_readSign_90 rfl ?_
            refine ev_goto (tgt := 99) dt_Ta_readSign_93 (by decide) ?_
            refine tm_putI (K := 6) dt_Ta_readSign_99 hWw35 tpt0 (fp_Ta_37 _) rfl rfl trivial (by omega) (by omega) (fun w45 hWw45 kkw45 hfw45 => ?_)
            have hFw45 : ∀ (p : Nat) (j : Int), ¬ ((p = tp ∧ (j = 6 ∨ j = 2))) → tm_g w45 p j = tm_g w p j := fun p j h => (hfw45 p j (by omega)).trans (hFw35 p j h)
            have z46 := (hfw45 tp 2 (by omega)).trans kkw35
            refine ev_aload_n dt_Ta_readSign_102 rfl rfl ?_
            refine ev_dup dt_Ta_readSign_103 rfl ?_
            refine tm_getK (K := 2) dt_Ta_readSign_104 hWw45 tpt0 fl_Ta_25 rfl z46 ?_
            refine ev_iconst dt_Ta_readSign_107 ?_
            refine ev_iadd dt_Ta_readSign_108 ?_
            refine tm_putI (K := 2) dt_Ta_readSign_109 hWw45 tpt0 (fp_Ta_25 _) rfl rfl trivial (by omega) (by omega) (fun w47 hWw47 kkw47 hfw47 => ?_)
            have hFw47 : ∀ (p : Nat) (j : Int), ¬ ((p = tp ∧ (j = 6 ∨ j = 2))) → tm_g w47 p j = tm_g w p j := fun p j h => (hfw47 p j (by omega)).trans (hFw45 p j h)
            have z48 := (hfw47 tp 6 (by omega)).trans kkw45
            exact ev_return dt_Ta_readSign_112 rfl ⟨hWw47, rfl, ⟨hFw47, ((a0 + 1) + 1), 256, kkw47, z48, ⟨(by (repeat' split) <;> omega), (by (repeat' split) <;> omega)⟩⟩⟩
        · skip
          refine ev_aload_n dt_Ta_readSign_71 rfl rfl ?_
          refine tm_getK (K := 6) dt_Ta_readSign_72 hWw35 tpt0 fl_Ta_37 rfl z36 ?_
          refine ev_bipush dt_Ta_readSign_75 rfl ?_
          refine ev_icmp_ne (tgt := 112) dt_Ta_readSign_77 (by decide) (by omega) (by omega) (fun h49 => ?_) (fun h49 => ?_)
          · skip
            exact ev_return dt_Ta_readSign_112 rfl ⟨hWw35, rfl, ⟨hFw35, (a0 + 1), v32, kkw35, z36, ⟨(by (repeat' split) <;> omega), (by (repeat' split) <;> omega)⟩⟩⟩
          · skip
            refine ev_aload_n dt_Ta_readSign_80 rfl rfl ?_
            refine ev_aload_n dt_Ta_readSign_81 rfl rfl ?_
            refine tm_getK (K := 6) dt_Ta_readSign_82 hWw35 tpt0 fl_Ta_37 rfl z36 ?_
            refine ev_bipush dt_Ta_readSign_85 rfl ?_
            refine ev_icmp_ne (tgt := 96) dt_Ta_readSign_87 (by decide) (by omega) (by omega) (fun h50 => ?_) (fun h50 => ?_)
            · skip
              refine ev_sipush dt_Ta_readSign_96 rfl ?_
              refine tm_putI (K := 6) dt_Ta_readSign_99 hWw35 tpt0 (fp_Ta_37 _) rfl rfl trivial (by omega) (by omega) (fun w51 hWw51 kkw51 hfw51 => ?_)
              have hFw51 : ∀ (p : Nat) (j : Int), ¬ ((p = tp ∧ (j = 6 ∨ j = 2))) → tm_g w51 p j = tm_g w p j := fun p j h => (hfw51 p j (by omega)).trans (hFw35 p j h)
              have z52 := (hfw51 tp 2 (by omega)).trans kkw35
              refine ev_aload_n dt_Ta_readSign_102 rfl rfl ?_
              refine ev_dup dt_Ta_readSign_103 rfl ?_
              refine tm_getK (K := 2) dt_Ta_readSign_104 hWw51 tpt0 fl_Ta_25 rfl z52 ?_
              refine ev_iconst dt_Ta_readSign_107 ?_
              refine ev_iadd dt_Ta_readSign_108 ?_
              refine tm_putI (K := 2) dt_Ta_readSign_109 hWw51 tpt0 (fp_Ta_25 _) rfl rfl trivial (by omega) (by omega) (fun w53 hWw53 kkw53 hfw53 => ?_)
              have hFw53 : ∀ (p : Nat) (j : Int), ¬ ((p = tp ∧ (j = 6 ∨ j = 2))) → tm_g w53 p j = tm_g w p j := fun p j h => (hfw53 p j (by omega)).trans (hFw51 p j h)
              have z54 := (hfw53 tp 6 (by omega)).trans kkw51
              exact ev_return dt_Ta_readSign_112 rfl ⟨hWw53, rfl, ⟨hFw53, ((a0 + 1) + 1), 257, kkw53, z54, ⟨(by (repeat' split) <;> omega), (by (repeat' split) <;> omega)⟩⟩⟩
            · skip
              exfalso
              omega
set_option maxHeartbeats 4000000 in
set_option maxRecDepth 10000 in
theorem tx_Ta_readWord {N : Nat} {T : Nat → tm_S} {w : ab_W} {f : Int → Int} {K : Nat} {tp : Nat} (hW : tm_W N T w) (h_tp : is_Ta T tp) (a0 : Int) (k_a0 : tm_g w tp 2 = some (ab_I a0)) (s0 : Int) (k_s0 : tm_g w tp 5 = some (ab_I s0)) (w0 : Int) (k_w0 : tm_g w tp 8 = some (ab_I w0)) (L : Int) (k_L : tm_g w tp 1 = some (ab_I L)) (hK : K < g_ln.length) (hf : ∀ j, tm_g w (tp + 1) j = some (ab_I (f j))) (kK : tm_g w tp 3 = some (ab_R (ab_sb + K))) (ha : a0 = s0) (hs : s0 ≤ L) (hw : w0 = -1) : ab_Mt g_G g_rs mt_Ta_readWord 4 0 0 [ab_R tp] w (tm_Qv N T (fun w2 => (∀ (p : Nat) (j : Int), ¬ ((p = tp ∧ (j = 2 ∨ j = 8))) → tm_g w2 p j = tm_g w p j) ∧ ∃ a1 w1 : Int, tm_g w2 tp 2 = some (ab_I a1) ∧ tm_g w2 tp 8 = some (ab_I w1) ∧ (a1 = tk_le f L s0 ∧ w1 = k_wl f s0 (tk_le f L s0) (k_bs K) 0 0))) := by
  have hfb : ∀ j, -128 ≤ f j ∧ f j ≤ 127 := tx_fb hW h_tp.2 hf
  obtain ⟨tpt0, tpt1⟩ := id h_tp
  have hF0 : ∀ (p : Nat) (j : Int), ¬ ((p = tp ∧ (j = 2 ∨ j = 8))) → tm_g w p j = tm_g w p j := fun _ _ _ => rfl
  refine ab_Mt.of rfl (Nat.le_of_ble_eq_true rfl) ?_
  show ab_Ev g_G g_rs mt_Ta_readWord _ _ _ 0 [some (ab_R tp), none, none, none, none, none] [] _ _
  have b_a0 : 0 ≤ a0 ∧ a0 ≤ 400 := by obtain ⟨a, e, h0, h1⟩ := tm_peek (k := 2) (K := 2) hW tpt0 rfl rfl; rw [k_a0] at e; injection e with e; injection e with e; omega
  have b_s0 : 0 ≤ s0 ∧ s0 ≤ 400 := by obtain ⟨a, e, h0, h1⟩ := tm_peek (k := 5) (K := 5) hW tpt0 rfl rfl; rw [k_s0] at e; injection e with e; injection e with e; omega
  have b_w0 : (-2147483648) ≤ w0 ∧ w0 ≤ 2147483647 := by obtain ⟨a, e, h0, h1⟩ := tm_peek (k := 8) (K := 8) hW tpt0 rfl rfl; rw [k_w0] at e; injection e with e; injection e with e; omega
  have b_L : 0 ≤ L ∧ L ≤ 400 := by obtain ⟨a, e, h0, h1⟩ := tm_peek (k := 1) (K := 1) hW tpt0 rfl rfl; rw [k_L] at e; injection e with e; injection e with e; omega
  have L55 : ∀ (n : Nat)  (t57 : Int) (t58 : Int) (w56 : ab_W), tm_W N T w56 → (∀ (p : Nat) (j : Int), ¬ ((p = tp ∧ (j = 2 ∨ j = 8))) → tm_g w56 p j = tm_g w p j) → tm_g w56 tp 2 = some (ab_I t57) → tm_g w56 tp 8 = some (ab_I t58) → 0 ≤ t57 → t57 ≤ 400 → (-2147483648) ≤ t58 → t58 ≤ 2147483647 → (tk_le f L t57 = tk_le f L s0) → (t58 = -1) → 400 - t57 < (n : Int) → ab_Ev g_G g_rs mt_Ta_readWord 4 0 0 0 [some (ab_R tp), none, none, none, none, none] [] w56 (tm_Qv N T (fun w2 => (∀ (p : Nat) (j : Int), ¬ ((p = tp ∧ (j = 2 ∨ j = 8))) → tm_g w2 p j = tm_g w p j) ∧ ∃ a1 w1 : Int, tm_g w2 tp 2 = some (ab_I a1) ∧ tm_g w2 tp 8 = some (ab_I w1) ∧ (a1 = tk_le f L s0 ∧ w1 = k_wl f s0 (tk_le f L s0) (k_bs K) 0 0))) := by
    intro n
    induction n with
    | zero =>
      intro  t57 t58 w56 hWw56 hFw56 kt57 kt58 lt57 ut57 lt58 ut58 q0L55 q1L55 mL55
      exfalso
      omega
    | succ nL55 ihL55 =>
      intro  t57 t58 w56 hWw56 hFw56 kt57 kt58 lt57 ut57 lt58 ut58 q0L55 q1L55 mL55
      refine ev_aload_n dt_Ta_readWord_0 rfl rfl ?_
      refine tm_getK (K := 2) dt_Ta_readWord_1 hWw56 tpt0 fl_Ta_25 rfl kt57 ?_
      refine ev_aload_n dt_Ta_readWord_4 rfl rfl ?_
      refine tm_getK (K := 1) dt_Ta_readWord_5 hWw56 tpt0 fl_Ta_21 rfl ((hFw56 tp 1 (by omega)).trans k_L) ?_
      refine ev_icmp_ge (tgt := 52) dt_Ta_readWord_8 (by decide) (by omega) (by omega) (fun h59 => ?_) (fun h59 => ?_)
      · skip
        refine ev_iconst dt_Ta_readWord_52 ?_
        refine ev_istore_n (l' := [_, _, _, _, _, _]) dt_Ta_readWord_53 rfl (Nat.le_of_ble_eq_true rfl) rfl ?_
        refine ev_iconst dt_Ta_readWord_54 ?_
        refine ev_istore_n (l' := [_, _, _, _, _, _]) dt_Ta_readWord_55 rfl (Nat.le_of_ble_eq_true rfl) rfl ?_
        refine ev_iconst dt_Ta_readWord_56 ?_
        refine ev_istore_n (l' := [_, _, _, _, _, _]) dt_Ta_readWord_57 rfl (Nat.le_of_ble_eq_true rfl) rfl ?_
        have L60 : ∀ (n : Nat) (i61 : Int) (i62 : Int) (i63 : Int) (t65 : Int) (t66 : Int) (w64 : ab_W), tm_W N T w64 → (∀ (p : Nat) (j : Int), ¬ ((p = tp ∧ (j = 2 ∨ j = 8))) → tm_g w64 p j = tm_g w p j) → tm_g w64 tp 8 = some (ab_I t65) → tm_g w64 tp 2 = some (ab_I t66) → 0 ≤ i61 → i61 ≤ 1000 → (-1) ≤ i62 → i62 ≤ 400 → 0 ≤ i63 → i63 ≤ 1000 → (-2147483648) ≤ t65 → t65 ≤ 2147483647 → 0 ≤ t66 → t66 ≤ 400 → (i61 ≤ i63) → ((t65 = -1 ∧ k_wl f s0 (tk_le f L s0) ((k_bs K).drop (i63).toNat) i61 i62 = k_wl f s0 (tk_le f L s0) (k_bs K) 0 0) ∨ (0 ≤ t65 ∧ t65 = k_wl f s0 (tk_le f L s0) (k_bs K) 0 0)) → (t66 = tk_le f L s0) → 1000 - i63 < (n : Int) → ab_Ev g_G g_rs mt_Ta_readWord 4 0 0 58 [some (ab_R tp), some (ab_I i61), some (ab_I i62), some (ab_I i63), none, none] [] w64 (tm_Qv N T (fun w2 => (∀ (p : Nat) (j : Int), ¬ ((p = tp ∧ (j = 2 ∨ j = 8))) → tm_g w2 p j = tm_g w p j) ∧ ∃ a1 w1 : Int, tm_g w2 tp 2 = some (ab_I a1) ∧ tm_g w2 tp 8 = some (ab_I w1) ∧ (a1 = tk_le f L s0 ∧ w1 = k_wl f s0 (tk_le f L s0) (k_bs K) 0 0))) := by
          intro n
          induction n with
          | zero =>
            intro i61 i62 i63 t65 t66 w64 hWw64 hFw64 kt65 kt66 li61 ui61 li62 ui62 li63 ui63 lt65 ut65 lt66 ut66 q0L60 q1L60 q2L60 mL60
            exfalso
            omega
          | succ nL60 ihL60 =>
            intro i61 i62 i63 t65 t66 w64 hWw64 hFw64 kt65 kt66 li61 ui61 li62 ui62 li63 ui63 lt65 ut65 lt66 ut66 q0L60 q1L60 q2L60 mL60
            refine ev_iload_n dt_Ta_readWord_58 rfl rfl ?_
            refine ev_aload_n dt_Ta_readWord_59 rfl rfl ?_
            refine tm_getK (K := 3) dt_Ta_readWord_60 hWw64 tpt0 fl_Ta_17 rfl ((hFw64 tp 3 (by omega)).trans kK) ?_
            have hl63_17 : ((g_ln.getD K 0 : Nat) : Int) ≤ 1000 := by have := (sb_all K hK).1; omega
            refine ev_sk dt_Ta_readWord_63 (co_St_length w64 K hK) rfl hK kb_Ta_55 ⟨im_St_length, se_St_length⟩ rfl (Nat.le_of_ble_eq_true rfl) (by decide) ?_
            refine ev_icmp_ge (tgt := 207) dt_Ta_readWord_66 (by decide) (by omega) (by omega) (fun h67 => ?_) (fun h67 => ?_)
            · skip
              exact ev_return dt_Ta_readWord_207 rfl ⟨hWw64, rfl, ⟨hFw64, t66, t65, kt66, kt65, ⟨by omega, (by rcases q1L60 with ⟨qa, qb⟩ | ⟨qa, qb⟩ <;> first | (exfalso; omega) | omega | (rw [k_dropE hK (by omega), k_wl_nil] at qb; omega))⟩⟩⟩
            · skip
              refine ev_aload_n dt_Ta_readWord_69 rfl rfl ?_
              refine tm_getK (K := 8) dt_Ta_readWord_70 hWw64 tpt0 fl_Ta_43 rfl kt65 ?_
              refine ev_iconst dt_Ta_readWord_73 ?_
              refine ev_icmp_ne (tgt := 207) dt_Ta_readWord_74 (by decide) (by omega) (by omega) (fun h68 => ?_) (fun h68 => ?_)
              · skip
                exact ev_return dt_Ta_readWord_207 rfl ⟨hWw64, rfl, ⟨hFw64, t66, t65, kt66, kt65, ⟨by omega, (by rcases q1L60 with ⟨qa, qb⟩ | ⟨qa, qb⟩ <;> first | (exfalso; omega) | omega | (rw [k_dropE hK (by omega), k_wl_nil] at qb; omega))⟩⟩⟩
              · skip
                refine ev_aload_n dt_Ta_readWord_77 rfl rfl ?_
                refine tm_getK (K := 3) dt_Ta_readWord_78 hWw64 tpt0 fl_Ta_17 rfl ((hFw64 tp 3 (by omega)).trans kK) ?_
                refine ev_iload_n dt_Ta_readWord_81 rfl rfl ?_
                refine ev_sk dt_Ta_readWord_82 (co_St_charAt w64 K hK _ (by omega) (by omega)) rfl hK kb_Ta_60 ⟨im_St_charAt, se_St_charAt⟩ rfl (Nat.le_of_ble_eq_true rfl) (by decide) ?_
                obtain ⟨v69, hv69⟩ : ∃ v, v = k_at K i63 := ⟨_, rfl⟩
                have hbv69 : 32 ≤ v69 ∧ v69 ≤ 122 := by rw [hv69]; exact k_at_b hK (by omega) (by omega)
                show ab_Ev _ _ _ _ _ _ _ _ (.inl (k_at K i63) :: _) _ _
                rw [← hv69]
                refine ev_istore (l' := [_, _, _, _, _, _]) dt_Ta_readWord_85 (Nat.le_of_ble_eq_true rfl) rfl ?_
                refine ev_iload dt_Ta_readWord_87 rfl ?_
                refine ev_bipush dt_Ta_readWord_89 rfl ?_
                refine ev_icmp_ne (tgt := 102) dt_Ta_readWord_91 (by decide) (by omega) (by omega) (fun h70 => ?_) (fun h70 => ?_)
                · skip
                  refine ev_iload_n dt_Ta_readWord_102 rfl rfl ?_
                  refine ev_if_lt (tgt := 199) dt_Ta_readWord_103 (by decide) (by omega) (fun h71 => ?_) (fun h71 => ?_)
                  · skip
                    refine ev_iconst dt_Ta_readWord_199 ?_
                    refine ev_istore_n (l' := [_, _, _, _, _, _]) dt_Ta_readWord_200 rfl (Nat.le_of_ble_eq_true rfl) rfl ?_
                    refine ev_iinc (l' := [_, _, _, _, _, _]) dt_Ta_readWord_201 rfl rfl ?_
                    refine ev_goto (tgt := 58) dt_Ta_readWord_204 (by decide) ?_
                    exact tm_loc (tm_le_s (tm_le_s (tm_le_s (tm_le_s (tm_le_n (tm_le_n tm_le_0)))))) (ihL60 (i61) ((-1)) ((i63 + 1)) (t65) (t66) w64 hWw64 hFw64 kt65 kt66 (by omega) (by omega) (by omega) (by omega) (by omega) (by omega) (by omega) (by omega) (by omega) (by omega) (by omega) (by rcases q1L60 with ⟨qa, qb⟩ | ⟨qa, qb⟩; (have hd := k_drop (i := i63) hK (by omega) (by omega); rw [hd] at qb; first | (refine Or.inl ⟨by omega, ?_⟩; rw [show k_at K i63 = 32 by omega, k_wl_bl] at qb; exact qb) | (refine Or.inl ⟨by omega, ?_⟩; rw [k_wl_no (by omega) (by omega)] at qb; exact qb) | (refine Or.inr ⟨by omega, ?_⟩; rw [k_wl_yes (by omega) (by omega) ⟨(k_last hK (by omega) (by omega)).mpr (by omega), by omega⟩] at qb; exact qb) | (refine Or.inl ⟨by omega, ?_⟩; rw [k_wl_on (by omega) (by omega) (fun z => by have z1 := (k_last hK (by omega) (by omega)).mp z.1; have z2 := z.2; omega)] at qb; exact qb)); (exfalso; omega)) (by omega) (by omega))
                  · skip
                    refine ev_aload_n dt_Ta_readWord_106 rfl rfl ?_
                    refine tm_getK (K := 5) dt_Ta_readWord_107 hWw64 tpt0 fl_Ta_34 rfl ((hFw64 tp 5 (by omega)).trans k_s0) ?_
                    refine ev_iload_n dt_Ta_readWord_110 rfl rfl ?_
                    refine ev_iadd dt_Ta_readWord_111 ?_
                    refine ev_aload_n dt_Ta_readWord_112 rfl rfl ?_
                    refine tm_getK (K := 2) dt_Ta_readWord_113 hWw64 tpt0 fl_Ta_25 rfl kt66 ?_
                    refine ev_icmp_ge (tgt := 199) dt_Ta_readWord_116 (by decide) (by omega) (by omega) (fun h72 => ?_) (fun h72 => ?_)
                    · skip
                      refine ev_iconst dt_Ta_readWord_199 ?_
                      refine ev_istore_n (l' := [_, _, _, _, _, _]) dt_Ta_readWord_200 rfl (Nat.le_of_ble_eq_true rfl) rfl ?_
                      refine ev_iinc (l' := [_, _, _, _, _, _]) dt_Ta_readWord_201 rfl rfl ?_
                      refine ev_goto (tgt := 58) dt_Ta_readWord_204 (by decide) ?_
                      exact tm_loc (tm_le_s (tm_le_s (tm_le_s (tm_le_s (tm_le_n (tm_le_n tm_le_0)))))) (ihL60 (i61) ((-1)) ((i63 + 1)) (t65) (t66) w64 hWw64 hFw64 kt65 kt66 (by omega) (by omega) (by omega) (by omega) (by omega) (by omega) (by omega) (by omega) (by omega) (by omega) (by omega) (by rcases q1L60 with ⟨qa, qb⟩ | ⟨qa, qb⟩; (have hd := k_drop (i := i63) hK (by omega) (by omega); rw [hd] at qb; first | (refine Or.inl ⟨by omega, ?_⟩; rw [show k_at K i63 = 32 by omega, k_wl_bl] at qb; exact qb) | (refine Or.inl ⟨by omega, ?_⟩; rw [k_wl_no (by omega) (by omega)] at qb; exact qb) | (refine Or.inr ⟨by omega, ?_⟩; rw [k_wl_yes (by omega) (by omega) ⟨(k_last hK (by omega) (by omega)).mpr (by omega), by omega⟩] at qb; exact qb) | (refine Or.inl ⟨by omega, ?_⟩; rw [k_wl_on (by omega) (by omega) (fun z => by have z1 := (k_last hK (by omega) (by omega)).mp z.1; have z2 := z.2; omega)] at qb; exact qb)); (exfalso; omega)) (by omega) (by omega))
                    · skip
                      refine ev_aload_n dt_Ta_readWord_119 rfl rfl ?_
                      refine tm_getR dt_Ta_readWord_120 hWw64 tpt0 fl_Ta_9 rfl ?_
                      refine ev_aload_n dt_Ta_readWord_123 rfl rfl ?_
                      refine tm_getK (K := 5) dt_Ta_readWord_124 hWw64 tpt0 fl_Ta_34 rfl ((hFw64 tp 5 (by omega)).trans k_s0) ?_
                      refine ev_iload_n dt_Ta_readWord_127 rfl rfl ?_
                      refine ev_iadd dt_Ta_readWord_128 ?_
                      refine tm_baK dt_Ta_readWord_129 hWw64 tpt1 (by omega) (by omega) (by omega) (((hFw64 (tp + 1) _ (by omega)).trans (hf _))) ?_
                      have fb73 := hfb (s0 + i62)
                      refine ev_iload dt_Ta_readWord_130 rfl ?_
                      refine ev_icmp_ne (tgt := 199) dt_Ta_readWord_132 (by decide) (by omega) (by omega) (fun h74 => ?_) (fun h74 => ?_)
                      · skip
                        refine ev_iconst dt_Ta_readWord_199 ?_
                        refine ev_istore_n (l' := [_, _, _, _, _, _]) dt_Ta_readWord_200 rfl (Nat.le_of_ble_eq_true rfl) rfl ?_
                        refine ev_iinc (l' := [_, _, _, _, _, _]) dt_Ta_readWord_201 rfl rfl ?_
                        refine ev_goto (tgt := 58) dt_Ta_readWord_204 (by decide) ?_
                        exact tm_loc (tm_le_s (tm_le_s (tm_le_s (tm_le_s (tm_le_n (tm_le_n tm_le_0)))))) (ihL60 (i61) ((-1)) ((i63 + 1)) (t65) (t66) w64 hWw64 hFw64 kt65 kt66 (by omega) (by omega) (by omega) (by omega) (by omega) (by omega) (by omega) (by omega) (by omega) (by omega) (by omega) (by rcases q1L60 with ⟨qa, qb⟩ | ⟨qa, qb⟩; (have hd := k_drop (i := i63) hK (by omega) (by omega); rw [hd] at qb; first | (refine Or.inl ⟨by omega, ?_⟩; rw [show k_at K i63 = 32 by omega, k_wl_bl] at qb; exact qb) | (refine Or.inl ⟨by omega, ?_⟩; rw [k_wl_no (by omega) (by omega)] at qb; exact qb) | (refine Or.inr ⟨by omega, ?_⟩; rw [k_wl_yes (by omega) (by omega) ⟨(k_last hK (by omega) (by omega)).mpr (by omega), by omega⟩] at qb; exact qb) | (refine Or.inl ⟨by omega, ?_⟩; rw [k_wl_on (by omega) (by omega) (fun z => by have z1 := (k_last hK (by omega) (by omega)).mp z.1; have z2 := z.2; omega)] at qb; exact qb)); (exfalso; omega)) (by omega) (by omega))
                      · skip
                        refine ev_iinc (l' := [_, _, _, _, _, _]) dt_Ta_readWord_135 rfl rfl ?_
                        refine ev_iload_n dt_Ta_readWord_138 rfl rfl ?_
                        refine ev_iconst dt_Ta_readWord_139 ?_
                        refine ev_iadd dt_Ta_readWord_140 ?_
                        refine ev_aload_n dt_Ta_readWord_141 rfl rfl ?_
                        refine tm_getK (K := 3) dt_Ta_readWord_142 hWw64 tpt0 fl_Ta_17 rfl ((hFw64 tp 3 (by omega)).trans kK) ?_
                        have hl145_72 : ((g_ln.getD K 0 : Nat) : Int) ≤ 1000 := by have := (sb_all K hK).1; omega
                        refine ev_sk dt_Ta_readWord_145 (co_St_length w64 K hK) rfl hK kb_Ta_55 ⟨im_St_length, se_St_length⟩ rfl (Nat.le_of_ble_eq_true rfl) (by decide) ?_
                        refine ev_icmp_eq (tgt := 166) dt_Ta_readWord_148 (by decide) (by omega) (by omega) (fun h75 => ?_) (fun h75 => ?_)
                        · skip
                          refine ev_iconst dt_Ta_readWord_166 ?_
                          refine ev_goto (tgt := 171) dt_Ta_readWord_167 (by decide) ?_
                          refine ev_istore (l' := [_, _, _, _, _, _]) dt_Ta_readWord_171 (Nat.le_of_ble_eq_true rfl) rfl ?_
                          refine ev_iload dt_Ta_readWord_173 rfl ?_
                          refine ev_if_eq (tgt := 196) dt_Ta_readWord_175 (by decide) (by omega) (fun h76 => ?_) (fun h76 => ?_)
                          · skip
                            exfalso
                            omega
                          · skip
                            refine ev_aload_n dt_Ta_readWord_178 rfl rfl ?_
                            refine tm_getK (K := 5) dt_Ta_readWord_179 hWw64 tpt0 fl_Ta_34 rfl ((hFw64 tp 5 (by omega)).trans k_s0) ?_
                            refine ev_iload_n dt_Ta_readWord_182 rfl rfl ?_
                            refine ev_iadd dt_Ta_readWord_183 ?_
                            refine ev_aload_n dt_Ta_readWord_184 rfl rfl ?_
                            refine tm_getK (K := 2) dt_Ta_readWord_185 hWw64 tpt0 fl_Ta_25 rfl kt66 ?_
                            refine ev_icmp_ne (tgt := 196) dt_Ta_readWord_188 (by decide) (by omega) (by omega) (fun h77 => ?_) (fun h77 => ?_)
                            · skip
                              refine ev_goto (tgt := 201) dt_Ta_readWord_196 (by decide) ?_
                              refine ev_iinc (l' := [_, _, _, _, _, _]) dt_Ta_readWord_201 rfl rfl ?_
                              refine ev_goto (tgt := 58) dt_Ta_readWord_204 (by decide) ?_
                              exact tm_loc (tm_le_s (tm_le_s (tm_le_s (tm_le_s (tm_le_n (tm_le_n tm_le_0)))))) (ihL60 (i61) ((i62 + 1)) ((i63 + 1)) (t65) (t66) w64 hWw64 hFw64 kt65 kt66 (by omega) (by omega) (by omega) (by omega) (by omega) (by omega) (by omega) (by omega) (by omega) (by omega) (by omega) (by rcases q1L60 with ⟨qa, qb⟩ | ⟨qa, qb⟩; (have hd := k_drop (i := i63) hK (by omega) (by omega); rw [hd] at qb; first | (refine Or.inl ⟨by omega, ?_⟩; rw [show k_at K i63 = 32 by omega, k_wl_bl] at qb; exact qb) | (refine Or.inl ⟨by omega, ?_⟩; rw [k_wl_no (by omega) (by omega)] at qb; exact qb) | (refine Or.inr ⟨by omega, ?_⟩; rw [k_wl_yes (by omega) (by omega) ⟨(k_last hK (by omega) (by omega)).mpr (by omega), by omega⟩] at qb; exact qb) | (refine Or.inl ⟨by omega, ?_⟩; rw [k_wl_on (by omega) (by omega) (fun z => by have z1 := (k_last hK (by omega) (by omega)).mp z.1; have z2 := z.2; omega)] at qb; exact qb)); (exfalso; omega)) (by omega) (by omega))
                            · skip
                              refine ev_aload_n dt_Ta_readWord_191 rfl rfl ?_
                              refine ev_iload_n dt_Ta_readWord_192 rfl rfl ?_
                              refine tm_putI (K := 8) dt_Ta_readWord_193 hWw64 tpt0 (fp_Ta_43 _) rfl rfl trivial (by omega) (by omega) (fun w78 hWw78 kkw78 hfw78 => ?_)
                              have hFw78 : ∀ (p : Nat) (j : Int), ¬ ((p = tp ∧ (j = 2 ∨ j = 8))) → tm_g w78 p j = tm_g w p j := fun p j h => (hfw78 p j (by omega)).trans (hFw64 p j h)
                              have z79 := (hfw78 tp 2 (by omega)).trans kt66
                              refine ev_goto (tgt := 201) dt_Ta_readWord_196 (by decide) ?_
                              refine ev_iinc (l' := [_, _, _, _, _, _]) dt_Ta_readWord_201 rfl rfl ?_
                              refine ev_goto (tgt := 58) dt_Ta_readWord_204 (by decide) ?_
                              exact tm_loc (tm_le_s (tm_le_s (tm_le_s (tm_le_s (tm_le_n (tm_le_n tm_le_0)))))) (ihL60 (i61) ((i62 + 1)) ((i63 + 1)) (i61) (t66) w78 hWw78 hFw78 kkw78 z79 (by omega) (by omega) (by omega) (by omega) (by omega) (by omega) (by omega) (by omega) (by omega) (by omega) (by omega) (by rcases q1L60 with ⟨qa, qb⟩ | ⟨qa, qb⟩; (have hd := k_drop (i := i63) hK (by omega) (by omega); rw [hd] at qb; first | (refine Or.inl ⟨by omega, ?_⟩; rw [show k_at K i63 = 32 by omega, k_wl_bl] at qb; exact qb) | (refine Or.inl ⟨by omega, ?_⟩; rw [k_wl_no (by omega) (by omega)] at qb; exact qb) | (refine Or.inr ⟨by omega, ?_⟩; rw [k_wl_yes (by omega) (by omega) ⟨(k_last hK (by omega) (by omega)).mpr (by omega), by omega⟩] at qb; exact qb) | (refine Or.inl ⟨by omega, ?_⟩; rw [k_wl_on (by omega) (by omega) (fun z => by have z1 := (k_last hK (by omega) (by omega)).mp z.1; have z2 := z.2; omega)] at qb; exact qb)); (exfalso; omega)) (by omega) (by omega))
                        · skip
                          refine ev_aload_n dt_Ta_readWord_151 rfl rfl ?_
                          refine tm_getK (K := 3) dt_Ta_readWord_152 hWw64 tpt0 fl_Ta_17 rfl ((hFw64 tp 3 (by omega)).trans kK) ?_
                          refine ev_iload_n dt_Ta_readWord_155 rfl rfl ?_
                          refine ev_iconst dt_Ta_readWord_156 ?_
                          refine ev_iadd dt_Ta_readWord_157 ?_
                          refine ev_sk dt_Ta_readWord_158 (co_St_charAt w64 K hK _ (by omega) (by omega)) rfl hK kb_Ta_60 ⟨im_St_charAt, se_St_charAt⟩ rfl (Nat.le_of_ble_eq_true rfl) (by decide) ?_
                          obtain ⟨v80, hv80⟩ : ∃ v, v = k_at K (i63 + 1) := ⟨_, rfl⟩
                          have hbv80 : 32 ≤ v80 ∧ v80 ≤ 122 := by rw [hv80]; exact k_at_b hK (by omega) (by omega)
                          show ab_Ev _ _ _ _ _ _ _ _ (.inl (k_at K (i63 + 1)) :: _) _ _
                          rw [← hv80]
                          refine ev_bipush dt_Ta_readWord_161 rfl ?_
                          refine ev_icmp_ne (tgt := 170) dt_Ta_readWord_163 (by decide) (by omega) (by omega) (fun h81 => ?_) (fun h81 => ?_)
                          · skip
                            refine ev_iconst dt_Ta_readWord_170 ?_
                            refine ev_istore (l' := [_, _, _, _, _, _]) dt_Ta_readWord_171 (Nat.le_of_ble_eq_true rfl) rfl ?_
                            refine ev_iload dt_Ta_readWord_173 rfl ?_
                            refine ev_if_eq (tgt := 196) dt_Ta_readWord_175 (by decide) (by omega) (fun h82 => ?_) (fun h82 => ?_)
                            · skip
                              refine ev_goto (tgt := 201) dt_Ta_readWord_196 (by decide) ?_
                              refine ev_iinc (l' := [_, _, _, _, _, _]) dt_Ta_readWord_201 rfl rfl ?_
                              refine ev_goto (tgt := 58) dt_Ta_readWord_204 (by decide) ?_
                              exact tm_loc (tm_le_s (tm_le_s (tm_le_s (tm_le_s (tm_le_n (tm_le_n tm_le_0)))))) (ihL60 (i61) ((i62 + 1)) ((i63 + 1)) (t65) (t66) w64 hWw64 hFw64 kt65 kt66 (by omega) (by omega) (by omega) (by omega) (by omega) (by omega) (by omega) (by omega) (by omega) (by omega) (by omega) (by rcases q1L60 with ⟨qa, qb⟩ | ⟨qa, qb⟩; (have hd := k_drop (i := i63) hK (by omega) (by omega); rw [hd] at qb; first | (refine Or.inl ⟨by omega, ?_⟩; rw [show k_at K i63 = 32 by omega, k_wl_bl] at qb; exact qb) | (refine Or.inl ⟨by omega, ?_⟩; rw [k_wl_no (by omega) (by omega)] at qb; exact qb) | (refine Or.inr ⟨by omega, ?_⟩; rw [k_wl_yes (by omega) (by omega) ⟨(k_last hK (by omega) (by omega)).mpr (by omega), by omega⟩] at qb; exact qb) | (refine Or.inl ⟨by omega, ?_⟩; rw [k_wl_on (by omega) (by omega) (fun z => by have z1 := (k_last hK (by omega) (by omega)).mp z.1; have z2 := z.2; omega)] at qb; exact qb)); (exfalso; omega)) (by omega) (by omega))
                            · skip
                              exfalso
                              omega
                          · skip
                            refine ev_iconst dt_Ta_readWord_166 ?_
                            refine ev_goto (tgt := 171) dt_Ta_readWord_167 (by decide) ?_
                            refine ev_istore (l' := [_, _, _, _, _, _]) dt_Ta_readWord_171 (Nat.le_of_ble_eq_true rfl) rfl ?_
                            refine ev_iload dt_Ta_readWord_173 rfl ?_
                            refine ev_if_eq (tgt := 196) dt_Ta_readWord_175 (by decide) (by omega) (fun h83 => ?_) (fun h83 => ?_)
                            · skip
                              exfalso
                              omega
                            · skip
                              refine ev_aload_n dt_Ta_readWord_178 rfl rfl ?_
                              refine tm_getK (K := 5) dt_Ta_readWord_179 hWw64 tpt0 fl_Ta_34 rfl ((hFw64 tp 5 (by omega)).trans k_s0) ?_
                              refine ev_iload_n dt_Ta_readWord_182 rfl rfl ?_
                              refine ev_iadd dt_Ta_readWord_183 ?_
                              refine ev_aload_n dt_Ta_readWord_184 rfl rfl ?_
                              refine tm_getK (K := 2) dt_Ta_readWord_185 hWw64 tpt0 fl_Ta_25 rfl kt66 ?_
                              refine ev_icmp_ne (tgt := 196) dt_Ta_readWord_188 (by decide) (by omega) (by omega) (fun h84 => ?_) (fun h84 => ?_)
                              · skip
                                refine ev_goto (tgt := 201) dt_Ta_readWord_196 (by decide) ?_
                                refine ev_iinc (l' := [_, _, _, _, _, _]) dt_Ta_readWord_201 rfl rfl ?_
                                refine ev_goto (tgt := 58) dt_Ta_readWord_204 (by decide) ?_
                                exact tm_loc (tm_le_s (tm_le_s (tm_le_s (tm_le_s (tm_le_n (tm_le_n tm_le_0)))))) (ihL60 (i61) ((i62 + 1)) ((i63 + 1)) (t65) (t66) w64 hWw64 hFw64 kt65 kt66 (by omega) (by omega) (by omega) (by omega) (by omega) (by omega) (by omega) (by omega) (by omega) (by omega) (by omega) (by rcases q1L60 with ⟨qa, qb⟩ | ⟨qa, qb⟩; (have hd := k_drop (i := i63) hK (by omega) (by omega); rw [hd] at qb; first | (refine Or.inl ⟨by omega, ?_⟩; rw [show k_at K i63 = 32 by omega, k_wl_bl] at qb; exact qb) | (refine Or.inl ⟨by omega, ?_⟩; rw [k_wl_no (by omega) (by omega)] at qb; exact qb) | (refine Or.inr ⟨by omega, ?_⟩; rw [k_wl_yes (by omega) (by omega) ⟨(k_last hK (by omega) (by omega)).mpr (by omega), by omega⟩] at qb; exact qb) | (refine Or.inl ⟨by omega, ?_⟩; rw [k_wl_on (by omega) (by omega) (fun z => by have z1 := (k_last hK (by omega) (by omega)).mp z.1; have z2 := z.2; omega)] at qb; exact qb)); (exfalso; omega)) (by omega) (by omega))
                              · skip
                                refine ev_aload_n dt_Ta_readWord_191 rfl rfl ?_
                                refine ev_iload_n dt_Ta_readWord_192 rfl rfl ?_
                                refine tm_putI (K := 8) dt_Ta_readWord_193 hWw64 tpt0 (fp_Ta_43 _) rfl rfl trivial (by omega) (by omega) (fun w85 hWw85 kkw85 hfw85 => ?_)
                                have hFw85 : ∀ (p : Nat) (j : Int), ¬ ((p = tp ∧ (j = 2 ∨ j = 8))) → tm_g w85 p j = tm_g w p j := fun p j h => (hfw85 p j (by omega)).trans (hFw64 p j h)
                                have z86 := (hfw85 tp 2 (by omega)).trans kt66
                                refine ev_goto (tgt := 201) dt_Ta_readWord_196 (by decide) ?_
                                refine ev_iinc (l' := [_, _, _, _, _, _]) dt_Ta_readWord_201 rfl rfl ?_
                                refine ev_goto (tgt := 58) dt_Ta_readWord_204 (by decide) ?_
                                exact tm_loc (tm_le_s (tm_le_s (tm_le_s (tm_le_s (tm_le_n (tm_le_n tm_le_0)))))) (ihL60 (i61) ((i62 + 1)) ((i63 + 1)) (i61) (t66) w85 hWw85 hFw85 kkw85 z86 (by omega) (by omega) (by omega) (by omega) (by omega) (by omega) (by omega) (by omega) (by omega) (by omega) (by omega) (by rcases q1L60 with ⟨qa, qb⟩ | ⟨qa, qb⟩; (have hd := k_drop (i := i63) hK (by omega) (by omega); rw [hd] at qb; first | (refine Or.inl ⟨by omega, ?_⟩; rw [show k_at K i63 = 32 by omega, k_wl_bl] at qb; exact qb) | (refine Or.inl ⟨by omega, ?_⟩; rw [k_wl_no (by omega) (by omega)] at qb; exact qb) | (refine Or.inr ⟨by omega, ?_⟩; rw [k_wl_yes (by omega) (by omega) ⟨(k_last hK (by omega) (by omega)).mpr (by omega), by omega⟩] at qb; exact qb) | (refine Or.inl ⟨by omega, ?_⟩; rw [k_wl_on (by omega) (by omega) (fun z => by have z1 := (k_last hK (by omega) (by omega)).mp z.1; have z2 := z.2; omega)] at qb; exact qb)); (exfalso; omega)) (by omega) (by omega))
                · skip
                  refine ev_iinc (l' := [_, _, _, _, _, _]) dt_Ta_readWord_94 rfl rfl ?_
                  refine ev_iconst dt_Ta_readWord_97 ?_
                  refine ev_istore_n (l' := [_, _, _, _, _, _]) dt_Ta_readWord_98 rfl (Nat.le_of_ble_eq_true rfl) rfl ?_
                  refine ev_goto (tgt := 201) dt_Ta_readWord_99 (by decide) ?_
                  refine ev_iinc (l' := [_, _, _, _, _, _]) dt_Ta_readWord_201 rfl rfl ?_
                  refine ev_goto (tgt := 58) dt_Ta_readWord_204 (by decide) ?_
                  exact tm_loc (tm_le_s (tm_le_s (tm_le_s (tm_le_s (tm_le_n (tm_le_n tm_le_0)))))) (ihL60 ((i61 + 1)) (0) ((i63 + 1)) (t65) (t66) w64 hWw64 hFw64 kt65 kt66 (by omega) (by omega) (by omega) (by omega) (by omega) (by omega) (by omega) (by omega) (by omega) (by omega) (by omega) (by rcases q1L60 with ⟨qa, qb⟩ | ⟨qa, qb⟩; (have hd := k_drop (i := i63) hK (by omega) (by omega); rw [hd] at qb; first | (refine Or.inl ⟨by omega, ?_⟩; rw [show k_at K i63 = 32 by omega, k_wl_bl] at qb; exact qb) | (refine Or.inl ⟨by omega, ?_⟩; rw [k_wl_no (by omega) (by omega)] at qb; exact qb) | (refine Or.inr ⟨by omega, ?_⟩; rw [k_wl_yes (by omega) (by omega) ⟨(k_last hK (by omega) (by omega)).mpr (by omega), by omega⟩] at qb; exact qb) | (refine Or.inl ⟨by omega, ?_⟩; rw [k_wl_on (by omega) (by omega) (fun z => by have z1 := (k_last hK (by omega) (by omega)).mp z.1; have z2 := z.2; omega)] at qb; exact qb)); (exfalso; omega)) (by omega) (by omega))
        exact tm_loc (tm_le_s (tm_le_s (tm_le_s (tm_le_s (tm_le_n (tm_le_n tm_le_0)))))) (L60 (1000 - (0) + 1 : Int).toNat (0) (0) (0) (t58) (t57) w56 hWw56 hFw56 kt58 kt57 (by omega) (by omega) (by omega) (by omega) (by omega) (by omega) (by omega) (by omega) (by omega) (by omega) (by omega) (Or.inl ⟨by omega, by rfl⟩) (k_le_fin q0L55 (by omega)) (by omega))
      · skip
        refine ev_aload_n dt_Ta_readWord_11 rfl rfl ?_
        refine tm_getR dt_Ta_readWord_12 hWw56 tpt0 fl_Ta_9 rfl ?_
        refine ev_aload_n dt_Ta_readWord_15 rfl rfl ?_
        refine tm_getK (K := 2) dt_Ta_readWord_16 hWw56 tpt0 fl_Ta_25 rfl kt57 ?_
        refine tm_baK dt_Ta_readWord_19 hWw56 tpt1 (by omega) (by omega) (by omega) (((hFw56 (tp + 1) _ (by omega)).trans (hf _))) ?_
        have fb87 := hfb t57
        refine ev_bipush dt_Ta_readWord_20 rfl ?_
        refine ev_icmp_lt (tgt := 52) dt_Ta_readWord_22 (by decide) (by omega) (by omega) (fun h88 => ?_) (fun h88 => ?_)
        · skip
          refine ev_iconst dt_Ta_readWord_52 ?_
          refine ev_istore_n (l' := [_, _, _, _, _, _]) dt_Ta_readWord_53 rfl (Nat.le_of_ble_eq_true rfl) rfl ?_
          refine ev_iconst dt_Ta_readWord_54 ?_
          refine ev_istore_n (l' := [_, _, _, _, _, _]) dt_Ta_readWord_55 rfl (Nat.le_of_ble_eq_true rfl) rfl ?_
          refine ev_iconst dt_Ta_readWord_56 ?_
          refine ev_istore_n (l' := [_, _, _, _, _, _]) dt_Ta_readWord_57 rfl (Nat.le_of_ble_eq_true rfl) rfl ?_
          have L89 : ∀ (n : Nat) (i90 : Int) (i91 : Int) (i92 : Int) (t94 : Int) (t95 : Int) (w93 : ab_W), tm_W N T w93 → (∀ (p : Nat) (j : Int), ¬ ((p = tp ∧ (j = 2 ∨ j = 8))) → tm_g w93 p j = tm_g w p j) → tm_g w93 tp 8 = some (ab_I t94) → tm_g w93 tp 2 = some (ab_I t95) → 0 ≤ i90 → i90 ≤ 1000 → (-1) ≤ i91 → i91 ≤ 400 → 0 ≤ i92 → i92 ≤ 1000 → (-2147483648) ≤ t94 → t94 ≤ 2147483647 → 0 ≤ t95 → t95 ≤ 400 → (i90 ≤ i92) → ((t94 = -1 ∧ k_wl f s0 (tk_le f L s0) ((k_bs K).drop (i92).toNat) i90 i91 = k_wl f s0 (tk_le f L s0) (k_bs K) 0 0) ∨ (0 ≤ t94 ∧ t94 = k_wl f s0 (tk_le f L s0) (k_bs K) 0 0)) → (t95 = tk_le f L s0) → 1000 - i92 < (n : Int) → ab_Ev g_G g_rs mt_Ta_readWord 4 0 0 58 [some (ab_R tp), some (ab_I i90), some (ab_I i91), some (ab_I i92), none, none] [] w93 (tm_Qv N T (fun w2 => (∀ (p : Nat) (j : Int), ¬ ((p = tp ∧ (j = 2 ∨ j = 8))) → tm_g w2 p j = tm_g w p j) ∧ ∃ a1 w1 : Int, tm_g w2 tp 2 = some (ab_I a1) ∧ tm_g w2 tp 8 = some (ab_I w1) ∧ (a1 = tk_le f L s0 ∧ w1 = k_wl f s0 (tk_le f L s0) (k_bs K) 0 0))) := by
            intro n
            induction n with
            | zero =>
              intro i90 i91 i92 t94 t95 w93 hWw93 hFw93 kt94 kt95 li90 ui90 li91 ui91 li92 ui92 lt94 ut94 lt95 ut95 q0L89 q1L89 q2L89 mL89
              exfalso
              omega
            | succ nL89 ihL89 =>
              intro i90 i91 i92 t94 t95 w93 hWw93 hFw93 kt94 kt95 li90 ui90 li91 ui91 li92 ui92 lt94 ut94 lt95 ut95 q0L89 q1L89 q2L89 mL89
              refine ev_iload_n dt_Ta_readWord_58 rfl rfl ?_
              refine ev_aload_n dt_Ta_readWord_59 rfl rfl ?_
              refine tm_getK (K := 3) dt_Ta_readWord_60 hWw93 tpt0 fl_Ta_17 rfl ((hFw93 tp 3 (by omega)).trans kK) ?_
              have hl63_160 : ((g_ln.getD K 0 : Nat) : Int) ≤ 1000 := by have := (sb_all K hK).1; omega
              refine ev_sk dt_Ta_readWord_63 (co_St_length w93 K hK) rfl hK kb_Ta_55 ⟨im_St_length, se_St_length⟩ rfl (Nat.le_of_ble_eq_true rfl) (by decide) ?_
              refine ev_icmp_ge (tgt := 207) dt_Ta_readWord_66 (by decide) (by omega) (by omega) (fun h96 => ?_) (fun h96 => ?_)
              · skip
                exact ev_return dt_Ta_readWord_207 rfl ⟨hWw93, rfl, ⟨hFw93, t95, t94, kt95, kt94, ⟨by omega, (by rcases q1L89 with ⟨qa, qb⟩ | ⟨qa, qb⟩ <;> first | (exfalso; omega) | omega | (rw [k_dropE hK (by omega), k_wl_nil] at qb; omega))⟩⟩⟩
              · skip
                refine ev_aload_n dt_Ta_readWord_69 rfl rfl ?_
                refine tm_getK (K := 8) dt_Ta_readWord_70 hWw93 tpt0 fl_Ta_43 rfl kt94 ?_
                refine ev_iconst dt_Ta_readWord_73 ?_
                refine ev_icmp_ne (tgt := 207) dt_Ta_readWord_74 (by decide) (by omega) (by omega) (fun h97 => ?_) (fun h97 => ?_)
                · skip
                  exact ev_return dt_Ta_readWord_207 rfl ⟨hWw93, rfl, ⟨hFw93, t95, t94, kt95, kt94, ⟨by omega, (by rcases q1L89 with ⟨qa, qb⟩ | ⟨qa, qb⟩ <;> first | (exfalso; omega) | omega | (rw [k_dropE hK (by omega), k_wl_nil] at qb; omega))⟩⟩⟩
                · skip
                  refine ev_aload_n dt_Ta_readWord_77 rfl rfl ?_
                  refine tm_getK (K := 3) dt_Ta_readWord_78 hWw93 tpt0 fl_Ta_17 rfl ((hFw93 tp 3 (by omega)).trans kK) ?_
                  refine ev_iload_n dt_Ta_readWord_81 rfl rfl ?_
                  refine ev_sk dt_Ta_readWord_82 (co_St_charAt w93 K hK _ (by omega) (by omega)) rfl hK kb_Ta_60 ⟨im_St_charAt, se_St_charAt⟩ rfl (Nat.le_of_ble_eq_true rfl) (by decide) ?_
                  obtain ⟨v98, hv98⟩ : ∃ v, v = k_at K i92 := ⟨_, rfl⟩
                  have hbv98 : 32 ≤ v98 ∧ v98 ≤ 122 := by rw [hv98]; exact k_at_b hK (by omega) (by omega)
                  show ab_Ev _ _ _ _ _ _ _ _ (.inl (k_at K i92) :: _) _ _
                  rw [← hv98]
                  refine ev_istore (l' := [_, _, _, _, _, _]) dt_Ta_readWord_85 (Nat.le_of_ble_eq_true rfl) rfl ?_
                  refine ev_iload dt_Ta_readWord_87 rfl ?_
                  refine ev_bipush dt_Ta_readWord_89 rfl ?_
                  refine ev_icmp_ne (tgt := 102) dt_Ta_readWord_91 (by decide) (by omega) (by omega) (fun h99 => ?_) (fun h99 => ?_)
                  · skip
                    refine ev_iload_n dt_Ta_readWord_102 rfl rfl ?_
                    refine ev_if_lt (tgt := 199) dt_Ta_readWord_103 (by decide) (by omega) (fun h100 => ?_) (fun h100 => ?_)
                    · skip
                      refine ev_iconst dt_Ta_readWord_199 ?_
                      refine ev_istore_n (l' := [_, _, _, _, _, _]) dt_Ta_readWord_200 rfl (Nat.le_of_ble_eq_true rfl) rfl ?_
                      refine ev_iinc (l' := [_, _, _, _, _, _]) dt_Ta_readWord_201 rfl rfl ?_
                      refine ev_goto (tgt := 58) dt_Ta_readWord_204 (by decide) ?_
                      exact tm_loc (tm_le_s (tm_le_s (tm_le_s (tm_le_s (tm_le_n (tm_le_n tm_le_0)))))) (ihL89 (i90) ((-1)) ((i92 + 1)) (t94) (t95) w93 hWw93 hFw93 kt94 kt95 (by omega) (by omega) (by omega) (by omega) (by omega) (by omega) (by omega) (by omega) (by omega) (by omega) (by omega) (by rcases q1L89 with ⟨qa, qb⟩ | ⟨qa, qb⟩; (have hd := k_drop (i := i92) hK (by omega) (by omega); rw [hd] at qb; first | (refine Or.inl ⟨by omega, ?_⟩; rw [show k_at K i92 = 32 by omega, k_wl_bl] at qb; exact qb) | (refine Or.inl ⟨by omega, ?_⟩; rw [k_wl_no (by omega) (by omega)] at qb; exact qb) | (refine Or.inr ⟨by omega, ?_⟩; rw [k_wl_yes (by omega) (by omega) ⟨(k_last hK (by omega) (by omega)).mpr (by omega), by omega⟩] at qb; exact qb) | (refine Or.inl ⟨by omega, ?_⟩; rw [k_wl_on (by omega) (by omega) (fun z => by have z1 := (k_last hK (by omega) (by omega)).mp z.1; have z2 := z.2; omega)] at qb; exact qb)); (exfalso; omega)) (by omega) (by omega))
                    · skip
                      refine ev_aload_n dt_Ta_readWord_106 rfl rfl ?_
                      refine tm_getK (K := 5) dt_Ta_readWord_107 hWw93 tpt0 fl_Ta_34 rfl ((hFw93 tp 5 (by omega)).trans k_s0) ?_
                      refine ev_iload_n dt_Ta_readWord_110 rfl rfl ?_
                      refine ev_iadd dt_Ta_readWord_111 ?_
                      refine ev_aload_n dt_Ta_readWord_112 rfl rfl ?_
                      refine tm_getK (K := 2) dt_Ta_readWord_113 hWw93 tpt0 fl_Ta_25 rfl kt95 ?_
                      refine ev_icmp_ge (tgt := 199) dt_Ta_readWord_116 (by decide) (by omega) (by omega) (fun h101 => ?_) (fun h101 => ?_)
                      · skip
                        refine ev_iconst dt_Ta_readWord_199 ?_
                        refine ev_istore_n (l' := [_, _, _, _, _, _]) dt_Ta_readWord_200 rfl (Nat.le_of_ble_eq_true rfl) rfl ?_
                        refine ev_iinc (l' := [_, _, _, _, _, _]) dt_Ta_readWord_201 rfl rfl ?_
                        refine ev_goto (tgt := 58) dt_Ta_readWord_204 (by decide) ?_
                        exact tm_loc (tm_le_s (tm_le_s (tm_le_s (tm_le_s (tm_le_n (tm_le_n tm_le_0)))))) (ihL89 (i90) ((-1)) ((i92 + 1)) (t94) (t95) w93 hWw93 hFw93 kt94 kt95 (by omega) (by omega) (by omega) (by omega) (by omega) (by omega) (by omega) (by omega) (by omega) (by omega) (by omega) (by rcases q1L89 with ⟨qa, qb⟩ | ⟨qa, qb⟩; (have hd := k_drop (i := i92) hK (by omega) (by omega); rw [hd] at qb; first | (refine Or.inl ⟨by omega, ?_⟩; rw [show k_at K i92 = 32 by omega, k_wl_bl] at qb; exact qb) | (refine Or.inl ⟨by omega, ?_⟩; rw [k_wl_no (by omega) (by omega)] at qb; exact qb) | (refine Or.inr ⟨by omega, ?_⟩; rw [k_wl_yes (by omega) (by omega) ⟨(k_last hK (by omega) (by omega)).mpr (by omega), by omega⟩] at qb; exact qb) | (refine Or.inl ⟨by omega, ?_⟩; rw [k_wl_on (by omega) (by omega) (fun z => by have z1 := (k_last hK (by omega) (by omega)).mp z.1; have z2 := z.2; omega)] at qb; exact qb)); (exfalso; omega)) (by omega) (by omega))
                      · skip
                        refine ev_aload_n dt_Ta_readWord_119 rfl rfl ?_
                        refine tm_getR dt_Ta_readWord_120 hWw93 tpt0 fl_Ta_9 rfl ?_
                        refine ev_aload_n dt_Ta_readWord_123 rfl rfl ?_
                        refine tm_getK (K := 5) dt_Ta_readWord_124 hWw93 tpt0 fl_Ta_34 rfl ((hFw93 tp 5 (by omega)).trans k_s0) ?_
                        refine ev_iload_n dt_Ta_readWord_127 rfl rfl ?_
                        refine ev_iadd dt_Ta_readWord_128 ?_
                        refine tm_baK dt_Ta_readWord_129 hWw93 tpt1 (by omega) (by omega) (by omega) (((hFw93 (tp + 1) _ (by omega)).trans (hf _))) ?_
                        have fb102 := hfb (s0 + i91)
                        refine ev_iload dt_Ta_readWord_130 rfl ?_
                        refine ev_icmp_ne (tgt := 199) dt_Ta_readWord_132 (by decide) (by omega) (by omega) (fun h103 => ?_) (fun h103 => ?_)
                        · skip
                          refine ev_iconst dt_Ta_readWord_199 ?_
                          refine ev_istore_n (l' := [_, _, _, _, _, _]) dt_Ta_readWord_200 rfl (Nat.le_of_ble_eq_true rfl) rfl ?_
                          refine ev_iinc (l' := [_, _, _, _, _, _]) dt_Ta_readWord_201 rfl rfl ?_
                          refine ev_goto (tgt := 58) dt_Ta_readWord_204 (by decide) ?_
                          exact tm_loc (tm_le_s (tm_le_s (tm_le_s (tm_le_s (tm_le_n (tm_le_n tm_le_0)))))) (ihL89 (i90) ((-1)) ((i92 + 1)) (t94) (t95) w93 hWw93 hFw93 kt94 kt95 (by omega) (by omega) (by omega) (by omega) (by omega) (by omega) (by omega) (by omega) (by omega) (by omega) (by omega) (by rcases q1L89 with ⟨qa, qb⟩ | ⟨qa, qb⟩; (have hd := k_drop (i := i92) hK (by omega) (by omega); rw [hd] at qb; first | (refine Or.inl ⟨by omega, ?_⟩; rw [show k_at K i92 = 32 by omega, k_wl_bl] at qb; exact qb) | (refine Or.inl ⟨by omega, ?_⟩; rw [k_wl_no (by omega) (by omega)] at qb; exact qb) | (refine Or.inr ⟨by omega, ?_⟩; rw [k_wl_yes (by omega) (by omega) ⟨(k_last hK (by omega) (by omega)).mpr (by omega), by omega⟩] at qb; exact qb) | (refine Or.inl ⟨by omega, ?_⟩; rw [k_wl_on (by omega) (by omega) (fun z => by have z1 := (k_last hK (by omega) (by omega)).mp z.1; have z2 := z.2; omega)] at qb; exact qb)); (exfalso; omega)) (by omega) (by omega))
                        · skip
                          refine ev_iinc (l' := [_, _, _, _, _, _]) dt_Ta_readWord_135 rfl rfl ?_
                          refine ev_iload_n dt_Ta_readWord_138 rfl rfl ?_
                          refine ev_iconst dt_Ta_readWord_139 ?_
                          refine ev_iadd dt_Ta_readWord_140 ?_
                          refine ev_aload_n dt_Ta_readWord_141 rfl rfl ?_
                          refine tm_getK (K := 3) dt_Ta_readWord_142 hWw93 tpt0 fl_Ta_17 rfl ((hFw93 tp 3 (by omega)).trans kK) ?_
                          have hl145_215 : ((g_ln.getD K 0 : Nat) : Int) ≤ 1000 := by have := (sb_all K hK).1; omega
                          refine ev_sk dt_Ta_readWord_145 (co_St_length w93 K hK) rfl hK kb_Ta_55 ⟨im_St_length, se_St_length⟩ rfl (Nat.le_of_ble_eq_true rfl) (by decide) ?_
                          refine ev_icmp_eq (tgt := 166) dt_Ta_readWord_148 (by decide) (by omega) (by omega) (fun h104 => ?_) (fun h104 => ?_)
                          · skip
                            refine ev_iconst dt_Ta_readWord_166 ?_
                            refine ev_goto (tgt := 171) dt_Ta_readWord_167 (by decide) ?_
                            refine ev_istore (l' := [_, _, _, _, _, _]) dt_Ta_readWord_171 (Nat.le_of_ble_eq_true rfl) rfl ?_
                            refine ev_iload dt_Ta_readWord_173 rfl ?_
                            refine ev_if_eq (tgt := 196) dt_Ta_readWord_175 (by decide) (by omega) (fun h105 => ?_) (fun h105 => ?_)
                            · skip
                              exfalso
                              omega
                            · skip
                              refine ev_aload_n dt_Ta_readWord_178 rfl rfl ?_
                              refine tm_getK (K := 5) dt_Ta_readWord_179 hWw93 tpt0 fl_Ta_34 rfl ((hFw93 tp 5 (by omega)).trans k_s0) ?_
                              refine ev_iload_n dt_Ta_readWord_182 rfl rfl ?_
                              refine ev_iadd dt_Ta_readWord_183 ?_
                              refine ev_aload_n dt_Ta_readWord_184 rfl rfl ?_
                              refine tm_getK (K := 2) dt_Ta_readWord_185 hWw93 tpt0 fl_Ta_25 rfl kt95 ?_
                              refine ev_icmp_ne (tgt := 196) dt_Ta_readWord_188 (by decide) (by omega) (by omega) (fun h106 => ?_) (fun h106 => ?_)
                              · skip
                                refine ev_goto (tgt := 201) dt_Ta_readWord_196 (by decide) ?_
                                refine ev_iinc (l' := [_, _, _, _, _, _]) dt_Ta_readWord_201 rfl rfl ?_
                                refine ev_goto (tgt := 58) dt_Ta_readWord_204 (by decide) ?_
                                exact tm_loc (tm_le_s (tm_le_s (tm_le_s (tm_le_s (tm_le_n (tm_le_n tm_le_0)))))) (ihL89 (i90) ((i91 + 1)) ((i92 + 1)) (t94) (t95) w93 hWw93 hFw93 kt94 kt95 (by omega) (by omega) (by omega) (by omega) (by omega) (by omega) (by omega) (by omega) (by omega) (by omega) (by omega) (by rcases q1L89 with ⟨qa, qb⟩ | ⟨qa, qb⟩; (have hd := k_drop (i := i92) hK (by omega) (by omega); rw [hd] at qb; first | (refine Or.inl ⟨by omega, ?_⟩; rw [show k_at K i92 = 32 by omega, k_wl_bl] at qb; exact qb) | (refine Or.inl ⟨by omega, ?_⟩; rw [k_wl_no (by omega) (by omega)] at qb; exact qb) | (refine Or.inr ⟨by omega, ?_⟩; rw [k_wl_yes (by omega) (by omega) ⟨(k_last hK (by omega) (by omega)).mpr (by omega), by omega⟩] at qb; exact qb) | (refine Or.inl ⟨by omega, ?_⟩; rw [k_wl_on (by omega) (by omega) (fun z => by have z1 := (k_last hK (by omega) (by omega)).mp z.1; have z2 := z.2; omega)] at qb; exact qb)); (exfalso; omega)) (by omega) (by omega))
                              · skip
                                refine ev_aload_n dt_Ta_readWord_191 rfl rfl ?_
                                refine ev_iload_n dt_Ta_readWord_192 rfl rfl ?_
                                refine tm_putI (K := 8) dt_Ta_readWord_193 hWw93 tpt0 (fp_Ta_43 _) rfl rfl trivial (by omega) (by omega) (fun w107 hWw107 kkw107 hfw107 => ?_)
                                have hFw107 : ∀ (p : Nat) (j : Int), ¬ ((p = tp ∧ (j = 2 ∨ j = 8))) → tm_g w107 p j = tm_g w p j := fun p j h => (hfw107 p j (by omega)).trans (hFw93 p j h)
                                have z108 := (hfw107 tp 2 (by omega)).trans kt95
                                refine ev_goto (tgt := 201) dt_Ta_readWord_196 (by decide) ?_
                                refine ev_iinc (l' := [_, _, _, _, _, _]) dt_Ta_readWord_201 rfl rfl ?_
                                refine ev_goto (tgt := 58) dt_Ta_readWord_204 (by decide) ?_
                                exact tm_loc (tm_le_s (tm_le_s (tm_le_s (tm_le_s (tm_le_n (tm_le_n tm_le_0)))))) (ihL89 (i90) ((i91 + 1)) ((i92 + 1)) (i90) (t95) w107 hWw107 hFw107 kkw107 z108 (by omega) (by omega) (by omega) (by omega) (by omega) (by omega) (by omega) (by omega) (by omega) (by omega) (by omega) (by rcases q1L89 with ⟨qa, qb⟩ | ⟨qa, qb⟩; (have hd := k_drop (i := i92) hK (by omega) (by omega); rw [hd] at qb; first | (refine Or.inl ⟨by omega, ?_⟩; rw [show k_at K i92 = 32 by omega, k_wl_bl] at qb; exact qb) | (refine Or.inl ⟨by omega, ?_⟩; rw [k_wl_no (by omega) (by omega)] at qb; exact qb) | (refine Or.inr ⟨by omega, ?_⟩; rw [k_wl_yes (by omega) (by omega) ⟨(k_last hK (by omega) (by omega)).mpr (by omega), by omega⟩] at qb; exact qb) | (refine Or.inl ⟨by omega, ?_⟩; rw [k_wl_on (by omega) (by omega) (fun z => by have z1 := (k_last hK (by omega) (by omega)).mp z.1; have z2 := z.2; omega)] at qb; exact qb)); (exfalso; omega)) (by omega) (by omega))
                          · skip
                            refine ev_aload_n dt_Ta_readWord_151 rfl rfl ?_
                            refine tm_getK (K := 3) dt_Ta_readWord_152 hWw93 tpt0 fl_Ta_17 rfl ((hFw93 tp 3 (by omega)).trans kK) ?_
                            refine ev_iload_n dt_Ta_readWord_155 rfl rfl ?_
                            refine ev_iconst dt_Ta_readWord_156 ?_
                            refine ev_iadd dt_Ta_readWord_157 ?_
                            refine ev_sk dt_Ta_readWord_158 (co_St_charAt w93 K hK _ (by omega) (by omega)) rfl hK kb_Ta_60 ⟨im_St_charAt, se_St_charAt⟩ rfl (Nat.le_of_ble_eq_true rfl) (by decide) ?_
                            obtain ⟨v109, hv109⟩ : ∃ v, v = k_at K (i92 + 1) := ⟨_, rfl⟩
                            have hbv109 : 32 ≤ v109 ∧ v109 ≤ 122 := by rw [hv109]; exact k_at_b hK (by omega) (by omega)
                            show ab_Ev _ _ _ _ _ _ _ _ (.inl (k_at K (i92 + 1)) :: _) _ _
                            rw [← hv109]
                            refine ev_bipush dt_Ta_readWord_161 rfl ?_
                            refine ev_icmp_ne (tgt := 170) dt_Ta_readWord_163 (by decide) (by omega) (by omega) (fun h110 => ?_) (fun h110 => ?_)
                            · skip
                              refine ev_iconst dt_Ta_readWord_170 ?_
                              refine ev_istore (l' := [_, _, _, _, _, _]) dt_Ta_readWord_171 (Nat.le_of_ble_eq_true rfl) rfl ?_
                              refine ev_iload dt_Ta_readWord_173 rfl ?_
                              refine ev_if_eq (tgt := 196) dt_Ta_readWord_175 (by decide) (by omega) (fun h111 => ?_) (fun h111 => ?_)
                              · skip
                                refine ev_goto (tgt := 201) dt_Ta_readWord_196 (by decide) ?_
                                refine ev_iinc (l' := [_, _, _, _, _, _]) dt_Ta_readWord_201 rfl rfl ?_
                                refine ev_goto (tgt := 58) dt_Ta_readWord_204 (by decide) ?_
                                exact tm_loc (tm_le_s (tm_le_s (tm_le_s (tm_le_s (tm_le_n (tm_le_n tm_le_0)))))) (ihL89 (i90) ((i91 + 1)) ((i92 + 1)) (t94) (t95) w93 hWw93 hFw93 kt94 kt95 (by omega) (by omega) (by omega) (by omega) (by omega) (by omega) (by omega) (by omega) (by omega) (by omega) (by omega) (by rcases q1L89 with ⟨qa, qb⟩ | ⟨qa, qb⟩; (have hd := k_drop (i := i92) hK (by omega) (by omega); rw [hd] at qb; first | (refine Or.inl ⟨by omega, ?_⟩; rw [show k_at K i92 = 32 by omega, k_wl_bl] at qb; exact qb) | (refine Or.inl ⟨by omega, ?_⟩; rw [k_wl_no (by omega) (by omega)] at qb; exact qb) | (refine Or.inr ⟨by omega, ?_⟩; rw [k_wl_yes (by omega) (by omega) ⟨(k_last hK (by omega) (by omega)).mpr (by omega), by omega⟩] at qb; exact qb) | (refine Or.inl ⟨by omega, ?_⟩; rw [k_wl_on (by omega) (by omega) (fun z => by have z1 := (k_last hK (by omega) (by omega)).mp z.1; have z2 := z.2; omega)] at qb; exact qb)); (exfalso; omega)) (by omega) (by omega))
                              · skip
                                exfalso
                                omega
                            · skip
                              refine ev_iconst dt_Ta_readWord_166 ?_
                              refine ev_goto (tgt := 171) dt_Ta_readWord_167 (by decide) ?_
                              refine ev_istore (l' := [_, _, _, _, _, _]) dt_Ta_readWord_171 (Nat.le_of_ble_eq_true rfl) rfl ?_
                              refine ev_iload dt_Ta_readWord_173 rfl ?_
                              refine ev_if_eq (tgt := 196) dt_Ta_readWord_175 (by decide) (by omega) (fun h112 => ?_) (fun h112 => ?_)
                              · skip
                                exfalso
                                omega
                              · skip
                                refine ev_aload_n dt_Ta_readWord_178 rfl rfl ?_
                                refine tm_getK (K := 5) dt_Ta_readWord_179 hWw93 tpt0 fl_Ta_34 rfl ((hFw93 tp 5 (by omega)).trans k_s0) ?_
                                refine ev_iload_n dt_Ta_readWord_182 rfl rfl ?_
                                refine ev_iadd dt_Ta_readWord_183 ?_
                                refine ev_aload_n dt_Ta_readWord_184 rfl rfl ?_
                                refine tm_getK (K := 2) dt_Ta_readWord_185 hWw93 tpt0 fl_Ta_25 rfl kt95 ?_
                                refine ev_icmp_ne (tgt := 196) dt_Ta_readWord_188 (by decide) (by omega) (by omega) (fun h113 => ?_) (fun h113 => ?_)
                                · skip
                                  refine ev_goto (tgt := 201) dt_Ta_readWord_196 (by decide) ?_
                                  refine ev_iinc (l' := [_, _, _, _, _, _]) dt_Ta_readWord_201 rfl rfl ?_
                                  refine ev_goto (tgt := 58) dt_Ta_readWord_204 (by decide) ?_
                                  exact tm_loc (tm_le_s (tm_le_s (tm_le_s (tm_le_s (tm_le_n (tm_le_n tm_le_0)))))) (ihL89 (i90) ((i91 + 1)) ((i92 + 1)) (t94) (t95) w93 hWw93 hFw93 kt94 kt95 (by omega) (by omega) (by omega) (by omega) (by omega) (by omega) (by omega) (by omega) (by omega) (by omega) (by omega) (by rcases q1L89 with ⟨qa, qb⟩ | ⟨qa, qb⟩; (have hd := k_drop (i := i92) hK (by omega) (by omega); rw [hd] at qb; first | (refine Or.inl ⟨by omega, ?_⟩; rw [show k_at K i92 = 32 by omega, k_wl_bl] at qb; exact qb) | (refine Or.inl ⟨by omega, ?_⟩; rw [k_wl_no (by omega) (by omega)] at qb; exact qb) | (refine Or.inr ⟨by omega, ?_⟩; rw [k_wl_yes (by omega) (by omega) ⟨(k_last hK (by omega) (by omega)).mpr (by omega), by omega⟩] at qb; exact qb) | (refine Or.inl ⟨by omega, ?_⟩; rw [k_wl_on (by omega) (by omega) (fun z => by have z1 := (k_last hK (by omega) (by omega)).mp z.1; have z2 := z.2; omega)] at qb; exact qb)); (exfalso; omega)) (by omega) (by omega))
                                · skip
                                  refine ev_aload_n dt_Ta_readWord_191 rfl rfl ?_
                                  refine ev_iload_n dt_Ta_readWord_192 rfl rfl ?_
                                  refine tm_putI (K := 8) dt_Ta_readWord_193 hWw93 tpt0 (fp_Ta_43 _) rfl rfl trivial (by omega) (by omega) (fun w114 hWw114 kkw114 hfw114 => ?_)
                                  have hFw114 : ∀ (p : Nat) (j : Int), ¬ ((p = tp ∧ (j = 2 ∨ j = 8))) → tm_g w114 p j = tm_g w p j := fun p j h => (hfw114 p j (by omega)).trans (hFw93 p j h)
                                  have z115 := (hfw114 tp 2 (by omega)).trans kt95
                                  refine ev_goto (tgt := 201) dt_Ta_readWord_196 (by decide) ?_
                                  refine ev_iinc (l' := [_, _, _, _, _, _]) dt_Ta_readWord_201 rfl rfl ?_
                                  refine ev_goto (tgt := 58) dt_Ta_readWord_204 (by decide) ?_
                                  exact tm_loc (tm_le_s (tm_le_s (tm_le_s (tm_le_s (tm_le_n (tm_le_n tm_le_0)))))) (ihL89 (i90) ((i91 + 1)) ((i92 + 1)) (i90) (t95) w114 hWw114 hFw114 kkw114 z115 (by omega) (by omega) (by omega) (by omega) (by omega) (by omega) (by omega) (by omega) (by omega) (by omega) (by omega) (by rcases q1L89 with ⟨qa, qb⟩ | ⟨qa, qb⟩; (have hd := k_drop (i := i92) hK (by omega) (by omega); rw [hd] at qb; first | (refine Or.inl ⟨by omega, ?_⟩; rw [show k_at K i92 = 32 by omega, k_wl_bl] at qb; exact qb) | (refine Or.inl ⟨by omega, ?_⟩; rw [k_wl_no (by omega) (by omega)] at qb; exact qb) | (refine Or.inr ⟨by omega, ?_⟩; rw [k_wl_yes (by omega) (by omega) ⟨(k_last hK (by omega) (by omega)).mpr (by omega), by omega⟩] at qb; exact qb) | (refine Or.inl ⟨by omega, ?_⟩; rw [k_wl_on (by omega) (by omega) (fun z => by have z1 := (k_last hK (by omega) (by omega)).mp z.1; have z2 := z.2; omega)] at qb; exact qb)); (exfalso; omega)) (by omega) (by omega))
                  · skip
                    refine ev_iinc (l' := [_, _, _, _, _, _]) dt_Ta_readWord_94 rfl rfl ?_
                    refine ev_iconst dt_Ta_readWord_97 ?_
                    refine ev_istore_n (l' := [_, _, _, _, _, _]) dt_Ta_readWord_98 rfl (Nat.le_of_ble_eq_true rfl) rfl ?_
                    refine ev_goto (tgt := 201) dt_Ta_readWord_99 (by decide) ?_
                    refine ev_iinc (l' := [_, _, _, _, _, _]) dt_Ta_readWord_201 rfl rfl ?_
                    refine ev_goto (tgt := 58) dt_Ta_readWord_204 (by decide) ?_
                    exact tm_loc (tm_le_s (tm_le_s (tm_le_s (tm_le_s (tm_le_n (tm_le_n tm_le_0)))))) (ihL89 ((i90 + 1)) (0) ((i92 + 1)) (t94) (t95) w93 hWw93 hFw93 kt94 kt95 (by omega) (by omega) (by omega) (by omega) (by omega) (by omega) (by omega) (by omega) (by omega) (by omega) (by omega) (by rcases q1L89 with ⟨qa, qb⟩ | ⟨qa, qb⟩; (have hd := k_drop (i := i92) hK (by omega) (by omega); rw [hd] at qb; first | (refine Or.inl ⟨by omega, ?_⟩; rw [show k_at K i92 = 32 by omega, k_wl_bl] at qb; exact qb) | (refine Or.inl ⟨by omega, ?_⟩; rw [k_wl_no (by omega) (by omega)] at qb; exact qb) | (refine Or.inr ⟨by omega, ?_⟩; rw [k_wl_yes (by omega) (by omega) ⟨(k_last hK (by omega) (by omega)).mpr (by omega), by omega⟩] at qb; exact qb) | (refine Or.inl ⟨by omega, ?_⟩; rw [k_wl_on (by omega) (by omega) (fun z => by have z1 := (k_last hK (by omega) (by omega)).mp z.1; have z2 := z.2; omega)] at qb; exact qb)); (exfalso; omega)) (by omega) (by omega))
          exact tm_loc (tm_le_s (tm_le_s (tm_le_s (tm_le_s (tm_le_n (tm_le_n tm_le_0)))))) (L89 (1000 - (0) + 1 : Int).toNat (0) (0) (0) (t58) (t57) w56 hWw56 hFw56 kt58 kt57 (by omega) (by omega) (by omega) (by omega) (by omega) (by omega) (by omega) (by omega) (by omega) (by omega) (by omega) (Or.inl ⟨by omega, by rfl⟩) (k_le_fin q0L55 (by omega)) (by omega))
        · skip
          refine ev_aload_n dt_Ta_readWord_25 rfl rfl ?_
          refine tm_getR dt_Ta_readWord_26 hWw56 tpt0 fl_Ta_9 rfl ?_
          refine ev_aload_n dt_Ta_readWord_29 rfl rfl ?_
          refine tm_getK (K := 2) dt_Ta_readWord_30 hWw56 tpt0 fl_Ta_25 rfl kt57 ?_
          refine tm_baK dt_Ta_readWord_33 hWw56 tpt1 (by omega) (by omega) (by omega) (((hFw56 (tp + 1) _ (by omega)).trans (hf _))) ?_
          have fb116 := hfb t57
          refine ev_bipush dt_Ta_readWord_34 rfl ?_
          refine ev_icmp_gt (tgt := 52) dt_Ta_readWord_36 (by decide) (by omega) (by omega) (fun h117 => ?_) (fun h117 => ?_)
          · skip
            refine ev_iconst dt_Ta_readWord_52 ?_
            refine ev_istore_n (l' := [_, _, _, _, _, _]) dt_Ta_readWord_53 rfl (Nat.le_of_ble_eq_true rfl) rfl ?_
            refine ev_iconst dt_Ta_readWord_54 ?_
            refine ev_istore_n (l' := [_, _, _, _, _, _]) dt_Ta_readWord_55 rfl (Nat.le_of_ble_eq_true rfl) rfl ?_
            refine ev_iconst dt_Ta_readWord_56 ?_
            refine ev_istore_n (l' := [_, _, _, _, _, _]) dt_Ta_readWord_57 rfl (Nat.le_of_ble_eq_true rfl) rfl ?_
            have L118 : ∀ (n : Nat) (i119 : Int) (i120 : Int) (i121 : Int) (t123 : Int) (t124 : Int) (w122 : ab_W), tm_W N T w122 → (∀ (p : Nat) (j : Int), ¬ ((p = tp ∧ (j = 2 ∨ j = 8))) → tm_g w122 p j = tm_g w p j) → tm_g w122 tp 8 = some (ab_I t123) → tm_g w122 tp 2 = some (ab_I t124) → 0 ≤ i119 → i119 ≤ 1000 → (-1) ≤ i120 → i120 ≤ 400 → 0 ≤ i121 → i121 ≤ 1000 → (-2147483648) ≤ t123 → t123 ≤ 2147483647 → 0 ≤ t124 → t124 ≤ 400 → (i119 ≤ i121) → ((t123 = -1 ∧ k_wl f s0 (tk_le f L s0) ((k_bs K).drop (i121).toNat) i119 i120 = k_wl f s0 (tk_le f L s0) (k_bs K) 0 0) ∨ (0 ≤ t123 ∧ t123 = k_wl f s0 (tk_le f L s0) (k_bs K) 0 0)) → (t124 = tk_le f L s0) → 1000 - i121 < (n : Int) → ab_Ev g_G g_rs mt_Ta_readWord 4 0 0 58 [some (ab_R tp), some (ab_I i119), some (ab_I i120), some (ab_I i121), none, none] [] w122 (tm_Qv N T (fun w2 => (∀ (p : Nat) (j : Int), ¬ ((p = tp ∧ (j = 2 ∨ j = 8))) → tm_g w2 p j = tm_g w p j) ∧ ∃ a1 w1 : Int, tm_g w2 tp 2 = some (ab_I a1) ∧ tm_g w2 tp 8 = some (ab_I w1) ∧ (a1 = tk_le f L s0 ∧ w1 = k_wl f s0 (tk_le f L s0) (k_bs K) 0 0))) := by
              intro n
              induction n with
              | zero =>
                intro i119 i120 i121 t123 t124 w122 hWw122 hFw122 kt123 kt124 li119 ui119 li120 ui120 li121 ui121 lt123 ut123 lt124 ut124 q0L118 q1L118 q2L118 mL118
                exfalso
                omega
              | succ nL118 ihL118 =>
                intro i119 i120 i121 t123 t124 w122 hWw122 hFw122 kt123 kt124 li119 ui119 li120 ui120 li121 ui121 lt123 ut123 lt124 ut124 q0L118 q1L118 q2L118 mL118
                refine ev_iload_n dt_Ta_readWord_58 rfl rfl ?_
                refine ev_aload_n dt_Ta_readWord_59 rfl rfl ?_
                refine tm_getK (K := 3) dt_Ta_readWord_60 hWw122 tpt0 fl_Ta_17 rfl ((hFw122 tp 3 (by omega)).trans kK) ?_
                have hl63_303 : ((g_ln.getD K 0 : Nat) : Int) ≤ 1000 := by have := (sb_all K hK).1; omega
                refine ev_sk dt_Ta_readWord_63 (co_St_length w122 K hK) rfl hK kb_Ta_55 ⟨im_St_length, se_St_length⟩ rfl (Nat.le_of_ble_eq_true rfl) (by decide) ?_
                refine ev_icmp_ge (tgt := 207) dt_Ta_readWord_66 (by decide) (by omega) (by omega) (fun h125 => ?_) (fun h125 => ?_)
                · skip
                  exact ev_return dt_Ta_readWord_207 rfl ⟨hWw122, rfl, ⟨hFw122, t124, t123, kt124, kt123, ⟨by omega, (by rcases q1L118 with ⟨qa, qb⟩ | ⟨qa, qb⟩ <;> first | (exfalso; omega) | omega | (rw [k_dropE hK (by omega), k_wl_nil] at qb; omega))⟩⟩⟩
                · skip
                  refine ev_aload_n dt_Ta_readWord_69 rfl rfl ?_
                  refine tm_getK (K := 8) dt_Ta_readWord_70 hWw122 tpt0 fl_Ta_43 rfl kt123 ?_
                  refine ev_iconst dt_Ta_readWord_73 ?_
                  refine ev_icmp_ne (tgt := 207) dt_Ta_readWord_74 (by decide) (by omega) (by omega) (fun h126 => ?_) (fun h126 => ?_)
                  · skip
                    exact ev_return dt_Ta_readWord_207 rfl ⟨hWw122, rfl, ⟨hFw122, t124, t123, kt124, kt123, ⟨by omega, (by rcases q1L118 with ⟨qa, qb⟩ | ⟨qa, qb⟩ <;> first | (exfalso; omega) | omega | (rw [k_dropE hK (by omega), k_wl_nil] at qb; omega))⟩⟩⟩
                  · skip
                    refine ev_aload_n dt_Ta_readWord_77 rfl rfl ?_
                    refine tm_getK (K := 3) dt_Ta_readWord_78 hWw122 tpt0 fl_Ta_17 rfl ((hFw122 tp 3 (by omega)).trans kK) ?_
                    refine ev_iload_n dt_Ta_readWord_81 rfl rfl ?_
                    refine ev_sk dt_Ta_readWord_82 (co_St_charAt w122 K hK _ (by omega) (by omega)) rfl hK kb_Ta_60 ⟨im_St_charAt, se_St_charAt⟩ rfl (Nat.le_of_ble_eq_true rfl) (by decide) ?_
                    obtain ⟨v127, hv127⟩ : ∃ v, v = k_at K i121 := ⟨_, rfl⟩
                    have hbv127 : 32 ≤ v127 ∧ v127 ≤ 122 := by rw [hv127]; exact k_at_b hK (by omega) (by omega)
                    show ab_Ev _ _ _ _ _ _ _ _ (.inl (k_at K i121) :: _) _ _
                    rw [← hv127]
                    refine ev_istore (l' := [_, _, _, _, _, _]) dt_Ta_readWord_85 (Nat.le_of_ble_eq_true rfl) rfl ?_
                    refine ev_iload dt_Ta_readWord_87 rfl ?_
                    refine ev_bipush dt_Ta_readWord_89 rfl ?_
                    refine ev_icmp_ne (tgt := 102) dt_Ta_readWord_91 (by decide) (by omega) (by omega) (fun h128 => ?_) (fun h128 => ?_)
                    · skip
                      refine ev_iload_n dt_Ta_readWord_102 rfl rfl ?_
                      refine ev_if_lt (tgt := 199) dt_Ta_readWord_103 (by decide) (by omega) (fun h129 => ?_) (fun h129 => ?_)
                      · skip
                        refine ev_iconst dt_Ta_readWord_199 ?_
                        refine ev_istore_n (l' := [_, _, _, _, _, _]) dt_Ta_readWord_200 rfl (Nat.le_of_ble_eq_true rfl) rfl ?_
                        refine ev_iinc (l' := [_, _, _, _, _, _]) dt_Ta_readWord_201 rfl rfl ?_
                        refine ev_goto (tgt := 58) dt_Ta_readWord_204 (by decide) ?_
                        exact tm_loc (tm_le_s (tm_le_s (tm_le_s (tm_le_s (tm_le_n (tm_le_n tm_le_0)))))) (ihL118 (i119) ((-1)) ((i121 + 1)) (t123) (t124) w122 hWw122 hFw122 kt123 kt124 (by omega) (by omega) (by omega) (by omega) (by omega) (by omega) (by omega) (by omega) (by omega) (by omega) (by omega) (by rcases q1L118 with ⟨qa, qb⟩ | ⟨qa, qb⟩; (have hd := k_drop (i := i121) hK (by omega) (by omega); rw [hd] at qb; first | (refine Or.inl ⟨by omega, ?_⟩; rw [show k_at K i121 = 32 by omega, k_wl_bl] at qb; exact qb) | (refine Or.inl ⟨by omega, ?_⟩; rw [k_wl_no (by omega) (by omega)] at qb; exact qb) | (refine Or.inr ⟨by omega, ?_⟩; rw [k_wl_yes (by omega) (by omega) ⟨(k_last hK (by omega) (by omega)).mpr (by omega), by omega⟩] at qb; exact qb) | (refine Or.inl ⟨by omega, ?_⟩; rw [k_wl_on (by omega) (by omega) (fun z => by have z1 := (k_last hK (by omega) (by omega)).mp z.1; have z2 := z.2; omega)] at qb; exact qb)); (exfalso; omega)) (by omega) (by omega))
                      · skip
                        refine ev_aload_n dt_Ta_readWord_106 rfl rfl ?_
                        refine tm_getK (K := 5) dt_Ta_readWord_107 hWw122 tpt0 fl_Ta_34 rfl ((hFw122 tp 5 (by omega)).trans k_s0) ?_
                        refine ev_iload_n dt_Ta_readWord_110 rfl rfl ?_
                        refine ev_iadd dt_Ta_readWord_111 ?_
                        refine ev_aload_n dt_Ta_readWord_112 rfl rfl ?_
                        refine tm_getK (K := 2) dt_Ta_readWord_113 hWw122 tpt0 fl_Ta_25 rfl kt124 ?_
                        refine ev_icmp_ge (tgt := 199) dt_Ta_readWord_116 (by decide) (by omega) (by omega) (fun h130 => ?_) (fun h130 => ?_)
                        · skip
                          refine ev_iconst dt_Ta_readWord_199 ?_
                          refine ev_istore_n (l' := [_, _, _, _, _, _]) dt_Ta_readWord_200 rfl (Nat.le_of_ble_eq_true rfl) rfl ?_
                          refine ev_iinc (l' := [_, _, _, _, _, _]) dt_Ta_readWord_201 rfl rfl ?_
                          refine ev_goto (tgt := 58) dt_Ta_readWord_204 (by decide) ?_
                          exact tm_loc (tm_le_s (tm_le_s (tm_le_s (tm_le_s (tm_le_n (tm_le_n tm_le_0)))))) (ihL118 (i119) ((-1)) ((i121 + 1)) (t123) (t124) w122 hWw122 hFw122 kt123 kt124 (by omega) (by omega) (by omega) (by omega) (by omega) (by omega) (by omega) (by omega) (by omega) (by omega) (by omega) (by rcases q1L118 with ⟨qa, qb⟩ | ⟨qa, qb⟩; (have hd := k_drop (i := i121) hK (by omega) (by omega); rw [hd] at qb; first | (refine Or.inl ⟨by omega, ?_⟩; rw [show k_at K i121 = 32 by omega, k_wl_bl] at qb; exact qb) | (refine Or.inl ⟨by omega, ?_⟩; rw [k_wl_no (by omega) (by omega)] at qb; exact qb) | (refine Or.inr ⟨by omega, ?_⟩; rw [k_wl_yes (by omega) (by omega) ⟨(k_last hK (by omega) (by omega)).mpr (by omega), by omega⟩] at qb; exact qb) | (refine Or.inl ⟨by omega, ?_⟩; rw [k_wl_on (by omega) (by omega) (fun z => by have z1 := (k_last hK (by omega) (by omega)).mp z.1; have z2 := z.2; omega)] at qb; exact qb)); (exfalso; omega)) (by omega) (by omega))
                        · skip
                          refine ev_aload_n dt_Ta_readWord_119 rfl rfl ?_
                          refine tm_getR dt_Ta_readWord_120 hWw122 tpt0 fl_Ta_9 rfl ?_
                          refine ev_aload_n dt_Ta_readWord_123 rfl rfl ?_
                          refine tm_getK (K := 5) dt_Ta_readWord_124 hWw122 tpt0 fl_Ta_34 rfl ((hFw122 tp 5 (by omega)).trans k_s0) ?_
                          refine ev_iload_n dt_Ta_readWord_127 rfl rfl ?_
                          refine ev_iadd dt_Ta_readWord_128 ?_
                          refine tm_baK dt_Ta_readWord_129 hWw122 tpt1 (by omega) (by omega) (by omega) (((hFw122 (tp + 1) _ (by omega)).trans (hf _))) ?_
                          have fb131 := hfb (s0 + i120)
                          refine ev_iload dt_Ta_readWord_130 rfl ?_
                          refine ev_icmp_ne (tgt := 199) dt_Ta_readWord_132 (by decide) (by omega) (by omega) (fun h132 => ?_) (fun h132 => ?_)
                          · skip
                            refine ev_iconst dt_Ta_readWord_199 ?_
                            refine ev_istore_n (l' := [_, _, _, _, _, _]) dt_Ta_readWord_200 rfl (Nat.le_of_ble_eq_true rfl) rfl ?_
                            refine ev_iinc (l' := [_, _, _, _, _, _]) dt_Ta_readWord_201 rfl rfl ?_
                            refine ev_goto (tgt := 58) dt_Ta_readWord_204 (by decide) ?_
                            exact tm_loc (tm_le_s (tm_le_s (tm_le_s (tm_le_s (tm_le_n (tm_le_n tm_le_0)))))) (ihL118 (i119) ((-1)) ((i121 + 1)) (t123) (t124) w122 hWw122 hFw122 kt123 kt124 (by omega) (by omega) (by omega) (by omega) (by omega) (by omega) (by omega) (by omega) (by omega) (by omega) (by omega) (by rcases q1L118 with ⟨qa, qb⟩ | ⟨qa, qb⟩; (have hd := k_drop (i := i121) hK (by omega) (by omega); rw [hd] at qb; first | (refine Or.inl ⟨by omega, ?_⟩; rw [show k_at K i121 = 32 by omega, k_wl_bl] at qb; exact qb) | (refine Or.inl ⟨by omega, ?_⟩; rw [k_wl_no (by omega) (by omega)] at qb; exact qb) | (refine Or.inr ⟨by omega, ?_⟩; rw [k_wl_yes (by omega) (by omega) ⟨(k_last hK (by omega) (by omega)).mpr (by omega), by omega⟩] at qb; exact qb) | (refine Or.inl ⟨by omega, ?_⟩; rw [k_wl_on (by omega) (by omega) (fun z => by have z1 := (k_last hK (by omega) (by omega)).mp z.1; have z2 := z.2; omega)] at qb; exact qb)); (exfalso; omega)) (by omega) (by omega))
                          · skip
                            refine ev_iinc (l' := [_, _, _, _, _, _]) dt_Ta_readWord_135 rfl rfl ?_
                            refine ev_iload_n dt_Ta_readWord_138 rfl rfl ?_
                            refine ev_iconst dt_Ta_readWord_139 ?_
                            refine ev_iadd dt_Ta_readWord_140 ?_
                            refine ev_aload_n dt_Ta_readWord_141 rfl rfl ?_
                            refine tm_getK (K := 3) dt_Ta_readWord_142 hWw122 tpt0 fl_Ta_17 rfl ((hFw122 tp 3 (by omega)).trans kK) ?_
                            have hl145_358 : ((g_ln.getD K 0 : Nat) : Int) ≤ 1000 := by have := (sb_all K hK).1; omega
                            refine ev_sk dt_Ta_readWord_145 (co_St_length w122 K hK) rfl hK kb_Ta_55 ⟨im_St_length, se_St_length⟩ rfl (Nat.le_of_ble_eq_true rfl) (by decide) ?_
                            refine ev_icmp_eq (tgt := 166) dt_Ta_readWord_148 (by decide) (by omega) (by omega) (fun h133 => ?_) (fun h133 => ?_)
                            · skip
                              refine ev_iconst dt_Ta_readWord_166 ?_
                              refine ev_goto (tgt := 171) dt_Ta_readWord_167 (by decide) ?_
                              refine ev_istore (l' := [_, _, _, _, _, _]) dt_Ta_readWord_171 (Nat.le_of_ble_eq_true rfl) rfl ?_
                              refine ev_iload dt_Ta_readWord_173 rfl ?_
                              refine ev_if_eq (tgt := 196) dt_Ta_readWord_175 (by decide) (by omega) (fun h134 => ?_) (fun h134 => ?_)
                              · skip
                                exfalso
                                omega
                              · skip
                                refine ev_aload_n dt_Ta_readWord_178 rfl rfl ?_
                                refine tm_getK (K := 5) dt_Ta_readWord_179 hWw122 tpt0 fl_Ta_34 rfl ((hFw122 tp 5 (by omega)).trans k_s0) ?_
                                refine ev_iload_n dt_Ta_readWord_182 rfl rfl ?_
                                refine ev_iadd dt_Ta_readWord_183 ?_
                                refine ev_aload_n dt_Ta_readWord_184 rfl rfl ?_
                                refine tm_getK (K := 2) dt_Ta_readWord_185 hWw122 tpt0 fl_Ta_25 rfl kt124 ?_
                                refine ev_icmp_ne (tgt := 196) dt_Ta_readWord_188 (by decide) (by omega) (by omega) (fun h135 => ?_) (fun h135 => ?_)
                                · skip
                                  refine ev_goto (tgt := 201) dt_Ta_readWord_196 (by decide) ?_
                                  refine ev_iinc (l' := [_, _, _, _, _, _]) dt_Ta_readWord_201 rfl rfl ?_
                                  refine ev_goto (tgt := 58) dt_Ta_readWord_204 (by decide) ?_
                                  exact tm_loc (tm_le_s (tm_le_s (tm_le_s (tm_le_s (tm_le_n (tm_le_n tm_le_0)))))) (ihL118 (i119) ((i120 + 1)) ((i121 + 1)) (t123) (t124) w122 hWw122 hFw122 kt123 kt124 (by omega) (by omega) (by omega) (by omega) (by omega) (by omega) (by omega) (by omega) (by omega) (by omega) (by omega) (by rcases q1L118 with ⟨qa, qb⟩ | ⟨qa, qb⟩; (have hd := k_drop (i := i121) hK (by omega) (by omega); rw [hd] at qb; first | (refine Or.inl ⟨by omega, ?_⟩; rw [show k_at K i121 = 32 by omega, k_wl_bl] at qb; exact qb) | (refine Or.inl ⟨by omega, ?_⟩; rw [k_wl_no (by omega) (by omega)] at qb; exact qb) | (refine Or.inr ⟨by omega, ?_⟩; rw [k_wl_yes (by omega) (by omega) ⟨(k_last hK (by omega) (by omega)).mpr (by omega), by omega⟩] at qb; exact qb) | (refine Or.inl ⟨by omega, ?_⟩; rw [k_wl_on (by omega) (by omega) (fun z => by have z1 := (k_last hK (by omega) (by omega)).mp z.1; have z2 := z.2; omega)] at qb; exact qb)); (exfalso; omega)) (by omega) (by omega))
                                · skip
                                  refine ev_aload_n dt_Ta_readWord_191 rfl rfl ?_
                                  refine ev_iload_n dt_Ta_readWord_192 rfl rfl ?_
                                  refine tm_putI (K := 8) dt_Ta_readWord_193 hWw122 tpt0 (fp_Ta_43 _) rfl rfl trivial (by omega) (by omega) (fun w136 hWw136 kkw136 hfw136 => ?_)
                                  have hFw136 : ∀ (p : Nat) (j : Int), ¬ ((p = tp ∧ (j = 2 ∨ j = 8))) → tm_g w136 p j = tm_g w p j := fun p j h => (hfw136 p j (by omega)).trans (hFw122 p j h)
                                  have z137 := (hfw136 tp 2 (by omega)).trans kt124
                                  refine ev_goto (tgt := 201) dt_Ta_readWord_196 (by decide) ?_
                                  refine ev_iinc (l' := [_, _, _, _, _, _]) dt_Ta_readWord_201 rfl rfl ?_
                                  refine ev_goto (tgt := 58) dt_Ta_readWord_204 (by decide) ?_
                                  exact tm_loc (tm_le_s (tm_le_s (tm_le_s (tm_le_s (tm_le_n (tm_le_n tm_le_0)))))) (ihL118 (i119) ((i120 + 1)) ((i121 + 1)) (i119) (t124) w136 hWw136 hFw136 kkw136 z137 (by omega) (by omega) (by omega) (by omega) (by omega) (by omega) (by omega) (by omega) (by omega) (by omega) (by omega) (by rcases q1L118 with ⟨qa, qb⟩ | ⟨qa, qb⟩; (have hd := k_drop (i := i121) hK (by omega) (by omega); rw [hd] at qb; first | (refine Or.inl ⟨by omega, ?_⟩; rw [show k_at K i121 = 32 by omega, k_wl_bl] at qb; exact qb) | (refine Or.inl ⟨by omega, ?_⟩; rw [k_wl_no (by omega) (by omega)] at qb; exact qb) | (refine Or.inr ⟨by omega, ?_⟩; rw [k_wl_yes (by omega) (by omega) ⟨(k_last hK (by omega) (by omega)).mpr (by omega), by omega⟩] at qb; exact qb) | (refine Or.inl ⟨by omega, ?_⟩; rw [k_wl_on (by omega) (by omega) (fun z => by have z1 := (k_last hK (by omega) (by omega)).mp z.1; have z2 := z.2; omega)] at qb; exact qb)); (exfalso; omega)) (by omega) (by omega))
                            · skip
                              refine ev_aload_n dt_Ta_readWord_151 rfl rfl ?_
                              refine tm_getK (K := 3) dt_Ta_readWord_152 hWw122 tpt0 fl_Ta_17 rfl ((hFw122 tp 3 (by omega)).trans kK) ?_
                              refine ev_iload_n dt_Ta_readWord_155 rfl rfl ?_
                              refine ev_iconst dt_Ta_readWord_156 ?_
                              refine ev_iadd dt_Ta_readWord_157 ?_
                              refine ev_sk dt_Ta_readWord_158 (co_St_charAt w122 K hK _ (by omega) (by omega)) rfl hK kb_Ta_60 ⟨im_St_charAt, se_St_charAt⟩ rfl (Nat.le_of_ble_eq_true rfl) (by decide) ?_
                              obtain ⟨v138, hv138⟩ : ∃ v, v = k_at K (i121 + 1) := ⟨_, rfl⟩
                              have hbv138 : 32 ≤ v138 ∧ v138 ≤ 122 := by rw [hv138]; exact k_at_b hK (by omega) (by omega)
                              show ab_Ev _ _ _ _ _ _ _ _ (.inl (k_at K (i121 + 1)) :: _) _ _
                              rw [← hv138]
                              refine ev_bipush dt_Ta_readWord_161 rfl ?_
                              refine ev_icmp_ne (tgt := 170) dt_Ta_readWord_163 (by decide) (by omega) (by omega) (fun h139 => ?_) (fun h139 => ?_)
                              · skip
                                refine ev_iconst dt_Ta_readWord_170 ?_
                                refine ev_istore (l' := [_, _, _, _, _, _]) dt_Ta_readWord_171 (Nat.le_of_ble_eq_true rfl) rfl ?_
                                refine ev_iload dt_Ta_readWord_173 rfl ?_
                                refine ev_if_eq (tgt := 196) dt_Ta_readWord_175 (by decide) (by omega) (fun h140 => ?_) (fun h140 => ?_)
                                · skip
                                  refine ev_goto (tgt := 201) dt_Ta_readWord_196 (by decide) ?_
                                  refine ev_iinc (l' := [_, _, _, _, _, _]) dt_Ta_readWord_201 rfl rfl ?_
                                  refine ev_goto (tgt := 58) dt_Ta_readWord_204 (by decide) ?_
                                  exact tm_loc (tm_le_s (tm_le_s (tm_le_s (tm_le_s (tm_le_n (tm_le_n tm_le_0)))))) (ihL118 (i119) ((i120 + 1)) ((i121 + 1)) (t123) (t124) w122 hWw122 hFw122 kt123 kt124 (by omega) (by omega) (by omega) (by omega) (by omega) (by omega) (by omega) (by omega) (by omega) (by omega) (by omega) (by rcases q1L118 with ⟨qa, qb⟩ | ⟨qa, qb⟩; (have hd := k_drop (i := i121) hK (by omega) (by omega); rw [hd] at qb; first | (refine Or.inl ⟨by omega, ?_⟩; rw [show k_at K i121 = 32 by omega, k_wl_bl] at qb; exact qb) | (refine Or.inl ⟨by omega, ?_⟩; rw [k_wl_no (by omega) (by omega)] at qb; exact qb) | (refine Or.inr ⟨by omega, ?_⟩; rw [k_wl_yes (by omega) (by omega) ⟨(k_last hK (by omega) (by omega)).mpr (by omega), by omega⟩] at qb; exact qb) | (refine Or.inl ⟨by omega, ?_⟩; rw [k_wl_on (by omega) (by omega) (fun z => by have z1 := (k_last hK (by omega) (by omega)).mp z.1; have z2 := z.2; omega)] at qb; exact qb)); (exfalso; omega)) (by omega) (by omega))
                                · skip
                                  exfalso
                                  omega
                              · skip
                                refine ev_iconst dt_Ta_readWord_166 ?_
                                refine ev_goto (tgt := 171) dt_Ta_readWord_167 (by decide) ?_
                                refine ev_istore (l' := [_, _, _, _, _, _]) dt_Ta_readWord_171 (Nat.le_of_ble_eq_true rfl) rfl ?_
                                refine ev_iload dt_Ta_readWord_173 rfl ?_
                                refine ev_if_eq (tgt := 196) dt_Ta_readWord_175 (by decide) (by omega) (fun h141 => ?_) (fun h141 => ?_)
                                · skip
                                  exfalso
                                  omega
                                · skip
                                  refine ev_aload_n dt_Ta_readWord_178 rfl rfl ?_
                                  refine tm_getK (K := 5) dt_Ta_readWord_179 hWw122 tpt0 fl_Ta_34 rfl ((hFw122 tp 5 (by omega)).trans k_s0) ?_
                                  refine ev_iload_n dt_Ta_readWord_182 rfl rfl ?_
                                  refine ev_iadd dt_Ta_readWord_183 ?_
                                  refine ev_aload_n dt_Ta_readWord_184 rfl rfl ?_
                                  refine tm_getK (K := 2) dt_Ta_readWord_185 hWw122 tpt0 fl_Ta_25 rfl kt124 ?_
                                  refine ev_icmp_ne (tgt := 196) dt_Ta_readWord_188 (by decide) (by omega) (by omega) (fun h142 => ?_) (fun h142 => ?_)
                                  · skip
                                    refine ev_goto (tgt := 201) dt_Ta_readWord_196 (by decide) ?_
                                    refine ev_iinc (l' := [_, _, _, _, _, _]) dt_Ta_readWord_201 rfl rfl ?_
                                    refine ev_goto (tgt := 58) dt_Ta_readWord_204 (by decide) ?_
                                    exact tm_loc (tm_le_s (tm_le_s (tm_le_s (tm_le_s (tm_le_n (tm_le_n tm_le_0)))))) (ihL118 (i119) ((i120 + 1)) ((i121 + 1)) (t123) (t124) w122 hWw122 hFw122 kt123 kt124 (by omega) (by omega) (by omega) (by omega) (by omega) (by omega) (by omega) (by omega) (by omega) (by omega) (by omega) (by rcases q1L118 with ⟨qa, qb⟩ | ⟨qa, qb⟩; (have hd := k_drop (i := i121) hK (by omega) (by omega); rw [hd] at qb; first | (refine Or.inl ⟨by omega, ?_⟩; rw [show k_at K i121 = 32 by omega, k_wl_bl] at qb; exact qb) | (refine Or.inl ⟨by omega, ?_⟩; rw [k_wl_no (by omega) (by omega)] at qb; exact qb) | (refine Or.inr ⟨by omega, ?_⟩; rw [k_wl_yes (by omega) (by omega) ⟨(k_last hK (by omega) (by omega)).mpr (by omega), by omega⟩] at qb; exact qb) | (refine Or.inl ⟨by omega, ?_⟩; rw [k_wl_on (by omega) (by omega) (fun z => by have z1 := (k_last hK (by omega) (by omega)).mp z.1; have z2 := z.2; omega)] at qb; exact qb)); (exfalso; omega)) (by omega) (by omega))
                                  · skip
                                    refine ev_aload_n dt_Ta_readWord_191 rfl rfl ?_
                                    refine ev_iload_n dt_Ta_readWord_192 rfl rfl ?_
                                    refine tm_putI (K := 8) dt_Ta_readWord_193 hWw122 tpt0 (fp_Ta_43 _) rfl rfl trivial (by omega) (by omega) (fun w143 hWw143 kkw143 hfw143 => ?_)
                                    have hFw143 : ∀ (p : Nat) (j : Int), ¬ ((p = tp ∧ (j = 2 ∨ j = 8))) → tm_g w143 p j = tm_g w p j := fun p j h => (hfw143 p j (by omega)).trans (hFw122 p j h)
                                    have z144 := (hfw143 tp 2 (by omega)).trans kt124
                                    refine ev_goto (tgt := 201) dt_Ta_readWord_196 (by decide) ?_
                                    refine ev_iinc (l' := [_, _, _, _, _, _]) dt_Ta_readWord_201 rfl rfl ?_
                                    refine ev_goto (tgt := 58) dt_Ta_readWord_204 (by decide) ?_
                                    exact tm_loc (tm_le_s (tm_le_s (tm_le_s (tm_le_s (tm_le_n (tm_le_n tm_le_0)))))) (ihL118 (i119) ((i120 + 1)) ((i121 + 1)) (i119) (t124) w143 hWw143 hFw143 kkw143 z144 (by omega) (by omega) (by omega) (by omega) (by omega) (by omega) (by omega) (by omega) (by omega) (by omega) (by omega) (by rcases q1L118 with ⟨qa, qb⟩ | ⟨qa, qb⟩; (have hd := k_drop (i := i121) hK (by omega) (by omega); rw [hd] at qb; first | (refine Or.inl ⟨by omega, ?_⟩; rw [show k_at K i121 = 32 by omega, k_wl_bl] at qb; exact qb) | (refine Or.inl ⟨by omega, ?_⟩; rw [k_wl_no (by omega) (by omega)] at qb; exact qb) | (refine Or.inr ⟨by omega, ?_⟩; rw [k_wl_yes (by omega) (by omega) ⟨(k_last hK (by omega) (by omega)).mpr (by omega), by omega⟩] at qb; exact qb) | (refine Or.inl ⟨by omega, ?_⟩; rw [k_wl_on (by omega) (by omega) (fun z => by have z1 := (k_last hK (by omega) (by omega)).mp z.1; have z2 := z.2; omega)] at qb; exact qb)); (exfalso; omega)) (by omega) (by omega))
                    · skip
                      refine ev_iinc (l' := [_, _, _, _, _, _]) dt_Ta_readWord_94 rfl rfl ?_
                      refine ev_iconst dt_Ta_readWord_97 ?_
                      refine ev_istore_n (l' := [_, _, _, _, _, _]) dt_Ta_readWord_98 rfl (Nat.le_of_ble_eq_true rfl) rfl ?_
                      refine ev_goto (tgt := 201) dt_Ta_readWord_99 (by decide) ?_
                      refine ev_iinc (l' := [_, _, _, _, _, _]) dt_Ta_readWord_201 rfl rfl ?_
                      refine ev_goto (tgt := 58) dt_Ta_readWord_204 (by decide) ?_
                      exact tm_loc (tm_le_s (tm_le_s (tm_le_s (tm_le_s (tm_le_n (tm_le_n tm_le_0)))))) (ihL118 ((i119 + 1)) (0) ((i121 + 1)) (t123) (t124) w122 hWw122 hFw122 kt123 kt124 (by omega) (by omega) (by omega) (by omega) (by omega) (by omega) (by omega) (by omega) (by omega) (by omega) (by omega) (by rcases q1L118 with ⟨qa, qb⟩ | ⟨qa, qb⟩; (have hd := k_drop (i := i121) hK (by omega) (by omega); rw [hd] at qb; first | (refine Or.inl ⟨by omega, ?_⟩; rw [show k_at K i121 = 32 by omega, k_wl_bl] at qb; exact qb) | (refine Or.inl ⟨by omega, ?_⟩; rw [k_wl_no (by omega) (by omega)] at qb; exact qb) | (refine Or.inr ⟨by omega, ?_⟩; rw [k_wl_yes (by omega) (by omega) ⟨(k_last hK (by omega) (by omega)).mpr (by omega), by omega⟩] at qb; exact qb) | (refine Or.inl ⟨by omega, ?_⟩; rw [k_wl_on (by omega) (by omega) (fun z => by have z1 := (k_last hK (by omega) (by omega)).mp z.1; have z2 := z.2; omega)] at qb; exact qb)); (exfalso; omega)) (by omega) (by omega))
            exact tm_loc (tm_le_s (tm_le_s (tm_le_s (tm_le_s (tm_le_n (tm_le_n tm_le_0)))))) (L118 (1000 - (0) + 1 : Int).toNat (0) (0) (0) (t58) (t57) w56 hWw56 hFw56 kt58 kt57 (by omega) (by omega) (by omega) (by omega) (by omega) (by omega) (by omega) (by omega) (by omega) (by omega) (by omega) (Or.inl ⟨by omega, by rfl⟩) (k_le_fin q0L55 (by omega)) (by omega))
          · skip
            refine ev_aload_n dt_Ta_readWord_39 rfl rfl ?_
            refine ev_dup dt_Ta_readWord_40 rfl ?_
            refine tm_getK (K := 2) dt_Ta_readWord_41 hWw56 tpt0 fl_Ta_25 rfl kt57 ?_
            refine ev_iconst dt_Ta_readWord_44 ?_
            refine ev_iadd dt_Ta_readWord_45 ?_
            refine tm_putI (K := 2) dt_Ta_readWord_46 hWw56 tpt0 (fp_Ta_25 _) rfl rfl trivial (by omega) (by omega) (fun w145 hWw145 kkw145 hfw145 => ?_)
            have hFw145 : ∀ (p : Nat) (j : Int), ¬ ((p = tp ∧ (j = 2 ∨ j = 8))) → tm_g w145 p j = tm_g w p j := fun p j h => (hfw145 p j (by omega)).trans (hFw56 p j h)
            have z146 := (hfw145 tp 8 (by omega)).trans kt58
            refine ev_goto (tgt := 0) dt_Ta_readWord_49 (by decide) ?_
            exact tm_loc (tm_le_s (tm_le_n (tm_le_n (tm_le_n (tm_le_n (tm_le_n tm_le_0)))))) (ihL55 ((t57 + 1)) (t58) w145 hWw145 hFw145 kkw145 z146 (by omega) (by omega) (by omega) (by omega) (by rw [← q0L55]; exact (tk_to_s (by omega) (decide_eq_true (by omega))).symm) (by omega) (by omega))
  exact tm_loc (tm_le_s (tm_le_n (tm_le_n (tm_le_n (tm_le_n (tm_le_n tm_le_0)))))) (L55 (400 - (a0) + 1 : Int).toNat  (a0) (w0) w hW hF0 k_a0 k_w0 (by omega) (by omega) (by omega) (by omega) (by rw [ha]) (by omega) (by omega))
set_option maxHeartbeats 4000000 in
set_option maxRecDepth 10000 in
theorem tx_Ta_advance {N : Nat} {T : Nat → tm_S} {w : ab_W} {f : Int → Int} {K : Nat} {tp : Nat} (hW : tm_W N T w) (h_tp : is_Ta T tp) (a0 : Int) (k_a0 : tm_g w tp 2 = some (ab_I a0)) (L : Int) (k_L : tm_g w tp 1 = some (ab_I L)) (hK : K < g_ln.length) (hf : ∀ j, tm_g w (tp + 1) j = some (ab_I (f j))) (kK : tm_g w tp 3 = some (ab_R (ab_sb + K))) (hs : a0 ≤ L) : ab_Mt g_G g_rs mt_Ta_advance 5 0 0 [ab_R tp] w (tm_Qv N T (fun w2 => (∀ (p : Nat) (j : Int), ¬ ((p = tp ∧ (j = 2 ∨ j = 5 ∨ j = 6 ∨ j = 7 ∨ j = 8))) → tm_g w2 p j = tm_g w p j) ∧ ∃ s1 a1 g1 n1 w1 : Int, tm_g w2 tp 5 = some (ab_I s1) ∧ tm_g w2 tp 2 = some (ab_I a1) ∧ tm_g w2 tp 6 = some (ab_I g1) ∧ tm_g w2 tp 7 = some (ab_I n1) ∧ tm_g w2 tp 8 = some (ab_I w1) ∧ (s1 = tk_sk f L a0 ∧ a1 = k_end f L s1 ∧ g1 = k_sign f L s1 ∧ n1 = k_num f L s1 ∧ w1 = k_wd K f L s1))) := by
  have hfb : ∀ j, -128 ≤ f j ∧ f j ≤ 127 := tx_fb hW h_tp.2 hf
  obtain ⟨tpt0, tpt1⟩ := id h_tp
  have hF0 : ∀ (p : Nat) (j : Int), ¬ ((p = tp ∧ (j = 2 ∨ j = 5 ∨ j = 6 ∨ j = 7 ∨ j = 8))) → tm_g w p j = tm_g w p j := fun _ _ _ => rfl
  refine ab_Mt.of rfl (Nat.le_of_ble_eq_true rfl) ?_
  show ab_Ev g_G g_rs mt_Ta_advance _ _ _ 0 [some (ab_R tp)] [] _ _
  have b_a0 : 0 ≤ a0 ∧ a0 ≤ 400 := by obtain ⟨a, e, h0, h1⟩ := tm_peek (k := 2) (K := 2) hW tpt0 rfl rfl; rw [k_a0] at e; injection e with e; injection e with e; omega
  have b_L : 0 ≤ L ∧ L ≤ 400 := by obtain ⟨a, e, h0, h1⟩ := tm_peek (k := 1) (K := 1) hW tpt0 rfl rfl; rw [k_L] at e; injection e with e; injection e with e; omega
  have L147 : ∀ (n : Nat)  (t149 : Int) (w148 : ab_W), tm_W N T w148 → (∀ (p : Nat) (j : Int), ¬ ((p = tp ∧ (j = 2 ∨ j = 5 ∨ j = 6 ∨ j = 7 ∨ j = 8))) → tm_g w148 p j = tm_g w p j) → tm_g w148 tp 2 = some (ab_I t149) → 0 ≤ t149 → t149 ≤ 400 → (tk_sk f L t149 = tk_sk f L a0) → (t149 ≤ L) → 400 - t149 < (n : Int) → ab_Ev g_G g_rs mt_Ta_advance 5 0 0 0 [some (ab_R tp)] [] w148 (tm_Qv N T (fun w2 => (∀ (p : Nat) (j : Int), ¬ ((p = tp ∧ (j = 2 ∨ j = 5 ∨ j = 6 ∨ j = 7 ∨ j = 8))) → tm_g w2 p j = tm_g w p j) ∧ ∃ s1 a1 g1 n1 w1 : Int, tm_g w2 tp 5 = some (ab_I s1) ∧ tm_g w2 tp 2 = some (ab_I a1) ∧ tm_g w2 tp 6 = some (ab_I g1) ∧ tm_g w2 tp 7 = some (ab_I n1) ∧ tm_g w2 tp 8 = some (ab_I w1) ∧ (s1 = tk_sk f L a0 ∧ a1 = k_end f L s1 ∧ g1 = k_sign f L s1 ∧ n1 = k_num f L s1 ∧ w1 = k_wd K f L s1))) := by
    intro n
    induction n with
    | zero =>
      intro  t149 w148 hWw148 hFw148 kt149 lt149 ut149 q0L147 q1L147 mL147
      exfalso
      omega
    | succ nL147 ihL147 =>
      intro  t149 w148 hWw148 hFw148 kt149 lt149 ut149 q0L147 q1L147 mL147
      refine ev_aload_n dt_Ta_advance_0 rfl rfl ?_
      refine tm_getK (K := 2) dt_Ta_advance_1 hWw148 tpt0 fl_Ta_25 rfl kt149 ?_
      refine ev_aload_n dt_Ta_advance_4 rfl rfl ?_
      refine tm_getK (K := 1) dt_Ta_advance_5 hWw148 tpt0 fl_Ta_21 rfl ((hFw148 tp 1 (by omega)).trans k_L) ?_
      refine ev_icmp_ge (tgt := 38) dt_Ta_advance_8 (by decide) (by omega) (by omega) (fun h150 => ?_) (fun h150 => ?_)
      · skip
        refine ev_aload_n dt_Ta_advance_38 rfl rfl ?_
        refine ev_aload_n dt_Ta_advance_39 rfl rfl ?_
        refine tm_getK (K := 2) dt_Ta_advance_40 hWw148 tpt0 fl_Ta_25 rfl kt149 ?_
        refine tm_putI (K := 5) dt_Ta_advance_43 hWw148 tpt0 (fp_Ta_34 _) rfl rfl trivial (by omega) (by omega) (fun w151 hWw151 kkw151 hfw151 => ?_)
        have hFw151 : ∀ (p : Nat) (j : Int), ¬ ((p = tp ∧ (j = 2 ∨ j = 5 ∨ j = 6 ∨ j = 7 ∨ j = 8))) → tm_g w151 p j = tm_g w p j := fun p j h => (hfw151 p j (by omega)).trans (hFw148 p j h)
        have z152 := (hfw151 tp 2 (by omega)).trans kt149
        refine ev_aload_n dt_Ta_advance_46 rfl rfl ?_
        refine ev_iconst dt_Ta_advance_47 ?_
        refine tm_putI (K := 7) dt_Ta_advance_48 hWw151 tpt0 (fp_Ta_40 _) rfl rfl trivial (by omega) (by omega) (fun w153 hWw153 kkw153 hfw153 => ?_)
        have hFw153 : ∀ (p : Nat) (j : Int), ¬ ((p = tp ∧ (j = 2 ∨ j = 5 ∨ j = 6 ∨ j = 7 ∨ j = 8))) → tm_g w153 p j = tm_g w p j := fun p j h => (hfw153 p j (by omega)).trans (hFw151 p j h)
        have z154 := (hfw153 tp 2 (by omega)).trans z152
        have z155 := (hfw153 tp 5 (by omega)).trans kkw151
        refine ev_aload_n dt_Ta_advance_51 rfl rfl ?_
        refine ev_iconst dt_Ta_advance_52 ?_
        refine tm_putI (K := 8) dt_Ta_advance_53 hWw153 tpt0 (fp_Ta_43 _) rfl rfl trivial (by omega) (by omega) (fun w156 hWw156 kkw156 hfw156 => ?_)
        have hFw156 : ∀ (p : Nat) (j : Int), ¬ ((p = tp ∧ (j = 2 ∨ j = 5 ∨ j = 6 ∨ j = 7 ∨ j = 8))) → tm_g w156 p j = tm_g w p j := fun p j h => (hfw156 p j (by omega)).trans (hFw153 p j h)
        have z157 := (hfw156 tp 2 (by omega)).trans z154
        have z158 := (hfw156 tp 5 (by omega)).trans z155
        have z159 := (hfw156 tp 7 (by omega)).trans kkw153
        refine ev_aload_n dt_Ta_advance_56 rfl rfl ?_
        refine tm_getK (K := 2) dt_Ta_advance_57 hWw156 tpt0 fl_Ta_25 rfl z157 ?_
        refine ev_aload_n dt_Ta_advance_60 rfl rfl ?_
        refine tm_getK (K := 1) dt_Ta_advance_61 hWw156 tpt0 fl_Ta_21 rfl ((hFw156 tp 1 (by omega)).trans k_L) ?_
        refine ev_icmp_lt (tgt := 75) dt_Ta_advance_64 (by decide) (by omega) (by omega) (fun h160 => ?_) (fun h160 => ?_)
        · skip
          refine ev_aload_n dt_Ta_advance_75 rfl rfl ?_
          refine tm_getR dt_Ta_advance_76 hWw156 tpt0 fl_Ta_9 rfl ?_
          refine ev_aload_n dt_Ta_advance_79 rfl rfl ?_
          refine tm_getK (K := 2) dt_Ta_advance_80 hWw156 tpt0 fl_Ta_25 rfl z157 ?_
          refine tm_baK dt_Ta_advance_83 hWw156 tpt1 (by omega) (by omega) (by omega) (((hFw156 (tp + 1) _ (by omega)).trans (hf _))) ?_
          have fb161 := hfb t149
          refine ev_bipush dt_Ta_advance_84 rfl ?_
          refine ev_icmp_lt (tgt := 116) dt_Ta_advance_86 (by decide) (by omega) (by omega) (fun h162 => ?_) (fun h162 => ?_)
          · skip
            refine ev_aload_n dt_Ta_advance_116 rfl rfl ?_
            refine tm_getR dt_Ta_advance_117 hWw156 tpt0 fl_Ta_9 rfl ?_
            refine ev_aload_n dt_Ta_advance_120 rfl rfl ?_
            refine tm_getK (K := 2) dt_Ta_advance_121 hWw156 tpt0 fl_Ta_25 rfl z157 ?_
            refine tm_baK dt_Ta_advance_124 hWw156 tpt1 (by omega) (by omega) (by omega) (((hFw156 (tp + 1) _ (by omega)).trans (hf _))) ?_
            have fb163 := hfb t149
            refine ev_bipush dt_Ta_advance_125 rfl ?_
            refine ev_icmp_lt (tgt := 157) dt_Ta_advance_127 (by decide) (by omega) (by omega) (fun h164 => ?_) (fun h164 => ?_)
            · skip
              refine ev_aload_n dt_Ta_advance_157 rfl rfl ?_
              refine tm_vv dt_Ta_advance_158 (tx_Ta_readSign hWw156 h_tp (t149) z157 (by omega) (by omega) (L) ((hFw156 tp 1 (by omega)).trans k_L) hK (fun j => (hFw156 (tp + 1) j (by omega)).trans (hf j)) ((hFw156 tp 3 (by omega)).trans kK) (by omega)) kb_Ta_52 ⟨im_Ta_readSign, se_Ta_readSign⟩ rfl hWw156 tpt0 rfl (Nat.le_of_ble_eq_true rfl) (by decide) (fun w165 hWw165 hRw165 => ?_)
              obtain ⟨hfw165, v166, v167, kv166, kv167, hpw165⟩ := hRw165
              have hFw165 : ∀ (p : Nat) (j : Int), ¬ ((p = tp ∧ (j = 2 ∨ j = 5 ∨ j = 6 ∨ j = 7 ∨ j = 8))) → tm_g w165 p j = tm_g w p j := fun p j h => (hfw165 p j (by omega)).trans (hFw156 p j h)
              have z168 := (hfw165 tp 5 (by omega)).trans z158
              have z169 := (hfw165 tp 7 (by omega)).trans z159
              have z170 := (hfw165 tp 8 (by omega)).trans kkw156
              have bv166 : 0 ≤ v166 ∧ v166 ≤ 400 := by obtain ⟨a, e, h0, h1⟩ := tm_peek (k := 2) (K := 2) hWw165 tpt0 rfl rfl; rw [kv166] at e; injection e with e; injection e with e; omega
              have bv167 : (-2147483648) ≤ v167 ∧ v167 ≤ 2147483647 := by obtain ⟨a, e, h0, h1⟩ := tm_peek (k := 6) (K := 6) hWw165 tpt0 rfl rfl; rw [kv167] at e; injection e with e; injection e with e; omega
              exact ev_return dt_Ta_advance_161 rfl ⟨hWw165, rfl, ⟨hFw165, t149, v166, v167, (-1), (-1), z168, kv166, kv167, z169, z170, ⟨(by rw [← q0L147]; exact (k_sk0 (by omega)).symm), (by first | exact k_f0 (by omega) | exact k_f1 (by omega) (by omega) hpw165.1 hpw165.2 | exact k_f2 (by omega) (by omega) hpw165.1 hpw165.2 | exact k_f4 (by omega) (by omega) (by omega) hpw165.1 hpw165.2)⟩⟩⟩
            · skip
              refine ev_aload_n dt_Ta_advance_130 rfl rfl ?_
              refine tm_getR dt_Ta_advance_131 hWw156 tpt0 fl_Ta_9 rfl ?_
              refine ev_aload_n dt_Ta_advance_134 rfl rfl ?_
              refine tm_getK (K := 2) dt_Ta_advance_135 hWw156 tpt0 fl_Ta_25 rfl z157 ?_
              refine tm_baK dt_Ta_advance_138 hWw156 tpt1 (by omega) (by omega) (by omega) (((hFw156 (tp + 1) _ (by omega)).trans (hf _))) ?_
              have fb171 := hfb t149
              refine ev_bipush dt_Ta_advance_139 rfl ?_
              refine ev_icmp_gt (tgt := 157) dt_Ta_advance_141 (by decide) (by omega) (by omega) (fun h172 => ?_) (fun h172 => ?_)
              · skip
                refine ev_aload_n dt_Ta_advance_157 rfl rfl ?_
                refine tm_vv dt_Ta_advance_158 (tx_Ta_readSign hWw156 h_tp (t149) z157 (by omega) (by omega) (L) ((hFw156 tp 1 (by omega)).trans k_L) hK (fun j => (hFw156 (tp + 1) j (by omega)).trans (hf j)) ((hFw156 tp 3 (by omega)).trans kK) (by omega)) kb_Ta_52 ⟨im_Ta_readSign, se_Ta_readSign⟩ rfl hWw156 tpt0 rfl (Nat.le_of_ble_eq_true rfl) (by decide) (fun w173 hWw173 hRw173 => ?_)
                obtain ⟨hfw173, v174, v175, kv174, kv175, hpw173⟩ := hRw173
                have hFw173 : ∀ (p : Nat) (j : Int), ¬ ((p = tp ∧ (j = 2 ∨ j = 5 ∨ j = 6 ∨ j = 7 ∨ j = 8))) → tm_g w173 p j = tm_g w p j := fun p j h => (hfw173 p j (by omega)).trans (hFw156 p j h)
                have z176 := (hfw173 tp 5 (by omega)).trans z158
                have z177 := (hfw173 tp 7 (by omega)).trans z159
                have z178 := (hfw173 tp 8 (by omega)).trans kkw156
                have bv174 : 0 ≤ v174 ∧ v174 ≤ 400 := by obtain ⟨a, e, h0, h1⟩ := tm_peek (k := 2) (K := 2) hWw173 tpt0 rfl rfl; rw [kv174] at e; injection e with e; injection e with e; omega
                have bv175 : (-2147483648) ≤ v175 ∧ v175 ≤ 2147483647 := by obtain ⟨a, e, h0, h1⟩ := tm_peek (k := 6) (K := 6) hWw173 tpt0 rfl rfl; rw [kv175] at e; injection e with e; injection e with e; omega
                exact ev_return dt_Ta_advance_161 rfl ⟨hWw173, rfl, ⟨hFw173, t149, v174, v175, (-1), (-1), z176, kv174, kv175, z177, z178, ⟨(by rw [← q0L147]; exact (k_sk0 (by omega)).symm), (by first | exact k_f0 (by omega) | exact k_f1 (by omega) (by omega) hpw173.1 hpw173.2 | exact k_f2 (by omega) (by omega) hpw173.1 hpw173.2 | exact k_f4 (by omega) (by omega) (by omega) hpw173.1 hpw173.2)⟩⟩⟩
              · skip
                refine ev_aload_n dt_Ta_advance_144 rfl rfl ?_
                refine ev_bipush dt_Ta_advance_145 rfl ?_
                refine tm_putI (K := 6) dt_Ta_advance_147 hWw156 tpt0 (fp_Ta_37 _) rfl rfl trivial (by omega) (by omega) (fun w179 hWw179 kkw179 hfw179 => ?_)
                have hFw179 : ∀ (p : Nat) (j : Int), ¬ ((p = tp ∧ (j = 2 ∨ j = 5 ∨ j = 6 ∨ j = 7 ∨ j = 8))) → tm_g w179 p j = tm_g w p j := fun p j h => (hfw179 p j (by omega)).trans (hFw156 p j h)
                have z180 := (hfw179 tp 2 (by omega)).trans z157
                have z181 := (hfw179 tp 5 (by omega)).trans z158
                have z182 := (hfw179 tp 7 (by omega)).trans z159
                have z183 := (hfw179 tp 8 (by omega)).trans kkw156
                refine ev_aload_n dt_Ta_advance_150 rfl rfl ?_
                refine tm_vv dt_Ta_advance_151 (tx_Ta_readWord hWw179 h_tp (t149) z180 (t149) z181 ((-1)) z183 (L) ((hFw179 tp 1 (by omega)).trans k_L) hK (fun j => (hFw179 (tp + 1) j (by omega)).trans (hf j)) ((hFw179 tp 3 (by omega)).trans kK) (by omega) (by omega) (by omega)) kb_Ta_49 ⟨im_Ta_readWord, se_Ta_readWord⟩ rfl hWw179 tpt0 rfl (Nat.le_of_ble_eq_true rfl) (by decide) (fun w184 hWw184 hRw184 => ?_)
                obtain ⟨hfw184, v185, v186, kv185, kv186, hpw184⟩ := hRw184
                have hFw184 : ∀ (p : Nat) (j : Int), ¬ ((p = tp ∧ (j = 2 ∨ j = 5 ∨ j = 6 ∨ j = 7 ∨ j = 8))) → tm_g w184 p j = tm_g w p j := fun p j h => (hfw184 p j (by omega)).trans (hFw179 p j h)
                have z187 := (hfw184 tp 5 (by omega)).trans z181
                have z188 := (hfw184 tp 7 (by omega)).trans z182
                have z189 := (hfw184 tp 6 (by omega)).trans kkw179
                have bv185 : 0 ≤ v185 ∧ v185 ≤ 400 := by obtain ⟨a, e, h0, h1⟩ := tm_peek (k := 2) (K := 2) hWw184 tpt0 rfl rfl; rw [kv185] at e; injection e with e; injection e with e; omega
                have bv186 : (-2147483648) ≤ v186 ∧ v186 ≤ 2147483647 := by obtain ⟨a, e, h0, h1⟩ := tm_peek (k := 8) (K := 8) hWw184 tpt0 rfl rfl; rw [kv186] at e; injection e with e; injection e with e; omega
                refine ev_goto (tgt := 161) dt_Ta_advance_154 (by decide) ?_
                exact ev_return dt_Ta_advance_161 rfl ⟨hWw184, rfl, ⟨hFw184, t149, v185, (-3), (-1), v186, z187, kv185, z189, z188, kv186, ⟨(by rw [← q0L147]; exact (k_sk0 (by omega)).symm), (by first | exact k_f0 (by omega) | exact k_f1 (by omega) (by omega) hpw184.1 hpw184.2 | exact k_f2 (by omega) (by omega) hpw184.1 hpw184.2 | exact k_f4 (by omega) (by omega) (by omega) hpw184.1 hpw184.2)⟩⟩⟩
          · skip
            refine ev_aload_n dt_Ta_advance_89 rfl rfl ?_
            refine tm_getR dt_Ta_advance_90 hWw156 tpt0 fl_Ta_9 rfl ?_
            refine ev_aload_n dt_Ta_advance_93 rfl rfl ?_
            refine tm_getK (K := 2) dt_Ta_advance_94 hWw156 tpt0 fl_Ta_25 rfl z157 ?_
            refine tm_baK dt_Ta_advance_97 hWw156 tpt1 (by omega) (by omega) (by omega) (((hFw156 (tp + 1) _ (by omega)).trans (hf _))) ?_
            have fb190 := hfb t149
            refine ev_bipush dt_Ta_advance_98 rfl ?_
            refine ev_icmp_gt (tgt := 116) dt_Ta_advance_100 (by decide) (by omega) (by omega) (fun h191 => ?_) (fun h191 => ?_)
            · skip
              refine ev_aload_n dt_Ta_advance_116 rfl rfl ?_
              refine tm_getR dt_Ta_advance_117 hWw156 tpt0 fl_Ta_9 rfl ?_
              refine ev_aload_n dt_Ta_advance_120 rfl rfl ?_
              refine tm_getK (K := 2) dt_Ta_advance_121 hWw156 tpt0 fl_Ta_25 rfl z157 ?_
              refine tm_baK dt_Ta_advance_124 hWw156 tpt1 (by omega) (by omega) (by omega) (((hFw156 (tp + 1) _ (by omega)).trans (hf _))) ?_
              have fb192 := hfb t149
              refine ev_bipush dt_Ta_advance_125 rfl ?_
              refine ev_icmp_lt (tgt := 157) dt_Ta_advance_127 (by decide) (by omega) (by omega) (fun h193 => ?_) (fun h193 => ?_)
              · skip
                refine ev_aload_n dt_Ta_advance_157 rfl rfl ?_
                refine tm_vv dt_Ta_advance_158 (tx_Ta_readSign hWw156 h_tp (t149) z157 (by omega) (by omega) (L) ((hFw156 tp 1 (by omega)).trans k_L) hK (fun j => (hFw156 (tp + 1) j (by omega)).trans (hf j)) ((hFw156 tp 3 (by omega)).trans kK) (by omega)) kb_Ta_52 ⟨im_Ta_readSign, se_Ta_readSign⟩ rfl hWw156 tpt0 rfl (Nat.le_of_ble_eq_true rfl) (by decide) (fun w194 hWw194 hRw194 => ?_)
                obtain ⟨hfw194, v195, v196, kv195, kv196, hpw194⟩ := hRw194
                have hFw194 : ∀ (p : Nat) (j : Int), ¬ ((p = tp ∧ (j = 2 ∨ j = 5 ∨ j = 6 ∨ j = 7 ∨ j = 8))) → tm_g w194 p j = tm_g w p j := fun p j h => (hfw194 p j (by omega)).trans (hFw156 p j h)
                have z197 := (hfw194 tp 5 (by omega)).trans z158
                have z198 := (hfw194 tp 7 (by omega)).trans z159
                have z199 := (hfw194 tp 8 (by omega)).trans kkw156
                have bv195 : 0 ≤ v195 ∧ v195 ≤ 400 := by obtain ⟨a, e, h0, h1⟩ := tm_peek (k := 2) (K := 2) hWw194 tpt0 rfl rfl; rw [kv195] at e; injection e with e; injection e with e; omega
                have bv196 : (-2147483648) ≤ v196 ∧ v196 ≤ 2147483647 := by obtain ⟨a, e, h0, h1⟩ := tm_peek (k := 6) (K := 6) hWw194 tpt0 rfl rfl; rw [kv196] at e; injection e with e; injection e with e; omega
                exact ev_return dt_Ta_advance_161 rfl ⟨hWw194, rfl, ⟨hFw194, t149, v195, v196, (-1), (-1), z197, kv195, kv196, z198, z199, ⟨(by rw [← q0L147]; exact (k_sk0 (by omega)).symm), (by first | exact k_f0 (by omega) | exact k_f1 (by omega) (by omega) hpw194.1 hpw194.2 | exact k_f2 (by omega) (by omega) hpw194.1 hpw194.2 | exact k_f4 (by omega) (by omega) (by omega) hpw194.1 hpw194.2)⟩⟩⟩
              · skip
                refine ev_aload_n dt_Ta_advance_130 rfl rfl ?_
                refine tm_getR dt_Ta_advance_131 hWw156 tpt0 fl_Ta_9 rfl ?_
                refine ev_aload_n dt_Ta_advance_134 rfl rfl ?_
                refine tm_getK (K := 2) dt_Ta_advance_135 hWw156 tpt0 fl_Ta_25 rfl z157 ?_
                refine tm_baK dt_Ta_advance_138 hWw156 tpt1 (by omega) (by omega) (by omega) (((hFw156 (tp + 1) _ (by omega)).trans (hf _))) ?_
                have fb200 := hfb t149
                refine ev_bipush dt_Ta_advance_139 rfl ?_
                refine ev_icmp_gt (tgt := 157) dt_Ta_advance_141 (by decide) (by omega) (by omega) (fun h201 => ?_) (fun h201 => ?_)
                · skip
                  refine ev_aload_n dt_Ta_advance_157 rfl rfl ?_
                  refine tm_vv dt_Ta_advance_158 (tx_Ta_readSign hWw156 h_tp (t149) z157 (by omega) (by omega) (L) ((hFw156 tp 1 (by omega)).trans k_L) hK (fun j => (hFw156 (tp + 1) j (by omega)).trans (hf j)) ((hFw156 tp 3 (by omega)).trans kK) (by omega)) kb_Ta_52 ⟨im_Ta_readSign, se_Ta_readSign⟩ rfl hWw156 tpt0 rfl (Nat.le_of_ble_eq_true rfl) (by decide) (fun w202 hWw202 hRw202 => ?_)
                  obtain ⟨hfw202, v203, v204, kv203, kv204, hpw202⟩ := hRw202
                  have hFw202 : ∀ (p : Nat) (j : Int), ¬ ((p = tp ∧ (j = 2 ∨ j = 5 ∨ j = 6 ∨ j = 7 ∨ j = 8))) → tm_g w202 p j = tm_g w p j := fun p j h => (hfw202 p j (by omega)).trans (hFw156 p j h)
                  have z205 := (hfw202 tp 5 (by omega)).trans z158
                  have z206 := (hfw202 tp 7 (by omega)).trans z159
                  have z207 := (hfw202 tp 8 (by omega)).trans kkw156
                  have bv203 : 0 ≤ v203 ∧ v203 ≤ 400 := by obtain ⟨a, e, h0, h1⟩ := tm_peek (k := 2) (K := 2) hWw202 tpt0 rfl rfl; rw [kv203] at e; injection e with e; injection e with e; omega
                  have bv204 : (-2147483648) ≤ v204 ∧ v204 ≤ 2147483647 := by obtain ⟨a, e, h0, h1⟩ := tm_peek (k := 6) (K := 6) hWw202 tpt0 rfl rfl; rw [kv204] at e; injection e with e; injection e with e; omega
                  exact ev_return dt_Ta_advance_161 rfl ⟨hWw202, rfl, ⟨hFw202, t149, v203, v204, (-1), (-1), z205, kv203, kv204, z206, z207, ⟨(by rw [← q0L147]; exact (k_sk0 (by omega)).symm), (by first | exact k_f0 (by omega) | exact k_f1 (by omega) (by omega) hpw202.1 hpw202.2 | exact k_f2 (by omega) (by omega) hpw202.1 hpw202.2 | exact k_f4 (by omega) (by omega) (by omega) hpw202.1 hpw202.2)⟩⟩⟩
                · skip
                  refine ev_aload_n dt_Ta_advance_144 rfl rfl ?_
                  refine ev_bipush dt_Ta_advance_145 rfl ?_
                  refine tm_putI (K := 6) dt_Ta_advance_147 hWw156 tpt0 (fp_Ta_37 _) rfl rfl trivial (by omega) (by omega) (fun w208 hWw208 kkw208 hfw208 => ?_)
                  have hFw208 : ∀ (p : Nat) (j : Int), ¬ ((p = tp ∧ (j = 2 ∨ j = 5 ∨ j = 6 ∨ j = 7 ∨ j = 8))) → tm_g w208 p j = tm_g w p j := fun p j h => (hfw208 p j (by omega)).trans (hFw156 p j h)
                  have z209 := (hfw208 tp 2 (by omega)).trans z157
                  have z210 := (hfw208 tp 5 (by omega)).trans z158
                  have z211 := (hfw208 tp 7 (by omega)).trans z159
                  have z212 := (hfw208 tp 8 (by omega)).trans kkw156
                  refine ev_aload_n dt_Ta_advance_150 rfl rfl ?_
                  refine tm_vv dt_Ta_advance_151 (tx_Ta_readWord hWw208 h_tp (t149) z209 (t149) z210 ((-1)) z212 (L) ((hFw208 tp 1 (by omega)).trans k_L) hK (fun j => (hFw208 (tp + 1) j (by omega)).trans (hf j)) ((hFw208 tp 3 (by omega)).trans kK) (by omega) (by omega) (by omega)) kb_Ta_49 ⟨im_Ta_readWord, se_Ta_readWord⟩ rfl hWw208 tpt0 rfl (Nat.le_of_ble_eq_true rfl) (by decide) (fun w213 hWw213 hRw213 => ?_)
                  obtain ⟨hfw213, v214, v215, kv214, kv215, hpw213⟩ := hRw213
                  have hFw213 : ∀ (p : Nat) (j : Int), ¬ ((p = tp ∧ (j = 2 ∨ j = 5 ∨ j = 6 ∨ j = 7 ∨ j = 8))) → tm_g w213 p j = tm_g w p j := fun p j h => (hfw213 p j (by omega)).trans (hFw208 p j h)
                  have z216 := (hfw213 tp 5 (by omega)).trans z210
                  have z217 := (hfw213 tp 7 (by omega)).trans z211
                  have z218 := (hfw213 tp 6 (by omega)).trans kkw208
                  have bv214 : 0 ≤ v214 ∧ v214 ≤ 400 := by obtain ⟨a, e, h0, h1⟩ := tm_peek (k := 2) (K := 2) hWw213 tpt0 rfl rfl; rw [kv214] at e; injection e with e; injection e with e; omega
                  have bv215 : (-2147483648) ≤ v215 ∧ v215 ≤ 2147483647 := by obtain ⟨a, e, h0, h1⟩ := tm_peek (k := 8) (K := 8) hWw213 tpt0 rfl rfl; rw [kv215] at e; injection e with e; injection e with e; omega
                  refine ev_goto (tgt := 161) dt_Ta_advance_154 (by decide) ?_
                  exact ev_return dt_Ta_advance_161 rfl ⟨hWw213, rfl, ⟨hFw213, t149, v214, (-3), (-1), v215, z216, kv214, z218, z217, kv215, ⟨(by rw [← q0L147]; exact (k_sk0 (by omega)).symm), (by first | exact k_f0 (by omega) | exact k_f1 (by omega) (by omega) hpw213.1 hpw213.2 | exact k_f2 (by omega) (by omega) hpw213.1 hpw213.2 | exact k_f4 (by omega) (by omega) (by omega) hpw213.1 hpw213.2)⟩⟩⟩
            · skip
              refine ev_aload_n dt_Ta_advance_103 rfl rfl ?_
              refine ev_bipush dt_Ta_advance_104 rfl ?_
              refine tm_putI (K := 6) dt_Ta_advance_106 hWw156 tpt0 (fp_Ta_37 _) rfl rfl trivial (by omega) (by omega) (fun w219 hWw219 kkw219 hfw219 => ?_)
              have hFw219 : ∀ (p : Nat) (j : Int), ¬ ((p = tp ∧ (j = 2 ∨ j = 5 ∨ j = 6 ∨ j = 7 ∨ j = 8))) → tm_g w219 p j = tm_g w p j := fun p j h => (hfw219 p j (by omega)).trans (hFw156 p j h)
              have z220 := (hfw219 tp 2 (by omega)).trans z157
              have z221 := (hfw219 tp 5 (by omega)).trans z158
              have z222 := (hfw219 tp 7 (by omega)).trans z159
              have z223 := (hfw219 tp 8 (by omega)).trans kkw156
              refine ev_aload_n dt_Ta_advance_109 rfl rfl ?_
              refine tm_vv dt_Ta_advance_110 (tx_Ta_readNumber hWw219 h_tp (t149) z220 (t149) z221 (L) ((hFw219 tp 1 (by omega)).trans k_L) hK (fun j => (hFw219 (tp + 1) j (by omega)).trans (hf j)) ((hFw219 tp 3 (by omega)).trans kK) (by omega) (by omega)) kb_Ta_46 ⟨im_Ta_readNumber, se_Ta_readNumber⟩ rfl hWw219 tpt0 rfl (Nat.le_of_ble_eq_true rfl) (by decide) (fun w224 hWw224 hRw224 => ?_)
              obtain ⟨hfw224, v225, v226, kv225, kv226, hpw224⟩ := hRw224
              have hFw224 : ∀ (p : Nat) (j : Int), ¬ ((p = tp ∧ (j = 2 ∨ j = 5 ∨ j = 6 ∨ j = 7 ∨ j = 8))) → tm_g w224 p j = tm_g w p j := fun p j h => (hfw224 p j (by omega)).trans (hFw219 p j h)
              have z227 := (hfw224 tp 5 (by omega)).trans z221
              have z228 := (hfw224 tp 8 (by omega)).trans z223
              have z229 := (hfw224 tp 6 (by omega)).trans kkw219
              have bv225 : 0 ≤ v225 ∧ v225 ≤ 400 := by obtain ⟨a, e, h0, h1⟩ := tm_peek (k := 2) (K := 2) hWw224 tpt0 rfl rfl; rw [kv225] at e; injection e with e; injection e with e; omega
              have bv226 : (-2147483648) ≤ v226 ∧ v226 ≤ 2147483647 := by obtain ⟨a, e, h0, h1⟩ := tm_peek (k := 7) (K := 7) hWw224 tpt0 rfl rfl; rw [kv226] at e; injection e with e; injection e with e; omega
              refine ev_goto (tgt := 161) dt_Ta_advance_113 (by decide) ?_
              exact ev_return dt_Ta_advance_161 rfl ⟨hWw224, rfl, ⟨hFw224, t149, v225, (-2), v226, (-1), z227, kv225, z229, kv226, z228, ⟨(by rw [← q0L147]; exact (k_sk0 (by omega)).symm), (by first | exact k_f0 (by omega) | exact k_f1 (by omega) (by omega) hpw224.1 hpw224.2 | exact k_f2 (by omega) (by omega) hpw224.1 hpw224.2 | exact k_f4 (by omega) (by omega) (by omega) hpw224.1 hpw224.2)⟩⟩⟩
        · skip
          refine ev_aload_n dt_Ta_advance_67 rfl rfl ?_
          refine ev_iconst dt_Ta_advance_68 ?_
          refine tm_putI (K := 6) dt_Ta_advance_69 hWw156 tpt0 (fp_Ta_37 _) rfl rfl trivial (by omega) (by omega) (fun w230 hWw230 kkw230 hfw230 => ?_)
          have hFw230 : ∀ (p : Nat) (j : Int), ¬ ((p = tp ∧ (j = 2 ∨ j = 5 ∨ j = 6 ∨ j = 7 ∨ j = 8))) → tm_g w230 p j = tm_g w p j := fun p j h => (hfw230 p j (by omega)).trans (hFw156 p j h)
          have z231 := (hfw230 tp 2 (by omega)).trans z157
          have z232 := (hfw230 tp 5 (by omega)).trans z158
          have z233 := (hfw230 tp 7 (by omega)).trans z159
          have z234 := (hfw230 tp 8 (by omega)).trans kkw156
          refine ev_goto (tgt := 161) dt_Ta_advance_72 (by decide) ?_
          exact ev_return dt_Ta_advance_161 rfl ⟨hWw230, rfl, ⟨hFw230, t149, t149, (-1), (-1), (-1), z232, z231, kkw230, z233, z234, ⟨(by rw [← q0L147]; exact (k_sk0 (by omega)).symm), (by first | exact k_f0 (by omega) | exact k_f1 (by omega) (by omega) hpw230.1 hpw230.2 | exact k_f2 (by omega) (by omega) hpw230.1 hpw230.2 | exact k_f4 (by omega) (by omega) (by omega) hpw230.1 hpw230.2)⟩⟩⟩
      · skip
        refine ev_aload_n dt_Ta_advance_11 rfl rfl ?_
        refine tm_getR dt_Ta_advance_12 hWw148 tpt0 fl_Ta_9 rfl ?_
        refine ev_aload_n dt_Ta_advance_15 rfl rfl ?_
        refine tm_getK (K := 2) dt_Ta_advance_16 hWw148 tpt0 fl_Ta_25 rfl kt149 ?_
        refine tm_baK dt_Ta_advance_19 hWw148 tpt1 (by omega) (by omega) (by omega) (((hFw148 (tp + 1) _ (by omega)).trans (hf _))) ?_
        have fb235 := hfb t149
        refine ev_bipush dt_Ta_advance_20 rfl ?_
        refine ev_icmp_ne (tgt := 38) dt_Ta_advance_22 (by decide) (by omega) (by omega) (fun h236 => ?_) (fun h236 => ?_)
        · skip
          refine ev_aload_n dt_Ta_advance_38 rfl rfl ?_
          refine ev_aload_n dt_Ta_advance_39 rfl rfl ?_
          refine tm_getK (K := 2) dt_Ta_advance_40 hWw148 tpt0 fl_Ta_25 rfl kt149 ?_
          refine tm_putI (K := 5) dt_Ta_advance_43 hWw148 tpt0 (fp_Ta_34 _) rfl rfl trivial (by omega) (by omega) (fun w237 hWw237 kkw237 hfw237 => ?_)
          have hFw237 : ∀ (p : Nat) (j : Int), ¬ ((p = tp ∧ (j = 2 ∨ j = 5 ∨ j = 6 ∨ j = 7 ∨ j = 8))) → tm_g w237 p j = tm_g w p j := fun p j h => (hfw237 p j (by omega)).trans (hFw148 p j h)
          have z238 := (hfw237 tp 2 (by omega)).trans kt149
          refine ev_aload_n dt_Ta_advance_46 rfl rfl ?_
          refine ev_iconst dt_Ta_advance_47 ?_
          refine tm_putI (K := 7) dt_Ta_advance_48 hWw237 tpt0 (fp_Ta_40 _) rfl rfl trivial (by omega) (by omega) (fun w239 hWw239 kkw239 hfw239 => ?_)
          have hFw239 : ∀ (p : Nat) (j : Int), ¬ ((p = tp ∧ (j = 2 ∨ j = 5 ∨ j = 6 ∨ j = 7 ∨ j = 8))) → tm_g w239 p j = tm_g w p j := fun p j h => (hfw239 p j (by omega)).trans (hFw237 p j h)
          have z240 := (hfw239 tp 2 (by omega)).trans z238
          have z241 := (hfw239 tp 5 (by omega)).trans kkw237
          refine ev_aload_n dt_Ta_advance_51 rfl rfl ?_
          refine ev_iconst dt_Ta_advance_52 ?_
          refine tm_putI (K := 8) dt_Ta_advance_53 hWw239 tpt0 (fp_Ta_43 _) rfl rfl trivial (by omega) (by omega) (fun w242 hWw242 kkw242 hfw242 => ?_)
          have hFw242 : ∀ (p : Nat) (j : Int), ¬ ((p = tp ∧ (j = 2 ∨ j = 5 ∨ j = 6 ∨ j = 7 ∨ j = 8))) → tm_g w242 p j = tm_g w p j := fun p j h => (hfw242 p j (by omega)).trans (hFw239 p j h)
          have z243 := (hfw242 tp 2 (by omega)).trans z240
          have z244 := (hfw242 tp 5 (by omega)).trans z241
          have z245 := (hfw242 tp 7 (by omega)).trans kkw239
          refine ev_aload_n dt_Ta_advance_56 rfl rfl ?_
          refine tm_getK (K := 2) dt_Ta_advance_57 hWw242 tpt0 fl_Ta_25 rfl z243 ?_
          refine ev_aload_n dt_Ta_advance_60 rfl rfl ?_
          refine tm_getK (K := 1) dt_Ta_advance_61 hWw242 tpt0 fl_Ta_21 rfl ((hFw242 tp 1 (by omega)).trans k_L) ?_
          refine ev_icmp_lt (tgt := 75) dt_Ta_advance_64 (by decide) (by omega) (by omega) (fun h246 => ?_) (fun h246 => ?_)
          · skip
            refine ev_aload_n dt_Ta_advance_75 rfl rfl ?_
            refine tm_getR dt_Ta_advance_76 hWw242 tpt0 fl_Ta_9 rfl ?_
            refine ev_aload_n dt_Ta_advance_79 rfl rfl ?_
            refine tm_getK (K := 2) dt_Ta_advance_80 hWw242 tpt0 fl_Ta_25 rfl z243 ?_
            refine tm_baK dt_Ta_advance_83 hWw242 tpt1 (by omega) (by omega) (by omega) (((hFw242 (tp + 1) _ (by omega)).trans (hf _))) ?_
            have fb247 := hfb t149
            refine ev_bipush dt_Ta_advance_84 rfl ?_
            refine ev_icmp_lt (tgt := 116) dt_Ta_advance_86 (by decide) (by omega) (by omega) (fun h248 => ?_) (fun h248 => ?_)
            · skip
              refine ev_aload_n dt_Ta_advance_116 rfl rfl ?_
              refine tm_getR dt_Ta_advance_117 hWw242 tpt0 fl_Ta_9 rfl ?_
              refine ev_aload_n dt_Ta_advance_120 rfl rfl ?_
              refine tm_getK (K := 2) dt_Ta_advance_121 hWw242 tpt0 fl_Ta_25 rfl z243 ?_
              refine tm_baK dt_Ta_advance_124 hWw242 tpt1 (by omega) (by omega) (by omega) (((hFw242 (tp + 1) _ (by omega)).trans (hf _))) ?_
              have fb249 := hfb t149
              refine ev_bipush dt_Ta_advance_125 rfl ?_
              refine ev_icmp_lt (tgt := 157) dt_Ta_advance_127 (by decide) (by omega) (by omega) (fun h250 => ?_) (fun h250 => ?_)
              · skip
                refine ev_aload_n dt_Ta_advance_157 rfl rfl ?_
                refine tm_vv dt_Ta_advance_158 (tx_Ta_readSign hWw242 h_tp (t149) z243 (by omega) (by omega) (L) ((hFw242 tp 1 (by omega)).trans k_L) hK (fun j => (hFw242 (tp + 1) j (by omega)).trans (hf j)) ((hFw242 tp 3 (by omega)).trans kK) (by omega)) kb_Ta_52 ⟨im_Ta_readSign, se_Ta_readSign⟩ rfl hWw242 tpt0 rfl (Nat.le_of_ble_eq_true rfl) (by decide) (fun w251 hWw251 hRw251 => ?_)
                obtain ⟨hfw251, v252, v253, kv252, kv253, hpw251⟩ := hRw251
                have hFw251 : ∀ (p : Nat) (j : Int), ¬ ((p = tp ∧ (j = 2 ∨ j = 5 ∨ j = 6 ∨ j = 7 ∨ j = 8))) → tm_g w251 p j = tm_g w p j := fun p j h => (hfw251 p j (by omega)).trans (hFw242 p j h)
                have z254 := (hfw251 tp 5 (by omega)).trans z244
                have z255 := (hfw251 tp 7 (by omega)).trans z245
                have z256 := (hfw251 tp 8 (by omega)).trans kkw242
                have bv252 : 0 ≤ v252 ∧ v252 ≤ 400 := by obtain ⟨a, e, h0, h1⟩ := tm_peek (k := 2) (K := 2) hWw251 tpt0 rfl rfl; rw [kv252] at e; injection e with e; injection e with e; omega
                have bv253 : (-2147483648) ≤ v253 ∧ v253 ≤ 2147483647 := by obtain ⟨a, e, h0, h1⟩ := tm_peek (k := 6) (K := 6) hWw251 tpt0 rfl rfl; rw [kv253] at e; injection e with e; injection e with e; omega
                exact ev_return dt_Ta_advance_161 rfl ⟨hWw251, rfl, ⟨hFw251, t149, v252, v253, (-1), (-1), z254, kv252, kv253, z255, z256, ⟨(by rw [← q0L147]; exact (k_sk0 (by omega)).symm), (by first | exact k_f0 (by omega) | exact k_f1 (by omega) (by omega) hpw251.1 hpw251.2 | exact k_f2 (by omega) (by omega) hpw251.1 hpw251.2 | exact k_f4 (by omega) (by omega) (by omega) hpw251.1 hpw251.2)⟩⟩⟩
              · skip
                refine ev_aload_n dt_Ta_advance_130 rfl rfl ?_
                refine tm_getR dt_Ta_advance_131 hWw242 tpt0 fl_Ta_9 rfl ?_
                refine ev_aload_n dt_Ta_advance_134 rfl rfl ?_
                refine tm_getK (K := 2) dt_Ta_advance_135 hWw242 tpt0 fl_Ta_25 rfl z243 ?_
                refine tm_baK dt_Ta_advance_138 hWw242 tpt1 (by omega) (by omega) (by omega) (((hFw242 (tp + 1) _ (by omega)).trans (hf _))) ?_
                have fb257 := hfb t149
                refine ev_bipush dt_Ta_advance_139 rfl ?_
                refine ev_icmp_gt (tgt := 157) dt_Ta_advance_141 (by decide) (by omega) (by omega) (fun h258 => ?_) (fun h258 => ?_)
                · skip
                  refine ev_aload_n dt_Ta_advance_157 rfl rfl ?_
                  refine tm_vv dt_Ta_advance_158 (tx_Ta_readSign hWw242 h_tp (t149) z243 (by omega) (by omega) (L) ((hFw242 tp 1 (by omega)).trans k_L) hK (fun j => (hFw242 (tp + 1) j (by omega)).trans (hf j)) ((hFw242 tp 3 (by omega)).trans kK) (by omega)) kb_Ta_52 ⟨im_Ta_readSign, se_Ta_readSign⟩ rfl hWw242 tpt0 rfl (Nat.le_of_ble_eq_true rfl) (by decide) (fun w259 hWw259 hRw259 => ?_)
                  obtain ⟨hfw259, v260, v261, kv260, kv261, hpw259⟩ := hRw259
                  have hFw259 : ∀ (p : Nat) (j : Int), ¬ ((p = tp ∧ (j = 2 ∨ j = 5 ∨ j = 6 ∨ j = 7 ∨ j = 8))) → tm_g w259 p j = tm_g w p j := fun p j h => (hfw259 p j (by omega)).trans (hFw242 p j h)
                  have z262 := (hfw259 tp 5 (by omega)).trans z244
                  have z263 := (hfw259 tp 7 (by omega)).trans z245
                  have z264 := (hfw259 tp 8 (by omega)).trans kkw242
                  have bv260 : 0 ≤ v260 ∧ v260 ≤ 400 := by obtain ⟨a, e, h0, h1⟩ := tm_peek (k := 2) (K := 2) hWw259 tpt0 rfl rfl; rw [kv260] at e; injection e with e; injection e with e; omega
                  have bv261 : (-2147483648) ≤ v261 ∧ v261 ≤ 2147483647 := by obtain ⟨a, e, h0, h1⟩ := tm_peek (k := 6) (K := 6) hWw259 tpt0 rfl rfl; rw [kv261] at e; injection e with e; injection e with e; omega
                  exact ev_return dt_Ta_advance_161 rfl ⟨hWw259, rfl, ⟨hFw259, t149, v260, v261, (-1), (-1), z262, kv260, kv261, z263, z264, ⟨(by rw [← q0L147]; exact (k_sk0 (by omega)).symm), (by first | exact k_f0 (by omega) | exact k_f1 (by omega) (by omega) hpw259.1 hpw259.2 | exact k_f2 (by omega) (by omega) hpw259.1 hpw259.2 | exact k_f4 (by omega) (by omega) (by omega) hpw259.1 hpw259.2)⟩⟩⟩
                · skip
                  refine ev_aload_n dt_Ta_advance_144 rfl rfl ?_
                  refine ev_bipush dt_Ta_advance_145 rfl ?_
                  refine tm_putI (K := 6) dt_Ta_advance_147 hWw242 tpt0 (fp_Ta_37 _) rfl rfl trivial (by omega) (by omega) (fun w265 hWw265 kkw265 hfw265 => ?_)
                  have hFw265 : ∀ (p : Nat) (j : Int), ¬ ((p = tp ∧ (j = 2 ∨ j = 5 ∨ j = 6 ∨ j = 7 ∨ j = 8))) → tm_g w265 p j = tm_g w p j := fun p j h => (hfw265 p j (by omega)).trans (hFw242 p j h)
                  have z266 := (hfw265 tp 2 (by omega)).trans z243
                  have z267 := (hfw265 tp 5 (by omega)).trans z244
                  have z268 := (hfw265 tp 7 (by omega)).trans z245
                  have z269 := (hfw265 tp 8 (by omega)).trans kkw242
                  refine ev_aload_n dt_Ta_advance_150 rfl rfl ?_
                  refine tm_vv dt_Ta_advance_151 (tx_Ta_readWord hWw265 h_tp (t149) z266 (t149) z267 ((-1)) z269 (L) ((hFw265 tp 1 (by omega)).trans k_L) hK (fun j => (hFw265 (tp + 1) j (by omega)).trans (hf j)) ((hFw265 tp 3 (by omega)).trans kK) (by omega) (by omega) (by omega)) kb_Ta_49 ⟨im_Ta_readWord, se_Ta_readWord⟩ rfl hWw265 tpt0 rfl (Nat.le_of_ble_eq_true rfl) (by decide) (fun w270 hWw270 hRw270 => ?_)
                  obtain ⟨hfw270, v271, v272, kv271, kv272, hpw270⟩ := hRw270
                  have hFw270 : ∀ (p : Nat) (j : Int), ¬ ((p = tp ∧ (j = 2 ∨ j = 5 ∨ j = 6 ∨ j = 7 ∨ j = 8))) → tm_g w270 p j = tm_g w p j := fun p j h => (hfw270 p j (by omega)).trans (hFw265 p j h)
                  have z273 := (hfw270 tp 5 (by omega)).trans z267
                  have z274 := (hfw270 tp 7 (by omega)).trans z268
                  have z275 := (hfw270 tp 6 (by omega)).trans kkw265
                  have bv271 : 0 ≤ v271 ∧ v271 ≤ 400 := by obtain ⟨a, e, h0, h1⟩ := tm_peek (k := 2) (K := 2) hWw270 tpt0 rfl rfl; rw [kv271] at e; injection e with e; injection e with e; omega
                  have bv272 : (-2147483648) ≤ v272 ∧ v272 ≤ 2147483647 := by obtain ⟨a, e, h0, h1⟩ := tm_peek (k := 8) (K := 8) hWw270 tpt0 rfl rfl; rw [kv272] at e; injection e with e; injection e with e; omega
                  refine ev_goto (tgt := 161) dt_Ta_advance_154 (by decide) ?_
                  exact ev_return dt_Ta_advance_161 rfl ⟨hWw270, rfl, ⟨hFw270, t149, v271, (-3), (-1), v272, z273, kv271, z275, z274, kv272, ⟨(by rw [← q0L147]; exact (k_sk0 (by omega)).symm), (by first | exact k_f0 (by omega) | exact k_f1 (by omega) (by omega) hpw270.1 hpw270.2 | exact k_f2 (by omega) (by omega) hpw270.1 hpw270.2 | exact k_f4 (by omega) (by omega) (by omega) hpw270.1 hpw270.2)⟩⟩⟩
            · skip
              refine ev_aload_n dt_Ta_advance_89 rfl rfl ?_
              refine tm_getR dt_Ta_advance_90 hWw242 tpt0 fl_Ta_9 rfl ?_
              refine ev_aload_n dt_Ta_advance_93 rfl rfl ?_
              refine tm_getK (K := 2) dt_Ta_advance_94 hWw242 tpt0 fl_Ta_25 rfl z243 ?_
              refine tm_baK dt_Ta_advance_97 hWw242 tpt1 (by omega) (by omega) (by omega) (((hFw242 (tp + 1) _ (by omega)).trans (hf _))) ?_
              have fb276 := hfb t149
              refine ev_bipush dt_Ta_advance_98 rfl ?_
              refine ev_icmp_gt (tgt := 116) dt_Ta_advance_100 (by decide) (by omega) (by omega) (fun h277 => ?_) (fun h277 => ?_)
              · skip
                refine ev_aload_n dt_Ta_advance_116 rfl rfl ?_
                refine tm_getR dt_Ta_advance_117 hWw242 tpt0 fl_Ta_9 rfl ?_
                refine ev_aload_n dt_Ta_advance_120 rfl rfl ?_
                refine tm_getK (K := 2) dt_Ta_advance_121 hWw242 tpt0 fl_Ta_25 rfl z243 ?_
                refine tm_baK dt_Ta_advance_124 hWw242 tpt1 (by omega) (by omega) (by omega) (((hFw242 (tp + 1) _ (by omega)).trans (hf _))) ?_
                have fb278 := hfb t149
                refine ev_bipush dt_Ta_advance_125 rfl ?_
                refine ev_icmp_lt (tgt := 157) dt_Ta_advance_127 (by decide) (by omega) (by omega) (fun h279 => ?_) (fun h279 => ?_)
                · skip
                  refine ev_aload_n dt_Ta_advance_157 rfl rfl ?_
                  refine tm_vv dt_Ta_advance_158 (tx_Ta_readSign hWw242 h_tp (t149) z243 (by omega) (by omega) (L) ((hFw242 tp 1 (by omega)).trans k_L) hK (fun j => (hFw242 (tp + 1) j (by omega)).trans (hf j)) ((hFw242 tp 3 (by omega)).trans kK) (by omega)) kb_Ta_52 ⟨im_Ta_readSign, se_Ta_readSign⟩ rfl hWw242 tpt0 rfl (Nat.le_of_ble_eq_true rfl) (by decide) (fun w280 hWw280 hRw280 => ?_)
                  obtain ⟨hfw280, v281, v282, kv281, kv282, hpw280⟩ := hRw280
                  have hFw280 : ∀ (p : Nat) (j : Int), ¬ ((p = tp ∧ (j = 2 ∨ j = 5 ∨ j = 6 ∨ j = 7 ∨ j = 8))) → tm_g w280 p j = tm_g w p j := fun p j h => (hfw280 p j (by omega)).trans (hFw242 p j h)
                  have z283 := (hfw280 tp 5 (by omega)).trans z244
                  have z284 := (hfw280 tp 7 (by omega)).trans z245
                  have z285 := (hfw280 tp 8 (by omega)).trans kkw242
                  have bv281 : 0 ≤ v281 ∧ v281 ≤ 400 := by obtain ⟨a, e, h0, h1⟩ := tm_peek (k := 2) (K := 2) hWw280 tpt0 rfl rfl; rw [kv281] at e; injection e with e; injection e with e; omega
                  have bv282 : (-2147483648) ≤ v282 ∧ v282 ≤ 2147483647 := by obtain ⟨a, e, h0, h1⟩ := tm_peek (k := 6) (K := 6) hWw280 tpt0 rfl rfl; rw [kv282] at e; injection e with e; injection e with e; omega
                  exact ev_return dt_Ta_advance_161 rfl ⟨hWw280, rfl, ⟨hFw280, t149, v281, v282, (-1), (-1), z283, kv281, kv282, z284, z285, ⟨(by rw [← q0L147]; exact (k_sk0 (by omega)).symm), (by first | exact k_f0 (by omega) | exact k_f1 (by omega) (by omega) hpw280.1 hpw280.2 | exact k_f2 (by omega) (by omega) hpw280.1 hpw280.2 | exact k_f4 (by omega) (by omega) (by omega) hpw280.1 hpw280.2)⟩⟩⟩
                · skip
                  refine ev_aload_n dt_Ta_advance_130 rfl rfl ?_
                  refine tm_getR dt_Ta_advance_131 hWw242 tpt0 fl_Ta_9 rfl ?_
                  refine ev_aload_n dt_Ta_advance_134 rfl rfl ?_
                  refine tm_getK (K := 2) dt_Ta_advance_135 hWw242 tpt0 fl_Ta_25 rfl z243 ?_
                  refine tm_baK dt_Ta_advance_138 hWw242 tpt1 (by omega) (by omega) (by omega) (((hFw242 (tp + 1) _ (by omega)).trans (hf _))) ?_
                  have fb286 := hfb t149
                  refine ev_bipush dt_Ta_advance_139 rfl ?_
                  refine ev_icmp_gt (tgt := 157) dt_Ta_advance_141 (by decide) (by omega) (by omega) (fun h287 => ?_) (fun h287 => ?_)
                  · skip
                    refine ev_aload_n dt_Ta_advance_157 rfl rfl ?_
                    refine tm_vv dt_Ta_advance_158 (tx_Ta_readSign hWw242 h_tp (t149) z243 (by omega) (by omega) (L) ((hFw242 tp 1 (by omega)).trans k_L) hK (fun j => (hFw242 (tp + 1) j (by omega)).trans (hf j)) ((hFw242 tp 3 (by omega)).trans kK) (by omega)) kb_Ta_52 ⟨im_Ta_readSign, se_Ta_readSign⟩ rfl hWw242 tpt0 rfl (Nat.le_of_ble_eq_true rfl) (by decide) (fun w288 hWw288 hRw288 => ?_)
                    obtain ⟨hfw288, v289, v290, kv289, kv290, hpw288⟩ := hRw288
                    have hFw288 : ∀ (p : Nat) (j : Int), ¬ ((p = tp ∧ (j = 2 ∨ j = 5 ∨ j = 6 ∨ j = 7 ∨ j = 8))) → tm_g w288 p j = tm_g w p j := fun p j h => (hfw288 p j (by omega)).trans (hFw242 p j h)
                    have z291 := (hfw288 tp 5 (by omega)).trans z244
                    have z292 := (hfw288 tp 7 (by omega)).trans z245
                    have z293 := (hfw288 tp 8 (by omega)).trans kkw242
                    have bv289 : 0 ≤ v289 ∧ v289 ≤ 400 := by obtain ⟨a, e, h0, h1⟩ := tm_peek (k := 2) (K := 2) hWw288 tpt0 rfl rfl; rw [kv289] at e; injection e with e; injection e with e; omega
                    have bv290 : (-2147483648) ≤ v290 ∧ v290 ≤ 2147483647 := by obtain ⟨a, e, h0, h1⟩ := tm_peek (k := 6) (K := 6) hWw288 tpt0 rfl rfl; rw [kv290] at e; injection e with e; injection e with e; omega
                    exact ev_return dt_Ta_advance_161 rfl ⟨hWw288, rfl, ⟨hFw288, t149, v289, v290, (-1), (-1), z291, kv289, kv290, z292, z293, ⟨(by rw [← q0L147]; exact (k_sk0 (by omega)).symm), (by first | exact k_f0 (by omega) | exact k_f1 (by omega) (by omega) hpw288.1 hpw288.2 | exact k_f2 (by omega) (by omega) hpw288.1 hpw288.2 | exact k_f4 (by omega) (by omega) (by omega) hpw288.1 hpw288.2)⟩⟩⟩
                  · skip
                    refine ev_aload_n dt_Ta_advance_144 rfl rfl ?_
                    refine ev_bipush dt_Ta_advance_145 rfl ?_
                    refine tm_putI (K := 6) dt_Ta_advance_147 hWw242 tpt0 (fp_Ta_37 _) rfl rfl trivial (by omega) (by omega) (fun w294 hWw294 kkw294 hfw294 => ?_)
                    have hFw294 : ∀ (p : Nat) (j : Int), ¬ ((p = tp ∧ (j = 2 ∨ j = 5 ∨ j = 6 ∨ j = 7 ∨ j = 8))) → tm_g w294 p j = tm_g w p j := fun p j h => (hfw294 p j (by omega)).trans (hFw242 p j h)
                    have z295 := (hfw294 tp 2 (by omega)).trans z243
                    have z296 := (hfw294 tp 5 (by omega)).trans z244
                    have z297 := (hfw294 tp 7 (by omega)).trans z245
                    have z298 := (hfw294 tp 8 (by omega)).trans kkw242
                    refine ev_aload_n dt_Ta_advance_150 rfl rfl ?_
                    refine tm_vv dt_Ta_advance_151 (tx_Ta_readWord hWw294 h_tp (t149) z295 (t149) z296 ((-1)) z298 (L) ((hFw294 tp 1 (by omega)).trans k_L) hK (fun j => (hFw294 (tp + 1) j (by omega)).trans (hf j)) ((hFw294 tp 3 (by omega)).trans kK) (by omega) (by omega) (by omega)) kb_Ta_49 ⟨im_Ta_readWord, se_Ta_readWord⟩ rfl hWw294 tpt0 rfl (Nat.le_of_ble_eq_true rfl) (by decide) (fun w299 hWw299 hRw299 => ?_)
                    obtain ⟨hfw299, v300, v301, kv300, kv301, hpw299⟩ := hRw299
                    have hFw299 : ∀ (p : Nat) (j : Int), ¬ ((p = tp ∧ (j = 2 ∨ j = 5 ∨ j = 6 ∨ j = 7 ∨ j = 8))) → tm_g w299 p j = tm_g w p j := fun p j h => (hfw299 p j (by omega)).trans (hFw294 p j h)
                    have z302 := (hfw299 tp 5 (by omega)).trans z296
                    have z303 := (hfw299 tp 7 (by omega)).trans z297
                    have z304 := (hfw299 tp 6 (by omega)).trans kkw294
                    have bv300 : 0 ≤ v300 ∧ v300 ≤ 400 := by obtain ⟨a, e, h0, h1⟩ := tm_peek (k := 2) (K := 2) hWw299 tpt0 rfl rfl; rw [kv300] at e; injection e with e; injection e with e; omega
                    have bv301 : (-2147483648) ≤ v301 ∧ v301 ≤ 2147483647 := by obtain ⟨a, e, h0, h1⟩ := tm_peek (k := 8) (K := 8) hWw299 tpt0 rfl rfl; rw [kv301] at e; injection e with e; injection e with e; omega
                    refine ev_goto (tgt := 161) dt_Ta_advance_154 (by decide) ?_
                    exact ev_return dt_Ta_advance_161 rfl ⟨hWw299, rfl, ⟨hFw299, t149, v300, (-3), (-1), v301, z302, kv300, z304, z303, kv301, ⟨(by rw [← q0L147]; exact (k_sk0 (by omega)).symm), (by first | exact k_f0 (by omega) | exact k_f1 (by omega) (by omega) hpw299.1 hpw299.2 | exact k_f2 (by omega) (by omega) hpw299.1 hpw299.2 | exact k_f4 (by omega) (by omega) (by omega) hpw299.1 hpw299.2)⟩⟩⟩
              · skip
                refine ev_aload_n dt_Ta_advance_103 rfl rfl ?_
                refine ev_bipush dt_Ta_advance_104 rfl ?_
                refine tm_putI (K := 6) dt_Ta_advance_106 hWw242 tpt0 (fp_Ta_37 _) rfl rfl trivial (by omega) (by omega) (fun w305 hWw305 kkw305 hfw305 => ?_)
                have hFw305 : ∀ (p : Nat) (j : Int), ¬ ((p = tp ∧ (j = 2 ∨ j = 5 ∨ j = 6 ∨ j = 7 ∨ j = 8))) → tm_g w305 p j = tm_g w p j := fun p j h => (hfw305 p j (by omega)).trans (hFw242 p j h)
                have z306 := (hfw305 tp 2 (by omega)).trans z243
                have z307 := (hfw305 tp 5 (by omega)).trans z244
                have z308 := (hfw305 tp 7 (by omega)).trans z245
                have z309 := (hfw305 tp 8 (by omega)).trans kkw242
                refine ev_aload_n dt_Ta_advance_109 rfl rfl ?_
                refine tm_vv dt_Ta_advance_110 (tx_Ta_readNumber hWw305 h_tp (t149) z306 (t149) z307 (L) ((hFw305 tp 1 (by omega)).trans k_L) hK (fun j => (hFw305 (tp + 1) j (by omega)).trans (hf j)) ((hFw305 tp 3 (by omega)).trans kK) (by omega) (by omega)) kb_Ta_46 ⟨im_Ta_readNumber, se_Ta_readNumber⟩ rfl hWw305 tpt0 rfl (Nat.le_of_ble_eq_true rfl) (by decide) (fun w310 hWw310 hRw310 => ?_)
                obtain ⟨hfw310, v311, v312, kv311, kv312, hpw310⟩ := hRw310
                have hFw310 : ∀ (p : Nat) (j : Int), ¬ ((p = tp ∧ (j = 2 ∨ j = 5 ∨ j = 6 ∨ j = 7 ∨ j = 8))) → tm_g w310 p j = tm_g w p j := fun p j h => (hfw310 p j (by omega)).trans (hFw305 p j h)
                have z313 := (hfw310 tp 5 (by omega)).trans z307
                have z314 := (hfw310 tp 8 (by omega)).trans z309
                have z315 := (hfw310 tp 6 (by omega)).trans kkw305
                have bv311 : 0 ≤ v311 ∧ v311 ≤ 400 := by obtain ⟨a, e, h0, h1⟩ := tm_peek (k := 2) (K := 2) hWw310 tpt0 rfl rfl; rw [kv311] at e; injection e with e; injection e with e; omega
                have bv312 : (-2147483648) ≤ v312 ∧ v312 ≤ 2147483647 := by obtain ⟨a, e, h0, h1⟩ := tm_peek (k := 7) (K := 7) hWw310 tpt0 rfl rfl; rw [kv312] at e; injection e with e; injection e with e; omega
                refine ev_goto (tgt := 161) dt_Ta_advance_113 (by decide) ?_
                exact ev_return dt_Ta_advance_161 rfl ⟨hWw310, rfl, ⟨hFw310, t149, v311, (-2), v312, (-1), z313, kv311, z315, kv312, z314, ⟨(by rw [← q0L147]; exact (k_sk0 (by omega)).symm), (by first | exact k_f0 (by omega) | exact k_f1 (by omega) (by omega) hpw310.1 hpw310.2 | exact k_f2 (by omega) (by omega) hpw310.1 hpw310.2 | exact k_f4 (by omega) (by omega) (by omega) hpw310.1 hpw310.2)⟩⟩⟩
          · skip
            refine ev_aload_n dt_Ta_advance_67 rfl rfl ?_
            refine ev_iconst dt_Ta_advance_68 ?_
            refine tm_putI (K := 6) dt_Ta_advance_69 hWw242 tpt0 (fp_Ta_37 _) rfl rfl trivial (by omega) (by omega) (fun w316 hWw316 kkw316 hfw316 => ?_)
            have hFw316 : ∀ (p : Nat) (j : Int), ¬ ((p = tp ∧ (j = 2 ∨ j = 5 ∨ j = 6 ∨ j = 7 ∨ j = 8))) → tm_g w316 p j = tm_g w p j := fun p j h => (hfw316 p j (by omega)).trans (hFw242 p j h)
            have z317 := (hfw316 tp 2 (by omega)).trans z243
            have z318 := (hfw316 tp 5 (by omega)).trans z244
            have z319 := (hfw316 tp 7 (by omega)).trans z245
            have z320 := (hfw316 tp 8 (by omega)).trans kkw242
            refine ev_goto (tgt := 161) dt_Ta_advance_72 (by decide) ?_
            exact ev_return dt_Ta_advance_161 rfl ⟨hWw316, rfl, ⟨hFw316, t149, t149, (-1), (-1), (-1), z318, z317, kkw316, z319, z320, ⟨(by rw [← q0L147]; exact (k_sk0 (by omega)).symm), (by first | exact k_f0 (by omega) | exact k_f1 (by omega) (by omega) hpw316.1 hpw316.2 | exact k_f2 (by omega) (by omega) hpw316.1 hpw316.2 | exact k_f4 (by omega) (by omega) (by omega) hpw316.1 hpw316.2)⟩⟩⟩
        · skip
          refine ev_aload_n dt_Ta_advance_25 rfl rfl ?_
          refine ev_dup dt_Ta_advance_26 rfl ?_
          refine tm_getK (K := 2) dt_Ta_advance_27 hWw148 tpt0 fl_Ta_25 rfl kt149 ?_
          refine ev_iconst dt_Ta_advance_30 ?_
          refine ev_iadd dt_Ta_advance_31 ?_
          refine tm_putI (K := 2) dt_Ta_advance_32 hWw148 tpt0 (fp_Ta_25 _) rfl rfl trivial (by omega) (by omega) (fun w321 hWw321 kkw321 hfw321 => ?_)
          have hFw321 : ∀ (p : Nat) (j : Int), ¬ ((p = tp ∧ (j = 2 ∨ j = 5 ∨ j = 6 ∨ j = 7 ∨ j = 8))) → tm_g w321 p j = tm_g w p j := fun p j h => (hfw321 p j (by omega)).trans (hFw148 p j h)
          refine ev_goto (tgt := 0) dt_Ta_advance_35 (by decide) ?_
          exact tm_loc (tm_le_s tm_le_0) (ihL147 ((t149 + 1)) w321 hWw321 hFw321 kkw321 (by omega) (by omega) (by rw [← q0L147]; exact (tk_to_s (by omega) (decide_eq_true (by omega))).symm) (by omega) (by omega))
  exact tm_loc (tm_le_s tm_le_0) (L147 (400 - (a0) + 1 : Int).toNat  (a0) w hW hF0 k_a0 (by omega) (by omega) (by rfl) (by omega) (by omega))
