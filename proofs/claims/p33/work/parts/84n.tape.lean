theorem sp_put_bA {f : Int → Int} {L v : Int} (h : ∀ j, -128 ≤ f j ∧ f j ≤ 127) : ∀ (n : Nat) (j : Int), -128 ≤ sp_put f L v n j ∧ sp_put f L v n j ≤ 127
  | 0, j => h j
  | n + 1, j => by
    show -128 ≤ ab_up (sp_put f L v n) (L + (n : Int)) (sp_byte v n) j ∧ ab_up (sp_put f L v n) (L + (n : Int)) (sp_byte v n) j ≤ 127
    by_cases e : j = L + (n : Int)
    · rw [e, ab_upe]
      unfold sp_byte
      have h1 := Int.le_bmod (x := v / 2 ^ (24 - 8 * n)) (m := 256) (by decide)
      have h2 := Int.bmod_lt (x := v / 2 ^ (24 - 8 * n)) (m := 256) (by decide)
      omega
    · rw [ab_upn _ _ e]
      exact sp_put_bA h n j
theorem ty_Ta_putBytes {N : Nat} {T : Nat → tm_S} {w : ab_W} {tp : Nat} {f : Int → Int} (hW : tm_W N T w) (h_tp : is_Ta T tp) (v : Int) (hv : ab_in v) (L : Int) (k_L : tm_g w tp 1 = some (ab_I L)) (hL : L + 4 ≤ 400) (hf : ∀ j, tm_g w (tp + 1) j = some (ab_I (f j))) : ab_Mt g_G g_rs mt_Ta_putBytes 0 0 0 [ab_R tp, ab_I v] w (tm_Qv N T (fun w2 => (∀ (p : Nat) (j : Int), ¬ ((p = tp ∧ (j = 1)) ∨ p = (tp + 1)) → tm_g w2 p j = tm_g w p j) ∧ tm_g w2 tp 1 = some (ab_I (L + 4)) ∧ ∀ j, tm_g w2 (tp + 1) j = some (ab_I (sp_put f L v 4 j)))) := by
  have hfb : ∀ j, -128 ≤ f j ∧ f j ≤ 127 := tx_fb hW h_tp.2 hf
  have hL0 : 0 ≤ L ∧ L ≤ 400 := tm_kb (k := 1) (K := 1) hW h_tp.1 rfl rfl k_L
  obtain ⟨a0, ka, la0, ua0⟩ := tm_peek (k := 2) (K := 2) hW h_tp.1 rfl rfl
  obtain ⟨e0, ke, le0, ue0⟩ := tm_peek (k := 4) (K := 4) hW h_tp.1 rfl rfl
  obtain ⟨s0, ks, ls0, us0⟩ := tm_peek (k := 5) (K := 5) hW h_tp.1 rfl rfl
  obtain ⟨g0, kg, lg0, ug0⟩ := tm_peek (k := 6) (K := 6) hW h_tp.1 rfl rfl
  obtain ⟨n0, kn, ln0, un0⟩ := tm_peek (k := 7) (K := 7) hW h_tp.1 rfl rfl
  obtain ⟨w0, kw, lw0, uw0⟩ := tm_peek (k := 8) (K := 8) hW h_tp.1 rfl rfl
  obtain ⟨vs, hc, hl, hvv⟩ := tm_cell hW h_tp.1
  obtain ⟨v3, hv3, K, e3, hK⟩ := hvv 3 _ rfl
  have kK : tm_g w tp 3 = some (ab_R (ab_sb + K)) := by rw [← e3]; exact tm_gob (k := 3) rfl hc hv3
  have ht := tap_of hW h_tp k_L ka kK ke ks kg kn kw hf
  refine (co_Ta_putBytes ht hL0.1 hL v hv).conseq (fun r w2 h => ?_)
  obtain ⟨rfl, h2, hfr⟩ := h
  have hsb : ∀ j, -128 ≤ sp_put f L v 4 j ∧ sp_put f L v 4 j ≤ 127 := fun j => sp_put_bA hfb 4 j
  obtain ⟨q1, q2⟩ := tap_W hW h_tp h2 hfr (by omega) ⟨la0, ua0⟩ ⟨K, rfl, hK⟩ ⟨le0, ue0⟩ ⟨ls0, us0⟩ ⟨lg0, ug0⟩ ⟨ln0, un0⟩ ⟨lw0, uw0⟩ hsb
  have hg := tap_g h2
  refine ⟨q1, rfl, fun p j hp => ?_, hg.1.1, hg.2.2⟩
  by_cases hpt : p = tp
  · subst hpt
    exact tap_fr ht h2 j (fun z => absurd z (by omega)) (fun _ => rfl) (fun _ => rfl) (fun _ => rfl) (fun _ => rfl) (fun _ => rfl) (fun _ => rfl) (fun _ => rfl)
  · exact q2 p j (by omega)
set_option maxHeartbeats 4000000 in
set_option maxRecDepth 10000 in
theorem ty_Tu_feed {N : Nat} {T : Nat → tm_S} {w : ab_W} {f : Int → Int} {tu tp im md rl ac rr ma pl tr gu a b : Nat} (hW : tm_W N T w) (h_all : is_All T tu tp im md rl ac rr ma pl tr gu a b) (kn : tm_g w tu 1 = some (ab_R a)) (kt : tm_g w tu 2 = some (ab_R b)) (y1 : Int) (l_y1 : (-2147483648) ≤ y1) (u_y1 : y1 ≤ 2147483647) (y2 : Int) (l_y2 : (-2147483648) ≤ y2) (u_y2 : y2 ≤ 2147483647) (y3 : Int) (l_y3 : (-2147483648) ≤ y3) (u_y3 : y3 ≤ 2147483647) (y4 : Int) (l_y4 : (-2147483648) ≤ y4) (u_y4 : y4 ≤ 2147483647) (y5 : Int) (l_y5 : (-2147483648) ≤ y5) (u_y5 : y5 ≤ 2147483647) (L : Int) (k_L : tm_g w tp 1 = some (ab_I L)) (hf : ∀ j, tm_g w (tp + 1) j = some (ab_I (f j))) : ab_Mt g_G g_rs mt_Tu_feed 1 0 0 [ab_R tu, ab_I y1, ab_I y2, ab_I y3, ab_I y4, ab_I y5] w (tm_Qi N T (fun v w2 => (∀ (p : Nat) (j : Int), ¬ ((p = tp ∧ (j = 1)) ∨ p = (tp + 1)) → tm_g w2 p j = tm_g w p j) ∧ v = (if L ≤ 380 then L + 4 + 4 + 4 + 4 + 4 else -1) ∧ tm_g w2 tp 1 = some (ab_I (if L ≤ 380 then L + 4 + 4 + 4 + 4 + 4 else L)) ∧ ∀ j, tm_g w2 (tp + 1) j = some (ab_I ((if L ≤ 380 then sp_feed f L y1 y2 y3 y4 y5 else f) j)))) := by
  obtain ⟨tut0, imt0, mdt0, rlt0, h_tp, h_ac, h_rr, h_ma, hzz⟩ := id h_all
  obtain ⟨h_pl, h_tr, h_gu, h_a, h_b, e_all, e_ab⟩ := hzz
  obtain ⟨tpt0, tpt1⟩ := id h_tp
  have hL0 : 0 ≤ L ∧ L ≤ 400 := tm_kb (k := 1) (K := 1) hW h_tp.1 rfl rfl k_L
  refine ab_Mt.of rfl (Nat.le_of_ble_eq_true rfl) ?_
  show ab_Ev g_G g_rs mt_Tu_feed _ _ _ 0 [some (ab_R tu), some (ab_I y1), some (ab_I y2), some (ab_I y3), some (ab_I y4), some (ab_I y5)] [] _ _
  refine ev_aload_n dt_Tu_feed_0 rfl rfl ?_
  refine tm_getR dt_Tu_feed_1 hW tut0 fl_Tu_10 rfl ?_
  refine tm_getK (K := 1) dt_Tu_feed_4 hW tpt0 fl_Tu_82 rfl k_L ?_
  refine ev_bipush dt_Tu_feed_7 rfl ?_
  refine ev_iadd dt_Tu_feed_9 ?_
  refine ev_sipush dt_Tu_feed_10 rfl ?_
  refine ev_icmp_le (tgt := 18) dt_Tu_feed_13 (by decide) (by omega) (by omega) (fun h7 => ?_) (fun h7 => ?_)
  · refine ev_aload_n dt_Tu_feed_18 rfl rfl ?_
    refine tm_getR dt_Tu_feed_19 hW tut0 fl_Tu_10 rfl ?_
    refine ev_iload_n dt_Tu_feed_22 rfl rfl ?_
    refine tm_vv dt_Tu_feed_23 (ty_Ta_putBytes hW h_tp y1 (by omega) _ k_L (by omega) hf) kb_Tu_86 ⟨im_Ta_putBytes, se_Ta_putBytes⟩ rfl hW tpt0 rfl (Nat.le_of_ble_eq_true rfl) (by decide) (fun w1 hW1 hR1 => ?_)
    obtain ⟨g1, k1, f1⟩ := hR1
    refine ev_aload_n dt_Tu_feed_26 rfl rfl ?_
    refine tm_getR dt_Tu_feed_27 hW1 tut0 fl_Tu_10 rfl ?_
    refine ev_iload_n dt_Tu_feed_30 rfl rfl ?_
    refine tm_vv dt_Tu_feed_31 (ty_Ta_putBytes hW1 h_tp y2 (by omega) _ k1 (by omega) f1) kb_Tu_86 ⟨im_Ta_putBytes, se_Ta_putBytes⟩ rfl hW1 tpt0 rfl (Nat.le_of_ble_eq_true rfl) (by decide) (fun w2 hW2 hR2 => ?_)
    obtain ⟨g2, k2, f2⟩ := hR2
    refine ev_aload_n dt_Tu_feed_34 rfl rfl ?_
    refine tm_getR dt_Tu_feed_35 hW2 tut0 fl_Tu_10 rfl ?_
    refine ev_iload_n dt_Tu_feed_38 rfl rfl ?_
    refine tm_vv dt_Tu_feed_39 (ty_Ta_putBytes hW2 h_tp y3 (by omega) _ k2 (by omega) f2) kb_Tu_86 ⟨im_Ta_putBytes, se_Ta_putBytes⟩ rfl hW2 tpt0 rfl (Nat.le_of_ble_eq_true rfl) (by decide) (fun w3 hW3 hR3 => ?_)
    obtain ⟨g3, k3, f3⟩ := hR3
    refine ev_aload_n dt_Tu_feed_42 rfl rfl ?_
    refine tm_getR dt_Tu_feed_43 hW3 tut0 fl_Tu_10 rfl ?_
    refine ev_iload dt_Tu_feed_46 rfl ?_
    refine tm_vv dt_Tu_feed_48 (ty_Ta_putBytes hW3 h_tp y4 (by omega) _ k3 (by omega) f3) kb_Tu_86 ⟨im_Ta_putBytes, se_Ta_putBytes⟩ rfl hW3 tpt0 rfl (Nat.le_of_ble_eq_true rfl) (by decide) (fun w4 hW4 hR4 => ?_)
    obtain ⟨g4, k4, f4⟩ := hR4
    refine ev_aload_n dt_Tu_feed_51 rfl rfl ?_
    refine tm_getR dt_Tu_feed_52 hW4 tut0 fl_Tu_10 rfl ?_
    refine ev_iload dt_Tu_feed_55 rfl ?_
    refine tm_vv dt_Tu_feed_57 (ty_Ta_putBytes hW4 h_tp y5 (by omega) _ k4 (by omega) f4) kb_Tu_86 ⟨im_Ta_putBytes, se_Ta_putBytes⟩ rfl hW4 tpt0 rfl (Nat.le_of_ble_eq_true rfl) (by decide) (fun w5 hW5 hR5 => ?_)
    obtain ⟨g5, k5, f5⟩ := hR5
    refine ev_aload_n dt_Tu_feed_60 rfl rfl ?_
    refine tm_getR dt_Tu_feed_61 hW5 tut0 fl_Tu_10 rfl ?_
    refine tm_getK (K := 1) dt_Tu_feed_64 hW5 tpt0 fl_Tu_82 rfl k5 ?_
    refine ev_ireturn dt_Tu_feed_67 rfl ⟨hW5, _, rfl, fun p j h => (g5 p j h).trans ((g4 p j h).trans ((g3 p j h).trans ((g2 p j h).trans (g1 p j h)))), (if_pos (by omega)).symm, by rw [if_pos (by omega)]; exact k5, fun j => by rw [if_pos (by omega)]; exact f5 j⟩
  · refine ev_iconst dt_Tu_feed_16 ?_
    exact ev_ireturn dt_Tu_feed_17 rfl ⟨hW, _, rfl, fun _ _ _ => rfl, (if_neg (by omega)).symm, by rw [if_neg (by omega)]; exact k_L, fun j => by rw [if_neg (by omega)]; exact hf j⟩
set_option maxHeartbeats 4000000 in
set_option maxRecDepth 10000 in
theorem ty_Tu_end {N : Nat} {T : Nat → tm_S} {w : ab_W} {tu tp im md rl ac rr ma pl tr gu a b : Nat} (hW : tm_W N T w) (h_all : is_All T tu tp im md rl ac rr ma pl tr gu a b) (kn : tm_g w tu 1 = some (ab_R a)) (kt : tm_g w tu 2 = some (ab_R b)) (y1 : Int) (l_y1 : (-2147483648) ≤ y1) (u_y1 : y1 ≤ 2147483647) (L : Int) (k_L : tm_g w tp 1 = some (ab_I L)) : ab_Mt g_G g_rs mt_Tu_end 0 0 0 [ab_R tu, ab_I y1] w (tm_Qi N T (fun v w2 => (∀ (p : Nat) (j : Int), ¬ ((p = tp ∧ (j = 1))) → tm_g w2 p j = tm_g w p j) ∧ ∃ L1 : Int, tm_g w2 tp 1 = some (ab_I L1) ∧ ((-2147483648) ≤ v ∧ v ≤ 2147483647 ∧ (v = (if 0 ≤ y1 ∧ y1 ≤ L then y1 else -1) ∧ L1 = (if 0 ≤ y1 ∧ y1 ≤ L then y1 else L))))) := by
  obtain ⟨tut0, imt0, mdt0, rlt0, h_tp, h_ac, h_rr, h_ma, hzz⟩ := id h_all
  obtain ⟨h_pl, h_tr, h_gu, h_a, h_b, e_all, e_ab⟩ := hzz
  obtain ⟨tpt0, tpt1⟩ := id h_tp
  obtain ⟨act0, act1, act2, act3⟩ := id h_ac
  obtain ⟨rrt0, rrt1⟩ := id h_rr
  obtain ⟨mat0, mat1⟩ := id h_ma
  obtain ⟨plt0, plt1, plt2, plt3, plt4⟩ := id h_pl
  obtain ⟨trt0, trt1, trt2, trt3, trt4, trt5⟩ := id h_tr
  obtain ⟨gut0, gut1, gut2, gut3⟩ := id h_gu
  obtain ⟨at0, at1, at2, at3, at4, at5, at6, at7, at8, at9, at10, at11, at12⟩ := id h_a
  have ad := is_Ri.d h_a
  obtain ⟨bt0, bt1, bt2, bt3, bt4, bt5, bt6, bt7, bt8, bt9, bt10, bt11, bt12⟩ := id h_b
  have bd := is_Ri.d h_b
  have hF0 : ∀ (p : Nat) (j : Int), ¬ ((p = tp ∧ (j = 1))) → tm_g w p j = tm_g w p j := fun _ _ _ => rfl
  refine ab_Mt.of rfl (Nat.le_of_ble_eq_true rfl) ?_
  show ab_Ev g_G g_rs mt_Tu_end _ _ _ 0 [some (ab_R tu), some (ab_I y1)] [] _ _
  have b_L : 0 ≤ L ∧ L ≤ 400 := by obtain ⟨a, e, h0, h1⟩ := tm_peek (k := 1) (K := 1) hW tpt0 rfl rfl; rw [k_L] at e; injection e with e; injection e with e; omega
  refine ev_iload_n dt_Tu_end_0 rfl rfl ?_
  refine ev_if_lt (tgt := 15) dt_Tu_end_1 (by decide) (by omega) (fun h1 => ?_) (fun h1 => ?_)
  · skip
    refine ev_iconst dt_Tu_end_15 ?_
    exact ev_ireturn dt_Tu_end_16 rfl ⟨hW, _, rfl, ⟨hF0, L, k_L, ⟨by omega, by omega, (by split <;> omega), (by split <;> omega)⟩⟩⟩
  · skip
    refine ev_iload_n dt_Tu_end_4 rfl rfl ?_
    refine ev_aload_n dt_Tu_end_5 rfl rfl ?_
    refine tm_getR dt_Tu_end_6 hW tut0 fl_Tu_10 rfl ?_
    refine tm_getK (K := 1) dt_Tu_end_9 hW tpt0 fl_Tu_82 rfl k_L ?_
    refine ev_icmp_le (tgt := 17) dt_Tu_end_12 (by decide) (by omega) (by omega) (fun h2 => ?_) (fun h2 => ?_)
    · skip
      refine ev_aload_n dt_Tu_end_17 rfl rfl ?_
      refine tm_getR dt_Tu_end_18 hW tut0 fl_Tu_10 rfl ?_
      refine ev_iload_n dt_Tu_end_21 rfl rfl ?_
      refine tm_putI (K := 1) dt_Tu_end_22 hW tpt0 (fp_Tu_82 _) rfl rfl trivial (by omega) (by omega) (fun w3 hWw3 kkw3 hfw3 => ?_)
      have hFw3 : ∀ (p : Nat) (j : Int), ¬ ((p = tp ∧ (j = 1))) → tm_g w3 p j = tm_g w p j := fun p j h => (hfw3 p j (by omega)).trans (hF0 p j h)
      refine ev_iload_n dt_Tu_end_25 rfl rfl ?_
      exact ev_ireturn dt_Tu_end_26 rfl ⟨hWw3, _, rfl, ⟨hFw3, y1, kkw3, ⟨by omega, by omega, (by split <;> omega), (by split <;> omega)⟩⟩⟩
    · skip
      refine ev_iconst dt_Tu_end_15 ?_
      exact ev_ireturn dt_Tu_end_16 rfl ⟨hW, _, rfl, ⟨hF0, L, k_L, ⟨by omega, by omega, (by split <;> omega), (by split <;> omega)⟩⟩⟩
theorem all_E {N : Nat} {T : Nat → tm_S} {w : ab_W} {tp : Nat} {f : Int → Int} {L : Int} (h_tp : is_Ta T tp) (hW : tm_W N T w) (k_L : tm_g w tp 1 = some (ab_I L)) (hf : ∀ j, tm_g w (tp + 1) j = some (ab_I (f j))) : 0 ≤ (a_all f 2 L (0, tk_sk f L 0, 0, [])).1 ∧ (a_all f 2 L (0, tk_sk f L 0, 0, [])).1 ≤ 3205 := by
  have hfb : ∀ j, -128 ≤ f j ∧ f j ≤ 127 := tx_fb hW h_tp.2 hf
  have hL0 : 0 ≤ L ∧ L ≤ 400 := tm_kb (k := 1) (K := 1) hW h_tp.1 rfl rfl k_L
  have h := all_tie (f := f) hL0.1 hL0.2 hfb
  generalize a_all f 2 L (0, tk_sk f L 0, 0, []) = G at h ⊢
  rcases hq : c_rall f L with e | ⟨c3, ks⟩
  · rw [hq] at h
    obtain ⟨h1, h2⟩ := h
    omega
  · rw [hq] at h
    have h1 := h.1
    omega
set_option maxRecDepth 10000 in
theorem ty_copyOf {w : ab_W} {o n : Nat} {f : Int → Int} {m : Int} (hc : w[o]? = some (ab_ai 0 n f)) (hn : n ≤ 400) (hb : ∀ k, -2147483648 ≤ f k ∧ f k ≤ 2147483647) (h0 : 0 ≤ m) (h1 : m ≤ n) (hlt : w.length < ab_sb) (hW : ab_okW w) : ab_Mt g_G g_rs mt_Ar_copyOf 1 1 400 [ab_R o, ab_I m] w (fun r w2 => r = some (ab_R w.length) ∧ ∃ (n2 : Nat) (g : Int → Int), w2 = w ++ [ab_ai 0 n2 g] ∧ n2 ≤ 400 ∧ (∀ k, -2147483648 ≤ g k ∧ g k ≤ 2147483647) ∧ (n2 : Int) = m ∧ ∀ k, 0 ≤ k → k < m → g k = f k) := by
  have hlo := tm_lt hc
  refine ab_Mt.of rfl (Nat.le_of_ble_eq_true rfl) ?_
  show ab_Ev g_G g_rs mt_Ar_copyOf _ _ _ 0 [some (ab_R o), some (ab_I m), none] [] _ _
  refine ev_iload_n dt_Ar_copyOf_0 rfl rfl ?_
  refine ev_aload_n dt_Ar_copyOf_1 rfl rfl ?_
  refine ev_alen (t := 0) dt_Ar_copyOf_2 hc (Or.inl ⟨0, f, by decide, rfl⟩) ?_
  refine ev_icmp_ne (tgt := 14) dt_Ar_copyOf_3 (by decide) (by omega) (by omega) (fun h3 => ?_) (fun h3 => ?_)
  · refine tm_room (bc := 0 + 1) (bs := 0 + m.toNat) (by omega) (by omega) ?_
    refine ev_iload_n dt_Ar_copyOf_14 rfl rfl ?_
    refine ev_newai (n := m) dt_Ar_copyOf_15 ac_int h0 (by omega) hlt hW (ab_okL_ri hlo) ab_okS_n ?_
    refine ev_astore_n (l' := [_, _, _]) dt_Ar_copyOf_17 rfl (Nat.le_of_ble_eq_true rfl) rfl ?_
    refine ev_aload_n dt_Ar_copyOf_18 rfl rfl ?_
    refine ev_iconst dt_Ar_copyOf_19 ?_
    refine ev_aload_n dt_Ar_copyOf_20 rfl rfl ?_
    refine ev_iconst dt_Ar_copyOf_21 ?_
    refine ev_aload_n dt_Ar_copyOf_22 rfl rfl ?_
    refine ev_alen (t := 0) dt_Ar_copyOf_23 (ab_ga hc) (Or.inl ⟨0, f, by decide, rfl⟩) ?_
    refine ev_iload_n dt_Ar_copyOf_24 rfl rfl ?_
    refine tm_min (by omega) (by omega) dt_Ar_copyOf_25 mk_Ar_304 (Nat.le_of_ble_eq_true rfl) (by decide) (fun v x1 x2 x3 => ?_)
    refine ev_copyi dt_Ar_copyOf_28 ck_Ar_150 (by decide) (ab_ga hc) ab_gl (by omega) (by omega) (Or.inl rfl) (Nat.le_of_ble_eq_true rfl) (by decide) ?_
    refine ev_aload_n dt_Ar_copyOf_31 rfl rfl ?_
    refine ev_areturn dt_Ar_copyOf_32 rfl (Or.inr ⟨_, rfl⟩) ⟨rfl, m.toNat, _, ab_sl1, by omega, fun k => ?_, by omega, fun k k0 k1 => ?_⟩
    · unfold ab_cp
      split
      · exact hb _
      · show (-2147483648 : Int) ≤ 0 ∧ (0 : Int) ≤ 2147483647
        decide
    · unfold ab_cp
      rw [if_pos (by omega), show 0 + (k - 0) = k by omega]
  · refine tm_room (bc := 0 + 1) (bs := 0 + n) (by omega) (by omega) ?_
    refine ev_aload_n dt_Ar_copyOf_6 rfl rfl ?_
    refine ev_cloneI dt_Ar_copyOf_7 (g_memT (g_t3 105 rfl) rfl) (g_memT (g_t3 106 rfl) rfl) (g_memT (g_t3 107 rfl) rfl) (g_memT (g_t3 108 rfl) rfl) (g_memT (g_t3 109 rfl) rfl) cw_clone hc hlt hW (ab_okL_ri hlo) ab_okS_n (Nat.le_of_ble_eq_true rfl) (by decide) ?_
    refine ev_castI dt_Ar_copyOf_10 (g_memT (g_t3 111 rfl) rfl) ab_gl ?_
    exact ev_areturn dt_Ar_copyOf_13 rfl (Or.inr ⟨_, rfl⟩) ⟨rfl, n, f, rfl, hn, hb, by omega, fun _ _ _ => rfl⟩
set_option maxRecDepth 10000 in
theorem ty_codeRead {w : ab_W} {rr o n : Nat} {vs : List ab_V} {f : Int → Int} {m : Int} (hc : w[rr]? = some (ab_ob 7 vs)) (hv0 : vs[0]? = some (ab_R o)) (hv1 : vs[1]? = some (ab_I m)) (ho : w[o]? = some (ab_ai 0 n f)) (hn : n ≤ 400) (hb : ∀ k, -2147483648 ≤ f k ∧ f k ≤ 2147483647) (h0 : 0 ≤ m) (h1 : m ≤ n) (hlt : w.length < ab_sb) (hW : ab_okW w) : ab_Mt g_G g_rs mt_Ru_codeRead 2 1 400 [ab_R rr] w (fun r w2 => r = some (ab_R w.length) ∧ ∃ (n2 : Nat) (g : Int → Int), w2 = w ++ [ab_ai 0 n2 g] ∧ n2 ≤ 400 ∧ (∀ k, -2147483648 ≤ g k ∧ g k ≤ 2147483647) ∧ (n2 : Int) = m ∧ ∀ k, 0 ≤ k → k < m → g k = f k) := by
  have hlo := tm_lt hc
  refine ab_Mt.of rfl (Nat.le_of_ble_eq_true rfl) ?_
  show ab_Ev g_G g_rs mt_Ru_codeRead _ _ _ 0 [some (ab_R rr)] [] _ _
  refine ev_aload_n dt_Ru_codeRead_0 rfl rfl ?_
  refine ev_getfield dt_Ru_codeRead_1 hc fl_Ru_9 hv0 ?_
  refine ev_aload_n dt_Ru_codeRead_4 rfl rfl ?_
  refine ev_getfield dt_Ru_codeRead_5 hc fl_Ru_23 hv1 ?_
  refine ev_static (mc := 1) (ms := 400) (bc := 0) (bs := 0) dt_Ru_codeRead_8 (ty_copyOf ho hn hb h0 h1 hlt hW) kb_Ru_59 sc_Ar_copyOf rfl (Nat.le_of_ble_eq_true rfl) (by decide) (Or.inr ⟨fun k v hk => ?_, ab_okS_n⟩) (fun r w1 hq => ?_)
  · match k with
    | 0 => cases hk; exact Or.inl hlo
    | k + 1 => cases hk
  · obtain ⟨rfl, hq⟩ := hq
    exact ev_areturn dt_Ru_codeRead_11 rfl (Or.inr ⟨_, rfl⟩) ⟨rfl, hq⟩

set_option maxHeartbeats 4000000 in
set_option maxRecDepth 10000 in
theorem ty_Tu_rule {N : Nat} {T : Nat → tm_S} {w : ab_W} {f : Int → Int} {tu tp im md rl ac rr ma pl tr gu a b : Nat} (hW : tm_W N T w) (h_all : is_All T tu tp im md rl ac rr ma pl tr gu a b) (kn : tm_g w tu 1 = some (ab_R a)) (kt : tm_g w tu 2 = some (ab_R b)) (rc : Int) (k_rc : tm_g w tu 6 = some (ab_I rc)) (L : Int) (k_L : tm_g w tp 1 = some (ab_I L)) (hf : ∀ j, tm_g w (tp + 1) j = some (ab_I (f j))) (hrl : ∀ j : Int, 0 ≤ j → j < rc → ∃ q n : Nat, tm_g w rl j = some (ab_R q) ∧ is_Ro T q n ∧ 129 ≤ q ∧ q + 1 < N) (hN1 : N < 100000) (hN0 : 129 ≤ N) : ab_Mt g_G g_rs mt_Tu_rule 36 2 401 [ab_R tu] w (fun r w2 => ∃ (N2 : Nat) (T2 : Nat → tm_S) (v rc2 L2 : Int), r = some (ab_I v) ∧ tm_W N2 T2 w2 ∧ (∀ p, p < N → T2 p = T p) ∧ (∀ (p : Nat) (j : Int), ¬ ((p = tp ∧ (j = 2 ∨ j = 5 ∨ j = 6 ∨ j = 7 ∨ j = 8 ∨ j = 4 ∨ j = 3 ∨ j = 1)) ∨ p = (rr + 1) ∨ (p = rr ∧ (j = 1 ∨ j = 2)) ∨ (p = tu ∧ (j = 6)) ∨ (p = rl ∧ j = rc)) → p < N → tm_g w2 p j = tm_g w p j) ∧ tm_g w2 tu 6 = some (ab_I rc2) ∧ tm_g w2 tp 1 = some (ab_I L2) ∧ (rc ≤ rc2 ∧ rc2 ≤ 6 ∧ (N2 : Int) = N + 2 * (rc2 - rc)) ∧ (∀ j : Int, 0 ≤ j → j < rc2 → ∃ q n : Nat, tm_g w2 rl j = some (ab_R q) ∧ is_Ro T2 q n ∧ 129 ≤ q ∧ q + 1 < N2) ∧ (-2147483648 ≤ v ∧ v ≤ 2147483647) ∧ (6 ≤ rc → v = -1 ∧ rc2 = rc ∧ L2 = L) ∧ (rc < 6 → L2 = 0) ∧ (rc < 6 → ¬ (a_all f 2 L (0, tk_sk f L 0, 0, [])).1 = 0 → v = -2 - (a_all f 2 L (0, tk_sk f L 0, 0, [])).1 ∧ rc2 = rc) ∧ (rc < 6 → (a_all f 2 L (0, tk_sk f L 0, 0, [])).1 = 0 → v = rc ∧ rc2 = rc + 1 ∧ tm_g w2 rl rc = some (ab_R N) ∧ T2 N = tm_o 6 [tm_r (N + 1)] ∧ T2 (N + 1) = tm_ai 0 (a_all f 2 L (0, tk_sk f L 0, 0, [])).2.2.2.length (-2147483648) 2147483647 ∧ ∀ (k : Nat) (x : Int), (a_all f 2 L (0, tk_sk f L 0, 0, [])).2.2.2[k]? = some x → tm_g w2 (N + 1) (k : Int) = some (ab_I x))) := by
  obtain ⟨tut0, imt0, mdt0, rlt0, h_tp, h_ac, h_rr, h_ma, hzz⟩ := id h_all
  obtain ⟨h_pl, h_tr, h_gu, h_a, h_b, e_all, e_ab⟩ := hzz
  obtain ⟨tpt0, tpt1⟩ := id h_tp
  obtain ⟨act0, act1, act2, act3⟩ := id h_ac
  obtain ⟨rrt0, rrt1⟩ := id h_rr
  obtain ⟨mat0, mat1⟩ := id h_ma
  obtain ⟨plt0, plt1, plt2, plt3, plt4⟩ := id h_pl
  obtain ⟨trt0, trt1, trt2, trt3, trt4, trt5⟩ := id h_tr
  obtain ⟨gut0, gut1, gut2, gut3⟩ := id h_gu
  obtain ⟨at0, at1, at2, at3, at4, at5, at6, at7, at8, at9, at10, at11, at12⟩ := id h_a
  have ad := is_Ri.d h_a
  obtain ⟨bt0, bt1, bt2, bt3, bt4, bt5, bt6, bt7, bt8, bt9, bt10, bt11, bt12⟩ := id h_b
  have bd := is_Ri.d h_b
  have hF0 : ∀ (p : Nat) (j : Int), ¬ ((p = tp ∧ (j = 2 ∨ j = 5 ∨ j = 6 ∨ j = 7 ∨ j = 8 ∨ j = 4 ∨ j = 3 ∨ j = 1)) ∨ p = (rr + 1) ∨ (p = rr ∧ (j = 1 ∨ j = 2)) ∨ (p = tu ∧ (j = 6)) ∨ p = rl) → tm_g w p j = tm_g w p j := fun _ _ _ => rfl
  have hE : 0 ≤ (a_all f 2 L (0, tk_sk f L 0, 0, [])).1 ∧ (a_all f 2 L (0, tk_sk f L 0, 0, [])).1 ≤ 3205 := all_E h_tp hW k_L hf
  refine ab_Mt.of rfl (Nat.le_of_ble_eq_true rfl) ?_
  show ab_Ev g_G g_rs mt_Tu_rule _ _ _ 0 [some (ab_R tu), none] [] _ _
  have b_rc : 0 ≤ rc ∧ rc ≤ 6 := by obtain ⟨a, e, h0, h1⟩ := tm_peek (k := 6) (K := 6) hW tut0 rfl rfl; rw [k_rc] at e; injection e with e; injection e with e; omega
  have b_L : 0 ≤ L ∧ L ≤ 400 := by obtain ⟨a, e, h0, h1⟩ := tm_peek (k := 1) (K := 1) hW tpt0 rfl rfl; rw [k_L] at e; injection e with e; injection e with e; omega
  refine ev_aload_n dt_Tu_rule_0 rfl rfl ?_
  refine tm_getK (K := 6) dt_Tu_rule_1 hW tut0 fl_Tu_105 rfl k_rc ?_
  refine ev_bipush dt_Tu_rule_4 rfl ?_
  refine ev_icmp_lt (tgt := 11) dt_Tu_rule_6 (by decide) (by omega) (by omega) (fun h33 => ?_) (fun h33 => ?_)
  · skip
    refine ev_aload_n dt_Tu_rule_11 rfl rfl ?_
    refine tm_getR dt_Tu_rule_12 hW tut0 fl_Tu_50 rfl ?_
    refine ev_aload_n dt_Tu_rule_15 rfl rfl ?_
    refine tm_getR dt_Tu_rule_16 hW tut0 fl_Tu_10 rfl ?_
    refine tm_vi dt_Tu_rule_19 (gx_Ru_readAll hW h_rr h_tp (by omega) (L) k_L hf) kb_Tu_108 ⟨im_Ru_readAll, se_Ru_readAll⟩ rfl hW rrt0 rfl (Nat.le_of_ble_eq_true rfl) (by decide) (fun w34 v35 hWw34 hRw34 => ?_)
    obtain ⟨hfw34, hpw34⟩ := hRw34
    have hFw34 : ∀ (p : Nat) (j : Int), ¬ ((p = tp ∧ (j = 2 ∨ j = 5 ∨ j = 6 ∨ j = 7 ∨ j = 8 ∨ j = 4 ∨ j = 3 ∨ j = 1)) ∨ p = (rr + 1) ∨ (p = rr ∧ (j = 1 ∨ j = 2)) ∨ (p = tu ∧ (j = 6)) ∨ p = rl) → tm_g w34 p j = tm_g w p j := fun p j h => (hfw34 p j (by omega)).trans (hF0 p j h)
    have z36 := (hfw34 tu 6 (by omega)).trans k_rc
    have z37 := (hfw34 tp 1 (by omega)).trans k_L
    have hrw34 : ∀ j, tm_g w34 rl j = tm_g w rl j := fun j => (hfw34 rl j (by omega)).trans rfl
    have hbv35 : 0 ≤ v35 ∧ v35 ≤ 3205 := by omega
    refine ev_istore_n (l' := [_, _]) dt_Tu_rule_22 rfl (Nat.le_of_ble_eq_true rfl) rfl ?_
    refine ev_aload_n dt_Tu_rule_23 rfl rfl ?_
    refine tm_getR dt_Tu_rule_24 hWw34 tut0 fl_Tu_10 rfl ?_
    refine ev_iconst dt_Tu_rule_27 ?_
    refine tm_putI (K := 1) dt_Tu_rule_28 hWw34 tpt0 (fp_Tu_82 _) rfl rfl trivial (by omega) (by omega) (fun w38 hWw38 kkw38 hfw38 => ?_)
    have hFw38 : ∀ (p : Nat) (j : Int), ¬ ((p = tp ∧ (j = 2 ∨ j = 5 ∨ j = 6 ∨ j = 7 ∨ j = 8 ∨ j = 4 ∨ j = 3 ∨ j = 1)) ∨ p = (rr + 1) ∨ (p = rr ∧ (j = 1 ∨ j = 2)) ∨ (p = tu ∧ (j = 6)) ∨ p = rl) → tm_g w38 p j = tm_g w p j := fun p j h => (hfw38 p j (by omega)).trans (hFw34 p j h)
    have z39 := (hfw38 tu 6 (by omega)).trans z36
    have hrw38 : ∀ j, tm_g w38 rl j = tm_g w rl j := fun j => (hfw38 rl j (by omega)).trans (hrw34 j)
    refine ev_iload_n dt_Tu_rule_31 rfl rfl ?_
    refine ev_if_eq (tgt := 40) dt_Tu_rule_32 (by decide) (by omega) (fun h40 => ?_) (fun h40 => ?_)
    · skip
      refine ev_aload_n dt_Tu_rule_40 rfl rfl ?_
      refine tm_getR dt_Tu_rule_41 hWw38 tut0 fl_Tu_36 rfl ?_
      refine ev_aload_n dt_Tu_rule_44 rfl rfl ?_
      refine tm_getK (K := 6) dt_Tu_rule_45 hWw38 tut0 fl_Tu_105 rfl z39 ?_
      have hCC : a_C rr w38 (a_all f 2 L (0, tk_sk f L 0, 0, [])).2.2.2 := a_C_fr hpw34.2.2.2.2.2 (fun p j hp => hfw38 p j (by omega))
      have kLL := kkw38
      have hN := hWw38.1
      have hrlF : ∀ j, tm_g w38 rl j = tm_g w rl j := fun j => hrw38 j
      obtain ⟨tvs, htc, htl, htv⟩ := tm_cell hWw38 tut0
      obtain ⟨rvs, hrc, -, hrv⟩ := tm_cell hWw38 rrt0
      obtain ⟨rv0, hrv0, hre0⟩ := hrv 0 _ rfl
      have hre0 : rv0 = ab_R (rr + 1) := hre0
      subst hre0
      obtain ⟨rv1, hrv1, sz, hrs, hs0, hs1⟩ := hrv 1 _ rfl
      subst hrs
      have hca := hWw38.2.1 (rr + 1)
      rw [rrt1] at hca
      obtain ⟨cf, hcf, hcb⟩ := hca
      obtain ⟨tv8, htr, hte⟩ := htv 8 _ rfl
      have hte : tv8 = ab_R rr := hte
      subst hte
      have htu : tu < w38.length := tm_lt htc
      have hrlN : rl < w38.length := by
        have h := hWw38.2.1 rl
        rw [rlt0] at h
        obtain ⟨f, h⟩ := h
        exact tm_lt h
      refine ev_new (G := g_G) (M := mt_Tu_rule) (bc := 1) (bs := 400) (ci := 6) (N := 1) (fs := df_Ro) dt_Tu_rule_48 nw_Tu_34 (by unfold ab_sb; omega) hWw38.2.2 (show ab_okS _ df_Ro from ab_okS_z ab_okS_n) (ab_okL2 (j := 0) htu) (ab_okS_i (ab_okS_r hrlN ab_okS_n)) ?_
      refine ev_dup dt_Tu_rule_51 rfl ?_
      refine ev_aload_n dt_Tu_rule_52 rfl rfl ?_
      refine ev_getfield dt_Tu_rule_53 (ab_ga htc) fl_Tu_50 htr ?_
      have hl1 : (w38 ++ [ab_ob 6 df_Ro]).length = w38.length + 1 := List.length_append
      refine ev_virtual (ci := 7) (mc := 1) (ms := 400) (bc := 0) (bs := 0) dt_Tu_rule_56 (ty_codeRead (ab_ga hrc) hrv0 hrv1 (ab_ga hcf) (by decide) hcb hs0 hs1 (by unfold ab_sb; omega) (ab_okW_1 (e := ab_ob 6 df_Ro) hWw38.2.2 (show ab_okS _ df_Ro from ab_okS_z ab_okS_n))) kb_Tu_111 ⟨im_Ru_codeRead, se_Ru_codeRead⟩ rfl (ab_ga hrc) rfl (Nat.le_of_ble_eq_true rfl) (by decide) (Or.inr ⟨ab_okL2 (j := 0) (by omega), ab_okS_r (by omega) (ab_okS_r (by omega) (ab_okS_i (ab_okS_r (by omega) ab_okS_n)))⟩) (fun r1 w3 hq => ?_)
      obtain ⟨rfl, n2, g, rfl, hn2, hg, hne, hge⟩ := hq
      refine ev_special (mc := 0) (ms := 0) (bc := 0) (bs := 0) dt_Tu_rule_59 (tm_RoInit (v0 := ab_N) (ab_ga ab_gl)) kb_Tu_115 ⟨im_Ro_init, rfl, rfl⟩ rfl (Nat.le_of_ble_eq_true rfl) (by decide) (Or.inl (fun r w1 h => by rw [h.2, List.length_set])) (fun r2 w4 hq => ?_)
      obtain ⟨rfl, rfl⟩ := hq
      refine ev_world (w' := w38 ++ [ab_ob 6 [ab_R (N + 1)], ab_ai 0 n2 g]) (by rw [ab_sl2, hl1, hN]) ?_
      have hW5 := tm_app2 (S1 := tm_o 6 [tm_r (N + 1)]) (S2 := tm_ai 0 n2 (-2147483648) 2147483647) hWw38 ⟨[ab_R (N + 1)], rfl, rfl, fun k F hF => by
        match k with
        | 0 => cases hF; exact ⟨_, rfl, rfl⟩
        | k + 1 => cases hF⟩ ⟨g, rfl, hg⟩ (ab_okS_r (by omega) ab_okS_n) trivial
      generalize hT2 : tm_up (tm_up T N (tm_o 6 [tm_r (N + 1)])) (N + 1) (tm_ai 0 n2 (-2147483648) 2147483647) = T2 at hW5
      have hTT : ∀ p, p < N → T2 p = T p := fun p hp => by rw [← hT2, tm_upn (by omega), tm_upn (by omega)]
      have hTN : T2 N = tm_o 6 [tm_r (N + 1)] := by rw [← hT2, tm_upn (by omega), tm_upe]
      have hTM : T2 (N + 1) = tm_ai 0 n2 (-2147483648) 2147483647 := by rw [← hT2, tm_upe]
      have hg5 : ∀ (p : Nat) (j : Int), p < N → tm_g (w38 ++ [ab_ob 6 [ab_R (N + 1)], ab_ai 0 n2 g]) p j = tm_g w38 p j := fun p j hp => tm_g_app (by omega)
      have hg5n : ∀ j : Int, tm_g (w38 ++ [ab_ob 6 [ab_R (N + 1)], ab_ai 0 n2 g]) (N + 1) j = some (ab_I (g j)) := fun j => by
        unfold tm_g
        rw [List.getElem?_append_right (by omega), show N + 1 - (w38).length = 1 by omega]
        rfl
      generalize w38 ++ [ab_ob 6 [ab_R (N + 1)], ab_ai 0 n2 g] = w5 at hW5 hg5 hg5n ⊢
      rw [hN]
      have rlt2 : T2 rl = tm_ar 5 6 := (hTT rl (by omega)).trans rlt0
      have tut2 := (hTT tu (by omega)).trans tut0
      refine tm_aastore (t := 1) (ci := 6) dt_Tu_rule_62 hW5 rlt2 rfl rfl hTN (by omega) (by omega) (by omega) (fun w6 hW6 k6 f6 => ?_)
      have kc6 : tm_g w6 tu 6 = some (ab_I rc) := (f6 tu 6 (by omega)).trans ((hg5 tu 6 (by omega)).trans z39)
      refine ev_aload_n dt_Tu_rule_63 rfl rfl ?_
      refine ev_dup dt_Tu_rule_64 rfl ?_
      refine tm_getK (K := 6) dt_Tu_rule_65 hW6 tut2 fl_Tu_105 rfl kc6 ?_
      refine ev_iconst dt_Tu_rule_68 ?_
      refine ev_iadd dt_Tu_rule_69 ?_
      refine tm_putI (K := 6) dt_Tu_rule_70 hW6 tut2 (fp_Tu_105 _) rfl rfl trivial (by omega) (by omega) (fun w7 hW7 k7 f7 => ?_)
      refine ev_aload_n dt_Tu_rule_73 rfl rfl ?_
      refine tm_getK (K := 6) dt_Tu_rule_74 hW7 tut2 fl_Tu_105 rfl k7 ?_
      refine ev_iconst dt_Tu_rule_77 ?_
      refine ev_isub dt_Tu_rule_78 ?_
      have hT7 : ∀ (p : Nat) (j : Int), ¬ ((p = rl ∧ j = rc) ∨ (p = tu ∧ j = 6)) → tm_g w7 p j = tm_g w5 p j := fun p j h => (f7 p j (by omega)).trans (f6 p j (by omega))
      have hsz : sz = ((((a_all f 2 L (0, tk_sk f L 0, 0, [])).2.2.2).length : Nat) : Int) := by
        have z1 := hCC.2.1
        have z2 : tm_g w38 rr 1 = some (ab_I sz) := tm_gob (k := 1) rfl hrc hrv1
        rw [z2] at z1
        injection z1 with z1
        injection z1
      have hn2e : n2 = ((a_all f 2 L (0, tk_sk f L 0, 0, [])).2.2.2).length := by omega
      have hrow : ∀ (k : Nat) (x : Int), ((a_all f 2 L (0, tk_sk f L 0, 0, [])).2.2.2)[k]? = some x → tm_g w7 (N + 1) (k : Int) = some (ab_I x) := fun k x hk => by
        have hkl : k < ((a_all f 2 L (0, tk_sk f L 0, 0, [])).2.2.2).length := (List.getElem?_eq_some_iff.mp hk).1
        rw [hT7 _ _ (by omega), hg5n (k : Int), hge (k : Int) (by omega) (by omega)]
        have z := hCC.2.2 k x hk
        unfold tm_g at z
        rw [hcf] at z
        exact z
      refine ev_ireturn dt_Tu_rule_79 rfl ⟨N + 2, T2, _, rc + 1, 0, rfl, hW7, hTT, fun p j h hp => (hT7 p j (by omega)).trans ((hg5 p j hp).trans (if z : p = rl then (by rw [z]; exact hrlF j) else hFw38 p j (by omega))), k7, ?_, by omega, fun j h0 h1 => ?_, by omega, ⟨fun _ => by exfalso; omega, fun _ => rfl, fun _ _ => by exfalso; omega, fun _ _ => ⟨by omega, by omega, ?_, hTN, by rw [hTM, hn2e], hrow⟩⟩⟩
      · exact (hT7 tp 1 (by omega)).trans ((hg5 tp 1 (by omega)).trans kLL)
      · by_cases hj : j = rc
        · subst hj
          exact ⟨N, n2, (f7 rl _ (by omega)).trans k6, ⟨hTN, hTM, by omega⟩, by omega, by omega⟩
        · obtain ⟨q, n, k1, ⟨k2, k3, k4⟩, k45, k5⟩ := hrl j h0 (by omega)
          exact ⟨q, n, ((f7 rl j (by omega)).trans (f6 rl j (by omega))).trans ((hg5 rl j (by omega)).trans ((hrlF j).trans k1)), ⟨(hTT q (by omega)).trans k2, (hTT (q + 1) (by omega)).trans k3, k4⟩, by omega, by omega⟩
      · exact (f7 rl _ (by omega)).trans k6
    · skip
      refine ev_bipush dt_Tu_rule_35 rfl ?_
      refine ev_iload_n dt_Tu_rule_37 rfl rfl ?_
      refine ev_isub dt_Tu_rule_38 ?_
      exact ev_ireturn dt_Tu_rule_39 rfl ⟨N, T, _, rc, _, rfl, hWw38, fun _ _ => rfl, fun p j h hp => if z : p = rl then (z ▸ hrw38 j) else hFw38 p j (by omega), z39, kkw38, by omega, (fun j h0 h1 => by obtain ⟨q, n, k1, k2, k3, k4⟩ := hrl j h0 h1; exact ⟨q, n, (hrw38 j).trans k1, k2, k3, k4⟩), by omega, ⟨fun _ => by exfalso; omega, fun _ => rfl, fun _ _ => ⟨by omega, rfl⟩, fun _ _ => by exfalso; omega⟩⟩
  · skip
    refine ev_iconst dt_Tu_rule_9 ?_
    exact ev_ireturn dt_Tu_rule_10 rfl ⟨N, T, _, rc, _, rfl, hW, fun _ _ => rfl, fun p j h hp => if z : p = rl then (z ▸ rfl) else hF0 p j (by omega), k_rc, k_L, by omega, hrl, by omega, ⟨fun _ => ⟨rfl, rfl, rfl⟩, fun _ => by exfalso; omega, fun _ => by exfalso; omega, fun _ => by exfalso; omega⟩⟩
