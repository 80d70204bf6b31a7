theorem b_tkv_c {f : Int → Int} {L lo hi : Int} {G : a_S} (hlo : 0 ≤ lo) : (b_tkv f L lo hi G = -1 ∧ ¬ (a_sg f L G = -2 ∧ lo ≤ a_nb f L G ∧ a_nb f L G ≤ hi)) ∨ (a_sg f L G = -2 ∧ b_tkv f L lo hi G = a_nb f L G ∧ lo ≤ a_nb f L G) := by
  unfold b_tkv
  by_cases h1 : a_sg f L G = -2
  · rw [if_pos h1]
    by_cases h2 : lo ≤ a_nb f L G ∧ a_nb f L G ≤ hi ∧ ¬ a_nb f L G = -1
    · rw [if_pos h2]
      exact Or.inr ⟨h1, rfl, h2.1⟩
    · rw [if_neg h2]
      exact Or.inl ⟨rfl, by omega⟩
  · rw [if_neg h1]
    exact Or.inl ⟨rfl, fun z => h1 z.1⟩
set_option maxHeartbeats 4000000 in
set_option maxRecDepth 10000 in
theorem gr_Rr_readHouse {N : Nat} {T : Nat → tm_S} {w : ab_W} {f : Int → Int} {K : Nat} {L : Int} {c : Int × List Int} {rd : Int → Int} {n : Int} {tp : Nat} {o : Nat} (hW : tm_W N T w) (h_tp : is_Ta T tp) (h_o : is_Ri T o) (ne_tp_o : tp + 2 ≤ o ∨ o + 13 ≤ tp) (hK : K < g_ln.length) (h0 : 0 ≤ n) (h1 : n ≤ L) (hG : a_T f K L tp w (0, tk_sk f L n, c)) (hR : b_rel o rd w) (hh : rd 1 ≤ 6) : ab_Mt g_G g_rs mt_Rr_readHouse 7 0 0 [ab_R tp, ab_R o] w (tm_Qv N T (fun w2 => (∀ (p : Nat) (j : Int), ¬ ((p = tp ∧ (j = 2 ∨ j = 5 ∨ j = 6 ∨ j = 7 ∨ j = 8 ∨ j = 4)) ∨ p = (o + 1) ∨ p = (o + 2) ∨ p = (o + 3) ∨ (p = o ∧ (j = 7))) → tm_g w2 p j = tm_g w p j) ∧ (b_rr f K L tp c o w2 (bs_house f L n rd)))) := by
  have hR7 := hR.1.2.2.2.2.2.1
  have hR8 := hR.1.2.2.2.2.2.2.1
  have hR9 := hR.1.2.2.2.2.2.2.2
  have bR7 : 0 ≤ rd 1 ∧ rd 1 ≤ 7 := tm_kb (k := 7) (K := 7) hW h_o.1 rfl rfl hR7
  have bR8 : -2147483648 ≤ rd 2 ∧ rd 2 ≤ 2147483647 := tm_kb (k := 8) (K := 8) hW h_o.1 rfl rfl hR8
  have bR9 : -2147483648 ≤ rd 3 ∧ rd 3 ≤ 2147483647 := tm_kb (k := 9) (K := 9) hW h_o.1 rfl rfl hR9
  have hL := a_L hW h_tp hG
  have bs := tk_sk_b f h1
  obtain ⟨tpt0, tpt1⟩ := id h_tp
  obtain ⟨ot0, ot1, ot2, ot3, ot4, ot5, ot6, ot7, ot8, ot9, ot10, ot11, ot12⟩ := id h_o
  have od := is_Ri.d h_o
  have hF0 : ∀ (p : Nat) (j : Int), ¬ ((p = tp ∧ (j = 2 ∨ j = 5 ∨ j = 6 ∨ j = 7 ∨ j = 8 ∨ j = 4)) ∨ p = (o + 1) ∨ p = (o + 2) ∨ p = (o + 3) ∨ (p = o ∧ (j = 7))) → tm_g w p j = tm_g w p j := fun _ _ _ => rfl
  refine ab_Mt.of rfl (Nat.le_of_ble_eq_true rfl) ?_
  show ab_Ev g_G g_rs mt_Rr_readHouse _ _ _ 0 [some (ab_R tp), some (ab_R o), none, none] [] _ _
  refine ev_aload_n dt_Rr_readHouse_0 rfl rfl ?_
  have hq0 := b_tk_ok (f := f) (c := c) (lo := 0) (hi := 11) hL.2 h0 h1 (by omega)
  have hc0 := b_tkv_c (f := f) (L := L) (G := (0, tk_sk f L n, c)) (lo := 0) (hi := 11) (by omega)
  have gb6 := tm_kb (k := 6) (K := 6) hW tpt0 rfl rfl (a_T_sg hG)
  have gb7 := tm_kb (k := 7) (K := 7) hW tpt0 rfl rfl (a_T_nb hG)
  rcases hx0 : rs_num f L 0 11 n with e0 | ⟨n0, x0⟩
  · skip
    rw [hx0] at hq0
    obtain ⟨ev0, ⟨le0, ue0⟩, eg0⟩ := hq0
    have hn0 : ¬ ((a_sg f L (0, tk_sk f L n, c)) = -2 ∧ 0 ≤ (a_nb f L (0, tk_sk f L n, c)) ∧ (a_nb f L (0, tk_sk f L n, c)) ≤ 11) := by rcases hc0 with z | z; exact z.2; omega
    refine tm_getK (K := 6) dt_Rr_readHouse_1 hW tpt0 fl_Rr_43 rfl (a_T_sg hG) ?_
    refine ev_bipush dt_Rr_readHouse_4 rfl ?_
    refine ev_icmp_ne (tgt := 25) dt_Rr_readHouse_6 (by decide) (by omega) (by omega) (fun h38 => ?_) (fun h38 => ?_)
    · skip
      refine ev_aload_n dt_Rr_readHouse_25 rfl rfl ?_
      refine ev_iconst dt_Rr_readHouse_26 ?_
      refine ev_bipush dt_Rr_readHouse_27 rfl ?_
      refine tm_vi dt_Rr_readHouse_29 (gr_take hW h_tp hK (n := n) (by omega) (by omega) hG (0) (11) (by omega) (by omega) (by omega) (by omega)) kb_Rr_59 ⟨im_Ta_takeNumber, se_Ta_takeNumber⟩ rfl hW tpt0 rfl (Nat.le_of_ble_eq_true rfl) (by decide) (fun w39 v40 hWw39 hSw39 => ?_)
      obtain ⟨hfw39, hqw39⟩ := hSw39
      have hFw39 : ∀ (p : Nat) (j : Int), ¬ ((p = tp ∧ (j = 2 ∨ j = 5 ∨ j = 6 ∨ j = 7 ∨ j = 8 ∨ j = 4)) ∨ p = (o + 1) ∨ p = (o + 2) ∨ p = (o + 3) ∨ (p = o ∧ (j = 7))) → tm_g w39 p j = tm_g w p j := fun p j h => (hfw39 p j (by omega)).trans (hF0 p j h)
      have z41 := (hfw39 o 7 (by omega)).trans hR7
      have hRw39 := b_rel_fr hR (fun p j hp => hfw39 p j (by omega))
      rw [hx0] at hqw39
      obtain ⟨evw39, ⟨lew39, uew39⟩, pw39, hGw39⟩ := hqw39
      refine ev_istore_n (l' := [_, _, _, _]) dt_Rr_readHouse_32 rfl (Nat.le_of_ble_eq_true rfl) rfl ?_
      refine ev_aload_n dt_Rr_readHouse_33 rfl rfl ?_
      refine ev_iconst dt_Rr_readHouse_34 ?_
      refine ev_bipush dt_Rr_readHouse_35 rfl ?_
      refine tm_vi dt_Rr_readHouse_37 (gd_take hWw39 h_tp hK (by omega) hGw39 (1) (9) (by omega) (by omega) (by omega) (by omega)) kb_Rr_59 ⟨im_Ta_takeNumber, se_Ta_takeNumber⟩ rfl hWw39 tpt0 rfl (Nat.le_of_ble_eq_true rfl) (by decide) (fun w42 v43 hWw42 hSw42 => ?_)
      obtain ⟨hfw42, evw42, hGw42⟩ := hSw42
      have hFw42 : ∀ (p : Nat) (j : Int), ¬ ((p = tp ∧ (j = 2 ∨ j = 5 ∨ j = 6 ∨ j = 7 ∨ j = 8 ∨ j = 4)) ∨ p = (o + 1) ∨ p = (o + 2) ∨ p = (o + 3) ∨ (p = o ∧ (j = 7))) → tm_g w42 p j = tm_g w p j := fun p j h => (hfw42 p j (by omega)).trans (hFw39 p j h)
      have z44 := (hfw42 o 7 (by omega)).trans z41
      have hRw42 := b_rel_fr hRw39 (fun p j hp => hfw42 p j (by omega))
      refine ev_istore_n (l' := [_, _, _, _]) dt_Rr_readHouse_40 rfl (Nat.le_of_ble_eq_true rfl) rfl ?_
      refine ev_aload_n dt_Rr_readHouse_41 rfl rfl ?_
      refine tm_getK (K := 4) dt_Rr_readHouse_42 hWw42 tpt0 fl_Rr_46 rfl (a_T_ft hGw42) ?_
      refine ev_if_ne (tgt := 54) dt_Rr_readHouse_45 (by decide) (by omega) (fun h45 => ?_) (fun h45 => ?_)
      · skip
        exact ev_return dt_Rr_readHouse_54 rfl ⟨hWw42, rfl, ⟨hFw42, (b_rr_er (by omega) (by omega) hGw42 (by unfold bs_house; simp only [hx0]))⟩⟩
      · skip
        exfalso
        omega
    · skip
      refine ev_aload_n dt_Rr_readHouse_9 rfl rfl ?_
      refine ev_aload_n dt_Rr_readHouse_10 rfl rfl ?_
      refine tm_getK (K := 7) dt_Rr_readHouse_11 hW tpt0 fl_Rr_87 rfl (a_T_nb hG) ?_
      refine tm_vp dt_Rr_readHouse_14 (gb_Ri_slotTaken hW h_o (a_nb f L (0, tk_sk f L n, c)) (by omega) (by omega) hR) kb_Rr_90 ⟨im_Ri_slotTaken, se_Ri_slotTaken⟩ rfl hW ot0 rfl (Nat.le_of_ble_eq_true rfl) (by decide) (fun vt hvt => ?_)
      obtain ⟨lvt, uvt, evt, fvt⟩ := hvt
      refine ev_if_eq (tgt := 25) dt_Rr_readHouse_17 (by decide) (by omega) (fun h46 => ?_) (fun h46 => ?_)
      · skip
        refine ev_aload_n dt_Rr_readHouse_25 rfl rfl ?_
        refine ev_iconst dt_Rr_readHouse_26 ?_
        refine ev_bipush dt_Rr_readHouse_27 rfl ?_
        refine tm_vi dt_Rr_readHouse_29 (gr_take hW h_tp hK (n := n) (by omega) (by omega) hG (0) (11) (by omega) (by omega) (by omega) (by omega)) kb_Rr_59 ⟨im_Ta_takeNumber, se_Ta_takeNumber⟩ rfl hW tpt0 rfl (Nat.le_of_ble_eq_true rfl) (by decide) (fun w47 v48 hWw47 hSw47 => ?_)
        obtain ⟨hfw47, hqw47⟩ := hSw47
        have hFw47 : ∀ (p : Nat) (j : Int), ¬ ((p = tp ∧ (j = 2 ∨ j = 5 ∨ j = 6 ∨ j = 7 ∨ j = 8 ∨ j = 4)) ∨ p = (o + 1) ∨ p = (o + 2) ∨ p = (o + 3) ∨ (p = o ∧ (j = 7))) → tm_g w47 p j = tm_g w p j := fun p j h => (hfw47 p j (by omega)).trans (hF0 p j h)
        have z49 := (hfw47 o 7 (by omega)).trans hR7
        have hRw47 := b_rel_fr hR (fun p j hp => hfw47 p j (by omega))
        rw [hx0] at hqw47
        obtain ⟨evw47, ⟨lew47, uew47⟩, pw47, hGw47⟩ := hqw47
        refine ev_istore_n (l' := [_, _, _, _]) dt_Rr_readHouse_32 rfl (Nat.le_of_ble_eq_true rfl) rfl ?_
        refine ev_aload_n dt_Rr_readHouse_33 rfl rfl ?_
        refine ev_iconst dt_Rr_readHouse_34 ?_
        refine ev_bipush dt_Rr_readHouse_35 rfl ?_
        refine tm_vi dt_Rr_readHouse_37 (gd_take hWw47 h_tp hK (by omega) hGw47 (1) (9) (by omega) (by omega) (by omega) (by omega)) kb_Rr_59 ⟨im_Ta_takeNumber, se_Ta_takeNumber⟩ rfl hWw47 tpt0 rfl (Nat.le_of_ble_eq_true rfl) (by decide) (fun w50 v51 hWw50 hSw50 => ?_)
        obtain ⟨hfw50, evw50, hGw50⟩ := hSw50
        have hFw50 : ∀ (p : Nat) (j : Int), ¬ ((p = tp ∧ (j = 2 ∨ j = 5 ∨ j = 6 ∨ j = 7 ∨ j = 8 ∨ j = 4)) ∨ p = (o + 1) ∨ p = (o + 2) ∨ p = (o + 3) ∨ (p = o ∧ (j = 7))) → tm_g w50 p j = tm_g w p j := fun p j h => (hfw50 p j (by omega)).trans (hFw47 p j h)
        have z52 := (hfw50 o 7 (by omega)).trans z49
        have hRw50 := b_rel_fr hRw47 (fun p j hp => hfw50 p j (by omega))
        refine ev_istore_n (l' := [_, _, _, _]) dt_Rr_readHouse_40 rfl (Nat.le_of_ble_eq_true rfl) rfl ?_
        refine ev_aload_n dt_Rr_readHouse_41 rfl rfl ?_
        refine tm_getK (K := 4) dt_Rr_readHouse_42 hWw50 tpt0 fl_Rr_46 rfl (a_T_ft hGw50) ?_
        refine ev_if_ne (tgt := 54) dt_Rr_readHouse_45 (by decide) (by omega) (fun h53 => ?_) (fun h53 => ?_)
        · skip
          exact ev_return dt_Rr_readHouse_54 rfl ⟨hWw50, rfl, ⟨hFw50, (b_rr_er (by omega) (by omega) hGw50 (by unfold bs_house; simp only [hx0]))⟩⟩
        · skip
          exfalso
          omega
      · skip
        exfalso
        omega
  · skip
    rw [hx0] at hq0
    obtain ⟨ev0, ⟨lx0, ux0⟩, -, eg0⟩ := hq0
    have hn0 : (a_sg f L (0, tk_sk f L n, c)) = -2 ∧ (a_nb f L (0, tk_sk f L n, c)) = x0 := by rcases hc0 with z | z <;> omega
    refine tm_getK (K := 6) dt_Rr_readHouse_1 hW tpt0 fl_Rr_43 rfl (a_T_sg hG) ?_
    refine ev_bipush dt_Rr_readHouse_4 rfl ?_
    refine ev_icmp_ne (tgt := 25) dt_Rr_readHouse_6 (by decide) (by omega) (by omega) (fun h54 => ?_) (fun h54 => ?_)
    · skip
      exfalso
      omega
    · skip
      refine ev_aload_n dt_Rr_readHouse_9 rfl rfl ?_
      refine ev_aload_n dt_Rr_readHouse_10 rfl rfl ?_
      refine tm_getK (K := 7) dt_Rr_readHouse_11 hW tpt0 fl_Rr_87 rfl (a_T_nb hG) ?_
      refine tm_vp dt_Rr_readHouse_14 (gb_Ri_slotTaken hW h_o (a_nb f L (0, tk_sk f L n, c)) (by omega) (by omega) hR) kb_Rr_90 ⟨im_Ri_slotTaken, se_Ri_slotTaken⟩ rfl hW ot0 rfl (Nat.le_of_ble_eq_true rfl) (by decide) (fun vt hvt => ?_)
      obtain ⟨lvt, uvt, evt, fvt⟩ := hvt
      refine ev_if_eq (tgt := 25) dt_Rr_readHouse_17 (by decide) (by omega) (fun h55 => ?_) (fun h55 => ?_)
      · skip
        have hnd : ¬ rs_dup rd (rd 1) x0 = true := fun z => by rw [hn0.2, if_pos z] at evt; omega
        refine ev_aload_n dt_Rr_readHouse_25 rfl rfl ?_
        refine ev_iconst dt_Rr_readHouse_26 ?_
        refine ev_bipush dt_Rr_readHouse_27 rfl ?_
        refine tm_vi dt_Rr_readHouse_29 (gr_take hW h_tp hK (n := n) (by omega) (by omega) hG (0) (11) (by omega) (by omega) (by omega) (by omega)) kb_Rr_59 ⟨im_Ta_takeNumber, se_Ta_takeNumber⟩ rfl hW tpt0 rfl (Nat.le_of_ble_eq_true rfl) (by decide) (fun w56 v57 hWw56 hSw56 => ?_)
        obtain ⟨hfw56, hqw56⟩ := hSw56
        have hFw56 : ∀ (p : Nat) (j : Int), ¬ ((p = tp ∧ (j = 2 ∨ j = 5 ∨ j = 6 ∨ j = 7 ∨ j = 8 ∨ j = 4)) ∨ p = (o + 1) ∨ p = (o + 2) ∨ p = (o + 3) ∨ (p = o ∧ (j = 7))) → tm_g w56 p j = tm_g w p j := fun p j h => (hfw56 p j (by omega)).trans (hF0 p j h)
        have z58 := (hfw56 o 7 (by omega)).trans hR7
        have hRw56 := b_rel_fr hR (fun p j hp => hfw56 p j (by omega))
        rw [hx0] at hqw56
        obtain ⟨evw56, ⟨lxw56, uxw56⟩, ⟨lnw56, unw56⟩, hGw56⟩ := hqw56
        subst evw56
        refine ev_istore_n (l' := [_, _, _, _]) dt_Rr_readHouse_32 rfl (Nat.le_of_ble_eq_true rfl) rfl ?_
        refine ev_aload_n dt_Rr_readHouse_33 rfl rfl ?_
        refine ev_iconst dt_Rr_readHouse_34 ?_
        refine ev_bipush dt_Rr_readHouse_35 rfl ?_
        refine tm_vi dt_Rr_readHouse_37 (gr_take hWw56 h_tp hK (n := n0) (by omega) (by omega) hGw56 (1) (9) (by omega) (by omega) (by omega) (by omega)) kb_Rr_59 ⟨im_Ta_takeNumber, se_Ta_takeNumber⟩ rfl hWw56 tpt0 rfl (Nat.le_of_ble_eq_true rfl) (by decide) (fun w59 v60 hWw59 hSw59 => ?_)
        obtain ⟨hfw59, hqw59⟩ := hSw59
        have hFw59 : ∀ (p : Nat) (j : Int), ¬ ((p = tp ∧ (j = 2 ∨ j = 5 ∨ j = 6 ∨ j = 7 ∨ j = 8 ∨ j = 4)) ∨ p = (o + 1) ∨ p = (o + 2) ∨ p = (o + 3) ∨ (p = o ∧ (j = 7))) → tm_g w59 p j = tm_g w p j := fun p j h => (hfw59 p j (by omega)).trans (hFw56 p j h)
        have z61 := (hfw59 o 7 (by omega)).trans z58
        have hRw59 := b_rel_fr hRw56 (fun p j hp => hfw59 p j (by omega))
        rcases hxw59 : rs_num f L (1) (9) n0 with ew59 | ⟨nw59, xw59⟩
        · skip
          rw [hxw59] at hqw59
          obtain ⟨evw59, ⟨lew59, uew59⟩, pw59, hGw59⟩ := hqw59
          refine ev_istore_n (l' := [_, _, _, _]) dt_Rr_readHouse_40 rfl (Nat.le_of_ble_eq_true rfl) rfl ?_
          refine ev_aload_n dt_Rr_readHouse_41 rfl rfl ?_
          refine tm_getK (K := 4) dt_Rr_readHouse_42 hWw59 tpt0 fl_Rr_46 rfl (a_T_ft hGw59) ?_
          refine ev_if_ne (tgt := 54) dt_Rr_readHouse_45 (by decide) (by omega) (fun h62 => ?_) (fun h62 => ?_)
          · skip
            exact ev_return dt_Rr_readHouse_54 rfl ⟨hWw59, rfl, ⟨hFw59, (b_rr_er (by omega) (by omega) hGw59 (by unfold bs_house; simp only [hx0]; rw [if_neg hnd]; simp only [hxw59]))⟩⟩
          · skip
            exfalso
            omega
        · skip
          rw [hxw59] at hqw59
          obtain ⟨evw59, ⟨lxw59, uxw59⟩, ⟨lnw59, unw59⟩, hGw59⟩ := hqw59
          subst evw59
          refine ev_istore_n (l' := [_, _, _, _]) dt_Rr_readHouse_40 rfl (Nat.le_of_ble_eq_true rfl) rfl ?_
          refine ev_aload_n dt_Rr_readHouse_41 rfl rfl ?_
          refine tm_getK (K := 4) dt_Rr_readHouse_42 hWw59 tpt0 fl_Rr_46 rfl (a_T_ft hGw59) ?_
          refine ev_if_ne (tgt := 54) dt_Rr_readHouse_45 (by decide) (by omega) (fun h63 => ?_) (fun h63 => ?_)
          · skip
            exfalso
            omega
          · skip
            refine ev_aload_n dt_Rr_readHouse_48 rfl rfl ?_
            refine ev_iload_n dt_Rr_readHouse_49 rfl rfl ?_
            refine ev_iload_n dt_Rr_readHouse_50 rfl rfl ?_
            refine tm_vv dt_Rr_readHouse_51 (gb_Ri_addHouse hWw59 h_o v57 (by omega) (by omega) v60 (by omega) (by omega) (rd 1) z61 (by omega) (by omega) hRw59 rfl) kb_Rr_94 ⟨im_Ri_addHouse, se_Ri_addHouse⟩ rfl hWw59 ot0 rfl (Nat.le_of_ble_eq_true rfl) (by decide) (fun w64 hWw64 hSw64 => ?_)
            obtain ⟨hfw64, hRw64⟩ := hSw64
            have hFw64 : ∀ (p : Nat) (j : Int), ¬ ((p = tp ∧ (j = 2 ∨ j = 5 ∨ j = 6 ∨ j = 7 ∨ j = 8 ∨ j = 4)) ∨ p = (o + 1) ∨ p = (o + 2) ∨ p = (o + 3) ∨ (p = o ∧ (j = 7))) → tm_g w64 p j = tm_g w p j := fun p j h => (hfw64 p j (by omega)).trans (hFw59 p j h)
            have z65 := (hfw64 tp 4 (by omega)).trans (a_T_ft hGw59)
            have hGw64 := a_T_fr hGw59 (fun p j hp => hfw64 p j (by omega))
            exact ev_return dt_Rr_readHouse_54 rfl ⟨hWw64, rfl, ⟨hFw64, (b_rr_ok (by omega) (by omega) hGw64 hRw64 (by unfold bs_house; simp only [hx0]; rw [if_neg hnd]; simp only [hxw59]))⟩⟩
      · skip
        have hdup : rs_dup rd (rd 1) x0 = true := Decidable.byContradiction (fun z => by rw [hn0.2, if_neg z] at evt; omega)
        refine ev_aload_n dt_Rr_readHouse_20 rfl rfl ?_
        refine ev_iconst dt_Rr_readHouse_21 ?_
        refine tm_vv dt_Rr_readHouse_22 (gt_fail hW h_tp 1 (by omega) (by omega) hK hG) kb_Rr_28 ⟨im_Ta_fail, se_Ta_fail⟩ rfl hW tpt0 rfl (Nat.le_of_ble_eq_true rfl) (by decide) (fun w66 hWw66 hSw66 => ?_)
        obtain ⟨hfw66, hGx⟩ := hSw66
        have hGw66 : a_T f K L tp w66 (1 + 8 * tk_sk f L n + 1, tk_sk f L n, c) := hGx
        have hFw66 : ∀ (p : Nat) (j : Int), ¬ ((p = tp ∧ (j = 2 ∨ j = 5 ∨ j = 6 ∨ j = 7 ∨ j = 8 ∨ j = 4)) ∨ p = (o + 1) ∨ p = (o + 2) ∨ p = (o + 3) ∨ (p = o ∧ (j = 7))) → tm_g w66 p j = tm_g w p j := fun p j h => (hfw66 p j (by omega)).trans (hF0 p j h)
        have z67 := (hfw66 o 7 (by omega)).trans hR7
        have hRw66 := b_rel_fr hR (fun p j hp => hfw66 p j (by omega))
        refine ev_aload_n dt_Rr_readHouse_25 rfl rfl ?_
        refine ev_iconst dt_Rr_readHouse_26 ?_
        refine ev_bipush dt_Rr_readHouse_27 rfl ?_
        refine tm_vi dt_Rr_readHouse_29 (gd_take hWw66 h_tp hK (by omega) hGw66 (0) (11) (by omega) (by omega) (by omega) (by omega)) kb_Rr_59 ⟨im_Ta_takeNumber, se_Ta_takeNumber⟩ rfl hWw66 tpt0 rfl (Nat.le_of_ble_eq_true rfl) (by decide) (fun w68 v69 hWw68 hSw68 => ?_)
        obtain ⟨hfw68, evw68, hGw68⟩ := hSw68
        have hFw68 : ∀ (p : Nat) (j : Int), ¬ ((p = tp ∧ (j = 2 ∨ j = 5 ∨ j = 6 ∨ j = 7 ∨ j = 8 ∨ j = 4)) ∨ p = (o + 1) ∨ p = (o + 2) ∨ p = (o + 3) ∨ (p = o ∧ (j = 7))) → tm_g w68 p j = tm_g w p j := fun p j h => (hfw68 p j (by omega)).trans (hFw66 p j h)
        have z70 := (hfw68 o 7 (by omega)).trans z67
        have hRw68 := b_rel_fr hRw66 (fun p j hp => hfw68 p j (by omega))
        refine ev_istore_n (l' := [_, _, _, _]) dt_Rr_readHouse_32 rfl (Nat.le_of_ble_eq_true rfl) rfl ?_
        refine ev_aload_n dt_Rr_readHouse_33 rfl rfl ?_
        refine ev_iconst dt_Rr_readHouse_34 ?_
        refine ev_bipush dt_Rr_readHouse_35 rfl ?_
        refine tm_vi dt_Rr_readHouse_37 (gd_take hWw68 h_tp hK (by omega) hGw68 (1) (9) (by omega) (by omega) (by omega) (by omega)) kb_Rr_59 ⟨im_Ta_takeNumber, se_Ta_takeNumber⟩ rfl hWw68 tpt0 rfl (Nat.le_of_ble_eq_true rfl) (by decide) (fun w71 v72 hWw71 hSw71 => ?_)
        obtain ⟨hfw71, evw71, hGw71⟩ := hSw71
        have hFw71 : ∀ (p : Nat) (j : Int), ¬ ((p = tp ∧ (j = 2 ∨ j = 5 ∨ j = 6 ∨ j = 7 ∨ j = 8 ∨ j = 4)) ∨ p = (o + 1) ∨ p = (o + 2) ∨ p = (o + 3) ∨ (p = o ∧ (j = 7))) → tm_g w71 p j = tm_g w p j := fun p j h => (hfw71 p j (by omega)).trans (hFw68 p j h)
        have z73 := (hfw71 o 7 (by omega)).trans z70
        have hRw71 := b_rel_fr hRw68 (fun p j hp => hfw71 p j (by omega))
        refine ev_istore_n (l' := [_, _, _, _]) dt_Rr_readHouse_40 rfl (Nat.le_of_ble_eq_true rfl) rfl ?_
        refine ev_aload_n dt_Rr_readHouse_41 rfl rfl ?_
        refine tm_getK (K := 4) dt_Rr_readHouse_42 hWw71 tpt0 fl_Rr_46 rfl (a_T_ft hGw71) ?_
        refine ev_if_ne (tgt := 54) dt_Rr_readHouse_45 (by decide) (by omega) (fun h74 => ?_) (fun h74 => ?_)
        · skip
          exact ev_return dt_Rr_readHouse_54 rfl ⟨hWw71, rfl, ⟨hFw71, (b_rr_er (by omega) (by omega) hGw71 (by unfold bs_house; simp only [hx0]; exact if_pos hdup))⟩⟩
        · skip
          exfalso
          omega
def b_line (f : Int → Int) (L n a : Int) (rd : Int → Int) : Except Int (Int × (Int → Int)) := if a = 0 then bs_ring f L n rd else if a = 1 then bs_house f L n rd else if a = 2 then bs_sight f L n rd else if a = 3 then bs_like f L n 1 rd else if a = 4 then bs_like f L n (-1) rd else if a = 5 then bs_gate f L n rd else bs_rate f L n rd
set_option maxHeartbeats 4000000 in
set_option maxRecDepth 10000 in
theorem gr_Rr_readRest {N : Nat} {T : Nat → tm_S} {w : ab_W} {f : Int → Int} {K : Nat} {L : Int} {c : Int × List Int} {rd : Int → Int} {n : Int} {tp : Nat} {o : Nat} (hW : tm_W N T w) (h_tp : is_Ta T tp) (h_o : is_Ri T o) (ne_tp_o : tp + 2 ≤ o ∨ o + 13 ≤ tp) (a : Int) (l_a : 0 ≤ a) (u_a : a ≤ 6) (hK : K < g_ln.length) (h0 : 0 ≤ n) (h1 : n ≤ L) (hG : a_T f K L tp w (0, tk_sk f L n, c)) (hR : b_rel o rd w) (hh : a = 1 → rd 1 ≤ 6) (hs : a = 2 → 0 ≤ rd 2 ∧ rd 2 ≤ 11) : ab_Mt g_G g_rs mt_Rr_readRest 8 0 0 [ab_R tp, ab_R o, ab_I a] w (tm_Qv N T (fun w2 => (∀ (p : Nat) (j : Int), ¬ ((p = tp ∧ (j = 2 ∨ j = 5 ∨ j = 6 ∨ j = 7 ∨ j = 8 ∨ j = 4)) ∨ (p = o ∧ (j = 1 ∨ j = 7 ∨ j = 8 ∨ j = 9)) ∨ p = (o + 1) ∨ p = (o + 2) ∨ p = (o + 3) ∨ p = (o + 4) ∨ p = (o + 5) ∨ p = (o + 6)) → tm_g w2 p j = tm_g w p j) ∧ (b_rr f K L tp c o w2 (b_line f L n a rd)))) := by
  have hR7 := hR.1.2.2.2.2.2.1
  have hR8 := hR.1.2.2.2.2.2.2.1
  have hR9 := hR.1.2.2.2.2.2.2.2
  have bR7 : 0 ≤ rd 1 ∧ rd 1 ≤ 7 := tm_kb (k := 7) (K := 7) hW h_o.1 rfl rfl hR7
  have bR8 : -2147483648 ≤ rd 2 ∧ rd 2 ≤ 2147483647 := tm_kb (k := 8) (K := 8) hW h_o.1 rfl rfl hR8
  have bR9 : -2147483648 ≤ rd 3 ∧ rd 3 ≤ 2147483647 := tm_kb (k := 9) (K := 9) hW h_o.1 rfl rfl hR9
  obtain ⟨tpt0, tpt1⟩ := id h_tp
  obtain ⟨ot0, ot1, ot2, ot3, ot4, ot5, ot6, ot7, ot8, ot9, ot10, ot11, ot12⟩ := id h_o
  have od := is_Ri.d h_o
  have hF0 : ∀ (p : Nat) (j : Int), ¬ ((p = tp ∧ (j = 2 ∨ j = 5 ∨ j = 6 ∨ j = 7 ∨ j = 8 ∨ j = 4)) ∨ (p = o ∧ (j = 1 ∨ j = 7 ∨ j = 8 ∨ j = 9)) ∨ p = (o + 1) ∨ p = (o + 2) ∨ p = (o + 3) ∨ p = (o + 4) ∨ p = (o + 5) ∨ p = (o + 6)) → tm_g w p j = tm_g w p j := fun _ _ _ => rfl
  refine ab_Mt.of rfl (Nat.le_of_ble_eq_true rfl) ?_
  show ab_Ev g_G g_rs mt_Rr_readRest _ _ _ 0 [some (ab_R tp), some (ab_R o), some (ab_I a)] [] _ _
  refine ev_iload_n dt_Rr_readRest_0 rfl rfl ?_
  rcases (by omega : a = 0 ∨ a = 1 ∨ a = 2 ∨ a = 3 ∨ a = 4 ∨ a = 5 ∨ 5 < a) with c75 | c75 | c75 | c75 | c75 | c75 | c75
  · skip
    refine ev_tableIn (off := 39) (tgt := 40) dt_Rr_readRest_1 (by omega) (by omega) (by omega) (by rw [c75]; rfl) (by decide) ?_
    refine ev_aload_n dt_Rr_readRest_40 rfl rfl ?_
    refine ev_iconst dt_Rr_readRest_41 ?_
    refine ev_aload_n dt_Rr_readRest_42 rfl rfl ?_
    refine ev_iconst dt_Rr_readRest_43 ?_
    refine ev_bipush dt_Rr_readRest_44 rfl ?_
    refine tm_vi dt_Rr_readRest_46 (gr_take hW h_tp hK (n := n) (by omega) (by omega) hG (0) (11) (by omega) (by omega) (by omega) (by omega)) kb_Rr_59 ⟨im_Ta_takeNumber, se_Ta_takeNumber⟩ rfl hW tpt0 rfl (Nat.le_of_ble_eq_true rfl) (by decide) (fun w76 v77 hWw76 hSw76 => ?_)
    obtain ⟨hfw76, hqw76⟩ := hSw76
    have hFw76 : ∀ (p : Nat) (j : Int), ¬ ((p = tp ∧ (j = 2 ∨ j = 5 ∨ j = 6 ∨ j = 7 ∨ j = 8 ∨ j = 4)) ∨ (p = o ∧ (j = 1 ∨ j = 7 ∨ j = 8 ∨ j = 9)) ∨ p = (o + 1) ∨ p = (o + 2) ∨ p = (o + 3) ∨ p = (o + 4) ∨ p = (o + 5) ∨ p = (o + 6)) → tm_g w76 p j = tm_g w p j := fun p j h => (hfw76 p j (by omega)).trans (hF0 p j h)
    have hRw76 := b_rel_fr hR (fun p j hp => hfw76 p j (by omega))
    rcases hxw76 : rs_num f L (0) (11) n with ew76 | ⟨nw76, xw76⟩
    · skip
      rw [hxw76] at hqw76
      obtain ⟨evw76, ⟨lew76, uew76⟩, pw76, hGw76⟩ := hqw76
      refine tm_max (by omega) (by omega) dt_Rr_readRest_49 mk_Rr_63 (Nat.le_of_ble_eq_true rfl) (by decide) (fun m78 x1 x2 x3 => ?_)
      have emm78 : m78 = 0 := by omega
      refine tm_putI (K := 1) dt_Rr_readRest_52 hWw76 ot0 (fp_Rr_68 _) rfl rfl trivial (by omega) (by omega) (fun w79 hWw79 kkw79 hfw79 => ?_)
      have hFw79 : ∀ (p : Nat) (j : Int), ¬ ((p = tp ∧ (j = 2 ∨ j = 5 ∨ j = 6 ∨ j = 7 ∨ j = 8 ∨ j = 4)) ∨ (p = o ∧ (j = 1 ∨ j = 7 ∨ j = 8 ∨ j = 9)) ∨ p = (o + 1) ∨ p = (o + 2) ∨ p = (o + 3) ∨ p = (o + 4) ∨ p = (o + 5) ∨ p = (o + 6)) → tm_g w79 p j = tm_g w p j := fun p j h => (hfw79 p j (by omega)).trans (hFw76 p j h)
      have z80 := (hfw79 tp 4 (by omega)).trans (a_T_ft hGw76)
      have hGw79 := a_T_fr hGw76 (fun p j hp => hfw79 p j (by omega))
      refine ev_goto (tgt := 105) dt_Rr_readRest_55 (by decide) ?_
      exact ev_return dt_Rr_readRest_105 rfl ⟨hWw79, rfl, ⟨hFw79, (by unfold b_line; (repeat' split) <;> first | exact (b_rr_er (by omega) (by omega) hGw79 (by unfold bs_ring; simp only [hxw76])) | (exfalso; omega))⟩⟩
    · skip
      rw [hxw76] at hqw76
      obtain ⟨evw76, ⟨lxw76, uxw76⟩, ⟨lnw76, unw76⟩, hGw76⟩ := hqw76
      subst evw76
      refine tm_max (by omega) (by omega) dt_Rr_readRest_49 mk_Rr_63 (Nat.le_of_ble_eq_true rfl) (by decide) (fun m81 x1 x2 x3 => ?_)
      have emm81 : v77 = m81 := by omega
      subst emm81
      refine tm_putI (K := 1) dt_Rr_readRest_52 hWw76 ot0 (fp_Rr_68 _) rfl rfl trivial (by omega) (by omega) (fun w82 hWw82 kkw82 hfw82 => ?_)
      have hFw82 : ∀ (p : Nat) (j : Int), ¬ ((p = tp ∧ (j = 2 ∨ j = 5 ∨ j = 6 ∨ j = 7 ∨ j = 8 ∨ j = 4)) ∨ (p = o ∧ (j = 1 ∨ j = 7 ∨ j = 8 ∨ j = 9)) ∨ p = (o + 1) ∨ p = (o + 2) ∨ p = (o + 3) ∨ p = (o + 4) ∨ p = (o + 5) ∨ p = (o + 6)) → tm_g w82 p j = tm_g w p j := fun p j h => (hfw82 p j (by omega)).trans (hFw76 p j h)
      have z83 := (hfw82 tp 4 (by omega)).trans (a_T_ft hGw76)
      have hGw82 := a_T_fr hGw76 (fun p j hp => hfw82 p j (by omega))
      have hRw82 := b_angle hRw76 kkw82 (fun p j hp hn => hfw82 p j (by omega))
      refine ev_goto (tgt := 105) dt_Rr_readRest_55 (by decide) ?_
      exact ev_return dt_Rr_readRest_105 rfl ⟨hWw82, rfl, ⟨hFw82, (by unfold b_line; (repeat' split) <;> first | exact (b_rr_ok (by omega) (by omega) hGw82 hRw82 (by unfold bs_ring; simp only [hxw76])) | (exfalso; omega))⟩⟩
  · skip
    refine ev_tableIn (off := 57) (tgt := 58) dt_Rr_readRest_1 (by omega) (by omega) (by omega) (by rw [c75]; rfl) (by decide) ?_
    refine ev_aload_n dt_Rr_readRest_58 rfl rfl ?_
    refine ev_aload_n dt_Rr_readRest_59 rfl rfl ?_
    refine tm_sv dt_Rr_readRest_60 (gr_Rr_readHouse hW h_tp h_o (by omega) hK h0 h1 hG hR (by omega)) kb_Rr_71 sc_Rr_readHouse hW rfl (Nat.le_of_ble_eq_true rfl) (by decide) (fun w84 hWw84 hSw84 => ?_)
    obtain ⟨hfw84, hXw84⟩ := hSw84
    have hFw84 : ∀ (p : Nat) (j : Int), ¬ ((p = tp ∧ (j = 2 ∨ j = 5 ∨ j = 6 ∨ j = 7 ∨ j = 8 ∨ j = 4)) ∨ (p = o ∧ (j = 1 ∨ j = 7 ∨ j = 8 ∨ j = 9)) ∨ p = (o + 1) ∨ p = (o + 2) ∨ p = (o + 3) ∨ p = (o + 4) ∨ p = (o + 5) ∨ p = (o + 6)) → tm_g w84 p j = tm_g w p j := fun p j h => (hfw84 p j (by omega)).trans (hF0 p j h)
    refine ev_goto (tgt := 105) dt_Rr_readRest_63 (by decide) ?_
    exact ev_return dt_Rr_readRest_105 rfl ⟨hWw84, rfl, ⟨hFw84, (by unfold b_line; (repeat' split) <;> first | exact hXw84 | (exfalso; omega))⟩⟩
  · skip
    refine ev_tableIn (off := 65) (tgt := 66) dt_Rr_readRest_1 (by omega) (by omega) (by omega) (by rw [c75]; rfl) (by decide) ?_
    refine ev_aload_n dt_Rr_readRest_66 rfl rfl ?_
    refine ev_aload_n dt_Rr_readRest_67 rfl rfl ?_
    refine tm_sv dt_Rr_readRest_68 (gr_Rr_readSight hW h_tp h_o (by omega) hK h0 h1 hG hR (by omega)) kb_Rr_75 sc_Rr_readSight hW rfl (Nat.le_of_ble_eq_true rfl) (by decide) (fun w85 hWw85 hSw85 => ?_)
    obtain ⟨hfw85, hXw85⟩ := hSw85
    have hFw85 : ∀ (p : Nat) (j : Int), ¬ ((p = tp ∧ (j = 2 ∨ j = 5 ∨ j = 6 ∨ j = 7 ∨ j = 8 ∨ j = 4)) ∨ (p = o ∧ (j = 1 ∨ j = 7 ∨ j = 8 ∨ j = 9)) ∨ p = (o + 1) ∨ p = (o + 2) ∨ p = (o + 3) ∨ p = (o + 4) ∨ p = (o + 5) ∨ p = (o + 6)) → tm_g w85 p j = tm_g w p j := fun p j h => (hfw85 p j (by omega)).trans (hF0 p j h)
    refine ev_goto (tgt := 105) dt_Rr_readRest_71 (by decide) ?_
    exact ev_return dt_Rr_readRest_105 rfl ⟨hWw85, rfl, ⟨hFw85, (by unfold b_line; (repeat' split) <;> first | exact hXw85 | (exfalso; omega))⟩⟩
  · skip
    refine ev_tableIn (off := 73) (tgt := 74) dt_Rr_readRest_1 (by omega) (by omega) (by omega) (by rw [c75]; rfl) (by decide) ?_
    refine ev_aload_n dt_Rr_readRest_74 rfl rfl ?_
    refine ev_aload_n dt_Rr_readRest_75 rfl rfl ?_
    refine ev_iconst dt_Rr_readRest_76 ?_
    refine tm_sv dt_Rr_readRest_77 (gr_Rr_readLiking hW h_tp h_o (by omega) 1 (by omega) (by omega) hK h0 h1 hG hR (Or.inl rfl)) kb_Rr_78 sc_Rr_readLiking hW rfl (Nat.le_of_ble_eq_true rfl) (by decide) (fun w86 hWw86 hSw86 => ?_)
    obtain ⟨hfw86, hXw86⟩ := hSw86
    have hFw86 : ∀ (p : Nat) (j : Int), ¬ ((p = tp ∧ (j = 2 ∨ j = 5 ∨ j = 6 ∨ j = 7 ∨ j = 8 ∨ j = 4)) ∨ (p = o ∧ (j = 1 ∨ j = 7 ∨ j = 8 ∨ j = 9)) ∨ p = (o + 1) ∨ p = (o + 2) ∨ p = (o + 3) ∨ p = (o + 4) ∨ p = (o + 5) ∨ p = (o + 6)) → tm_g w86 p j = tm_g w p j := fun p j h => (hfw86 p j (by omega)).trans (hF0 p j h)
    refine ev_goto (tgt := 105) dt_Rr_readRest_80 (by decide) ?_
    exact ev_return dt_Rr_readRest_105 rfl ⟨hWw86, rfl, ⟨hFw86, (by unfold b_line; (repeat' split) <;> first | exact hXw86 | (exfalso; omega))⟩⟩
  · skip
    refine ev_tableIn (off := 82) (tgt := 83) dt_Rr_readRest_1 (by omega) (by omega) (by omega) (by rw [c75]; rfl) (by decide) ?_
    refine ev_aload_n dt_Rr_readRest_83 rfl rfl ?_
    refine ev_aload_n dt_Rr_readRest_84 rfl rfl ?_
    refine ev_iconst dt_Rr_readRest_85 ?_
    refine tm_sv dt_Rr_readRest_86 (gr_Rr_readLiking hW h_tp h_o (by omega) (-1) (by omega) (by omega) hK h0 h1 hG hR (Or.inr rfl)) kb_Rr_78 sc_Rr_readLiking hW rfl (Nat.le_of_ble_eq_true rfl) (by decide) (fun w87 hWw87 hSw87 => ?_)
    obtain ⟨hfw87, hXw87⟩ := hSw87
    have hFw87 : ∀ (p : Nat) (j : Int), ¬ ((p = tp ∧ (j = 2 ∨ j = 5 ∨ j = 6 ∨ j = 7 ∨ j = 8 ∨ j = 4)) ∨ (p = o ∧ (j = 1 ∨ j = 7 ∨ j = 8 ∨ j = 9)) ∨ p = (o + 1) ∨ p = (o + 2) ∨ p = (o + 3) ∨ p = (o + 4) ∨ p = (o + 5) ∨ p = (o + 6)) → tm_g w87 p j = tm_g w p j := fun p j h => (hfw87 p j (by omega)).trans (hF0 p j h)
    refine ev_goto (tgt := 105) dt_Rr_readRest_89 (by decide) ?_
    exact ev_return dt_Rr_readRest_105 rfl ⟨hWw87, rfl, ⟨hFw87, (by unfold b_line; (repeat' split) <;> first | exact hXw87 | (exfalso; omega))⟩⟩
  · skip
    refine ev_tableIn (off := 91) (tgt := 92) dt_Rr_readRest_1 (by omega) (by omega) (by omega) (by rw [c75]; rfl) (by decide) ?_
    refine ev_aload_n dt_Rr_readRest_92 rfl rfl ?_
    refine ev_aload_n dt_Rr_readRest_93 rfl rfl ?_
    refine tm_sv dt_Rr_readRest_94 (gr_Rr_readGate hW h_tp h_o (by omega) hK h0 h1 hG hR) kb_Rr_81 sc_Rr_readGate hW rfl (Nat.le_of_ble_eq_true rfl) (by decide) (fun w88 hWw88 hSw88 => ?_)
    obtain ⟨hfw88, hXw88⟩ := hSw88
    have hFw88 : ∀ (p : Nat) (j : Int), ¬ ((p = tp ∧ (j = 2 ∨ j = 5 ∨ j = 6 ∨ j = 7 ∨ j = 8 ∨ j = 4)) ∨ (p = o ∧ (j = 1 ∨ j = 7 ∨ j = 8 ∨ j = 9)) ∨ p = (o + 1) ∨ p = (o + 2) ∨ p = (o + 3) ∨ p = (o + 4) ∨ p = (o + 5) ∨ p = (o + 6)) → tm_g w88 p j = tm_g w p j := fun p j h => (hfw88 p j (by omega)).trans (hF0 p j h)
    refine ev_goto (tgt := 105) dt_Rr_readRest_97 (by decide) ?_
    exact ev_return dt_Rr_readRest_105 rfl ⟨hWw88, rfl, ⟨hFw88, (by unfold b_line; (repeat' split) <;> first | exact hXw88 | (exfalso; omega))⟩⟩
  · skip
    refine ev_tableOut (tgt := 100) dt_Rr_readRest_1 (by omega) (by omega) (by decide) ?_
    refine ev_aload_n dt_Rr_readRest_100 rfl rfl ?_
    refine ev_aload_n dt_Rr_readRest_101 rfl rfl ?_
    refine tm_sv dt_Rr_readRest_102 (gr_Rr_readRate hW h_tp h_o (by omega) hK h0 h1 hG hR) kb_Rr_84 sc_Rr_readRate hW rfl (Nat.le_of_ble_eq_true rfl) (by decide) (fun w89 hWw89 hSw89 => ?_)
    obtain ⟨hfw89, hXw89⟩ := hSw89
    have hFw89 : ∀ (p : Nat) (j : Int), ¬ ((p = tp ∧ (j = 2 ∨ j = 5 ∨ j = 6 ∨ j = 7 ∨ j = 8 ∨ j = 4)) ∨ (p = o ∧ (j = 1 ∨ j = 7 ∨ j = 8 ∨ j = 9)) ∨ p = (o + 1) ∨ p = (o + 2) ∨ p = (o + 3) ∨ p = (o + 4) ∨ p = (o + 5) ∨ p = (o + 6)) → tm_g w89 p j = tm_g w p j := fun p j h => (hfw89 p j (by omega)).trans (hF0 p j h)
    exact ev_return dt_Rr_readRest_105 rfl ⟨hWw89, rfl, ⟨hFw89, (by unfold b_line; (repeat' split) <;> first | exact hXw89 | (exfalso; omega))⟩⟩
