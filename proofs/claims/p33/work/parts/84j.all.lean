def gu_Fact (m : Nat) : Prop := ∀ (N : Nat) (T : Nat → tm_S) (w : ab_W) (f : Int → Int) (K : Nat) (L : Int) (G : a_S) (rr : Nat) (tp : Nat) (hW : tm_W N T w) (h_rr : is_Ru T rr) (h_tp : is_Ta T tp) (ne_rr_tp : rr + 2 ≤ tp ∨ tp + 2 ≤ rr) (a : Int) (l_a : 0 ≤ a) (u_a : a ≤ 10)  (hK : K < g_ln.length) (hG : a_R f K L tp rr w G), 10 - a < (m : Int) → ab_Mt g_G g_rs mt_Ru_readFact (2 * (10 - a).toNat + 12) 0 0 [ab_R rr, ab_R tp, ab_I a] w (tm_Qv N T (fun w2 => (∀ (p : Nat) (j : Int), ¬ (p = (rr + 1) ∨ (p = rr ∧ (j = 1 ∨ j = 2)) ∨ (p = tp ∧ (j = 2 ∨ j = 5 ∨ j = 6 ∨ j = 7 ∨ j = 8 ∨ j = 4))) → tm_g w2 p j = tm_g w p j) ∧ (a_R f K L tp rr w2 (a_fact f K L (10 - a).toNat G))))
def gu_Test (m : Nat) : Prop := ∀ (N : Nat) (T : Nat → tm_S) (w : ab_W) (f : Int → Int) (K : Nat) (L : Int) (G : a_S) (rr : Nat) (tp : Nat) (hW : tm_W N T w) (h_rr : is_Ru T rr) (h_tp : is_Ta T tp) (ne_rr_tp : rr + 2 ≤ tp ∨ tp + 2 ≤ rr) (a : Int) (l_a : 0 ≤ a) (u_a : a ≤ 10)  (hK : K < g_ln.length) (hG : a_R f K L tp rr w G), 10 - a < (m : Int) → ab_Mt g_G g_rs mt_Ru_readTest (2 * (10 - a).toNat + 13) 0 0 [ab_R rr, ab_R tp, ab_I a] w (tm_Qv N T (fun w2 => (∀ (p : Nat) (j : Int), ¬ (p = (rr + 1) ∨ (p = rr ∧ (j = 1 ∨ j = 2)) ∨ (p = tp ∧ (j = 2 ∨ j = 5 ∨ j = 6 ∨ j = 7 ∨ j = 8 ∨ j = 4))) → tm_g w2 p j = tm_g w p j) ∧ (a_R f K L tp rr w2 (a_tst f K L (a_fact f K L (10 - a).toNat) 61 0 0 G))))
set_option maxHeartbeats 4000000 in
set_option maxRecDepth 10000 in
theorem gx_RuF {m : Nat} (ihF : gu_Fact m) (ihT : gu_Test m) {N : Nat} {T : Nat → tm_S} {w : ab_W} {f : Int → Int} {K : Nat} {L : Int} {G : a_S} {rr : Nat} {tp : Nat} (hW : tm_W N T w) (h_rr : is_Ru T rr) (h_tp : is_Ta T tp) (ne_rr_tp : rr + 2 ≤ tp ∨ tp + 2 ≤ rr) (a : Int) (l_a : 0 ≤ a) (u_a : a ≤ 10) (hm : 10 - a < ((m : Int) + 1 : Int)) (hK : K < g_ln.length) (hG : a_R f K L tp rr w G) : ab_Mt g_G g_rs mt_Ru_readFact (2 * (10 - a).toNat + 12) 0 0 [ab_R rr, ab_R tp, ab_I a] w (tm_Qv N T (fun w2 => (∀ (p : Nat) (j : Int), ¬ (p = (rr + 1) ∨ (p = rr ∧ (j = 1 ∨ j = 2)) ∨ (p = tp ∧ (j = 2 ∨ j = 5 ∨ j = 6 ∨ j = 7 ∨ j = 8 ∨ j = 4))) → tm_g w2 p j = tm_g w p j) ∧ (a_R f K L tp rr w2 (a_fact f K L (10 - a).toNat G)))) := by
  obtain ⟨rrt0, rrt1⟩ := id h_rr
  obtain ⟨tpt0, tpt1⟩ := id h_tp
  have hF0 : ∀ (p : Nat) (j : Int), ¬ (p = (rr + 1) ∨ (p = rr ∧ (j = 1 ∨ j = 2)) ∨ (p = tp ∧ (j = 2 ∨ j = 5 ∨ j = 6 ∨ j = 7 ∨ j = 8 ∨ j = 4))) → tm_g w p j = tm_g w p j := fun _ _ _ => rfl
  refine ab_Mt.of rfl (Nat.le_of_ble_eq_true rfl) ?_
  show ab_Ev g_G g_rs mt_Ru_readFact _ _ _ 0 [some (ab_R rr), some (ab_R tp), some (ab_I a), none, none] [] _ _
  refine ev_aload_n dt_Ru_readFact_0 rfl rfl ?_
  refine tm_getK (K := 6) dt_Ru_readFact_1 hW tpt0 fl_Ru_53 rfl (a_R_sg hG) ?_
  have gb1 := tm_kb (k := 6) (K := 6) hW tpt0 rfl rfl (a_R_sg hG)
  refine ev_bipush dt_Ru_readFact_4 rfl ?_
  refine ev_icmp_ne (tgt := 13) dt_Ru_readFact_6 (by decide) (by omega) (by omega) (fun h2 => ?_) (fun h2 => ?_)
  · skip
    refine ev_iconst dt_Ru_readFact_13 ?_
    refine ev_istore_n (l' := [_, _, _, _, _]) dt_Ru_readFact_14 rfl (Nat.le_of_ble_eq_true rfl) rfl ?_
    refine ev_iload_n dt_Ru_readFact_15 rfl rfl ?_
    refine ev_if_ne (tgt := 75) dt_Ru_readFact_16 (by decide) (by omega) (fun h3 => ?_) (fun h3 => ?_)
    · skip
      exfalso
      omega
    · skip
      refine ev_aload_n dt_Ru_readFact_19 rfl rfl ?_
      refine tm_getK (K := 8) dt_Ru_readFact_20 hW tpt0 fl_Ru_30 rfl (a_R_wd hG) ?_
      have gb4 := tm_kb (k := 8) (K := 8) hW tpt0 rfl rfl (a_R_wd hG)
      have gb5 := a_wd_b f L G hK
      refine ev_bipush dt_Ru_readFact_23 rfl ?_
      refine ev_icmp_eq (tgt := 75) dt_Ru_readFact_25 (by decide) (by omega) (by omega) (fun h6 => ?_) (fun h6 => ?_)
      · skip
        refine ev_iload_n dt_Ru_readFact_75 rfl rfl ?_
        refine ev_bipush dt_Ru_readFact_76 rfl ?_
        refine ev_icmp_lt (tgt := 89) dt_Ru_readFact_78 (by decide) (by omega) (by omega) (fun h7 => ?_) (fun h7 => ?_)
        · skip
          refine ev_iload_n dt_Ru_readFact_89 rfl rfl ?_
          refine ev_if_eq (tgt := 129) dt_Ru_readFact_90 (by decide) (by omega) (fun h8 => ?_) (fun h8 => ?_)
          · skip
            refine ev_aload_n dt_Ru_readFact_129 rfl rfl ?_
            refine tm_vv dt_Ru_readFact_130 (gx_Ta_advance hW h_tp hK (by omega) hG) kb_Ru_37 ⟨im_Ta_advance, se_Ta_advance⟩ rfl hW tpt0 rfl (Nat.le_of_ble_eq_true rfl) (by omega) (fun w9 hWw9 hRw9 => ?_)
            obtain ⟨hfw9, hpw9⟩ := hRw9
            have hFw9 : ∀ (p : Nat) (j : Int), ¬ (p = (rr + 1) ∨ (p = rr ∧ (j = 1 ∨ j = 2)) ∨ (p = tp ∧ (j = 2 ∨ j = 5 ∨ j = 6 ∨ j = 7 ∨ j = 8 ∨ j = 4))) → tm_g w9 p j = tm_g w p j := fun p j h => (hfw9 p j (by omega)).trans (hF0 p j h)
            refine ev_aload_n dt_Ru_readFact_133 rfl rfl ?_
            refine ev_aload_n dt_Ru_readFact_134 rfl rfl ?_
            refine ev_iload_n dt_Ru_readFact_135 rfl rfl ?_
            refine ev_iconst dt_Ru_readFact_136 ?_
            refine ev_iadd dt_Ru_readFact_137 ?_
            refine tm_vv dt_Ru_readFact_138 (ihF _ _ _ _ _ _ _ _ _ hWw9 h_rr h_tp (by omega) ((a + 1)) (by omega) (by omega) hK hpw9 (by omega)) kb_Ru_65 ⟨im_Ru_readFact, se_Ru_readFact⟩ rfl hWw9 rrt0 rfl (Nat.le_of_ble_eq_true rfl) (by omega) (fun w10 hWw10 hRw10 => ?_)
            obtain ⟨hfw10, hpw10⟩ := hRw10
            have hFw10 : ∀ (p : Nat) (j : Int), ¬ (p = (rr + 1) ∨ (p = rr ∧ (j = 1 ∨ j = 2)) ∨ (p = tp ∧ (j = 2 ∨ j = 5 ∨ j = 6 ∨ j = 7 ∨ j = 8 ∨ j = 4))) → tm_g w10 p j = tm_g w p j := fun p j h => (hfw10 p j (by omega)).trans (hFw9 p j h)
            refine ev_aload_n dt_Ru_readFact_141 rfl rfl ?_
            refine ev_bipush dt_Ru_readFact_142 rfl ?_
            refine tm_vv dt_Ru_readFact_144 (gx_Ru_emit hWw10 h_rr ((-33)) (by omega) (by omega) hK (by omega) hpw10) kb_Ru_50 ⟨im_Ru_emit, se_Ru_emit⟩ rfl hWw10 rrt0 rfl (Nat.le_of_ble_eq_true rfl) (by omega) (fun w11 hWw11 hRw11 => ?_)
            obtain ⟨hfw11, hpw11⟩ := hRw11
            have hFw11 : ∀ (p : Nat) (j : Int), ¬ (p = (rr + 1) ∨ (p = rr ∧ (j = 1 ∨ j = 2)) ∨ (p = tp ∧ (j = 2 ∨ j = 5 ∨ j = 6 ∨ j = 7 ∨ j = 8 ∨ j = 4))) → tm_g w11 p j = tm_g w p j := fun p j h => (hfw11 p j (by omega)).trans (hFw10 p j h)
            exact ev_return dt_Ru_readFact_147 rfl ⟨hWw11, rfl, ⟨hFw11, (a_R_eq hpw11 (by first | exact a_f1 (by omega) (by omega) | exact a_f2 (by omega) (by omega) | exact a_f3 (by omega) (by omega) | exact a_f4 (by omega) (by omega) (by omega)))⟩⟩
          · skip
            exfalso
            omega
        · skip
          refine ev_aload_n dt_Ru_readFact_81 rfl rfl ?_
          refine ev_iconst dt_Ru_readFact_82 ?_
          refine tm_vv dt_Ru_readFact_83 (gx_Ta_fail hW h_tp (2) (by omega) (by omega) hK (by omega) hG) kb_Ru_33 ⟨im_Ta_fail, se_Ta_fail⟩ rfl hW tpt0 rfl (Nat.le_of_ble_eq_true rfl) (by omega) (fun w12 hWw12 hRw12 => ?_)
          obtain ⟨hfw12, hpw12⟩ := hRw12
          have hFw12 : ∀ (p : Nat) (j : Int), ¬ (p = (rr + 1) ∨ (p = rr ∧ (j = 1 ∨ j = 2)) ∨ (p = tp ∧ (j = 2 ∨ j = 5 ∨ j = 6 ∨ j = 7 ∨ j = 8 ∨ j = 4))) → tm_g w12 p j = tm_g w p j := fun p j h => (hfw12 p j (by omega)).trans (hF0 p j h)
          refine ev_goto (tgt := 147) dt_Ru_readFact_86 (by decide) ?_
          exact ev_return dt_Ru_readFact_147 rfl ⟨hWw12, rfl, ⟨hFw12, (a_R_eq hpw12 (by first | exact a_f1 (by omega) (by omega) | exact a_f2 (by omega) (by omega) | exact a_f3 (by omega) (by omega) | exact a_f4 (by omega) (by omega) (by omega)))⟩⟩
      · skip
        refine ev_aload_n dt_Ru_readFact_28 rfl rfl ?_
        refine ev_aload_n dt_Ru_readFact_29 rfl rfl ?_
        refine tm_vv dt_Ru_readFact_30 (gx_Ru_readSum hW h_rr h_tp (by omega) hK hG) kb_Ru_40 ⟨im_Ru_readSum, se_Ru_readSum⟩ rfl hW rrt0 rfl (Nat.le_of_ble_eq_true rfl) (by omega) (fun w13 hWw13 hRw13 => ?_)
        obtain ⟨hfw13, hpw13⟩ := hRw13
        have hFw13 : ∀ (p : Nat) (j : Int), ¬ (p = (rr + 1) ∨ (p = rr ∧ (j = 1 ∨ j = 2)) ∨ (p = tp ∧ (j = 2 ∨ j = 5 ∨ j = 6 ∨ j = 7 ∨ j = 8 ∨ j = 4))) → tm_g w13 p j = tm_g w p j := fun p j h => (hfw13 p j (by omega)).trans (hF0 p j h)
        refine ev_aload_n dt_Ru_readFact_33 rfl rfl ?_
        refine tm_getK (K := 6) dt_Ru_readFact_34 hWw13 tpt0 fl_Ru_53 rfl (a_R_sg hpw13) ?_
        have gb14 := tm_kb (k := 6) (K := 6) hWw13 tpt0 rfl rfl (a_R_sg hpw13)
        refine tm_sp dt_Ru_readFact_37 (gx_Ru_comparisonOf hWw13 ((a_sg f L (a_sl f K L 61 0 0 G))) (by omega) (by omega)) kb_Ru_68 sc_Ru_comparisonOf rfl (Nat.le_of_ble_eq_true rfl) (by omega) (fun v15 hv15 => ?_)
        obtain ⟨hlv15, huv15, ev15⟩ := hv15
        subst ev15
        refine ev_istore (l' := [_, _, _, _, _]) dt_Ru_readFact_40 (Nat.le_of_ble_eq_true rfl) rfl ?_
        refine ev_iload dt_Ru_readFact_42 rfl ?_
        refine ev_if_ne (tgt := 52) dt_Ru_readFact_44 (by decide) (by omega) (fun h16 => ?_) (fun h16 => ?_)
        · skip
          have hx17 := a_R_eq hpw13 (show (a_sl f K L 61 0 0 G) = (a_cm1 f K L G) from (by unfold a_cm1; first | exact (if_pos (by omega)).symm | exact (if_neg (by omega)).symm))
          refine ev_aload_n dt_Ru_readFact_52 rfl rfl ?_
          refine ev_aload_n dt_Ru_readFact_53 rfl rfl ?_
          refine tm_vv dt_Ru_readFact_54 (gx_Ru_countToken hWw13 h_rr h_tp (by omega) hK hx17) kb_Ru_72 ⟨im_Ru_countToken, se_Ru_countToken⟩ rfl hWw13 rrt0 rfl (Nat.le_of_ble_eq_true rfl) (by omega) (fun w18 hWw18 hRw18 => ?_)
          obtain ⟨hfw18, hpw18⟩ := hRw18
          have hFw18 : ∀ (p : Nat) (j : Int), ¬ (p = (rr + 1) ∨ (p = rr ∧ (j = 1 ∨ j = 2)) ∨ (p = tp ∧ (j = 2 ∨ j = 5 ∨ j = 6 ∨ j = 7 ∨ j = 8 ∨ j = 4))) → tm_g w18 p j = tm_g w p j := fun p j h => (hfw18 p j (by omega)).trans (hFw13 p j h)
          refine ev_aload_n dt_Ru_readFact_57 rfl rfl ?_
          refine tm_vv dt_Ru_readFact_58 (gx_Ta_advance hWw18 h_tp hK (by omega) hpw18) kb_Ru_37 ⟨im_Ta_advance, se_Ta_advance⟩ rfl hWw18 tpt0 rfl (Nat.le_of_ble_eq_true rfl) (by omega) (fun w19 hWw19 hRw19 => ?_)
          obtain ⟨hfw19, hpw19⟩ := hRw19
          have hFw19 : ∀ (p : Nat) (j : Int), ¬ (p = (rr + 1) ∨ (p = rr ∧ (j = 1 ∨ j = 2)) ∨ (p = tp ∧ (j = 2 ∨ j = 5 ∨ j = 6 ∨ j = 7 ∨ j = 8 ∨ j = 4))) → tm_g w19 p j = tm_g w p j := fun p j h => (hfw19 p j (by omega)).trans (hFw18 p j h)
          refine ev_aload_n dt_Ru_readFact_61 rfl rfl ?_
          refine ev_aload_n dt_Ru_readFact_62 rfl rfl ?_
          refine tm_vv dt_Ru_readFact_63 (gx_Ru_readSum hWw19 h_rr h_tp (by omega) hK hpw19) kb_Ru_40 ⟨im_Ru_readSum, se_Ru_readSum⟩ rfl hWw19 rrt0 rfl (Nat.le_of_ble_eq_true rfl) (by omega) (fun w20 hWw20 hRw20 => ?_)
          obtain ⟨hfw20, hpw20⟩ := hRw20
          have hFw20 : ∀ (p : Nat) (j : Int), ¬ (p = (rr + 1) ∨ (p = rr ∧ (j = 1 ∨ j = 2)) ∨ (p = tp ∧ (j = 2 ∨ j = 5 ∨ j = 6 ∨ j = 7 ∨ j = 8 ∨ j = 4))) → tm_g w20 p j = tm_g w p j := fun p j h => (hfw20 p j (by omega)).trans (hFw19 p j h)
          refine ev_aload_n dt_Ru_readFact_66 rfl rfl ?_
          refine ev_iload dt_Ru_readFact_67 rfl ?_
          refine tm_vv dt_Ru_readFact_69 (gx_Ru_emit hWw20 h_rr ((a_cmo (a_sg f L (a_sl f K L 61 0 0 G)))) (by omega) (by omega) hK (by omega) hpw20) kb_Ru_50 ⟨im_Ru_emit, se_Ru_emit⟩ rfl hWw20 rrt0 rfl (Nat.le_of_ble_eq_true rfl) (by omega) (fun w21 hWw21 hRw21 => ?_)
          obtain ⟨hfw21, hpw21⟩ := hRw21
          have hFw21 : ∀ (p : Nat) (j : Int), ¬ (p = (rr + 1) ∨ (p = rr ∧ (j = 1 ∨ j = 2)) ∨ (p = tp ∧ (j = 2 ∨ j = 5 ∨ j = 6 ∨ j = 7 ∨ j = 8 ∨ j = 4))) → tm_g w21 p j = tm_g w p j := fun p j h => (hfw21 p j (by omega)).trans (hFw20 p j h)
          refine ev_goto (tgt := 147) dt_Ru_readFact_72 (by decide) ?_
          exact ev_return dt_Ru_readFact_147 rfl ⟨hWw21, rfl, ⟨hFw21, (a_R_eq hpw21 (by first | exact a_f1 (by omega) (by omega) | exact a_f2 (by omega) (by omega) | exact a_f3 (by omega) (by omega) | exact a_f4 (by omega) (by omega) (by omega)))⟩⟩
        · skip
          refine ev_aload_n dt_Ru_readFact_47 rfl rfl ?_
          refine ev_iconst dt_Ru_readFact_48 ?_
          refine tm_vv dt_Ru_readFact_49 (gx_Ta_fail hWw13 h_tp (0) (by omega) (by omega) hK (by omega) hpw13) kb_Ru_33 ⟨im_Ta_fail, se_Ta_fail⟩ rfl hWw13 tpt0 rfl (Nat.le_of_ble_eq_true rfl) (by omega) (fun w22 hWw22 hRw22 => ?_)
          obtain ⟨hfw22, hpw22⟩ := hRw22
          have hFw22 : ∀ (p : Nat) (j : Int), ¬ (p = (rr + 1) ∨ (p = rr ∧ (j = 1 ∨ j = 2)) ∨ (p = tp ∧ (j = 2 ∨ j = 5 ∨ j = 6 ∨ j = 7 ∨ j = 8 ∨ j = 4))) → tm_g w22 p j = tm_g w p j := fun p j h => (hfw22 p j (by omega)).trans (hFw13 p j h)
          have hx23 := a_R_eq hpw22 (show (a_fail 0 (a_sl f K L 61 0 0 G)) = (a_cm1 f K L G) from (by unfold a_cm1; first | exact (if_pos (by omega)).symm | exact (if_neg (by omega)).symm))
          refine ev_aload_n dt_Ru_readFact_52 rfl rfl ?_
          refine ev_aload_n dt_Ru_readFact_53 rfl rfl ?_
          refine tm_vv dt_Ru_readFact_54 (gx_Ru_countToken hWw22 h_rr h_tp (by omega) hK hx23) kb_Ru_72 ⟨im_Ru_countToken, se_Ru_countToken⟩ rfl hWw22 rrt0 rfl (Nat.le_of_ble_eq_true rfl) (by omega) (fun w24 hWw24 hRw24 => ?_)
          obtain ⟨hfw24, hpw24⟩ := hRw24
          have hFw24 : ∀ (p : Nat) (j : Int), ¬ (p = (rr + 1) ∨ (p = rr ∧ (j = 1 ∨ j = 2)) ∨ (p = tp ∧ (j = 2 ∨ j = 5 ∨ j = 6 ∨ j = 7 ∨ j = 8 ∨ j = 4))) → tm_g w24 p j = tm_g w p j := fun p j h => (hfw24 p j (by omega)).trans (hFw22 p j h)
          refine ev_aload_n dt_Ru_readFact_57 rfl rfl ?_
          refine tm_vv dt_Ru_readFact_58 (gx_Ta_advance hWw24 h_tp hK (by omega) hpw24) kb_Ru_37 ⟨im_Ta_advance, se_Ta_advance⟩ rfl hWw24 tpt0 rfl (Nat.le_of_ble_eq_true rfl) (by omega) (fun w25 hWw25 hRw25 => ?_)
          obtain ⟨hfw25, hpw25⟩ := hRw25
          have hFw25 : ∀ (p : Nat) (j : Int), ¬ (p = (rr + 1) ∨ (p = rr ∧ (j = 1 ∨ j = 2)) ∨ (p = tp ∧ (j = 2 ∨ j = 5 ∨ j = 6 ∨ j = 7 ∨ j = 8 ∨ j = 4))) → tm_g w25 p j = tm_g w p j := fun p j h => (hfw25 p j (by omega)).trans (hFw24 p j h)
          refine ev_aload_n dt_Ru_readFact_61 rfl rfl ?_
          refine ev_aload_n dt_Ru_readFact_62 rfl rfl ?_
          refine tm_vv dt_Ru_readFact_63 (gx_Ru_readSum hWw25 h_rr h_tp (by omega) hK hpw25) kb_Ru_40 ⟨im_Ru_readSum, se_Ru_readSum⟩ rfl hWw25 rrt0 rfl (Nat.le_of_ble_eq_true rfl) (by omega) (fun w26 hWw26 hRw26 => ?_)
          obtain ⟨hfw26, hpw26⟩ := hRw26
          have hFw26 : ∀ (p : Nat) (j : Int), ¬ (p = (rr + 1) ∨ (p = rr ∧ (j = 1 ∨ j = 2)) ∨ (p = tp ∧ (j = 2 ∨ j = 5 ∨ j = 6 ∨ j = 7 ∨ j = 8 ∨ j = 4))) → tm_g w26 p j = tm_g w p j := fun p j h => (hfw26 p j (by omega)).trans (hFw25 p j h)
          refine ev_aload_n dt_Ru_readFact_66 rfl rfl ?_
          refine ev_iload dt_Ru_readFact_67 rfl ?_
          refine tm_vv dt_Ru_readFact_69 (gx_Ru_emit hWw26 h_rr ((a_cmo (a_sg f L (a_sl f K L 61 0 0 G)))) (by omega) (by omega) hK (by omega) hpw26) kb_Ru_50 ⟨im_Ru_emit, se_Ru_emit⟩ rfl hWw26 rrt0 rfl (Nat.le_of_ble_eq_true rfl) (by omega) (fun w27 hWw27 hRw27 => ?_)
          obtain ⟨hfw27, hpw27⟩ := hRw27
          have hFw27 : ∀ (p : Nat) (j : Int), ¬ (p = (rr + 1) ∨ (p = rr ∧ (j = 1 ∨ j = 2)) ∨ (p = tp ∧ (j = 2 ∨ j = 5 ∨ j = 6 ∨ j = 7 ∨ j = 8 ∨ j = 4))) → tm_g w27 p j = tm_g w p j := fun p j h => (hfw27 p j (by omega)).trans (hFw26 p j h)
          refine ev_goto (tgt := 147) dt_Ru_readFact_72 (by decide) ?_
          exact ev_return dt_Ru_readFact_147 rfl ⟨hWw27, rfl, ⟨hFw27, (a_R_eq hpw27 (by first | exact a_f1 (by omega) (by omega) | exact a_f2 (by omega) (by omega) | exact a_f3 (by omega) (by omega) | exact a_f4 (by omega) (by omega) (by omega)))⟩⟩
  · skip
    refine ev_iconst dt_Ru_readFact_9 ?_
    refine ev_goto (tgt := 14) dt_Ru_readFact_10 (by decide) ?_
    refine ev_istore_n (l' := [_, _, _, _, _]) dt_Ru_readFact_14 rfl (Nat.le_of_ble_eq_true rfl) rfl ?_
    refine ev_iload_n dt_Ru_readFact_15 rfl rfl ?_
    refine ev_if_ne (tgt := 75) dt_Ru_readFact_16 (by decide) (by omega) (fun h28 => ?_) (fun h28 => ?_)
    · skip
      refine ev_iload_n dt_Ru_readFact_75 rfl rfl ?_
      refine ev_bipush dt_Ru_readFact_76 rfl ?_
      refine ev_icmp_lt (tgt := 89) dt_Ru_readFact_78 (by decide) (by omega) (by omega) (fun h29 => ?_) (fun h29 => ?_)
      · skip
        refine ev_iload_n dt_Ru_readFact_89 rfl rfl ?_
        refine ev_if_eq (tgt := 129) dt_Ru_readFact_90 (by decide) (by omega) (fun h30 => ?_) (fun h30 => ?_)
        · skip
          exfalso
          omega
        · skip
          refine ev_aload_n dt_Ru_readFact_93 rfl rfl ?_
          refine tm_vv dt_Ru_readFact_94 (gx_Ta_advance hW h_tp hK (by omega) hG) kb_Ru_37 ⟨im_Ta_advance, se_Ta_advance⟩ rfl hW tpt0 rfl (Nat.le_of_ble_eq_true rfl) (by omega) (fun w31 hWw31 hRw31 => ?_)
          obtain ⟨hfw31, hpw31⟩ := hRw31
          have hFw31 : ∀ (p : Nat) (j : Int), ¬ (p = (rr + 1) ∨ (p = rr ∧ (j = 1 ∨ j = 2)) ∨ (p = tp ∧ (j = 2 ∨ j = 5 ∨ j = 6 ∨ j = 7 ∨ j = 8 ∨ j = 4))) → tm_g w31 p j = tm_g w p j := fun p j h => (hfw31 p j (by omega)).trans (hF0 p j h)
          refine ev_aload_n dt_Ru_readFact_97 rfl rfl ?_
          refine ev_aload_n dt_Ru_readFact_98 rfl rfl ?_
          refine ev_iload_n dt_Ru_readFact_99 rfl rfl ?_
          refine ev_iconst dt_Ru_readFact_100 ?_
          refine ev_iadd dt_Ru_readFact_101 ?_
          refine tm_vv dt_Ru_readFact_102 (ihT _ _ _ _ _ _ _ _ _ hWw31 h_rr h_tp (by omega) ((a + 1)) (by omega) (by omega) hK hpw31 (by omega)) kb_Ru_46 ⟨im_Ru_readTest, se_Ru_readTest⟩ rfl hWw31 rrt0 rfl (Nat.le_of_ble_eq_true rfl) (by omega) (fun w32 hWw32 hRw32 => ?_)
          obtain ⟨hfw32, hpw32⟩ := hRw32
          have hFw32 : ∀ (p : Nat) (j : Int), ¬ (p = (rr + 1) ∨ (p = rr ∧ (j = 1 ∨ j = 2)) ∨ (p = tp ∧ (j = 2 ∨ j = 5 ∨ j = 6 ∨ j = 7 ∨ j = 8 ∨ j = 4))) → tm_g w32 p j = tm_g w p j := fun p j h => (hfw32 p j (by omega)).trans (hFw31 p j h)
          refine ev_aload_n dt_Ru_readFact_105 rfl rfl ?_
          refine tm_getK (K := 6) dt_Ru_readFact_106 hWw32 tpt0 fl_Ru_53 rfl (a_R_sg hpw32) ?_
          have gb33 := tm_kb (k := 6) (K := 6) hWw32 tpt0 rfl rfl (a_R_sg hpw32)
          refine ev_bipush dt_Ru_readFact_109 rfl ?_
          refine ev_icmp_ne (tgt := 121) dt_Ru_readFact_111 (by decide) (by omega) (by omega) (fun h34 => ?_) (fun h34 => ?_)
          · skip
            refine ev_aload_n dt_Ru_readFact_121 rfl rfl ?_
            refine ev_iconst dt_Ru_readFact_122 ?_
            refine tm_vv dt_Ru_readFact_123 (gx_Ta_fail hWw32 h_tp (0) (by omega) (by omega) hK (by omega) hpw32) kb_Ru_33 ⟨im_Ta_fail, se_Ta_fail⟩ rfl hWw32 tpt0 rfl (Nat.le_of_ble_eq_true rfl) (by omega) (fun w35 hWw35 hRw35 => ?_)
            obtain ⟨hfw35, hpw35⟩ := hRw35
            have hFw35 : ∀ (p : Nat) (j : Int), ¬ (p = (rr + 1) ∨ (p = rr ∧ (j = 1 ∨ j = 2)) ∨ (p = tp ∧ (j = 2 ∨ j = 5 ∨ j = 6 ∨ j = 7 ∨ j = 8 ∨ j = 4))) → tm_g w35 p j = tm_g w p j := fun p j h => (hfw35 p j (by omega)).trans (hFw32 p j h)
            have hx36 := a_R_eq hpw35 (show (a_fail 0 (a_tst f K L (a_fact f K L ((10 : Int) - ((a + 1))).toNat) 61 0 0 (a_adv f L G))) = (a_br f L (a_tst f K L (a_fact f K L ((10 : Int) - ((a + 1))).toNat) 61 0 0 (a_adv f L G))) from (by unfold a_br; first | exact (if_pos (by omega)).symm | exact (if_neg (by omega)).symm))
            refine ev_goto (tgt := 147) dt_Ru_readFact_126 (by decide) ?_
            exact ev_return dt_Ru_readFact_147 rfl ⟨hWw35, rfl, ⟨hFw35, (a_R_eq hx36 (by first | exact a_f1 (by omega) (by omega) | exact a_f2 (by omega) (by omega) | exact a_f3 (by omega) (by omega) | exact a_f4 (by omega) (by omega) (by omega)))⟩⟩
          · skip
            refine ev_aload_n dt_Ru_readFact_114 rfl rfl ?_
            refine tm_vv dt_Ru_readFact_115 (gx_Ta_advance hWw32 h_tp hK (by omega) hpw32) kb_Ru_37 ⟨im_Ta_advance, se_Ta_advance⟩ rfl hWw32 tpt0 rfl (Nat.le_of_ble_eq_true rfl) (by omega) (fun w37 hWw37 hRw37 => ?_)
            obtain ⟨hfw37, hpw37⟩ := hRw37
            have hFw37 : ∀ (p : Nat) (j : Int), ¬ (p = (rr + 1) ∨ (p = rr ∧ (j = 1 ∨ j = 2)) ∨ (p = tp ∧ (j = 2 ∨ j = 5 ∨ j = 6 ∨ j = 7 ∨ j = 8 ∨ j = 4))) → tm_g w37 p j = tm_g w p j := fun p j h => (hfw37 p j (by omega)).trans (hFw32 p j h)
            have hx38 := a_R_eq hpw37 (show (a_adv f L (a_tst f K L (a_fact f K L ((10 : Int) - ((a + 1))).toNat) 61 0 0 (a_adv f L G))) = (a_br f L (a_tst f K L (a_fact f K L ((10 : Int) - ((a + 1))).toNat) 61 0 0 (a_adv f L G))) from (by unfold a_br; first | exact (if_pos (by omega)).symm | exact (if_neg (by omega)).symm))
            refine ev_goto (tgt := 147) dt_Ru_readFact_118 (by decide) ?_
            exact ev_return dt_Ru_readFact_147 rfl ⟨hWw37, rfl, ⟨hFw37, (a_R_eq hx38 (by first | exact a_f1 (by omega) (by omega) | exact a_f2 (by omega) (by omega) | exact a_f3 (by omega) (by omega) | exact a_f4 (by omega) (by omega) (by omega)))⟩⟩
      · skip
        refine ev_aload_n dt_Ru_readFact_81 rfl rfl ?_
        refine ev_iconst dt_Ru_readFact_82 ?_
        refine tm_vv dt_Ru_readFact_83 (gx_Ta_fail hW h_tp (2) (by omega) (by omega) hK (by omega) hG) kb_Ru_33 ⟨im_Ta_fail, se_Ta_fail⟩ rfl hW tpt0 rfl (Nat.le_of_ble_eq_true rfl) (by omega) (fun w39 hWw39 hRw39 => ?_)
        obtain ⟨hfw39, hpw39⟩ := hRw39
        have hFw39 : ∀ (p : Nat) (j : Int), ¬ (p = (rr + 1) ∨ (p = rr ∧ (j = 1 ∨ j = 2)) ∨ (p = tp ∧ (j = 2 ∨ j = 5 ∨ j = 6 ∨ j = 7 ∨ j = 8 ∨ j = 4))) → tm_g w39 p j = tm_g w p j := fun p j h => (hfw39 p j (by omega)).trans (hF0 p j h)
        refine ev_goto (tgt := 147) dt_Ru_readFact_86 (by decide) ?_
        exact ev_return dt_Ru_readFact_147 rfl ⟨hWw39, rfl, ⟨hFw39, (a_R_eq hpw39 (by first | exact a_f1 (by omega) (by omega) | exact a_f2 (by omega) (by omega) | exact a_f3 (by omega) (by omega) | exact a_f4 (by omega) (by omega) (by omega)))⟩⟩
    · skip
      exfalso
      omega
set_option maxHeartbeats 4000000 in
set_option maxRecDepth 10000 in
theorem gx_RuT {m : Nat} (ihF : gu_Fact m) {N : Nat} {T : Nat → tm_S} {w : ab_W} {f : Int → Int} {K : Nat} {L : Int} {G : a_S} {rr : Nat} {tp : Nat} (hW : tm_W N T w) (h_rr : is_Ru T rr) (h_tp : is_Ta T tp) (ne_rr_tp : rr + 2 ≤ tp ∨ tp + 2 ≤ rr) (a : Int) (l_a : 0 ≤ a) (u_a : a ≤ 10) (hm : 10 - a < (m : Int)) (hK : K < g_ln.length) (hG : a_R f K L tp rr w G) : ab_Mt g_G g_rs mt_Ru_readTest (2 * (10 - a).toNat + 13) 0 0 [ab_R rr, ab_R tp, ab_I a] w (tm_Qv N T (fun w2 => (∀ (p : Nat) (j : Int), ¬ (p = (rr + 1) ∨ (p = rr ∧ (j = 1 ∨ j = 2)) ∨ (p = tp ∧ (j = 2 ∨ j = 5 ∨ j = 6 ∨ j = 7 ∨ j = 8 ∨ j = 4))) → tm_g w2 p j = tm_g w p j) ∧ (a_R f K L tp rr w2 (a_tst f K L (a_fact f K L (10 - a).toNat) 61 0 0 G)))) := by
  obtain ⟨rrt0, rrt1⟩ := id h_rr
  obtain ⟨tpt0, tpt1⟩ := id h_tp
  have hF0 : ∀ (p : Nat) (j : Int), ¬ (p = (rr + 1) ∨ (p = rr ∧ (j = 1 ∨ j = 2)) ∨ (p = tp ∧ (j = 2 ∨ j = 5 ∨ j = 6 ∨ j = 7 ∨ j = 8 ∨ j = 4))) → tm_g w p j = tm_g w p j := fun _ _ _ => rfl
  refine ab_Mt.of rfl (Nat.le_of_ble_eq_true rfl) ?_
  show ab_Ev g_G g_rs mt_Ru_readTest _ _ _ 0 [some (ab_R rr), some (ab_R tp), some (ab_I a), none, none, none, none] [] _ _
  refine ev_iconst dt_Ru_readTest_0 ?_
  refine ev_istore_n (l' := [_, _, _, _, _, _, _]) dt_Ru_readTest_1 rfl (Nat.le_of_ble_eq_true rfl) rfl ?_
  refine ev_iconst dt_Ru_readTest_2 ?_
  refine ev_istore (l' := [_, _, _, _, _, _, _]) dt_Ru_readTest_3 (Nat.le_of_ble_eq_true rfl) rfl ?_
  refine ev_iconst dt_Ru_readTest_5 ?_
  refine ev_istore (l' := [_, _, _, _, _, _, _]) dt_Ru_readTest_6 (Nat.le_of_ble_eq_true rfl) rfl ?_
  refine ev_iconst dt_Ru_readTest_8 ?_
  refine ev_istore (l' := [_, _, _, _, _, _, _]) dt_Ru_readTest_9 (Nat.le_of_ble_eq_true rfl) rfl ?_
  have L40 : ∀ (n : Nat) (i41 : Int) (i42 : Int) (i43 : Int) (i44 : Int)  (w45 : ab_W), tm_W N T w45 → (∀ (p : Nat) (j : Int), ¬ (p = (rr + 1) ∨ (p = rr ∧ (j = 1 ∨ j = 2)) ∨ (p = tp ∧ (j = 2 ∨ j = 5 ∨ j = 6 ∨ j = 7 ∨ j = 8 ∨ j = 4))) → tm_g w45 p j = tm_g w p j) → ∀ G46 : a_S, a_R f K L tp rr w45 G46 → 0 ≤ i41 → i41 ≤ 1 → 0 ≤ i42 → i42 ≤ 1 → 0 ≤ i43 → i43 ≤ 1 → 0 ≤ i44 → i44 ≤ 61 → ((if i43 = 1 then a_tst f K L (a_fact f K L (10 - a).toNat) (61 - i44).toNat i41 i42 G46 else G46) = a_tst f K L (a_fact f K L (10 - a).toNat) 61 0 0 G) → 61 - i44 < (n : Int) → ab_Ev g_G g_rs mt_Ru_readTest (2 * (10 - a).toNat + 13) 0 0 11 [some (ab_R rr), some (ab_R tp), some (ab_I a), some (ab_I i41), some (ab_I i42), some (ab_I i43), some (ab_I i44)] [] w45 (tm_Qv N T (fun w2 => (∀ (p : Nat) (j : Int), ¬ (p = (rr + 1) ∨ (p = rr ∧ (j = 1 ∨ j = 2)) ∨ (p = tp ∧ (j = 2 ∨ j = 5 ∨ j = 6 ∨ j = 7 ∨ j = 8 ∨ j = 4))) → tm_g w2 p j = tm_g w p j) ∧ (a_R f K L tp rr w2 (a_tst f K L (a_fact f K L (10 - a).toNat) 61 0 0 G)))) := by
    intro n
    induction n with
    | zero =>
      intro i41 i42 i43 i44  w45 hWw45 hFw45 G46 hG46 li41 ui41 li42 ui42 li43 ui43 li44 ui44 q0L40 mL40
      exfalso
      omega
    | succ nL40 ihL40 =>
      intro i41 i42 i43 i44  w45 hWw45 hFw45 G46 hG46 li41 ui41 li42 ui42 li43 ui43 li44 ui44 q0L40 mL40
      refine ev_iload dt_Ru_readTest_11 rfl ?_
      refine ev_if_eq (tgt := 134) dt_Ru_readTest_13 (by decide) (by omega) (fun h47 => ?_) (fun h47 => ?_)
      · skip
        exact ev_return dt_Ru_readTest_134 rfl ⟨hWw45, rfl, ⟨hFw45, (a_R_eq hG46 (by rw [← q0L40]; first | rw [if_neg (by omega)] | (rw [if_pos (by omega), show (61 - i44).toNat = 0 by omega]; rfl)))⟩⟩
      · skip
        refine ev_iload dt_Ru_readTest_16 rfl ?_
        refine ev_bipush dt_Ru_readTest_18 rfl ?_
        refine ev_icmp_gt (tgt := 134) dt_Ru_readTest_20 (by decide) (by omega) (by omega) (fun h48 => ?_) (fun h48 => ?_)
        · skip
          exact ev_return dt_Ru_readTest_134 rfl ⟨hWw45, rfl, ⟨hFw45, (a_R_eq hG46 (by rw [← q0L40]; first | rw [if_neg (by omega)] | (rw [if_pos (by omega), show (61 - i44).toNat = 0 by omega]; rfl)))⟩⟩
        · skip
          refine ev_aload_n dt_Ru_readTest_23 rfl rfl ?_
          refine ev_aload_n dt_Ru_readTest_24 rfl rfl ?_
          refine ev_iload_n dt_Ru_readTest_25 rfl rfl ?_
          refine tm_vv dt_Ru_readTest_26 (ihF _ _ _ _ _ _ _ _ _ hWw45 h_rr h_tp (by omega) (a) (by omega) (by omega) hK hG46 (by omega)) kb_Ru_65 ⟨im_Ru_readFact, se_Ru_readFact⟩ rfl hWw45 rrt0 rfl (Nat.le_of_ble_eq_true rfl) (by omega) (fun w49 hWw49 hRw49 => ?_)
          obtain ⟨hfw49, hpw49⟩ := hRw49
          have hFw49 : ∀ (p : Nat) (j : Int), ¬ (p = (rr + 1) ∨ (p = rr ∧ (j = 1 ∨ j = 2)) ∨ (p = tp ∧ (j = 2 ∨ j = 5 ∨ j = 6 ∨ j = 7 ∨ j = 8 ∨ j = 4))) → tm_g w49 p j = tm_g w p j := fun p j h => (hfw49 p j (by omega)).trans (hFw45 p j h)
          refine ev_iload_n dt_Ru_readTest_29 rfl rfl ?_
          refine ev_if_eq (tgt := 39) dt_Ru_readTest_30 (by decide) (by omega) (fun h50 => ?_) (fun h50 => ?_)
          · skip
            have hx51 := a_R_eq hpw49 (show (a_fact f K L (10 - (a)).toNat G46) = (a_oa i41 (-31) (a_fact f K L (10 - a).toNat G46)) from (by unfold a_oa; first | exact (if_pos (by omega)).symm | exact (if_neg (by omega)).symm))
            refine ev_aload_n dt_Ru_readTest_39 rfl rfl ?_
            have gk52 : tm_g w49 tp 8 = some (ab_I (a_wd f K L (a_fact f K L (10 - (a)).toNat G46))) := by rw [a_R_wd hx51]; simp only [a_em_sg, a_em_nb, a_em_wd, a_oe_sg, a_oe_nb, a_oe_wd, a_oa_sg, a_oa_wd, a_t2_sg, a_t2_wd]
            refine tm_getK (K := 8) dt_Ru_readTest_40 hWw49 tpt0 fl_Ru_30 rfl gk52 ?_
            have gb53 := tm_kb (k := 8) (K := 8) hWw49 tpt0 rfl rfl gk52
            have gb54 := a_wd_b f L (a_fact f K L (10 - (a)).toNat G46) hK
            refine ev_bipush dt_Ru_readTest_43 rfl ?_
            refine ev_icmp_ne (tgt := 52) dt_Ru_readTest_45 (by decide) (by omega) (by omega) (fun h55 => ?_) (fun h55 => ?_)
            · skip
              refine ev_iconst dt_Ru_readTest_52 ?_
              refine ev_istore_n (l' := [_, _, _, _, _, _, _]) dt_Ru_readTest_53 rfl (Nat.le_of_ble_eq_true rfl) rfl ?_
              refine ev_iload dt_Ru_readTest_54 rfl ?_
              refine ev_if_eq (tgt := 69) dt_Ru_readTest_56 (by decide) (by omega) (fun h56 => ?_) (fun h56 => ?_)
              · skip
                have hx57 := a_R_eq hx51 (show (a_oa i41 (-31) (a_fact f K L (10 - a).toNat G46)) = (a_t2 f K L i42 (a_oa i41 (-31) (a_fact f K L (10 - a).toNat G46))) from (by unfold a_t2; (repeat' split) <;> first | rfl | (exfalso; simp only [a_oa_wd] at *; omega)))
                refine ev_iload dt_Ru_readTest_69 rfl ?_
                refine ev_if_eq (tgt := 78) dt_Ru_readTest_71 (by decide) (by omega) (fun h58 => ?_) (fun h58 => ?_)
                · skip
                  refine ev_aload_n dt_Ru_readTest_78 rfl rfl ?_
                  have gk59 : tm_g w49 tp 8 = some (ab_I (a_wd f K L (a_fact f K L (10 - (a)).toNat G46))) := by rw [a_R_wd hx57]; simp only [a_em_sg, a_em_nb, a_em_wd, a_oe_sg, a_oe_nb, a_oe_wd, a_oa_sg, a_oa_wd, a_t2_sg, a_t2_wd]
                  refine tm_getK (K := 8) dt_Ru_readTest_79 hWw49 tpt0 fl_Ru_30 rfl gk59 ?_
                  have gb60 := tm_kb (k := 8) (K := 8) hWw49 tpt0 rfl rfl gk59
                  have gb61 := a_wd_b f L (a_fact f K L (10 - (a)).toNat G46) hK
                  refine ev_bipush dt_Ru_readTest_82 rfl ?_
                  refine ev_icmp_ne (tgt := 91) dt_Ru_readTest_84 (by decide) (by omega) (by omega) (fun h62 => ?_) (fun h62 => ?_)
                  · skip
                    refine ev_iconst dt_Ru_readTest_91 ?_
                    refine ev_istore (l' := [_, _, _, _, _, _, _]) dt_Ru_readTest_92 (Nat.le_of_ble_eq_true rfl) rfl ?_
                    refine ev_aload_n dt_Ru_readTest_94 rfl rfl ?_
                    have gk63 : tm_g w49 tp 8 = some (ab_I (a_wd f K L (a_fact f K L (10 - (a)).toNat G46))) := by rw [a_R_wd hx57]; simp only [a_em_sg, a_em_nb, a_em_wd, a_oe_sg, a_oe_nb, a_oe_wd, a_oa_sg, a_oa_wd, a_t2_sg, a_t2_wd]
                    refine tm_getK (K := 8) dt_Ru_readTest_95 hWw49 tpt0 fl_Ru_30 rfl gk63 ?_
                    have gb64 := tm_kb (k := 8) (K := 8) hWw49 tpt0 rfl rfl gk63
                    have gb65 := a_wd_b f L (a_fact f K L (10 - (a)).toNat G46) hK
                    refine ev_bipush dt_Ru_readTest_98 rfl ?_
                    refine ev_icmp_eq (tgt := 112) dt_Ru_readTest_100 (by decide) (by omega) (by omega) (fun h66 => ?_) (fun h66 => ?_)
                    · skip
                      refine ev_iconst dt_Ru_readTest_112 ?_
                      refine ev_goto (tgt := 117) dt_Ru_readTest_113 (by decide) ?_
                      refine ev_istore (l' := [_, _, _, _, _, _, _]) dt_Ru_readTest_117 (Nat.le_of_ble_eq_true rfl) rfl ?_
                      refine ev_iload dt_Ru_readTest_119 rfl ?_
                      refine ev_if_eq (tgt := 128) dt_Ru_readTest_121 (by decide) (by omega) (fun h67 => ?_) (fun h67 => ?_)
                      · skip
                        exfalso
                        omega
                      · skip
                        refine ev_aload_n dt_Ru_readTest_124 rfl rfl ?_
                        refine tm_vv dt_Ru_readTest_125 (gx_Ta_advance hWw49 h_tp hK (by omega) hx57) kb_Ru_37 ⟨im_Ta_advance, se_Ta_advance⟩ rfl hWw49 tpt0 rfl (Nat.le_of_ble_eq_true rfl) (by omega) (fun w68 hWw68 hRw68 => ?_)
                        obtain ⟨hfw68, hpw68⟩ := hRw68
                        have hFw68 : ∀ (p : Nat) (j : Int), ¬ (p = (rr + 1) ∨ (p = rr ∧ (j = 1 ∨ j = 2)) ∨ (p = tp ∧ (j = 2 ∨ j = 5 ∨ j = 6 ∨ j = 7 ∨ j = 8 ∨ j = 4))) → tm_g w68 p j = tm_g w p j := fun p j h => (hfw68 p j (by omega)).trans (hFw49 p j h)
                        refine ev_iinc (l' := [_, _, _, _, _, _, _]) dt_Ru_readTest_128 rfl rfl ?_
                        refine ev_goto (tgt := 11) dt_Ru_readTest_131 (by decide) ?_
                        exact tm_loc (tm_le_s (tm_le_s (tm_le_s (tm_le_s (tm_le_s (tm_le_s (tm_le_s tm_le_0))))))) (ihL40 (0) (0) (1) ((i44 + 1)) w68 hWw68 hFw68 ((a_adv f L (a_t2 f K L i42 (a_oa i41 (-31) (a_fact f K L (10 - a).toNat G46))))) hpw68 (by omega) (by omega) (by omega) (by omega) (by omega) (by omega) (by omega) (by omega) (by first | exact (if_pos (by omega)).trans ((a_tsA (by omega) (by omega) (by omega) (by omega)).symm.trans ((if_pos (by omega)).symm.trans q0L40)) | exact (if_pos (by omega)).trans ((a_tsB (by omega) (by omega) (by omega)).symm.trans ((if_pos (by omega)).symm.trans q0L40)) | exact (if_neg (by omega)).trans ((a_tsC (by omega) (by omega) (by omega) (by omega)).symm.trans ((if_pos (by omega)).symm.trans q0L40)) | (exfalso; omega)) (by omega))
                    · skip
                      refine ev_aload_n dt_Ru_readTest_103 rfl rfl ?_
                      have gk69 : tm_g w49 tp 8 = some (ab_I (a_wd f K L (a_fact f K L (10 - (a)).toNat G46))) := by rw [a_R_wd hx57]; simp only [a_em_sg, a_em_nb, a_em_wd, a_oe_sg, a_oe_nb, a_oe_wd, a_oa_sg, a_oa_wd, a_t2_sg, a_t2_wd]
                      refine tm_getK (K := 8) dt_Ru_readTest_104 hWw49 tpt0 fl_Ru_30 rfl gk69 ?_
                      have gb70 := tm_kb (k := 8) (K := 8) hWw49 tpt0 rfl rfl gk69
                      have gb71 := a_wd_b f L (a_fact f K L (10 - (a)).toNat G46) hK
                      refine ev_bipush dt_Ru_readTest_107 rfl ?_
                      refine ev_icmp_ne (tgt := 116) dt_Ru_readTest_109 (by decide) (by omega) (by omega) (fun h72 => ?_) (fun h72 => ?_)
                      · skip
                        refine ev_iconst dt_Ru_readTest_116 ?_
                        refine ev_istore (l' := [_, _, _, _, _, _, _]) dt_Ru_readTest_117 (Nat.le_of_ble_eq_true rfl) rfl ?_
                        refine ev_iload dt_Ru_readTest_119 rfl ?_
                        refine ev_if_eq (tgt := 128) dt_Ru_readTest_121 (by decide) (by omega) (fun h73 => ?_) (fun h73 => ?_)
                        · skip
                          refine ev_iinc (l' := [_, _, _, _, _, _, _]) dt_Ru_readTest_128 rfl rfl ?_
                          refine ev_goto (tgt := 11) dt_Ru_readTest_131 (by decide) ?_
                          exact tm_loc (tm_le_s (tm_le_s (tm_le_s (tm_le_s (tm_le_s (tm_le_s (tm_le_s tm_le_0))))))) (ihL40 (0) (0) (0) ((i44 + 1)) w49 hWw49 hFw49 ((a_t2 f K L i42 (a_oa i41 (-31) (a_fact f K L (10 - a).toNat G46)))) hx57 (by omega) (by omega) (by omega) (by omega) (by omega) (by omega) (by omega) (by omega) (by first | exact (if_pos (by omega)).trans ((a_tsA (by omega) (by omega) (by omega) (by omega)).symm.trans ((if_pos (by omega)).symm.trans q0L40)) | exact (if_pos (by omega)).trans ((a_tsB (by omega) (by omega) (by omega)).symm.trans ((if_pos (by omega)).symm.trans q0L40)) | exact (if_neg (by omega)).trans ((a_tsC (by omega) (by omega) (by omega) (by omega)).symm.trans ((if_pos (by omega)).symm.trans q0L40)) | (exfalso; omega)) (by omega))
                        · skip
                          exfalso
                          omega
                      · skip
                        refine ev_iconst dt_Ru_readTest_112 ?_
                        refine ev_goto (tgt := 117) dt_Ru_readTest_113 (by decide) ?_
                        refine ev_istore (l' := [_, _, _, _, _, _, _]) dt_Ru_readTest_117 (Nat.le_of_ble_eq_true rfl) rfl ?_
                        refine ev_iload dt_Ru_readTest_119 rfl ?_
                        refine ev_if_eq (tgt := 128) dt_Ru_readTest_121 (by decide) (by omega) (fun h74 => ?_) (fun h74 => ?_)
                        · skip
                          exfalso
                          omega
                        · skip
                          refine ev_aload_n dt_Ru_readTest_124 rfl rfl ?_
                          refine tm_vv dt_Ru_readTest_125 (gx_Ta_advance hWw49 h_tp hK (by omega) hx57) kb_Ru_37 ⟨im_Ta_advance, se_Ta_advance⟩ rfl hWw49 tpt0 rfl (Nat.le_of_ble_eq_true rfl) (by omega) (fun w75 hWw75 hRw75 => ?_)
                          obtain ⟨hfw75, hpw75⟩ := hRw75
                          have hFw75 : ∀ (p : Nat) (j : Int), ¬ (p = (rr + 1) ∨ (p = rr ∧ (j = 1 ∨ j = 2)) ∨ (p = tp ∧ (j = 2 ∨ j = 5 ∨ j = 6 ∨ j = 7 ∨ j = 8 ∨ j = 4))) → tm_g w75 p j = tm_g w p j := fun p j h => (hfw75 p j (by omega)).trans (hFw49 p j h)
                          refine ev_iinc (l' := [_, _, _, _, _, _, _]) dt_Ru_readTest_128 rfl rfl ?_
                          refine ev_goto (tgt := 11) dt_Ru_readTest_131 (by decide) ?_
                          exact tm_loc (tm_le_s (tm_le_s (tm_le_s (tm_le_s (tm_le_s (tm_le_s (tm_le_s tm_le_0))))))) (ihL40 (0) (0) (1) ((i44 + 1)) w75 hWw75 hFw75 ((a_adv f L (a_t2 f K L i42 (a_oa i41 (-31) (a_fact f K L (10 - a).toNat G46))))) hpw75 (by omega) (by omega) (by omega) (by omega) (by omega) (by omega) (by omega) (by omega) (by first | exact (if_pos (by omega)).trans ((a_tsA (by omega) (by omega) (by omega) (by omega)).symm.trans ((if_pos (by omega)).symm.trans q0L40)) | exact (if_pos (by omega)).trans ((a_tsB (by omega) (by omega) (by omega)).symm.trans ((if_pos (by omega)).symm.trans q0L40)) | exact (if_neg (by omega)).trans ((a_tsC (by omega) (by omega) (by omega) (by omega)).symm.trans ((if_pos (by omega)).symm.trans q0L40)) | (exfalso; omega)) (by omega))
                  · skip
                    refine ev_iconst dt_Ru_readTest_87 ?_
                    refine ev_goto (tgt := 92) dt_Ru_readTest_88 (by decide) ?_
                    refine ev_istore (l' := [_, _, _, _, _, _, _]) dt_Ru_readTest_92 (Nat.le_of_ble_eq_true rfl) rfl ?_
                    refine ev_aload_n dt_Ru_readTest_94 rfl rfl ?_
                    have gk76 : tm_g w49 tp 8 = some (ab_I (a_wd f K L (a_fact f K L (10 - (a)).toNat G46))) := by rw [a_R_wd hx57]; simp only [a_em_sg, a_em_nb, a_em_wd, a_oe_sg, a_oe_nb, a_oe_wd, a_oa_sg, a_oa_wd, a_t2_sg, a_t2_wd]
                    refine tm_getK (K := 8) dt_Ru_readTest_95 hWw49 tpt0 fl_Ru_30 rfl gk76 ?_
                    have gb77 := tm_kb (k := 8) (K := 8) hWw49 tpt0 rfl rfl gk76
                    have gb78 := a_wd_b f L (a_fact f K L (10 - (a)).toNat G46) hK
                    refine ev_bipush dt_Ru_readTest_98 rfl ?_
                    refine ev_icmp_eq (tgt := 112) dt_Ru_readTest_100 (by decide) (by omega) (by omega) (fun h79 => ?_) (fun h79 => ?_)
                    · skip
                      exfalso
                      omega
                    · skip
                      refine ev_aload_n dt_Ru_readTest_103 rfl rfl ?_
                      have gk80 : tm_g w49 tp 8 = some (ab_I (a_wd f K L (a_fact f K L (10 - (a)).toNat G46))) := by rw [a_R_wd hx57]; simp only [a_em_sg, a_em_nb, a_em_wd, a_oe_sg, a_oe_nb, a_oe_wd, a_oa_sg, a_oa_wd, a_t2_sg, a_t2_wd]
                      refine tm_getK (K := 8) dt_Ru_readTest_104 hWw49 tpt0 fl_Ru_30 rfl gk80 ?_
                      have gb81 := tm_kb (k := 8) (K := 8) hWw49 tpt0 rfl rfl gk80
                      have gb82 := a_wd_b f L (a_fact f K L (10 - (a)).toNat G46) hK
                      refine ev_bipush dt_Ru_readTest_107 rfl ?_
                      refine ev_icmp_ne (tgt := 116) dt_Ru_readTest_109 (by decide) (by omega) (by omega) (fun h83 => ?_) (fun h83 => ?_)
                      · skip
                        exfalso
                        omega
                      · skip
                        refine ev_iconst dt_Ru_readTest_112 ?_
                        refine ev_goto (tgt := 117) dt_Ru_readTest_113 (by decide) ?_
                        refine ev_istore (l' := [_, _, _, _, _, _, _]) dt_Ru_readTest_117 (Nat.le_of_ble_eq_true rfl) rfl ?_
                        refine ev_iload dt_Ru_readTest_119 rfl ?_
                        refine ev_if_eq (tgt := 128) dt_Ru_readTest_121 (by decide) (by omega) (fun h84 => ?_) (fun h84 => ?_)
                        · skip
                          exfalso
                          omega
                        · skip
                          refine ev_aload_n dt_Ru_readTest_124 rfl rfl ?_
                          refine tm_vv dt_Ru_readTest_125 (gx_Ta_advance hWw49 h_tp hK (by omega) hx57) kb_Ru_37 ⟨im_Ta_advance, se_Ta_advance⟩ rfl hWw49 tpt0 rfl (Nat.le_of_ble_eq_true rfl) (by omega) (fun w85 hWw85 hRw85 => ?_)
                          obtain ⟨hfw85, hpw85⟩ := hRw85
                          have hFw85 : ∀ (p : Nat) (j : Int), ¬ (p = (rr + 1) ∨ (p = rr ∧ (j = 1 ∨ j = 2)) ∨ (p = tp ∧ (j = 2 ∨ j = 5 ∨ j = 6 ∨ j = 7 ∨ j = 8 ∨ j = 4))) → tm_g w85 p j = tm_g w p j := fun p j h => (hfw85 p j (by omega)).trans (hFw49 p j h)
                          refine ev_iinc (l' := [_, _, _, _, _, _, _]) dt_Ru_readTest_128 rfl rfl ?_
                          refine ev_goto (tgt := 11) dt_Ru_readTest_131 (by decide) ?_
                          exact tm_loc (tm_le_s (tm_le_s (tm_le_s (tm_le_s (tm_le_s (tm_le_s (tm_le_s tm_le_0))))))) (ihL40 (0) (1) (1) ((i44 + 1)) w85 hWw85 hFw85 ((a_adv f L (a_t2 f K L i42 (a_oa i41 (-31) (a_fact f K L (10 - a).toNat G46))))) hpw85 (by omega) (by omega) (by omega) (by omega) (by omega) (by omega) (by omega) (by omega) (by first | exact (if_pos (by omega)).trans ((a_tsA (by omega) (by omega) (by omega) (by omega)).symm.trans ((if_pos (by omega)).symm.trans q0L40)) | exact (if_pos (by omega)).trans ((a_tsB (by omega) (by omega) (by omega)).symm.trans ((if_pos (by omega)).symm.trans q0L40)) | exact (if_neg (by omega)).trans ((a_tsC (by omega) (by omega) (by omega) (by omega)).symm.trans ((if_pos (by omega)).symm.trans q0L40)) | (exfalso; omega)) (by omega))
                · skip
                  exfalso
                  omega
              · skip
                refine ev_iload_n dt_Ru_readTest_59 rfl rfl ?_
                refine ev_if_ne (tgt := 69) dt_Ru_readTest_60 (by decide) (by omega) (fun h86 => ?_) (fun h86 => ?_)
                · skip
                  exfalso
                  omega
                · skip
                  refine ev_aload_n dt_Ru_readTest_63 rfl rfl ?_
                  refine ev_bipush dt_Ru_readTest_64 rfl ?_
                  refine tm_vv dt_Ru_readTest_66 (gx_Ru_emit hWw49 h_rr ((-32)) (by omega) (by omega) hK (by omega) hx51) kb_Ru_50 ⟨im_Ru_emit, se_Ru_emit⟩ rfl hWw49 rrt0 rfl (Nat.le_of_ble_eq_true rfl) (by omega) (fun w87 hWw87 hRw87 => ?_)
                  obtain ⟨hfw87, hpw87⟩ := hRw87
                  have hFw87 : ∀ (p : Nat) (j : Int), ¬ (p = (rr + 1) ∨ (p = rr ∧ (j = 1 ∨ j = 2)) ∨ (p = tp ∧ (j = 2 ∨ j = 5 ∨ j = 6 ∨ j = 7 ∨ j = 8 ∨ j = 4))) → tm_g w87 p j = tm_g w p j := fun p j h => (hfw87 p j (by omega)).trans (hFw49 p j h)
                  have hx88 := a_R_eq hpw87 (show (a_em ((-32)) (a_oa i41 (-31) (a_fact f K L (10 - a).toNat G46))) = (a_t2 f K L i42 (a_oa i41 (-31) (a_fact f K L (10 - a).toNat G46))) from (by unfold a_t2; (repeat' split) <;> first | rfl | (exfalso; simp only [a_oa_wd] at *; omega)))
                  refine ev_iload dt_Ru_readTest_69 rfl ?_
                  refine ev_if_eq (tgt := 78) dt_Ru_readTest_71 (by decide) (by omega) (fun h89 => ?_) (fun h89 => ?_)
                  · skip
                    exfalso
                    omega
                  · skip
                    refine ev_iload_n dt_Ru_readTest_74 rfl rfl ?_
                    refine ev_if_ne (tgt := 87) dt_Ru_readTest_75 (by decide) (by omega) (fun h90 => ?_) (fun h90 => ?_)
                    · skip
                      exfalso
                      omega
                    · skip
                      refine ev_aload_n dt_Ru_readTest_78 rfl rfl ?_
                      have gk91 : tm_g w87 tp 8 = some (ab_I (a_wd f K L (a_fact f K L (10 - (a)).toNat G46))) := by rw [a_R_wd hx88]; simp only [a_em_sg, a_em_nb, a_em_wd, a_oe_sg, a_oe_nb, a_oe_wd, a_oa_sg, a_oa_wd, a_t2_sg, a_t2_wd]
                      refine tm_getK (K := 8) dt_Ru_readTest_79 hWw87 tpt0 fl_Ru_30 rfl gk91 ?_
                      have gb92 := tm_kb (k := 8) (K := 8) hWw87 tpt0 rfl rfl gk91
                      have gb93 := a_wd_b f L (a_fact f K L (10 - (a)).toNat G46) hK
                      refine ev_bipush dt_Ru_readTest_82 rfl ?_
                      refine ev_icmp_ne (tgt := 91) dt_Ru_readTest_84 (by decide) (by omega) (by omega) (fun h94 => ?_) (fun h94 => ?_)
                      · skip
                        refine ev_iconst dt_Ru_readTest_91 ?_
                        refine ev_istore (l' := [_, _, _, _, _, _, _]) dt_Ru_readTest_92 (Nat.le_of_ble_eq_true rfl) rfl ?_
                        refine ev_aload_n dt_Ru_readTest_94 rfl rfl ?_
                        have gk95 : tm_g w87 tp 8 = some (ab_I (a_wd f K L (a_fact f K L (10 - (a)).toNat G46))) := by rw [a_R_wd hx88]; simp only [a_em_sg, a_em_nb, a_em_wd, a_oe_sg, a_oe_nb, a_oe_wd, a_oa_sg, a_oa_wd, a_t2_sg, a_t2_wd]
                        refine tm_getK (K := 8) dt_Ru_readTest_95 hWw87 tpt0 fl_Ru_30 rfl gk95 ?_
                        have gb96 := tm_kb (k := 8) (K := 8) hWw87 tpt0 rfl rfl gk95
                        have gb97 := a_wd_b f L (a_fact f K L (10 - (a)).toNat G46) hK
                        refine ev_bipush dt_Ru_readTest_98 rfl ?_
                        refine ev_icmp_eq (tgt := 112) dt_Ru_readTest_100 (by decide) (by omega) (by omega) (fun h98 => ?_) (fun h98 => ?_)
                        · skip
                          refine ev_iconst dt_Ru_readTest_112 ?_
                          refine ev_goto (tgt := 117) dt_Ru_readTest_113 (by decide) ?_
                          refine ev_istore (l' := [_, _, _, _, _, _, _]) dt_Ru_readTest_117 (Nat.le_of_ble_eq_true rfl) rfl ?_
                          refine ev_iload dt_Ru_readTest_119 rfl ?_
                          refine ev_if_eq (tgt := 128) dt_Ru_readTest_121 (by decide) (by omega) (fun h99 => ?_) (fun h99 => ?_)
                          · skip
                            exfalso
                            omega
                          · skip
                            refine ev_aload_n dt_Ru_readTest_124 rfl rfl ?_
                            refine tm_vv dt_Ru_readTest_125 (gx_Ta_advance hWw87 h_tp hK (by omega) hx88) kb_Ru_37 ⟨im_Ta_advance, se_Ta_advance⟩ rfl hWw87 tpt0 rfl (Nat.le_of_ble_eq_true rfl) (by omega) (fun w100 hWw100 hRw100 => ?_)
                            obtain ⟨hfw100, hpw100⟩ := hRw100
                            have hFw100 : ∀ (p : Nat) (j : Int), ¬ (p = (rr + 1) ∨ (p = rr ∧ (j = 1 ∨ j = 2)) ∨ (p = tp ∧ (j = 2 ∨ j = 5 ∨ j = 6 ∨ j = 7 ∨ j = 8 ∨ j = 4))) → tm_g w100 p j = tm_g w p j := fun p j h => (hfw100 p j (by omega)).trans (hFw87 p j h)
                            refine ev_iinc (l' := [_, _, _, _, _, _, _]) dt_Ru_readTest_128 rfl rfl ?_
                            refine ev_goto (tgt := 11) dt_Ru_readTest_131 (by decide) ?_
                            exact tm_loc (tm_le_s (tm_le_s (tm_le_s (tm_le_s (tm_le_s (tm_le_s (tm_le_s tm_le_0))))))) (ihL40 (0) (0) (1) ((i44 + 1)) w100 hWw100 hFw100 ((a_adv f L (a_t2 f K L i42 (a_oa i41 (-31) (a_fact f K L (10 - a).toNat G46))))) hpw100 (by omega) (by omega) (by omega) (by omega) (by omega) (by omega) (by omega) (by omega) (by first | exact (if_pos (by omega)).trans ((a_tsA (by omega) (by omega) (by omega) (by omega)).symm.trans ((if_pos (by omega)).symm.trans q0L40)) | exact (if_pos (by omega)).trans ((a_tsB (by omega) (by omega) (by omega)).symm.trans ((if_pos (by omega)).symm.trans q0L40)) | exact (if_neg (by omega)).trans ((a_tsC (by omega) (by omega) (by omega) (by omega)).symm.trans ((if_pos (by omega)).symm.trans q0L40)) | (exfalso; omega)) (by omega))
                        · skip
                          refine ev_aload_n dt_Ru_readTest_103 rfl rfl ?_
                          have gk101 : tm_g w87 tp 8 = some (ab_I (a_wd f K L (a_fact f K L (10 - (a)).toNat G46))) := by rw [a_R_wd hx88]; simp only [a_em_sg, a_em_nb, a_em_wd, a_oe_sg, a_oe_nb, a_oe_wd, a_oa_sg, a_oa_wd, a_t2_sg, a_t2_wd]
                          refine tm_getK (K := 8) dt_Ru_readTest_104 hWw87 tpt0 fl_Ru_30 rfl gk101 ?_
                          have gb102 := tm_kb (k := 8) (K := 8) hWw87 tpt0 rfl rfl gk101
                          have gb103 := a_wd_b f L (a_fact f K L (10 - (a)).toNat G46) hK
                          refine ev_bipush dt_Ru_readTest_107 rfl ?_
                          refine ev_icmp_ne (tgt := 116) dt_Ru_readTest_109 (by decide) (by omega) (by omega) (fun h104 => ?_) (fun h104 => ?_)
                          · skip
                            refine ev_iconst dt_Ru_readTest_116 ?_
                            refine ev_istore (l' := [_, _, _, _, _, _, _]) dt_Ru_readTest_117 (Nat.le_of_ble_eq_true rfl) rfl ?_
                            refine ev_iload dt_Ru_readTest_119 rfl ?_
                            refine ev_if_eq (tgt := 128) dt_Ru_readTest_121 (by decide) (by omega) (fun h105 => ?_) (fun h105 => ?_)
                            · skip
                              refine ev_iinc (l' := [_, _, _, _, _, _, _]) dt_Ru_readTest_128 rfl rfl ?_
                              refine ev_goto (tgt := 11) dt_Ru_readTest_131 (by decide) ?_
                              exact tm_loc (tm_le_s (tm_le_s (tm_le_s (tm_le_s (tm_le_s (tm_le_s (tm_le_s tm_le_0))))))) (ihL40 (0) (0) (0) ((i44 + 1)) w87 hWw87 hFw87 ((a_t2 f K L i42 (a_oa i41 (-31) (a_fact f K L (10 - a).toNat G46)))) hx88 (by omega) (by omega) (by omega) (by omega) (by omega) (by omega) (by omega) (by omega) (by first | exact (if_pos (by omega)).trans ((a_tsA (by omega) (by omega) (by omega) (by omega)).symm.trans ((if_pos (by omega)).symm.trans q0L40)) | exact (if_pos (by omega)).trans ((a_tsB (by omega) (by omega) (by omega)).symm.trans ((if_pos (by omega)).symm.trans q0L40)) | exact (if_neg (by omega)).trans ((a_tsC (by omega) (by omega) (by omega) (by omega)).symm.trans ((if_pos (by omega)).symm.trans q0L40)) | (exfalso; omega)) (by omega))
                            · skip
                              exfalso
                              omega
                          · skip
                            refine ev_iconst dt_Ru_readTest_112 ?_
                            refine ev_goto (tgt := 117) dt_Ru_readTest_113 (by decide) ?_
                            refine ev_istore (l' := [_, _, _, _, _, _, _]) dt_Ru_readTest_117 (Nat.le_of_ble_eq_true rfl) rfl ?_
                            refine ev_iload dt_Ru_readTest_119 rfl ?_
                            refine ev_if_eq (tgt := 128) dt_Ru_readTest_121 (by decide) (by omega) (fun h106 => ?_) (fun h106 => ?_)
                            · skip
                              exfalso
                              omega
                            · skip
                              refine ev_aload_n dt_Ru_readTest_124 rfl rfl ?_
                              refine tm_vv dt_Ru_readTest_125 (gx_Ta_advance hWw87 h_tp hK (by omega) hx88) kb_Ru_37 ⟨im_Ta_advance, se_Ta_advance⟩ rfl hWw87 tpt0 rfl (Nat.le_of_ble_eq_true rfl) (by omega) (fun w107 hWw107 hRw107 => ?_)
                              obtain ⟨hfw107, hpw107⟩ := hRw107
                              have hFw107 : ∀ (p : Nat) (j : Int), ¬ (p = (rr + 1) ∨ (p = rr ∧ (j = 1 ∨ j = 2)) ∨ (p = tp ∧ (j = 2 ∨ j = 5 ∨ j = 6 ∨ j = 7 ∨ j = 8 ∨ j = 4))) → tm_g w107 p j = tm_g w p j := fun p j h => (hfw107 p j (by omega)).trans (hFw87 p j h)
                              refine ev_iinc (l' := [_, _, _, _, _, _, _]) dt_Ru_readTest_128 rfl rfl ?_
                              refine ev_goto (tgt := 11) dt_Ru_readTest_131 (by decide) ?_
                              exact tm_loc (tm_le_s (tm_le_s (tm_le_s (tm_le_s (tm_le_s (tm_le_s (tm_le_s tm_le_0))))))) (ihL40 (0) (0) (1) ((i44 + 1)) w107 hWw107 hFw107 ((a_adv f L (a_t2 f K L i42 (a_oa i41 (-31) (a_fact f K L (10 - a).toNat G46))))) hpw107 (by omega) (by omega) (by omega) (by omega) (by omega) (by omega) (by omega) (by omega) (by first | exact (if_pos (by omega)).trans ((a_tsA (by omega) (by omega) (by omega) (by omega)).symm.trans ((if_pos (by omega)).symm.trans q0L40)) | exact (if_pos (by omega)).trans ((a_tsB (by omega) (by omega) (by omega)).symm.trans ((if_pos (by omega)).symm.trans q0L40)) | exact (if_neg (by omega)).trans ((a_tsC (by omega) (by omega) (by omega) (by omega)).symm.trans ((if_pos (by omega)).symm.trans q0L40)) | (exfalso; omega)) (by omega))
                      · skip
                        refine ev_iconst dt_Ru_readTest_87 ?_
                        refine ev_goto (tgt := 92) dt_Ru_readTest_88 (by decide) ?_
                        refine ev_istore (l' := [_, _, _, _, _, _, _]) dt_Ru_readTest_92 (Nat.le_of_ble_eq_true rfl) rfl ?_
                        refine ev_aload_n dt_Ru_readTest_94 rfl rfl ?_
                        have gk108 : tm_g w87 tp 8 = some (ab_I (a_wd f K L (a_fact f K L (10 - (a)).toNat G46))) := by rw [a_R_wd hx88]; simp only [a_em_sg, a_em_nb, a_em_wd, a_oe_sg, a_oe_nb, a_oe_wd, a_oa_sg, a_oa_wd, a_t2_sg, a_t2_wd]
                        refine tm_getK (K := 8) dt_Ru_readTest_95 hWw87 tpt0 fl_Ru_30 rfl gk108 ?_
                        have gb109 := tm_kb (k := 8) (K := 8) hWw87 tpt0 rfl rfl gk108
                        have gb110 := a_wd_b f L (a_fact f K L (10 - (a)).toNat G46) hK
                        refine ev_bipush dt_Ru_readTest_98 rfl ?_
                        refine ev_icmp_eq (tgt := 112) dt_Ru_readTest_100 (by decide) (by omega) (by omega) (fun h111 => ?_) (fun h111 => ?_)
                        · skip
                          exfalso
                          omega
                        · skip
                          refine ev_aload_n dt_Ru_readTest_103 rfl rfl ?_
                          have gk112 : tm_g w87 tp 8 = some (ab_I (a_wd f K L (a_fact f K L (10 - (a)).toNat G46))) := by rw [a_R_wd hx88]; simp only [a_em_sg, a_em_nb, a_em_wd, a_oe_sg, a_oe_nb, a_oe_wd, a_oa_sg, a_oa_wd, a_t2_sg, a_t2_wd]
                          refine tm_getK (K := 8) dt_Ru_readTest_104 hWw87 tpt0 fl_Ru_30 rfl gk112 ?_
                          have gb113 := tm_kb (k := 8) (K := 8) hWw87 tpt0 rfl rfl gk112
                          have gb114 := a_wd_b f L (a_fact f K L (10 - (a)).toNat G46) hK
                          refine ev_bipush dt_Ru_readTest_107 rfl ?_
                          refine ev_icmp_ne (tgt := 116) dt_Ru_readTest_109 (by decide) (by omega) (by omega) (fun h115 => ?_) (fun h115 => ?_)
                          · skip
                            exfalso
                            omega
                          · skip
                            refine ev_iconst dt_Ru_readTest_112 ?_
                            refine ev_goto (tgt := 117) dt_Ru_readTest_113 (by decide) ?_
                            refine ev_istore (l' := [_, _, _, _, _, _, _]) dt_Ru_readTest_117 (Nat.le_of_ble_eq_true rfl) rfl ?_
                            refine ev_iload dt_Ru_readTest_119 rfl ?_
                            refine ev_if_eq (tgt := 128) dt_Ru_readTest_121 (by decide) (by omega) (fun h116 => ?_) (fun h116 => ?_)
                            · skip
                              exfalso
                              omega
                            · skip
                              refine ev_aload_n dt_Ru_readTest_124 rfl rfl ?_
                              refine tm_vv dt_Ru_readTest_125 (gx_Ta_advance hWw87 h_tp hK (by omega) hx88) kb_Ru_37 ⟨im_Ta_advance, se_Ta_advance⟩ rfl hWw87 tpt0 rfl (Nat.le_of_ble_eq_true rfl) (by omega) (fun w117 hWw117 hRw117 => ?_)
                              obtain ⟨hfw117, hpw117⟩ := hRw117
                              have hFw117 : ∀ (p : Nat) (j : Int), ¬ (p = (rr + 1) ∨ (p = rr ∧ (j = 1 ∨ j = 2)) ∨ (p = tp ∧ (j = 2 ∨ j = 5 ∨ j = 6 ∨ j = 7 ∨ j = 8 ∨ j = 4))) → tm_g w117 p j = tm_g w p j := fun p j h => (hfw117 p j (by omega)).trans (hFw87 p j h)
                              refine ev_iinc (l' := [_, _, _, _, _, _, _]) dt_Ru_readTest_128 rfl rfl ?_
                              refine ev_goto (tgt := 11) dt_Ru_readTest_131 (by decide) ?_
                              exact tm_loc (tm_le_s (tm_le_s (tm_le_s (tm_le_s (tm_le_s (tm_le_s (tm_le_s tm_le_0))))))) (ihL40 (0) (1) (1) ((i44 + 1)) w117 hWw117 hFw117 ((a_adv f L (a_t2 f K L i42 (a_oa i41 (-31) (a_fact f K L (10 - a).toNat G46))))) hpw117 (by omega) (by omega) (by omega) (by omega) (by omega) (by omega) (by omega) (by omega) (by first | exact (if_pos (by omega)).trans ((a_tsA (by omega) (by omega) (by omega) (by omega)).symm.trans ((if_pos (by omega)).symm.trans q0L40)) | exact (if_pos (by omega)).trans ((a_tsB (by omega) (by omega) (by omega)).symm.trans ((if_pos (by omega)).symm.trans q0L40)) | exact (if_neg (by omega)).trans ((a_tsC (by omega) (by omega) (by omega) (by omega)).symm.trans ((if_pos (by omega)).symm.trans q0L40)) | (exfalso; omega)) (by omega))
            · skip
              refine ev_iconst dt_Ru_readTest_48 ?_
              refine ev_goto (tgt := 53) dt_Ru_readTest_49 (by decide) ?_
              refine ev_istore_n (l' := [_, _, _, _, _, _, _]) dt_Ru_readTest_53 rfl (Nat.le_of_ble_eq_true rfl) rfl ?_
              refine ev_iload dt_Ru_readTest_54 rfl ?_
              refine ev_if_eq (tgt := 69) dt_Ru_readTest_56 (by decide) (by omega) (fun h118 => ?_) (fun h118 => ?_)
              · skip
                have hx119 := a_R_eq hx51 (show (a_oa i41 (-31) (a_fact f K L (10 - a).toNat G46)) = (a_t2 f K L i42 (a_oa i41 (-31) (a_fact f K L (10 - a).toNat G46))) from (by unfold a_t2; (repeat' split) <;> first | rfl | (exfalso; simp only [a_oa_wd] at *; omega)))
                refine ev_iload dt_Ru_readTest_69 rfl ?_
                refine ev_if_eq (tgt := 78) dt_Ru_readTest_71 (by decide) (by omega) (fun h120 => ?_) (fun h120 => ?_)
                · skip
                  refine ev_aload_n dt_Ru_readTest_78 rfl rfl ?_
                  have gk121 : tm_g w49 tp 8 = some (ab_I (a_wd f K L (a_fact f K L (10 - (a)).toNat G46))) := by rw [a_R_wd hx119]; simp only [a_em_sg, a_em_nb, a_em_wd, a_oe_sg, a_oe_nb, a_oe_wd, a_oa_sg, a_oa_wd, a_t2_sg, a_t2_wd]
                  refine tm_getK (K := 8) dt_Ru_readTest_79 hWw49 tpt0 fl_Ru_30 rfl gk121 ?_
                  have gb122 := tm_kb (k := 8) (K := 8) hWw49 tpt0 rfl rfl gk121
                  have gb123 := a_wd_b f L (a_fact f K L (10 - (a)).toNat G46) hK
                  refine ev_bipush dt_Ru_readTest_82 rfl ?_
                  refine ev_icmp_ne (tgt := 91) dt_Ru_readTest_84 (by decide) (by omega) (by omega) (fun h124 => ?_) (fun h124 => ?_)
                  · skip
                    refine ev_iconst dt_Ru_readTest_91 ?_
                    refine ev_istore (l' := [_, _, _, _, _, _, _]) dt_Ru_readTest_92 (Nat.le_of_ble_eq_true rfl) rfl ?_
                    refine ev_aload_n dt_Ru_readTest_94 rfl rfl ?_
                    have gk125 : tm_g w49 tp 8 = some (ab_I (a_wd f K L (a_fact f K L (10 - (a)).toNat G46))) := by rw [a_R_wd hx119]; simp only [a_em_sg, a_em_nb, a_em_wd, a_oe_sg, a_oe_nb, a_oe_wd, a_oa_sg, a_oa_wd, a_t2_sg, a_t2_wd]
                    refine tm_getK (K := 8) dt_Ru_readTest_95 hWw49 tpt0 fl_Ru_30 rfl gk125 ?_
                    have gb126 := tm_kb (k := 8) (K := 8) hWw49 tpt0 rfl rfl gk125
                    have gb127 := a_wd_b f L (a_fact f K L (10 - (a)).toNat G46) hK
                    refine ev_bipush dt_Ru_readTest_98 rfl ?_
                    refine ev_icmp_eq (tgt := 112) dt_Ru_readTest_100 (by decide) (by omega) (by omega) (fun h128 => ?_) (fun h128 => ?_)
                    · skip
                      refine ev_iconst dt_Ru_readTest_112 ?_
                      refine ev_goto (tgt := 117) dt_Ru_readTest_113 (by decide) ?_
                      refine ev_istore (l' := [_, _, _, _, _, _, _]) dt_Ru_readTest_117 (Nat.le_of_ble_eq_true rfl) rfl ?_
                      refine ev_iload dt_Ru_readTest_119 rfl ?_
                      refine ev_if_eq (tgt := 128) dt_Ru_readTest_121 (by decide) (by omega) (fun h129 => ?_) (fun h129 => ?_)
                      · skip
                        exfalso
                        omega
                      · skip
                        refine ev_aload_n dt_Ru_readTest_124 rfl rfl ?_
                        refine tm_vv dt_Ru_readTest_125 (gx_Ta_advance hWw49 h_tp hK (by omega) hx119) kb_Ru_37 ⟨im_Ta_advance, se_Ta_advance⟩ rfl hWw49 tpt0 rfl (Nat.le_of_ble_eq_true rfl) (by omega) (fun w130 hWw130 hRw130 => ?_)
                        obtain ⟨hfw130, hpw130⟩ := hRw130
                        have hFw130 : ∀ (p : Nat) (j : Int), ¬ (p = (rr + 1) ∨ (p = rr ∧ (j = 1 ∨ j = 2)) ∨ (p = tp ∧ (j = 2 ∨ j = 5 ∨ j = 6 ∨ j = 7 ∨ j = 8 ∨ j = 4))) → tm_g w130 p j = tm_g w p j := fun p j h => (hfw130 p j (by omega)).trans (hFw49 p j h)
                        refine ev_iinc (l' := [_, _, _, _, _, _, _]) dt_Ru_readTest_128 rfl rfl ?_
                        refine ev_goto (tgt := 11) dt_Ru_readTest_131 (by decide) ?_
                        exact tm_loc (tm_le_s (tm_le_s (tm_le_s (tm_le_s (tm_le_s (tm_le_s (tm_le_s tm_le_0))))))) (ihL40 (1) (0) (1) ((i44 + 1)) w130 hWw130 hFw130 ((a_adv f L (a_t2 f K L i42 (a_oa i41 (-31) (a_fact f K L (10 - a).toNat G46))))) hpw130 (by omega) (by omega) (by omega) (by omega) (by omega) (by omega) (by omega) (by omega) (by first | exact (if_pos (by omega)).trans ((a_tsA (by omega) (by omega) (by omega) (by omega)).symm.trans ((if_pos (by omega)).symm.trans q0L40)) | exact (if_pos (by omega)).trans ((a_tsB (by omega) (by omega) (by omega)).symm.trans ((if_pos (by omega)).symm.trans q0L40)) | exact (if_neg (by omega)).trans ((a_tsC (by omega) (by omega) (by omega) (by omega)).symm.trans ((if_pos (by omega)).symm.trans q0L40)) | (exfalso; omega)) (by omega))
                    · skip
                      exfalso
                      omega
                  · skip
                    exfalso
                    omega
                · skip
                  exfalso
                  omega
              · skip
                refine ev_iload_n dt_Ru_readTest_59 rfl rfl ?_
                refine ev_if_ne (tgt := 69) dt_Ru_readTest_60 (by decide) (by omega) (fun h131 => ?_) (fun h131 => ?_)
                · skip
                  have hx132 := a_R_eq hx51 (show (a_oa i41 (-31) (a_fact f K L (10 - a).toNat G46)) = (a_t2 f K L i42 (a_oa i41 (-31) (a_fact f K L (10 - a).toNat G46))) from (by unfold a_t2; (repeat' split) <;> first | rfl | (exfalso; simp only [a_oa_wd] at *; omega)))
                  refine ev_iload dt_Ru_readTest_69 rfl ?_
                  refine ev_if_eq (tgt := 78) dt_Ru_readTest_71 (by decide) (by omega) (fun h133 => ?_) (fun h133 => ?_)
                  · skip
                    exfalso
                    omega
                  · skip
                    refine ev_iload_n dt_Ru_readTest_74 rfl rfl ?_
                    refine ev_if_ne (tgt := 87) dt_Ru_readTest_75 (by decide) (by omega) (fun h134 => ?_) (fun h134 => ?_)
                    · skip
                      refine ev_iconst dt_Ru_readTest_87 ?_
                      refine ev_goto (tgt := 92) dt_Ru_readTest_88 (by decide) ?_
                      refine ev_istore (l' := [_, _, _, _, _, _, _]) dt_Ru_readTest_92 (Nat.le_of_ble_eq_true rfl) rfl ?_
                      refine ev_aload_n dt_Ru_readTest_94 rfl rfl ?_
                      have gk135 : tm_g w49 tp 8 = some (ab_I (a_wd f K L (a_fact f K L (10 - (a)).toNat G46))) := by rw [a_R_wd hx132]; simp only [a_em_sg, a_em_nb, a_em_wd, a_oe_sg, a_oe_nb, a_oe_wd, a_oa_sg, a_oa_wd, a_t2_sg, a_t2_wd]
                      refine tm_getK (K := 8) dt_Ru_readTest_95 hWw49 tpt0 fl_Ru_30 rfl gk135 ?_
                      have gb136 := tm_kb (k := 8) (K := 8) hWw49 tpt0 rfl rfl gk135
                      have gb137 := a_wd_b f L (a_fact f K L (10 - (a)).toNat G46) hK
                      refine ev_bipush dt_Ru_readTest_98 rfl ?_
                      refine ev_icmp_eq (tgt := 112) dt_Ru_readTest_100 (by decide) (by omega) (by omega) (fun h138 => ?_) (fun h138 => ?_)
                      · skip
                        refine ev_iconst dt_Ru_readTest_112 ?_
                        refine ev_goto (tgt := 117) dt_Ru_readTest_113 (by decide) ?_
                        refine ev_istore (l' := [_, _, _, _, _, _, _]) dt_Ru_readTest_117 (Nat.le_of_ble_eq_true rfl) rfl ?_
                        refine ev_iload dt_Ru_readTest_119 rfl ?_
                        refine ev_if_eq (tgt := 128) dt_Ru_readTest_121 (by decide) (by omega) (fun h139 => ?_) (fun h139 => ?_)
                        · skip
                          exfalso
                          omega
                        · skip
                          refine ev_aload_n dt_Ru_readTest_124 rfl rfl ?_
                          refine tm_vv dt_Ru_readTest_125 (gx_Ta_advance hWw49 h_tp hK (by omega) hx132) kb_Ru_37 ⟨im_Ta_advance, se_Ta_advance⟩ rfl hWw49 tpt0 rfl (Nat.le_of_ble_eq_true rfl) (by omega) (fun w140 hWw140 hRw140 => ?_)
                          obtain ⟨hfw140, hpw140⟩ := hRw140
                          have hFw140 : ∀ (p : Nat) (j : Int), ¬ (p = (rr + 1) ∨ (p = rr ∧ (j = 1 ∨ j = 2)) ∨ (p = tp ∧ (j = 2 ∨ j = 5 ∨ j = 6 ∨ j = 7 ∨ j = 8 ∨ j = 4))) → tm_g w140 p j = tm_g w p j := fun p j h => (hfw140 p j (by omega)).trans (hFw49 p j h)
                          refine ev_iinc (l' := [_, _, _, _, _, _, _]) dt_Ru_readTest_128 rfl rfl ?_
                          refine ev_goto (tgt := 11) dt_Ru_readTest_131 (by decide) ?_
                          exact tm_loc (tm_le_s (tm_le_s (tm_le_s (tm_le_s (tm_le_s (tm_le_s (tm_le_s tm_le_0))))))) (ihL40 (1) (1) (1) ((i44 + 1)) w140 hWw140 hFw140 ((a_adv f L (a_t2 f K L i42 (a_oa i41 (-31) (a_fact f K L (10 - a).toNat G46))))) hpw140 (by omega) (by omega) (by omega) (by omega) (by omega) (by omega) (by omega) (by omega) (by first | exact (if_pos (by omega)).trans ((a_tsA (by omega) (by omega) (by omega) (by omega)).symm.trans ((if_pos (by omega)).symm.trans q0L40)) | exact (if_pos (by omega)).trans ((a_tsB (by omega) (by omega) (by omega)).symm.trans ((if_pos (by omega)).symm.trans q0L40)) | exact (if_neg (by omega)).trans ((a_tsC (by omega) (by omega) (by omega) (by omega)).symm.trans ((if_pos (by omega)).symm.trans q0L40)) | (exfalso; omega)) (by omega))
                      · skip
                        exfalso
                        omega
                    · skip
                      exfalso
                      omega
                · skip
                  exfalso
                  omega
          · skip
            refine ev_aload_n dt_Ru_readTest_33 rfl rfl ?_
            refine ev_bipush dt_Ru_readTest_34 rfl ?_
            refine tm_vv dt_Ru_readTest_36 (gx_Ru_emit hWw49 h_rr ((-31)) (by omega) (by omega) hK (by omega) hpw49) kb_Ru_50 ⟨im_Ru_emit, se_Ru_emit⟩ rfl hWw49 rrt0 rfl (Nat.le_of_ble_eq_true rfl) (by omega) (fun w141 hWw141 hRw141 => ?_)
            obtain ⟨hfw141, hpw141⟩ := hRw141
            have hFw141 : ∀ (p : Nat) (j : Int), ¬ (p = (rr + 1) ∨ (p = rr ∧ (j = 1 ∨ j = 2)) ∨ (p = tp ∧ (j = 2 ∨ j = 5 ∨ j = 6 ∨ j = 7 ∨ j = 8 ∨ j = 4))) → tm_g w141 p j = tm_g w p j := fun p j h => (hfw141 p j (by omega)).trans (hFw49 p j h)
            have hx142 := a_R_eq hpw141 (show (a_em ((-31)) (a_fact f K L (10 - (a)).toNat G46)) = (a_oa i41 (-31) (a_fact f K L (10 - a).toNat G46)) from (by unfold a_oa; first | exact (if_pos (by omega)).symm | exact (if_neg (by omega)).symm))
            refine ev_aload_n dt_Ru_readTest_39 rfl rfl ?_
            have gk143 : tm_g w141 tp 8 = some (ab_I (a_wd f K L (a_fact f K L (10 - (a)).toNat G46))) := by rw [a_R_wd hx142]; simp only [a_em_sg, a_em_nb, a_em_wd, a_oe_sg, a_oe_nb, a_oe_wd, a_oa_sg, a_oa_wd, a_t2_sg, a_t2_wd]
            refine tm_getK (K := 8) dt_Ru_readTest_40 hWw141 tpt0 fl_Ru_30 rfl gk143 ?_
            have gb144 := tm_kb (k := 8) (K := 8) hWw141 tpt0 rfl rfl gk143
            have gb145 := a_wd_b f L (a_fact f K L (10 - (a)).toNat G46) hK
            refine ev_bipush dt_Ru_readTest_43 rfl ?_
            refine ev_icmp_ne (tgt := 52) dt_Ru_readTest_45 (by decide) (by omega) (by omega) (fun h146 => ?_) (fun h146 => ?_)
            · skip
              refine ev_iconst dt_Ru_readTest_52 ?_
              refine ev_istore_n (l' := [_, _, _, _, _, _, _]) dt_Ru_readTest_53 rfl (Nat.le_of_ble_eq_true rfl) rfl ?_
              refine ev_iload dt_Ru_readTest_54 rfl ?_
              refine ev_if_eq (tgt := 69) dt_Ru_readTest_56 (by decide) (by omega) (fun h147 => ?_) (fun h147 => ?_)
              · skip
                have hx148 := a_R_eq hx142 (show (a_oa i41 (-31) (a_fact f K L (10 - a).toNat G46)) = (a_t2 f K L i42 (a_oa i41 (-31) (a_fact f K L (10 - a).toNat G46))) from (by unfold a_t2; (repeat' split) <;> first | rfl | (exfalso; simp only [a_oa_wd] at *; omega)))
                refine ev_iload dt_Ru_readTest_69 rfl ?_
                refine ev_if_eq (tgt := 78) dt_Ru_readTest_71 (by decide) (by omega) (fun h149 => ?_) (fun h149 => ?_)
                · skip
                  refine ev_aload_n dt_Ru_readTest_78 rfl rfl ?_
                  have gk150 : tm_g w141 tp 8 = some (ab_I (a_wd f K L (a_fact f K L (10 - (a)).toNat G46))) := by rw [a_R_wd hx148]; simp only [a_em_sg, a_em_nb, a_em_wd, a_oe_sg, a_oe_nb, a_oe_wd, a_oa_sg, a_oa_wd, a_t2_sg, a_t2_wd]
                  refine tm_getK (K := 8) dt_Ru_readTest_79 hWw141 tpt0 fl_Ru_30 rfl gk150 ?_
                  have gb151 := tm_kb (k := 8) (K := 8) hWw141 tpt0 rfl rfl gk150
                  have gb152 := a_wd_b f L (a_fact f K L (10 - (a)).toNat G46) hK
                  refine ev_bipush dt_Ru_readTest_82 rfl ?_
                  refine ev_icmp_ne (tgt := 91) dt_Ru_readTest_84 (by decide) (by omega) (by omega) (fun h153 => ?_) (fun h153 => ?_)
                  · skip
                    refine ev_iconst dt_Ru_readTest_91 ?_
                    refine ev_istore (l' := [_, _, _, _, _, _, _]) dt_Ru_readTest_92 (Nat.le_of_ble_eq_true rfl) rfl ?_
                    refine ev_aload_n dt_Ru_readTest_94 rfl rfl ?_
                    have gk154 : tm_g w141 tp 8 = some (ab_I (a_wd f K L (a_fact f K L (10 - (a)).toNat G46))) := by rw [a_R_wd hx148]; simp only [a_em_sg, a_em_nb, a_em_wd, a_oe_sg, a_oe_nb, a_oe_wd, a_oa_sg, a_oa_wd, a_t2_sg, a_t2_wd]
                    refine tm_getK (K := 8) dt_Ru_readTest_95 hWw141 tpt0 fl_Ru_30 rfl gk154 ?_
                    have gb155 := tm_kb (k := 8) (K := 8) hWw141 tpt0 rfl rfl gk154
                    have gb156 := a_wd_b f L (a_fact f K L (10 - (a)).toNat G46) hK
                    refine ev_bipush dt_Ru_readTest_98 rfl ?_
                    refine ev_icmp_eq (tgt := 112) dt_Ru_readTest_100 (by decide) (by omega) (by omega) (fun h157 => ?_) (fun h157 => ?_)
                    · skip
                      refine ev_iconst dt_Ru_readTest_112 ?_
                      refine ev_goto (tgt := 117) dt_Ru_readTest_113 (by decide) ?_
                      refine ev_istore (l' := [_, _, _, _, _, _, _]) dt_Ru_readTest_117 (Nat.le_of_ble_eq_true rfl) rfl ?_
                      refine ev_iload dt_Ru_readTest_119 rfl ?_
                      refine ev_if_eq (tgt := 128) dt_Ru_readTest_121 (by decide) (by omega) (fun h158 => ?_) (fun h158 => ?_)
                      · skip
                        exfalso
                        omega
                      · skip
                        refine ev_aload_n dt_Ru_readTest_124 rfl rfl ?_
                        refine tm_vv dt_Ru_readTest_125 (gx_Ta_advance hWw141 h_tp hK (by omega) hx148) kb_Ru_37 ⟨im_Ta_advance, se_Ta_advance⟩ rfl hWw141 tpt0 rfl (Nat.le_of_ble_eq_true rfl) (by omega) (fun w159 hWw159 hRw159 => ?_)
                        obtain ⟨hfw159, hpw159⟩ := hRw159
                        have hFw159 : ∀ (p : Nat) (j : Int), ¬ (p = (rr + 1) ∨ (p = rr ∧ (j = 1 ∨ j = 2)) ∨ (p = tp ∧ (j = 2 ∨ j = 5 ∨ j = 6 ∨ j = 7 ∨ j = 8 ∨ j = 4))) → tm_g w159 p j = tm_g w p j := fun p j h => (hfw159 p j (by omega)).trans (hFw141 p j h)
                        refine ev_iinc (l' := [_, _, _, _, _, _, _]) dt_Ru_readTest_128 rfl rfl ?_
                        refine ev_goto (tgt := 11) dt_Ru_readTest_131 (by decide) ?_
                        exact tm_loc (tm_le_s (tm_le_s (tm_le_s (tm_le_s (tm_le_s (tm_le_s (tm_le_s tm_le_0))))))) (ihL40 (0) (0) (1) ((i44 + 1)) w159 hWw159 hFw159 ((a_adv f L (a_t2 f K L i42 (a_oa i41 (-31) (a_fact f K L (10 - a).toNat G46))))) hpw159 (by omega) (by omega) (by omega) (by omega) (by omega) (by omega) (by omega) (by omega) (by first | exact (if_pos (by omega)).trans ((a_tsA (by omega) (by omega) (by omega) (by omega)).symm.trans ((if_pos (by omega)).symm.trans q0L40)) | exact (if_pos (by omega)).trans ((a_tsB (by omega) (by omega) (by omega)).symm.trans ((if_pos (by omega)).symm.trans q0L40)) | exact (if_neg (by omega)).trans ((a_tsC (by omega) (by omega) (by omega) (by omega)).symm.trans ((if_pos (by omega)).symm.trans q0L40)) | (exfalso; omega)) (by omega))
                    · skip
                      refine ev_aload_n dt_Ru_readTest_103 rfl rfl ?_
                      have gk160 : tm_g w141 tp 8 = some (ab_I (a_wd f K L (a_fact f K L (10 - (a)).toNat G46))) := by rw [a_R_wd hx148]; simp only [a_em_sg, a_em_nb, a_em_wd, a_oe_sg, a_oe_nb, a_oe_wd, a_oa_sg, a_oa_wd, a_t2_sg, a_t2_wd]
                      refine tm_getK (K := 8) dt_Ru_readTest_104 hWw141 tpt0 fl_Ru_30 rfl gk160 ?_
                      have gb161 := tm_kb (k := 8) (K := 8) hWw141 tpt0 rfl rfl gk160
                      have gb162 := a_wd_b f L (a_fact f K L (10 - (a)).toNat G46) hK
                      refine ev_bipush dt_Ru_readTest_107 rfl ?_
                      refine ev_icmp_ne (tgt := 116) dt_Ru_readTest_109 (by decide) (by omega) (by omega) (fun h163 => ?_) (fun h163 => ?_)
                      · skip
                        refine ev_iconst dt_Ru_readTest_116 ?_
                        refine ev_istore (l' := [_, _, _, _, _, _, _]) dt_Ru_readTest_117 (Nat.le_of_ble_eq_true rfl) rfl ?_
                        refine ev_iload dt_Ru_readTest_119 rfl ?_
                        refine ev_if_eq (tgt := 128) dt_Ru_readTest_121 (by decide) (by omega) (fun h164 => ?_) (fun h164 => ?_)
                        · skip
                          refine ev_iinc (l' := [_, _, _, _, _, _, _]) dt_Ru_readTest_128 rfl rfl ?_
                          refine ev_goto (tgt := 11) dt_Ru_readTest_131 (by decide) ?_
                          exact tm_loc (tm_le_s (tm_le_s (tm_le_s (tm_le_s (tm_le_s (tm_le_s (tm_le_s tm_le_0))))))) (ihL40 (0) (0) (0) ((i44 + 1)) w141 hWw141 hFw141 ((a_t2 f K L i42 (a_oa i41 (-31) (a_fact f K L (10 - a).toNat G46)))) hx148 (by omega) (by omega) (by omega) (by omega) (by omega) (by omega) (by omega) (by omega) (by first | exact (if_pos (by omega)).trans ((a_tsA (by omega) (by omega) (by omega) (by omega)).symm.trans ((if_pos (by omega)).symm.trans q0L40)) | exact (if_pos (by omega)).trans ((a_tsB (by omega) (by omega) (by omega)).symm.trans ((if_pos (by omega)).symm.trans q0L40)) | exact (if_neg (by omega)).trans ((a_tsC (by omega) (by omega) (by omega) (by omega)).symm.trans ((if_pos (by omega)).symm.trans q0L40)) | (exfalso; omega)) (by omega))
                        · skip
                          exfalso
                          omega
                      · skip
                        refine ev_iconst dt_Ru_readTest_112 ?_
                        refine ev_goto (tgt := 117) dt_Ru_readTest_113 (by decide) ?_
                        refine ev_istore (l' := [_, _, _, _, _, _, _]) dt_Ru_readTest_117 (Nat.le_of_ble_eq_true rfl) rfl ?_
                        refine ev_iload dt_Ru_readTest_119 rfl ?_
                        refine ev_if_eq (tgt := 128) dt_Ru_readTest_121 (by decide) (by omega) (fun h165 => ?_) (fun h165 => ?_)
                        · skip
                          exfalso
                          omega
                        · skip
                          refine ev_aload_n dt_Ru_readTest_124 rfl rfl ?_
                          refine tm_vv dt_Ru_readTest_125 (gx_Ta_advance hWw141 h_tp hK (by omega) hx148) kb_Ru_37 ⟨im_Ta_advance, se_Ta_advance⟩ rfl hWw141 tpt0 rfl (Nat.le_of_ble_eq_true rfl) (by omega) (fun w166 hWw166 hRw166 => ?_)
                          obtain ⟨hfw166, hpw166⟩ := hRw166
                          have hFw166 : ∀ (p : Nat) (j : Int), ¬ (p = (rr + 1) ∨ (p = rr ∧ (j = 1 ∨ j = 2)) ∨ (p = tp ∧ (j = 2 ∨ j = 5 ∨ j = 6 ∨ j = 7 ∨ j = 8 ∨ j = 4))) → tm_g w166 p j = tm_g w p j := fun p j h => (hfw166 p j (by omega)).trans (hFw141 p j h)
                          refine ev_iinc (l' := [_, _, _, _, _, _, _]) dt_Ru_readTest_128 rfl rfl ?_
                          refine ev_goto (tgt := 11) dt_Ru_readTest_131 (by decide) ?_
                          exact tm_loc (tm_le_s (tm_le_s (tm_le_s (tm_le_s (tm_le_s (tm_le_s (tm_le_s tm_le_0))))))) (ihL40 (0) (0) (1) ((i44 + 1)) w166 hWw166 hFw166 ((a_adv f L (a_t2 f K L i42 (a_oa i41 (-31) (a_fact f K L (10 - a).toNat G46))))) hpw166 (by omega) (by omega) (by omega) (by omega) (by omega) (by omega) (by omega) (by omega) (by first | exact (if_pos (by omega)).trans ((a_tsA (by omega) (by omega) (by omega) (by omega)).symm.trans ((if_pos (by omega)).symm.trans q0L40)) | exact (if_pos (by omega)).trans ((a_tsB (by omega) (by omega) (by omega)).symm.trans ((if_pos (by omega)).symm.trans q0L40)) | exact (if_neg (by omega)).trans ((a_tsC (by omega) (by omega) (by omega) (by omega)).symm.trans ((if_pos (by omega)).symm.trans q0L40)) | (exfalso; omega)) (by omega))
                  · skip
                    refine ev_iconst dt_Ru_readTest_87 ?_
                    refine ev_goto (tgt := 92) dt_Ru_readTest_88 (by decide) ?_
                    refine ev_istore (l' := [_, _, _, _, _, _, _]) dt_Ru_readTest_92 (Nat.le_of_ble_eq_true rfl) rfl ?_
                    refine ev_aload_n dt_Ru_readTest_94 rfl rfl ?_
                    have gk167 : tm_g w141 tp 8 = some (ab_I (a_wd f K L (a_fact f K L (10 - (a)).toNat G46))) := by rw [a_R_wd hx148]; simp only [a_em_sg, a_em_nb, a_em_wd, a_oe_sg, a_oe_nb, a_oe_wd, a_oa_sg, a_oa_wd, a_t2_sg, a_t2_wd]
                    refine tm_getK (K := 8) dt_Ru_readTest_95 hWw141 tpt0 fl_Ru_30 rfl gk167 ?_
                    have gb168 := tm_kb (k := 8) (K := 8) hWw141 tpt0 rfl rfl gk167
                    have gb169 := a_wd_b f L (a_fact f K L (10 - (a)).toNat G46) hK
                    refine ev_bipush dt_Ru_readTest_98 rfl ?_
                    refine ev_icmp_eq (tgt := 112) dt_Ru_readTest_100 (by decide) (by omega) (by omega) (fun h170 => ?_) (fun h170 => ?_)
                    · skip
                      exfalso
                      omega
                    · skip
                      refine ev_aload_n dt_Ru_readTest_103 rfl rfl ?_
                      have gk171 : tm_g w141 tp 8 = some (ab_I (a_wd f K L (a_fact f K L (10 - (a)).toNat G46))) := by rw [a_R_wd hx148]; simp only [a_em_sg, a_em_nb, a_em_wd, a_oe_sg, a_oe_nb, a_oe_wd, a_oa_sg, a_oa_wd, a_t2_sg, a_t2_wd]
                      refine tm_getK (K := 8) dt_Ru_readTest_104 hWw141 tpt0 fl_Ru_30 rfl gk171 ?_
                      have gb172 := tm_kb (k := 8) (K := 8) hWw141 tpt0 rfl rfl gk171
                      have gb173 := a_wd_b f L (a_fact f K L (10 - (a)).toNat G46) hK
                      refine ev_bipush dt_Ru_readTest_107 rfl ?_
                      refine ev_icmp_ne (tgt := 116) dt_Ru_readTest_109 (by decide) (by omega) (by omega) (fun h174 => ?_) (fun h174 => ?_)
                      · skip
                        exfalso
                        omega
                      · skip
                        refine ev_iconst dt_Ru_readTest_112 ?_
                        refine ev_goto (tgt := 117) dt_Ru_readTest_113 (by decide) ?_
                        refine ev_istore (l' := [_, _, _, _, _, _, _]) dt_Ru_readTest_117 (Nat.le_of_ble_eq_true rfl) rfl ?_
                        refine ev_iload dt_Ru_readTest_119 rfl ?_
                        refine ev_if_eq (tgt := 128) dt_Ru_readTest_121 (by decide) (by omega) (fun h175 => ?_) (fun h175 => ?_)
                        · skip
                          exfalso
                          omega
                        · skip
                          refine ev_aload_n dt_Ru_readTest_124 rfl rfl ?_
                          refine tm_vv dt_Ru_readTest_125 (gx_Ta_advance hWw141 h_tp hK (by omega) hx148) kb_Ru_37 ⟨im_Ta_advance, se_Ta_advance⟩ rfl hWw141 tpt0 rfl (Nat.le_of_ble_eq_true rfl) (by omega) (fun w176 hWw176 hRw176 => ?_)
                          obtain ⟨hfw176, hpw176⟩ := hRw176
                          have hFw176 : ∀ (p : Nat) (j : Int), ¬ (p = (rr + 1) ∨ (p = rr ∧ (j = 1 ∨ j = 2)) ∨ (p = tp ∧ (j = 2 ∨ j = 5 ∨ j = 6 ∨ j = 7 ∨ j = 8 ∨ j = 4))) → tm_g w176 p j = tm_g w p j := fun p j h => (hfw176 p j (by omega)).trans (hFw141 p j h)
                          refine ev_iinc (l' := [_, _, _, _, _, _, _]) dt_Ru_readTest_128 rfl rfl ?_
                          refine ev_goto (tgt := 11) dt_Ru_readTest_131 (by decide) ?_
                          exact tm_loc (tm_le_s (tm_le_s (tm_le_s (tm_le_s (tm_le_s (tm_le_s (tm_le_s tm_le_0))))))) (ihL40 (0) (1) (1) ((i44 + 1)) w176 hWw176 hFw176 ((a_adv f L (a_t2 f K L i42 (a_oa i41 (-31) (a_fact f K L (10 - a).toNat G46))))) hpw176 (by omega) (by omega) (by omega) (by omega) (by omega) (by omega) (by omega) (by omega) (by first | exact (if_pos (by omega)).trans ((a_tsA (by omega) (by omega) (by omega) (by omega)).symm.trans ((if_pos (by omega)).symm.trans q0L40)) | exact (if_pos (by omega)).trans ((a_tsB (by omega) (by omega) (by omega)).symm.trans ((if_pos (by omega)).symm.trans q0L40)) | exact (if_neg (by omega)).trans ((a_tsC (by omega) (by omega) (by omega) (by omega)).symm.trans ((if_pos (by omega)).symm.trans q0L40)) | (exfalso; omega)) (by omega))
                · skip
                  exfalso
                  omega
              · skip
                refine ev_iload_n dt_Ru_readTest_59 rfl rfl ?_
                refine ev_if_ne (tgt := 69) dt_Ru_readTest_60 (by decide) (by omega) (fun h177 => ?_) (fun h177 => ?_)
                · skip
                  exfalso
                  omega
                · skip
                  refine ev_aload_n dt_Ru_readTest_63 rfl rfl ?_
                  refine ev_bipush dt_Ru_readTest_64 rfl ?_
                  refine tm_vv dt_Ru_readTest_66 (gx_Ru_emit hWw141 h_rr ((-32)) (by omega) (by omega) hK (by omega) hx142) kb_Ru_50 ⟨im_Ru_emit, se_Ru_emit⟩ rfl hWw141 rrt0 rfl (Nat.le_of_ble_eq_true rfl) (by omega) (fun w178 hWw178 hRw178 => ?_)
                  obtain ⟨hfw178, hpw178⟩ := hRw178
                  have hFw178 : ∀ (p : Nat) (j : Int), ¬ (p = (rr + 1) ∨ (p = rr ∧ (j = 1 ∨ j = 2)) ∨ (p = tp ∧ (j = 2 ∨ j = 5 ∨ j = 6 ∨ j = 7 ∨ j = 8 ∨ j = 4))) → tm_g w178 p j = tm_g w p j := fun p j h => (hfw178 p j (by omega)).trans (hFw141 p j h)
                  have hx179 := a_R_eq hpw178 (show (a_em ((-32)) (a_oa i41 (-31) (a_fact f K L (10 - a).toNat G46))) = (a_t2 f K L i42 (a_oa i41 (-31) (a_fact f K L (10 - a).toNat G46))) from (by unfold a_t2; (repeat' split) <;> first | rfl | (exfalso; simp only [a_oa_wd] at *; omega)))
                  refine ev_iload dt_Ru_readTest_69 rfl ?_
                  refine ev_if_eq (tgt := 78) dt_Ru_readTest_71 (by decide) (by omega) (fun h180 => ?_) (fun h180 => ?_)
                  · skip
                    exfalso
                    omega
                  · skip
                    refine ev_iload_n dt_Ru_readTest_74 rfl rfl ?_
                    refine ev_if_ne (tgt := 87) dt_Ru_readTest_75 (by decide) (by omega) (fun h181 => ?_) (fun h181 => ?_)
                    · skip
                      exfalso
                      omega
                    · skip
                      refine ev_aload_n dt_Ru_readTest_78 rfl rfl ?_
                      have gk182 : tm_g w178 tp 8 = some (ab_I (a_wd f K L (a_fact f K L (10 - (a)).toNat G46))) := by rw [a_R_wd hx179]; simp only [a_em_sg, a_em_nb, a_em_wd, a_oe_sg, a_oe_nb, a_oe_wd, a_oa_sg, a_oa_wd, a_t2_sg, a_t2_wd]
                      refine tm_getK (K := 8) dt_Ru_readTest_79 hWw178 tpt0 fl_Ru_30 rfl gk182 ?_
                      have gb183 := tm_kb (k := 8) (K := 8) hWw178 tpt0 rfl rfl gk182
                      have gb184 := a_wd_b f L (a_fact f K L (10 - (a)).toNat G46) hK
                      refine ev_bipush dt_Ru_readTest_82 rfl ?_
                      refine ev_icmp_ne (tgt := 91) dt_Ru_readTest_84 (by decide) (by omega) (by omega) (fun h185 => ?_) (fun h185 => ?_)
                      · skip
                        refine ev_iconst dt_Ru_readTest_91 ?_
                        refine ev_istore (l' := [_, _, _, _, _, _, _]) dt_Ru_readTest_92 (Nat.le_of_ble_eq_true rfl) rfl ?_
                        refine ev_aload_n dt_Ru_readTest_94 rfl rfl ?_
                        have gk186 : tm_g w178 tp 8 = some (ab_I (a_wd f K L (a_fact f K L (10 - (a)).toNat G46))) := by rw [a_R_wd hx179]; simp only [a_em_sg, a_em_nb, a_em_wd, a_oe_sg, a_oe_nb, a_oe_wd, a_oa_sg, a_oa_wd, a_t2_sg, a_t2_wd]
                        refine tm_getK (K := 8) dt_Ru_readTest_95 hWw178 tpt0 fl_Ru_30 rfl gk186 ?_
                        have gb187 := tm_kb (k := 8) (K := 8) hWw178 tpt0 rfl rfl gk186
                        have gb188 := a_wd_b f L (a_fact f K L (10 - (a)).toNat G46) hK
                        refine ev_bipush dt_Ru_readTest_98 rfl ?_
                        refine ev_icmp_eq (tgt := 112) dt_Ru_readTest_100 (by decide) (by omega) (by omega) (fun h189 => ?_) (fun h189 => ?_)
                        · skip
                          refine ev_iconst dt_Ru_readTest_112 ?_
                          refine ev_goto (tgt := 117) dt_Ru_readTest_113 (by decide) ?_
                          refine ev_istore (l' := [_, _, _, _, _, _, _]) dt_Ru_readTest_117 (Nat.le_of_ble_eq_true rfl) rfl ?_
                          refine ev_iload dt_Ru_readTest_119 rfl ?_
                          refine ev_if_eq (tgt := 128) dt_Ru_readTest_121 (by decide) (by omega) (fun h190 => ?_) (fun h190 => ?_)
                          · skip
                            exfalso
                            omega
                          · skip
                            refine ev_aload_n dt_Ru_readTest_124 rfl rfl ?_
                            refine tm_vv dt_Ru_readTest_125 (gx_Ta_advance hWw178 h_tp hK (by omega) hx179) kb_Ru_37 ⟨im_Ta_advance, se_Ta_advance⟩ rfl hWw178 tpt0 rfl (Nat.le_of_ble_eq_true rfl) (by omega) (fun w191 hWw191 hRw191 => ?_)
                            obtain ⟨hfw191, hpw191⟩ := hRw191
                            have hFw191 : ∀ (p : Nat) (j : Int), ¬ (p = (rr + 1) ∨ (p = rr ∧ (j = 1 ∨ j = 2)) ∨ (p = tp ∧ (j = 2 ∨ j = 5 ∨ j = 6 ∨ j = 7 ∨ j = 8 ∨ j = 4))) → tm_g w191 p j = tm_g w p j := fun p j h => (hfw191 p j (by omega)).trans (hFw178 p j h)
                            refine ev_iinc (l' := [_, _, _, _, _, _, _]) dt_Ru_readTest_128 rfl rfl ?_
                            refine ev_goto (tgt := 11) dt_Ru_readTest_131 (by decide) ?_
                            exact tm_loc (tm_le_s (tm_le_s (tm_le_s (tm_le_s (tm_le_s (tm_le_s (tm_le_s tm_le_0))))))) (ihL40 (0) (0) (1) ((i44 + 1)) w191 hWw191 hFw191 ((a_adv f L (a_t2 f K L i42 (a_oa i41 (-31) (a_fact f K L (10 - a).toNat G46))))) hpw191 (by omega) (by omega) (by omega) (by omega) (by omega) (by omega) (by omega) (by omega) (by first | exact (if_pos (by omega)).trans ((a_tsA (by omega) (by omega) (by omega) (by omega)).symm.trans ((if_pos (by omega)).symm.trans q0L40)) | exact (if_pos (by omega)).trans ((a_tsB (by omega) (by omega) (by omega)).symm.trans ((if_pos (by omega)).symm.trans q0L40)) | exact (if_neg (by omega)).trans ((a_tsC (by omega) (by omega) (by omega) (by omega)).symm.trans ((if_pos (by omega)).symm.trans q0L40)) | (exfalso; omega)) (by omega))
                        · skip
                          refine ev_aload_n dt_Ru_readTest_103 rfl rfl ?_
                          have gk192 : tm_g w178 tp 8 = some (ab_I (a_wd f K L (a_fact f K L (10 - (a)).toNat G46))) := by rw [a_R_wd hx179]; simp only [a_em_sg, a_em_nb, a_em_wd, a_oe_sg, a_oe_nb, a_oe_wd, a_oa_sg, a_oa_wd, a_t2_sg, a_t2_wd]
                          refine tm_getK (K := 8) dt_Ru_readTest_104 hWw178 tpt0 fl_Ru_30 rfl gk192 ?_
                          have gb193 := tm_kb (k := 8) (K := 8) hWw178 tpt0 rfl rfl gk192
                          have gb194 := a_wd_b f L (a_fact f K L (10 - (a)).toNat G46) hK
                          refine ev_bipush dt_Ru_readTest_107 rfl ?_
                          refine ev_icmp_ne (tgt := 116) dt_Ru_readTest_109 (by decide) (by omega) (by omega) (fun h195 => ?_) (fun h195 => ?_)
                          · skip
                            refine ev_iconst dt_Ru_readTest_116 ?_
                            refine ev_istore (l' := [_, _, _, _, _, _, _]) dt_Ru_readTest_117 (Nat.le_of_ble_eq_true rfl) rfl ?_
                            refine ev_iload dt_Ru_readTest_119 rfl ?_
                            refine ev_if_eq (tgt := 128) dt_Ru_readTest_121 (by decide) (by omega) (fun h196 => ?_) (fun h196 => ?_)
                            · skip
                              refine ev_iinc (l' := [_, _, _, _, _, _, _]) dt_Ru_readTest_128 rfl rfl ?_
                              refine ev_goto (tgt := 11) dt_Ru_readTest_131 (by decide) ?_
                              exact tm_loc (tm_le_s (tm_le_s (tm_le_s (tm_le_s (tm_le_s (tm_le_s (tm_le_s tm_le_0))))))) (ihL40 (0) (0) (0) ((i44 + 1)) w178 hWw178 hFw178 ((a_t2 f K L i42 (a_oa i41 (-31) (a_fact f K L (10 - a).toNat G46)))) hx179 (by omega) (by omega) (by omega) (by omega) (by omega) (by omega) (by omega) (by omega) (by first | exact (if_pos (by omega)).trans ((a_tsA (by omega) (by omega) (by omega) (by omega)).symm.trans ((if_pos (by omega)).symm.trans q0L40)) | exact (if_pos (by omega)).trans ((a_tsB (by omega) (by omega) (by omega)).symm.trans ((if_pos (by omega)).symm.trans q0L40)) | exact (if_neg (by omega)).trans ((a_tsC (by omega) (by omega) (by omega) (by omega)).symm.trans ((if_pos (by omega)).symm.trans q0L40)) | (exfalso; omega)) (by omega))
                            · skip
                              exfalso
                              omega
                          · skip
                            refine ev_iconst dt_Ru_readTest_112 ?_
                            refine ev_goto (tgt := 117) dt_Ru_readTest_113 (by decide) ?_
                            refine ev_istore (l' := [_, _, _, _, _, _, _]) dt_Ru_readTest_117 (Nat.le_of_ble_eq_true rfl) rfl ?_
                            refine ev_iload dt_Ru_readTest_119 rfl ?_
                            refine ev_if_eq (tgt := 128) dt_Ru_readTest_121 (by decide) (by omega) (fun h197 => ?_) (fun h197 => ?_)
                            · skip
                              exfalso
                              omega
                            · skip
                              refine ev_aload_n dt_Ru_readTest_124 rfl rfl ?_
                              refine tm_vv dt_Ru_readTest_125 (gx_Ta_advance hWw178 h_tp hK (by omega) hx179) kb_Ru_37 ⟨im_Ta_advance, se_Ta_advance⟩ rfl hWw178 tpt0 rfl (Nat.le_of_ble_eq_true rfl) (by omega) (fun w198 hWw198 hRw198 => ?_)
                              obtain ⟨hfw198, hpw198⟩ := hRw198
                              have hFw198 : ∀ (p : Nat) (j : Int), ¬ (p = (rr + 1) ∨ (p = rr ∧ (j = 1 ∨ j = 2)) ∨ (p = tp ∧ (j = 2 ∨ j = 5 ∨ j = 6 ∨ j = 7 ∨ j = 8 ∨ j = 4))) → tm_g w198 p j = tm_g w p j := fun p j h => (hfw198 p j (by omega)).trans (hFw178 p j h)
                              refine ev_iinc (l' := [_, _, _, _, _, _, _]) dt_Ru_readTest_128 rfl rfl ?_
                              refine ev_goto (tgt := 11) dt_Ru_readTest_131 (by decide) ?_
                              exact tm_loc (tm_le_s (tm_le_s (tm_le_s (tm_le_s (tm_le_s (tm_le_s (tm_le_s tm_le_0))))))) (ihL40 (0) (0) (1) ((i44 + 1)) w198 hWw198 hFw198 ((a_adv f L (a_t2 f K L i42 (a_oa i41 (-31) (a_fact f K L (10 - a).toNat G46))))) hpw198 (by omega) (by omega) (by omega) (by omega) (by omega) (by omega) (by omega) (by omega) (by first | exact (if_pos (by omega)).trans ((a_tsA (by omega) (by omega) (by omega) (by omega)).symm.trans ((if_pos (by omega)).symm.trans q0L40)) | exact (if_pos (by omega)).trans ((a_tsB (by omega) (by omega) (by omega)).symm.trans ((if_pos (by omega)).symm.trans q0L40)) | exact (if_neg (by omega)).trans ((a_tsC (by omega) (by omega) (by omega) (by omega)).symm.trans ((if_pos (by omega)).symm.trans q0L40)) | (exfalso; omega)) (by omega))
                      · skip
                        refine ev_iconst dt_Ru_readTest_87 ?_
                        refine ev_goto (tgt := 92) dt_Ru_readTest_88 (by decide) ?_
                        refine ev_istore (l' := [_, _, _, _, _, _, _]) dt_Ru_readTest_92 (Nat.le_of_ble_eq_true rfl) rfl ?_
                        refine ev_aload_n dt_Ru_readTest_94 rfl rfl ?_
                        have gk199 : tm_g w178 tp 8 = some (ab_I (a_wd f K L (a_fact f K L (10 - (a)).toNat G46))) := by rw [a_R_wd hx179]; simp only [a_em_sg, a_em_nb, a_em_wd, a_oe_sg, a_oe_nb, a_oe_wd, a_oa_sg, a_oa_wd, a_t2_sg, a_t2_wd]
                        refine tm_getK (K := 8) dt_Ru_readTest_95 hWw178 tpt0 fl_Ru_30 rfl gk199 ?_
                        have gb200 := tm_kb (k := 8) (K := 8) hWw178 tpt0 rfl rfl gk199
                        have gb201 := a_wd_b f L (a_fact f K L (10 - (a)).toNat G46) hK
                        refine ev_bipush dt_Ru_readTest_98 rfl ?_
                        refine ev_icmp_eq (tgt := 112) dt_Ru_readTest_100 (by decide) (by omega) (by omega) (fun h202 => ?_) (fun h202 => ?_)
                        · skip
                          exfalso
                          omega
                        · skip
                          refine ev_aload_n dt_Ru_readTest_103 rfl rfl ?_
                          have gk203 : tm_g w178 tp 8 = some (ab_I (a_wd f K L (a_fact f K L (10 - (a)).toNat G46))) := by rw [a_R_wd hx179]; simp only [a_em_sg, a_em_nb, a_em_wd, a_oe_sg, a_oe_nb, a_oe_wd, a_oa_sg, a_oa_wd, a_t2_sg, a_t2_wd]
                          refine tm_getK (K := 8) dt_Ru_readTest_104 hWw178 tpt0 fl_Ru_30 rfl gk203 ?_
                          have gb204 := tm_kb (k := 8) (K := 8) hWw178 tpt0 rfl rfl gk203
                          have gb205 := a_wd_b f L (a_fact f K L (10 - (a)).toNat G46) hK
                          refine ev_bipush dt_Ru_readTest_107 rfl ?_
                          refine ev_icmp_ne (tgt := 116) dt_Ru_readTest_109 (by decide) (by omega) (by omega) (fun h206 => ?_) (fun h206 => ?_)
                          · skip
                            exfalso
                            omega
                          · skip
                            refine ev_iconst dt_Ru_readTest_112 ?_
                            refine ev_goto (tgt := 117) dt_Ru_readTest_113 (by decide) ?_
                            refine ev_istore (l' := [_, _, _, _, _, _, _]) dt_Ru_readTest_117 (Nat.le_of_ble_eq_true rfl) rfl ?_
                            refine ev_iload dt_Ru_readTest_119 rfl ?_
                            refine ev_if_eq (tgt := 128) dt_Ru_readTest_121 (by decide) (by omega) (fun h207 => ?_) (fun h207 => ?_)
                            · skip
                              exfalso
                              omega
                            · skip
                              refine ev_aload_n dt_Ru_readTest_124 rfl rfl ?_
                              refine tm_vv dt_Ru_readTest_125 (gx_Ta_advance hWw178 h_tp hK (by omega) hx179) kb_Ru_37 ⟨im_Ta_advance, se_Ta_advance⟩ rfl hWw178 tpt0 rfl (Nat.le_of_ble_eq_true rfl) (by omega) (fun w208 hWw208 hRw208 => ?_)
                              obtain ⟨hfw208, hpw208⟩ := hRw208
                              have hFw208 : ∀ (p : Nat) (j : Int), ¬ (p = (rr + 1) ∨ (p = rr ∧ (j = 1 ∨ j = 2)) ∨ (p = tp ∧ (j = 2 ∨ j = 5 ∨ j = 6 ∨ j = 7 ∨ j = 8 ∨ j = 4))) → tm_g w208 p j = tm_g w p j := fun p j h => (hfw208 p j (by omega)).trans (hFw178 p j h)
                              refine ev_iinc (l' := [_, _, _, _, _, _, _]) dt_Ru_readTest_128 rfl rfl ?_
                              refine ev_goto (tgt := 11) dt_Ru_readTest_131 (by decide) ?_
                              exact tm_loc (tm_le_s (tm_le_s (tm_le_s (tm_le_s (tm_le_s (tm_le_s (tm_le_s tm_le_0))))))) (ihL40 (0) (1) (1) ((i44 + 1)) w208 hWw208 hFw208 ((a_adv f L (a_t2 f K L i42 (a_oa i41 (-31) (a_fact f K L (10 - a).toNat G46))))) hpw208 (by omega) (by omega) (by omega) (by omega) (by omega) (by omega) (by omega) (by omega) (by first | exact (if_pos (by omega)).trans ((a_tsA (by omega) (by omega) (by omega) (by omega)).symm.trans ((if_pos (by omega)).symm.trans q0L40)) | exact (if_pos (by omega)).trans ((a_tsB (by omega) (by omega) (by omega)).symm.trans ((if_pos (by omega)).symm.trans q0L40)) | exact (if_neg (by omega)).trans ((a_tsC (by omega) (by omega) (by omega) (by omega)).symm.trans ((if_pos (by omega)).symm.trans q0L40)) | (exfalso; omega)) (by omega))
            · skip
              refine ev_iconst dt_Ru_readTest_48 ?_
              refine ev_goto (tgt := 53) dt_Ru_readTest_49 (by decide) ?_
              refine ev_istore_n (l' := [_, _, _, _, _, _, _]) dt_Ru_readTest_53 rfl (Nat.le_of_ble_eq_true rfl) rfl ?_
              refine ev_iload dt_Ru_readTest_54 rfl ?_
              refine ev_if_eq (tgt := 69) dt_Ru_readTest_56 (by decide) (by omega) (fun h209 => ?_) (fun h209 => ?_)
              · skip
                have hx210 := a_R_eq hx142 (show (a_oa i41 (-31) (a_fact f K L (10 - a).toNat G46)) = (a_t2 f K L i42 (a_oa i41 (-31) (a_fact f K L (10 - a).toNat G46))) from (by unfold a_t2; (repeat' split) <;> first | rfl | (exfalso; simp only [a_oa_wd] at *; omega)))
                refine ev_iload dt_Ru_readTest_69 rfl ?_
                refine ev_if_eq (tgt := 78) dt_Ru_readTest_71 (by decide) (by omega) (fun h211 => ?_) (fun h211 => ?_)
                · skip
                  refine ev_aload_n dt_Ru_readTest_78 rfl rfl ?_
                  have gk212 : tm_g w141 tp 8 = some (ab_I (a_wd f K L (a_fact f K L (10 - (a)).toNat G46))) := by rw [a_R_wd hx210]; simp only [a_em_sg, a_em_nb, a_em_wd, a_oe_sg, a_oe_nb, a_oe_wd, a_oa_sg, a_oa_wd, a_t2_sg, a_t2_wd]
                  refine tm_getK (K := 8) dt_Ru_readTest_79 hWw141 tpt0 fl_Ru_30 rfl gk212 ?_
                  have gb213 := tm_kb (k := 8) (K := 8) hWw141 tpt0 rfl rfl gk212
                  have gb214 := a_wd_b f L (a_fact f K L (10 - (a)).toNat G46) hK
                  refine ev_bipush dt_Ru_readTest_82 rfl ?_
                  refine ev_icmp_ne (tgt := 91) dt_Ru_readTest_84 (by decide) (by omega) (by omega) (fun h215 => ?_) (fun h215 => ?_)
                  · skip
                    refine ev_iconst dt_Ru_readTest_91 ?_
                    refine ev_istore (l' := [_, _, _, _, _, _, _]) dt_Ru_readTest_92 (Nat.le_of_ble_eq_true rfl) rfl ?_
                    refine ev_aload_n dt_Ru_readTest_94 rfl rfl ?_
                    have gk216 : tm_g w141 tp 8 = some (ab_I (a_wd f K L (a_fact f K L (10 - (a)).toNat G46))) := by rw [a_R_wd hx210]; simp only [a_em_sg, a_em_nb, a_em_wd, a_oe_sg, a_oe_nb, a_oe_wd, a_oa_sg, a_oa_wd, a_t2_sg, a_t2_wd]
                    refine tm_getK (K := 8) dt_Ru_readTest_95 hWw141 tpt0 fl_Ru_30 rfl gk216 ?_
                    have gb217 := tm_kb (k := 8) (K := 8) hWw141 tpt0 rfl rfl gk216
                    have gb218 := a_wd_b f L (a_fact f K L (10 - (a)).toNat G46) hK
                    refine ev_bipush dt_Ru_readTest_98 rfl ?_
                    refine ev_icmp_eq (tgt := 112) dt_Ru_readTest_100 (by decide) (by omega) (by omega) (fun h219 => ?_) (fun h219 => ?_)
                    · skip
                      refine ev_iconst dt_Ru_readTest_112 ?_
                      refine ev_goto (tgt := 117) dt_Ru_readTest_113 (by decide) ?_
                      refine ev_istore (l' := [_, _, _, _, _, _, _]) dt_Ru_readTest_117 (Nat.le_of_ble_eq_true rfl) rfl ?_
                      refine ev_iload dt_Ru_readTest_119 rfl ?_
                      refine ev_if_eq (tgt := 128) dt_Ru_readTest_121 (by decide) (by omega) (fun h220 => ?_) (fun h220 => ?_)
                      · skip
                        exfalso
                        omega
                      · skip
                        refine ev_aload_n dt_Ru_readTest_124 rfl rfl ?_
                        refine tm_vv dt_Ru_readTest_125 (gx_Ta_advance hWw141 h_tp hK (by omega) hx210) kb_Ru_37 ⟨im_Ta_advance, se_Ta_advance⟩ rfl hWw141 tpt0 rfl (Nat.le_of_ble_eq_true rfl) (by omega) (fun w221 hWw221 hRw221 => ?_)
                        obtain ⟨hfw221, hpw221⟩ := hRw221
                        have hFw221 : ∀ (p : Nat) (j : Int), ¬ (p = (rr + 1) ∨ (p = rr ∧ (j = 1 ∨ j = 2)) ∨ (p = tp ∧ (j = 2 ∨ j = 5 ∨ j = 6 ∨ j = 7 ∨ j = 8 ∨ j = 4))) → tm_g w221 p j = tm_g w p j := fun p j h => (hfw221 p j (by omega)).trans (hFw141 p j h)
                        refine ev_iinc (l' := [_, _, _, _, _, _, _]) dt_Ru_readTest_128 rfl rfl ?_
                        refine ev_goto (tgt := 11) dt_Ru_readTest_131 (by decide) ?_
                        exact tm_loc (tm_le_s (tm_le_s (tm_le_s (tm_le_s (tm_le_s (tm_le_s (tm_le_s tm_le_0))))))) (ihL40 (1) (0) (1) ((i44 + 1)) w221 hWw221 hFw221 ((a_adv f L (a_t2 f K L i42 (a_oa i41 (-31) (a_fact f K L (10 - a).toNat G46))))) hpw221 (by omega) (by omega) (by omega) (by omega) (by omega) (by omega) (by omega) (by omega) (by first | exact (if_pos (by omega)).trans ((a_tsA (by omega) (by omega) (by omega) (by omega)).symm.trans ((if_pos (by omega)).symm.trans q0L40)) | exact (if_pos (by omega)).trans ((a_tsB (by omega) (by omega) (by omega)).symm.trans ((if_pos (by omega)).symm.trans q0L40)) | exact (if_neg (by omega)).trans ((a_tsC (by omega) (by omega) (by omega) (by omega)).symm.trans ((if_pos (by omega)).symm.trans q0L40)) | (exfalso; omega)) (by omega))
                    · skip
                      exfalso
                      omega
                  · skip
                    exfalso
                    omega
                · skip
                  exfalso
                  omega
              · skip
                refine ev_iload_n dt_Ru_readTest_59 rfl rfl ?_
                refine ev_if_ne (tgt := 69) dt_Ru_readTest_60 (by decide) (by omega) (fun h222 => ?_) (fun h222 => ?_)
                · skip
                  have hx223 := a_R_eq hx142 (show (a_oa i41 (-31) (a_fact f K L (10 - a).toNat G46)) = (a_t2 f K L i42 (a_oa i41 (-31) (a_fact f K L (10 - a).toNat G46))) from (by unfold a_t2; (repeat' split) <;> first | rfl | (exfalso; simp only [a_oa_wd] at *; omega)))
                  refine ev_iload dt_Ru_readTest_69 rfl ?_
                  refine ev_if_eq (tgt := 78) dt_Ru_readTest_71 (by decide) (by omega) (fun h224 => ?_) (fun h224 => ?_)
                  · skip
                    exfalso
                    omega
                  · skip
                    refine ev_iload_n dt_Ru_readTest_74 rfl rfl ?_
                    refine ev_if_ne (tgt := 87) dt_Ru_readTest_75 (by decide) (by omega) (fun h225 => ?_) (fun h225 => ?_)
                    · skip
                      refine ev_iconst dt_Ru_readTest_87 ?_
                      refine ev_goto (tgt := 92) dt_Ru_readTest_88 (by decide) ?_
                      refine ev_istore (l' := [_, _, _, _, _, _, _]) dt_Ru_readTest_92 (Nat.le_of_ble_eq_true rfl) rfl ?_
                      refine ev_aload_n dt_Ru_readTest_94 rfl rfl ?_
                      have gk226 : tm_g w141 tp 8 = some (ab_I (a_wd f K L (a_fact f K L (10 - (a)).toNat G46))) := by rw [a_R_wd hx223]; simp only [a_em_sg, a_em_nb, a_em_wd, a_oe_sg, a_oe_nb, a_oe_wd, a_oa_sg, a_oa_wd, a_t2_sg, a_t2_wd]
                      refine tm_getK (K := 8) dt_Ru_readTest_95 hWw141 tpt0 fl_Ru_30 rfl gk226 ?_
                      have gb227 := tm_kb (k := 8) (K := 8) hWw141 tpt0 rfl rfl gk226
                      have gb228 := a_wd_b f L (a_fact f K L (10 - (a)).toNat G46) hK
                      refine ev_bipush dt_Ru_readTest_98 rfl ?_
                      refine ev_icmp_eq (tgt := 112) dt_Ru_readTest_100 (by decide) (by omega) (by omega) (fun h229 => ?_) (fun h229 => ?_)
                      · skip
                        refine ev_iconst dt_Ru_readTest_112 ?_
                        refine ev_goto (tgt := 117) dt_Ru_readTest_113 (by decide) ?_
                        refine ev_istore (l' := [_, _, _, _, _, _, _]) dt_Ru_readTest_117 (Nat.le_of_ble_eq_true rfl) rfl ?_
                        refine ev_iload dt_Ru_readTest_119 rfl ?_
                        refine ev_if_eq (tgt := 128) dt_Ru_readTest_121 (by decide) (by omega) (fun h230 => ?_) (fun h230 => ?_)
                        · skip
                          exfalso
                          omega
                        · skip
                          refine ev_aload_n dt_Ru_readTest_124 rfl rfl ?_
                          refine tm_vv dt_Ru_readTest_125 (gx_Ta_advance hWw141 h_tp hK (by omega) hx223) kb_Ru_37 ⟨im_Ta_advance, se_Ta_advance⟩ rfl hWw141 tpt0 rfl (Nat.le_of_ble_eq_true rfl) (by omega) (fun w231 hWw231 hRw231 => ?_)
                          obtain ⟨hfw231, hpw231⟩ := hRw231
                          have hFw231 : ∀ (p : Nat) (j : Int), ¬ (p = (rr + 1) ∨ (p = rr ∧ (j = 1 ∨ j = 2)) ∨ (p = tp ∧ (j = 2 ∨ j = 5 ∨ j = 6 ∨ j = 7 ∨ j = 8 ∨ j = 4))) → tm_g w231 p j = tm_g w p j := fun p j h => (hfw231 p j (by omega)).trans (hFw141 p j h)
                          refine ev_iinc (l' := [_, _, _, _, _, _, _]) dt_Ru_readTest_128 rfl rfl ?_
                          refine ev_goto (tgt := 11) dt_Ru_readTest_131 (by decide) ?_
                          exact tm_loc (tm_le_s (tm_le_s (tm_le_s (tm_le_s (tm_le_s (tm_le_s (tm_le_s tm_le_0))))))) (ihL40 (1) (1) (1) ((i44 + 1)) w231 hWw231 hFw231 ((a_adv f L (a_t2 f K L i42 (a_oa i41 (-31) (a_fact f K L (10 - a).toNat G46))))) hpw231 (by omega) (by omega) (by omega) (by omega) (by omega) (by omega) (by omega) (by omega) (by first | exact (if_pos (by omega)).trans ((a_tsA (by omega) (by omega) (by omega) (by omega)).symm.trans ((if_pos (by omega)).symm.trans q0L40)) | exact (if_pos (by omega)).trans ((a_tsB (by omega) (by omega) (by omega)).symm.trans ((if_pos (by omega)).symm.trans q0L40)) | exact (if_neg (by omega)).trans ((a_tsC (by omega) (by omega) (by omega) (by omega)).symm.trans ((if_pos (by omega)).symm.trans q0L40)) | (exfalso; omega)) (by omega))
                      · skip
                        exfalso
                        omega
                    · skip
                      exfalso
                      omega
                · skip
                  exfalso
                  omega
  exact tm_loc (tm_le_s (tm_le_s (tm_le_s (tm_le_s (tm_le_s (tm_le_s (tm_le_s tm_le_0))))))) (L40 (61 - (0) + 1 : Int).toNat (0) (0) (1) (0)  w hW hF0 (G) hG (by omega) (by omega) (by omega) (by omega) (by omega) (by omega) (by omega) (by omega) (if_pos rfl) (by omega))
theorem gx_RuFT : ∀ m : Nat, gu_Fact m ∧ gu_Test m := by
  intro m
  induction m with
  | zero => exact ⟨fun N T w f K L G rr tp hW h_rr h_tp ne a l u hK hG hm => by exfalso; omega, fun N T w f K L G rr tp hW h_rr h_tp ne a l u hK hG hm => by exfalso; omega⟩
  | succ m ih =>
    have hF : gu_Fact (m + 1) := fun N T w f K L G rr tp hW h_rr h_tp ne a l u hK hG hm => gx_RuF ih.1 ih.2 hW h_rr h_tp ne a l u (by omega) hK hG
    exact ⟨hF, fun N T w f K L G rr tp hW h_rr h_tp ne a l u hK hG hm => gx_RuT hF hW h_rr h_tp ne a l u hm hK hG⟩
theorem gx_Ru_readTest {N : Nat} {T : Nat → tm_S} {w : ab_W} {f : Int → Int} {K : Nat} {L : Int} {G : a_S} {rr : Nat} {tp : Nat} (hW : tm_W N T w) (h_rr : is_Ru T rr) (h_tp : is_Ta T tp) (ne_rr_tp : rr + 2 ≤ tp ∨ tp + 2 ≤ rr) (a : Int) (l_a : 0 ≤ a) (u_a : a ≤ 10)  (hK : K < g_ln.length) (hG : a_R f K L tp rr w G) : ab_Mt g_G g_rs mt_Ru_readTest (2 * (10 - a).toNat + 13) 0 0 [ab_R rr, ab_R tp, ab_I a] w (tm_Qv N T (fun w2 => (∀ (p : Nat) (j : Int), ¬ (p = (rr + 1) ∨ (p = rr ∧ (j = 1 ∨ j = 2)) ∨ (p = tp ∧ (j = 2 ∨ j = 5 ∨ j = 6 ∨ j = 7 ∨ j = 8 ∨ j = 4))) → tm_g w2 p j = tm_g w p j) ∧ (a_R f K L tp rr w2 (a_tst f K L (a_fact f K L (10 - a).toNat) 61 0 0 G)))) := (gx_RuFT 11).2 _ _ _ _ _ _ _ _ _ hW h_rr h_tp ne_rr_tp a l_a u_a hK hG (by omega)
set_option maxHeartbeats 4000000 in
set_option maxRecDepth 10000 in
theorem gx_Ru_readAll {N : Nat} {T : Nat → tm_S} {w : ab_W} {f : Int → Int} {rr : Nat} {tp : Nat} (hW : tm_W N T w) (h_rr : is_Ru T rr) (h_tp : is_Ta T tp) (ne_rr_tp : rr + 2 ≤ tp ∨ tp + 2 ≤ rr) (L : Int) (k_L : tm_g w tp 1 = some (ab_I L)) (hf : ∀ j, tm_g w (tp + 1) j = some (ab_I (f j))) : ab_Mt g_G g_rs mt_Ru_readAll 34 0 0 [ab_R rr, ab_R tp] w (tm_Qi N T (fun v w2 => (∀ (p : Nat) (j : Int), ¬ (p = (rr + 1) ∨ (p = rr ∧ (j = 1 ∨ j = 2)) ∨ (p = tp ∧ (j = 2 ∨ j = 5 ∨ j = 6 ∨ j = 7 ∨ j = 8 ∨ j = 4 ∨ j = 3))) → tm_g w2 p j = tm_g w p j) ∧ ((-2147483648) ≤ v ∧ v ≤ 2147483647 ∧ (v = (a_all f 2 L (0, tk_sk f L 0, 0, [])).1 ∧ a_R f 2 L tp rr w2 (a_all f 2 L (0, tk_sk f L 0, 0, [])))))) := by
  have hK : 2 < g_ln.length := by decide
  obtain ⟨rrt0, rrt1⟩ := id h_rr
  obtain ⟨tpt0, tpt1⟩ := id h_tp
  have hF0 : ∀ (p : Nat) (j : Int), ¬ (p = (rr + 1) ∨ (p = rr ∧ (j = 1 ∨ j = 2)) ∨ (p = tp ∧ (j = 2 ∨ j = 5 ∨ j = 6 ∨ j = 7 ∨ j = 8 ∨ j = 4 ∨ j = 3))) → tm_g w p j = tm_g w p j := fun _ _ _ => rfl
  refine ab_Mt.of rfl (Nat.le_of_ble_eq_true rfl) ?_
  show ab_Ev g_G g_rs mt_Ru_readAll _ _ _ 0 [some (ab_R rr), some (ab_R tp), none, none, none] [] _ _
  have b_L : 0 ≤ L ∧ L ≤ 400 := by obtain ⟨a, e, h0, h1⟩ := tm_peek (k := 1) (K := 1) hW tpt0 rfl rfl; rw [k_L] at e; injection e with e; injection e with e; omega
  refine ev_aload_n dt_Ru_readAll_0 rfl rfl ?_
  refine ev_ldcS (k := 2) dt_Ru_readAll_1 (List.mem_of_getElem? (i := 2) rfl) (by decide) ?_
  refine tm_vv dt_Ru_readAll_3 (gt_begin (f := f) (L := L) (K := 2) hW h_tp hK k_L hf) kb_Ru_17 ⟨im_Ta_begin, se_Ta_begin⟩ rfl hW tpt0 rfl (Nat.le_of_ble_eq_true rfl) (by decide) (fun w232 hWw232 hRw232 => ?_)
  obtain ⟨hfw232, hT0⟩ := hRw232
  have hFw232 : ∀ (p : Nat) (j : Int), ¬ (p = (rr + 1) ∨ (p = rr ∧ (j = 1 ∨ j = 2)) ∨ (p = tp ∧ (j = 2 ∨ j = 5 ∨ j = 6 ∨ j = 7 ∨ j = 8 ∨ j = 4 ∨ j = 3))) → tm_g w232 p j = tm_g w p j := fun p j h => (hfw232 p j (by omega)).trans (hF0 p j h)
  refine ev_aload_n dt_Ru_readAll_6 rfl rfl ?_
  refine ev_iconst dt_Ru_readAll_7 ?_
  refine tm_putI (K := 1) dt_Ru_readAll_8 hWw232 rrt0 (fp_Ru_23 _) rfl rfl trivial (by omega) (by omega) (fun w233 hWw233 kkw233 hfw233 => ?_)
  have hFw233 : ∀ (p : Nat) (j : Int), ¬ (p = (rr + 1) ∨ (p = rr ∧ (j = 1 ∨ j = 2)) ∨ (p = tp ∧ (j = 2 ∨ j = 5 ∨ j = 6 ∨ j = 7 ∨ j = 8 ∨ j = 4 ∨ j = 3))) → tm_g w233 p j = tm_g w p j := fun p j h => (hfw233 p j (by omega)).trans (hFw232 p j h)
  refine ev_aload_n dt_Ru_readAll_11 rfl rfl ?_
  refine ev_iconst dt_Ru_readAll_12 ?_
  refine tm_putI (K := 2) dt_Ru_readAll_13 hWw233 rrt0 (fp_Ru_27 _) rfl rfl trivial (by omega) (by omega) (fun w234 hWw234 kkw234 hfw234 => ?_)
  have hFw234 : ∀ (p : Nat) (j : Int), ¬ (p = (rr + 1) ∨ (p = rr ∧ (j = 1 ∨ j = 2)) ∨ (p = tp ∧ (j = 2 ∨ j = 5 ∨ j = 6 ∨ j = 7 ∨ j = 8 ∨ j = 4 ∨ j = 3))) → tm_g w234 p j = tm_g w p j := fun p j h => (hfw234 p j (by omega)).trans (hFw233 p j h)
  have z235 := (hfw234 rr 1 (by omega)).trans kkw233
  have hG0 : a_R f 2 L tp rr w234 (0, tk_sk f L 0, 0, []) := ⟨a_T_fr (hT0 (0, [])) (fun p j hp => (hfw234 p j (by omega)).trans (hfw233 p j (by omega))), kkw234, Nat.zero_le _, z235, fun k x h => by rw [List.getElem?_nil] at h; cases h⟩
  refine ev_iconst dt_Ru_readAll_16 ?_
  refine ev_istore_n (l' := [_, _, _, _, _]) dt_Ru_readAll_17 rfl (Nat.le_of_ble_eq_true rfl) rfl ?_
  refine ev_iconst dt_Ru_readAll_18 ?_
  refine ev_istore_n (l' := [_, _, _, _, _]) dt_Ru_readAll_19 rfl (Nat.le_of_ble_eq_true rfl) rfl ?_
  have L236 : ∀ (n : Nat) (i237 : Int) (i238 : Int)  (w239 : ab_W), tm_W N T w239 → (∀ (p : Nat) (j : Int), ¬ (p = (rr + 1) ∨ (p = rr ∧ (j = 1 ∨ j = 2)) ∨ (p = tp ∧ (j = 2 ∨ j = 5 ∨ j = 6 ∨ j = 7 ∨ j = 8 ∨ j = 4 ∨ j = 3))) → tm_g w239 p j = tm_g w p j) → ∀ G240 : a_S, a_R f 2 L tp rr w239 G240 → 0 ≤ i237 → i237 ≤ 1 → 0 ≤ i238 → i238 ≤ 13 → ((if i237 = 1 then a_al f 2 L (13 - i238).toNat G240 else G240) = a_al f 2 L 13 (0, tk_sk f L 0, 0, [])) → 13 - i238 < (n : Int) → ab_Ev g_G g_rs mt_Ru_readAll 34 0 0 20 [some (ab_R rr), some (ab_R tp), some (ab_I i237), some (ab_I i238), none] [] w239 (tm_Qi N T (fun v w2 => (∀ (p : Nat) (j : Int), ¬ (p = (rr + 1) ∨ (p = rr ∧ (j = 1 ∨ j = 2)) ∨ (p = tp ∧ (j = 2 ∨ j = 5 ∨ j = 6 ∨ j = 7 ∨ j = 8 ∨ j = 4 ∨ j = 3))) → tm_g w2 p j = tm_g w p j) ∧ ((-2147483648) ≤ v ∧ v ≤ 2147483647 ∧ (v = (a_all f 2 L (0, tk_sk f L 0, 0, [])).1 ∧ a_R f 2 L tp rr w2 (a_all f 2 L (0, tk_sk f L 0, 0, [])))))) := by
    intro n
    induction n with
    | zero =>
      intro i237 i238  w239 hWw239 hFw239 G240 hG240 li237 ui237 li238 ui238 q0L236 mL236
      exfalso
      omega
    | succ nL236 ihL236 =>
      intro i237 i238  w239 hWw239 hFw239 G240 hG240 li237 ui237 li238 ui238 q0L236 mL236
      refine ev_iload_n dt_Ru_readAll_20 rfl rfl ?_
      refine ev_if_eq (tgt := 129) dt_Ru_readAll_21 (by decide) (by omega) (fun h241 => ?_) (fun h241 => ?_)
      · skip
        have hx242 := a_R_eq hG240 (show G240 = (a_al f 2 L 13 (0, tk_sk f L 0, 0, [])) from (by rw [← q0L236]; first | rw [if_neg (by omega)] | (rw [if_pos (by omega), show (13 - i238).toNat = 0 by omega]; rfl)))
        refine ev_aload_n dt_Ru_readAll_129 rfl rfl ?_
        refine tm_getK (K := 6) dt_Ru_readAll_130 hWw239 tpt0 fl_Ru_53 rfl (a_R_sg hx242) ?_
        have gb243 := tm_kb (k := 6) (K := 6) hWw239 tpt0 rfl rfl (a_R_sg hx242)
        refine ev_iconst dt_Ru_readAll_133 ?_
        refine ev_icmp_eq (tgt := 142) dt_Ru_readAll_134 (by decide) (by omega) (by omega) (fun h244 => ?_) (fun h244 => ?_)
        · skip
          have hx245 := a_R_eq hx242 (show (a_al f 2 L 13 (0, tk_sk f L 0, 0, [])) = (a_all f 2 L (0, tk_sk f L 0, 0, [])) from (by unfold a_all; first | exact (if_pos (by omega)).symm | exact (if_neg (by omega)).symm))
          refine ev_aload_n dt_Ru_readAll_142 rfl rfl ?_
          refine tm_getK (K := 4) dt_Ru_readAll_143 hWw239 tpt0 fl_Ru_56 rfl (a_R_ft hx245) ?_
          have gb246 := tm_kb (k := 4) (K := 4) hWw239 tpt0 rfl rfl (a_R_ft hx245)
          exact ev_ireturn dt_Ru_readAll_146 rfl ⟨hWw239, _, rfl, ⟨hFw239, by omega, by omega, rfl, hx245⟩⟩
        · skip
          refine ev_aload_n dt_Ru_readAll_137 rfl rfl ?_
          refine ev_iconst dt_Ru_readAll_138 ?_
          refine tm_vv dt_Ru_readAll_139 (gx_Ta_fail hWw239 h_tp (0) (by omega) (by omega) hK (by omega) hx242) kb_Ru_33 ⟨im_Ta_fail, se_Ta_fail⟩ rfl hWw239 tpt0 rfl (Nat.le_of_ble_eq_true rfl) (by decide) (fun w247 hWw247 hRw247 => ?_)
          obtain ⟨hfw247, hpw247⟩ := hRw247
          have hFw247 : ∀ (p : Nat) (j : Int), ¬ (p = (rr + 1) ∨ (p = rr ∧ (j = 1 ∨ j = 2)) ∨ (p = tp ∧ (j = 2 ∨ j = 5 ∨ j = 6 ∨ j = 7 ∨ j = 8 ∨ j = 4 ∨ j = 3))) → tm_g w247 p j = tm_g w p j := fun p j h => (hfw247 p j (by omega)).trans (hFw239 p j h)
          have hx248 := a_R_eq hpw247 (show (a_fail 0 (a_al f 2 L 13 (0, tk_sk f L 0, 0, []))) = (a_all f 2 L (0, tk_sk f L 0, 0, [])) from (by unfold a_all; first | exact (if_pos (by omega)).symm | exact (if_neg (by omega)).symm))
          refine ev_aload_n dt_Ru_readAll_142 rfl rfl ?_
          refine tm_getK (K := 4) dt_Ru_readAll_143 hWw247 tpt0 fl_Ru_56 rfl (a_R_ft hx248) ?_
          have gb249 := tm_kb (k := 4) (K := 4) hWw247 tpt0 rfl rfl (a_R_ft hx248)
          exact ev_ireturn dt_Ru_readAll_146 rfl ⟨hWw247, _, rfl, ⟨hFw247, by omega, by omega, rfl, hx248⟩⟩
      · skip
        refine ev_iload_n dt_Ru_readAll_24 rfl rfl ?_
        refine ev_bipush dt_Ru_readAll_25 rfl ?_
        refine ev_icmp_gt (tgt := 129) dt_Ru_readAll_27 (by decide) (by omega) (by omega) (fun h250 => ?_) (fun h250 => ?_)
        · skip
          have hx251 := a_R_eq hG240 (show G240 = (a_al f 2 L 13 (0, tk_sk f L 0, 0, [])) from (by rw [← q0L236]; first | rw [if_neg (by omega)] | (rw [if_pos (by omega), show (13 - i238).toNat = 0 by omega]; rfl)))
          refine ev_aload_n dt_Ru_readAll_129 rfl rfl ?_
          refine tm_getK (K := 6) dt_Ru_readAll_130 hWw239 tpt0 fl_Ru_53 rfl (a_R_sg hx251) ?_
          have gb252 := tm_kb (k := 6) (K := 6) hWw239 tpt0 rfl rfl (a_R_sg hx251)
          refine ev_iconst dt_Ru_readAll_133 ?_
          refine ev_icmp_eq (tgt := 142) dt_Ru_readAll_134 (by decide) (by omega) (by omega) (fun h253 => ?_) (fun h253 => ?_)
          · skip
            have hx254 := a_R_eq hx251 (show (a_al f 2 L 13 (0, tk_sk f L 0, 0, [])) = (a_all f 2 L (0, tk_sk f L 0, 0, [])) from (by unfold a_all; first | exact (if_pos (by omega)).symm | exact (if_neg (by omega)).symm))
            refine ev_aload_n dt_Ru_readAll_142 rfl rfl ?_
            refine tm_getK (K := 4) dt_Ru_readAll_143 hWw239 tpt0 fl_Ru_56 rfl (a_R_ft hx254) ?_
            have gb255 := tm_kb (k := 4) (K := 4) hWw239 tpt0 rfl rfl (a_R_ft hx254)
            exact ev_ireturn dt_Ru_readAll_146 rfl ⟨hWw239, _, rfl, ⟨hFw239, by omega, by omega, rfl, hx254⟩⟩
          · skip
            refine ev_aload_n dt_Ru_readAll_137 rfl rfl ?_
            refine ev_iconst dt_Ru_readAll_138 ?_
            refine tm_vv dt_Ru_readAll_139 (gx_Ta_fail hWw239 h_tp (0) (by omega) (by omega) hK (by omega) hx251) kb_Ru_33 ⟨im_Ta_fail, se_Ta_fail⟩ rfl hWw239 tpt0 rfl (Nat.le_of_ble_eq_true rfl) (by decide) (fun w256 hWw256 hRw256 => ?_)
            obtain ⟨hfw256, hpw256⟩ := hRw256
            have hFw256 : ∀ (p : Nat) (j : Int), ¬ (p = (rr + 1) ∨ (p = rr ∧ (j = 1 ∨ j = 2)) ∨ (p = tp ∧ (j = 2 ∨ j = 5 ∨ j = 6 ∨ j = 7 ∨ j = 8 ∨ j = 4 ∨ j = 3))) → tm_g w256 p j = tm_g w p j := fun p j h => (hfw256 p j (by omega)).trans (hFw239 p j h)
            have hx257 := a_R_eq hpw256 (show (a_fail 0 (a_al f 2 L 13 (0, tk_sk f L 0, 0, []))) = (a_all f 2 L (0, tk_sk f L 0, 0, [])) from (by unfold a_all; first | exact (if_pos (by omega)).symm | exact (if_neg (by omega)).symm))
            refine ev_aload_n dt_Ru_readAll_142 rfl rfl ?_
            refine tm_getK (K := 4) dt_Ru_readAll_143 hWw256 tpt0 fl_Ru_56 rfl (a_R_ft hx257) ?_
            have gb258 := tm_kb (k := 4) (K := 4) hWw256 tpt0 rfl rfl (a_R_ft hx257)
            exact ev_ireturn dt_Ru_readAll_146 rfl ⟨hWw256, _, rfl, ⟨hFw256, by omega, by omega, rfl, hx257⟩⟩
        · skip
          refine ev_aload_n dt_Ru_readAll_30 rfl rfl ?_
          refine tm_getK (K := 8) dt_Ru_readAll_31 hWw239 tpt0 fl_Ru_30 rfl (a_R_wd hG240) ?_
          have gb259 := tm_kb (k := 8) (K := 8) hWw239 tpt0 rfl rfl (a_R_wd hG240)
          have gb260 := a_wd_b f L G240 hK
          refine ev_bipush dt_Ru_readAll_34 rfl ?_
          refine ev_icmp_eq (tgt := 47) dt_Ru_readAll_36 (by decide) (by omega) (by omega) (fun h261 => ?_) (fun h261 => ?_)
          · skip
            refine ev_iload_n dt_Ru_readAll_47 rfl rfl ?_
            refine ev_bipush dt_Ru_readAll_48 rfl ?_
            refine ev_icmp_ne (tgt := 58) dt_Ru_readAll_50 (by decide) (by omega) (by omega) (fun h262 => ?_) (fun h262 => ?_)
            · skip
              have hx263 := a_R_eq hG240 (show G240 = (a_cl1 f 2 L (13 - (i238 + 1)).toNat G240) from (by unfold a_cl1; (repeat' split) <;> first | rfl | (exfalso; omega)))
              refine ev_aload_n dt_Ru_readAll_58 rfl rfl ?_
              refine tm_vv dt_Ru_readAll_59 (gx_Ta_advance hWw239 h_tp hK (by omega) hx263) kb_Ru_37 ⟨im_Ta_advance, se_Ta_advance⟩ rfl hWw239 tpt0 rfl (Nat.le_of_ble_eq_true rfl) (by decide) (fun w264 hWw264 hRw264 => ?_)
              obtain ⟨hfw264, hpw264⟩ := hRw264
              have hFw264 : ∀ (p : Nat) (j : Int), ¬ (p = (rr + 1) ∨ (p = rr ∧ (j = 1 ∨ j = 2)) ∨ (p = tp ∧ (j = 2 ∨ j = 5 ∨ j = 6 ∨ j = 7 ∨ j = 8 ∨ j = 4 ∨ j = 3))) → tm_g w264 p j = tm_g w p j := fun p j h => (hfw264 p j (by omega)).trans (hFw239 p j h)
              refine ev_aload_n dt_Ru_readAll_62 rfl rfl ?_
              refine ev_aload_n dt_Ru_readAll_63 rfl rfl ?_
              refine tm_vv dt_Ru_readAll_64 (gx_Ru_readSum hWw264 h_rr h_tp (by omega) hK hpw264) kb_Ru_40 ⟨im_Ru_readSum, se_Ru_readSum⟩ rfl hWw264 rrt0 rfl (Nat.le_of_ble_eq_true rfl) (by decide) (fun w265 hWw265 hRw265 => ?_)
              obtain ⟨hfw265, hpw265⟩ := hRw265
              have hFw265 : ∀ (p : Nat) (j : Int), ¬ (p = (rr + 1) ∨ (p = rr ∧ (j = 1 ∨ j = 2)) ∨ (p = tp ∧ (j = 2 ∨ j = 5 ∨ j = 6 ∨ j = 7 ∨ j = 8 ∨ j = 4 ∨ j = 3))) → tm_g w265 p j = tm_g w p j := fun p j h => (hfw265 p j (by omega)).trans (hFw264 p j h)
              refine ev_bipush dt_Ru_readAll_67 rfl ?_
              refine ev_istore (l' := [_, _, _, _, _]) dt_Ru_readAll_69 (Nat.le_of_ble_eq_true rfl) rfl ?_
              refine ev_aload_n dt_Ru_readAll_71 rfl rfl ?_
              refine tm_getK (K := 8) dt_Ru_readAll_72 hWw265 tpt0 fl_Ru_30 rfl (a_R_wd hpw265) ?_
              have gb266 := tm_kb (k := 8) (K := 8) hWw265 tpt0 rfl rfl (a_R_wd hpw265)
              have gb267 := a_wd_b f L (a_sl f 2 L 61 0 0 (a_adv f L (a_cl1 f 2 L (13 - (i238 + 1)).toNat G240))) hK
              refine ev_bipush dt_Ru_readAll_75 rfl ?_
              refine ev_icmp_ne (tgt := 94) dt_Ru_readAll_77 (by decide) (by omega) (by omega) (fun h268 => ?_) (fun h268 => ?_)
              · skip
                refine ev_aload_n dt_Ru_readAll_94 rfl rfl ?_
                refine ev_iload dt_Ru_readAll_95 rfl ?_
                refine tm_vv dt_Ru_readAll_97 (gx_Ru_emit hWw265 h_rr ((-34)) (by omega) (by omega) hK (by omega) hpw265) kb_Ru_50 ⟨im_Ru_emit, se_Ru_emit⟩ rfl hWw265 rrt0 rfl (Nat.le_of_ble_eq_true rfl) (by decide) (fun w269 hWw269 hRw269 => ?_)
                obtain ⟨hfw269, hpw269⟩ := hRw269
                have hFw269 : ∀ (p : Nat) (j : Int), ¬ (p = (rr + 1) ∨ (p = rr ∧ (j = 1 ∨ j = 2)) ∨ (p = tp ∧ (j = 2 ∨ j = 5 ∨ j = 6 ∨ j = 7 ∨ j = 8 ∨ j = 4 ∨ j = 3))) → tm_g w269 p j = tm_g w p j := fun p j h => (hfw269 p j (by omega)).trans (hFw265 p j h)
                have hx270 := a_R_eq hpw269 (show (a_em ((-34)) (a_sl f 2 L 61 0 0 (a_adv f L (a_cl1 f 2 L (13 - (i238 + 1)).toNat G240)))) = (a_cl2 f 2 L (a_sl f 2 L 61 0 0 (a_adv f L (a_cl1 f 2 L (13 - (i238 + 1)).toNat G240)))) from (by unfold a_cl2; first | exact (if_pos (by omega)).symm | exact (if_neg (by omega)).symm))
                refine ev_aload_n dt_Ru_readAll_100 rfl rfl ?_
                refine tm_getK (K := 6) dt_Ru_readAll_101 hWw269 tpt0 fl_Ru_53 rfl (a_R_sg hx270) ?_
                have gb271 := tm_kb (k := 6) (K := 6) hWw269 tpt0 rfl rfl (a_R_sg hx270)
                refine ev_bipush dt_Ru_readAll_104 rfl ?_
                refine ev_icmp_ne (tgt := 113) dt_Ru_readAll_106 (by decide) (by omega) (by omega) (fun h272 => ?_) (fun h272 => ?_)
                · skip
                  refine ev_iconst dt_Ru_readAll_113 ?_
                  refine ev_istore_n (l' := [_, _, _, _, _]) dt_Ru_readAll_114 rfl (Nat.le_of_ble_eq_true rfl) rfl ?_
                  refine ev_iload_n dt_Ru_readAll_115 rfl rfl ?_
                  refine ev_if_eq (tgt := 123) dt_Ru_readAll_116 (by decide) (by omega) (fun h273 => ?_) (fun h273 => ?_)
                  · skip
                    refine ev_iinc (l' := [_, _, _, _, _]) dt_Ru_readAll_123 rfl rfl ?_
                    refine ev_goto (tgt := 20) dt_Ru_readAll_126 (by decide) ?_
                    exact tm_loc (tm_le_s (tm_le_s (tm_le_s (tm_le_s (tm_le_n tm_le_0))))) (ihL236 (0) ((i238 + 1)) w269 hWw269 hFw269 ((a_cl2 f 2 L (a_sl f 2 L 61 0 0 (a_adv f L (a_cl1 f 2 L (13 - (i238 + 1)).toNat G240))))) hx270 (by omega) (by omega) (by omega) (by omega) (by first | exact (if_pos (by omega)).trans ((a_alA (by omega) (by omega) (by omega)).symm.trans ((if_pos (by omega)).symm.trans q0L236)) | exact (if_neg (by omega)).trans ((a_alB (by omega) (by omega) (by omega)).symm.trans ((if_pos (by omega)).symm.trans q0L236)) | (exfalso; omega)) (by omega))
                  · skip
                    exfalso
                    omega
                · skip
                  refine ev_iconst dt_Ru_readAll_109 ?_
                  refine ev_goto (tgt := 114) dt_Ru_readAll_110 (by decide) ?_
                  refine ev_istore_n (l' := [_, _, _, _, _]) dt_Ru_readAll_114 rfl (Nat.le_of_ble_eq_true rfl) rfl ?_
                  refine ev_iload_n dt_Ru_readAll_115 rfl rfl ?_
                  refine ev_if_eq (tgt := 123) dt_Ru_readAll_116 (by decide) (by omega) (fun h274 => ?_) (fun h274 => ?_)
                  · skip
                    exfalso
                    omega
                  · skip
                    refine ev_aload_n dt_Ru_readAll_119 rfl rfl ?_
                    refine tm_vv dt_Ru_readAll_120 (gx_Ta_advance hWw269 h_tp hK (by omega) hx270) kb_Ru_37 ⟨im_Ta_advance, se_Ta_advance⟩ rfl hWw269 tpt0 rfl (Nat.le_of_ble_eq_true rfl) (by decide) (fun w275 hWw275 hRw275 => ?_)
                    obtain ⟨hfw275, hpw275⟩ := hRw275
                    have hFw275 : ∀ (p : Nat) (j : Int), ¬ (p = (rr + 1) ∨ (p = rr ∧ (j = 1 ∨ j = 2)) ∨ (p = tp ∧ (j = 2 ∨ j = 5 ∨ j = 6 ∨ j = 7 ∨ j = 8 ∨ j = 4 ∨ j = 3))) → tm_g w275 p j = tm_g w p j := fun p j h => (hfw275 p j (by omega)).trans (hFw269 p j h)
                    refine ev_iinc (l' := [_, _, _, _, _]) dt_Ru_readAll_123 rfl rfl ?_
                    refine ev_goto (tgt := 20) dt_Ru_readAll_126 (by decide) ?_
                    exact tm_loc (tm_le_s (tm_le_s (tm_le_s (tm_le_s (tm_le_n tm_le_0))))) (ihL236 (1) ((i238 + 1)) w275 hWw275 hFw275 ((a_adv f L (a_cl2 f 2 L (a_sl f 2 L 61 0 0 (a_adv f L (a_cl1 f 2 L (13 - (i238 + 1)).toNat G240)))))) hpw275 (by omega) (by omega) (by omega) (by omega) (by first | exact (if_pos (by omega)).trans ((a_alA (by omega) (by omega) (by omega)).symm.trans ((if_pos (by omega)).symm.trans q0L236)) | exact (if_neg (by omega)).trans ((a_alB (by omega) (by omega) (by omega)).symm.trans ((if_pos (by omega)).symm.trans q0L236)) | (exfalso; omega)) (by omega))
              · skip
                refine ev_aload_n dt_Ru_readAll_80 rfl rfl ?_
                refine tm_vv dt_Ru_readAll_81 (gx_Ta_advance hWw265 h_tp hK (by omega) hpw265) kb_Ru_37 ⟨im_Ta_advance, se_Ta_advance⟩ rfl hWw265 tpt0 rfl (Nat.le_of_ble_eq_true rfl) (by decide) (fun w276 hWw276 hRw276 => ?_)
                obtain ⟨hfw276, hpw276⟩ := hRw276
                have hFw276 : ∀ (p : Nat) (j : Int), ¬ (p = (rr + 1) ∨ (p = rr ∧ (j = 1 ∨ j = 2)) ∨ (p = tp ∧ (j = 2 ∨ j = 5 ∨ j = 6 ∨ j = 7 ∨ j = 8 ∨ j = 4 ∨ j = 3))) → tm_g w276 p j = tm_g w p j := fun p j h => (hfw276 p j (by omega)).trans (hFw265 p j h)
                refine ev_aload_n dt_Ru_readAll_84 rfl rfl ?_
                refine ev_aload_n dt_Ru_readAll_85 rfl rfl ?_
                refine ev_iconst dt_Ru_readAll_86 ?_
                refine tm_vv dt_Ru_readAll_87 (gx_Ru_readTest hWw276 h_rr h_tp (by omega) (0) (by omega) (by omega) hK hpw276) kb_Ru_46 ⟨im_Ru_readTest, se_Ru_readTest⟩ rfl hWw276 rrt0 rfl (Nat.le_of_ble_eq_true rfl) (by omega) (fun w277 hWw277 hRw277 => ?_)
                obtain ⟨hfw277, hpw277⟩ := hRw277
                have hFw277 : ∀ (p : Nat) (j : Int), ¬ (p = (rr + 1) ∨ (p = rr ∧ (j = 1 ∨ j = 2)) ∨ (p = tp ∧ (j = 2 ∨ j = 5 ∨ j = 6 ∨ j = 7 ∨ j = 8 ∨ j = 4 ∨ j = 3))) → tm_g w277 p j = tm_g w p j := fun p j h => (hfw277 p j (by omega)).trans (hFw276 p j h)
                refine ev_bipush dt_Ru_readAll_90 rfl ?_
                refine ev_istore (l' := [_, _, _, _, _]) dt_Ru_readAll_92 (Nat.le_of_ble_eq_true rfl) rfl ?_
                refine ev_aload_n dt_Ru_readAll_94 rfl rfl ?_
                refine ev_iload dt_Ru_readAll_95 rfl ?_
                refine tm_vv dt_Ru_readAll_97 (gx_Ru_emit hWw277 h_rr ((-35)) (by omega) (by omega) hK (by omega) hpw277) kb_Ru_50 ⟨im_Ru_emit, se_Ru_emit⟩ rfl hWw277 rrt0 rfl (Nat.le_of_ble_eq_true rfl) (by decide) (fun w278 hWw278 hRw278 => ?_)
                obtain ⟨hfw278, hpw278⟩ := hRw278
                have hFw278 : ∀ (p : Nat) (j : Int), ¬ (p = (rr + 1) ∨ (p = rr ∧ (j = 1 ∨ j = 2)) ∨ (p = tp ∧ (j = 2 ∨ j = 5 ∨ j = 6 ∨ j = 7 ∨ j = 8 ∨ j = 4 ∨ j = 3))) → tm_g w278 p j = tm_g w p j := fun p j h => (hfw278 p j (by omega)).trans (hFw277 p j h)
                have hx279 := a_R_eq hpw278 (show (a_em ((-35)) (a_tst f 2 L (a_fact f 2 L ((10 : Int) - (0)).toNat) 61 0 0 (a_adv f L (a_sl f 2 L 61 0 0 (a_adv f L (a_cl1 f 2 L (13 - (i238 + 1)).toNat G240)))))) = (a_cl2 f 2 L (a_sl f 2 L 61 0 0 (a_adv f L (a_cl1 f 2 L (13 - (i238 + 1)).toNat G240)))) from (by unfold a_cl2; first | exact (if_pos (by omega)).symm | exact (if_neg (by omega)).symm))
                refine ev_aload_n dt_Ru_readAll_100 rfl rfl ?_
                refine tm_getK (K := 6) dt_Ru_readAll_101 hWw278 tpt0 fl_Ru_53 rfl (a_R_sg hx279) ?_
                have gb280 := tm_kb (k := 6) (K := 6) hWw278 tpt0 rfl rfl (a_R_sg hx279)
                refine ev_bipush dt_Ru_readAll_104 rfl ?_
                refine ev_icmp_ne (tgt := 113) dt_Ru_readAll_106 (by decide) (by omega) (by omega) (fun h281 => ?_) (fun h281 => ?_)
                · skip
                  refine ev_iconst dt_Ru_readAll_113 ?_
                  refine ev_istore_n (l' := [_, _, _, _, _]) dt_Ru_readAll_114 rfl (Nat.le_of_ble_eq_true rfl) rfl ?_
                  refine ev_iload_n dt_Ru_readAll_115 rfl rfl ?_
                  refine ev_if_eq (tgt := 123) dt_Ru_readAll_116 (by decide) (by omega) (fun h282 => ?_) (fun h282 => ?_)
                  · skip
                    refine ev_iinc (l' := [_, _, _, _, _]) dt_Ru_readAll_123 rfl rfl ?_
                    refine ev_goto (tgt := 20) dt_Ru_readAll_126 (by decide) ?_
                    exact tm_loc (tm_le_s (tm_le_s (tm_le_s (tm_le_s (tm_le_n tm_le_0))))) (ihL236 (0) ((i238 + 1)) w278 hWw278 hFw278 ((a_cl2 f 2 L (a_sl f 2 L 61 0 0 (a_adv f L (a_cl1 f 2 L (13 - (i238 + 1)).toNat G240))))) hx279 (by omega) (by omega) (by omega) (by omega) (by first | exact (if_pos (by omega)).trans ((a_alA (by omega) (by omega) (by omega)).symm.trans ((if_pos (by omega)).symm.trans q0L236)) | exact (if_neg (by omega)).trans ((a_alB (by omega) (by omega) (by omega)).symm.trans ((if_pos (by omega)).symm.trans q0L236)) | (exfalso; omega)) (by omega))
                  · skip
                    exfalso
                    omega
                · skip
                  refine ev_iconst dt_Ru_readAll_109 ?_
                  refine ev_goto (tgt := 114) dt_Ru_readAll_110 (by decide) ?_
                  refine ev_istore_n (l' := [_, _, _, _, _]) dt_Ru_readAll_114 rfl (Nat.le_of_ble_eq_true rfl) rfl ?_
                  refine ev_iload_n dt_Ru_readAll_115 rfl rfl ?_
                  refine ev_if_eq (tgt := 123) dt_Ru_readAll_116 (by decide) (by omega) (fun h283 => ?_) (fun h283 => ?_)
                  · skip
                    exfalso
                    omega
                  · skip
                    refine ev_aload_n dt_Ru_readAll_119 rfl rfl ?_
                    refine tm_vv dt_Ru_readAll_120 (gx_Ta_advance hWw278 h_tp hK (by omega) hx279) kb_Ru_37 ⟨im_Ta_advance, se_Ta_advance⟩ rfl hWw278 tpt0 rfl (Nat.le_of_ble_eq_true rfl) (by decide) (fun w284 hWw284 hRw284 => ?_)
                    obtain ⟨hfw284, hpw284⟩ := hRw284
                    have hFw284 : ∀ (p : Nat) (j : Int), ¬ (p = (rr + 1) ∨ (p = rr ∧ (j = 1 ∨ j = 2)) ∨ (p = tp ∧ (j = 2 ∨ j = 5 ∨ j = 6 ∨ j = 7 ∨ j = 8 ∨ j = 4 ∨ j = 3))) → tm_g w284 p j = tm_g w p j := fun p j h => (hfw284 p j (by omega)).trans (hFw278 p j h)
                    refine ev_iinc (l' := [_, _, _, _, _]) dt_Ru_readAll_123 rfl rfl ?_
                    refine ev_goto (tgt := 20) dt_Ru_readAll_126 (by decide) ?_
                    exact tm_loc (tm_le_s (tm_le_s (tm_le_s (tm_le_s (tm_le_n tm_le_0))))) (ihL236 (1) ((i238 + 1)) w284 hWw284 hFw284 ((a_adv f L (a_cl2 f 2 L (a_sl f 2 L 61 0 0 (a_adv f L (a_cl1 f 2 L (13 - (i238 + 1)).toNat G240)))))) hpw284 (by omega) (by omega) (by omega) (by omega) (by first | exact (if_pos (by omega)).trans ((a_alA (by omega) (by omega) (by omega)).symm.trans ((if_pos (by omega)).symm.trans q0L236)) | exact (if_neg (by omega)).trans ((a_alB (by omega) (by omega) (by omega)).symm.trans ((if_pos (by omega)).symm.trans q0L236)) | (exfalso; omega)) (by omega))
            · skip
              refine ev_aload_n dt_Ru_readAll_53 rfl rfl ?_
              refine ev_iconst dt_Ru_readAll_54 ?_
              refine tm_vv dt_Ru_readAll_55 (gx_Ta_fail hWw239 h_tp (4) (by omega) (by omega) hK (by omega) hG240) kb_Ru_33 ⟨im_Ta_fail, se_Ta_fail⟩ rfl hWw239 tpt0 rfl (Nat.le_of_ble_eq_true rfl) (by decide) (fun w285 hWw285 hRw285 => ?_)
              obtain ⟨hfw285, hpw285⟩ := hRw285
              have hFw285 : ∀ (p : Nat) (j : Int), ¬ (p = (rr + 1) ∨ (p = rr ∧ (j = 1 ∨ j = 2)) ∨ (p = tp ∧ (j = 2 ∨ j = 5 ∨ j = 6 ∨ j = 7 ∨ j = 8 ∨ j = 4 ∨ j = 3))) → tm_g w285 p j = tm_g w p j := fun p j h => (hfw285 p j (by omega)).trans (hFw239 p j h)
              have hx286 := a_R_eq hpw285 (show (a_fail 4 G240) = (a_cl1 f 2 L (13 - (i238 + 1)).toNat G240) from (by unfold a_cl1; (repeat' split) <;> first | rfl | (exfalso; omega)))
              refine ev_aload_n dt_Ru_readAll_58 rfl rfl ?_
              refine tm_vv dt_Ru_readAll_59 (gx_Ta_advance hWw285 h_tp hK (by omega) hx286) kb_Ru_37 ⟨im_Ta_advance, se_Ta_advance⟩ rfl hWw285 tpt0 rfl (Nat.le_of_ble_eq_true rfl) (by decide) (fun w287 hWw287 hRw287 => ?_)
              obtain ⟨hfw287, hpw287⟩ := hRw287
              have hFw287 : ∀ (p : Nat) (j : Int), ¬ (p = (rr + 1) ∨ (p = rr ∧ (j = 1 ∨ j = 2)) ∨ (p = tp ∧ (j = 2 ∨ j = 5 ∨ j = 6 ∨ j = 7 ∨ j = 8 ∨ j = 4 ∨ j = 3))) → tm_g w287 p j = tm_g w p j := fun p j h => (hfw287 p j (by omega)).trans (hFw285 p j h)
              refine ev_aload_n dt_Ru_readAll_62 rfl rfl ?_
              refine ev_aload_n dt_Ru_readAll_63 rfl rfl ?_
              refine tm_vv dt_Ru_readAll_64 (gx_Ru_readSum hWw287 h_rr h_tp (by omega) hK hpw287) kb_Ru_40 ⟨im_Ru_readSum, se_Ru_readSum⟩ rfl hWw287 rrt0 rfl (Nat.le_of_ble_eq_true rfl) (by decide) (fun w288 hWw288 hRw288 => ?_)
              obtain ⟨hfw288, hpw288⟩ := hRw288
              have hFw288 : ∀ (p : Nat) (j : Int), ¬ (p = (rr + 1) ∨ (p = rr ∧ (j = 1 ∨ j = 2)) ∨ (p = tp ∧ (j = 2 ∨ j = 5 ∨ j = 6 ∨ j = 7 ∨ j = 8 ∨ j = 4 ∨ j = 3))) → tm_g w288 p j = tm_g w p j := fun p j h => (hfw288 p j (by omega)).trans (hFw287 p j h)
              refine ev_bipush dt_Ru_readAll_67 rfl ?_
              refine ev_istore (l' := [_, _, _, _, _]) dt_Ru_readAll_69 (Nat.le_of_ble_eq_true rfl) rfl ?_
              refine ev_aload_n dt_Ru_readAll_71 rfl rfl ?_
              refine tm_getK (K := 8) dt_Ru_readAll_72 hWw288 tpt0 fl_Ru_30 rfl (a_R_wd hpw288) ?_
              have gb289 := tm_kb (k := 8) (K := 8) hWw288 tpt0 rfl rfl (a_R_wd hpw288)
              have gb290 := a_wd_b f L (a_sl f 2 L 61 0 0 (a_adv f L (a_cl1 f 2 L (13 - (i238 + 1)).toNat G240))) hK
              refine ev_bipush dt_Ru_readAll_75 rfl ?_
              refine ev_icmp_ne (tgt := 94) dt_Ru_readAll_77 (by decide) (by omega) (by omega) (fun h291 => ?_) (fun h291 => ?_)
              · skip
                refine ev_aload_n dt_Ru_readAll_94 rfl rfl ?_
                refine ev_iload dt_Ru_readAll_95 rfl ?_
                refine tm_vv dt_Ru_readAll_97 (gx_Ru_emit hWw288 h_rr ((-34)) (by omega) (by omega) hK (by omega) hpw288) kb_Ru_50 ⟨im_Ru_emit, se_Ru_emit⟩ rfl hWw288 rrt0 rfl (Nat.le_of_ble_eq_true rfl) (by decide) (fun w292 hWw292 hRw292 => ?_)
                obtain ⟨hfw292, hpw292⟩ := hRw292
                have hFw292 : ∀ (p : Nat) (j : Int), ¬ (p = (rr + 1) ∨ (p = rr ∧ (j = 1 ∨ j = 2)) ∨ (p = tp ∧ (j = 2 ∨ j = 5 ∨ j = 6 ∨ j = 7 ∨ j = 8 ∨ j = 4 ∨ j = 3))) → tm_g w292 p j = tm_g w p j := fun p j h => (hfw292 p j (by omega)).trans (hFw288 p j h)
                have hx293 := a_R_eq hpw292 (show (a_em ((-34)) (a_sl f 2 L 61 0 0 (a_adv f L (a_cl1 f 2 L (13 - (i238 + 1)).toNat G240)))) = (a_cl2 f 2 L (a_sl f 2 L 61 0 0 (a_adv f L (a_cl1 f 2 L (13 - (i238 + 1)).toNat G240)))) from (by unfold a_cl2; first | exact (if_pos (by omega)).symm | exact (if_neg (by omega)).symm))
                refine ev_aload_n dt_Ru_readAll_100 rfl rfl ?_
                refine tm_getK (K := 6) dt_Ru_readAll_101 hWw292 tpt0 fl_Ru_53 rfl (a_R_sg hx293) ?_
                have gb294 := tm_kb (k := 6) (K := 6) hWw292 tpt0 rfl rfl (a_R_sg hx293)
                refine ev_bipush dt_Ru_readAll_104 rfl ?_
                refine ev_icmp_ne (tgt := 113) dt_Ru_readAll_106 (by decide) (by omega) (by omega) (fun h295 => ?_) (fun h295 => ?_)
                · skip
                  refine ev_iconst dt_Ru_readAll_113 ?_
                  refine ev_istore_n (l' := [_, _, _, _, _]) dt_Ru_readAll_114 rfl (Nat.le_of_ble_eq_true rfl) rfl ?_
                  refine ev_iload_n dt_Ru_readAll_115 rfl rfl ?_
                  refine ev_if_eq (tgt := 123) dt_Ru_readAll_116 (by decide) (by omega) (fun h296 => ?_) (fun h296 => ?_)
                  · skip
                    refine ev_iinc (l' := [_, _, _, _, _]) dt_Ru_readAll_123 rfl rfl ?_
                    refine ev_goto (tgt := 20) dt_Ru_readAll_126 (by decide) ?_
                    exact tm_loc (tm_le_s (tm_le_s (tm_le_s (tm_le_s (tm_le_n tm_le_0))))) (ihL236 (0) ((i238 + 1)) w292 hWw292 hFw292 ((a_cl2 f 2 L (a_sl f 2 L 61 0 0 (a_adv f L (a_cl1 f 2 L (13 - (i238 + 1)).toNat G240))))) hx293 (by omega) (by omega) (by omega) (by omega) (by first | exact (if_pos (by omega)).trans ((a_alA (by omega) (by omega) (by omega)).symm.trans ((if_pos (by omega)).symm.trans q0L236)) | exact (if_neg (by omega)).trans ((a_alB (by omega) (by omega) (by omega)).symm.trans ((if_pos (by omega)).symm.trans q0L236)) | (exfalso; omega)) (by omega))
                  · skip
                    exfalso
                    omega
                · skip
                  refine ev_iconst dt_Ru_readAll_109 ?_
                  refine ev_goto (tgt := 114) dt_Ru_readAll_110 (by decide) ?_
                  refine ev_istore_n (l' := [_, _, _, _, _]) dt_Ru_readAll_114 rfl (Nat.le_of_ble_eq_true rfl) rfl ?_
                  refine ev_iload_n dt_Ru_readAll_115 rfl rfl ?_
                  refine ev_if_eq (tgt := 123) dt_Ru_readAll_116 (by decide) (by omega) (fun h297 => ?_) (fun h297 => ?_)
                  · skip
                    exfalso
                    omega
                  · skip
                    refine ev_aload_n dt_Ru_readAll_119 rfl rfl ?_
                    refine tm_vv dt_Ru_readAll_120 (gx_Ta_advance hWw292 h_tp hK (by omega) hx293) kb_Ru_37 ⟨im_Ta_advance, se_Ta_advance⟩ rfl hWw292 tpt0 rfl (Nat.le_of_ble_eq_true rfl) (by decide) (fun w298 hWw298 hRw298 => ?_)
                    obtain ⟨hfw298, hpw298⟩ := hRw298
                    have hFw298 : ∀ (p : Nat) (j : Int), ¬ (p = (rr + 1) ∨ (p = rr ∧ (j = 1 ∨ j = 2)) ∨ (p = tp ∧ (j = 2 ∨ j = 5 ∨ j = 6 ∨ j = 7 ∨ j = 8 ∨ j = 4 ∨ j = 3))) → tm_g w298 p j = tm_g w p j := fun p j h => (hfw298 p j (by omega)).trans (hFw292 p j h)
                    refine ev_iinc (l' := [_, _, _, _, _]) dt_Ru_readAll_123 rfl rfl ?_
                    refine ev_goto (tgt := 20) dt_Ru_readAll_126 (by decide) ?_
                    exact tm_loc (tm_le_s (tm_le_s (tm_le_s (tm_le_s (tm_le_n tm_le_0))))) (ihL236 (1) ((i238 + 1)) w298 hWw298 hFw298 ((a_adv f L (a_cl2 f 2 L (a_sl f 2 L 61 0 0 (a_adv f L (a_cl1 f 2 L (13 - (i238 + 1)).toNat G240)))))) hpw298 (by omega) (by omega) (by omega) (by omega) (by first | exact (if_pos (by omega)).trans ((a_alA (by omega) (by omega) (by omega)).symm.trans ((if_pos (by omega)).symm.trans q0L236)) | exact (if_neg (by omega)).trans ((a_alB (by omega) (by omega) (by omega)).symm.trans ((if_pos (by omega)).symm.trans q0L236)) | (exfalso; omega)) (by omega))
              · skip
                refine ev_aload_n dt_Ru_readAll_80 rfl rfl ?_
                refine tm_vv dt_Ru_readAll_81 (gx_Ta_advance hWw288 h_tp hK (by omega) hpw288) kb_Ru_37 ⟨im_Ta_advance, se_Ta_advance⟩ rfl hWw288 tpt0 rfl (Nat.le_of_ble_eq_true rfl) (by decide) (fun w299 hWw299 hRw299 => ?_)
                obtain ⟨hfw299, hpw299⟩ := hRw299
                have hFw299 : ∀ (p : Nat) (j : Int), ¬ (p = (rr + 1) ∨ (p = rr ∧ (j = 1 ∨ j = 2)) ∨ (p = tp ∧ (j = 2 ∨ j = 5 ∨ j = 6 ∨ j = 7 ∨ j = 8 ∨ j = 4 ∨ j = 3))) → tm_g w299 p j = tm_g w p j := fun p j h => (hfw299 p j (by omega)).trans (hFw288 p j h)
                refine ev_aload_n dt_Ru_readAll_84 rfl rfl ?_
                refine ev_aload_n dt_Ru_readAll_85 rfl rfl ?_
                refine ev_iconst dt_Ru_readAll_86 ?_
                refine tm_vv dt_Ru_readAll_87 (gx_Ru_readTest hWw299 h_rr h_tp (by omega) (0) (by omega) (by omega) hK hpw299) kb_Ru_46 ⟨im_Ru_readTest, se_Ru_readTest⟩ rfl hWw299 rrt0 rfl (Nat.le_of_ble_eq_true rfl) (by omega) (fun w300 hWw300 hRw300 => ?_)
                obtain ⟨hfw300, hpw300⟩ := hRw300
                have hFw300 : ∀ (p : Nat) (j : Int), ¬ (p = (rr + 1) ∨ (p = rr ∧ (j = 1 ∨ j = 2)) ∨ (p = tp ∧ (j = 2 ∨ j = 5 ∨ j = 6 ∨ j = 7 ∨ j = 8 ∨ j = 4 ∨ j = 3))) → tm_g w300 p j = tm_g w p j := fun p j h => (hfw300 p j (by omega)).trans (hFw299 p j h)
                refine ev_bipush dt_Ru_readAll_90 rfl ?_
                refine ev_istore (l' := [_, _, _, _, _]) dt_Ru_readAll_92 (Nat.le_of_ble_eq_true rfl) rfl ?_
                refine ev_aload_n dt_Ru_readAll_94 rfl rfl ?_
                refine ev_iload dt_Ru_readAll_95 rfl ?_
                refine tm_vv dt_Ru_readAll_97 (gx_Ru_emit hWw300 h_rr ((-35)) (by omega) (by omega) hK (by omega) hpw300) kb_Ru_50 ⟨im_Ru_emit, se_Ru_emit⟩ rfl hWw300 rrt0 rfl (Nat.le_of_ble_eq_true rfl) (by decide) (fun w301 hWw301 hRw301 => ?_)
                obtain ⟨hfw301, hpw301⟩ := hRw301
                have hFw301 : ∀ (p : Nat) (j : Int), ¬ (p = (rr + 1) ∨ (p = rr ∧ (j = 1 ∨ j = 2)) ∨ (p = tp ∧ (j = 2 ∨ j = 5 ∨ j = 6 ∨ j = 7 ∨ j = 8 ∨ j = 4 ∨ j = 3))) → tm_g w301 p j = tm_g w p j := fun p j h => (hfw301 p j (by omega)).trans (hFw300 p j h)
                have hx302 := a_R_eq hpw301 (show (a_em ((-35)) (a_tst f 2 L (a_fact f 2 L ((10 : Int) - (0)).toNat) 61 0 0 (a_adv f L (a_sl f 2 L 61 0 0 (a_adv f L (a_cl1 f 2 L (13 - (i238 + 1)).toNat G240)))))) = (a_cl2 f 2 L (a_sl f 2 L 61 0 0 (a_adv f L (a_cl1 f 2 L (13 - (i238 + 1)).toNat G240)))) from (by unfold a_cl2; first | exact (if_pos (by omega)).symm | exact (if_neg (by omega)).symm))
                refine ev_aload_n dt_Ru_readAll_100 rfl rfl ?_
                refine tm_getK (K := 6) dt_Ru_readAll_101 hWw301 tpt0 fl_Ru_53 rfl (a_R_sg hx302) ?_
                have gb303 := tm_kb (k := 6) (K := 6) hWw301 tpt0 rfl rfl (a_R_sg hx302)
                refine ev_bipush dt_Ru_readAll_104 rfl ?_
                refine ev_icmp_ne (tgt := 113) dt_Ru_readAll_106 (by decide) (by omega) (by omega) (fun h304 => ?_) (fun h304 => ?_)
                · skip
                  refine ev_iconst dt_Ru_readAll_113 ?_
                  refine ev_istore_n (l' := [_, _, _, _, _]) dt_Ru_readAll_114 rfl (Nat.le_of_ble_eq_true rfl) rfl ?_
                  refine ev_iload_n dt_Ru_readAll_115 rfl rfl ?_
                  refine ev_if_eq (tgt := 123) dt_Ru_readAll_116 (by decide) (by omega) (fun h305 => ?_) (fun h305 => ?_)
                  · skip
                    refine ev_iinc (l' := [_, _, _, _, _]) dt_Ru_readAll_123 rfl rfl ?_
                    refine ev_goto (tgt := 20) dt_Ru_readAll_126 (by decide) ?_
                    exact tm_loc (tm_le_s (tm_le_s (tm_le_s (tm_le_s (tm_le_n tm_le_0))))) (ihL236 (0) ((i238 + 1)) w301 hWw301 hFw301 ((a_cl2 f 2 L (a_sl f 2 L 61 0 0 (a_adv f L (a_cl1 f 2 L (13 - (i238 + 1)).toNat G240))))) hx302 (by omega) (by omega) (by omega) (by omega) (by first | exact (if_pos (by omega)).trans ((a_alA (by omega) (by omega) (by omega)).symm.trans ((if_pos (by omega)).symm.trans q0L236)) | exact (if_neg (by omega)).trans ((a_alB (by omega) (by omega) (by omega)).symm.trans ((if_pos (by omega)).symm.trans q0L236)) | (exfalso; omega)) (by omega))
                  · skip
                    exfalso
                    omega
                · skip
                  refine ev_iconst dt_Ru_readAll_109 ?_
                  refine ev_goto (tgt := 114) dt_Ru_readAll_110 (by decide) ?_
                  refine ev_istore_n (l' := [_, _, _, _, _]) dt_Ru_readAll_114 rfl (Nat.le_of_ble_eq_true rfl) rfl ?_
                  refine ev_iload_n dt_Ru_readAll_115 rfl rfl ?_
                  refine ev_if_eq (tgt := 123) dt_Ru_readAll_116 (by decide) (by omega) (fun h306 => ?_) (fun h306 => ?_)
                  · skip
                    exfalso
                    omega
                  · skip
                    refine ev_aload_n dt_Ru_readAll_119 rfl rfl ?_
                    refine tm_vv dt_Ru_readAll_120 (gx_Ta_advance hWw301 h_tp hK (by omega) hx302) kb_Ru_37 ⟨im_Ta_advance, se_Ta_advance⟩ rfl hWw301 tpt0 rfl (Nat.le_of_ble_eq_true rfl) (by decide) (fun w307 hWw307 hRw307 => ?_)
                    obtain ⟨hfw307, hpw307⟩ := hRw307
                    have hFw307 : ∀ (p : Nat) (j : Int), ¬ (p = (rr + 1) ∨ (p = rr ∧ (j = 1 ∨ j = 2)) ∨ (p = tp ∧ (j = 2 ∨ j = 5 ∨ j = 6 ∨ j = 7 ∨ j = 8 ∨ j = 4 ∨ j = 3))) → tm_g w307 p j = tm_g w p j := fun p j h => (hfw307 p j (by omega)).trans (hFw301 p j h)
                    refine ev_iinc (l' := [_, _, _, _, _]) dt_Ru_readAll_123 rfl rfl ?_
                    refine ev_goto (tgt := 20) dt_Ru_readAll_126 (by decide) ?_
                    exact tm_loc (tm_le_s (tm_le_s (tm_le_s (tm_le_s (tm_le_n tm_le_0))))) (ihL236 (1) ((i238 + 1)) w307 hWw307 hFw307 ((a_adv f L (a_cl2 f 2 L (a_sl f 2 L 61 0 0 (a_adv f L (a_cl1 f 2 L (13 - (i238 + 1)).toNat G240)))))) hpw307 (by omega) (by omega) (by omega) (by omega) (by first | exact (if_pos (by omega)).trans ((a_alA (by omega) (by omega) (by omega)).symm.trans ((if_pos (by omega)).symm.trans q0L236)) | exact (if_neg (by omega)).trans ((a_alB (by omega) (by omega) (by omega)).symm.trans ((if_pos (by omega)).symm.trans q0L236)) | (exfalso; omega)) (by omega))
          · skip
            refine ev_aload_n dt_Ru_readAll_39 rfl rfl ?_
            refine ev_iconst dt_Ru_readAll_40 ?_
            refine tm_vv dt_Ru_readAll_41 (gx_Ta_fail hWw239 h_tp (0) (by omega) (by omega) hK (by omega) hG240) kb_Ru_33 ⟨im_Ta_fail, se_Ta_fail⟩ rfl hWw239 tpt0 rfl (Nat.le_of_ble_eq_true rfl) (by decide) (fun w308 hWw308 hRw308 => ?_)
            obtain ⟨hfw308, hpw308⟩ := hRw308
            have hFw308 : ∀ (p : Nat) (j : Int), ¬ (p = (rr + 1) ∨ (p = rr ∧ (j = 1 ∨ j = 2)) ∨ (p = tp ∧ (j = 2 ∨ j = 5 ∨ j = 6 ∨ j = 7 ∨ j = 8 ∨ j = 4 ∨ j = 3))) → tm_g w308 p j = tm_g w p j := fun p j h => (hfw308 p j (by omega)).trans (hFw239 p j h)
            refine ev_goto (tgt := 58) dt_Ru_readAll_44 (by decide) ?_
            have hx309 := a_R_eq hpw308 (show (a_fail 0 G240) = (a_cl1 f 2 L (13 - (i238 + 1)).toNat G240) from (by unfold a_cl1; (repeat' split) <;> first | rfl | (exfalso; omega)))
            refine ev_aload_n dt_Ru_readAll_58 rfl rfl ?_
            refine tm_vv dt_Ru_readAll_59 (gx_Ta_advance hWw308 h_tp hK (by omega) hx309) kb_Ru_37 ⟨im_Ta_advance, se_Ta_advance⟩ rfl hWw308 tpt0 rfl (Nat.le_of_ble_eq_true rfl) (by decide) (fun w310 hWw310 hRw310 => ?_)
            obtain ⟨hfw310, hpw310⟩ := hRw310
            have hFw310 : ∀ (p : Nat) (j : Int), ¬ (p = (rr + 1) ∨ (p = rr ∧ (j = 1 ∨ j = 2)) ∨ (p = tp ∧ (j = 2 ∨ j = 5 ∨ j = 6 ∨ j = 7 ∨ j = 8 ∨ j = 4 ∨ j = 3))) → tm_g w310 p j = tm_g w p j := fun p j h => (hfw310 p j (by omega)).trans (hFw308 p j h)
            refine ev_aload_n dt_Ru_readAll_62 rfl rfl ?_
            refine ev_aload_n dt_Ru_readAll_63 rfl rfl ?_
            refine tm_vv dt_Ru_readAll_64 (gx_Ru_readSum hWw310 h_rr h_tp (by omega) hK hpw310) kb_Ru_40 ⟨im_Ru_readSum, se_Ru_readSum⟩ rfl hWw310 rrt0 rfl (Nat.le_of_ble_eq_true rfl) (by decide) (fun w311 hWw311 hRw311 => ?_)
            obtain ⟨hfw311, hpw311⟩ := hRw311
            have hFw311 : ∀ (p : Nat) (j : Int), ¬ (p = (rr + 1) ∨ (p = rr ∧ (j = 1 ∨ j = 2)) ∨ (p = tp ∧ (j = 2 ∨ j = 5 ∨ j = 6 ∨ j = 7 ∨ j = 8 ∨ j = 4 ∨ j = 3))) → tm_g w311 p j = tm_g w p j := fun p j h => (hfw311 p j (by omega)).trans (hFw310 p j h)
            refine ev_bipush dt_Ru_readAll_67 rfl ?_
            refine ev_istore (l' := [_, _, _, _, _]) dt_Ru_readAll_69 (Nat.le_of_ble_eq_true rfl) rfl ?_
            refine ev_aload_n dt_Ru_readAll_71 rfl rfl ?_
            refine tm_getK (K := 8) dt_Ru_readAll_72 hWw311 tpt0 fl_Ru_30 rfl (a_R_wd hpw311) ?_
            have gb312 := tm_kb (k := 8) (K := 8) hWw311 tpt0 rfl rfl (a_R_wd hpw311)
            have gb313 := a_wd_b f L (a_sl f 2 L 61 0 0 (a_adv f L (a_cl1 f 2 L (13 - (i238 + 1)).toNat G240))) hK
            refine ev_bipush dt_Ru_readAll_75 rfl ?_
            refine ev_icmp_ne (tgt := 94) dt_Ru_readAll_77 (by decide) (by omega) (by omega) (fun h314 => ?_) (fun h314 => ?_)
            · skip
              refine ev_aload_n dt_Ru_readAll_94 rfl rfl ?_
              refine ev_iload dt_Ru_readAll_95 rfl ?_
              refine tm_vv dt_Ru_readAll_97 (gx_Ru_emit hWw311 h_rr ((-34)) (by omega) (by omega) hK (by omega) hpw311) kb_Ru_50 ⟨im_Ru_emit, se_Ru_emit⟩ rfl hWw311 rrt0 rfl (Nat.le_of_ble_eq_true rfl) (by decide) (fun w315 hWw315 hRw315 => ?_)
              obtain ⟨hfw315, hpw315⟩ := hRw315
              have hFw315 : ∀ (p : Nat) (j : Int), ¬ (p = (rr + 1) ∨ (p = rr ∧ (j = 1 ∨ j = 2)) ∨ (p = tp ∧ (j = 2 ∨ j = 5 ∨ j = 6 ∨ j = 7 ∨ j = 8 ∨ j = 4 ∨ j = 3))) → tm_g w315 p j = tm_g w p j := fun p j h => (hfw315 p j (by omega)).trans (hFw311 p j h)
              have hx316 := a_R_eq hpw315 (show (a_em ((-34)) (a_sl f 2 L 61 0 0 (a_adv f L (a_cl1 f 2 L (13 - (i238 + 1)).toNat G240)))) = (a_cl2 f 2 L (a_sl f 2 L 61 0 0 (a_adv f L (a_cl1 f 2 L (13 - (i238 + 1)).toNat G240)))) from (by unfold a_cl2; first | exact (if_pos (by omega)).symm | exact (if_neg (by omega)).symm))
              refine ev_aload_n dt_Ru_readAll_100 rfl rfl ?_
              refine tm_getK (K := 6) dt_Ru_readAll_101 hWw315 tpt0 fl_Ru_53 rfl (a_R_sg hx316) ?_
              have gb317 := tm_kb (k := 6) (K := 6) hWw315 tpt0 rfl rfl (a_R_sg hx316)
              refine ev_bipush dt_Ru_readAll_104 rfl ?_
              refine ev_icmp_ne (tgt := 113) dt_Ru_readAll_106 (by decide) (by omega) (by omega) (fun h318 => ?_) (fun h318 => ?_)
              · skip
                refine ev_iconst dt_Ru_readAll_113 ?_
                refine ev_istore_n (l' := [_, _, _, _, _]) dt_Ru_readAll_114 rfl (Nat.le_of_ble_eq_true rfl) rfl ?_
                refine ev_iload_n dt_Ru_readAll_115 rfl rfl ?_
                refine ev_if_eq (tgt := 123) dt_Ru_readAll_116 (by decide) (by omega) (fun h319 => ?_) (fun h319 => ?_)
                · skip
                  refine ev_iinc (l' := [_, _, _, _, _]) dt_Ru_readAll_123 rfl rfl ?_
                  refine ev_goto (tgt := 20) dt_Ru_readAll_126 (by decide) ?_
                  exact tm_loc (tm_le_s (tm_le_s (tm_le_s (tm_le_s (tm_le_n tm_le_0))))) (ihL236 (0) ((i238 + 1)) w315 hWw315 hFw315 ((a_cl2 f 2 L (a_sl f 2 L 61 0 0 (a_adv f L (a_cl1 f 2 L (13 - (i238 + 1)).toNat G240))))) hx316 (by omega) (by omega) (by omega) (by omega) (by first | exact (if_pos (by omega)).trans ((a_alA (by omega) (by omega) (by omega)).symm.trans ((if_pos (by omega)).symm.trans q0L236)) | exact (if_neg (by omega)).trans ((a_alB (by omega) (by omega) (by omega)).symm.trans ((if_pos (by omega)).symm.trans q0L236)) | (exfalso; omega)) (by omega))
                · skip
                  exfalso
                  omega
              · skip
                refine ev_iconst dt_Ru_readAll_109 ?_
                refine ev_goto (tgt := 114) dt_Ru_readAll_110 (by decide) ?_
                refine ev_istore_n (l' := [_, _, _, _, _]) dt_Ru_readAll_114 rfl (Nat.le_of_ble_eq_true rfl) rfl ?_
                refine ev_iload_n dt_Ru_readAll_115 rfl rfl ?_
                refine ev_if_eq (tgt := 123) dt_Ru_readAll_116 (by decide) (by omega) (fun h320 => ?_) (fun h320 => ?_)
                · skip
                  exfalso
                  omega
                · skip
                  refine ev_aload_n dt_Ru_readAll_119 rfl rfl ?_
                  refine tm_vv dt_Ru_readAll_120 (gx_Ta_advance hWw315 h_tp hK (by omega) hx316) kb_Ru_37 ⟨im_Ta_advance, se_Ta_advance⟩ rfl hWw315 tpt0 rfl (Nat.le_of_ble_eq_true rfl) (by decide) (fun w321 hWw321 hRw321 => ?_)
                  obtain ⟨hfw321, hpw321⟩ := hRw321
                  have hFw321 : ∀ (p : Nat) (j : Int), ¬ (p = (rr + 1) ∨ (p = rr ∧ (j = 1 ∨ j = 2)) ∨ (p = tp ∧ (j = 2 ∨ j = 5 ∨ j = 6 ∨ j = 7 ∨ j = 8 ∨ j = 4 ∨ j = 3))) → tm_g w321 p j = tm_g w p j := fun p j h => (hfw321 p j (by omega)).trans (hFw315 p j h)
                  refine ev_iinc (l' := [_, _, _, _, _]) dt_Ru_readAll_123 rfl rfl ?_
                  refine ev_goto (tgt := 20) dt_Ru_readAll_126 (by decide) ?_
                  exact tm_loc (tm_le_s (tm_le_s (tm_le_s (tm_le_s (tm_le_n tm_le_0))))) (ihL236 (1) ((i238 + 1)) w321 hWw321 hFw321 ((a_adv f L (a_cl2 f 2 L (a_sl f 2 L 61 0 0 (a_adv f L (a_cl1 f 2 L (13 - (i238 + 1)).toNat G240)))))) hpw321 (by omega) (by omega) (by omega) (by omega) (by first | exact (if_pos (by omega)).trans ((a_alA (by omega) (by omega) (by omega)).symm.trans ((if_pos (by omega)).symm.trans q0L236)) | exact (if_neg (by omega)).trans ((a_alB (by omega) (by omega) (by omega)).symm.trans ((if_pos (by omega)).symm.trans q0L236)) | (exfalso; omega)) (by omega))
            · skip
              refine ev_aload_n dt_Ru_readAll_80 rfl rfl ?_
              refine tm_vv dt_Ru_readAll_81 (gx_Ta_advance hWw311 h_tp hK (by omega) hpw311) kb_Ru_37 ⟨im_Ta_advance, se_Ta_advance⟩ rfl hWw311 tpt0 rfl (Nat.le_of_ble_eq_true rfl) (by decide) (fun w322 hWw322 hRw322 => ?_)
              obtain ⟨hfw322, hpw322⟩ := hRw322
              have hFw322 : ∀ (p : Nat) (j : Int), ¬ (p = (rr + 1) ∨ (p = rr ∧ (j = 1 ∨ j = 2)) ∨ (p = tp ∧ (j = 2 ∨ j = 5 ∨ j = 6 ∨ j = 7 ∨ j = 8 ∨ j = 4 ∨ j = 3))) → tm_g w322 p j = tm_g w p j := fun p j h => (hfw322 p j (by omega)).trans (hFw311 p j h)
              refine ev_aload_n dt_Ru_readAll_84 rfl rfl ?_
              refine ev_aload_n dt_Ru_readAll_85 rfl rfl ?_
              refine ev_iconst dt_Ru_readAll_86 ?_
              refine tm_vv dt_Ru_readAll_87 (gx_Ru_readTest hWw322 h_rr h_tp (by omega) (0) (by omega) (by omega) hK hpw322) kb_Ru_46 ⟨im_Ru_readTest, se_Ru_readTest⟩ rfl hWw322 rrt0 rfl (Nat.le_of_ble_eq_true rfl) (by omega) (fun w323 hWw323 hRw323 => ?_)
              obtain ⟨hfw323, hpw323⟩ := hRw323
              have hFw323 : ∀ (p : Nat) (j : Int), ¬ (p = (rr + 1) ∨ (p = rr ∧ (j = 1 ∨ j = 2)) ∨ (p = tp ∧ (j = 2 ∨ j = 5 ∨ j = 6 ∨ j = 7 ∨ j = 8 ∨ j = 4 ∨ j = 3))) → tm_g w323 p j = tm_g w p j := fun p j h => (hfw323 p j (by omega)).trans (hFw322 p j h)
              refine ev_bipush dt_Ru_readAll_90 rfl ?_
              refine ev_istore (l' := [_, _, _, _, _]) dt_Ru_readAll_92 (Nat.le_of_ble_eq_true rfl) rfl ?_
              refine ev_aload_n dt_Ru_readAll_94 rfl rfl ?_
              refine ev_iload dt_Ru_readAll_95 rfl ?_
              refine tm_vv dt_Ru_readAll_97 (gx_Ru_emit hWw323 h_rr ((-35)) (by omega) (by omega) hK (by omega) hpw323) kb_Ru_50 ⟨im_Ru_emit, se_Ru_emit⟩ rfl hWw323 rrt0 rfl (Nat.le_of_ble_eq_true rfl) (by decide) (fun w324 hWw324 hRw324 => ?_)
              obtain ⟨hfw324, hpw324⟩ := hRw324
              have hFw324 : ∀ (p : Nat) (j : Int), ¬ (p = (rr + 1) ∨ (p = rr ∧ (j = 1 ∨ j = 2)) ∨ (p = tp ∧ (j = 2 ∨ j = 5 ∨ j = 6 ∨ j = 7 ∨ j = 8 ∨ j = 4 ∨ j = 3))) → tm_g w324 p j = tm_g w p j := fun p j h => (hfw324 p j (by omega)).trans (hFw323 p j h)
              have hx325 := a_R_eq hpw324 (show (a_em ((-35)) (a_tst f 2 L (a_fact f 2 L ((10 : Int) - (0)).toNat) 61 0 0 (a_adv f L (a_sl f 2 L 61 0 0 (a_adv f L (a_cl1 f 2 L (13 - (i238 + 1)).toNat G240)))))) = (a_cl2 f 2 L (a_sl f 2 L 61 0 0 (a_adv f L (a_cl1 f 2 L (13 - (i238 + 1)).toNat G240)))) from (by unfold a_cl2; first | exact (if_pos (by omega)).symm | exact (if_neg (by omega)).symm))
              refine ev_aload_n dt_Ru_readAll_100 rfl rfl ?_
              refine tm_getK (K := 6) dt_Ru_readAll_101 hWw324 tpt0 fl_Ru_53 rfl (a_R_sg hx325) ?_
              have gb326 := tm_kb (k := 6) (K := 6) hWw324 tpt0 rfl rfl (a_R_sg hx325)
              refine ev_bipush dt_Ru_readAll_104 rfl ?_
              refine ev_icmp_ne (tgt := 113) dt_Ru_readAll_106 (by decide) (by omega) (by omega) (fun h327 => ?_) (fun h327 => ?_)
              · skip
                refine ev_iconst dt_Ru_readAll_113 ?_
                refine ev_istore_n (l' := [_, _, _, _, _]) dt_Ru_readAll_114 rfl (Nat.le_of_ble_eq_true rfl) rfl ?_
                refine ev_iload_n dt_Ru_readAll_115 rfl rfl ?_
                refine ev_if_eq (tgt := 123) dt_Ru_readAll_116 (by decide) (by omega) (fun h328 => ?_) (fun h328 => ?_)
                · skip
                  refine ev_iinc (l' := [_, _, _, _, _]) dt_Ru_readAll_123 rfl rfl ?_
                  refine ev_goto (tgt := 20) dt_Ru_readAll_126 (by decide) ?_
                  exact tm_loc (tm_le_s (tm_le_s (tm_le_s (tm_le_s (tm_le_n tm_le_0))))) (ihL236 (0) ((i238 + 1)) w324 hWw324 hFw324 ((a_cl2 f 2 L (a_sl f 2 L 61 0 0 (a_adv f L (a_cl1 f 2 L (13 - (i238 + 1)).toNat G240))))) hx325 (by omega) (by omega) (by omega) (by omega) (by first | exact (if_pos (by omega)).trans ((a_alA (by omega) (by omega) (by omega)).symm.trans ((if_pos (by omega)).symm.trans q0L236)) | exact (if_neg (by omega)).trans ((a_alB (by omega) (by omega) (by omega)).symm.trans ((if_pos (by omega)).symm.trans q0L236)) | (exfalso; omega)) (by omega))
                · skip
                  exfalso
                  omega
              · skip
                refine ev_iconst dt_Ru_readAll_109 ?_
                refine ev_goto (tgt := 114) dt_Ru_readAll_110 (by decide) ?_
                refine ev_istore_n (l' := [_, _, _, _, _]) dt_Ru_readAll_114 rfl (Nat.le_of_ble_eq_true rfl) rfl ?_
                refine ev_iload_n dt_Ru_readAll_115 rfl rfl ?_
                refine ev_if_eq (tgt := 123) dt_Ru_readAll_116 (by decide) (by omega) (fun h329 => ?_) (fun h329 => ?_)
                · skip
                  exfalso
                  omega
                · skip
                  refine ev_aload_n dt_Ru_readAll_119 rfl rfl ?_
                  refine tm_vv dt_Ru_readAll_120 (gx_Ta_advance hWw324 h_tp hK (by omega) hx325) kb_Ru_37 ⟨im_Ta_advance, se_Ta_advance⟩ rfl hWw324 tpt0 rfl (Nat.le_of_ble_eq_true rfl) (by decide) (fun w330 hWw330 hRw330 => ?_)
                  obtain ⟨hfw330, hpw330⟩ := hRw330
                  have hFw330 : ∀ (p : Nat) (j : Int), ¬ (p = (rr + 1) ∨ (p = rr ∧ (j = 1 ∨ j = 2)) ∨ (p = tp ∧ (j = 2 ∨ j = 5 ∨ j = 6 ∨ j = 7 ∨ j = 8 ∨ j = 4 ∨ j = 3))) → tm_g w330 p j = tm_g w p j := fun p j h => (hfw330 p j (by omega)).trans (hFw324 p j h)
                  refine ev_iinc (l' := [_, _, _, _, _]) dt_Ru_readAll_123 rfl rfl ?_
                  refine ev_goto (tgt := 20) dt_Ru_readAll_126 (by decide) ?_
                  exact tm_loc (tm_le_s (tm_le_s (tm_le_s (tm_le_s (tm_le_n tm_le_0))))) (ihL236 (1) ((i238 + 1)) w330 hWw330 hFw330 ((a_adv f L (a_cl2 f 2 L (a_sl f 2 L 61 0 0 (a_adv f L (a_cl1 f 2 L (13 - (i238 + 1)).toNat G240)))))) hpw330 (by omega) (by omega) (by omega) (by omega) (by first | exact (if_pos (by omega)).trans ((a_alA (by omega) (by omega) (by omega)).symm.trans ((if_pos (by omega)).symm.trans q0L236)) | exact (if_neg (by omega)).trans ((a_alB (by omega) (by omega) (by omega)).symm.trans ((if_pos (by omega)).symm.trans q0L236)) | (exfalso; omega)) (by omega))
  exact tm_loc (tm_le_s (tm_le_s (tm_le_s (tm_le_s (tm_le_n tm_le_0))))) (L236 (13 - (0) + 1 : Int).toNat (1) (0)  w234 hWw234 hFw234 ((0, tk_sk f L 0, 0, [])) hG0 (by omega) (by omega) (by omega) (by omega) (if_pos rfl) (by omega))
