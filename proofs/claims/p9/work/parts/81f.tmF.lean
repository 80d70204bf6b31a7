def ru_Fact (m : Nat) : Prop := ∀ (N : Nat) (T : Nat → tm_S) (w : ab_W) (rr : Nat) (tp : Nat) (hW : tm_W N T w) (h_rr : is_Ru T rr) (h_tp : is_Ta T tp) (ne_rr_tp : rr + 2 ≤ tp ∨ tp + 2 ≤ rr) (a : Int) (l_a : 0 ≤ a) (u_a : a ≤ 10) , 10 - a < (m : Int) → ab_Mt g_G g_rs mt_Ru_readFact (2 * (10 - a).toNat + 12) 0 0 [ab_R rr, ab_R tp, ab_I a] w (tm_Qv N T (fun w2 => (∀ (p : Nat) (j : Int), ¬ (p = (rr + 1) ∨ (p = rr ∧ (j = 1 ∨ j = 2)) ∨ (p = tp ∧ (j = 2 ∨ j = 5 ∨ j = 6 ∨ j = 7 ∨ j = 8 ∨ j = 4))) → tm_g w2 p j = tm_g w p j)))
def ru_Test (m : Nat) : Prop := ∀ (N : Nat) (T : Nat → tm_S) (w : ab_W) (rr : Nat) (tp : Nat) (hW : tm_W N T w) (h_rr : is_Ru T rr) (h_tp : is_Ta T tp) (ne_rr_tp : rr + 2 ≤ tp ∨ tp + 2 ≤ rr) (a : Int) (l_a : 0 ≤ a) (u_a : a ≤ 10) , 10 - a < (m : Int) → ab_Mt g_G g_rs mt_Ru_readTest (2 * (10 - a).toNat + 13) 0 0 [ab_R rr, ab_R tp, ab_I a] w (tm_Qv N T (fun w2 => (∀ (p : Nat) (j : Int), ¬ (p = (rr + 1) ∨ (p = rr ∧ (j = 1 ∨ j = 2)) ∨ (p = tp ∧ (j = 2 ∨ j = 5 ∨ j = 6 ∨ j = 7 ∨ j = 8 ∨ j = 4))) → tm_g w2 p j = tm_g w p j)))
theorem dt_Ru_readFact_0 : decode prog_10_method_7_code 0 = .ok (.aload_n 1, 1) := by decide +kernel
theorem dt_Ru_readFact_1 : decode prog_10_method_7_code 1 = .ok (.getfield 53, 3) := by decide +kernel
theorem dt_Ru_readFact_4 : decode prog_10_method_7_code 4 = .ok (.bipush 91, 2) := by decide +kernel
theorem dt_Ru_readFact_6 : decode prog_10_method_7_code 6 = .ok (.if_icmp .ne 7, 3) := by decide +kernel
theorem dt_Ru_readFact_9 : decode prog_10_method_7_code 9 = .ok (.iconst 1, 1) := by decide +kernel
theorem dt_Ru_readFact_10 : decode prog_10_method_7_code 10 = .ok (.goto 4, 3) := by decide +kernel
theorem dt_Ru_readFact_13 : decode prog_10_method_7_code 13 = .ok (.iconst 0, 1) := by decide +kernel
theorem dt_Ru_readFact_14 : decode prog_10_method_7_code 14 = .ok (.istore_n 3, 1) := by decide +kernel
theorem dt_Ru_readFact_15 : decode prog_10_method_7_code 15 = .ok (.iload_n 3, 1) := by decide +kernel
theorem dt_Ru_readFact_16 : decode prog_10_method_7_code 16 = .ok (.ifCond .ne 59, 3) := by decide +kernel
theorem dt_Ru_readFact_19 : decode prog_10_method_7_code 19 = .ok (.aload_n 1, 1) := by decide +kernel
theorem dt_Ru_readFact_20 : decode prog_10_method_7_code 20 = .ok (.getfield 30, 3) := by decide +kernel
theorem dt_Ru_readFact_23 : decode prog_10_method_7_code 23 = .ok (.bipush 14, 2) := by decide +kernel
theorem dt_Ru_readFact_25 : decode prog_10_method_7_code 25 = .ok (.if_icmp .eq 50, 3) := by decide +kernel
theorem dt_Ru_readFact_28 : decode prog_10_method_7_code 28 = .ok (.aload_n 0, 1) := by decide +kernel
theorem dt_Ru_readFact_29 : decode prog_10_method_7_code 29 = .ok (.aload_n 1, 1) := by decide +kernel
theorem dt_Ru_readFact_30 : decode prog_10_method_7_code 30 = .ok (.invokevirtual 40, 3) := by decide +kernel
theorem dt_Ru_readFact_33 : decode prog_10_method_7_code 33 = .ok (.aload_n 1, 1) := by decide +kernel
theorem dt_Ru_readFact_34 : decode prog_10_method_7_code 34 = .ok (.getfield 53, 3) := by decide +kernel
theorem dt_Ru_readFact_37 : decode prog_10_method_7_code 37 = .ok (.invokestatic 68, 3) := by decide +kernel
theorem dt_Ru_readFact_40 : decode prog_10_method_7_code 40 = .ok (.istore 4, 2) := by decide +kernel
theorem dt_Ru_readFact_42 : decode prog_10_method_7_code 42 = .ok (.iload 4, 2) := by decide +kernel
theorem dt_Ru_readFact_44 : decode prog_10_method_7_code 44 = .ok (.ifCond .ne 8, 3) := by decide +kernel
theorem dt_Ru_readFact_47 : decode prog_10_method_7_code 47 = .ok (.aload_n 1, 1) := by decide +kernel
theorem dt_Ru_readFact_48 : decode prog_10_method_7_code 48 = .ok (.iconst 0, 1) := by decide +kernel
theorem dt_Ru_readFact_49 : decode prog_10_method_7_code 49 = .ok (.invokevirtual 33, 3) := by decide +kernel
theorem dt_Ru_readFact_52 : decode prog_10_method_7_code 52 = .ok (.aload_n 0, 1) := by decide +kernel
theorem dt_Ru_readFact_53 : decode prog_10_method_7_code 53 = .ok (.aload_n 1, 1) := by decide +kernel
theorem dt_Ru_readFact_54 : decode prog_10_method_7_code 54 = .ok (.invokevirtual 72, 3) := by decide +kernel
theorem dt_Ru_readFact_57 : decode prog_10_method_7_code 57 = .ok (.aload_n 1, 1) := by decide +kernel
theorem dt_Ru_readFact_58 : decode prog_10_method_7_code 58 = .ok (.invokevirtual 37, 3) := by decide +kernel
theorem dt_Ru_readFact_61 : decode prog_10_method_7_code 61 = .ok (.aload_n 0, 1) := by decide +kernel
theorem dt_Ru_readFact_62 : decode prog_10_method_7_code 62 = .ok (.aload_n 1, 1) := by decide +kernel
theorem dt_Ru_readFact_63 : decode prog_10_method_7_code 63 = .ok (.invokevirtual 40, 3) := by decide +kernel
theorem dt_Ru_readFact_66 : decode prog_10_method_7_code 66 = .ok (.aload_n 0, 1) := by decide +kernel
theorem dt_Ru_readFact_67 : decode prog_10_method_7_code 67 = .ok (.iload 4, 2) := by decide +kernel
theorem dt_Ru_readFact_69 : decode prog_10_method_7_code 69 = .ok (.invokevirtual 50, 3) := by decide +kernel
theorem dt_Ru_readFact_72 : decode prog_10_method_7_code 72 = .ok (.goto 75, 3) := by decide +kernel
theorem dt_Ru_readFact_75 : decode prog_10_method_7_code 75 = .ok (.iload_n 2, 1) := by decide +kernel
theorem dt_Ru_readFact_76 : decode prog_10_method_7_code 76 = .ok (.bipush 10, 2) := by decide +kernel
theorem dt_Ru_readFact_78 : decode prog_10_method_7_code 78 = .ok (.if_icmp .lt 11, 3) := by decide +kernel
theorem dt_Ru_readFact_81 : decode prog_10_method_7_code 81 = .ok (.aload_n 1, 1) := by decide +kernel
theorem dt_Ru_readFact_82 : decode prog_10_method_7_code 82 = .ok (.iconst 2, 1) := by decide +kernel
theorem dt_Ru_readFact_83 : decode prog_10_method_7_code 83 = .ok (.invokevirtual 33, 3) := by decide +kernel
theorem dt_Ru_readFact_86 : decode prog_10_method_7_code 86 = .ok (.goto 61, 3) := by decide +kernel
theorem dt_Ru_readFact_89 : decode prog_10_method_7_code 89 = .ok (.iload_n 3, 1) := by decide +kernel
theorem dt_Ru_readFact_90 : decode prog_10_method_7_code 90 = .ok (.ifCond .eq 39, 3) := by decide +kernel
theorem dt_Ru_readFact_93 : decode prog_10_method_7_code 93 = .ok (.aload_n 1, 1) := by decide +kernel
theorem dt_Ru_readFact_94 : decode prog_10_method_7_code 94 = .ok (.invokevirtual 37, 3) := by decide +kernel
theorem dt_Ru_readFact_97 : decode prog_10_method_7_code 97 = .ok (.aload_n 0, 1) := by decide +kernel
theorem dt_Ru_readFact_98 : decode prog_10_method_7_code 98 = .ok (.aload_n 1, 1) := by decide +kernel
theorem dt_Ru_readFact_99 : decode prog_10_method_7_code 99 = .ok (.iload_n 2, 1) := by decide +kernel
theorem dt_Ru_readFact_100 : decode prog_10_method_7_code 100 = .ok (.iconst 1, 1) := by decide +kernel
theorem dt_Ru_readFact_101 : decode prog_10_method_7_code 101 = .ok (.iadd, 1) := by decide +kernel
theorem dt_Ru_readFact_102 : decode prog_10_method_7_code 102 = .ok (.invokevirtual 46, 3) := by decide +kernel
theorem dt_Ru_readFact_105 : decode prog_10_method_7_code 105 = .ok (.aload_n 1, 1) := by decide +kernel
theorem dt_Ru_readFact_106 : decode prog_10_method_7_code 106 = .ok (.getfield 53, 3) := by decide +kernel
theorem dt_Ru_readFact_109 : decode prog_10_method_7_code 109 = .ok (.bipush 93, 2) := by decide +kernel
theorem dt_Ru_readFact_111 : decode prog_10_method_7_code 111 = .ok (.if_icmp .ne 10, 3) := by decide +kernel
theorem dt_Ru_readFact_114 : decode prog_10_method_7_code 114 = .ok (.aload_n 1, 1) := by decide +kernel
theorem dt_Ru_readFact_115 : decode prog_10_method_7_code 115 = .ok (.invokevirtual 37, 3) := by decide +kernel
theorem dt_Ru_readFact_118 : decode prog_10_method_7_code 118 = .ok (.goto 29, 3) := by decide +kernel
theorem dt_Ru_readFact_121 : decode prog_10_method_7_code 121 = .ok (.aload_n 1, 1) := by decide +kernel
theorem dt_Ru_readFact_122 : decode prog_10_method_7_code 122 = .ok (.iconst 0, 1) := by decide +kernel
theorem dt_Ru_readFact_123 : decode prog_10_method_7_code 123 = .ok (.invokevirtual 33, 3) := by decide +kernel
theorem dt_Ru_readFact_126 : decode prog_10_method_7_code 126 = .ok (.goto 21, 3) := by decide +kernel
theorem dt_Ru_readFact_129 : decode prog_10_method_7_code 129 = .ok (.aload_n 1, 1) := by decide +kernel
theorem dt_Ru_readFact_130 : decode prog_10_method_7_code 130 = .ok (.invokevirtual 37, 3) := by decide +kernel
theorem dt_Ru_readFact_133 : decode prog_10_method_7_code 133 = .ok (.aload_n 0, 1) := by decide +kernel
theorem dt_Ru_readFact_134 : decode prog_10_method_7_code 134 = .ok (.aload_n 1, 1) := by decide +kernel
theorem dt_Ru_readFact_135 : decode prog_10_method_7_code 135 = .ok (.iload_n 2, 1) := by decide +kernel
theorem dt_Ru_readFact_136 : decode prog_10_method_7_code 136 = .ok (.iconst 1, 1) := by decide +kernel
theorem dt_Ru_readFact_137 : decode prog_10_method_7_code 137 = .ok (.iadd, 1) := by decide +kernel
theorem dt_Ru_readFact_138 : decode prog_10_method_7_code 138 = .ok (.invokevirtual 65, 3) := by decide +kernel
theorem dt_Ru_readFact_141 : decode prog_10_method_7_code 141 = .ok (.aload_n 0, 1) := by decide +kernel
theorem dt_Ru_readFact_142 : decode prog_10_method_7_code 142 = .ok (.bipush (-33), 2) := by decide +kernel
theorem dt_Ru_readFact_144 : decode prog_10_method_7_code 144 = .ok (.invokevirtual 50, 3) := by decide +kernel
theorem dt_Ru_readFact_147 : decode prog_10_method_7_code 147 = .ok (.return_, 1) := by decide +kernel
set_option maxHeartbeats 4000000 in
set_option maxRecDepth 10000 in
theorem tm_RuF {m : Nat} (ihF : ru_Fact m) (ihT : ru_Test m) {N : Nat} {T : Nat → tm_S} {w : ab_W} {rr : Nat} {tp : Nat} (hW : tm_W N T w) (h_rr : is_Ru T rr) (h_tp : is_Ta T tp) (ne_rr_tp : rr + 2 ≤ tp ∨ tp + 2 ≤ rr) (a : Int) (l_a : 0 ≤ a) (u_a : a ≤ 10) (hm : 10 - a < ((m : Int) + 1 : Int)) : ab_Mt g_G g_rs mt_Ru_readFact (2 * (10 - a).toNat + 12) 0 0 [ab_R rr, ab_R tp, ab_I a] w (tm_Qv N T (fun w2 => (∀ (p : Nat) (j : Int), ¬ (p = (rr + 1) ∨ (p = rr ∧ (j = 1 ∨ j = 2)) ∨ (p = tp ∧ (j = 2 ∨ j = 5 ∨ j = 6 ∨ j = 7 ∨ j = 8 ∨ j = 4))) → tm_g w2 p j = tm_g w p j))) := by
  obtain ⟨rrt0, rrt1⟩ := id h_rr
  obtain ⟨tpt0, tpt1⟩ := id h_tp
  have hF0 : ∀ (p : Nat) (j : Int), ¬ (p = (rr + 1) ∨ (p = rr ∧ (j = 1 ∨ j = 2)) ∨ (p = tp ∧ (j = 2 ∨ j = 5 ∨ j = 6 ∨ j = 7 ∨ j = 8 ∨ j = 4))) → tm_g w p j = tm_g w p j := fun _ _ _ => rfl
  refine ab_Mt.of rfl (Nat.le_of_ble_eq_true rfl) ?_
  show ab_Ev g_G g_rs mt_Ru_readFact _ _ _ 0 [some (ab_R rr), some (ab_R tp), some (ab_I a), none, none] [] _ _
  refine ev_aload_n dt_Ru_readFact_0 rfl rfl ?_
  refine tm_getI (K := 6) dt_Ru_readFact_1 hW tpt0 fl_Ru_53 rfl rfl (fun v1 kv1 lv1 uv1 => ?_)
  refine ev_bipush dt_Ru_readFact_4 rfl ?_
  refine ev_icmp_ne (tgt := 13) dt_Ru_readFact_6 (by decide) (by omega) (by omega) (fun h2 => ?_) (fun h2 => ?_)
  · skip
    refine ev_iconst dt_Ru_readFact_13 ?_
    refine ev_istore_n (l' := [_, _, _, _, _]) dt_Ru_readFact_14 rfl (Nat.le_of_ble_eq_true rfl) rfl ?_
    refine ev_iload_n dt_Ru_readFact_15 rfl rfl ?_
    refine ev_if_ne (tgt := 75) dt_Ru_readFact_16 (by decide) (by omega) (fun h3 => ?_) (fun h3 => ?_)
    · skip
      exfalso
      omega
    · skip
      refine ev_aload_n dt_Ru_readFact_19 rfl rfl ?_
      refine tm_getI (K := 8) dt_Ru_readFact_20 hW tpt0 fl_Ru_30 rfl rfl (fun v4 kv4 lv4 uv4 => ?_)
      refine ev_bipush dt_Ru_readFact_23 rfl ?_
      refine ev_icmp_eq (tgt := 75) dt_Ru_readFact_25 (by decide) (by omega) (by omega) (fun h5 => ?_) (fun h5 => ?_)
      · skip
        refine ev_iload_n dt_Ru_readFact_75 rfl rfl ?_
        refine ev_bipush dt_Ru_readFact_76 rfl ?_
        refine ev_icmp_lt (tgt := 89) dt_Ru_readFact_78 (by decide) (by omega) (by omega) (fun h6 => ?_) (fun h6 => ?_)
        · skip
          refine ev_iload_n dt_Ru_readFact_89 rfl rfl ?_
          refine ev_if_eq (tgt := 129) dt_Ru_readFact_90 (by decide) (by omega) (fun h7 => ?_) (fun h7 => ?_)
          · skip
            refine ev_aload_n dt_Ru_readFact_129 rfl rfl ?_
            refine tm_vv dt_Ru_readFact_130 (tm_Ta_advance hW h_tp) kb_Ru_37 ⟨im_Ta_advance, se_Ta_advance⟩ rfl hW tpt0 rfl (Nat.le_of_ble_eq_true rfl) (by omega) (fun w8 hWw8 hRw8 => ?_)
            have hfw8 := hRw8
            have hFw8 : ∀ (p : Nat) (j : Int), ¬ (p = (rr + 1) ∨ (p = rr ∧ (j = 1 ∨ j = 2)) ∨ (p = tp ∧ (j = 2 ∨ j = 5 ∨ j = 6 ∨ j = 7 ∨ j = 8 ∨ j = 4))) → tm_g w8 p j = tm_g w p j := fun p j h => (hfw8 p j (by omega)).trans (hF0 p j h)
            refine ev_aload_n dt_Ru_readFact_133 rfl rfl ?_
            refine ev_aload_n dt_Ru_readFact_134 rfl rfl ?_
            refine ev_iload_n dt_Ru_readFact_135 rfl rfl ?_
            refine ev_iconst dt_Ru_readFact_136 ?_
            refine ev_iadd dt_Ru_readFact_137 ?_
            refine tm_vv dt_Ru_readFact_138 (ihF _ _ _ _ _ hWw8 h_rr h_tp (by omega) ((a + 1)) (by omega) (by omega) (by omega)) kb_Ru_65 ⟨im_Ru_readFact, se_Ru_readFact⟩ rfl hWw8 rrt0 rfl (Nat.le_of_ble_eq_true rfl) (by omega) (fun w9 hWw9 hRw9 => ?_)
            have hfw9 := hRw9
            have hFw9 : ∀ (p : Nat) (j : Int), ¬ (p = (rr + 1) ∨ (p = rr ∧ (j = 1 ∨ j = 2)) ∨ (p = tp ∧ (j = 2 ∨ j = 5 ∨ j = 6 ∨ j = 7 ∨ j = 8 ∨ j = 4))) → tm_g w9 p j = tm_g w p j := fun p j h => (hfw9 p j (by omega)).trans (hFw8 p j h)
            refine ev_aload_n dt_Ru_readFact_141 rfl rfl ?_
            refine ev_bipush dt_Ru_readFact_142 rfl ?_
            refine tm_vv dt_Ru_readFact_144 (tm_Ru_emit hWw9 h_rr ((-33)) (by omega) (by omega)) kb_Ru_50 ⟨im_Ru_emit, se_Ru_emit⟩ rfl hWw9 rrt0 rfl (Nat.le_of_ble_eq_true rfl) (by omega) (fun w10 hWw10 hRw10 => ?_)
            have hfw10 := hRw10
            have hFw10 : ∀ (p : Nat) (j : Int), ¬ (p = (rr + 1) ∨ (p = rr ∧ (j = 1 ∨ j = 2)) ∨ (p = tp ∧ (j = 2 ∨ j = 5 ∨ j = 6 ∨ j = 7 ∨ j = 8 ∨ j = 4))) → tm_g w10 p j = tm_g w p j := fun p j h => (hfw10 p j (by omega)).trans (hFw9 p j h)
            exact ev_return dt_Ru_readFact_147 rfl ⟨hWw10, rfl, hFw10⟩
          · skip
            exfalso
            omega
        · skip
          refine ev_aload_n dt_Ru_readFact_81 rfl rfl ?_
          refine ev_iconst dt_Ru_readFact_82 ?_
          refine tm_vv dt_Ru_readFact_83 (tm_Ta_fail hW h_tp (2) (by omega) (by omega)) kb_Ru_33 ⟨im_Ta_fail, se_Ta_fail⟩ rfl hW tpt0 rfl (Nat.le_of_ble_eq_true rfl) (by omega) (fun w11 hWw11 hRw11 => ?_)
          obtain ⟨hfw11, v12, kv12, hpw11⟩ := hRw11
          have hFw11 : ∀ (p : Nat) (j : Int), ¬ (p = (rr + 1) ∨ (p = rr ∧ (j = 1 ∨ j = 2)) ∨ (p = tp ∧ (j = 2 ∨ j = 5 ∨ j = 6 ∨ j = 7 ∨ j = 8 ∨ j = 4))) → tm_g w11 p j = tm_g w p j := fun p j h => (hfw11 p j (by omega)).trans (hF0 p j h)
          have bv12 : (-2147483648) ≤ v12 ∧ v12 ≤ 2147483647 := by obtain ⟨a, e, h0, h1⟩ := tm_peek (k := 4) (K := 4) hWw11 tpt0 rfl rfl; rw [kv12] at e; injection e with e; injection e with e; omega
          refine ev_goto (tgt := 147) dt_Ru_readFact_86 (by decide) ?_
          exact ev_return dt_Ru_readFact_147 rfl ⟨hWw11, rfl, hFw11⟩
      · skip
        refine ev_aload_n dt_Ru_readFact_28 rfl rfl ?_
        refine ev_aload_n dt_Ru_readFact_29 rfl rfl ?_
        refine tm_vv dt_Ru_readFact_30 (tm_Ru_readSum hW h_rr h_tp (by omega)) kb_Ru_40 ⟨im_Ru_readSum, se_Ru_readSum⟩ rfl hW rrt0 rfl (Nat.le_of_ble_eq_true rfl) (by omega) (fun w13 hWw13 hRw13 => ?_)
        have hfw13 := hRw13
        have hFw13 : ∀ (p : Nat) (j : Int), ¬ (p = (rr + 1) ∨ (p = rr ∧ (j = 1 ∨ j = 2)) ∨ (p = tp ∧ (j = 2 ∨ j = 5 ∨ j = 6 ∨ j = 7 ∨ j = 8 ∨ j = 4))) → tm_g w13 p j = tm_g w p j := fun p j h => (hfw13 p j (by omega)).trans (hF0 p j h)
        refine ev_aload_n dt_Ru_readFact_33 rfl rfl ?_
        refine tm_getI (K := 6) dt_Ru_readFact_34 hWw13 tpt0 fl_Ru_53 rfl rfl (fun v14 kv14 lv14 uv14 => ?_)
        refine tm_sp dt_Ru_readFact_37 (tm_Ru_comparisonOf hWw13 (v14) (by omega) (by omega)) kb_Ru_68 sc_Ru_comparisonOf rfl (Nat.le_of_ble_eq_true rfl) (by omega) (fun v15 hv15 => ?_)
        refine ev_istore (l' := [_, _, _, _, _]) dt_Ru_readFact_40 (Nat.le_of_ble_eq_true rfl) rfl ?_
        refine ev_iload dt_Ru_readFact_42 rfl ?_
        refine ev_if_ne (tgt := 52) dt_Ru_readFact_44 (by decide) (by omega) (fun h16 => ?_) (fun h16 => ?_)
        · skip
          refine ev_aload_n dt_Ru_readFact_52 rfl rfl ?_
          refine ev_aload_n dt_Ru_readFact_53 rfl rfl ?_
          refine tm_vv dt_Ru_readFact_54 (tm_Ru_countToken hWw13 h_rr h_tp (by omega)) kb_Ru_72 ⟨im_Ru_countToken, se_Ru_countToken⟩ rfl hWw13 rrt0 rfl (Nat.le_of_ble_eq_true rfl) (by omega) (fun w17 hWw17 hRw17 => ?_)
          have hfw17 := hRw17
          have hFw17 : ∀ (p : Nat) (j : Int), ¬ (p = (rr + 1) ∨ (p = rr ∧ (j = 1 ∨ j = 2)) ∨ (p = tp ∧ (j = 2 ∨ j = 5 ∨ j = 6 ∨ j = 7 ∨ j = 8 ∨ j = 4))) → tm_g w17 p j = tm_g w p j := fun p j h => (hfw17 p j (by omega)).trans (hFw13 p j h)
          refine ev_aload_n dt_Ru_readFact_57 rfl rfl ?_
          refine tm_vv dt_Ru_readFact_58 (tm_Ta_advance hWw17 h_tp) kb_Ru_37 ⟨im_Ta_advance, se_Ta_advance⟩ rfl hWw17 tpt0 rfl (Nat.le_of_ble_eq_true rfl) (by omega) (fun w18 hWw18 hRw18 => ?_)
          have hfw18 := hRw18
          have hFw18 : ∀ (p : Nat) (j : Int), ¬ (p = (rr + 1) ∨ (p = rr ∧ (j = 1 ∨ j = 2)) ∨ (p = tp ∧ (j = 2 ∨ j = 5 ∨ j = 6 ∨ j = 7 ∨ j = 8 ∨ j = 4))) → tm_g w18 p j = tm_g w p j := fun p j h => (hfw18 p j (by omega)).trans (hFw17 p j h)
          refine ev_aload_n dt_Ru_readFact_61 rfl rfl ?_
          refine ev_aload_n dt_Ru_readFact_62 rfl rfl ?_
          refine tm_vv dt_Ru_readFact_63 (tm_Ru_readSum hWw18 h_rr h_tp (by omega)) kb_Ru_40 ⟨im_Ru_readSum, se_Ru_readSum⟩ rfl hWw18 rrt0 rfl (Nat.le_of_ble_eq_true rfl) (by omega) (fun w19 hWw19 hRw19 => ?_)
          have hfw19 := hRw19
          have hFw19 : ∀ (p : Nat) (j : Int), ¬ (p = (rr + 1) ∨ (p = rr ∧ (j = 1 ∨ j = 2)) ∨ (p = tp ∧ (j = 2 ∨ j = 5 ∨ j = 6 ∨ j = 7 ∨ j = 8 ∨ j = 4))) → tm_g w19 p j = tm_g w p j := fun p j h => (hfw19 p j (by omega)).trans (hFw18 p j h)
          refine ev_aload_n dt_Ru_readFact_66 rfl rfl ?_
          refine ev_iload dt_Ru_readFact_67 rfl ?_
          refine tm_vv dt_Ru_readFact_69 (tm_Ru_emit hWw19 h_rr (v15) (by omega) (by omega)) kb_Ru_50 ⟨im_Ru_emit, se_Ru_emit⟩ rfl hWw19 rrt0 rfl (Nat.le_of_ble_eq_true rfl) (by omega) (fun w20 hWw20 hRw20 => ?_)
          have hfw20 := hRw20
          have hFw20 : ∀ (p : Nat) (j : Int), ¬ (p = (rr + 1) ∨ (p = rr ∧ (j = 1 ∨ j = 2)) ∨ (p = tp ∧ (j = 2 ∨ j = 5 ∨ j = 6 ∨ j = 7 ∨ j = 8 ∨ j = 4))) → tm_g w20 p j = tm_g w p j := fun p j h => (hfw20 p j (by omega)).trans (hFw19 p j h)
          refine ev_goto (tgt := 147) dt_Ru_readFact_72 (by decide) ?_
          exact ev_return dt_Ru_readFact_147 rfl ⟨hWw20, rfl, hFw20⟩
        · skip
          refine ev_aload_n dt_Ru_readFact_47 rfl rfl ?_
          refine ev_iconst dt_Ru_readFact_48 ?_
          refine tm_vv dt_Ru_readFact_49 (tm_Ta_fail hWw13 h_tp (0) (by omega) (by omega)) kb_Ru_33 ⟨im_Ta_fail, se_Ta_fail⟩ rfl hWw13 tpt0 rfl (Nat.le_of_ble_eq_true rfl) (by omega) (fun w21 hWw21 hRw21 => ?_)
          obtain ⟨hfw21, v22, kv22, hpw21⟩ := hRw21
          have hFw21 : ∀ (p : Nat) (j : Int), ¬ (p = (rr + 1) ∨ (p = rr ∧ (j = 1 ∨ j = 2)) ∨ (p = tp ∧ (j = 2 ∨ j = 5 ∨ j = 6 ∨ j = 7 ∨ j = 8 ∨ j = 4))) → tm_g w21 p j = tm_g w p j := fun p j h => (hfw21 p j (by omega)).trans (hFw13 p j h)
          have bv22 : (-2147483648) ≤ v22 ∧ v22 ≤ 2147483647 := by obtain ⟨a, e, h0, h1⟩ := tm_peek (k := 4) (K := 4) hWw21 tpt0 rfl rfl; rw [kv22] at e; injection e with e; injection e with e; omega
          refine ev_aload_n dt_Ru_readFact_52 rfl rfl ?_
          refine ev_aload_n dt_Ru_readFact_53 rfl rfl ?_
          refine tm_vv dt_Ru_readFact_54 (tm_Ru_countToken hWw21 h_rr h_tp (by omega)) kb_Ru_72 ⟨im_Ru_countToken, se_Ru_countToken⟩ rfl hWw21 rrt0 rfl (Nat.le_of_ble_eq_true rfl) (by omega) (fun w23 hWw23 hRw23 => ?_)
          have hfw23 := hRw23
          have hFw23 : ∀ (p : Nat) (j : Int), ¬ (p = (rr + 1) ∨ (p = rr ∧ (j = 1 ∨ j = 2)) ∨ (p = tp ∧ (j = 2 ∨ j = 5 ∨ j = 6 ∨ j = 7 ∨ j = 8 ∨ j = 4))) → tm_g w23 p j = tm_g w p j := fun p j h => (hfw23 p j (by omega)).trans (hFw21 p j h)
          refine ev_aload_n dt_Ru_readFact_57 rfl rfl ?_
          refine tm_vv dt_Ru_readFact_58 (tm_Ta_advance hWw23 h_tp) kb_Ru_37 ⟨im_Ta_advance, se_Ta_advance⟩ rfl hWw23 tpt0 rfl (Nat.le_of_ble_eq_true rfl) (by omega) (fun w24 hWw24 hRw24 => ?_)
          have hfw24 := hRw24
          have hFw24 : ∀ (p : Nat) (j : Int), ¬ (p = (rr + 1) ∨ (p = rr ∧ (j = 1 ∨ j = 2)) ∨ (p = tp ∧ (j = 2 ∨ j = 5 ∨ j = 6 ∨ j = 7 ∨ j = 8 ∨ j = 4))) → tm_g w24 p j = tm_g w p j := fun p j h => (hfw24 p j (by omega)).trans (hFw23 p j h)
          refine ev_aload_n dt_Ru_readFact_61 rfl rfl ?_
          refine ev_aload_n dt_Ru_readFact_62 rfl rfl ?_
          refine tm_vv dt_Ru_readFact_63 (tm_Ru_readSum hWw24 h_rr h_tp (by omega)) kb_Ru_40 ⟨im_Ru_readSum, se_Ru_readSum⟩ rfl hWw24 rrt0 rfl (Nat.le_of_ble_eq_true rfl) (by omega) (fun w25 hWw25 hRw25 => ?_)
          have hfw25 := hRw25
          have hFw25 : ∀ (p : Nat) (j : Int), ¬ (p = (rr + 1) ∨ (p = rr ∧ (j = 1 ∨ j = 2)) ∨ (p = tp ∧ (j = 2 ∨ j = 5 ∨ j = 6 ∨ j = 7 ∨ j = 8 ∨ j = 4))) → tm_g w25 p j = tm_g w p j := fun p j h => (hfw25 p j (by omega)).trans (hFw24 p j h)
          refine ev_aload_n dt_Ru_readFact_66 rfl rfl ?_
          refine ev_iload dt_Ru_readFact_67 rfl ?_
          refine tm_vv dt_Ru_readFact_69 (tm_Ru_emit hWw25 h_rr (v15) (by omega) (by omega)) kb_Ru_50 ⟨im_Ru_emit, se_Ru_emit⟩ rfl hWw25 rrt0 rfl (Nat.le_of_ble_eq_true rfl) (by omega) (fun w26 hWw26 hRw26 => ?_)
          have hfw26 := hRw26
          have hFw26 : ∀ (p : Nat) (j : Int), ¬ (p = (rr + 1) ∨ (p = rr ∧ (j = 1 ∨ j = 2)) ∨ (p = tp ∧ (j = 2 ∨ j = 5 ∨ j = 6 ∨ j = 7 ∨ j = 8 ∨ j = 4))) → tm_g w26 p j = tm_g w p j := fun p j h => (hfw26 p j (by omega)).trans (hFw25 p j h)
          refine ev_goto (tgt := 147) dt_Ru_readFact_72 (by decide) ?_
          exact ev_return dt_Ru_readFact_147 rfl ⟨hWw26, rfl, hFw26⟩
  · skip
    refine ev_iconst dt_Ru_readFact_9 ?_
    refine ev_goto (tgt := 14) dt_Ru_readFact_10 (by decide) ?_
    refine ev_istore_n (l' := [_, _, _, _, _]) dt_Ru_readFact_14 rfl (Nat.le_of_ble_eq_true rfl) rfl ?_
    refine ev_iload_n dt_Ru_readFact_15 rfl rfl ?_
    refine ev_if_ne (tgt := 75) dt_Ru_readFact_16 (by decide) (by omega) (fun h27 => ?_) (fun h27 => ?_)
    · skip
      refine ev_iload_n dt_Ru_readFact_75 rfl rfl ?_
      refine ev_bipush dt_Ru_readFact_76 rfl ?_
      refine ev_icmp_lt (tgt := 89) dt_Ru_readFact_78 (by decide) (by omega) (by omega) (fun h28 => ?_) (fun h28 => ?_)
      · skip
        refine ev_iload_n dt_Ru_readFact_89 rfl rfl ?_
        refine ev_if_eq (tgt := 129) dt_Ru_readFact_90 (by decide) (by omega) (fun h29 => ?_) (fun h29 => ?_)
        · skip
          exfalso
          omega
        · skip
          refine ev_aload_n dt_Ru_readFact_93 rfl rfl ?_
          refine tm_vv dt_Ru_readFact_94 (tm_Ta_advance hW h_tp) kb_Ru_37 ⟨im_Ta_advance, se_Ta_advance⟩ rfl hW tpt0 rfl (Nat.le_of_ble_eq_true rfl) (by omega) (fun w30 hWw30 hRw30 => ?_)
          have hfw30 := hRw30
          have hFw30 : ∀ (p : Nat) (j : Int), ¬ (p = (rr + 1) ∨ (p = rr ∧ (j = 1 ∨ j = 2)) ∨ (p = tp ∧ (j = 2 ∨ j = 5 ∨ j = 6 ∨ j = 7 ∨ j = 8 ∨ j = 4))) → tm_g w30 p j = tm_g w p j := fun p j h => (hfw30 p j (by omega)).trans (hF0 p j h)
          refine ev_aload_n dt_Ru_readFact_97 rfl rfl ?_
          refine ev_aload_n dt_Ru_readFact_98 rfl rfl ?_
          refine ev_iload_n dt_Ru_readFact_99 rfl rfl ?_
          refine ev_iconst dt_Ru_readFact_100 ?_
          refine ev_iadd dt_Ru_readFact_101 ?_
          refine tm_vv dt_Ru_readFact_102 (ihT _ _ _ _ _ hWw30 h_rr h_tp (by omega) ((a + 1)) (by omega) (by omega) (by omega)) kb_Ru_46 ⟨im_Ru_readTest, se_Ru_readTest⟩ rfl hWw30 rrt0 rfl (Nat.le_of_ble_eq_true rfl) (by omega) (fun w31 hWw31 hRw31 => ?_)
          have hfw31 := hRw31
          have hFw31 : ∀ (p : Nat) (j : Int), ¬ (p = (rr + 1) ∨ (p = rr ∧ (j = 1 ∨ j = 2)) ∨ (p = tp ∧ (j = 2 ∨ j = 5 ∨ j = 6 ∨ j = 7 ∨ j = 8 ∨ j = 4))) → tm_g w31 p j = tm_g w p j := fun p j h => (hfw31 p j (by omega)).trans (hFw30 p j h)
          refine ev_aload_n dt_Ru_readFact_105 rfl rfl ?_
          refine tm_getI (K := 6) dt_Ru_readFact_106 hWw31 tpt0 fl_Ru_53 rfl rfl (fun v32 kv32 lv32 uv32 => ?_)
          refine ev_bipush dt_Ru_readFact_109 rfl ?_
          refine ev_icmp_ne (tgt := 121) dt_Ru_readFact_111 (by decide) (by omega) (by omega) (fun h33 => ?_) (fun h33 => ?_)
          · skip
            refine ev_aload_n dt_Ru_readFact_121 rfl rfl ?_
            refine ev_iconst dt_Ru_readFact_122 ?_
            refine tm_vv dt_Ru_readFact_123 (tm_Ta_fail hWw31 h_tp (0) (by omega) (by omega)) kb_Ru_33 ⟨im_Ta_fail, se_Ta_fail⟩ rfl hWw31 tpt0 rfl (Nat.le_of_ble_eq_true rfl) (by omega) (fun w34 hWw34 hRw34 => ?_)
            obtain ⟨hfw34, v35, kv35, hpw34⟩ := hRw34
            have hFw34 : ∀ (p : Nat) (j : Int), ¬ (p = (rr + 1) ∨ (p = rr ∧ (j = 1 ∨ j = 2)) ∨ (p = tp ∧ (j = 2 ∨ j = 5 ∨ j = 6 ∨ j = 7 ∨ j = 8 ∨ j = 4))) → tm_g w34 p j = tm_g w p j := fun p j h => (hfw34 p j (by omega)).trans (hFw31 p j h)
            have bv35 : (-2147483648) ≤ v35 ∧ v35 ≤ 2147483647 := by obtain ⟨a, e, h0, h1⟩ := tm_peek (k := 4) (K := 4) hWw34 tpt0 rfl rfl; rw [kv35] at e; injection e with e; injection e with e; omega
            refine ev_goto (tgt := 147) dt_Ru_readFact_126 (by decide) ?_
            exact ev_return dt_Ru_readFact_147 rfl ⟨hWw34, rfl, hFw34⟩
          · skip
            refine ev_aload_n dt_Ru_readFact_114 rfl rfl ?_
            refine tm_vv dt_Ru_readFact_115 (tm_Ta_advance hWw31 h_tp) kb_Ru_37 ⟨im_Ta_advance, se_Ta_advance⟩ rfl hWw31 tpt0 rfl (Nat.le_of_ble_eq_true rfl) (by omega) (fun w36 hWw36 hRw36 => ?_)
            have hfw36 := hRw36
            have hFw36 : ∀ (p : Nat) (j : Int), ¬ (p = (rr + 1) ∨ (p = rr ∧ (j = 1 ∨ j = 2)) ∨ (p = tp ∧ (j = 2 ∨ j = 5 ∨ j = 6 ∨ j = 7 ∨ j = 8 ∨ j = 4))) → tm_g w36 p j = tm_g w p j := fun p j h => (hfw36 p j (by omega)).trans (hFw31 p j h)
            refine ev_goto (tgt := 147) dt_Ru_readFact_118 (by decide) ?_
            exact ev_return dt_Ru_readFact_147 rfl ⟨hWw36, rfl, hFw36⟩
      · skip
        refine ev_aload_n dt_Ru_readFact_81 rfl rfl ?_
        refine ev_iconst dt_Ru_readFact_82 ?_
        refine tm_vv dt_Ru_readFact_83 (tm_Ta_fail hW h_tp (2) (by omega) (by omega)) kb_Ru_33 ⟨im_Ta_fail, se_Ta_fail⟩ rfl hW tpt0 rfl (Nat.le_of_ble_eq_true rfl) (by omega) (fun w37 hWw37 hRw37 => ?_)
        obtain ⟨hfw37, v38, kv38, hpw37⟩ := hRw37
        have hFw37 : ∀ (p : Nat) (j : Int), ¬ (p = (rr + 1) ∨ (p = rr ∧ (j = 1 ∨ j = 2)) ∨ (p = tp ∧ (j = 2 ∨ j = 5 ∨ j = 6 ∨ j = 7 ∨ j = 8 ∨ j = 4))) → tm_g w37 p j = tm_g w p j := fun p j h => (hfw37 p j (by omega)).trans (hF0 p j h)
        have bv38 : (-2147483648) ≤ v38 ∧ v38 ≤ 2147483647 := by obtain ⟨a, e, h0, h1⟩ := tm_peek (k := 4) (K := 4) hWw37 tpt0 rfl rfl; rw [kv38] at e; injection e with e; injection e with e; omega
        refine ev_goto (tgt := 147) dt_Ru_readFact_86 (by decide) ?_
        exact ev_return dt_Ru_readFact_147 rfl ⟨hWw37, rfl, hFw37⟩
    · skip
      exfalso
      omega
theorem dt_Ru_readTest_0 : decode prog_10_method_6_code 0 = .ok (.iconst 0, 1) := by decide +kernel
theorem dt_Ru_readTest_1 : decode prog_10_method_6_code 1 = .ok (.istore_n 3, 1) := by decide +kernel
theorem dt_Ru_readTest_2 : decode prog_10_method_6_code 2 = .ok (.iconst 0, 1) := by decide +kernel
theorem dt_Ru_readTest_3 : decode prog_10_method_6_code 3 = .ok (.istore 4, 2) := by decide +kernel
theorem dt_Ru_readTest_5 : decode prog_10_method_6_code 5 = .ok (.iconst 1, 1) := by decide +kernel
theorem dt_Ru_readTest_6 : decode prog_10_method_6_code 6 = .ok (.istore 5, 2) := by decide +kernel
theorem dt_Ru_readTest_8 : decode prog_10_method_6_code 8 = .ok (.iconst 0, 1) := by decide +kernel
theorem dt_Ru_readTest_9 : decode prog_10_method_6_code 9 = .ok (.istore 6, 2) := by decide +kernel
theorem dt_Ru_readTest_11 : decode prog_10_method_6_code 11 = .ok (.iload 5, 2) := by decide +kernel
theorem dt_Ru_readTest_13 : decode prog_10_method_6_code 13 = .ok (.ifCond .eq 121, 3) := by decide +kernel
theorem dt_Ru_readTest_16 : decode prog_10_method_6_code 16 = .ok (.iload 6, 2) := by decide +kernel
theorem dt_Ru_readTest_18 : decode prog_10_method_6_code 18 = .ok (.bipush 60, 2) := by decide +kernel
theorem dt_Ru_readTest_20 : decode prog_10_method_6_code 20 = .ok (.if_icmp .gt 114, 3) := by decide +kernel
theorem dt_Ru_readTest_23 : decode prog_10_method_6_code 23 = .ok (.aload_n 0, 1) := by decide +kernel
theorem dt_Ru_readTest_24 : decode prog_10_method_6_code 24 = .ok (.aload_n 1, 1) := by decide +kernel
theorem dt_Ru_readTest_25 : decode prog_10_method_6_code 25 = .ok (.iload_n 2, 1) := by decide +kernel
theorem dt_Ru_readTest_26 : decode prog_10_method_6_code 26 = .ok (.invokevirtual 65, 3) := by decide +kernel
theorem dt_Ru_readTest_29 : decode prog_10_method_6_code 29 = .ok (.iload_n 3, 1) := by decide +kernel
theorem dt_Ru_readTest_30 : decode prog_10_method_6_code 30 = .ok (.ifCond .eq 9, 3) := by decide +kernel
theorem dt_Ru_readTest_33 : decode prog_10_method_6_code 33 = .ok (.aload_n 0, 1) := by decide +kernel
theorem dt_Ru_readTest_34 : decode prog_10_method_6_code 34 = .ok (.bipush (-31), 2) := by decide +kernel
theorem dt_Ru_readTest_36 : decode prog_10_method_6_code 36 = .ok (.invokevirtual 50, 3) := by decide +kernel
theorem dt_Ru_readTest_39 : decode prog_10_method_6_code 39 = .ok (.aload_n 1, 1) := by decide +kernel
theorem dt_Ru_readTest_40 : decode prog_10_method_6_code 40 = .ok (.getfield 30, 3) := by decide +kernel
theorem dt_Ru_readTest_43 : decode prog_10_method_6_code 43 = .ok (.bipush 15, 2) := by decide +kernel
theorem dt_Ru_readTest_45 : decode prog_10_method_6_code 45 = .ok (.if_icmp .ne 7, 3) := by decide +kernel
theorem dt_Ru_readTest_48 : decode prog_10_method_6_code 48 = .ok (.iconst 1, 1) := by decide +kernel
theorem dt_Ru_readTest_49 : decode prog_10_method_6_code 49 = .ok (.goto 4, 3) := by decide +kernel
theorem dt_Ru_readTest_52 : decode prog_10_method_6_code 52 = .ok (.iconst 0, 1) := by decide +kernel
theorem dt_Ru_readTest_53 : decode prog_10_method_6_code 53 = .ok (.istore_n 3, 1) := by decide +kernel
theorem dt_Ru_readTest_54 : decode prog_10_method_6_code 54 = .ok (.iload 4, 2) := by decide +kernel
theorem dt_Ru_readTest_56 : decode prog_10_method_6_code 56 = .ok (.ifCond .eq 13, 3) := by decide +kernel
theorem dt_Ru_readTest_59 : decode prog_10_method_6_code 59 = .ok (.iload_n 3, 1) := by decide +kernel
theorem dt_Ru_readTest_60 : decode prog_10_method_6_code 60 = .ok (.ifCond .ne 9, 3) := by decide +kernel
theorem dt_Ru_readTest_63 : decode prog_10_method_6_code 63 = .ok (.aload_n 0, 1) := by decide +kernel
theorem dt_Ru_readTest_64 : decode prog_10_method_6_code 64 = .ok (.bipush (-32), 2) := by decide +kernel
theorem dt_Ru_readTest_66 : decode prog_10_method_6_code 66 = .ok (.invokevirtual 50, 3) := by decide +kernel
theorem dt_Ru_readTest_69 : decode prog_10_method_6_code 69 = .ok (.iload 4, 2) := by decide +kernel
theorem dt_Ru_readTest_71 : decode prog_10_method_6_code 71 = .ok (.ifCond .eq 7, 3) := by decide +kernel
theorem dt_Ru_readTest_74 : decode prog_10_method_6_code 74 = .ok (.iload_n 3, 1) := by decide +kernel
theorem dt_Ru_readTest_75 : decode prog_10_method_6_code 75 = .ok (.ifCond .ne 12, 3) := by decide +kernel
theorem dt_Ru_readTest_78 : decode prog_10_method_6_code 78 = .ok (.aload_n 1, 1) := by decide +kernel
theorem dt_Ru_readTest_79 : decode prog_10_method_6_code 79 = .ok (.getfield 30, 3) := by decide +kernel
theorem dt_Ru_readTest_82 : decode prog_10_method_6_code 82 = .ok (.bipush 16, 2) := by decide +kernel
theorem dt_Ru_readTest_84 : decode prog_10_method_6_code 84 = .ok (.if_icmp .ne 7, 3) := by decide +kernel
theorem dt_Ru_readTest_87 : decode prog_10_method_6_code 87 = .ok (.iconst 1, 1) := by decide +kernel
theorem dt_Ru_readTest_88 : decode prog_10_method_6_code 88 = .ok (.goto 4, 3) := by decide +kernel
theorem dt_Ru_readTest_91 : decode prog_10_method_6_code 91 = .ok (.iconst 0, 1) := by decide +kernel
theorem dt_Ru_readTest_92 : decode prog_10_method_6_code 92 = .ok (.istore 4, 2) := by decide +kernel
theorem dt_Ru_readTest_94 : decode prog_10_method_6_code 94 = .ok (.aload_n 1, 1) := by decide +kernel
theorem dt_Ru_readTest_95 : decode prog_10_method_6_code 95 = .ok (.getfield 30, 3) := by decide +kernel
theorem dt_Ru_readTest_98 : decode prog_10_method_6_code 98 = .ok (.bipush 15, 2) := by decide +kernel
theorem dt_Ru_readTest_100 : decode prog_10_method_6_code 100 = .ok (.if_icmp .eq 12, 3) := by decide +kernel
theorem dt_Ru_readTest_103 : decode prog_10_method_6_code 103 = .ok (.aload_n 1, 1) := by decide +kernel
theorem dt_Ru_readTest_104 : decode prog_10_method_6_code 104 = .ok (.getfield 30, 3) := by decide +kernel
theorem dt_Ru_readTest_107 : decode prog_10_method_6_code 107 = .ok (.bipush 16, 2) := by decide +kernel
theorem dt_Ru_readTest_109 : decode prog_10_method_6_code 109 = .ok (.if_icmp .ne 7, 3) := by decide +kernel
theorem dt_Ru_readTest_112 : decode prog_10_method_6_code 112 = .ok (.iconst 1, 1) := by decide +kernel
theorem dt_Ru_readTest_113 : decode prog_10_method_6_code 113 = .ok (.goto 4, 3) := by decide +kernel
theorem dt_Ru_readTest_116 : decode prog_10_method_6_code 116 = .ok (.iconst 0, 1) := by decide +kernel
theorem dt_Ru_readTest_117 : decode prog_10_method_6_code 117 = .ok (.istore 5, 2) := by decide +kernel
theorem dt_Ru_readTest_119 : decode prog_10_method_6_code 119 = .ok (.iload 5, 2) := by decide +kernel
theorem dt_Ru_readTest_121 : decode prog_10_method_6_code 121 = .ok (.ifCond .eq 7, 3) := by decide +kernel
theorem dt_Ru_readTest_124 : decode prog_10_method_6_code 124 = .ok (.aload_n 1, 1) := by decide +kernel
theorem dt_Ru_readTest_125 : decode prog_10_method_6_code 125 = .ok (.invokevirtual 37, 3) := by decide +kernel
theorem dt_Ru_readTest_128 : decode prog_10_method_6_code 128 = .ok (.iinc 6 1, 3) := by decide +kernel
theorem dt_Ru_readTest_131 : decode prog_10_method_6_code 131 = .ok (.goto (-120), 3) := by decide +kernel
theorem dt_Ru_readTest_134 : decode prog_10_method_6_code 134 = .ok (.return_, 1) := by decide +kernel
set_option maxHeartbeats 4000000 in
set_option maxRecDepth 10000 in
theorem tm_RuT {m : Nat} (ihF : ru_Fact m) {N : Nat} {T : Nat → tm_S} {w : ab_W} {rr : Nat} {tp : Nat} (hW : tm_W N T w) (h_rr : is_Ru T rr) (h_tp : is_Ta T tp) (ne_rr_tp : rr + 2 ≤ tp ∨ tp + 2 ≤ rr) (a : Int) (l_a : 0 ≤ a) (u_a : a ≤ 10) (hm : 10 - a < (m : Int)) : ab_Mt g_G g_rs mt_Ru_readTest (2 * (10 - a).toNat + 13) 0 0 [ab_R rr, ab_R tp, ab_I a] w (tm_Qv N T (fun w2 => (∀ (p : Nat) (j : Int), ¬ (p = (rr + 1) ∨ (p = rr ∧ (j = 1 ∨ j = 2)) ∨ (p = tp ∧ (j = 2 ∨ j = 5 ∨ j = 6 ∨ j = 7 ∨ j = 8 ∨ j = 4))) → tm_g w2 p j = tm_g w p j))) := by
  obtain ⟨rrt0, rrt1⟩ := id h_rr
  obtain ⟨tpt0, tpt1⟩ := id h_tp
  have hF0 : ∀ (p : Nat) (j : Int), ¬ (p = (rr + 1) ∨ (p = rr ∧ (j = 1 ∨ j = 2)) ∨ (p = tp ∧ (j = 2 ∨ j = 5 ∨ j = 6 ∨ j = 7 ∨ j = 8 ∨ j = 4))) → tm_g w p j = tm_g w p j := fun _ _ _ => rfl
  refine ab_Mt.of rfl (Nat.le_of_ble_eq_true rfl) ?_
  show ab_Ev g_G g_rs mt_Ru_readTest _ _ _ 0 [some (ab_R rr), some (ab_R tp), some (ab_I a), none, none, none, none] [] _ _
  refine ev_iconst dt_Ru_readTest_0 ?_
  refine ev_istore_n (l' := [_, _, _, _, _, _, _]) dt_Ru_readTest_1 rfl (Nat.le_of_ble_eq_true rfl) rfl ?_
  refine ev_iconst dt_Ru_readTest_2 ?_
  refine ev_istore (l' := [_, _, _, _, _, _, _]) dt_Ru_readTest_3 (Nat.le_of_ble_eq_true rfl) rfl ?_
  refine ev_iconst dt_Ru_readTest_5 ?_
  refine ev_istore (l' := [_, _, _, _, _, _, _]) dt_Ru_readTest_6 (Nat.le_of_ble_eq_true rfl) rfl ?_
  refine ev_iconst dt_Ru_readTest_8 ?_
  refine ev_istore (l' := [_, _, _, _, _, _, _]) dt_Ru_readTest_9 (Nat.le_of_ble_eq_true rfl) rfl ?_
  have L39 : ∀ (n : Nat) (i40 : Int) (i41 : Int) (i42 : Int) (i43 : Int)  (w44 : ab_W), tm_W N T w44 → (∀ (p : Nat) (j : Int), ¬ (p = (rr + 1) ∨ (p = rr ∧ (j = 1 ∨ j = 2)) ∨ (p = tp ∧ (j = 2 ∨ j = 5 ∨ j = 6 ∨ j = 7 ∨ j = 8 ∨ j = 4))) → tm_g w44 p j = tm_g w p j) → 0 ≤ i40 → i40 ≤ 1 → 0 ≤ i41 → i41 ≤ 1 → 0 ≤ i42 → i42 ≤ 1 → 0 ≤ i43 → i43 ≤ 61 → 61 - i43 < (n : Int) → ab_Ev g_G g_rs mt_Ru_readTest (2 * (10 - a).toNat + 13) 0 0 11 [some (ab_R rr), some (ab_R tp), some (ab_I a), some (ab_I i40), some (ab_I i41), some (ab_I i42), some (ab_I i43)] [] w44 (tm_Qv N T (fun w2 => (∀ (p : Nat) (j : Int), ¬ (p = (rr + 1) ∨ (p = rr ∧ (j = 1 ∨ j = 2)) ∨ (p = tp ∧ (j = 2 ∨ j = 5 ∨ j = 6 ∨ j = 7 ∨ j = 8 ∨ j = 4))) → tm_g w2 p j = tm_g w p j))) := by
    intro n
    induction n with
    | zero =>
      intro i40 i41 i42 i43  w44 hWw44 hFw44 li40 ui40 li41 ui41 li42 ui42 li43 ui43 mL39
      exfalso
      omega
    | succ nL39 ihL39 =>
      intro i40 i41 i42 i43  w44 hWw44 hFw44 li40 ui40 li41 ui41 li42 ui42 li43 ui43 mL39
      refine ev_iload dt_Ru_readTest_11 rfl ?_
      refine ev_if_eq (tgt := 134) dt_Ru_readTest_13 (by decide) (by omega) (fun h45 => ?_) (fun h45 => ?_)
      · skip
        exact ev_return dt_Ru_readTest_134 rfl ⟨hWw44, rfl, hFw44⟩
      · skip
        refine ev_iload dt_Ru_readTest_16 rfl ?_
        refine ev_bipush dt_Ru_readTest_18 rfl ?_
        refine ev_icmp_gt (tgt := 134) dt_Ru_readTest_20 (by decide) (by omega) (by omega) (fun h46 => ?_) (fun h46 => ?_)
        · skip
          exact ev_return dt_Ru_readTest_134 rfl ⟨hWw44, rfl, hFw44⟩
        · skip
          refine ev_aload_n dt_Ru_readTest_23 rfl rfl ?_
          refine ev_aload_n dt_Ru_readTest_24 rfl rfl ?_
          refine ev_iload_n dt_Ru_readTest_25 rfl rfl ?_
          refine tm_vv dt_Ru_readTest_26 (ihF _ _ _ _ _ hWw44 h_rr h_tp (by omega) (a) (by omega) (by omega) (by omega)) kb_Ru_65 ⟨im_Ru_readFact, se_Ru_readFact⟩ rfl hWw44 rrt0 rfl (Nat.le_of_ble_eq_true rfl) (by omega) (fun w47 hWw47 hRw47 => ?_)
          have hfw47 := hRw47
          have hFw47 : ∀ (p : Nat) (j : Int), ¬ (p = (rr + 1) ∨ (p = rr ∧ (j = 1 ∨ j = 2)) ∨ (p = tp ∧ (j = 2 ∨ j = 5 ∨ j = 6 ∨ j = 7 ∨ j = 8 ∨ j = 4))) → tm_g w47 p j = tm_g w p j := fun p j h => (hfw47 p j (by omega)).trans (hFw44 p j h)
          refine ev_iload_n dt_Ru_readTest_29 rfl rfl ?_
          refine ev_if_eq (tgt := 39) dt_Ru_readTest_30 (by decide) (by omega) (fun h48 => ?_) (fun h48 => ?_)
          · skip
            refine ev_aload_n dt_Ru_readTest_39 rfl rfl ?_
            refine tm_getI (K := 8) dt_Ru_readTest_40 hWw47 tpt0 fl_Ru_30 rfl rfl (fun v49 kv49 lv49 uv49 => ?_)
            refine ev_bipush dt_Ru_readTest_43 rfl ?_
            refine ev_icmp_ne (tgt := 52) dt_Ru_readTest_45 (by decide) (by omega) (by omega) (fun h50 => ?_) (fun h50 => ?_)
            · skip
              refine ev_iconst dt_Ru_readTest_52 ?_
              refine ev_istore_n (l' := [_, _, _, _, _, _, _]) dt_Ru_readTest_53 rfl (Nat.le_of_ble_eq_true rfl) rfl ?_
              refine ev_iload dt_Ru_readTest_54 rfl ?_
              refine ev_if_eq (tgt := 69) dt_Ru_readTest_56 (by decide) (by omega) (fun h51 => ?_) (fun h51 => ?_)
              · skip
                refine ev_iload dt_Ru_readTest_69 rfl ?_
                refine ev_if_eq (tgt := 78) dt_Ru_readTest_71 (by decide) (by omega) (fun h52 => ?_) (fun h52 => ?_)
                · skip
                  refine ev_aload_n dt_Ru_readTest_78 rfl rfl ?_
                  refine tm_getK (K := 8) dt_Ru_readTest_79 hWw47 tpt0 fl_Ru_30 rfl kv49 ?_
                  refine ev_bipush dt_Ru_readTest_82 rfl ?_
                  refine ev_icmp_ne (tgt := 91) dt_Ru_readTest_84 (by decide) (by omega) (by omega) (fun h53 => ?_) (fun h53 => ?_)
                  · skip
                    refine ev_iconst dt_Ru_readTest_91 ?_
                    refine ev_istore (l' := [_, _, _, _, _, _, _]) dt_Ru_readTest_92 (Nat.le_of_ble_eq_true rfl) rfl ?_
                    refine ev_aload_n dt_Ru_readTest_94 rfl rfl ?_
                    refine tm_getK (K := 8) dt_Ru_readTest_95 hWw47 tpt0 fl_Ru_30 rfl kv49 ?_
                    refine ev_bipush dt_Ru_readTest_98 rfl ?_
                    refine ev_icmp_eq (tgt := 112) dt_Ru_readTest_100 (by decide) (by omega) (by omega) (fun h54 => ?_) (fun h54 => ?_)
                    · skip
                      refine ev_iconst dt_Ru_readTest_112 ?_
                      refine ev_goto (tgt := 117) dt_Ru_readTest_113 (by decide) ?_
                      refine ev_istore (l' := [_, _, _, _, _, _, _]) dt_Ru_readTest_117 (Nat.le_of_ble_eq_true rfl) rfl ?_
                      refine ev_iload dt_Ru_readTest_119 rfl ?_
                      refine ev_if_eq (tgt := 128) dt_Ru_readTest_121 (by decide) (by omega) (fun h55 => ?_) (fun h55 => ?_)
                      · skip
                        exfalso
                        omega
                      · skip
                        refine ev_aload_n dt_Ru_readTest_124 rfl rfl ?_
                        refine tm_vv dt_Ru_readTest_125 (tm_Ta_advance hWw47 h_tp) kb_Ru_37 ⟨im_Ta_advance, se_Ta_advance⟩ rfl hWw47 tpt0 rfl (Nat.le_of_ble_eq_true rfl) (by omega) (fun w56 hWw56 hRw56 => ?_)
                        have hfw56 := hRw56
                        have hFw56 : ∀ (p : Nat) (j : Int), ¬ (p = (rr + 1) ∨ (p = rr ∧ (j = 1 ∨ j = 2)) ∨ (p = tp ∧ (j = 2 ∨ j = 5 ∨ j = 6 ∨ j = 7 ∨ j = 8 ∨ j = 4))) → tm_g w56 p j = tm_g w p j := fun p j h => (hfw56 p j (by omega)).trans (hFw47 p j h)
                        refine ev_iinc (l' := [_, _, _, _, _, _, _]) dt_Ru_readTest_128 rfl rfl ?_
                        refine ev_goto (tgt := 11) dt_Ru_readTest_131 (by decide) ?_
                        exact tm_loc (tm_le_s (tm_le_s (tm_le_s (tm_le_s (tm_le_s (tm_le_s (tm_le_s tm_le_0))))))) (ihL39 (0) (0) (1) ((i43 + 1)) w56 hWw56 hFw56 (by omega) (by omega) (by omega) (by omega) (by omega) (by omega) (by omega) (by omega) (by omega))
                    · skip
                      refine ev_aload_n dt_Ru_readTest_103 rfl rfl ?_
                      refine tm_getK (K := 8) dt_Ru_readTest_104 hWw47 tpt0 fl_Ru_30 rfl kv49 ?_
                      refine ev_bipush dt_Ru_readTest_107 rfl ?_
                      refine ev_icmp_ne (tgt := 116) dt_Ru_readTest_109 (by decide) (by omega) (by omega) (fun h57 => ?_) (fun h57 => ?_)
                      · skip
                        refine ev_iconst dt_Ru_readTest_116 ?_
                        refine ev_istore (l' := [_, _, _, _, _, _, _]) dt_Ru_readTest_117 (Nat.le_of_ble_eq_true rfl) rfl ?_
                        refine ev_iload dt_Ru_readTest_119 rfl ?_
                        refine ev_if_eq (tgt := 128) dt_Ru_readTest_121 (by decide) (by omega) (fun h58 => ?_) (fun h58 => ?_)
                        · skip
                          refine ev_iinc (l' := [_, _, _, _, _, _, _]) dt_Ru_readTest_128 rfl rfl ?_
                          refine ev_goto (tgt := 11) dt_Ru_readTest_131 (by decide) ?_
                          exact tm_loc (tm_le_s (tm_le_s (tm_le_s (tm_le_s (tm_le_s (tm_le_s (tm_le_s tm_le_0))))))) (ihL39 (0) (0) (0) ((i43 + 1)) w47 hWw47 hFw47 (by omega) (by omega) (by omega) (by omega) (by omega) (by omega) (by omega) (by omega) (by omega))
                        · skip
                          exfalso
                          omega
                      · skip
                        refine ev_iconst dt_Ru_readTest_112 ?_
                        refine ev_goto (tgt := 117) dt_Ru_readTest_113 (by decide) ?_
                        refine ev_istore (l' := [_, _, _, _, _, _, _]) dt_Ru_readTest_117 (Nat.le_of_ble_eq_true rfl) rfl ?_
                        refine ev_iload dt_Ru_readTest_119 rfl ?_
                        refine ev_if_eq (tgt := 128) dt_Ru_readTest_121 (by decide) (by omega) (fun h59 => ?_) (fun h59 => ?_)
                        · skip
                          exfalso
                          omega
                        · skip
                          refine ev_aload_n dt_Ru_readTest_124 rfl rfl ?_
                          refine tm_vv dt_Ru_readTest_125 (tm_Ta_advance hWw47 h_tp) kb_Ru_37 ⟨im_Ta_advance, se_Ta_advance⟩ rfl hWw47 tpt0 rfl (Nat.le_of_ble_eq_true rfl) (by omega) (fun w60 hWw60 hRw60 => ?_)
                          have hfw60 := hRw60
                          have hFw60 : ∀ (p : Nat) (j : Int), ¬ (p = (rr + 1) ∨ (p = rr ∧ (j = 1 ∨ j = 2)) ∨ (p = tp ∧ (j = 2 ∨ j = 5 ∨ j = 6 ∨ j = 7 ∨ j = 8 ∨ j = 4))) → tm_g w60 p j = tm_g w p j := fun p j h => (hfw60 p j (by omega)).trans (hFw47 p j h)
                          refine ev_iinc (l' := [_, _, _, _, _, _, _]) dt_Ru_readTest_128 rfl rfl ?_
                          refine ev_goto (tgt := 11) dt_Ru_readTest_131 (by decide) ?_
                          exact tm_loc (tm_le_s (tm_le_s (tm_le_s (tm_le_s (tm_le_s (tm_le_s (tm_le_s tm_le_0))))))) (ihL39 (0) (0) (1) ((i43 + 1)) w60 hWw60 hFw60 (by omega) (by omega) (by omega) (by omega) (by omega) (by omega) (by omega) (by omega) (by omega))
                  · skip
                    refine ev_iconst dt_Ru_readTest_87 ?_
                    refine ev_goto (tgt := 92) dt_Ru_readTest_88 (by decide) ?_
                    refine ev_istore (l' := [_, _, _, _, _, _, _]) dt_Ru_readTest_92 (Nat.le_of_ble_eq_true rfl) rfl ?_
                    refine ev_aload_n dt_Ru_readTest_94 rfl rfl ?_
                    refine tm_getK (K := 8) dt_Ru_readTest_95 hWw47 tpt0 fl_Ru_30 rfl kv49 ?_
                    refine ev_bipush dt_Ru_readTest_98 rfl ?_
                    refine ev_icmp_eq (tgt := 112) dt_Ru_readTest_100 (by decide) (by omega) (by omega) (fun h61 => ?_) (fun h61 => ?_)
                    · skip
                      exfalso
                      omega
                    · skip
                      refine ev_aload_n dt_Ru_readTest_103 rfl rfl ?_
                      refine tm_getK (K := 8) dt_Ru_readTest_104 hWw47 tpt0 fl_Ru_30 rfl kv49 ?_
                      refine ev_bipush dt_Ru_readTest_107 rfl ?_
                      refine ev_icmp_ne (tgt := 116) dt_Ru_readTest_109 (by decide) (by omega) (by omega) (fun h62 => ?_) (fun h62 => ?_)
                      · skip
                        exfalso
                        omega
                      · skip
                        refine ev_iconst dt_Ru_readTest_112 ?_
                        refine ev_goto (tgt := 117) dt_Ru_readTest_113 (by decide) ?_
                        refine ev_istore (l' := [_, _, _, _, _, _, _]) dt_Ru_readTest_117 (Nat.le_of_ble_eq_true rfl) rfl ?_
                        refine ev_iload dt_Ru_readTest_119 rfl ?_
                        refine ev_if_eq (tgt := 128) dt_Ru_readTest_121 (by decide) (by omega) (fun h63 => ?_) (fun h63 => ?_)
                        · skip
                          exfalso
                          omega
                        · skip
                          refine ev_aload_n dt_Ru_readTest_124 rfl rfl ?_
                          refine tm_vv dt_Ru_readTest_125 (tm_Ta_advance hWw47 h_tp) kb_Ru_37 ⟨im_Ta_advance, se_Ta_advance⟩ rfl hWw47 tpt0 rfl (Nat.le_of_ble_eq_true rfl) (by omega) (fun w64 hWw64 hRw64 => ?_)
                          have hfw64 := hRw64
                          have hFw64 : ∀ (p : Nat) (j : Int), ¬ (p = (rr + 1) ∨ (p = rr ∧ (j = 1 ∨ j = 2)) ∨ (p = tp ∧ (j = 2 ∨ j = 5 ∨ j = 6 ∨ j = 7 ∨ j = 8 ∨ j = 4))) → tm_g w64 p j = tm_g w p j := fun p j h => (hfw64 p j (by omega)).trans (hFw47 p j h)
                          refine ev_iinc (l' := [_, _, _, _, _, _, _]) dt_Ru_readTest_128 rfl rfl ?_
                          refine ev_goto (tgt := 11) dt_Ru_readTest_131 (by decide) ?_
                          exact tm_loc (tm_le_s (tm_le_s (tm_le_s (tm_le_s (tm_le_s (tm_le_s (tm_le_s tm_le_0))))))) (ihL39 (0) (1) (1) ((i43 + 1)) w64 hWw64 hFw64 (by omega) (by omega) (by omega) (by omega) (by omega) (by omega) (by omega) (by omega) (by omega))
                · skip
                  exfalso
                  omega
              · skip
                refine ev_iload_n dt_Ru_readTest_59 rfl rfl ?_
                refine ev_if_ne (tgt := 69) dt_Ru_readTest_60 (by decide) (by omega) (fun h65 => ?_) (fun h65 => ?_)
                · skip
                  exfalso
                  omega
                · skip
                  refine ev_aload_n dt_Ru_readTest_63 rfl rfl ?_
                  refine ev_bipush dt_Ru_readTest_64 rfl ?_
                  refine tm_vv dt_Ru_readTest_66 (tm_Ru_emit hWw47 h_rr ((-32)) (by omega) (by omega)) kb_Ru_50 ⟨im_Ru_emit, se_Ru_emit⟩ rfl hWw47 rrt0 rfl (Nat.le_of_ble_eq_true rfl) (by omega) (fun w66 hWw66 hRw66 => ?_)
                  have hfw66 := hRw66
                  have hFw66 : ∀ (p : Nat) (j : Int), ¬ (p = (rr + 1) ∨ (p = rr ∧ (j = 1 ∨ j = 2)) ∨ (p = tp ∧ (j = 2 ∨ j = 5 ∨ j = 6 ∨ j = 7 ∨ j = 8 ∨ j = 4))) → tm_g w66 p j = tm_g w p j := fun p j h => (hfw66 p j (by omega)).trans (hFw47 p j h)
                  have z67 := (hfw66 tp 8 (by omega)).trans kv49
                  refine ev_iload dt_Ru_readTest_69 rfl ?_
                  refine ev_if_eq (tgt := 78) dt_Ru_readTest_71 (by decide) (by omega) (fun h68 => ?_) (fun h68 => ?_)
                  · skip
                    exfalso
                    omega
                  · skip
                    refine ev_iload_n dt_Ru_readTest_74 rfl rfl ?_
                    refine ev_if_ne (tgt := 87) dt_Ru_readTest_75 (by decide) (by omega) (fun h69 => ?_) (fun h69 => ?_)
                    · skip
                      exfalso
                      omega
                    · skip
                      refine ev_aload_n dt_Ru_readTest_78 rfl rfl ?_
                      refine tm_getK (K := 8) dt_Ru_readTest_79 hWw66 tpt0 fl_Ru_30 rfl z67 ?_
                      refine ev_bipush dt_Ru_readTest_82 rfl ?_
                      refine ev_icmp_ne (tgt := 91) dt_Ru_readTest_84 (by decide) (by omega) (by omega) (fun h70 => ?_) (fun h70 => ?_)
                      · skip
                        refine ev_iconst dt_Ru_readTest_91 ?_
                        refine ev_istore (l' := [_, _, _, _, _, _, _]) dt_Ru_readTest_92 (Nat.le_of_ble_eq_true rfl) rfl ?_
                        refine ev_aload_n dt_Ru_readTest_94 rfl rfl ?_
                        refine tm_getK (K := 8) dt_Ru_readTest_95 hWw66 tpt0 fl_Ru_30 rfl z67 ?_
                        refine ev_bipush dt_Ru_readTest_98 rfl ?_
                        refine ev_icmp_eq (tgt := 112) dt_Ru_readTest_100 (by decide) (by omega) (by omega) (fun h71 => ?_) (fun h71 => ?_)
                        · skip
                          refine ev_iconst dt_Ru_readTest_112 ?_
                          refine ev_goto (tgt := 117) dt_Ru_readTest_113 (by decide) ?_
                          refine ev_istore (l' := [_, _, _, _, _, _, _]) dt_Ru_readTest_117 (Nat.le_of_ble_eq_true rfl) rfl ?_
                          refine ev_iload dt_Ru_readTest_119 rfl ?_
                          refine ev_if_eq (tgt := 128) dt_Ru_readTest_121 (by decide) (by omega) (fun h72 => ?_) (fun h72 => ?_)
                          · skip
                            exfalso
                            omega
                          · skip
                            refine ev_aload_n dt_Ru_readTest_124 rfl rfl ?_
                            refine tm_vv dt_Ru_readTest_125 (tm_Ta_advance hWw66 h_tp) kb_Ru_37 ⟨im_Ta_advance, se_Ta_advance⟩ rfl hWw66 tpt0 rfl (Nat.le_of_ble_eq_true rfl) (by omega) (fun w73 hWw73 hRw73 => ?_)
                            have hfw73 := hRw73
                            have hFw73 : ∀ (p : Nat) (j : Int), ¬ (p = (rr + 1) ∨ (p = rr ∧ (j = 1 ∨ j = 2)) ∨ (p = tp ∧ (j = 2 ∨ j = 5 ∨ j = 6 ∨ j = 7 ∨ j = 8 ∨ j = 4))) → tm_g w73 p j = tm_g w p j := fun p j h => (hfw73 p j (by omega)).trans (hFw66 p j h)
                            refine ev_iinc (l' := [_, _, _, _, _, _, _]) dt_Ru_readTest_128 rfl rfl ?_
                            refine ev_goto (tgt := 11) dt_Ru_readTest_131 (by decide) ?_
                            exact tm_loc (tm_le_s (tm_le_s (tm_le_s (tm_le_s (tm_le_s (tm_le_s (tm_le_s tm_le_0))))))) (ihL39 (0) (0) (1) ((i43 + 1)) w73 hWw73 hFw73 (by omega) (by omega) (by omega) (by omega) (by omega) (by omega) (by omega) (by omega) (by omega))
                        · skip
                          refine ev_aload_n dt_Ru_readTest_103 rfl rfl ?_
                          refine tm_getK (K := 8) dt_Ru_readTest_104 hWw66 tpt0 fl_Ru_30 rfl z67 ?_
                          refine ev_bipush dt_Ru_readTest_107 rfl ?_
                          refine ev_icmp_ne (tgt := 116) dt_Ru_readTest_109 (by decide) (by omega) (by omega) (fun h74 => ?_) (fun h74 => ?_)
                          · skip
                            refine ev_iconst dt_Ru_readTest_116 ?_
                            refine ev_istore (l' := [_, _, _, _, _, _, _]) dt_Ru_readTest_117 (Nat.le_of_ble_eq_true rfl) rfl ?_
                            refine ev_iload dt_Ru_readTest_119 rfl ?_
                            refine ev_if_eq (tgt := 128) dt_Ru_readTest_121 (by decide) (by omega) (fun h75 => ?_) (fun h75 => ?_)
                            · skip
                              refine ev_iinc (l' := [_, _, _, _, _, _, _]) dt_Ru_readTest_128 rfl rfl ?_
                              refine ev_goto (tgt := 11) dt_Ru_readTest_131 (by decide) ?_
                              exact tm_loc (tm_le_s (tm_le_s (tm_le_s (tm_le_s (tm_le_s (tm_le_s (tm_le_s tm_le_0))))))) (ihL39 (0) (0) (0) ((i43 + 1)) w66 hWw66 hFw66 (by omega) (by omega) (by omega) (by omega) (by omega) (by omega) (by omega) (by omega) (by omega))
                            · skip
                              exfalso
                              omega
                          · skip
                            refine ev_iconst dt_Ru_readTest_112 ?_
                            refine ev_goto (tgt := 117) dt_Ru_readTest_113 (by decide) ?_
                            refine ev_istore (l' := [_, _, _, _, _, _, _]) dt_Ru_readTest_117 (Nat.le_of_ble_eq_true rfl) rfl ?_
                            refine ev_iload dt_Ru_readTest_119 rfl ?_
                            refine ev_if_eq (tgt := 128) dt_Ru_readTest_121 (by decide) (by omega) (fun h76 => ?_) (fun h76 => ?_)
                            · skip
                              exfalso
                              omega
                            · skip
                              refine ev_aload_n dt_Ru_readTest_124 rfl rfl ?_
                              refine tm_vv dt_Ru_readTest_125 (tm_Ta_advance hWw66 h_tp) kb_Ru_37 ⟨im_Ta_advance, se_Ta_advance⟩ rfl hWw66 tpt0 rfl (Nat.le_of_ble_eq_true rfl) (by omega) (fun w77 hWw77 hRw77 => ?_)
                              have hfw77 := hRw77
                              have hFw77 : ∀ (p : Nat) (j : Int), ¬ (p = (rr + 1) ∨ (p = rr ∧ (j = 1 ∨ j = 2)) ∨ (p = tp ∧ (j = 2 ∨ j = 5 ∨ j = 6 ∨ j = 7 ∨ j = 8 ∨ j = 4))) → tm_g w77 p j = tm_g w p j := fun p j h => (hfw77 p j (by omega)).trans (hFw66 p j h)
                              refine ev_iinc (l' := [_, _, _, _, _, _, _]) dt_Ru_readTest_128 rfl rfl ?_
                              refine ev_goto (tgt := 11) dt_Ru_readTest_131 (by decide) ?_
                              exact tm_loc (tm_le_s (tm_le_s (tm_le_s (tm_le_s (tm_le_s (tm_le_s (tm_le_s tm_le_0))))))) (ihL39 (0) (0) (1) ((i43 + 1)) w77 hWw77 hFw77 (by omega) (by omega) (by omega) (by omega) (by omega) (by omega) (by omega) (by omega) (by omega))
                      · skip
                        refine ev_iconst dt_Ru_readTest_87 ?_
                        refine ev_goto (tgt := 92) dt_Ru_readTest_88 (by decide) ?_
                        refine ev_istore (l' := [_, _, _, _, _, _, _]) dt_Ru_readTest_92 (Nat.le_of_ble_eq_true rfl) rfl ?_
                        refine ev_aload_n dt_Ru_readTest_94 rfl rfl ?_
                        refine tm_getK (K := 8) dt_Ru_readTest_95 hWw66 tpt0 fl_Ru_30 rfl z67 ?_
                        refine ev_bipush dt_Ru_readTest_98 rfl ?_
                        refine ev_icmp_eq (tgt := 112) dt_Ru_readTest_100 (by decide) (by omega) (by omega) (fun h78 => ?_) (fun h78 => ?_)
                        · skip
                          exfalso
                          omega
                        · skip
                          refine ev_aload_n dt_Ru_readTest_103 rfl rfl ?_
                          refine tm_getK (K := 8) dt_Ru_readTest_104 hWw66 tpt0 fl_Ru_30 rfl z67 ?_
                          refine ev_bipush dt_Ru_readTest_107 rfl ?_
                          refine ev_icmp_ne (tgt := 116) dt_Ru_readTest_109 (by decide) (by omega) (by omega) (fun h79 => ?_) (fun h79 => ?_)
                          · skip
                            exfalso
                            omega
                          · skip
                            refine ev_iconst dt_Ru_readTest_112 ?_
                            refine ev_goto (tgt := 117) dt_Ru_readTest_113 (by decide) ?_
                            refine ev_istore (l' := [_, _, _, _, _, _, _]) dt_Ru_readTest_117 (Nat.le_of_ble_eq_true rfl) rfl ?_
                            refine ev_iload dt_Ru_readTest_119 rfl ?_
                            refine ev_if_eq (tgt := 128) dt_Ru_readTest_121 (by decide) (by omega) (fun h80 => ?_) (fun h80 => ?_)
                            · skip
                              exfalso
                              omega
                            · skip
                              refine ev_aload_n dt_Ru_readTest_124 rfl rfl ?_
                              refine tm_vv dt_Ru_readTest_125 (tm_Ta_advance hWw66 h_tp) kb_Ru_37 ⟨im_Ta_advance, se_Ta_advance⟩ rfl hWw66 tpt0 rfl (Nat.le_of_ble_eq_true rfl) (by omega) (fun w81 hWw81 hRw81 => ?_)
                              have hfw81 := hRw81
                              have hFw81 : ∀ (p : Nat) (j : Int), ¬ (p = (rr + 1) ∨ (p = rr ∧ (j = 1 ∨ j = 2)) ∨ (p = tp ∧ (j = 2 ∨ j = 5 ∨ j = 6 ∨ j = 7 ∨ j = 8 ∨ j = 4))) → tm_g w81 p j = tm_g w p j := fun p j h => (hfw81 p j (by omega)).trans (hFw66 p j h)
                              refine ev_iinc (l' := [_, _, _, _, _, _, _]) dt_Ru_readTest_128 rfl rfl ?_
                              refine ev_goto (tgt := 11) dt_Ru_readTest_131 (by decide) ?_
                              exact tm_loc (tm_le_s (tm_le_s (tm_le_s (tm_le_s (tm_le_s (tm_le_s (tm_le_s tm_le_0))))))) (ihL39 (0) (1) (1) ((i43 + 1)) w81 hWw81 hFw81 (by omega) (by omega) (by omega) (by omega) (by omega) (by omega) (by omega) (by omega) (by omega))
            · skip
              refine ev_iconst dt_Ru_readTest_48 ?_
              refine ev_goto (tgt := 53) dt_Ru_readTest_49 (by decide) ?_
              refine ev_istore_n (l' := [_, _, _, _, _, _, _]) dt_Ru_readTest_53 rfl (Nat.le_of_ble_eq_true rfl) rfl ?_
              refine ev_iload dt_Ru_readTest_54 rfl ?_
              refine ev_if_eq (tgt := 69) dt_Ru_readTest_56 (by decide) (by omega) (fun h82 => ?_) (fun h82 => ?_)
              · skip
                refine ev_iload dt_Ru_readTest_69 rfl ?_
                refine ev_if_eq (tgt := 78) dt_Ru_readTest_71 (by decide) (by omega) (fun h83 => ?_) (fun h83 => ?_)
                · skip
                  refine ev_aload_n dt_Ru_readTest_78 rfl rfl ?_
                  refine tm_getK (K := 8) dt_Ru_readTest_79 hWw47 tpt0 fl_Ru_30 rfl kv49 ?_
                  refine ev_bipush dt_Ru_readTest_82 rfl ?_
                  refine ev_icmp_ne (tgt := 91) dt_Ru_readTest_84 (by decide) (by omega) (by omega) (fun h84 => ?_) (fun h84 => ?_)
                  · skip
                    refine ev_iconst dt_Ru_readTest_91 ?_
                    refine ev_istore (l' := [_, _, _, _, _, _, _]) dt_Ru_readTest_92 (Nat.le_of_ble_eq_true rfl) rfl ?_
                    refine ev_aload_n dt_Ru_readTest_94 rfl rfl ?_
                    refine tm_getK (K := 8) dt_Ru_readTest_95 hWw47 tpt0 fl_Ru_30 rfl kv49 ?_
                    refine ev_bipush dt_Ru_readTest_98 rfl ?_
                    refine ev_icmp_eq (tgt := 112) dt_Ru_readTest_100 (by decide) (by omega) (by omega) (fun h85 => ?_) (fun h85 => ?_)
                    · skip
                      refine ev_iconst dt_Ru_readTest_112 ?_
                      refine ev_goto (tgt := 117) dt_Ru_readTest_113 (by decide) ?_
                      refine ev_istore (l' := [_, _, _, _, _, _, _]) dt_Ru_readTest_117 (Nat.le_of_ble_eq_true rfl) rfl ?_
                      refine ev_iload dt_Ru_readTest_119 rfl ?_
                      refine ev_if_eq (tgt := 128) dt_Ru_readTest_121 (by decide) (by omega) (fun h86 => ?_) (fun h86 => ?_)
                      · skip
                        exfalso
                        omega
                      · skip
                        refine ev_aload_n dt_Ru_readTest_124 rfl rfl ?_
                        refine tm_vv dt_Ru_readTest_125 (tm_Ta_advance hWw47 h_tp) kb_Ru_37 ⟨im_Ta_advance, se_Ta_advance⟩ rfl hWw47 tpt0 rfl (Nat.le_of_ble_eq_true rfl) (by omega) (fun w87 hWw87 hRw87 => ?_)
                        have hfw87 := hRw87
                        have hFw87 : ∀ (p : Nat) (j : Int), ¬ (p = (rr + 1) ∨ (p = rr ∧ (j = 1 ∨ j = 2)) ∨ (p = tp ∧ (j = 2 ∨ j = 5 ∨ j = 6 ∨ j = 7 ∨ j = 8 ∨ j = 4))) → tm_g w87 p j = tm_g w p j := fun p j h => (hfw87 p j (by omega)).trans (hFw47 p j h)
                        refine ev_iinc (l' := [_, _, _, _, _, _, _]) dt_Ru_readTest_128 rfl rfl ?_
                        refine ev_goto (tgt := 11) dt_Ru_readTest_131 (by decide) ?_
                        exact tm_loc (tm_le_s (tm_le_s (tm_le_s (tm_le_s (tm_le_s (tm_le_s (tm_le_s tm_le_0))))))) (ihL39 (1) (0) (1) ((i43 + 1)) w87 hWw87 hFw87 (by omega) (by omega) (by omega) (by omega) (by omega) (by omega) (by omega) (by omega) (by omega))
                    · skip
                      exfalso
                      omega
                  · skip
                    exfalso
                    omega
                · skip
                  exfalso
                  omega
              · skip
                refine ev_iload_n dt_Ru_readTest_59 rfl rfl ?_
                refine ev_if_ne (tgt := 69) dt_Ru_readTest_60 (by decide) (by omega) (fun h88 => ?_) (fun h88 => ?_)
                · skip
                  refine ev_iload dt_Ru_readTest_69 rfl ?_
                  refine ev_if_eq (tgt := 78) dt_Ru_readTest_71 (by decide) (by omega) (fun h89 => ?_) (fun h89 => ?_)
                  · skip
                    exfalso
                    omega
                  · skip
                    refine ev_iload_n dt_Ru_readTest_74 rfl rfl ?_
                    refine ev_if_ne (tgt := 87) dt_Ru_readTest_75 (by decide) (by omega) (fun h90 => ?_) (fun h90 => ?_)
                    · skip
                      refine ev_iconst dt_Ru_readTest_87 ?_
                      refine ev_goto (tgt := 92) dt_Ru_readTest_88 (by decide) ?_
                      refine ev_istore (l' := [_, _, _, _, _, _, _]) dt_Ru_readTest_92 (Nat.le_of_ble_eq_true rfl) rfl ?_
                      refine ev_aload_n dt_Ru_readTest_94 rfl rfl ?_
                      refine tm_getK (K := 8) dt_Ru_readTest_95 hWw47 tpt0 fl_Ru_30 rfl kv49 ?_
                      refine ev_bipush dt_Ru_readTest_98 rfl ?_
                      refine ev_icmp_eq (tgt := 112) dt_Ru_readTest_100 (by decide) (by omega) (by omega) (fun h91 => ?_) (fun h91 => ?_)
                      · skip
                        refine ev_iconst dt_Ru_readTest_112 ?_
                        refine ev_goto (tgt := 117) dt_Ru_readTest_113 (by decide) ?_
                        refine ev_istore (l' := [_, _, _, _, _, _, _]) dt_Ru_readTest_117 (Nat.le_of_ble_eq_true rfl) rfl ?_
                        refine ev_iload dt_Ru_readTest_119 rfl ?_
                        refine ev_if_eq (tgt := 128) dt_Ru_readTest_121 (by decide) (by omega) (fun h92 => ?_) (fun h92 => ?_)
                        · skip
                          exfalso
                          omega
                        · skip
                          refine ev_aload_n dt_Ru_readTest_124 rfl rfl ?_
                          refine tm_vv dt_Ru_readTest_125 (tm_Ta_advance hWw47 h_tp) kb_Ru_37 ⟨im_Ta_advance, se_Ta_advance⟩ rfl hWw47 tpt0 rfl (Nat.le_of_ble_eq_true rfl) (by omega) (fun w93 hWw93 hRw93 => ?_)
                          have hfw93 := hRw93
                          have hFw93 : ∀ (p : Nat) (j : Int), ¬ (p = (rr + 1) ∨ (p = rr ∧ (j = 1 ∨ j = 2)) ∨ (p = tp ∧ (j = 2 ∨ j = 5 ∨ j = 6 ∨ j = 7 ∨ j = 8 ∨ j = 4))) → tm_g w93 p j = tm_g w p j := fun p j h => (hfw93 p j (by omega)).trans (hFw47 p j h)
                          refine ev_iinc (l' := [_, _, _, _, _, _, _]) dt_Ru_readTest_128 rfl rfl ?_
                          refine ev_goto (tgt := 11) dt_Ru_readTest_131 (by decide) ?_
                          exact tm_loc (tm_le_s (tm_le_s (tm_le_s (tm_le_s (tm_le_s (tm_le_s (tm_le_s tm_le_0))))))) (ihL39 (1) (1) (1) ((i43 + 1)) w93 hWw93 hFw93 (by omega) (by omega) (by omega) (by omega) (by omega) (by omega) (by omega) (by omega) (by omega))
                      · skip
                        exfalso
                        omega
                    · skip
                      exfalso
                      omega
                · skip
                  exfalso
                  omega
          · skip
            refine ev_aload_n dt_Ru_readTest_33 rfl rfl ?_
            refine ev_bipush dt_Ru_readTest_34 rfl ?_
            refine tm_vv dt_Ru_readTest_36 (tm_Ru_emit hWw47 h_rr ((-31)) (by omega) (by omega)) kb_Ru_50 ⟨im_Ru_emit, se_Ru_emit⟩ rfl hWw47 rrt0 rfl (Nat.le_of_ble_eq_true rfl) (by omega) (fun w94 hWw94 hRw94 => ?_)
            have hfw94 := hRw94
            have hFw94 : ∀ (p : Nat) (j : Int), ¬ (p = (rr + 1) ∨ (p = rr ∧ (j = 1 ∨ j = 2)) ∨ (p = tp ∧ (j = 2 ∨ j = 5 ∨ j = 6 ∨ j = 7 ∨ j = 8 ∨ j = 4))) → tm_g w94 p j = tm_g w p j := fun p j h => (hfw94 p j (by omega)).trans (hFw47 p j h)
            refine ev_aload_n dt_Ru_readTest_39 rfl rfl ?_
            refine tm_getI (K := 8) dt_Ru_readTest_40 hWw94 tpt0 fl_Ru_30 rfl rfl (fun v95 kv95 lv95 uv95 => ?_)
            refine ev_bipush dt_Ru_readTest_43 rfl ?_
            refine ev_icmp_ne (tgt := 52) dt_Ru_readTest_45 (by decide) (by omega) (by omega) (fun h96 => ?_) (fun h96 => ?_)
            · skip
              refine ev_iconst dt_Ru_readTest_52 ?_
              refine ev_istore_n (l' := [_, _, _, _, _, _, _]) dt_Ru_readTest_53 rfl (Nat.le_of_ble_eq_true rfl) rfl ?_
              refine ev_iload dt_Ru_readTest_54 rfl ?_
              refine ev_if_eq (tgt := 69) dt_Ru_readTest_56 (by decide) (by omega) (fun h97 => ?_) (fun h97 => ?_)
              · skip
                refine ev_iload dt_Ru_readTest_69 rfl ?_
                refine ev_if_eq (tgt := 78) dt_Ru_readTest_71 (by decide) (by omega) (fun h98 => ?_) (fun h98 => ?_)
                · skip
                  refine ev_aload_n dt_Ru_readTest_78 rfl rfl ?_
                  refine tm_getK (K := 8) dt_Ru_readTest_79 hWw94 tpt0 fl_Ru_30 rfl kv95 ?_
                  refine ev_bipush dt_Ru_readTest_82 rfl ?_
                  refine ev_icmp_ne (tgt := 91) dt_Ru_readTest_84 (by decide) (by omega) (by omega) (fun h99 => ?_) (fun h99 => ?_)
                  · skip
                    refine ev_iconst dt_Ru_readTest_91 ?_
                    refine ev_istore (l' := [_, _, _, _, _, _, _]) dt_Ru_readTest_92 (Nat.le_of_ble_eq_true rfl) rfl ?_
                    refine ev_aload_n dt_Ru_readTest_94 rfl rfl ?_
                    refine tm_getK (K := 8) dt_Ru_readTest_95 hWw94 tpt0 fl_Ru_30 rfl kv95 ?_
                    refine ev_bipush dt_Ru_readTest_98 rfl ?_
                    refine ev_icmp_eq (tgt := 112) dt_Ru_readTest_100 (by decide) (by omega) (by omega) (fun h100 => ?_) (fun h100 => ?_)
                    · skip
                      refine ev_iconst dt_Ru_readTest_112 ?_
                      refine ev_goto (tgt := 117) dt_Ru_readTest_113 (by decide) ?_
                      refine ev_istore (l' := [_, _, _, _, _, _, _]) dt_Ru_readTest_117 (Nat.le_of_ble_eq_true rfl) rfl ?_
                      refine ev_iload dt_Ru_readTest_119 rfl ?_
                      refine ev_if_eq (tgt := 128) dt_Ru_readTest_121 (by decide) (by omega) (fun h101 => ?_) (fun h101 => ?_)
                      · skip
                        exfalso
                        omega
                      · skip
                        refine ev_aload_n dt_Ru_readTest_124 rfl rfl ?_
                        refine tm_vv dt_Ru_readTest_125 (tm_Ta_advance hWw94 h_tp) kb_Ru_37 ⟨im_Ta_advance, se_Ta_advance⟩ rfl hWw94 tpt0 rfl (Nat.le_of_ble_eq_true rfl) (by omega) (fun w102 hWw102 hRw102 => ?_)
                        have hfw102 := hRw102
                        have hFw102 : ∀ (p : Nat) (j : Int), ¬ (p = (rr + 1) ∨ (p = rr ∧ (j = 1 ∨ j = 2)) ∨ (p = tp ∧ (j = 2 ∨ j = 5 ∨ j = 6 ∨ j = 7 ∨ j = 8 ∨ j = 4))) → tm_g w102 p j = tm_g w p j := fun p j h => (hfw102 p j (by omega)).trans (hFw94 p j h)
                        refine ev_iinc (l' := [_, _, _, _, _, _, _]) dt_Ru_readTest_128 rfl rfl ?_
                        refine ev_goto (tgt := 11) dt_Ru_readTest_131 (by decide) ?_
                        exact tm_loc (tm_le_s (tm_le_s (tm_le_s (tm_le_s (tm_le_s (tm_le_s (tm_le_s tm_le_0))))))) (ihL39 (0) (0) (1) ((i43 + 1)) w102 hWw102 hFw102 (by omega) (by omega) (by omega) (by omega) (by omega) (by omega) (by omega) (by omega) (by omega))
                    · skip
                      refine ev_aload_n dt_Ru_readTest_103 rfl rfl ?_
                      refine tm_getK (K := 8) dt_Ru_readTest_104 hWw94 tpt0 fl_Ru_30 rfl kv95 ?_
                      refine ev_bipush dt_Ru_readTest_107 rfl ?_
                      refine ev_icmp_ne (tgt := 116) dt_Ru_readTest_109 (by decide) (by omega) (by omega) (fun h103 => ?_) (fun h103 => ?_)
                      · skip
                        refine ev_iconst dt_Ru_readTest_116 ?_
                        refine ev_istore (l' := [_, _, _, _, _, _, _]) dt_Ru_readTest_117 (Nat.le_of_ble_eq_true rfl) rfl ?_
                        refine ev_iload dt_Ru_readTest_119 rfl ?_
                        refine ev_if_eq (tgt := 128) dt_Ru_readTest_121 (by decide) (by omega) (fun h104 => ?_) (fun h104 => ?_)
                        · skip
                          refine ev_iinc (l' := [_, _, _, _, _, _, _]) dt_Ru_readTest_128 rfl rfl ?_
                          refine ev_goto (tgt := 11) dt_Ru_readTest_131 (by decide) ?_
                          exact tm_loc (tm_le_s (tm_le_s (tm_le_s (tm_le_s (tm_le_s (tm_le_s (tm_le_s tm_le_0))))))) (ihL39 (0) (0) (0) ((i43 + 1)) w94 hWw94 hFw94 (by omega) (by omega) (by omega) (by omega) (by omega) (by omega) (by omega) (by omega) (by omega))
                        · skip
                          exfalso
                          omega
                      · skip
                        refine ev_iconst dt_Ru_readTest_112 ?_
                        refine ev_goto (tgt := 117) dt_Ru_readTest_113 (by decide) ?_
                        refine ev_istore (l' := [_, _, _, _, _, _, _]) dt_Ru_readTest_117 (Nat.le_of_ble_eq_true rfl) rfl ?_
                        refine ev_iload dt_Ru_readTest_119 rfl ?_
                        refine ev_if_eq (tgt := 128) dt_Ru_readTest_121 (by decide) (by omega) (fun h105 => ?_) (fun h105 => ?_)
                        · skip
                          exfalso
                          omega
                        · skip
                          refine ev_aload_n dt_Ru_readTest_124 rfl rfl ?_
                          refine tm_vv dt_Ru_readTest_125 (tm_Ta_advance hWw94 h_tp) kb_Ru_37 ⟨im_Ta_advance, se_Ta_advance⟩ rfl hWw94 tpt0 rfl (Nat.le_of_ble_eq_true rfl) (by omega) (fun w106 hWw106 hRw106 => ?_)
                          have hfw106 := hRw106
                          have hFw106 : ∀ (p : Nat) (j : Int), ¬ (p = (rr + 1) ∨ (p = rr ∧ (j = 1 ∨ j = 2)) ∨ (p = tp ∧ (j = 2 ∨ j = 5 ∨ j = 6 ∨ j = 7 ∨ j = 8 ∨ j = 4))) → tm_g w106 p j = tm_g w p j := fun p j h => (hfw106 p j (by omega)).trans (hFw94 p j h)
                          refine ev_iinc (l' := [_, _, _, _, _, _, _]) dt_Ru_readTest_128 rfl rfl ?_
                          refine ev_goto (tgt := 11) dt_Ru_readTest_131 (by decide) ?_
                          exact tm_loc (tm_le_s (tm_le_s (tm_le_s (tm_le_s (tm_le_s (tm_le_s (tm_le_s tm_le_0))))))) (ihL39 (0) (0) (1) ((i43 + 1)) w106 hWw106 hFw106 (by omega) (by omega) (by omega) (by omega) (by omega) (by omega) (by omega) (by omega) (by omega))
                  · skip
                    refine ev_iconst dt_Ru_readTest_87 ?_
                    refine ev_goto (tgt := 92) dt_Ru_readTest_88 (by decide) ?_
                    refine ev_istore (l' := [_, _, _, _, _, _, _]) dt_Ru_readTest_92 (Nat.le_of_ble_eq_true rfl) rfl ?_
                    refine ev_aload_n dt_Ru_readTest_94 rfl rfl ?_
                    refine tm_getK (K := 8) dt_Ru_readTest_95 hWw94 tpt0 fl_Ru_30 rfl kv95 ?_
                    refine ev_bipush dt_Ru_readTest_98 rfl ?_
                    refine ev_icmp_eq (tgt := 112) dt_Ru_readTest_100 (by decide) (by omega) (by omega) (fun h107 => ?_) (fun h107 => ?_)
                    · skip
                      exfalso
                      omega
                    · skip
                      refine ev_aload_n dt_Ru_readTest_103 rfl rfl ?_
                      refine tm_getK (K := 8) dt_Ru_readTest_104 hWw94 tpt0 fl_Ru_30 rfl kv95 ?_
                      refine ev_bipush dt_Ru_readTest_107 rfl ?_
                      refine ev_icmp_ne (tgt := 116) dt_Ru_readTest_109 (by decide) (by omega) (by omega) (fun h108 => ?_) (fun h108 => ?_)
                      · skip
                        exfalso
                        omega
                      · skip
                        refine ev_iconst dt_Ru_readTest_112 ?_
                        refine ev_goto (tgt := 117) dt_Ru_readTest_113 (by decide) ?_
                        refine ev_istore (l' := [_, _, _, _, _, _, _]) dt_Ru_readTest_117 (Nat.le_of_ble_eq_true rfl) rfl ?_
                        refine ev_iload dt_Ru_readTest_119 rfl ?_
                        refine ev_if_eq (tgt := 128) dt_Ru_readTest_121 (by decide) (by omega) (fun h109 => ?_) (fun h109 => ?_)
                        · skip
                          exfalso
                          omega
                        · skip
                          refine ev_aload_n dt_Ru_readTest_124 rfl rfl ?_
                          refine tm_vv dt_Ru_readTest_125 (tm_Ta_advance hWw94 h_tp) kb_Ru_37 ⟨im_Ta_advance, se_Ta_advance⟩ rfl hWw94 tpt0 rfl (Nat.le_of_ble_eq_true rfl) (by omega) (fun w110 hWw110 hRw110 => ?_)
                          have hfw110 := hRw110
                          have hFw110 : ∀ (p : Nat) (j : Int), ¬ (p = (rr + 1) ∨ (p = rr ∧ (j = 1 ∨ j = 2)) ∨ (p = tp ∧ (j = 2 ∨ j = 5 ∨ j = 6 ∨ j = 7 ∨ j = 8 ∨ j = 4))) → tm_g w110 p j = tm_g w p j := fun p j h => (hfw110 p j (by omega)).trans (hFw94 p j h)
                          refine ev_iinc (l' := [_, _, _, _, _, _, _]) dt_Ru_readTest_128 rfl rfl ?_
                          refine ev_goto (tgt := 11) dt_Ru_readTest_131 (by decide) ?_
                          exact tm_loc (tm_le_s (tm_le_s (tm_le_s (tm_le_s (tm_le_s (tm_le_s (tm_le_s tm_le_0))))))) (ihL39 (0) (1) (1) ((i43 + 1)) w110 hWw110 hFw110 (by omega) (by omega) (by omega) (by omega) (by omega) (by omega) (by omega) (by omega) (by omega))
                · skip
                  exfalso
                  omega
              · skip
                refine ev_iload_n dt_Ru_readTest_59 rfl rfl ?_
                refine ev_if_ne (tgt := 69) dt_Ru_readTest_60 (by decide) (by omega) (fun h111 => ?_) (fun h111 => ?_)
                · skip
                  exfalso
                  omega
                · skip
                  refine ev_aload_n dt_Ru_readTest_63 rfl rfl ?_
                  refine ev_bipush dt_Ru_readTest_64 rfl ?_
                  refine tm_vv dt_Ru_readTest_66 (tm_Ru_emit hWw94 h_rr ((-32)) (by omega) (by omega)) kb_Ru_50 ⟨im_Ru_emit, se_Ru_emit⟩ rfl hWw94 rrt0 rfl (Nat.le_of_ble_eq_true rfl) (by omega) (fun w112 hWw112 hRw112 => ?_)
                  have hfw112 := hRw112
                  have hFw112 : ∀ (p : Nat) (j : Int), ¬ (p = (rr + 1) ∨ (p = rr ∧ (j = 1 ∨ j = 2)) ∨ (p = tp ∧ (j = 2 ∨ j = 5 ∨ j = 6 ∨ j = 7 ∨ j = 8 ∨ j = 4))) → tm_g w112 p j = tm_g w p j := fun p j h => (hfw112 p j (by omega)).trans (hFw94 p j h)
                  have z113 := (hfw112 tp 8 (by omega)).trans kv95
                  refine ev_iload dt_Ru_readTest_69 rfl ?_
                  refine ev_if_eq (tgt := 78) dt_Ru_readTest_71 (by decide) (by omega) (fun h114 => ?_) (fun h114 => ?_)
                  · skip
                    exfalso
                    omega
                  · skip
                    refine ev_iload_n dt_Ru_readTest_74 rfl rfl ?_
                    refine ev_if_ne (tgt := 87) dt_Ru_readTest_75 (by decide) (by omega) (fun h115 => ?_) (fun h115 => ?_)
                    · skip
                      exfalso
                      omega
                    · skip
                      refine ev_aload_n dt_Ru_readTest_78 rfl rfl ?_
                      refine tm_getK (K := 8) dt_Ru_readTest_79 hWw112 tpt0 fl_Ru_30 rfl z113 ?_
                      refine ev_bipush dt_Ru_readTest_82 rfl ?_
                      refine ev_icmp_ne (tgt := 91) dt_Ru_readTest_84 (by decide) (by omega) (by omega) (fun h116 => ?_) (fun h116 => ?_)
                      · skip
                        refine ev_iconst dt_Ru_readTest_91 ?_
                        refine ev_istore (l' := [_, _, _, _, _, _, _]) dt_Ru_readTest_92 (Nat.le_of_ble_eq_true rfl) rfl ?_
                        refine ev_aload_n dt_Ru_readTest_94 rfl rfl ?_
                        refine tm_getK (K := 8) dt_Ru_readTest_95 hWw112 tpt0 fl_Ru_30 rfl z113 ?_
                        refine ev_bipush dt_Ru_readTest_98 rfl ?_
                        refine ev_icmp_eq (tgt := 112) dt_Ru_readTest_100 (by decide) (by omega) (by omega) (fun h117 => ?_) (fun h117 => ?_)
                        · skip
                          refine ev_iconst dt_Ru_readTest_112 ?_
                          refine ev_goto (tgt := 117) dt_Ru_readTest_113 (by decide) ?_
                          refine ev_istore (l' := [_, _, _, _, _, _, _]) dt_Ru_readTest_117 (Nat.le_of_ble_eq_true rfl) rfl ?_
                          refine ev_iload dt_Ru_readTest_119 rfl ?_
                          refine ev_if_eq (tgt := 128) dt_Ru_readTest_121 (by decide) (by omega) (fun h118 => ?_) (fun h118 => ?_)
                          · skip
                            exfalso
                            omega
                          · skip
                            refine ev_aload_n dt_Ru_readTest_124 rfl rfl ?_
                            refine tm_vv dt_Ru_readTest_125 (tm_Ta_advance hWw112 h_tp) kb_Ru_37 ⟨im_Ta_advance, se_Ta_advance⟩ rfl hWw112 tpt0 rfl (Nat.le_of_ble_eq_true rfl) (by omega) (fun w119 hWw119 hRw119 => ?_)
                            have hfw119 := hRw119
                            have hFw119 : ∀ (p : Nat) (j : Int), ¬ (p = (rr + 1) ∨ (p = rr ∧ (j = 1 ∨ j = 2)) ∨ (p = tp ∧ (j = 2 ∨ j = 5 ∨ j = 6 ∨ j = 7 ∨ j = 8 ∨ j = 4))) → tm_g w119 p j = tm_g w p j := fun p j h => (hfw119 p j (by omega)).trans (hFw112 p j h)
                            refine ev_iinc (l' := [_, _, _, _, _, _, _]) dt_Ru_readTest_128 rfl rfl ?_
                            refine ev_goto (tgt := 11) dt_Ru_readTest_131 (by decide) ?_
                            exact tm_loc (tm_le_s (tm_le_s (tm_le_s (tm_le_s (tm_le_s (tm_le_s (tm_le_s tm_le_0))))))) (ihL39 (0) (0) (1) ((i43 + 1)) w119 hWw119 hFw119 (by omega) (by omega) (by omega) (by omega) (by omega) (by omega) (by omega) (by omega) (by omega))
                        · skip
                          refine ev_aload_n dt_Ru_readTest_103 rfl rfl ?_
                          refine tm_getK (K := 8) dt_Ru_readTest_104 hWw112 tpt0 fl_Ru_30 rfl z113 ?_
                          refine ev_bipush dt_Ru_readTest_107 rfl ?_
                          refine ev_icmp_ne (tgt := 116) dt_Ru_readTest_109 (by decide) (by omega) (by omega) (fun h120 => ?_) (fun h120 => ?_)
                          · skip
                            refine ev_iconst dt_Ru_readTest_116 ?_
                            refine ev_istore (l' := [_, _, _, _, _, _, _]) dt_Ru_readTest_117 (Nat.le_of_ble_eq_true rfl) rfl ?_
                            refine ev_iload dt_Ru_readTest_119 rfl ?_
                            refine ev_if_eq (tgt := 128) dt_Ru_readTest_121 (by decide) (by omega) (fun h121 => ?_) (fun h121 => ?_)
                            · skip
                              refine ev_iinc (l' := [_, _, _, _, _, _, _]) dt_Ru_readTest_128 rfl rfl ?_
                              refine ev_goto (tgt := 11) dt_Ru_readTest_131 (by decide) ?_
                              exact tm_loc (tm_le_s (tm_le_s (tm_le_s (tm_le_s (tm_le_s (tm_le_s (tm_le_s tm_le_0))))))) (ihL39 (0) (0) (0) ((i43 + 1)) w112 hWw112 hFw112 (by omega) (by omega) (by omega) (by omega) (by omega) (by omega) (by omega) (by omega) (by omega))
                            · skip
                              exfalso
                              omega
                          · skip
                            refine ev_iconst dt_Ru_readTest_112 ?_
                            refine ev_goto (tgt := 117) dt_Ru_readTest_113 (by decide) ?_
                            refine ev_istore (l' := [_, _, _, _, _, _, _]) dt_Ru_readTest_117 (Nat.le_of_ble_eq_true rfl) rfl ?_
                            refine ev_iload dt_Ru_readTest_119 rfl ?_
                            refine ev_if_eq (tgt := 128) dt_Ru_readTest_121 (by decide) (by omega) (fun h122 => ?_) (fun h122 => ?_)
                            · skip
                              exfalso
                              omega
                            · skip
                              refine ev_aload_n dt_Ru_readTest_124 rfl rfl ?_
                              refine tm_vv dt_Ru_readTest_125 (tm_Ta_advance hWw112 h_tp) kb_Ru_37 ⟨im_Ta_advance, se_Ta_advance⟩ rfl hWw112 tpt0 rfl (Nat.le_of_ble_eq_true rfl) (by omega) (fun w123 hWw123 hRw123 => ?_)
                              have hfw123 := hRw123
                              have hFw123 : ∀ (p : Nat) (j : Int), ¬ (p = (rr + 1) ∨ (p = rr ∧ (j = 1 ∨ j = 2)) ∨ (p = tp ∧ (j = 2 ∨ j = 5 ∨ j = 6 ∨ j = 7 ∨ j = 8 ∨ j = 4))) → tm_g w123 p j = tm_g w p j := fun p j h => (hfw123 p j (by omega)).trans (hFw112 p j h)
                              refine ev_iinc (l' := [_, _, _, _, _, _, _]) dt_Ru_readTest_128 rfl rfl ?_
                              refine ev_goto (tgt := 11) dt_Ru_readTest_131 (by decide) ?_
                              exact tm_loc (tm_le_s (tm_le_s (tm_le_s (tm_le_s (tm_le_s (tm_le_s (tm_le_s tm_le_0))))))) (ihL39 (0) (0) (1) ((i43 + 1)) w123 hWw123 hFw123 (by omega) (by omega) (by omega) (by omega) (by omega) (by omega) (by omega) (by omega) (by omega))
                      · skip
                        refine ev_iconst dt_Ru_readTest_87 ?_
                        refine ev_goto (tgt := 92) dt_Ru_readTest_88 (by decide) ?_
                        refine ev_istore (l' := [_, _, _, _, _, _, _]) dt_Ru_readTest_92 (Nat.le_of_ble_eq_true rfl) rfl ?_
                        refine ev_aload_n dt_Ru_readTest_94 rfl rfl ?_
                        refine tm_getK (K := 8) dt_Ru_readTest_95 hWw112 tpt0 fl_Ru_30 rfl z113 ?_
                        refine ev_bipush dt_Ru_readTest_98 rfl ?_
                        refine ev_icmp_eq (tgt := 112) dt_Ru_readTest_100 (by decide) (by omega) (by omega) (fun h124 => ?_) (fun h124 => ?_)
                        · skip
                          exfalso
                          omega
                        · skip
                          refine ev_aload_n dt_Ru_readTest_103 rfl rfl ?_
                          refine tm_getK (K := 8) dt_Ru_readTest_104 hWw112 tpt0 fl_Ru_30 rfl z113 ?_
                          refine ev_bipush dt_Ru_readTest_107 rfl ?_
                          refine ev_icmp_ne (tgt := 116) dt_Ru_readTest_109 (by decide) (by omega) (by omega) (fun h125 => ?_) (fun h125 => ?_)
                          · skip
                            exfalso
                            omega
                          · skip
                            refine ev_iconst dt_Ru_readTest_112 ?_
                            refine ev_goto (tgt := 117) dt_Ru_readTest_113 (by decide) ?_
                            refine ev_istore (l' := [_, _, _, _, _, _, _]) dt_Ru_readTest_117 (Nat.le_of_ble_eq_true rfl) rfl ?_
                            refine ev_iload dt_Ru_readTest_119 rfl ?_
                            refine ev_if_eq (tgt := 128) dt_Ru_readTest_121 (by decide) (by omega) (fun h126 => ?_) (fun h126 => ?_)
                            · skip
                              exfalso
                              omega
                            · skip
                              refine ev_aload_n dt_Ru_readTest_124 rfl rfl ?_
                              refine tm_vv dt_Ru_readTest_125 (tm_Ta_advance hWw112 h_tp) kb_Ru_37 ⟨im_Ta_advance, se_Ta_advance⟩ rfl hWw112 tpt0 rfl (Nat.le_of_ble_eq_true rfl) (by omega) (fun w127 hWw127 hRw127 => ?_)
                              have hfw127 := hRw127
                              have hFw127 : ∀ (p : Nat) (j : Int), ¬ (p = (rr + 1) ∨ (p = rr ∧ (j = 1 ∨ j = 2)) ∨ (p = tp ∧ (j = 2 ∨ j = 5 ∨ j = 6 ∨ j = 7 ∨ j = 8 ∨ j = 4))) → tm_g w127 p j = tm_g w p j := fun p j h => (hfw127 p j (by omega)).trans (hFw112 p j h)
                              refine ev_iinc (l' := [_, _, _, _, _, _, _]) dt_Ru_readTest_128 rfl rfl ?_
                              refine ev_goto (tgt := 11) dt_Ru_readTest_131 (by decide) ?_
                              exact tm_loc (tm_le_s (tm_le_s (tm_le_s (tm_le_s (tm_le_s (tm_le_s (tm_le_s tm_le_0))))))) (ihL39 (0) (1) (1) ((i43 + 1)) w127 hWw127 hFw127 (by omega) (by omega) (by omega) (by omega) (by omega) (by omega) (by omega) (by omega) (by omega))
            · skip
              refine ev_iconst dt_Ru_readTest_48 ?_
              refine ev_goto (tgt := 53) dt_Ru_readTest_49 (by decide) ?_
              refine ev_istore_n (l' := [_, _, _, _, _, _, _]) dt_Ru_readTest_53 rfl (Nat.le_of_ble_eq_true rfl) rfl ?_
              refine ev_iload dt_Ru_readTest_54 rfl ?_
              refine ev_if_eq (tgt := 69) dt_Ru_readTest_56 (by decide) (by omega) (fun h128 => ?_) (fun h128 => ?_)
              · skip
                refine ev_iload dt_Ru_readTest_69 rfl ?_
                refine ev_if_eq (tgt := 78) dt_Ru_readTest_71 (by decide) (by omega) (fun h129 => ?_) (fun h129 => ?_)
                · skip
                  refine ev_aload_n dt_Ru_readTest_78 rfl rfl ?_
                  refine tm_getK (K := 8) dt_Ru_readTest_79 hWw94 tpt0 fl_Ru_30 rfl kv95 ?_
                  refine ev_bipush dt_Ru_readTest_82 rfl ?_
                  refine ev_icmp_ne (tgt := 91) dt_Ru_readTest_84 (by decide) (by omega) (by omega) (fun h130 => ?_) (fun h130 => ?_)
                  · skip
                    refine ev_iconst dt_Ru_readTest_91 ?_
                    refine ev_istore (l' := [_, _, _, _, _, _, _]) dt_Ru_readTest_92 (Nat.le_of_ble_eq_true rfl) rfl ?_
                    refine ev_aload_n dt_Ru_readTest_94 rfl rfl ?_
                    refine tm_getK (K := 8) dt_Ru_readTest_95 hWw94 tpt0 fl_Ru_30 rfl kv95 ?_
                    refine ev_bipush dt_Ru_readTest_98 rfl ?_
                    refine ev_icmp_eq (tgt := 112) dt_Ru_readTest_100 (by decide) (by omega) (by omega) (fun h131 => ?_) (fun h131 => ?_)
                    · skip
                      refine ev_iconst dt_Ru_readTest_112 ?_
                      refine ev_goto (tgt := 117) dt_Ru_readTest_113 (by decide) ?_
                      refine ev_istore (l' := [_, _, _, _, _, _, _]) dt_Ru_readTest_117 (Nat.le_of_ble_eq_true rfl) rfl ?_
                      refine ev_iload dt_Ru_readTest_119 rfl ?_
                      refine ev_if_eq (tgt := 128) dt_Ru_readTest_121 (by decide) (by omega) (fun h132 => ?_) (fun h132 => ?_)
                      · skip
                        exfalso
                        omega
                      · skip
                        refine ev_aload_n dt_Ru_readTest_124 rfl rfl ?_
                        refine tm_vv dt_Ru_readTest_125 (tm_Ta_advance hWw94 h_tp) kb_Ru_37 ⟨im_Ta_advance, se_Ta_advance⟩ rfl hWw94 tpt0 rfl (Nat.le_of_ble_eq_true rfl) (by omega) (fun w133 hWw133 hRw133 => ?_)
                        have hfw133 := hRw133
                        have hFw133 : ∀ (p : Nat) (j : Int), ¬ (p = (rr + 1) ∨ (p = rr ∧ (j = 1 ∨ j = 2)) ∨ (p = tp ∧ (j = 2 ∨ j = 5 ∨ j = 6 ∨ j = 7 ∨ j = 8 ∨ j = 4))) → tm_g w133 p j = tm_g w p j := fun p j h => (hfw133 p j (by omega)).trans (hFw94 p j h)
                        refine ev_iinc (l' := [_, _, _, _, _, _, _]) dt_Ru_readTest_128 rfl rfl ?_
                        refine ev_goto (tgt := 11) dt_Ru_readTest_131 (by decide) ?_
                        exact tm_loc (tm_le_s (tm_le_s (tm_le_s (tm_le_s (tm_le_s (tm_le_s (tm_le_s tm_le_0))))))) (ihL39 (1) (0) (1) ((i43 + 1)) w133 hWw133 hFw133 (by omega) (by omega) (by omega) (by omega) (by omega) (by omega) (by omega) (by omega) (by omega))
                    · skip
                      exfalso
                      omega
                  · skip
                    exfalso
                    omega
                · skip
                  exfalso
                  omega
              · skip
                refine ev_iload_n dt_Ru_readTest_59 rfl rfl ?_
                refine ev_if_ne (tgt := 69) dt_Ru_readTest_60 (by decide) (by omega) (fun h134 => ?_) (fun h134 => ?_)
                · skip
                  refine ev_iload dt_Ru_readTest_69 rfl ?_
                  refine ev_if_eq (tgt := 78) dt_Ru_readTest_71 (by decide) (by omega) (fun h135 => ?_) (fun h135 => ?_)
                  · skip
                    exfalso
                    omega
                  · skip
                    refine ev_iload_n dt_Ru_readTest_74 rfl rfl ?_
                    refine ev_if_ne (tgt := 87) dt_Ru_readTest_75 (by decide) (by omega) (fun h136 => ?_) (fun h136 => ?_)
                    · skip
                      refine ev_iconst dt_Ru_readTest_87 ?_
                      refine ev_goto (tgt := 92) dt_Ru_readTest_88 (by decide) ?_
                      refine ev_istore (l' := [_, _, _, _, _, _, _]) dt_Ru_readTest_92 (Nat.le_of_ble_eq_true rfl) rfl ?_
                      refine ev_aload_n dt_Ru_readTest_94 rfl rfl ?_
                      refine tm_getK (K := 8) dt_Ru_readTest_95 hWw94 tpt0 fl_Ru_30 rfl kv95 ?_
                      refine ev_bipush dt_Ru_readTest_98 rfl ?_
                      refine ev_icmp_eq (tgt := 112) dt_Ru_readTest_100 (by decide) (by omega) (by omega) (fun h137 => ?_) (fun h137 => ?_)
                      · skip
                        refine ev_iconst dt_Ru_readTest_112 ?_
                        refine ev_goto (tgt := 117) dt_Ru_readTest_113 (by decide) ?_
                        refine ev_istore (l' := [_, _, _, _, _, _, _]) dt_Ru_readTest_117 (Nat.le_of_ble_eq_true rfl) rfl ?_
                        refine ev_iload dt_Ru_readTest_119 rfl ?_
                        refine ev_if_eq (tgt := 128) dt_Ru_readTest_121 (by decide) (by omega) (fun h138 => ?_) (fun h138 => ?_)
                        · skip
                          exfalso
                          omega
                        · skip
                          refine ev_aload_n dt_Ru_readTest_124 rfl rfl ?_
                          refine tm_vv dt_Ru_readTest_125 (tm_Ta_advance hWw94 h_tp) kb_Ru_37 ⟨im_Ta_advance, se_Ta_advance⟩ rfl hWw94 tpt0 rfl (Nat.le_of_ble_eq_true rfl) (by omega) (fun w139 hWw139 hRw139 => ?_)
                          have hfw139 := hRw139
                          have hFw139 : ∀ (p : Nat) (j : Int), ¬ (p = (rr + 1) ∨ (p = rr ∧ (j = 1 ∨ j = 2)) ∨ (p = tp ∧ (j = 2 ∨ j = 5 ∨ j = 6 ∨ j = 7 ∨ j = 8 ∨ j = 4))) → tm_g w139 p j = tm_g w p j := fun p j h => (hfw139 p j (by omega)).trans (hFw94 p j h)
                          refine ev_iinc (l' := [_, _, _, _, _, _, _]) dt_Ru_readTest_128 rfl rfl ?_
                          refine ev_goto (tgt := 11) dt_Ru_readTest_131 (by decide) ?_
                          exact tm_loc (tm_le_s (tm_le_s (tm_le_s (tm_le_s (tm_le_s (tm_le_s (tm_le_s tm_le_0))))))) (ihL39 (1) (1) (1) ((i43 + 1)) w139 hWw139 hFw139 (by omega) (by omega) (by omega) (by omega) (by omega) (by omega) (by omega) (by omega) (by omega))
                      · skip
                        exfalso
                        omega
                    · skip
                      exfalso
                      omega
                · skip
                  exfalso
                  omega
  exact tm_loc (tm_le_s (tm_le_s (tm_le_s (tm_le_s (tm_le_s (tm_le_s (tm_le_s tm_le_0))))))) (L39 (61 - (0) + 1 : Int).toNat (0) (0) (1) (0)  w hW hF0 (by omega) (by omega) (by omega) (by omega) (by omega) (by omega) (by omega) (by omega) (by omega))
theorem tm_RuFT : ∀ m : Nat, ru_Fact m ∧ ru_Test m := by
  intro m
  induction m with
  | zero => exact ⟨fun N T w rr tp hW h_rr h_tp ne a l u hm => by exfalso; omega, fun N T w rr tp hW h_rr h_tp ne a l u hm => by exfalso; omega⟩
  | succ m ih =>
    have hF : ru_Fact (m + 1) := fun N T w rr tp hW h_rr h_tp ne a l u hm => tm_RuF ih.1 ih.2 hW h_rr h_tp ne a l u (by omega)
    exact ⟨hF, fun N T w rr tp hW h_rr h_tp ne a l u hm => tm_RuT hF hW h_rr h_tp ne a l u hm⟩
theorem tm_Ru_readTest {N : Nat} {T : Nat → tm_S} {w : ab_W} {rr : Nat} {tp : Nat} (hW : tm_W N T w) (h_rr : is_Ru T rr) (h_tp : is_Ta T tp) (ne_rr_tp : rr + 2 ≤ tp ∨ tp + 2 ≤ rr) (a : Int) (l_a : 0 ≤ a) (u_a : a ≤ 10)  : ab_Mt g_G g_rs mt_Ru_readTest (2 * (10 - a).toNat + 13) 0 0 [ab_R rr, ab_R tp, ab_I a] w (tm_Qv N T (fun w2 => (∀ (p : Nat) (j : Int), ¬ (p = (rr + 1) ∨ (p = rr ∧ (j = 1 ∨ j = 2)) ∨ (p = tp ∧ (j = 2 ∨ j = 5 ∨ j = 6 ∨ j = 7 ∨ j = 8 ∨ j = 4))) → tm_g w2 p j = tm_g w p j))) := (tm_RuFT 11).2 _ _ _ _ _ hW h_rr h_tp ne_rr_tp a l_a u_a (by omega)
theorem dt_Ru_readAll_0 : decode prog_10_method_2_code 0 = .ok (.aload_n 1, 1) := by decide +kernel
theorem dt_Ru_readAll_1 : decode prog_10_method_2_code 1 = .ok (.ldc 15, 2) := by decide +kernel
theorem dt_Ru_readAll_3 : decode prog_10_method_2_code 3 = .ok (.invokevirtual 17, 3) := by decide +kernel
theorem dt_Ru_readAll_6 : decode prog_10_method_2_code 6 = .ok (.aload_n 0, 1) := by decide +kernel
theorem dt_Ru_readAll_7 : decode prog_10_method_2_code 7 = .ok (.iconst 0, 1) := by decide +kernel
theorem dt_Ru_readAll_8 : decode prog_10_method_2_code 8 = .ok (.putfield 23, 3) := by decide +kernel
theorem dt_Ru_readAll_11 : decode prog_10_method_2_code 11 = .ok (.aload_n 0, 1) := by decide +kernel
theorem dt_Ru_readAll_12 : decode prog_10_method_2_code 12 = .ok (.iconst 0, 1) := by decide +kernel
theorem dt_Ru_readAll_13 : decode prog_10_method_2_code 13 = .ok (.putfield 27, 3) := by decide +kernel
theorem dt_Ru_readAll_16 : decode prog_10_method_2_code 16 = .ok (.iconst 1, 1) := by decide +kernel
theorem dt_Ru_readAll_17 : decode prog_10_method_2_code 17 = .ok (.istore_n 2, 1) := by decide +kernel
theorem dt_Ru_readAll_18 : decode prog_10_method_2_code 18 = .ok (.iconst 0, 1) := by decide +kernel
theorem dt_Ru_readAll_19 : decode prog_10_method_2_code 19 = .ok (.istore_n 3, 1) := by decide +kernel
theorem dt_Ru_readAll_20 : decode prog_10_method_2_code 20 = .ok (.iload_n 2, 1) := by decide +kernel
theorem dt_Ru_readAll_21 : decode prog_10_method_2_code 21 = .ok (.ifCond .eq 108, 3) := by decide +kernel
theorem dt_Ru_readAll_24 : decode prog_10_method_2_code 24 = .ok (.iload_n 3, 1) := by decide +kernel
theorem dt_Ru_readAll_25 : decode prog_10_method_2_code 25 = .ok (.bipush 12, 2) := by decide +kernel
theorem dt_Ru_readAll_27 : decode prog_10_method_2_code 27 = .ok (.if_icmp .gt 102, 3) := by decide +kernel
theorem dt_Ru_readAll_30 : decode prog_10_method_2_code 30 = .ok (.aload_n 1, 1) := by decide +kernel
theorem dt_Ru_readAll_31 : decode prog_10_method_2_code 31 = .ok (.getfield 30, 3) := by decide +kernel
theorem dt_Ru_readAll_34 : decode prog_10_method_2_code 34 = .ok (.bipush 12, 2) := by decide +kernel
theorem dt_Ru_readAll_36 : decode prog_10_method_2_code 36 = .ok (.if_icmp .eq 11, 3) := by decide +kernel
theorem dt_Ru_readAll_39 : decode prog_10_method_2_code 39 = .ok (.aload_n 1, 1) := by decide +kernel
theorem dt_Ru_readAll_40 : decode prog_10_method_2_code 40 = .ok (.iconst 0, 1) := by decide +kernel
theorem dt_Ru_readAll_41 : decode prog_10_method_2_code 41 = .ok (.invokevirtual 33, 3) := by decide +kernel
theorem dt_Ru_readAll_44 : decode prog_10_method_2_code 44 = .ok (.goto 14, 3) := by decide +kernel
theorem dt_Ru_readAll_47 : decode prog_10_method_2_code 47 = .ok (.iload_n 3, 1) := by decide +kernel
theorem dt_Ru_readAll_48 : decode prog_10_method_2_code 48 = .ok (.bipush 12, 2) := by decide +kernel
theorem dt_Ru_readAll_50 : decode prog_10_method_2_code 50 = .ok (.if_icmp .ne 8, 3) := by decide +kernel
theorem dt_Ru_readAll_53 : decode prog_10_method_2_code 53 = .ok (.aload_n 1, 1) := by decide +kernel
theorem dt_Ru_readAll_54 : decode prog_10_method_2_code 54 = .ok (.iconst 4, 1) := by decide +kernel
theorem dt_Ru_readAll_55 : decode prog_10_method_2_code 55 = .ok (.invokevirtual 33, 3) := by decide +kernel
theorem dt_Ru_readAll_58 : decode prog_10_method_2_code 58 = .ok (.aload_n 1, 1) := by decide +kernel
theorem dt_Ru_readAll_59 : decode prog_10_method_2_code 59 = .ok (.invokevirtual 37, 3) := by decide +kernel
theorem dt_Ru_readAll_62 : decode prog_10_method_2_code 62 = .ok (.aload_n 0, 1) := by decide +kernel
theorem dt_Ru_readAll_63 : decode prog_10_method_2_code 63 = .ok (.aload_n 1, 1) := by decide +kernel
theorem dt_Ru_readAll_64 : decode prog_10_method_2_code 64 = .ok (.invokevirtual 40, 3) := by decide +kernel
theorem dt_Ru_readAll_67 : decode prog_10_method_2_code 67 = .ok (.bipush (-34), 2) := by decide +kernel
theorem dt_Ru_readAll_69 : decode prog_10_method_2_code 69 = .ok (.istore 4, 2) := by decide +kernel
theorem dt_Ru_readAll_71 : decode prog_10_method_2_code 71 = .ok (.aload_n 1, 1) := by decide +kernel
theorem dt_Ru_readAll_72 : decode prog_10_method_2_code 72 = .ok (.getfield 30, 3) := by decide +kernel
theorem dt_Ru_readAll_75 : decode prog_10_method_2_code 75 = .ok (.bipush 13, 2) := by decide +kernel
theorem dt_Ru_readAll_77 : decode prog_10_method_2_code 77 = .ok (.if_icmp .ne 17, 3) := by decide +kernel
theorem dt_Ru_readAll_80 : decode prog_10_method_2_code 80 = .ok (.aload_n 1, 1) := by decide +kernel
theorem dt_Ru_readAll_81 : decode prog_10_method_2_code 81 = .ok (.invokevirtual 37, 3) := by decide +kernel
theorem dt_Ru_readAll_84 : decode prog_10_method_2_code 84 = .ok (.aload_n 0, 1) := by decide +kernel
theorem dt_Ru_readAll_85 : decode prog_10_method_2_code 85 = .ok (.aload_n 1, 1) := by decide +kernel
theorem dt_Ru_readAll_86 : decode prog_10_method_2_code 86 = .ok (.iconst 0, 1) := by decide +kernel
theorem dt_Ru_readAll_87 : decode prog_10_method_2_code 87 = .ok (.invokevirtual 46, 3) := by decide +kernel
theorem dt_Ru_readAll_90 : decode prog_10_method_2_code 90 = .ok (.bipush (-35), 2) := by decide +kernel
theorem dt_Ru_readAll_92 : decode prog_10_method_2_code 92 = .ok (.istore 4, 2) := by decide +kernel
theorem dt_Ru_readAll_94 : decode prog_10_method_2_code 94 = .ok (.aload_n 0, 1) := by decide +kernel
theorem dt_Ru_readAll_95 : decode prog_10_method_2_code 95 = .ok (.iload 4, 2) := by decide +kernel
theorem dt_Ru_readAll_97 : decode prog_10_method_2_code 97 = .ok (.invokevirtual 50, 3) := by decide +kernel
theorem dt_Ru_readAll_100 : decode prog_10_method_2_code 100 = .ok (.aload_n 1, 1) := by decide +kernel
theorem dt_Ru_readAll_101 : decode prog_10_method_2_code 101 = .ok (.getfield 53, 3) := by decide +kernel
theorem dt_Ru_readAll_104 : decode prog_10_method_2_code 104 = .ok (.bipush 59, 2) := by decide +kernel
theorem dt_Ru_readAll_106 : decode prog_10_method_2_code 106 = .ok (.if_icmp .ne 7, 3) := by decide +kernel
theorem dt_Ru_readAll_109 : decode prog_10_method_2_code 109 = .ok (.iconst 1, 1) := by decide +kernel
theorem dt_Ru_readAll_110 : decode prog_10_method_2_code 110 = .ok (.goto 4, 3) := by decide +kernel
theorem dt_Ru_readAll_113 : decode prog_10_method_2_code 113 = .ok (.iconst 0, 1) := by decide +kernel
theorem dt_Ru_readAll_114 : decode prog_10_method_2_code 114 = .ok (.istore_n 2, 1) := by decide +kernel
theorem dt_Ru_readAll_115 : decode prog_10_method_2_code 115 = .ok (.iload_n 2, 1) := by decide +kernel
theorem dt_Ru_readAll_116 : decode prog_10_method_2_code 116 = .ok (.ifCond .eq 7, 3) := by decide +kernel
theorem dt_Ru_readAll_119 : decode prog_10_method_2_code 119 = .ok (.aload_n 1, 1) := by decide +kernel
theorem dt_Ru_readAll_120 : decode prog_10_method_2_code 120 = .ok (.invokevirtual 37, 3) := by decide +kernel
theorem dt_Ru_readAll_123 : decode prog_10_method_2_code 123 = .ok (.iinc 3 1, 3) := by decide +kernel
theorem dt_Ru_readAll_126 : decode prog_10_method_2_code 126 = .ok (.goto (-106), 3) := by decide +kernel
theorem dt_Ru_readAll_129 : decode prog_10_method_2_code 129 = .ok (.aload_n 1, 1) := by decide +kernel
theorem dt_Ru_readAll_130 : decode prog_10_method_2_code 130 = .ok (.getfield 53, 3) := by decide +kernel
theorem dt_Ru_readAll_133 : decode prog_10_method_2_code 133 = .ok (.iconst (-1), 1) := by decide +kernel
theorem dt_Ru_readAll_134 : decode prog_10_method_2_code 134 = .ok (.if_icmp .eq 8, 3) := by decide +kernel
theorem dt_Ru_readAll_137 : decode prog_10_method_2_code 137 = .ok (.aload_n 1, 1) := by decide +kernel
theorem dt_Ru_readAll_138 : decode prog_10_method_2_code 138 = .ok (.iconst 0, 1) := by decide +kernel
theorem dt_Ru_readAll_139 : decode prog_10_method_2_code 139 = .ok (.invokevirtual 33, 3) := by decide +kernel
theorem dt_Ru_readAll_142 : decode prog_10_method_2_code 142 = .ok (.aload_n 1, 1) := by decide +kernel
theorem dt_Ru_readAll_143 : decode prog_10_method_2_code 143 = .ok (.getfield 56, 3) := by decide +kernel
theorem dt_Ru_readAll_146 : decode prog_10_method_2_code 146 = .ok (.ireturn, 1) := by decide +kernel
set_option maxHeartbeats 4000000 in
set_option maxRecDepth 10000 in
theorem tm_Ru_readAll {N : Nat} {T : Nat → tm_S} {w : ab_W} {rr : Nat} {tp : Nat} (hW : tm_W N T w) (h_rr : is_Ru T rr) (h_tp : is_Ta T tp) (ne_rr_tp : rr + 2 ≤ tp ∨ tp + 2 ≤ rr) : ab_Mt g_G g_rs mt_Ru_readAll 34 0 0 [ab_R rr, ab_R tp] w (tm_Qi N T (fun v w2 => (∀ (p : Nat) (j : Int), ¬ (p = (rr + 1) ∨ (p = rr ∧ (j = 1 ∨ j = 2)) ∨ (p = tp ∧ (j = 2 ∨ j = 5 ∨ j = 6 ∨ j = 7 ∨ j = 8 ∨ j = 4 ∨ j = 3))) → tm_g w2 p j = tm_g w p j) ∧ ((-2147483648) ≤ v ∧ v ≤ 2147483647))) := by
  obtain ⟨rrt0, rrt1⟩ := id h_rr
  obtain ⟨tpt0, tpt1⟩ := id h_tp
  have hF0 : ∀ (p : Nat) (j : Int), ¬ (p = (rr + 1) ∨ (p = rr ∧ (j = 1 ∨ j = 2)) ∨ (p = tp ∧ (j = 2 ∨ j = 5 ∨ j = 6 ∨ j = 7 ∨ j = 8 ∨ j = 4 ∨ j = 3))) → tm_g w p j = tm_g w p j := fun _ _ _ => rfl
  refine ab_Mt.of rfl (Nat.le_of_ble_eq_true rfl) ?_
  show ab_Ev g_G g_rs mt_Ru_readAll _ _ _ 0 [some (ab_R rr), some (ab_R tp), none, none, none] [] _ _
  refine ev_aload_n dt_Ru_readAll_0 rfl rfl ?_
  refine ev_ldcS (k := 2) dt_Ru_readAll_1 (List.mem_of_getElem? (i := 2) rfl) (by decide) ?_
  refine tm_vv dt_Ru_readAll_3 (tm_Ta_begin hW h_tp 2 (by decide)) kb_Ru_17 ⟨im_Ta_begin, se_Ta_begin⟩ rfl hW tpt0 rfl (Nat.le_of_ble_eq_true rfl) (by decide) (fun w140 hWw140 hRw140 => ?_)
  have hfw140 := hRw140
  have hFw140 : ∀ (p : Nat) (j : Int), ¬ (p = (rr + 1) ∨ (p = rr ∧ (j = 1 ∨ j = 2)) ∨ (p = tp ∧ (j = 2 ∨ j = 5 ∨ j = 6 ∨ j = 7 ∨ j = 8 ∨ j = 4 ∨ j = 3))) → tm_g w140 p j = tm_g w p j := fun p j h => (hfw140 p j (by omega)).trans (hF0 p j h)
  refine ev_aload_n dt_Ru_readAll_6 rfl rfl ?_
  refine ev_iconst dt_Ru_readAll_7 ?_
  refine tm_putI (K := 1) dt_Ru_readAll_8 hWw140 rrt0 (fp_Ru_23 _) rfl rfl trivial (by omega) (by omega) (fun w141 hWw141 kkw141 hfw141 => ?_)
  have hFw141 : ∀ (p : Nat) (j : Int), ¬ (p = (rr + 1) ∨ (p = rr ∧ (j = 1 ∨ j = 2)) ∨ (p = tp ∧ (j = 2 ∨ j = 5 ∨ j = 6 ∨ j = 7 ∨ j = 8 ∨ j = 4 ∨ j = 3))) → tm_g w141 p j = tm_g w p j := fun p j h => (hfw141 p j (by omega)).trans (hFw140 p j h)
  refine ev_aload_n dt_Ru_readAll_11 rfl rfl ?_
  refine ev_iconst dt_Ru_readAll_12 ?_
  refine tm_putI (K := 2) dt_Ru_readAll_13 hWw141 rrt0 (fp_Ru_27 _) rfl rfl trivial (by omega) (by omega) (fun w142 hWw142 kkw142 hfw142 => ?_)
  have hFw142 : ∀ (p : Nat) (j : Int), ¬ (p = (rr + 1) ∨ (p = rr ∧ (j = 1 ∨ j = 2)) ∨ (p = tp ∧ (j = 2 ∨ j = 5 ∨ j = 6 ∨ j = 7 ∨ j = 8 ∨ j = 4 ∨ j = 3))) → tm_g w142 p j = tm_g w p j := fun p j h => (hfw142 p j (by omega)).trans (hFw141 p j h)
  have z143 := (hfw142 rr 1 (by omega)).trans kkw141
  refine ev_iconst dt_Ru_readAll_16 ?_
  refine ev_istore_n (l' := [_, _, _, _, _]) dt_Ru_readAll_17 rfl (Nat.le_of_ble_eq_true rfl) rfl ?_
  refine ev_iconst dt_Ru_readAll_18 ?_
  refine ev_istore_n (l' := [_, _, _, _, _]) dt_Ru_readAll_19 rfl (Nat.le_of_ble_eq_true rfl) rfl ?_
  have L144 : ∀ (n : Nat) (i145 : Int) (i146 : Int)  (w147 : ab_W), tm_W N T w147 → (∀ (p : Nat) (j : Int), ¬ (p = (rr + 1) ∨ (p = rr ∧ (j = 1 ∨ j = 2)) ∨ (p = tp ∧ (j = 2 ∨ j = 5 ∨ j = 6 ∨ j = 7 ∨ j = 8 ∨ j = 4 ∨ j = 3))) → tm_g w147 p j = tm_g w p j) → 0 ≤ i145 → i145 ≤ 1 → 0 ≤ i146 → i146 ≤ 13 → 13 - i146 < (n : Int) → ab_Ev g_G g_rs mt_Ru_readAll 34 0 0 20 [some (ab_R rr), some (ab_R tp), some (ab_I i145), some (ab_I i146), none] [] w147 (tm_Qi N T (fun v w2 => (∀ (p : Nat) (j : Int), ¬ (p = (rr + 1) ∨ (p = rr ∧ (j = 1 ∨ j = 2)) ∨ (p = tp ∧ (j = 2 ∨ j = 5 ∨ j = 6 ∨ j = 7 ∨ j = 8 ∨ j = 4 ∨ j = 3))) → tm_g w2 p j = tm_g w p j) ∧ ((-2147483648) ≤ v ∧ v ≤ 2147483647))) := by
    intro n
    induction n with
    | zero =>
      intro i145 i146  w147 hWw147 hFw147 li145 ui145 li146 ui146 mL144
      exfalso
      omega
    | succ nL144 ihL144 =>
      intro i145 i146  w147 hWw147 hFw147 li145 ui145 li146 ui146 mL144
      refine ev_iload_n dt_Ru_readAll_20 rfl rfl ?_
      refine ev_if_eq (tgt := 129) dt_Ru_readAll_21 (by decide) (by omega) (fun h148 => ?_) (fun h148 => ?_)
      · skip
        refine ev_aload_n dt_Ru_readAll_129 rfl rfl ?_
        refine tm_getI (K := 6) dt_Ru_readAll_130 hWw147 tpt0 fl_Ru_53 rfl rfl (fun v149 kv149 lv149 uv149 => ?_)
        refine ev_iconst dt_Ru_readAll_133 ?_
        refine ev_icmp_eq (tgt := 142) dt_Ru_readAll_134 (by decide) (by omega) (by omega) (fun h150 => ?_) (fun h150 => ?_)
        · skip
          refine ev_aload_n dt_Ru_readAll_142 rfl rfl ?_
          refine tm_getI (K := 4) dt_Ru_readAll_143 hWw147 tpt0 fl_Ru_56 rfl rfl (fun v151 kv151 lv151 uv151 => ?_)
          exact ev_ireturn dt_Ru_readAll_146 rfl ⟨hWw147, _, rfl, ⟨hFw147, by omega⟩⟩
        · skip
          refine ev_aload_n dt_Ru_readAll_137 rfl rfl ?_
          refine ev_iconst dt_Ru_readAll_138 ?_
          refine tm_vv dt_Ru_readAll_139 (tm_Ta_fail hWw147 h_tp (0) (by omega) (by omega)) kb_Ru_33 ⟨im_Ta_fail, se_Ta_fail⟩ rfl hWw147 tpt0 rfl (Nat.le_of_ble_eq_true rfl) (by decide) (fun w152 hWw152 hRw152 => ?_)
          obtain ⟨hfw152, v153, kv153, hpw152⟩ := hRw152
          have hFw152 : ∀ (p : Nat) (j : Int), ¬ (p = (rr + 1) ∨ (p = rr ∧ (j = 1 ∨ j = 2)) ∨ (p = tp ∧ (j = 2 ∨ j = 5 ∨ j = 6 ∨ j = 7 ∨ j = 8 ∨ j = 4 ∨ j = 3))) → tm_g w152 p j = tm_g w p j := fun p j h => (hfw152 p j (by omega)).trans (hFw147 p j h)
          have bv153 : (-2147483648) ≤ v153 ∧ v153 ≤ 2147483647 := by obtain ⟨a, e, h0, h1⟩ := tm_peek (k := 4) (K := 4) hWw152 tpt0 rfl rfl; rw [kv153] at e; injection e with e; injection e with e; omega
          refine ev_aload_n dt_Ru_readAll_142 rfl rfl ?_
          refine tm_getK (K := 4) dt_Ru_readAll_143 hWw152 tpt0 fl_Ru_56 rfl kv153 ?_
          exact ev_ireturn dt_Ru_readAll_146 rfl ⟨hWw152, _, rfl, ⟨hFw152, by omega⟩⟩
      · skip
        refine ev_iload_n dt_Ru_readAll_24 rfl rfl ?_
        refine ev_bipush dt_Ru_readAll_25 rfl ?_
        refine ev_icmp_gt (tgt := 129) dt_Ru_readAll_27 (by decide) (by omega) (by omega) (fun h154 => ?_) (fun h154 => ?_)
        · skip
          refine ev_aload_n dt_Ru_readAll_129 rfl rfl ?_
          refine tm_getI (K := 6) dt_Ru_readAll_130 hWw147 tpt0 fl_Ru_53 rfl rfl (fun v155 kv155 lv155 uv155 => ?_)
          refine ev_iconst dt_Ru_readAll_133 ?_
          refine ev_icmp_eq (tgt := 142) dt_Ru_readAll_134 (by decide) (by omega) (by omega) (fun h156 => ?_) (fun h156 => ?_)
          · skip
            refine ev_aload_n dt_Ru_readAll_142 rfl rfl ?_
            refine tm_getI (K := 4) dt_Ru_readAll_143 hWw147 tpt0 fl_Ru_56 rfl rfl (fun v157 kv157 lv157 uv157 => ?_)
            exact ev_ireturn dt_Ru_readAll_146 rfl ⟨hWw147, _, rfl, ⟨hFw147, by omega⟩⟩
          · skip
            refine ev_aload_n dt_Ru_readAll_137 rfl rfl ?_
            refine ev_iconst dt_Ru_readAll_138 ?_
            refine tm_vv dt_Ru_readAll_139 (tm_Ta_fail hWw147 h_tp (0) (by omega) (by omega)) kb_Ru_33 ⟨im_Ta_fail, se_Ta_fail⟩ rfl hWw147 tpt0 rfl (Nat.le_of_ble_eq_true rfl) (by decide) (fun w158 hWw158 hRw158 => ?_)
            obtain ⟨hfw158, v159, kv159, hpw158⟩ := hRw158
            have hFw158 : ∀ (p : Nat) (j : Int), ¬ (p = (rr + 1) ∨ (p = rr ∧ (j = 1 ∨ j = 2)) ∨ (p = tp ∧ (j = 2 ∨ j = 5 ∨ j = 6 ∨ j = 7 ∨ j = 8 ∨ j = 4 ∨ j = 3))) → tm_g w158 p j = tm_g w p j := fun p j h => (hfw158 p j (by omega)).trans (hFw147 p j h)
            have bv159 : (-2147483648) ≤ v159 ∧ v159 ≤ 2147483647 := by obtain ⟨a, e, h0, h1⟩ := tm_peek (k := 4) (K := 4) hWw158 tpt0 rfl rfl; rw [kv159] at e; injection e with e; injection e with e; omega
            refine ev_aload_n dt_Ru_readAll_142 rfl rfl ?_
            refine tm_getK (K := 4) dt_Ru_readAll_143 hWw158 tpt0 fl_Ru_56 rfl kv159 ?_
            exact ev_ireturn dt_Ru_readAll_146 rfl ⟨hWw158, _, rfl, ⟨hFw158, by omega⟩⟩
        · skip
          refine ev_aload_n dt_Ru_readAll_30 rfl rfl ?_
          refine tm_getI (K := 8) dt_Ru_readAll_31 hWw147 tpt0 fl_Ru_30 rfl rfl (fun v160 kv160 lv160 uv160 => ?_)
          refine ev_bipush dt_Ru_readAll_34 rfl ?_
          refine ev_icmp_eq (tgt := 47) dt_Ru_readAll_36 (by decide) (by omega) (by omega) (fun h161 => ?_) (fun h161 => ?_)
          · skip
            refine ev_iload_n dt_Ru_readAll_47 rfl rfl ?_
            refine ev_bipush dt_Ru_readAll_48 rfl ?_
            refine ev_icmp_ne (tgt := 58) dt_Ru_readAll_50 (by decide) (by omega) (by omega) (fun h162 => ?_) (fun h162 => ?_)
            · skip
              refine ev_aload_n dt_Ru_readAll_58 rfl rfl ?_
              refine tm_vv dt_Ru_readAll_59 (tm_Ta_advance hWw147 h_tp) kb_Ru_37 ⟨im_Ta_advance, se_Ta_advance⟩ rfl hWw147 tpt0 rfl (Nat.le_of_ble_eq_true rfl) (by decide) (fun w163 hWw163 hRw163 => ?_)
              have hfw163 := hRw163
              have hFw163 : ∀ (p : Nat) (j : Int), ¬ (p = (rr + 1) ∨ (p = rr ∧ (j = 1 ∨ j = 2)) ∨ (p = tp ∧ (j = 2 ∨ j = 5 ∨ j = 6 ∨ j = 7 ∨ j = 8 ∨ j = 4 ∨ j = 3))) → tm_g w163 p j = tm_g w p j := fun p j h => (hfw163 p j (by omega)).trans (hFw147 p j h)
              refine ev_aload_n dt_Ru_readAll_62 rfl rfl ?_
              refine ev_aload_n dt_Ru_readAll_63 rfl rfl ?_
              refine tm_vv dt_Ru_readAll_64 (tm_Ru_readSum hWw163 h_rr h_tp (by omega)) kb_Ru_40 ⟨im_Ru_readSum, se_Ru_readSum⟩ rfl hWw163 rrt0 rfl (Nat.le_of_ble_eq_true rfl) (by decide) (fun w164 hWw164 hRw164 => ?_)
              have hfw164 := hRw164
              have hFw164 : ∀ (p : Nat) (j : Int), ¬ (p = (rr + 1) ∨ (p = rr ∧ (j = 1 ∨ j = 2)) ∨ (p = tp ∧ (j = 2 ∨ j = 5 ∨ j = 6 ∨ j = 7 ∨ j = 8 ∨ j = 4 ∨ j = 3))) → tm_g w164 p j = tm_g w p j := fun p j h => (hfw164 p j (by omega)).trans (hFw163 p j h)
              refine ev_bipush dt_Ru_readAll_67 rfl ?_
              refine ev_istore (l' := [_, _, _, _, _]) dt_Ru_readAll_69 (Nat.le_of_ble_eq_true rfl) rfl ?_
              refine ev_aload_n dt_Ru_readAll_71 rfl rfl ?_
              refine tm_getI (K := 8) dt_Ru_readAll_72 hWw164 tpt0 fl_Ru_30 rfl rfl (fun v165 kv165 lv165 uv165 => ?_)
              refine ev_bipush dt_Ru_readAll_75 rfl ?_
              refine ev_icmp_ne (tgt := 94) dt_Ru_readAll_77 (by decide) (by omega) (by omega) (fun h166 => ?_) (fun h166 => ?_)
              · skip
                refine ev_aload_n dt_Ru_readAll_94 rfl rfl ?_
                refine ev_iload dt_Ru_readAll_95 rfl ?_
                refine tm_vv dt_Ru_readAll_97 (tm_Ru_emit hWw164 h_rr ((-34)) (by omega) (by omega)) kb_Ru_50 ⟨im_Ru_emit, se_Ru_emit⟩ rfl hWw164 rrt0 rfl (Nat.le_of_ble_eq_true rfl) (by decide) (fun w167 hWw167 hRw167 => ?_)
                have hfw167 := hRw167
                have hFw167 : ∀ (p : Nat) (j : Int), ¬ (p = (rr + 1) ∨ (p = rr ∧ (j = 1 ∨ j = 2)) ∨ (p = tp ∧ (j = 2 ∨ j = 5 ∨ j = 6 ∨ j = 7 ∨ j = 8 ∨ j = 4 ∨ j = 3))) → tm_g w167 p j = tm_g w p j := fun p j h => (hfw167 p j (by omega)).trans (hFw164 p j h)
                have z168 := (hfw167 tp 8 (by omega)).trans kv165
                refine ev_aload_n dt_Ru_readAll_100 rfl rfl ?_
                refine tm_getI (K := 6) dt_Ru_readAll_101 hWw167 tpt0 fl_Ru_53 rfl rfl (fun v169 kv169 lv169 uv169 => ?_)
                refine ev_bipush dt_Ru_readAll_104 rfl ?_
                refine ev_icmp_ne (tgt := 113) dt_Ru_readAll_106 (by decide) (by omega) (by omega) (fun h170 => ?_) (fun h170 => ?_)
                · skip
                  refine ev_iconst dt_Ru_readAll_113 ?_
                  refine ev_istore_n (l' := [_, _, _, _, _]) dt_Ru_readAll_114 rfl (Nat.le_of_ble_eq_true rfl) rfl ?_
                  refine ev_iload_n dt_Ru_readAll_115 rfl rfl ?_
                  refine ev_if_eq (tgt := 123) dt_Ru_readAll_116 (by decide) (by omega) (fun h171 => ?_) (fun h171 => ?_)
                  · skip
                    refine ev_iinc (l' := [_, _, _, _, _]) dt_Ru_readAll_123 rfl rfl ?_
                    refine ev_goto (tgt := 20) dt_Ru_readAll_126 (by decide) ?_
                    exact tm_loc (tm_le_s (tm_le_s (tm_le_s (tm_le_s (tm_le_n tm_le_0))))) (ihL144 (0) ((i146 + 1)) w167 hWw167 hFw167 (by omega) (by omega) (by omega) (by omega) (by omega))
                  · skip
                    exfalso
                    omega
                · skip
                  refine ev_iconst dt_Ru_readAll_109 ?_
                  refine ev_goto (tgt := 114) dt_Ru_readAll_110 (by decide) ?_
                  refine ev_istore_n (l' := [_, _, _, _, _]) dt_Ru_readAll_114 rfl (Nat.le_of_ble_eq_true rfl) rfl ?_
                  refine ev_iload_n dt_Ru_readAll_115 rfl rfl ?_
                  refine ev_if_eq (tgt := 123) dt_Ru_readAll_116 (by decide) (by omega) (fun h172 => ?_) (fun h172 => ?_)
                  · skip
                    exfalso
                    omega
                  · skip
                    refine ev_aload_n dt_Ru_readAll_119 rfl rfl ?_
                    refine tm_vv dt_Ru_readAll_120 (tm_Ta_advance hWw167 h_tp) kb_Ru_37 ⟨im_Ta_advance, se_Ta_advance⟩ rfl hWw167 tpt0 rfl (Nat.le_of_ble_eq_true rfl) (by decide) (fun w173 hWw173 hRw173 => ?_)
                    have hfw173 := hRw173
                    have hFw173 : ∀ (p : Nat) (j : Int), ¬ (p = (rr + 1) ∨ (p = rr ∧ (j = 1 ∨ j = 2)) ∨ (p = tp ∧ (j = 2 ∨ j = 5 ∨ j = 6 ∨ j = 7 ∨ j = 8 ∨ j = 4 ∨ j = 3))) → tm_g w173 p j = tm_g w p j := fun p j h => (hfw173 p j (by omega)).trans (hFw167 p j h)
                    refine ev_iinc (l' := [_, _, _, _, _]) dt_Ru_readAll_123 rfl rfl ?_
                    refine ev_goto (tgt := 20) dt_Ru_readAll_126 (by decide) ?_
                    exact tm_loc (tm_le_s (tm_le_s (tm_le_s (tm_le_s (tm_le_n tm_le_0))))) (ihL144 (1) ((i146 + 1)) w173 hWw173 hFw173 (by omega) (by omega) (by omega) (by omega) (by omega))
              · skip
                refine ev_aload_n dt_Ru_readAll_80 rfl rfl ?_
                refine tm_vv dt_Ru_readAll_81 (tm_Ta_advance hWw164 h_tp) kb_Ru_37 ⟨im_Ta_advance, se_Ta_advance⟩ rfl hWw164 tpt0 rfl (Nat.le_of_ble_eq_true rfl) (by decide) (fun w174 hWw174 hRw174 => ?_)
                have hfw174 := hRw174
                have hFw174 : ∀ (p : Nat) (j : Int), ¬ (p = (rr + 1) ∨ (p = rr ∧ (j = 1 ∨ j = 2)) ∨ (p = tp ∧ (j = 2 ∨ j = 5 ∨ j = 6 ∨ j = 7 ∨ j = 8 ∨ j = 4 ∨ j = 3))) → tm_g w174 p j = tm_g w p j := fun p j h => (hfw174 p j (by omega)).trans (hFw164 p j h)
                refine ev_aload_n dt_Ru_readAll_84 rfl rfl ?_
                refine ev_aload_n dt_Ru_readAll_85 rfl rfl ?_
                refine ev_iconst dt_Ru_readAll_86 ?_
                refine tm_vv dt_Ru_readAll_87 (tm_Ru_readTest hWw174 h_rr h_tp (by omega) (0) (by omega) (by omega)) kb_Ru_46 ⟨im_Ru_readTest, se_Ru_readTest⟩ rfl hWw174 rrt0 rfl (Nat.le_of_ble_eq_true rfl) (by omega) (fun w175 hWw175 hRw175 => ?_)
                have hfw175 := hRw175
                have hFw175 : ∀ (p : Nat) (j : Int), ¬ (p = (rr + 1) ∨ (p = rr ∧ (j = 1 ∨ j = 2)) ∨ (p = tp ∧ (j = 2 ∨ j = 5 ∨ j = 6 ∨ j = 7 ∨ j = 8 ∨ j = 4 ∨ j = 3))) → tm_g w175 p j = tm_g w p j := fun p j h => (hfw175 p j (by omega)).trans (hFw174 p j h)
                refine ev_bipush dt_Ru_readAll_90 rfl ?_
                refine ev_istore (l' := [_, _, _, _, _]) dt_Ru_readAll_92 (Nat.le_of_ble_eq_true rfl) rfl ?_
                refine ev_aload_n dt_Ru_readAll_94 rfl rfl ?_
                refine ev_iload dt_Ru_readAll_95 rfl ?_
                refine tm_vv dt_Ru_readAll_97 (tm_Ru_emit hWw175 h_rr ((-35)) (by omega) (by omega)) kb_Ru_50 ⟨im_Ru_emit, se_Ru_emit⟩ rfl hWw175 rrt0 rfl (Nat.le_of_ble_eq_true rfl) (by decide) (fun w176 hWw176 hRw176 => ?_)
                have hfw176 := hRw176
                have hFw176 : ∀ (p : Nat) (j : Int), ¬ (p = (rr + 1) ∨ (p = rr ∧ (j = 1 ∨ j = 2)) ∨ (p = tp ∧ (j = 2 ∨ j = 5 ∨ j = 6 ∨ j = 7 ∨ j = 8 ∨ j = 4 ∨ j = 3))) → tm_g w176 p j = tm_g w p j := fun p j h => (hfw176 p j (by omega)).trans (hFw175 p j h)
                refine ev_aload_n dt_Ru_readAll_100 rfl rfl ?_
                refine tm_getI (K := 6) dt_Ru_readAll_101 hWw176 tpt0 fl_Ru_53 rfl rfl (fun v177 kv177 lv177 uv177 => ?_)
                refine ev_bipush dt_Ru_readAll_104 rfl ?_
                refine ev_icmp_ne (tgt := 113) dt_Ru_readAll_106 (by decide) (by omega) (by omega) (fun h178 => ?_) (fun h178 => ?_)
                · skip
                  refine ev_iconst dt_Ru_readAll_113 ?_
                  refine ev_istore_n (l' := [_, _, _, _, _]) dt_Ru_readAll_114 rfl (Nat.le_of_ble_eq_true rfl) rfl ?_
                  refine ev_iload_n dt_Ru_readAll_115 rfl rfl ?_
                  refine ev_if_eq (tgt := 123) dt_Ru_readAll_116 (by decide) (by omega) (fun h179 => ?_) (fun h179 => ?_)
                  · skip
                    refine ev_iinc (l' := [_, _, _, _, _]) dt_Ru_readAll_123 rfl rfl ?_
                    refine ev_goto (tgt := 20) dt_Ru_readAll_126 (by decide) ?_
                    exact tm_loc (tm_le_s (tm_le_s (tm_le_s (tm_le_s (tm_le_n tm_le_0))))) (ihL144 (0) ((i146 + 1)) w176 hWw176 hFw176 (by omega) (by omega) (by omega) (by omega) (by omega))
                  · skip
                    exfalso
                    omega
                · skip
                  refine ev_iconst dt_Ru_readAll_109 ?_
                  refine ev_goto (tgt := 114) dt_Ru_readAll_110 (by decide) ?_
                  refine ev_istore_n (l' := [_, _, _, _, _]) dt_Ru_readAll_114 rfl (Nat.le_of_ble_eq_true rfl) rfl ?_
                  refine ev_iload_n dt_Ru_readAll_115 rfl rfl ?_
                  refine ev_if_eq (tgt := 123) dt_Ru_readAll_116 (by decide) (by omega) (fun h180 => ?_) (fun h180 => ?_)
                  · skip
                    exfalso
                    omega
                  · skip
                    refine ev_aload_n dt_Ru_readAll_119 rfl rfl ?_
                    refine tm_vv dt_Ru_readAll_120 (tm_Ta_advance hWw176 h_tp) kb_Ru_37 ⟨im_Ta_advance, se_Ta_advance⟩ rfl hWw176 tpt0 rfl (Nat.le_of_ble_eq_true rfl) (by decide) (fun w181 hWw181 hRw181 => ?_)
                    have hfw181 := hRw181
                    have hFw181 : ∀ (p : Nat) (j : Int), ¬ (p = (rr + 1) ∨ (p = rr ∧ (j = 1 ∨ j = 2)) ∨ (p = tp ∧ (j = 2 ∨ j = 5 ∨ j = 6 ∨ j = 7 ∨ j = 8 ∨ j = 4 ∨ j = 3))) → tm_g w181 p j = tm_g w p j := fun p j h => (hfw181 p j (by omega)).trans (hFw176 p j h)
                    refine ev_iinc (l' := [_, _, _, _, _]) dt_Ru_readAll_123 rfl rfl ?_
                    refine ev_goto (tgt := 20) dt_Ru_readAll_126 (by decide) ?_
                    exact tm_loc (tm_le_s (tm_le_s (tm_le_s (tm_le_s (tm_le_n tm_le_0))))) (ihL144 (1) ((i146 + 1)) w181 hWw181 hFw181 (by omega) (by omega) (by omega) (by omega) (by omega))
            · skip
              refine ev_aload_n dt_Ru_readAll_53 rfl rfl ?_
              refine ev_iconst dt_Ru_readAll_54 ?_
              refine tm_vv dt_Ru_readAll_55 (tm_Ta_fail hWw147 h_tp (4) (by omega) (by omega)) kb_Ru_33 ⟨im_Ta_fail, se_Ta_fail⟩ rfl hWw147 tpt0 rfl (Nat.le_of_ble_eq_true rfl) (by decide) (fun w182 hWw182 hRw182 => ?_)
              obtain ⟨hfw182, v183, kv183, hpw182⟩ := hRw182
              have hFw182 : ∀ (p : Nat) (j : Int), ¬ (p = (rr + 1) ∨ (p = rr ∧ (j = 1 ∨ j = 2)) ∨ (p = tp ∧ (j = 2 ∨ j = 5 ∨ j = 6 ∨ j = 7 ∨ j = 8 ∨ j = 4 ∨ j = 3))) → tm_g w182 p j = tm_g w p j := fun p j h => (hfw182 p j (by omega)).trans (hFw147 p j h)
              have bv183 : (-2147483648) ≤ v183 ∧ v183 ≤ 2147483647 := by obtain ⟨a, e, h0, h1⟩ := tm_peek (k := 4) (K := 4) hWw182 tpt0 rfl rfl; rw [kv183] at e; injection e with e; injection e with e; omega
              refine ev_aload_n dt_Ru_readAll_58 rfl rfl ?_
              refine tm_vv dt_Ru_readAll_59 (tm_Ta_advance hWw182 h_tp) kb_Ru_37 ⟨im_Ta_advance, se_Ta_advance⟩ rfl hWw182 tpt0 rfl (Nat.le_of_ble_eq_true rfl) (by decide) (fun w184 hWw184 hRw184 => ?_)
              have hfw184 := hRw184
              have hFw184 : ∀ (p : Nat) (j : Int), ¬ (p = (rr + 1) ∨ (p = rr ∧ (j = 1 ∨ j = 2)) ∨ (p = tp ∧ (j = 2 ∨ j = 5 ∨ j = 6 ∨ j = 7 ∨ j = 8 ∨ j = 4 ∨ j = 3))) → tm_g w184 p j = tm_g w p j := fun p j h => (hfw184 p j (by omega)).trans (hFw182 p j h)
              have z185 := (hfw184 tp 4 (by omega)).trans kv183
              refine ev_aload_n dt_Ru_readAll_62 rfl rfl ?_
              refine ev_aload_n dt_Ru_readAll_63 rfl rfl ?_
              refine tm_vv dt_Ru_readAll_64 (tm_Ru_readSum hWw184 h_rr h_tp (by omega)) kb_Ru_40 ⟨im_Ru_readSum, se_Ru_readSum⟩ rfl hWw184 rrt0 rfl (Nat.le_of_ble_eq_true rfl) (by decide) (fun w186 hWw186 hRw186 => ?_)
              have hfw186 := hRw186
              have hFw186 : ∀ (p : Nat) (j : Int), ¬ (p = (rr + 1) ∨ (p = rr ∧ (j = 1 ∨ j = 2)) ∨ (p = tp ∧ (j = 2 ∨ j = 5 ∨ j = 6 ∨ j = 7 ∨ j = 8 ∨ j = 4 ∨ j = 3))) → tm_g w186 p j = tm_g w p j := fun p j h => (hfw186 p j (by omega)).trans (hFw184 p j h)
              refine ev_bipush dt_Ru_readAll_67 rfl ?_
              refine ev_istore (l' := [_, _, _, _, _]) dt_Ru_readAll_69 (Nat.le_of_ble_eq_true rfl) rfl ?_
              refine ev_aload_n dt_Ru_readAll_71 rfl rfl ?_
              refine tm_getI (K := 8) dt_Ru_readAll_72 hWw186 tpt0 fl_Ru_30 rfl rfl (fun v187 kv187 lv187 uv187 => ?_)
              refine ev_bipush dt_Ru_readAll_75 rfl ?_
              refine ev_icmp_ne (tgt := 94) dt_Ru_readAll_77 (by decide) (by omega) (by omega) (fun h188 => ?_) (fun h188 => ?_)
              · skip
                refine ev_aload_n dt_Ru_readAll_94 rfl rfl ?_
                refine ev_iload dt_Ru_readAll_95 rfl ?_
                refine tm_vv dt_Ru_readAll_97 (tm_Ru_emit hWw186 h_rr ((-34)) (by omega) (by omega)) kb_Ru_50 ⟨im_Ru_emit, se_Ru_emit⟩ rfl hWw186 rrt0 rfl (Nat.le_of_ble_eq_true rfl) (by decide) (fun w189 hWw189 hRw189 => ?_)
                have hfw189 := hRw189
                have hFw189 : ∀ (p : Nat) (j : Int), ¬ (p = (rr + 1) ∨ (p = rr ∧ (j = 1 ∨ j = 2)) ∨ (p = tp ∧ (j = 2 ∨ j = 5 ∨ j = 6 ∨ j = 7 ∨ j = 8 ∨ j = 4 ∨ j = 3))) → tm_g w189 p j = tm_g w p j := fun p j h => (hfw189 p j (by omega)).trans (hFw186 p j h)
                have z190 := (hfw189 tp 8 (by omega)).trans kv187
                refine ev_aload_n dt_Ru_readAll_100 rfl rfl ?_
                refine tm_getI (K := 6) dt_Ru_readAll_101 hWw189 tpt0 fl_Ru_53 rfl rfl (fun v191 kv191 lv191 uv191 => ?_)
                refine ev_bipush dt_Ru_readAll_104 rfl ?_
                refine ev_icmp_ne (tgt := 113) dt_Ru_readAll_106 (by decide) (by omega) (by omega) (fun h192 => ?_) (fun h192 => ?_)
                · skip
                  refine ev_iconst dt_Ru_readAll_113 ?_
                  refine ev_istore_n (l' := [_, _, _, _, _]) dt_Ru_readAll_114 rfl (Nat.le_of_ble_eq_true rfl) rfl ?_
                  refine ev_iload_n dt_Ru_readAll_115 rfl rfl ?_
                  refine ev_if_eq (tgt := 123) dt_Ru_readAll_116 (by decide) (by omega) (fun h193 => ?_) (fun h193 => ?_)
                  · skip
                    refine ev_iinc (l' := [_, _, _, _, _]) dt_Ru_readAll_123 rfl rfl ?_
                    refine ev_goto (tgt := 20) dt_Ru_readAll_126 (by decide) ?_
                    exact tm_loc (tm_le_s (tm_le_s (tm_le_s (tm_le_s (tm_le_n tm_le_0))))) (ihL144 (0) ((i146 + 1)) w189 hWw189 hFw189 (by omega) (by omega) (by omega) (by omega) (by omega))
                  · skip
                    exfalso
                    omega
                · skip
                  refine ev_iconst dt_Ru_readAll_109 ?_
                  refine ev_goto (tgt := 114) dt_Ru_readAll_110 (by decide) ?_
                  refine ev_istore_n (l' := [_, _, _, _, _]) dt_Ru_readAll_114 rfl (Nat.le_of_ble_eq_true rfl) rfl ?_
                  refine ev_iload_n dt_Ru_readAll_115 rfl rfl ?_
                  refine ev_if_eq (tgt := 123) dt_Ru_readAll_116 (by decide) (by omega) (fun h194 => ?_) (fun h194 => ?_)
                  · skip
                    exfalso
                    omega
                  · skip
                    refine ev_aload_n dt_Ru_readAll_119 rfl rfl ?_
                    refine tm_vv dt_Ru_readAll_120 (tm_Ta_advance hWw189 h_tp) kb_Ru_37 ⟨im_Ta_advance, se_Ta_advance⟩ rfl hWw189 tpt0 rfl (Nat.le_of_ble_eq_true rfl) (by decide) (fun w195 hWw195 hRw195 => ?_)
                    have hfw195 := hRw195
                    have hFw195 : ∀ (p : Nat) (j : Int), ¬ (p = (rr + 1) ∨ (p = rr ∧ (j = 1 ∨ j = 2)) ∨ (p = tp ∧ (j = 2 ∨ j = 5 ∨ j = 6 ∨ j = 7 ∨ j = 8 ∨ j = 4 ∨ j = 3))) → tm_g w195 p j = tm_g w p j := fun p j h => (hfw195 p j (by omega)).trans (hFw189 p j h)
                    refine ev_iinc (l' := [_, _, _, _, _]) dt_Ru_readAll_123 rfl rfl ?_
                    refine ev_goto (tgt := 20) dt_Ru_readAll_126 (by decide) ?_
                    exact tm_loc (tm_le_s (tm_le_s (tm_le_s (tm_le_s (tm_le_n tm_le_0))))) (ihL144 (1) ((i146 + 1)) w195 hWw195 hFw195 (by omega) (by omega) (by omega) (by omega) (by omega))
              · skip
                refine ev_aload_n dt_Ru_readAll_80 rfl rfl ?_
                refine tm_vv dt_Ru_readAll_81 (tm_Ta_advance hWw186 h_tp) kb_Ru_37 ⟨im_Ta_advance, se_Ta_advance⟩ rfl hWw186 tpt0 rfl (Nat.le_of_ble_eq_true rfl) (by decide) (fun w196 hWw196 hRw196 => ?_)
                have hfw196 := hRw196
                have hFw196 : ∀ (p : Nat) (j : Int), ¬ (p = (rr + 1) ∨ (p = rr ∧ (j = 1 ∨ j = 2)) ∨ (p = tp ∧ (j = 2 ∨ j = 5 ∨ j = 6 ∨ j = 7 ∨ j = 8 ∨ j = 4 ∨ j = 3))) → tm_g w196 p j = tm_g w p j := fun p j h => (hfw196 p j (by omega)).trans (hFw186 p j h)
                refine ev_aload_n dt_Ru_readAll_84 rfl rfl ?_
                refine ev_aload_n dt_Ru_readAll_85 rfl rfl ?_
                refine ev_iconst dt_Ru_readAll_86 ?_
                refine tm_vv dt_Ru_readAll_87 (tm_Ru_readTest hWw196 h_rr h_tp (by omega) (0) (by omega) (by omega)) kb_Ru_46 ⟨im_Ru_readTest, se_Ru_readTest⟩ rfl hWw196 rrt0 rfl (Nat.le_of_ble_eq_true rfl) (by omega) (fun w197 hWw197 hRw197 => ?_)
                have hfw197 := hRw197
                have hFw197 : ∀ (p : Nat) (j : Int), ¬ (p = (rr + 1) ∨ (p = rr ∧ (j = 1 ∨ j = 2)) ∨ (p = tp ∧ (j = 2 ∨ j = 5 ∨ j = 6 ∨ j = 7 ∨ j = 8 ∨ j = 4 ∨ j = 3))) → tm_g w197 p j = tm_g w p j := fun p j h => (hfw197 p j (by omega)).trans (hFw196 p j h)
                refine ev_bipush dt_Ru_readAll_90 rfl ?_
                refine ev_istore (l' := [_, _, _, _, _]) dt_Ru_readAll_92 (Nat.le_of_ble_eq_true rfl) rfl ?_
                refine ev_aload_n dt_Ru_readAll_94 rfl rfl ?_
                refine ev_iload dt_Ru_readAll_95 rfl ?_
                refine tm_vv dt_Ru_readAll_97 (tm_Ru_emit hWw197 h_rr ((-35)) (by omega) (by omega)) kb_Ru_50 ⟨im_Ru_emit, se_Ru_emit⟩ rfl hWw197 rrt0 rfl (Nat.le_of_ble_eq_true rfl) (by decide) (fun w198 hWw198 hRw198 => ?_)
                have hfw198 := hRw198
                have hFw198 : ∀ (p : Nat) (j : Int), ¬ (p = (rr + 1) ∨ (p = rr ∧ (j = 1 ∨ j = 2)) ∨ (p = tp ∧ (j = 2 ∨ j = 5 ∨ j = 6 ∨ j = 7 ∨ j = 8 ∨ j = 4 ∨ j = 3))) → tm_g w198 p j = tm_g w p j := fun p j h => (hfw198 p j (by omega)).trans (hFw197 p j h)
                refine ev_aload_n dt_Ru_readAll_100 rfl rfl ?_
                refine tm_getI (K := 6) dt_Ru_readAll_101 hWw198 tpt0 fl_Ru_53 rfl rfl (fun v199 kv199 lv199 uv199 => ?_)
                refine ev_bipush dt_Ru_readAll_104 rfl ?_
                refine ev_icmp_ne (tgt := 113) dt_Ru_readAll_106 (by decide) (by omega) (by omega) (fun h200 => ?_) (fun h200 => ?_)
                · skip
                  refine ev_iconst dt_Ru_readAll_113 ?_
                  refine ev_istore_n (l' := [_, _, _, _, _]) dt_Ru_readAll_114 rfl (Nat.le_of_ble_eq_true rfl) rfl ?_
                  refine ev_iload_n dt_Ru_readAll_115 rfl rfl ?_
                  refine ev_if_eq (tgt := 123) dt_Ru_readAll_116 (by decide) (by omega) (fun h201 => ?_) (fun h201 => ?_)
                  · skip
                    refine ev_iinc (l' := [_, _, _, _, _]) dt_Ru_readAll_123 rfl rfl ?_
                    refine ev_goto (tgt := 20) dt_Ru_readAll_126 (by decide) ?_
                    exact tm_loc (tm_le_s (tm_le_s (tm_le_s (tm_le_s (tm_le_n tm_le_0))))) (ihL144 (0) ((i146 + 1)) w198 hWw198 hFw198 (by omega) (by omega) (by omega) (by omega) (by omega))
                  · skip
                    exfalso
                    omega
                · skip
                  refine ev_iconst dt_Ru_readAll_109 ?_
                  refine ev_goto (tgt := 114) dt_Ru_readAll_110 (by decide) ?_
                  refine ev_istore_n (l' := [_, _, _, _, _]) dt_Ru_readAll_114 rfl (Nat.le_of_ble_eq_true rfl) rfl ?_
                  refine ev_iload_n dt_Ru_readAll_115 rfl rfl ?_
                  refine ev_if_eq (tgt := 123) dt_Ru_readAll_116 (by decide) (by omega) (fun h202 => ?_) (fun h202 => ?_)
                  · skip
                    exfalso
                    omega
                  · skip
                    refine ev_aload_n dt_Ru_readAll_119 rfl rfl ?_
                    refine tm_vv dt_Ru_readAll_120 (tm_Ta_advance hWw198 h_tp) kb_Ru_37 ⟨im_Ta_advance, se_Ta_advance⟩ rfl hWw198 tpt0 rfl (Nat.le_of_ble_eq_true rfl) (by decide) (fun w203 hWw203 hRw203 => ?_)
                    have hfw203 := hRw203
                    have hFw203 : ∀ (p : Nat) (j : Int), ¬ (p = (rr + 1) ∨ (p = rr ∧ (j = 1 ∨ j = 2)) ∨ (p = tp ∧ (j = 2 ∨ j = 5 ∨ j = 6 ∨ j = 7 ∨ j = 8 ∨ j = 4 ∨ j = 3))) → tm_g w203 p j = tm_g w p j := fun p j h => (hfw203 p j (by omega)).trans (hFw198 p j h)
                    refine ev_iinc (l' := [_, _, _, _, _]) dt_Ru_readAll_123 rfl rfl ?_
                    refine ev_goto (tgt := 20) dt_Ru_readAll_126 (by decide) ?_
                    exact tm_loc (tm_le_s (tm_le_s (tm_le_s (tm_le_s (tm_le_n tm_le_0))))) (ihL144 (1) ((i146 + 1)) w203 hWw203 hFw203 (by omega) (by omega) (by omega) (by omega) (by omega))
          · skip
            refine ev_aload_n dt_Ru_readAll_39 rfl rfl ?_
            refine ev_iconst dt_Ru_readAll_40 ?_
            refine tm_vv dt_Ru_readAll_41 (tm_Ta_fail hWw147 h_tp (0) (by omega) (by omega)) kb_Ru_33 ⟨im_Ta_fail, se_Ta_fail⟩ rfl hWw147 tpt0 rfl (Nat.le_of_ble_eq_true rfl) (by decide) (fun w204 hWw204 hRw204 => ?_)
            obtain ⟨hfw204, v205, kv205, hpw204⟩ := hRw204
            have hFw204 : ∀ (p : Nat) (j : Int), ¬ (p = (rr + 1) ∨ (p = rr ∧ (j = 1 ∨ j = 2)) ∨ (p = tp ∧ (j = 2 ∨ j = 5 ∨ j = 6 ∨ j = 7 ∨ j = 8 ∨ j = 4 ∨ j = 3))) → tm_g w204 p j = tm_g w p j := fun p j h => (hfw204 p j (by omega)).trans (hFw147 p j h)
            have bv205 : (-2147483648) ≤ v205 ∧ v205 ≤ 2147483647 := by obtain ⟨a, e, h0, h1⟩ := tm_peek (k := 4) (K := 4) hWw204 tpt0 rfl rfl; rw [kv205] at e; injection e with e; injection e with e; omega
            refine ev_goto (tgt := 58) dt_Ru_readAll_44 (by decide) ?_
            refine ev_aload_n dt_Ru_readAll_58 rfl rfl ?_
            refine tm_vv dt_Ru_readAll_59 (tm_Ta_advance hWw204 h_tp) kb_Ru_37 ⟨im_Ta_advance, se_Ta_advance⟩ rfl hWw204 tpt0 rfl (Nat.le_of_ble_eq_true rfl) (by decide) (fun w206 hWw206 hRw206 => ?_)
            have hfw206 := hRw206
            have hFw206 : ∀ (p : Nat) (j : Int), ¬ (p = (rr + 1) ∨ (p = rr ∧ (j = 1 ∨ j = 2)) ∨ (p = tp ∧ (j = 2 ∨ j = 5 ∨ j = 6 ∨ j = 7 ∨ j = 8 ∨ j = 4 ∨ j = 3))) → tm_g w206 p j = tm_g w p j := fun p j h => (hfw206 p j (by omega)).trans (hFw204 p j h)
            have z207 := (hfw206 tp 4 (by omega)).trans kv205
            refine ev_aload_n dt_Ru_readAll_62 rfl rfl ?_
            refine ev_aload_n dt_Ru_readAll_63 rfl rfl ?_
            refine tm_vv dt_Ru_readAll_64 (tm_Ru_readSum hWw206 h_rr h_tp (by omega)) kb_Ru_40 ⟨im_Ru_readSum, se_Ru_readSum⟩ rfl hWw206 rrt0 rfl (Nat.le_of_ble_eq_true rfl) (by decide) (fun w208 hWw208 hRw208 => ?_)
            have hfw208 := hRw208
            have hFw208 : ∀ (p : Nat) (j : Int), ¬ (p = (rr + 1) ∨ (p = rr ∧ (j = 1 ∨ j = 2)) ∨ (p = tp ∧ (j = 2 ∨ j = 5 ∨ j = 6 ∨ j = 7 ∨ j = 8 ∨ j = 4 ∨ j = 3))) → tm_g w208 p j = tm_g w p j := fun p j h => (hfw208 p j (by omega)).trans (hFw206 p j h)
            refine ev_bipush dt_Ru_readAll_67 rfl ?_
            refine ev_istore (l' := [_, _, _, _, _]) dt_Ru_readAll_69 (Nat.le_of_ble_eq_true rfl) rfl ?_
            refine ev_aload_n dt_Ru_readAll_71 rfl rfl ?_
            refine tm_getI (K := 8) dt_Ru_readAll_72 hWw208 tpt0 fl_Ru_30 rfl rfl (fun v209 kv209 lv209 uv209 => ?_)
            refine ev_bipush dt_Ru_readAll_75 rfl ?_
            refine ev_icmp_ne (tgt := 94) dt_Ru_readAll_77 (by decide) (by omega) (by omega) (fun h210 => ?_) (fun h210 => ?_)
            · skip
              refine ev_aload_n dt_Ru_readAll_94 rfl rfl ?_
              refine ev_iload dt_Ru_readAll_95 rfl ?_
              refine tm_vv dt_Ru_readAll_97 (tm_Ru_emit hWw208 h_rr ((-34)) (by omega) (by omega)) kb_Ru_50 ⟨im_Ru_emit, se_Ru_emit⟩ rfl hWw208 rrt0 rfl (Nat.le_of_ble_eq_true rfl) (by decide) (fun w211 hWw211 hRw211 => ?_)
              have hfw211 := hRw211
              have hFw211 : ∀ (p : Nat) (j : Int), ¬ (p = (rr + 1) ∨ (p = rr ∧ (j = 1 ∨ j = 2)) ∨ (p = tp ∧ (j = 2 ∨ j = 5 ∨ j = 6 ∨ j = 7 ∨ j = 8 ∨ j = 4 ∨ j = 3))) → tm_g w211 p j = tm_g w p j := fun p j h => (hfw211 p j (by omega)).trans (hFw208 p j h)
              have z212 := (hfw211 tp 8 (by omega)).trans kv209
              refine ev_aload_n dt_Ru_readAll_100 rfl rfl ?_
              refine tm_getI (K := 6) dt_Ru_readAll_101 hWw211 tpt0 fl_Ru_53 rfl rfl (fun v213 kv213 lv213 uv213 => ?_)
              refine ev_bipush dt_Ru_readAll_104 rfl ?_
              refine ev_icmp_ne (tgt := 113) dt_Ru_readAll_106 (by decide) (by omega) (by omega) (fun h214 => ?_) (fun h214 => ?_)
              · skip
                refine ev_iconst dt_Ru_readAll_113 ?_
                refine ev_istore_n (l' := [_, _, _, _, _]) dt_Ru_readAll_114 rfl (Nat.le_of_ble_eq_true rfl) rfl ?_
                refine ev_iload_n dt_Ru_readAll_115 rfl rfl ?_
                refine ev_if_eq (tgt := 123) dt_Ru_readAll_116 (by decide) (by omega) (fun h215 => ?_) (fun h215 => ?_)
                · skip
                  refine ev_iinc (l' := [_, _, _, _, _]) dt_Ru_readAll_123 rfl rfl ?_
                  refine ev_goto (tgt := 20) dt_Ru_readAll_126 (by decide) ?_
                  exact tm_loc (tm_le_s (tm_le_s (tm_le_s (tm_le_s (tm_le_n tm_le_0))))) (ihL144 (0) ((i146 + 1)) w211 hWw211 hFw211 (by omega) (by omega) (by omega) (by omega) (by omega))
                · skip
                  exfalso
                  omega
              · skip
                refine ev_iconst dt_Ru_readAll_109 ?_
                refine ev_goto (tgt := 114) dt_Ru_readAll_110 (by decide) ?_
                refine ev_istore_n (l' := [_, _, _, _, _]) dt_Ru_readAll_114 rfl (Nat.le_of_ble_eq_true rfl) rfl ?_
                refine ev_iload_n dt_Ru_readAll_115 rfl rfl ?_
                refine ev_if_eq (tgt := 123) dt_Ru_readAll_116 (by decide) (by omega) (fun h216 => ?_) (fun h216 => ?_)
                · skip
                  exfalso
                  omega
                · skip
                  refine ev_aload_n dt_Ru_readAll_119 rfl rfl ?_
                  refine tm_vv dt_Ru_readAll_120 (tm_Ta_advance hWw211 h_tp) kb_Ru_37 ⟨im_Ta_advance, se_Ta_advance⟩ rfl hWw211 tpt0 rfl (Nat.le_of_ble_eq_true rfl) (by decide) (fun w217 hWw217 hRw217 => ?_)
                  have hfw217 := hRw217
                  have hFw217 : ∀ (p : Nat) (j : Int), ¬ (p = (rr + 1) ∨ (p = rr ∧ (j = 1 ∨ j = 2)) ∨ (p = tp ∧ (j = 2 ∨ j = 5 ∨ j = 6 ∨ j = 7 ∨ j = 8 ∨ j = 4 ∨ j = 3))) → tm_g w217 p j = tm_g w p j := fun p j h => (hfw217 p j (by omega)).trans (hFw211 p j h)
                  refine ev_iinc (l' := [_, _, _, _, _]) dt_Ru_readAll_123 rfl rfl ?_
                  refine ev_goto (tgt := 20) dt_Ru_readAll_126 (by decide) ?_
                  exact tm_loc (tm_le_s (tm_le_s (tm_le_s (tm_le_s (tm_le_n tm_le_0))))) (ihL144 (1) ((i146 + 1)) w217 hWw217 hFw217 (by omega) (by omega) (by omega) (by omega) (by omega))
            · skip
              refine ev_aload_n dt_Ru_readAll_80 rfl rfl ?_
              refine tm_vv dt_Ru_readAll_81 (tm_Ta_advance hWw208 h_tp) kb_Ru_37 ⟨im_Ta_advance, se_Ta_advance⟩ rfl hWw208 tpt0 rfl (Nat.le_of_ble_eq_true rfl) (by decide) (fun w218 hWw218 hRw218 => ?_)
              have hfw218 := hRw218
              have hFw218 : ∀ (p : Nat) (j : Int), ¬ (p = (rr + 1) ∨ (p = rr ∧ (j = 1 ∨ j = 2)) ∨ (p = tp ∧ (j = 2 ∨ j = 5 ∨ j = 6 ∨ j = 7 ∨ j = 8 ∨ j = 4 ∨ j = 3))) → tm_g w218 p j = tm_g w p j := fun p j h => (hfw218 p j (by omega)).trans (hFw208 p j h)
              refine ev_aload_n dt_Ru_readAll_84 rfl rfl ?_
              refine ev_aload_n dt_Ru_readAll_85 rfl rfl ?_
              refine ev_iconst dt_Ru_readAll_86 ?_
              refine tm_vv dt_Ru_readAll_87 (tm_Ru_readTest hWw218 h_rr h_tp (by omega) (0) (by omega) (by omega)) kb_Ru_46 ⟨im_Ru_readTest, se_Ru_readTest⟩ rfl hWw218 rrt0 rfl (Nat.le_of_ble_eq_true rfl) (by omega) (fun w219 hWw219 hRw219 => ?_)
              have hfw219 := hRw219
              have hFw219 : ∀ (p : Nat) (j : Int), ¬ (p = (rr + 1) ∨ (p = rr ∧ (j = 1 ∨ j = 2)) ∨ (p = tp ∧ (j = 2 ∨ j = 5 ∨ j = 6 ∨ j = 7 ∨ j = 8 ∨ j = 4 ∨ j = 3))) → tm_g w219 p j = tm_g w p j := fun p j h => (hfw219 p j (by omega)).trans (hFw218 p j h)
              refine ev_bipush dt_Ru_readAll_90 rfl ?_
              refine ev_istore (l' := [_, _, _, _, _]) dt_Ru_readAll_92 (Nat.le_of_ble_eq_true rfl) rfl ?_
              refine ev_aload_n dt_Ru_readAll_94 rfl rfl ?_
              refine ev_iload dt_Ru_readAll_95 rfl ?_
              refine tm_vv dt_Ru_readAll_97 (tm_Ru_emit hWw219 h_rr ((-35)) (by omega) (by omega)) kb_Ru_50 ⟨im_Ru_emit, se_Ru_emit⟩ rfl hWw219 rrt0 rfl (Nat.le_of_ble_eq_true rfl) (by decide) (fun w220 hWw220 hRw220 => ?_)
              have hfw220 := hRw220
              have hFw220 : ∀ (p : Nat) (j : Int), ¬ (p = (rr + 1) ∨ (p = rr ∧ (j = 1 ∨ j = 2)) ∨ (p = tp ∧ (j = 2 ∨ j = 5 ∨ j = 6 ∨ j = 7 ∨ j = 8 ∨ j = 4 ∨ j = 3))) → tm_g w220 p j = tm_g w p j := fun p j h => (hfw220 p j (by omega)).trans (hFw219 p j h)
              refine ev_aload_n dt_Ru_readAll_100 rfl rfl ?_
              refine tm_getI (K := 6) dt_Ru_readAll_101 hWw220 tpt0 fl_Ru_53 rfl rfl (fun v221 kv221 lv221 uv221 => ?_)
              refine ev_bipush dt_Ru_readAll_104 rfl ?_
              refine ev_icmp_ne (tgt := 113) dt_Ru_readAll_106 (by decide) (by omega) (by omega) (fun h222 => ?_) (fun h222 => ?_)
              · skip
                refine ev_iconst dt_Ru_readAll_113 ?_
                refine ev_istore_n (l' := [_, _, _, _, _]) dt_Ru_readAll_114 rfl (Nat.le_of_ble_eq_true rfl) rfl ?_
                refine ev_iload_n dt_Ru_readAll_115 rfl rfl ?_
                refine ev_if_eq (tgt := 123) dt_Ru_readAll_116 (by decide) (by omega) (fun h223 => ?_) (fun h223 => ?_)
                · skip
                  refine ev_iinc (l' := [_, _, _, _, _]) dt_Ru_readAll_123 rfl rfl ?_
                  refine ev_goto (tgt := 20) dt_Ru_readAll_126 (by decide) ?_
                  exact tm_loc (tm_le_s (tm_le_s (tm_le_s (tm_le_s (tm_le_n tm_le_0))))) (ihL144 (0) ((i146 + 1)) w220 hWw220 hFw220 (by omega) (by omega) (by omega) (by omega) (by omega))
                · skip
                  exfalso
                  omega
              · skip
                refine ev_iconst dt_Ru_readAll_109 ?_
                refine ev_goto (tgt := 114) dt_Ru_readAll_110 (by decide) ?_
                refine ev_istore_n (l' := [_, _, _, _, _]) dt_Ru_readAll_114 rfl (Nat.le_of_ble_eq_true rfl) rfl ?_
                refine ev_iload_n dt_Ru_readAll_115 rfl rfl ?_
                refine ev_if_eq (tgt := 123) dt_Ru_readAll_116 (by decide) (by omega) (fun h224 => ?_) (fun h224 => ?_)
                · skip
                  exfalso
                  omega
                · skip
                  refine ev_aload_n dt_Ru_readAll_119 rfl rfl ?_
                  refine tm_vv dt_Ru_readAll_120 (tm_Ta_advance hWw220 h_tp) kb_Ru_37 ⟨im_Ta_advance, se_Ta_advance⟩ rfl hWw220 tpt0 rfl (Nat.le_of_ble_eq_true rfl) (by decide) (fun w225 hWw225 hRw225 => ?_)
                  have hfw225 := hRw225
                  have hFw225 : ∀ (p : Nat) (j : Int), ¬ (p = (rr + 1) ∨ (p = rr ∧ (j = 1 ∨ j = 2)) ∨ (p = tp ∧ (j = 2 ∨ j = 5 ∨ j = 6 ∨ j = 7 ∨ j = 8 ∨ j = 4 ∨ j = 3))) → tm_g w225 p j = tm_g w p j := fun p j h => (hfw225 p j (by omega)).trans (hFw220 p j h)
                  refine ev_iinc (l' := [_, _, _, _, _]) dt_Ru_readAll_123 rfl rfl ?_
                  refine ev_goto (tgt := 20) dt_Ru_readAll_126 (by decide) ?_
                  exact tm_loc (tm_le_s (tm_le_s (tm_le_s (tm_le_s (tm_le_n tm_le_0))))) (ihL144 (1) ((i146 + 1)) w225 hWw225 hFw225 (by omega) (by omega) (by omega) (by omega) (by omega))
  exact tm_loc (tm_le_s (tm_le_s (tm_le_s (tm_le_s (tm_le_n tm_le_0))))) (L144 (13 - (0) + 1 : Int).toNat (1) (0)  w142 hWw142 hFw142 (by omega) (by omega) (by omega) (by omega) (by omega))
