theorem dt_Pl_weighFrom_0 : decode prog_6_method_3_code 0 = .ok (.iload_n 2, 1) := by decide +kernel
theorem dt_Pl_weighFrom_1 : decode prog_6_method_3_code 1 = .ok (.istore 4, 2) := by decide +kernel
theorem dt_Pl_weighFrom_3 : decode prog_6_method_3_code 3 = .ok (.iload 4, 2) := by decide +kernel
theorem dt_Pl_weighFrom_5 : decode prog_6_method_3_code 5 = .ok (.iload_n 3, 1) := by decide +kernel
theorem dt_Pl_weighFrom_6 : decode prog_6_method_3_code 6 = .ok (.if_icmp .ge 113, 3) := by decide +kernel
theorem dt_Pl_weighFrom_9 : decode prog_6_method_3_code 9 = .ok (.aload_n 0, 1) := by decide +kernel
theorem dt_Pl_weighFrom_10 : decode prog_6_method_3_code 10 = .ok (.getfield 18, 3) := by decide +kernel
theorem dt_Pl_weighFrom_13 : decode prog_6_method_3_code 13 = .ok (.iload 4, 2) := by decide +kernel
theorem dt_Pl_weighFrom_15 : decode prog_6_method_3_code 15 = .ok (.iconst 1, 1) := by decide +kernel
theorem dt_Pl_weighFrom_16 : decode prog_6_method_3_code 16 = .ok (.iadd, 1) := by decide +kernel
theorem dt_Pl_weighFrom_17 : decode prog_6_method_3_code 17 = .ok (.aload_n 0, 1) := by decide +kernel
theorem dt_Pl_weighFrom_18 : decode prog_6_method_3_code 18 = .ok (.getfield 18, 3) := by decide +kernel
theorem dt_Pl_weighFrom_21 : decode prog_6_method_3_code 21 = .ok (.iload 4, 2) := by decide +kernel
theorem dt_Pl_weighFrom_23 : decode prog_6_method_3_code 23 = .ok (.iaload, 1) := by decide +kernel
theorem dt_Pl_weighFrom_24 : decode prog_6_method_3_code 24 = .ok (.aload_n 0, 1) := by decide +kernel
theorem dt_Pl_weighFrom_25 : decode prog_6_method_3_code 25 = .ok (.getfield 11, 3) := by decide +kernel
theorem dt_Pl_weighFrom_28 : decode prog_6_method_3_code 28 = .ok (.iload 4, 2) := by decide +kernel
theorem dt_Pl_weighFrom_30 : decode prog_6_method_3_code 30 = .ok (.iaload, 1) := by decide +kernel
theorem dt_Pl_weighFrom_31 : decode prog_6_method_3_code 31 = .ok (.iadd, 1) := by decide +kernel
theorem dt_Pl_weighFrom_32 : decode prog_6_method_3_code 32 = .ok (.invokestatic 60, 3) := by decide +kernel
theorem dt_Pl_weighFrom_35 : decode prog_6_method_3_code 35 = .ok (.iastore, 1) := by decide +kernel
theorem dt_Pl_weighFrom_36 : decode prog_6_method_3_code 36 = .ok (.iconst 0, 1) := by decide +kernel
theorem dt_Pl_weighFrom_37 : decode prog_6_method_3_code 37 = .ok (.istore 5, 2) := by decide +kernel
theorem dt_Pl_weighFrom_39 : decode prog_6_method_3_code 39 = .ok (.iload 5, 2) := by decide +kernel
theorem dt_Pl_weighFrom_41 : decode prog_6_method_3_code 41 = .ok (.aload_n 1, 1) := by decide +kernel
theorem dt_Pl_weighFrom_42 : decode prog_6_method_3_code 42 = .ok (.getfield 63, 3) := by decide +kernel
theorem dt_Pl_weighFrom_45 : decode prog_6_method_3_code 45 = .ok (.if_icmp .ge 68, 3) := by decide +kernel
theorem dt_Pl_weighFrom_48 : decode prog_6_method_3_code 48 = .ok (.aload_n 0, 1) := by decide +kernel
theorem dt_Pl_weighFrom_49 : decode prog_6_method_3_code 49 = .ok (.getfield 21, 3) := by decide +kernel
theorem dt_Pl_weighFrom_52 : decode prog_6_method_3_code 52 = .ok (.iload 4, 2) := by decide +kernel
theorem dt_Pl_weighFrom_54 : decode prog_6_method_3_code 54 = .ok (.iconst 1, 1) := by decide +kernel
theorem dt_Pl_weighFrom_55 : decode prog_6_method_3_code 55 = .ok (.iadd, 1) := by decide +kernel
theorem dt_Pl_weighFrom_56 : decode prog_6_method_3_code 56 = .ok (.bipush 7, 2) := by decide +kernel
theorem dt_Pl_weighFrom_58 : decode prog_6_method_3_code 58 = .ok (.imul, 1) := by decide +kernel
theorem dt_Pl_weighFrom_59 : decode prog_6_method_3_code 59 = .ok (.iload 5, 2) := by decide +kernel
theorem dt_Pl_weighFrom_61 : decode prog_6_method_3_code 61 = .ok (.iadd, 1) := by decide +kernel
theorem dt_Pl_weighFrom_62 : decode prog_6_method_3_code 62 = .ok (.aload_n 0, 1) := by decide +kernel
theorem dt_Pl_weighFrom_63 : decode prog_6_method_3_code 63 = .ok (.getfield 21, 3) := by decide +kernel
theorem dt_Pl_weighFrom_66 : decode prog_6_method_3_code 66 = .ok (.iload 4, 2) := by decide +kernel
theorem dt_Pl_weighFrom_68 : decode prog_6_method_3_code 68 = .ok (.bipush 7, 2) := by decide +kernel
theorem dt_Pl_weighFrom_70 : decode prog_6_method_3_code 70 = .ok (.imul, 1) := by decide +kernel
theorem dt_Pl_weighFrom_71 : decode prog_6_method_3_code 71 = .ok (.iload 5, 2) := by decide +kernel
theorem dt_Pl_weighFrom_73 : decode prog_6_method_3_code 73 = .ok (.iadd, 1) := by decide +kernel
theorem dt_Pl_weighFrom_74 : decode prog_6_method_3_code 74 = .ok (.iaload, 1) := by decide +kernel
theorem dt_Pl_weighFrom_75 : decode prog_6_method_3_code 75 = .ok (.aload_n 1, 1) := by decide +kernel
theorem dt_Pl_weighFrom_76 : decode prog_6_method_3_code 76 = .ok (.iload 5, 2) := by decide +kernel
theorem dt_Pl_weighFrom_78 : decode prog_6_method_3_code 78 = .ok (.aload_n 1, 1) := by decide +kernel
theorem dt_Pl_weighFrom_79 : decode prog_6_method_3_code 79 = .ok (.getfield 66, 3) := by decide +kernel
theorem dt_Pl_weighFrom_82 : decode prog_6_method_3_code 82 = .ok (.iload 5, 2) := by decide +kernel
theorem dt_Pl_weighFrom_84 : decode prog_6_method_3_code 84 = .ok (.iaload, 1) := by decide +kernel
theorem dt_Pl_weighFrom_85 : decode prog_6_method_3_code 85 = .ok (.aload_n 0, 1) := by decide +kernel
theorem dt_Pl_weighFrom_86 : decode prog_6_method_3_code 86 = .ok (.getfield 18, 3) := by decide +kernel
theorem dt_Pl_weighFrom_89 : decode prog_6_method_3_code 89 = .ok (.iload 4, 2) := by decide +kernel
theorem dt_Pl_weighFrom_91 : decode prog_6_method_3_code 91 = .ok (.iconst 1, 1) := by decide +kernel
theorem dt_Pl_weighFrom_92 : decode prog_6_method_3_code 92 = .ok (.iadd, 1) := by decide +kernel
theorem dt_Pl_weighFrom_93 : decode prog_6_method_3_code 93 = .ok (.iaload, 1) := by decide +kernel
theorem dt_Pl_weighFrom_94 : decode prog_6_method_3_code 94 = .ok (.aload_n 1, 1) := by decide +kernel
theorem dt_Pl_weighFrom_95 : decode prog_6_method_3_code 95 = .ok (.iload 4, 2) := by decide +kernel
theorem dt_Pl_weighFrom_97 : decode prog_6_method_3_code 97 = .ok (.iconst 1, 1) := by decide +kernel
theorem dt_Pl_weighFrom_98 : decode prog_6_method_3_code 98 = .ok (.iadd, 1) := by decide +kernel
theorem dt_Pl_weighFrom_99 : decode prog_6_method_3_code 99 = .ok (.invokevirtual 69, 3) := by decide +kernel
theorem dt_Pl_weighFrom_102 : decode prog_6_method_3_code 102 = .ok (.invokevirtual 72, 3) := by decide +kernel
theorem dt_Pl_weighFrom_105 : decode prog_6_method_3_code 105 = .ok (.iadd, 1) := by decide +kernel
theorem dt_Pl_weighFrom_106 : decode prog_6_method_3_code 106 = .ok (.iastore, 1) := by decide +kernel
theorem dt_Pl_weighFrom_107 : decode prog_6_method_3_code 107 = .ok (.iinc 5 1, 3) := by decide +kernel
theorem dt_Pl_weighFrom_110 : decode prog_6_method_3_code 110 = .ok (.goto (-71), 3) := by decide +kernel
theorem dt_Pl_weighFrom_113 : decode prog_6_method_3_code 113 = .ok (.iinc 4 1, 3) := by decide +kernel
theorem dt_Pl_weighFrom_116 : decode prog_6_method_3_code 116 = .ok (.goto (-113), 3) := by decide +kernel
theorem dt_Pl_weighFrom_119 : decode prog_6_method_3_code 119 = .ok (.return_, 1) := by decide +kernel
set_option maxHeartbeats 4000000 in
set_option maxRecDepth 10000 in
theorem tm_Pl_weighFrom {N : Nat} {T : Nat → tm_S} {w : ab_W} {pl : Nat} {o : Nat} (hW : tm_W N T w) (h_pl : is_Pl T pl) (h_o : is_Ri T o) (ne_pl_o : pl + 5 ≤ o ∨ o + 13 ≤ pl) (a : Int) (l_a : 0 ≤ a) (u_a : a ≤ 4) (b : Int) (l_b : 1 ≤ b) (u_b : b ≤ 5) : ab_Mt g_G g_rs mt_Pl_weighFrom 2 0 0 [ab_R pl, ab_R o, ab_I a, ab_I b] w (tm_Qv N T (fun w2 => (∀ (p : Nat) (j : Int), ¬ (p = (pl + 3) ∨ p = (pl + 4)) → tm_g w2 p j = tm_g w p j))) := by
  obtain ⟨plt0, plt1, plt2, plt3, plt4⟩ := id h_pl
  obtain ⟨ot0, ot1, ot2, ot3, ot4, ot5, ot6, ot7, ot8, ot9, ot10, ot11, ot12⟩ := id h_o
  have od := is_Ri.d h_o
  have hF0 : ∀ (p : Nat) (j : Int), ¬ (p = (pl + 3) ∨ p = (pl + 4)) → tm_g w p j = tm_g w p j := fun _ _ _ => rfl
  refine ab_Mt.of rfl (Nat.le_of_ble_eq_true rfl) ?_
  show ab_Ev g_G g_rs mt_Pl_weighFrom _ _ _ 0 [some (ab_R pl), some (ab_R o), some (ab_I a), some (ab_I b), none, none] [] _ _
  refine ev_iload_n dt_Pl_weighFrom_0 rfl rfl ?_
  refine ev_istore (l' := [_, _, _, _, _, _]) dt_Pl_weighFrom_1 (Nat.le_of_ble_eq_true rfl) rfl ?_
  have L1 : ∀ (n : Nat) (i2 : Int)  (w3 : ab_W), tm_W N T w3 → (∀ (p : Nat) (j : Int), ¬ (p = (pl + 3) ∨ p = (pl + 4)) → tm_g w3 p j = tm_g w p j) → 0 ≤ i2 → i2 ≤ 5 → 5 - i2 < (n : Int) → ab_Ev g_G g_rs mt_Pl_weighFrom 2 0 0 3 [some (ab_R pl), some (ab_R o), none, some (ab_I b), some (ab_I i2), none] [] w3 (tm_Qv N T (fun w2 => (∀ (p : Nat) (j : Int), ¬ (p = (pl + 3) ∨ p = (pl + 4)) → tm_g w2 p j = tm_g w p j))) := by
    intro n
    induction n with
    | zero =>
      intro i2  w3 hWw3 hFw3 li2 ui2 mL1
      exfalso
      omega
    | succ nL1 ihL1 =>
      intro i2  w3 hWw3 hFw3 li2 ui2 mL1
      refine ev_iload dt_Pl_weighFrom_3 rfl ?_
      refine ev_iload_n dt_Pl_weighFrom_5 rfl rfl ?_
      refine ev_icmp_ge (tgt := 119) dt_Pl_weighFrom_6 (by decide) (by omega) (by omega) (fun h4 => ?_) (fun h4 => ?_)
      · skip
        exact ev_return dt_Pl_weighFrom_119 rfl ⟨hWw3, rfl, hFw3⟩
      · skip
        refine ev_aload_n dt_Pl_weighFrom_9 rfl rfl ?_
        refine tm_getR dt_Pl_weighFrom_10 hWw3 plt0 fl_Pl_18 rfl ?_
        refine ev_iload dt_Pl_weighFrom_13 rfl ?_
        refine ev_iconst dt_Pl_weighFrom_15 ?_
        refine ev_iadd dt_Pl_weighFrom_16 ?_
        refine ev_aload_n dt_Pl_weighFrom_17 rfl rfl ?_
        refine tm_getR dt_Pl_weighFrom_18 hWw3 plt0 fl_Pl_18 rfl ?_
        refine ev_iload dt_Pl_weighFrom_21 rfl ?_
        refine tm_iaload dt_Pl_weighFrom_23 hWw3 plt3 (by omega) (by omega) (by omega) (fun v5 kv5 lv5 uv5 => ?_)
        refine ev_aload_n dt_Pl_weighFrom_24 rfl rfl ?_
        refine tm_getR dt_Pl_weighFrom_25 hWw3 plt0 fl_Pl_11 rfl ?_
        refine ev_iload dt_Pl_weighFrom_28 rfl ?_
        refine tm_iaload dt_Pl_weighFrom_30 hWw3 plt1 (by omega) (by omega) (by omega) (fun v6 kv6 lv6 uv6 => ?_)
        refine ev_iadd dt_Pl_weighFrom_31 ?_
        refine tm_any (fun v7 hv7 _ => ?_)
        refine tm_sp dt_Pl_weighFrom_32 (tm_Tu_wrapped hWw3 (v7) (by omega) (by omega)) kb_Pl_60 sc_Tu_wrapped rfl (Nat.le_of_ble_eq_true rfl) (by decide) (fun v8 hv8 => ?_)
        refine tm_iastore dt_Pl_weighFrom_35 hWw3 plt3 (by omega) (by omega) (by omega) (by omega) (by omega) (fun w9 hWw9 kkw9 hfw9 => ?_)
        have hFw9 : ∀ (p : Nat) (j : Int), ¬ (p = (pl + 3) ∨ p = (pl + 4)) → tm_g w9 p j = tm_g w p j := fun p j h => (hfw9 p j (by omega)).trans (hFw3 p j h)
        refine ev_iconst dt_Pl_weighFrom_36 ?_
        refine ev_istore (l' := [_, _, _, _, _, _]) dt_Pl_weighFrom_37 (Nat.le_of_ble_eq_true rfl) rfl ?_
        have L10 : ∀ (n : Nat) (i11 : Int)  (w12 : ab_W), tm_W N T w12 → (∀ (p : Nat) (j : Int), ¬ (p = (pl + 3) ∨ p = (pl + 4)) → tm_g w12 p j = tm_g w p j) → 0 ≤ i11 → i11 ≤ 7 → 7 - i11 < (n : Int) → ab_Ev g_G g_rs mt_Pl_weighFrom 2 0 0 39 [some (ab_R pl), some (ab_R o), none, some (ab_I b), some (ab_I i2), some (ab_I i11)] [] w12 (tm_Qv N T (fun w2 => (∀ (p : Nat) (j : Int), ¬ (p = (pl + 3) ∨ p = (pl + 4)) → tm_g w2 p j = tm_g w p j))) := by
          intro n
          induction n with
          | zero =>
            intro i11  w12 hWw12 hFw12 li11 ui11 mL10
            exfalso
            omega
          | succ nL10 ihL10 =>
            intro i11  w12 hWw12 hFw12 li11 ui11 mL10
            refine ev_iload dt_Pl_weighFrom_39 rfl ?_
            refine ev_aload_n dt_Pl_weighFrom_41 rfl rfl ?_
            refine tm_getI (K := 7) dt_Pl_weighFrom_42 hWw12 ot0 fl_Pl_63 rfl rfl (fun v13 kv13 lv13 uv13 => ?_)
            have z14 := (hFw12 o 7 (by omega)).symm.trans kv13
            refine ev_icmp_ge (tgt := 113) dt_Pl_weighFrom_45 (by decide) (by omega) (by omega) (fun h15 => ?_) (fun h15 => ?_)
            · skip
              refine ev_iinc (l' := [_, _, _, _, _, _]) dt_Pl_weighFrom_113 rfl rfl ?_
              refine ev_goto (tgt := 3) dt_Pl_weighFrom_116 (by decide) ?_
              exact tm_loc (tm_le_s (tm_le_s (tm_le_n (tm_le_s (tm_le_s (tm_le_n tm_le_0)))))) (ihL1 ((i2 + 1)) w12 hWw12 hFw12 (by omega) (by omega) (by omega))
            · skip
              refine ev_aload_n dt_Pl_weighFrom_48 rfl rfl ?_
              refine tm_getR dt_Pl_weighFrom_49 hWw12 plt0 fl_Pl_21 rfl ?_
              refine ev_iload dt_Pl_weighFrom_52 rfl ?_
              refine ev_iconst dt_Pl_weighFrom_54 ?_
              refine ev_iadd dt_Pl_weighFrom_55 ?_
              refine ev_bipush dt_Pl_weighFrom_56 rfl ?_
              refine ev_imul dt_Pl_weighFrom_58 ?_
              refine ev_iload dt_Pl_weighFrom_59 rfl ?_
              refine ev_iadd dt_Pl_weighFrom_61 ?_
              refine ev_aload_n dt_Pl_weighFrom_62 rfl rfl ?_
              refine tm_getR dt_Pl_weighFrom_63 hWw12 plt0 fl_Pl_21 rfl ?_
              refine ev_iload dt_Pl_weighFrom_66 rfl ?_
              refine ev_bipush dt_Pl_weighFrom_68 rfl ?_
              refine ev_imul dt_Pl_weighFrom_70 ?_
              refine ev_iload dt_Pl_weighFrom_71 rfl ?_
              refine ev_iadd dt_Pl_weighFrom_73 ?_
              refine tm_iaload dt_Pl_weighFrom_74 hWw12 plt4 (by omega) (by omega) (by omega) (fun v16 kv16 lv16 uv16 => ?_)
              refine ev_aload_n dt_Pl_weighFrom_75 rfl rfl ?_
              refine ev_iload dt_Pl_weighFrom_76 rfl ?_
              refine ev_aload_n dt_Pl_weighFrom_78 rfl rfl ?_
              refine tm_getR dt_Pl_weighFrom_79 hWw12 ot0 fl_Pl_66 rfl ?_
              refine ev_iload dt_Pl_weighFrom_82 rfl ?_
              refine tm_iaload dt_Pl_weighFrom_84 hWw12 ot1 (by omega) (by omega) (by omega) (fun v17 kv17 lv17 uv17 => ?_)
              refine ev_aload_n dt_Pl_weighFrom_85 rfl rfl ?_
              refine tm_getR dt_Pl_weighFrom_86 hWw12 plt0 fl_Pl_18 rfl ?_
              refine ev_iload dt_Pl_weighFrom_89 rfl ?_
              refine ev_iconst dt_Pl_weighFrom_91 ?_
              refine ev_iadd dt_Pl_weighFrom_92 ?_
              refine tm_iaload dt_Pl_weighFrom_93 hWw12 plt3 (by omega) (by omega) (by omega) (fun v18 kv18 lv18 uv18 => ?_)
              refine ev_aload_n dt_Pl_weighFrom_94 rfl rfl ?_
              refine ev_iload dt_Pl_weighFrom_95 rfl ?_
              refine ev_iconst dt_Pl_weighFrom_97 ?_
              refine ev_iadd dt_Pl_weighFrom_98 ?_
              refine tm_vp dt_Pl_weighFrom_99 (tm_Ri_hourOn hWw12 h_o ((i2 + 1)) (by omega) (by omega)) kb_Pl_69 ⟨im_Ri_hourOn, se_Ri_hourOn⟩ rfl hWw12 ot0 rfl (Nat.le_of_ble_eq_true rfl) (by decide) (fun v19 hv19 => ?_)
              refine tm_vp dt_Pl_weighFrom_102 (tm_Ri_likesIn hWw12 h_o (i11) (by omega) (by omega) (v17) (by omega) (by omega) (v18) (by omega) (by omega) (v19) (by omega) (by omega)) kb_Pl_72 ⟨im_Ri_likesIn, se_Ri_likesIn⟩ rfl hWw12 ot0 rfl (Nat.le_of_ble_eq_true rfl) (by decide) (fun v20 hv20 => ?_)
              refine ev_iadd dt_Pl_weighFrom_105 ?_
              refine tm_any (fun v21 hv21 _ => ?_)
              refine tm_iastore dt_Pl_weighFrom_106 hWw12 plt4 (by omega) (by omega) (by omega) (by omega) (by omega) (fun w22 hWw22 kkw22 hfw22 => ?_)
              have hFw22 : ∀ (p : Nat) (j : Int), ¬ (p = (pl + 3) ∨ p = (pl + 4)) → tm_g w22 p j = tm_g w p j := fun p j h => (hfw22 p j (by omega)).trans (hFw12 p j h)
              refine ev_iinc (l' := [_, _, _, _, _, _]) dt_Pl_weighFrom_107 rfl rfl ?_
              refine ev_goto (tgt := 39) dt_Pl_weighFrom_110 (by decide) ?_
              exact tm_loc (tm_le_s (tm_le_s (tm_le_n (tm_le_s (tm_le_s (tm_le_s tm_le_0)))))) (ihL10 ((i11 + 1)) w22 hWw22 hFw22 (by omega) (by omega) (by omega))
        exact tm_loc (tm_le_s (tm_le_s (tm_le_n (tm_le_s (tm_le_s (tm_le_s tm_le_0)))))) (L10 (7 - (0) + 1 : Int).toNat (0)  w9 hWw9 hFw9 (by omega) (by omega) (by omega))
  exact tm_loc (tm_le_s (tm_le_s (tm_le_n (tm_le_s (tm_le_s (tm_le_n tm_le_0)))))) (L1 (5 - (a) + 1 : Int).toNat (a)  w hW hF0 (by omega) (by omega) (by omega))
theorem dt_Pl_nextRow_0 : decode prog_6_method_4_code 0 = .ok (.iload_n 1, 1) := by decide +kernel
theorem dt_Pl_nextRow_1 : decode prog_6_method_4_code 1 = .ok (.iconst 1, 1) := by decide +kernel
theorem dt_Pl_nextRow_2 : decode prog_6_method_4_code 2 = .ok (.isub, 1) := by decide +kernel
theorem dt_Pl_nextRow_3 : decode prog_6_method_4_code 3 = .ok (.istore_n 2, 1) := by decide +kernel
theorem dt_Pl_nextRow_4 : decode prog_6_method_4_code 4 = .ok (.iload_n 2, 1) := by decide +kernel
theorem dt_Pl_nextRow_5 : decode prog_6_method_4_code 5 = .ok (.ifCond .lt 38, 3) := by decide +kernel
theorem dt_Pl_nextRow_8 : decode prog_6_method_4_code 8 = .ok (.aload_n 0, 1) := by decide +kernel
theorem dt_Pl_nextRow_9 : decode prog_6_method_4_code 9 = .ok (.getfield 11, 3) := by decide +kernel
theorem dt_Pl_nextRow_12 : decode prog_6_method_4_code 12 = .ok (.iload_n 2, 1) := by decide +kernel
theorem dt_Pl_nextRow_13 : decode prog_6_method_4_code 13 = .ok (.iaload, 1) := by decide +kernel
theorem dt_Pl_nextRow_14 : decode prog_6_method_4_code 14 = .ok (.iconst 1, 1) := by decide +kernel
theorem dt_Pl_nextRow_15 : decode prog_6_method_4_code 15 = .ok (.if_icmp .ge 15, 3) := by decide +kernel
theorem dt_Pl_nextRow_18 : decode prog_6_method_4_code 18 = .ok (.aload_n 0, 1) := by decide +kernel
theorem dt_Pl_nextRow_19 : decode prog_6_method_4_code 19 = .ok (.getfield 11, 3) := by decide +kernel
theorem dt_Pl_nextRow_22 : decode prog_6_method_4_code 22 = .ok (.iload_n 2, 1) := by decide +kernel
theorem dt_Pl_nextRow_23 : decode prog_6_method_4_code 23 = .ok (.dup2, 1) := by decide +kernel
theorem dt_Pl_nextRow_24 : decode prog_6_method_4_code 24 = .ok (.iaload, 1) := by decide +kernel
theorem dt_Pl_nextRow_25 : decode prog_6_method_4_code 25 = .ok (.iconst 1, 1) := by decide +kernel
theorem dt_Pl_nextRow_26 : decode prog_6_method_4_code 26 = .ok (.iadd, 1) := by decide +kernel
theorem dt_Pl_nextRow_27 : decode prog_6_method_4_code 27 = .ok (.iastore, 1) := by decide +kernel
theorem dt_Pl_nextRow_28 : decode prog_6_method_4_code 28 = .ok (.iload_n 2, 1) := by decide +kernel
theorem dt_Pl_nextRow_29 : decode prog_6_method_4_code 29 = .ok (.ireturn, 1) := by decide +kernel
theorem dt_Pl_nextRow_30 : decode prog_6_method_4_code 30 = .ok (.aload_n 0, 1) := by decide +kernel
theorem dt_Pl_nextRow_31 : decode prog_6_method_4_code 31 = .ok (.getfield 11, 3) := by decide +kernel
theorem dt_Pl_nextRow_34 : decode prog_6_method_4_code 34 = .ok (.iload_n 2, 1) := by decide +kernel
theorem dt_Pl_nextRow_35 : decode prog_6_method_4_code 35 = .ok (.iconst (-1), 1) := by decide +kernel
theorem dt_Pl_nextRow_36 : decode prog_6_method_4_code 36 = .ok (.iastore, 1) := by decide +kernel
theorem dt_Pl_nextRow_37 : decode prog_6_method_4_code 37 = .ok (.iinc 2 (-1), 3) := by decide +kernel
theorem dt_Pl_nextRow_40 : decode prog_6_method_4_code 40 = .ok (.goto (-36), 3) := by decide +kernel
theorem dt_Pl_nextRow_43 : decode prog_6_method_4_code 43 = .ok (.iconst (-1), 1) := by decide +kernel
theorem dt_Pl_nextRow_44 : decode prog_6_method_4_code 44 = .ok (.ireturn, 1) := by decide +kernel
set_option maxHeartbeats 4000000 in
set_option maxRecDepth 10000 in
theorem tm_Pl_nextRow {N : Nat} {T : Nat → tm_S} {w : ab_W} {pl : Nat} (hW : tm_W N T w) (h_pl : is_Pl T pl) (a : Int) (l_a : 1 ≤ a) (u_a : a ≤ 5) : ab_Mt g_G g_rs mt_Pl_nextRow 0 0 0 [ab_R pl, ab_I a] w (tm_Qi N T (fun v w2 => (∀ (p : Nat) (j : Int), ¬ (p = (pl + 1)) → tm_g w2 p j = tm_g w p j) ∧ ((-1) ≤ v ∧ v ≤ 4))) := by
  obtain ⟨plt0, plt1, plt2, plt3, plt4⟩ := id h_pl
  have hF0 : ∀ (p : Nat) (j : Int), ¬ (p = (pl + 1)) → tm_g w p j = tm_g w p j := fun _ _ _ => rfl
  refine ab_Mt.of rfl (Nat.le_of_ble_eq_true rfl) ?_
  show ab_Ev g_G g_rs mt_Pl_nextRow _ _ _ 0 [some (ab_R pl), some (ab_I a), none] [] _ _
  refine ev_iload_n dt_Pl_nextRow_0 rfl rfl ?_
  refine ev_iconst dt_Pl_nextRow_1 ?_
  refine ev_isub dt_Pl_nextRow_2 ?_
  refine ev_istore_n (l' := [_, _, _]) dt_Pl_nextRow_3 rfl (Nat.le_of_ble_eq_true rfl) rfl ?_
  have L23 : ∀ (n : Nat) (i24 : Int)  (w25 : ab_W), tm_W N T w25 → (∀ (p : Nat) (j : Int), ¬ (p = (pl + 1)) → tm_g w25 p j = tm_g w p j) → (-1) ≤ i24 → i24 ≤ 4 → i24 - (-1) < (n : Int) → ab_Ev g_G g_rs mt_Pl_nextRow 0 0 0 4 [some (ab_R pl), none, some (ab_I i24)] [] w25 (tm_Qi N T (fun v w2 => (∀ (p : Nat) (j : Int), ¬ (p = (pl + 1)) → tm_g w2 p j = tm_g w p j) ∧ ((-1) ≤ v ∧ v ≤ 4))) := by
    intro n
    induction n with
    | zero =>
      intro i24  w25 hWw25 hFw25 li24 ui24 mL23
      exfalso
      omega
    | succ nL23 ihL23 =>
      intro i24  w25 hWw25 hFw25 li24 ui24 mL23
      refine ev_iload_n dt_Pl_nextRow_4 rfl rfl ?_
      refine ev_if_lt (tgt := 43) dt_Pl_nextRow_5 (by decide) (by omega) (fun h26 => ?_) (fun h26 => ?_)
      · skip
        refine ev_iconst dt_Pl_nextRow_43 ?_
        exact ev_ireturn dt_Pl_nextRow_44 rfl ⟨hWw25, _, rfl, ⟨hFw25, by omega⟩⟩
      · skip
        refine ev_aload_n dt_Pl_nextRow_8 rfl rfl ?_
        refine tm_getR dt_Pl_nextRow_9 hWw25 plt0 fl_Pl_11 rfl ?_
        refine ev_iload_n dt_Pl_nextRow_12 rfl rfl ?_
        refine tm_iaload dt_Pl_nextRow_13 hWw25 plt1 (by omega) (by omega) (by omega) (fun v27 kv27 lv27 uv27 => ?_)
        refine ev_iconst dt_Pl_nextRow_14 ?_
        refine ev_icmp_ge (tgt := 30) dt_Pl_nextRow_15 (by decide) (by omega) (by omega) (fun h28 => ?_) (fun h28 => ?_)
        · skip
          refine ev_aload_n dt_Pl_nextRow_30 rfl rfl ?_
          refine tm_getR dt_Pl_nextRow_31 hWw25 plt0 fl_Pl_11 rfl ?_
          refine ev_iload_n dt_Pl_nextRow_34 rfl rfl ?_
          refine ev_iconst dt_Pl_nextRow_35 ?_
          refine tm_iastore dt_Pl_nextRow_36 hWw25 plt1 (by omega) (by omega) (by omega) (by omega) (by omega) (fun w29 hWw29 kkw29 hfw29 => ?_)
          have hFw29 : ∀ (p : Nat) (j : Int), ¬ (p = (pl + 1)) → tm_g w29 p j = tm_g w p j := fun p j h => (hfw29 p j (by omega)).trans (hFw25 p j h)
          refine ev_iinc (l' := [_, _, _]) dt_Pl_nextRow_37 rfl rfl ?_
          refine ev_goto (tgt := 4) dt_Pl_nextRow_40 (by decide) ?_
          exact tm_loc (tm_le_s (tm_le_n (tm_le_s tm_le_0))) (ihL23 ((i24 + (-1))) w29 hWw29 hFw29 (by omega) (by omega) (by omega))
        · skip
          refine ev_aload_n dt_Pl_nextRow_18 rfl rfl ?_
          refine tm_getR dt_Pl_nextRow_19 hWw25 plt0 fl_Pl_11 rfl ?_
          refine ev_iload_n dt_Pl_nextRow_22 rfl rfl ?_
          refine ev_dup2 dt_Pl_nextRow_23 rfl rfl ?_
          refine tm_iaload dt_Pl_nextRow_24 hWw25 plt1 (by omega) (by omega) (by omega) (fun v30 kv30 lv30 uv30 => ?_)
          refine ev_iconst dt_Pl_nextRow_25 ?_
          refine ev_iadd dt_Pl_nextRow_26 ?_
          refine tm_any (fun v31 hv31 _ => ?_)
          refine tm_iastore dt_Pl_nextRow_27 hWw25 plt1 (by omega) (by omega) (by omega) (by omega) (by omega) (fun w32 hWw32 kkw32 hfw32 => ?_)
          have hFw32 : ∀ (p : Nat) (j : Int), ¬ (p = (pl + 1)) → tm_g w32 p j = tm_g w p j := fun p j h => (hfw32 p j (by omega)).trans (hFw25 p j h)
          refine ev_iload_n dt_Pl_nextRow_28 rfl rfl ?_
          exact ev_ireturn dt_Pl_nextRow_29 rfl ⟨hWw32, _, rfl, ⟨hFw32, by omega⟩⟩
  exact tm_loc (tm_le_s (tm_le_n (tm_le_s tm_le_0))) (L23 (((a - 1)) - (-1) + 1 : Int).toNat ((a - 1))  w hW hF0 (by omega) (by omega) (by omega))
theorem dt_Pl_allHad_0 : decode prog_6_method_5_code 0 = .ok (.iconst 0, 1) := by decide +kernel
theorem dt_Pl_allHad_1 : decode prog_6_method_5_code 1 = .ok (.istore_n 3, 1) := by decide +kernel
theorem dt_Pl_allHad_2 : decode prog_6_method_5_code 2 = .ok (.iconst 0, 1) := by decide +kernel
theorem dt_Pl_allHad_3 : decode prog_6_method_5_code 3 = .ok (.istore 4, 2) := by decide +kernel
theorem dt_Pl_allHad_5 : decode prog_6_method_5_code 5 = .ok (.iload 4, 2) := by decide +kernel
theorem dt_Pl_allHad_7 : decode prog_6_method_5_code 7 = .ok (.aload_n 1, 1) := by decide +kernel
theorem dt_Pl_allHad_8 : decode prog_6_method_5_code 8 = .ok (.getfield 63, 3) := by decide +kernel
theorem dt_Pl_allHad_11 : decode prog_6_method_5_code 11 = .ok (.if_icmp .ge 24, 3) := by decide +kernel
theorem dt_Pl_allHad_14 : decode prog_6_method_5_code 14 = .ok (.iload_n 3, 1) := by decide +kernel
theorem dt_Pl_allHad_15 : decode prog_6_method_5_code 15 = .ok (.aload_n 0, 1) := by decide +kernel
theorem dt_Pl_allHad_16 : decode prog_6_method_5_code 16 = .ok (.getfield 21, 3) := by decide +kernel
theorem dt_Pl_allHad_19 : decode prog_6_method_5_code 19 = .ok (.iload_n 2, 1) := by decide +kernel
theorem dt_Pl_allHad_20 : decode prog_6_method_5_code 20 = .ok (.bipush 7, 2) := by decide +kernel
theorem dt_Pl_allHad_22 : decode prog_6_method_5_code 22 = .ok (.imul, 1) := by decide +kernel
theorem dt_Pl_allHad_23 : decode prog_6_method_5_code 23 = .ok (.iload 4, 2) := by decide +kernel
theorem dt_Pl_allHad_25 : decode prog_6_method_5_code 25 = .ok (.iadd, 1) := by decide +kernel
theorem dt_Pl_allHad_26 : decode prog_6_method_5_code 26 = .ok (.iaload, 1) := by decide +kernel
theorem dt_Pl_allHad_27 : decode prog_6_method_5_code 27 = .ok (.iadd, 1) := by decide +kernel
theorem dt_Pl_allHad_28 : decode prog_6_method_5_code 28 = .ok (.istore_n 3, 1) := by decide +kernel
theorem dt_Pl_allHad_29 : decode prog_6_method_5_code 29 = .ok (.iinc 4 1, 3) := by decide +kernel
theorem dt_Pl_allHad_32 : decode prog_6_method_5_code 32 = .ok (.goto (-27), 3) := by decide +kernel
theorem dt_Pl_allHad_35 : decode prog_6_method_5_code 35 = .ok (.iload_n 3, 1) := by decide +kernel
theorem dt_Pl_allHad_36 : decode prog_6_method_5_code 36 = .ok (.ireturn, 1) := by decide +kernel
set_option maxHeartbeats 4000000 in
set_option maxRecDepth 10000 in
theorem tm_Pl_allHad {N : Nat} {T : Nat → tm_S} {w : ab_W} {pl : Nat} {o : Nat} (hW : tm_W N T w) (h_pl : is_Pl T pl) (h_o : is_Ri T o) (ne_pl_o : pl + 5 ≤ o ∨ o + 13 ≤ pl) (a : Int) (l_a : 1 ≤ a) (u_a : a ≤ 5) : ab_Mt g_G g_rs mt_Pl_allHad 0 0 0 [ab_R pl, ab_R o, ab_I a] w (tm_P w (fun v => (-2147483648) ≤ v ∧ v ≤ 2147483647)) := by
  obtain ⟨plt0, plt1, plt2, plt3, plt4⟩ := id h_pl
  obtain ⟨ot0, ot1, ot2, ot3, ot4, ot5, ot6, ot7, ot8, ot9, ot10, ot11, ot12⟩ := id h_o
  have od := is_Ri.d h_o
  refine ab_Mt.of rfl (Nat.le_of_ble_eq_true rfl) ?_
  show ab_Ev g_G g_rs mt_Pl_allHad _ _ _ 0 [some (ab_R pl), some (ab_R o), some (ab_I a), none, none] [] _ _
  refine ev_iconst dt_Pl_allHad_0 ?_
  refine ev_istore_n (l' := [_, _, _, _, _]) dt_Pl_allHad_1 rfl (Nat.le_of_ble_eq_true rfl) rfl ?_
  refine ev_iconst dt_Pl_allHad_2 ?_
  refine ev_istore (l' := [_, _, _, _, _]) dt_Pl_allHad_3 (Nat.le_of_ble_eq_true rfl) rfl ?_
  have L33 : ∀ (n : Nat) (i34 : Int) (i35 : Int) , (-2147483648) ≤ i34 → i34 ≤ 2147483647 → 0 ≤ i35 → i35 ≤ 7 → 7 - i35 < (n : Int) → ab_Ev g_G g_rs mt_Pl_allHad 0 0 0 5 [some (ab_R pl), some (ab_R o), some (ab_I a), some (ab_I i34), some (ab_I i35)] [] w (tm_P w (fun v => (-2147483648) ≤ v ∧ v ≤ 2147483647)) := by
    intro n
    induction n with
    | zero =>
      intro i34 i35  li34 ui34 li35 ui35 mL33
      exfalso
      omega
    | succ nL33 ihL33 =>
      intro i34 i35  li34 ui34 li35 ui35 mL33
      refine ev_iload dt_Pl_allHad_5 rfl ?_
      refine ev_aload_n dt_Pl_allHad_7 rfl rfl ?_
      refine tm_getI (K := 7) dt_Pl_allHad_8 hW ot0 fl_Pl_63 rfl rfl (fun v36 kv36 lv36 uv36 => ?_)
      refine ev_icmp_ge (tgt := 35) dt_Pl_allHad_11 (by decide) (by omega) (by omega) (fun h37 => ?_) (fun h37 => ?_)
      · skip
        refine ev_iload_n dt_Pl_allHad_35 rfl rfl ?_
        exact ev_ireturn dt_Pl_allHad_36 rfl ⟨rfl, _, rfl, by omega⟩
      · skip
        refine ev_iload_n dt_Pl_allHad_14 rfl rfl ?_
        refine ev_aload_n dt_Pl_allHad_15 rfl rfl ?_
        refine tm_getR dt_Pl_allHad_16 hW plt0 fl_Pl_21 rfl ?_
        refine ev_iload_n dt_Pl_allHad_19 rfl rfl ?_
        refine ev_bipush dt_Pl_allHad_20 rfl ?_
        refine ev_imul dt_Pl_allHad_22 ?_
        refine ev_iload dt_Pl_allHad_23 rfl ?_
        refine ev_iadd dt_Pl_allHad_25 ?_
        refine tm_iaload dt_Pl_allHad_26 hW plt4 (by omega) (by omega) (by omega) (fun v38 kv38 lv38 uv38 => ?_)
        refine ev_iadd dt_Pl_allHad_27 ?_
        refine tm_any (fun v39 hv39 _ => ?_)
        refine ev_istore_n (l' := [_, _, _, _, _]) dt_Pl_allHad_28 rfl (Nat.le_of_ble_eq_true rfl) rfl ?_
        refine ev_iinc (l' := [_, _, _, _, _]) dt_Pl_allHad_29 rfl rfl ?_
        refine ev_goto (tgt := 5) dt_Pl_allHad_32 (by decide) ?_
        exact tm_loc (tm_le_s (tm_le_s (tm_le_s (tm_le_s (tm_le_s tm_le_0))))) (ihL33 (v39) ((i35 + 1)) (by omega) (by omega) (by omega) (by omega) (by omega))
  exact tm_loc (tm_le_s (tm_le_s (tm_le_s (tm_le_s (tm_le_s tm_le_0))))) (L33 (7 - (0) + 1 : Int).toNat (0) (0)  (by omega) (by omega) (by omega) (by omega) (by omega))
theorem dt_Pl_leastHad_0 : decode prog_6_method_6_code 0 = .ok (.aload_n 0, 1) := by decide +kernel
theorem dt_Pl_leastHad_1 : decode prog_6_method_6_code 1 = .ok (.getfield 21, 3) := by decide +kernel
theorem dt_Pl_leastHad_4 : decode prog_6_method_6_code 4 = .ok (.iload_n 2, 1) := by decide +kernel
theorem dt_Pl_leastHad_5 : decode prog_6_method_6_code 5 = .ok (.bipush 7, 2) := by decide +kernel
theorem dt_Pl_leastHad_7 : decode prog_6_method_6_code 7 = .ok (.imul, 1) := by decide +kernel
theorem dt_Pl_leastHad_8 : decode prog_6_method_6_code 8 = .ok (.iaload, 1) := by decide +kernel
theorem dt_Pl_leastHad_9 : decode prog_6_method_6_code 9 = .ok (.istore_n 3, 1) := by decide +kernel
theorem dt_Pl_leastHad_10 : decode prog_6_method_6_code 10 = .ok (.iconst 1, 1) := by decide +kernel
theorem dt_Pl_leastHad_11 : decode prog_6_method_6_code 11 = .ok (.istore 4, 2) := by decide +kernel
theorem dt_Pl_leastHad_13 : decode prog_6_method_6_code 13 = .ok (.iload 4, 2) := by decide +kernel
theorem dt_Pl_leastHad_15 : decode prog_6_method_6_code 15 = .ok (.aload_n 1, 1) := by decide +kernel
theorem dt_Pl_leastHad_16 : decode prog_6_method_6_code 16 = .ok (.getfield 63, 3) := by decide +kernel
theorem dt_Pl_leastHad_19 : decode prog_6_method_6_code 19 = .ok (.if_icmp .ge 26, 3) := by decide +kernel
theorem dt_Pl_leastHad_22 : decode prog_6_method_6_code 22 = .ok (.iload_n 3, 1) := by decide +kernel
theorem dt_Pl_leastHad_23 : decode prog_6_method_6_code 23 = .ok (.aload_n 0, 1) := by decide +kernel
theorem dt_Pl_leastHad_24 : decode prog_6_method_6_code 24 = .ok (.getfield 21, 3) := by decide +kernel
theorem dt_Pl_leastHad_27 : decode prog_6_method_6_code 27 = .ok (.iload_n 2, 1) := by decide +kernel
theorem dt_Pl_leastHad_28 : decode prog_6_method_6_code 28 = .ok (.bipush 7, 2) := by decide +kernel
theorem dt_Pl_leastHad_30 : decode prog_6_method_6_code 30 = .ok (.imul, 1) := by decide +kernel
theorem dt_Pl_leastHad_31 : decode prog_6_method_6_code 31 = .ok (.iload 4, 2) := by decide +kernel
theorem dt_Pl_leastHad_33 : decode prog_6_method_6_code 33 = .ok (.iadd, 1) := by decide +kernel
theorem dt_Pl_leastHad_34 : decode prog_6_method_6_code 34 = .ok (.iaload, 1) := by decide +kernel
theorem dt_Pl_leastHad_35 : decode prog_6_method_6_code 35 = .ok (.invokestatic 76, 3) := by decide +kernel
theorem dt_Pl_leastHad_38 : decode prog_6_method_6_code 38 = .ok (.istore_n 3, 1) := by decide +kernel
theorem dt_Pl_leastHad_39 : decode prog_6_method_6_code 39 = .ok (.iinc 4 1, 3) := by decide +kernel
theorem dt_Pl_leastHad_42 : decode prog_6_method_6_code 42 = .ok (.goto (-29), 3) := by decide +kernel
theorem dt_Pl_leastHad_45 : decode prog_6_method_6_code 45 = .ok (.iload_n 3, 1) := by decide +kernel
theorem dt_Pl_leastHad_46 : decode prog_6_method_6_code 46 = .ok (.ireturn, 1) := by decide +kernel
set_option maxHeartbeats 4000000 in
set_option maxRecDepth 10000 in
theorem tm_Pl_leastHad {N : Nat} {T : Nat → tm_S} {w : ab_W} {pl : Nat} {o : Nat} (hW : tm_W N T w) (h_pl : is_Pl T pl) (h_o : is_Ri T o) (ne_pl_o : pl + 5 ≤ o ∨ o + 13 ≤ pl) (a : Int) (l_a : 1 ≤ a) (u_a : a ≤ 5) : ab_Mt g_G g_rs mt_Pl_leastHad 1 0 0 [ab_R pl, ab_R o, ab_I a] w (tm_P w (fun v => (-2147483648) ≤ v ∧ v ≤ 2147483647)) := by
  obtain ⟨plt0, plt1, plt2, plt3, plt4⟩ := id h_pl
  obtain ⟨ot0, ot1, ot2, ot3, ot4, ot5, ot6, ot7, ot8, ot9, ot10, ot11, ot12⟩ := id h_o
  have od := is_Ri.d h_o
  refine ab_Mt.of rfl (Nat.le_of_ble_eq_true rfl) ?_
  show ab_Ev g_G g_rs mt_Pl_leastHad _ _ _ 0 [some (ab_R pl), some (ab_R o), some (ab_I a), none, none] [] _ _
  refine ev_aload_n dt_Pl_leastHad_0 rfl rfl ?_
  refine tm_getR dt_Pl_leastHad_1 hW plt0 fl_Pl_21 rfl ?_
  refine ev_iload_n dt_Pl_leastHad_4 rfl rfl ?_
  refine ev_bipush dt_Pl_leastHad_5 rfl ?_
  refine ev_imul dt_Pl_leastHad_7 ?_
  refine tm_iaload dt_Pl_leastHad_8 hW plt4 (by omega) (by omega) (by omega) (fun v40 kv40 lv40 uv40 => ?_)
  refine ev_istore_n (l' := [_, _, _, _, _]) dt_Pl_leastHad_9 rfl (Nat.le_of_ble_eq_true rfl) rfl ?_
  refine ev_iconst dt_Pl_leastHad_10 ?_
  refine ev_istore (l' := [_, _, _, _, _]) dt_Pl_leastHad_11 (Nat.le_of_ble_eq_true rfl) rfl ?_
  have L41 : ∀ (n : Nat) (i42 : Int) (i43 : Int) , (-2147483648) ≤ i42 → i42 ≤ 2147483647 → 1 ≤ i43 → i43 ≤ 7 → 7 - i43 < (n : Int) → ab_Ev g_G g_rs mt_Pl_leastHad 1 0 0 13 [some (ab_R pl), some (ab_R o), some (ab_I a), some (ab_I i42), some (ab_I i43)] [] w (tm_P w (fun v => (-2147483648) ≤ v ∧ v ≤ 2147483647)) := by
    intro n
    induction n with
    | zero =>
      intro i42 i43  li42 ui42 li43 ui43 mL41
      exfalso
      omega
    | succ nL41 ihL41 =>
      intro i42 i43  li42 ui42 li43 ui43 mL41
      refine ev_iload dt_Pl_leastHad_13 rfl ?_
      refine ev_aload_n dt_Pl_leastHad_15 rfl rfl ?_
      refine tm_getI (K := 7) dt_Pl_leastHad_16 hW ot0 fl_Pl_63 rfl rfl (fun v44 kv44 lv44 uv44 => ?_)
      refine ev_icmp_ge (tgt := 45) dt_Pl_leastHad_19 (by decide) (by omega) (by omega) (fun h45 => ?_) (fun h45 => ?_)
      · skip
        refine ev_iload_n dt_Pl_leastHad_45 rfl rfl ?_
        exact ev_ireturn dt_Pl_leastHad_46 rfl ⟨rfl, _, rfl, by omega⟩
      · skip
        refine ev_iload_n dt_Pl_leastHad_22 rfl rfl ?_
        refine ev_aload_n dt_Pl_leastHad_23 rfl rfl ?_
        refine tm_getR dt_Pl_leastHad_24 hW plt0 fl_Pl_21 rfl ?_
        refine ev_iload_n dt_Pl_leastHad_27 rfl rfl ?_
        refine ev_bipush dt_Pl_leastHad_28 rfl ?_
        refine ev_imul dt_Pl_leastHad_30 ?_
        refine ev_iload dt_Pl_leastHad_31 rfl ?_
        refine ev_iadd dt_Pl_leastHad_33 ?_
        refine tm_iaload dt_Pl_leastHad_34 hW plt4 (by omega) (by omega) (by omega) (fun v46 kv46 lv46 uv46 => ?_)
        refine tm_min (by omega) (by omega) dt_Pl_leastHad_35 mk_Pl_76 (Nat.le_of_ble_eq_true rfl) (by decide) (fun v47 x1 x2 x3 => ?_)
        have hv47 : (-2147483648) ≤ v47 ∧ v47 ≤ 2147483647 := by omega
        clear x1 x2 x3
        refine ev_istore_n (l' := [_, _, _, _, _]) dt_Pl_leastHad_38 rfl (Nat.le_of_ble_eq_true rfl) rfl ?_
        refine ev_iinc (l' := [_, _, _, _, _]) dt_Pl_leastHad_39 rfl rfl ?_
        refine ev_goto (tgt := 13) dt_Pl_leastHad_42 (by decide) ?_
        exact tm_loc (tm_le_s (tm_le_s (tm_le_s (tm_le_s (tm_le_s tm_le_0))))) (ihL41 (v47) ((i43 + 1)) (by omega) (by omega) (by omega) (by omega) (by omega))
  exact tm_loc (tm_le_s (tm_le_s (tm_le_s (tm_le_s (tm_le_s tm_le_0))))) (L41 (7 - (1) + 1 : Int).toNat (v40) (1)  (by omega) (by omega) (by omega) (by omega) (by omega))
theorem dt_Pl_findBest_0 : decode prog_6_method_2_code 0 = .ok (.aload_n 0, 1) := by decide +kernel
theorem dt_Pl_findBest_1 : decode prog_6_method_2_code 1 = .ok (.getfield 11, 3) := by decide +kernel
theorem dt_Pl_findBest_4 : decode prog_6_method_2_code 4 = .ok (.iconst (-1), 1) := by decide +kernel
theorem dt_Pl_findBest_5 : decode prog_6_method_2_code 5 = .ok (.invokestatic 24, 3) := by decide +kernel
theorem dt_Pl_findBest_8 : decode prog_6_method_2_code 8 = .ok (.aload_n 0, 1) := by decide +kernel
theorem dt_Pl_findBest_9 : decode prog_6_method_2_code 9 = .ok (.getfield 18, 3) := by decide +kernel
theorem dt_Pl_findBest_12 : decode prog_6_method_2_code 12 = .ok (.iconst 0, 1) := by decide +kernel
theorem dt_Pl_findBest_13 : decode prog_6_method_2_code 13 = .ok (.aload_n 1, 1) := by decide +kernel
theorem dt_Pl_findBest_14 : decode prog_6_method_2_code 14 = .ok (.getfield 30, 3) := by decide +kernel
theorem dt_Pl_findBest_17 : decode prog_6_method_2_code 17 = .ok (.iastore, 1) := by decide +kernel
theorem dt_Pl_findBest_18 : decode prog_6_method_2_code 18 = .ok (.iconst 0, 1) := by decide +kernel
theorem dt_Pl_findBest_19 : decode prog_6_method_2_code 19 = .ok (.istore 4, 2) := by decide +kernel
theorem dt_Pl_findBest_21 : decode prog_6_method_2_code 21 = .ok (.iconst 0, 1) := by decide +kernel
theorem dt_Pl_findBest_22 : decode prog_6_method_2_code 22 = .ok (.istore 5, 2) := by decide +kernel
theorem dt_Pl_findBest_24 : decode prog_6_method_2_code 24 = .ok (.iload 5, 2) := by decide +kernel
theorem dt_Pl_findBest_26 : decode prog_6_method_2_code 26 = .ok (.sipush 243, 3) := by decide +kernel
theorem dt_Pl_findBest_29 : decode prog_6_method_2_code 29 = .ok (.if_icmp .ge 84, 3) := by decide +kernel
theorem dt_Pl_findBest_32 : decode prog_6_method_2_code 32 = .ok (.iload 4, 2) := by decide +kernel
theorem dt_Pl_findBest_34 : decode prog_6_method_2_code 34 = .ok (.ifCond .lt 79, 3) := by decide +kernel
theorem dt_Pl_findBest_37 : decode prog_6_method_2_code 37 = .ok (.aload_n 0, 1) := by decide +kernel
theorem dt_Pl_findBest_38 : decode prog_6_method_2_code 38 = .ok (.aload_n 1, 1) := by decide +kernel
theorem dt_Pl_findBest_39 : decode prog_6_method_2_code 39 = .ok (.iload 4, 2) := by decide +kernel
theorem dt_Pl_findBest_41 : decode prog_6_method_2_code 41 = .ok (.iload_n 2, 1) := by decide +kernel
theorem dt_Pl_findBest_42 : decode prog_6_method_2_code 42 = .ok (.invokevirtual 36, 3) := by decide +kernel
theorem dt_Pl_findBest_45 : decode prog_6_method_2_code 45 = .ok (.iload_n 3, 1) := by decide +kernel
theorem dt_Pl_findBest_46 : decode prog_6_method_2_code 46 = .ok (.ifCond .eq 12, 3) := by decide +kernel
theorem dt_Pl_findBest_49 : decode prog_6_method_2_code 49 = .ok (.aload_n 0, 1) := by decide +kernel
theorem dt_Pl_findBest_50 : decode prog_6_method_2_code 50 = .ok (.aload_n 1, 1) := by decide +kernel
theorem dt_Pl_findBest_51 : decode prog_6_method_2_code 51 = .ok (.iload_n 2, 1) := by decide +kernel
theorem dt_Pl_findBest_52 : decode prog_6_method_2_code 52 = .ok (.invokevirtual 40, 3) := by decide +kernel
theorem dt_Pl_findBest_55 : decode prog_6_method_2_code 55 = .ok (.goto 9, 3) := by decide +kernel
theorem dt_Pl_findBest_58 : decode prog_6_method_2_code 58 = .ok (.aload_n 0, 1) := by decide +kernel
theorem dt_Pl_findBest_59 : decode prog_6_method_2_code 59 = .ok (.aload_n 1, 1) := by decide +kernel
theorem dt_Pl_findBest_60 : decode prog_6_method_2_code 60 = .ok (.iload_n 2, 1) := by decide +kernel
theorem dt_Pl_findBest_61 : decode prog_6_method_2_code 61 = .ok (.invokevirtual 44, 3) := by decide +kernel
theorem dt_Pl_findBest_64 : decode prog_6_method_2_code 64 = .ok (.istore 6, 2) := by decide +kernel
theorem dt_Pl_findBest_66 : decode prog_6_method_2_code 66 = .ok (.iload 5, 2) := by decide +kernel
theorem dt_Pl_findBest_68 : decode prog_6_method_2_code 68 = .ok (.ifCond .eq 12, 3) := by decide +kernel
theorem dt_Pl_findBest_71 : decode prog_6_method_2_code 71 = .ok (.iload 6, 2) := by decide +kernel
theorem dt_Pl_findBest_73 : decode prog_6_method_2_code 73 = .ok (.aload_n 0, 1) := by decide +kernel
theorem dt_Pl_findBest_74 : decode prog_6_method_2_code 74 = .ok (.getfield 47, 3) := by decide +kernel
theorem dt_Pl_findBest_77 : decode prog_6_method_2_code 77 = .ok (.if_icmp .le 23, 3) := by decide +kernel
theorem dt_Pl_findBest_80 : decode prog_6_method_2_code 80 = .ok (.aload_n 0, 1) := by decide +kernel
theorem dt_Pl_findBest_81 : decode prog_6_method_2_code 81 = .ok (.iload 6, 2) := by decide +kernel
theorem dt_Pl_findBest_83 : decode prog_6_method_2_code 83 = .ok (.putfield 47, 3) := by decide +kernel
theorem dt_Pl_findBest_86 : decode prog_6_method_2_code 86 = .ok (.aload_n 0, 1) := by decide +kernel
theorem dt_Pl_findBest_87 : decode prog_6_method_2_code 87 = .ok (.getfield 11, 3) := by decide +kernel
theorem dt_Pl_findBest_90 : decode prog_6_method_2_code 90 = .ok (.iconst 0, 1) := by decide +kernel
theorem dt_Pl_findBest_91 : decode prog_6_method_2_code 91 = .ok (.aload_n 0, 1) := by decide +kernel
theorem dt_Pl_findBest_92 : decode prog_6_method_2_code 92 = .ok (.getfield 15, 3) := by decide +kernel
theorem dt_Pl_findBest_95 : decode prog_6_method_2_code 95 = .ok (.iconst 0, 1) := by decide +kernel
theorem dt_Pl_findBest_96 : decode prog_6_method_2_code 96 = .ok (.iconst 5, 1) := by decide +kernel
theorem dt_Pl_findBest_97 : decode prog_6_method_2_code 97 = .ok (.invokestatic 50, 3) := by decide +kernel
theorem dt_Pl_findBest_100 : decode prog_6_method_2_code 100 = .ok (.aload_n 0, 1) := by decide +kernel
theorem dt_Pl_findBest_101 : decode prog_6_method_2_code 101 = .ok (.iload_n 2, 1) := by decide +kernel
theorem dt_Pl_findBest_102 : decode prog_6_method_2_code 102 = .ok (.invokevirtual 56, 3) := by decide +kernel
theorem dt_Pl_findBest_105 : decode prog_6_method_2_code 105 = .ok (.istore 4, 2) := by decide +kernel
theorem dt_Pl_findBest_107 : decode prog_6_method_2_code 107 = .ok (.iinc 5 1, 3) := by decide +kernel
theorem dt_Pl_findBest_110 : decode prog_6_method_2_code 110 = .ok (.goto (-86), 3) := by decide +kernel
theorem dt_Pl_findBest_113 : decode prog_6_method_2_code 113 = .ok (.return_, 1) := by decide +kernel
set_option maxHeartbeats 4000000 in
set_option maxRecDepth 10000 in
theorem tm_Pl_findBest {N : Nat} {T : Nat → tm_S} {w : ab_W} {pl : Nat} {o : Nat} (hW : tm_W N T w) (h_pl : is_Pl T pl) (h_o : is_Ri T o) (ne_pl_o : pl + 5 ≤ o ∨ o + 13 ≤ pl) (a : Int) (l_a : 1 ≤ a) (u_a : a ≤ 5) (b : Int) (l_b : 0 ≤ b) (u_b : b ≤ 1) : ab_Mt g_G g_rs mt_Pl_findBest 3 0 0 [ab_R pl, ab_R o, ab_I a, ab_I b] w (tm_Qv N T (fun w2 => (∀ (p : Nat) (j : Int), ¬ (p = (pl + 1) ∨ p = (pl + 2) ∨ p = (pl + 3) ∨ p = (pl + 4) ∨ (p = pl ∧ (j = 2))) → tm_g w2 p j = tm_g w p j))) := by
  obtain ⟨plt0, plt1, plt2, plt3, plt4⟩ := id h_pl
  obtain ⟨ot0, ot1, ot2, ot3, ot4, ot5, ot6, ot7, ot8, ot9, ot10, ot11, ot12⟩ := id h_o
  have od := is_Ri.d h_o
  have hF0 : ∀ (p : Nat) (j : Int), ¬ (p = (pl + 1) ∨ p = (pl + 2) ∨ p = (pl + 3) ∨ p = (pl + 4) ∨ (p = pl ∧ (j = 2))) → tm_g w p j = tm_g w p j := fun _ _ _ => rfl
  refine ab_Mt.of rfl (Nat.le_of_ble_eq_true rfl) ?_
  show ab_Ev g_G g_rs mt_Pl_findBest _ _ _ 0 [some (ab_R pl), some (ab_R o), some (ab_I a), some (ab_I b), none, none, none] [] _ _
  refine ev_aload_n dt_Pl_findBest_0 rfl rfl ?_
  refine tm_getR dt_Pl_findBest_1 hW plt0 fl_Pl_11 rfl ?_
  refine ev_iconst dt_Pl_findBest_4 ?_
  refine tm_sv dt_Pl_findBest_5 (tm_fillI hW plt1 (by decide) _ (by omega) (by omega)) kb_Pl_24 sc_Ar_fill_AIIV hW rfl (Nat.le_of_ble_eq_true rfl) (by decide) (fun w48 hWw48 hfw48 => ?_)
  have hFw48 : ∀ (p : Nat) (j : Int), ¬ (p = (pl + 1) ∨ p = (pl + 2) ∨ p = (pl + 3) ∨ p = (pl + 4) ∨ (p = pl ∧ (j = 2))) → tm_g w48 p j = tm_g w p j := fun p j h => (hfw48 p j (by omega)).trans (hF0 p j h)
  refine ev_aload_n dt_Pl_findBest_8 rfl rfl ?_
  refine tm_getR dt_Pl_findBest_9 hWw48 plt0 fl_Pl_18 rfl ?_
  refine ev_iconst dt_Pl_findBest_12 ?_
  refine ev_aload_n dt_Pl_findBest_13 rfl rfl ?_
  refine tm_getI (K := 1) dt_Pl_findBest_14 hWw48 ot0 fl_Pl_30 rfl rfl (fun v49 kv49 lv49 uv49 => ?_)
  have z50 := (hFw48 o 1 (by omega)).symm.trans kv49
  refine tm_iastore dt_Pl_findBest_17 hWw48 plt3 (by omega) (by omega) (by omega) (by omega) (by omega) (fun w51 hWw51 kkw51 hfw51 => ?_)
  have hFw51 : ∀ (p : Nat) (j : Int), ¬ (p = (pl + 1) ∨ p = (pl + 2) ∨ p = (pl + 3) ∨ p = (pl + 4) ∨ (p = pl ∧ (j = 2))) → tm_g w51 p j = tm_g w p j := fun p j h => (hfw51 p j (by omega)).trans (hFw48 p j h)
  refine ev_iconst dt_Pl_findBest_18 ?_
  refine ev_istore (l' := [_, _, _, _, _, _, _]) dt_Pl_findBest_19 (Nat.le_of_ble_eq_true rfl) rfl ?_
  refine ev_iconst dt_Pl_findBest_21 ?_
  refine ev_istore (l' := [_, _, _, _, _, _, _]) dt_Pl_findBest_22 (Nat.le_of_ble_eq_true rfl) rfl ?_
  have L52 : ∀ (n : Nat) (i53 : Int) (i54 : Int)  (w55 : ab_W), tm_W N T w55 → (∀ (p : Nat) (j : Int), ¬ (p = (pl + 1) ∨ p = (pl + 2) ∨ p = (pl + 3) ∨ p = (pl + 4) ∨ (p = pl ∧ (j = 2))) → tm_g w55 p j = tm_g w p j) → (-1) ≤ i53 → i53 ≤ 4 → 0 ≤ i54 → i54 ≤ 243 → 243 - i54 < (n : Int) → ab_Ev g_G g_rs mt_Pl_findBest 3 0 0 24 [some (ab_R pl), some (ab_R o), some (ab_I a), some (ab_I b), some (ab_I i53), some (ab_I i54), none] [] w55 (tm_Qv N T (fun w2 => (∀ (p : Nat) (j : Int), ¬ (p = (pl + 1) ∨ p = (pl + 2) ∨ p = (pl + 3) ∨ p = (pl + 4) ∨ (p = pl ∧ (j = 2))) → tm_g w2 p j = tm_g w p j))) := by
    intro n
    induction n with
    | zero =>
      intro i53 i54  w55 hWw55 hFw55 li53 ui53 li54 ui54 mL52
      exfalso
      omega
    | succ nL52 ihL52 =>
      intro i53 i54  w55 hWw55 hFw55 li53 ui53 li54 ui54 mL52
      refine ev_iload dt_Pl_findBest_24 rfl ?_
      refine ev_sipush dt_Pl_findBest_26 rfl ?_
      refine ev_icmp_ge (tgt := 113) dt_Pl_findBest_29 (by decide) (by omega) (by omega) (fun h56 => ?_) (fun h56 => ?_)
      · skip
        exact ev_return dt_Pl_findBest_113 rfl ⟨hWw55, rfl, hFw55⟩
      · skip
        refine ev_iload dt_Pl_findBest_32 rfl ?_
        refine ev_if_lt (tgt := 113) dt_Pl_findBest_34 (by decide) (by omega) (fun h57 => ?_) (fun h57 => ?_)
        · skip
          exact ev_return dt_Pl_findBest_113 rfl ⟨hWw55, rfl, hFw55⟩
        · skip
          refine ev_aload_n dt_Pl_findBest_37 rfl rfl ?_
          refine ev_aload_n dt_Pl_findBest_38 rfl rfl ?_
          refine ev_iload dt_Pl_findBest_39 rfl ?_
          refine ev_iload_n dt_Pl_findBest_41 rfl rfl ?_
          refine tm_vv dt_Pl_findBest_42 (tm_Pl_weighFrom hWw55 h_pl h_o (by omega) (i53) (by omega) (by omega) (a) (by omega) (by omega)) kb_Pl_36 ⟨im_Pl_weighFrom, se_Pl_weighFrom⟩ rfl hWw55 plt0 rfl (Nat.le_of_ble_eq_true rfl) (by decide) (fun w58 hWw58 hRw58 => ?_)
          have hfw58 := hRw58
          have hFw58 : ∀ (p : Nat) (j : Int), ¬ (p = (pl + 1) ∨ p = (pl + 2) ∨ p = (pl + 3) ∨ p = (pl + 4) ∨ (p = pl ∧ (j = 2))) → tm_g w58 p j = tm_g w p j := fun p j h => (hfw58 p j (by omega)).trans (hFw55 p j h)
          refine ev_iload_n dt_Pl_findBest_45 rfl rfl ?_
          refine ev_if_eq (tgt := 58) dt_Pl_findBest_46 (by decide) (by omega) (fun h59 => ?_) (fun h59 => ?_)
          · skip
            refine ev_aload_n dt_Pl_findBest_58 rfl rfl ?_
            refine ev_aload_n dt_Pl_findBest_59 rfl rfl ?_
            refine ev_iload_n dt_Pl_findBest_60 rfl rfl ?_
            refine tm_vp dt_Pl_findBest_61 (tm_Pl_allHad hWw58 h_pl h_o (by omega) (a) (by omega) (by omega)) kb_Pl_44 ⟨im_Pl_allHad, se_Pl_allHad⟩ rfl hWw58 plt0 rfl (Nat.le_of_ble_eq_true rfl) (by decide) (fun v60 hv60 => ?_)
            refine ev_istore (l' := [_, _, _, _, _, _, _]) dt_Pl_findBest_64 (Nat.le_of_ble_eq_true rfl) rfl ?_
            refine ev_iload dt_Pl_findBest_66 rfl ?_
            refine ev_if_eq (tgt := 80) dt_Pl_findBest_68 (by decide) (by omega) (fun h61 => ?_) (fun h61 => ?_)
            · skip
              refine ev_aload_n dt_Pl_findBest_80 rfl rfl ?_
              refine ev_iload dt_Pl_findBest_81 rfl ?_
              refine tm_putI (K := 2) dt_Pl_findBest_83 hWw58 plt0 (fp_Pl_47 _) rfl rfl trivial (by omega) (by omega) (fun w62 hWw62 kkw62 hfw62 => ?_)
              have hFw62 : ∀ (p : Nat) (j : Int), ¬ (p = (pl + 1) ∨ p = (pl + 2) ∨ p = (pl + 3) ∨ p = (pl + 4) ∨ (p = pl ∧ (j = 2))) → tm_g w62 p j = tm_g w p j := fun p j h => (hfw62 p j (by omega)).trans (hFw58 p j h)
              refine ev_aload_n dt_Pl_findBest_86 rfl rfl ?_
              refine tm_getR dt_Pl_findBest_87 hWw62 plt0 fl_Pl_11 rfl ?_
              refine ev_iconst dt_Pl_findBest_90 ?_
              refine ev_aload_n dt_Pl_findBest_91 rfl rfl ?_
              refine tm_getR dt_Pl_findBest_92 hWw62 plt0 fl_Pl_15 rfl ?_
              refine ev_iconst dt_Pl_findBest_95 ?_
              refine ev_iconst dt_Pl_findBest_96 ?_
              refine tm_copyi dt_Pl_findBest_97 ck_Pl_50 hWw62 plt1 plt2 (by omega) (by omega) (by omega) (by omega) (Nat.le_of_ble_eq_true rfl) (by decide) (fun w63 hWw63 hfw63 => ?_)
              have hFw63 : ∀ (p : Nat) (j : Int), ¬ (p = (pl + 1) ∨ p = (pl + 2) ∨ p = (pl + 3) ∨ p = (pl + 4) ∨ (p = pl ∧ (j = 2))) → tm_g w63 p j = tm_g w p j := fun p j h => (hfw63 p j (by omega)).trans (hFw62 p j h)
              have z64 := (hfw63 pl 2 (by omega)).trans kkw62
              refine ev_aload_n dt_Pl_findBest_100 rfl rfl ?_
              refine ev_iload_n dt_Pl_findBest_101 rfl rfl ?_
              refine tm_vi dt_Pl_findBest_102 (tm_Pl_nextRow hWw63 h_pl (a) (by omega) (by omega)) kb_Pl_56 ⟨im_Pl_nextRow, se_Pl_nextRow⟩ rfl hWw63 plt0 rfl (Nat.le_of_ble_eq_true rfl) (by decide) (fun w65 v66 hWw65 hRw65 => ?_)
              obtain ⟨hfw65, hpw65⟩ := hRw65
              have hFw65 : ∀ (p : Nat) (j : Int), ¬ (p = (pl + 1) ∨ p = (pl + 2) ∨ p = (pl + 3) ∨ p = (pl + 4) ∨ (p = pl ∧ (j = 2))) → tm_g w65 p j = tm_g w p j := fun p j h => (hfw65 p j (by omega)).trans (hFw63 p j h)
              have z67 := (hfw65 pl 2 (by omega)).trans z64
              refine ev_istore (l' := [_, _, _, _, _, _, _]) dt_Pl_findBest_105 (Nat.le_of_ble_eq_true rfl) rfl ?_
              refine ev_iinc (l' := [_, _, _, _, _, _, _]) dt_Pl_findBest_107 rfl rfl ?_
              refine ev_goto (tgt := 24) dt_Pl_findBest_110 (by decide) ?_
              exact tm_loc (tm_le_s (tm_le_s (tm_le_s (tm_le_s (tm_le_s (tm_le_s (tm_le_n tm_le_0))))))) (ihL52 (v66) ((i54 + 1)) w65 hWw65 hFw65 (by omega) (by omega) (by omega) (by omega) (by omega))
            · skip
              refine ev_iload dt_Pl_findBest_71 rfl ?_
              refine ev_aload_n dt_Pl_findBest_73 rfl rfl ?_
              refine tm_getI (K := 2) dt_Pl_findBest_74 hWw58 plt0 fl_Pl_47 rfl rfl (fun v68 kv68 lv68 uv68 => ?_)
              refine ev_icmp_le (tgt := 100) dt_Pl_findBest_77 (by decide) (by omega) (by omega) (fun h69 => ?_) (fun h69 => ?_)
              · skip
                refine ev_aload_n dt_Pl_findBest_100 rfl rfl ?_
                refine ev_iload_n dt_Pl_findBest_101 rfl rfl ?_
                refine tm_vi dt_Pl_findBest_102 (tm_Pl_nextRow hWw58 h_pl (a) (by omega) (by omega)) kb_Pl_56 ⟨im_Pl_nextRow, se_Pl_nextRow⟩ rfl hWw58 plt0 rfl (Nat.le_of_ble_eq_true rfl) (by decide) (fun w70 v71 hWw70 hRw70 => ?_)
                obtain ⟨hfw70, hpw70⟩ := hRw70
                have hFw70 : ∀ (p : Nat) (j : Int), ¬ (p = (pl + 1) ∨ p = (pl + 2) ∨ p = (pl + 3) ∨ p = (pl + 4) ∨ (p = pl ∧ (j = 2))) → tm_g w70 p j = tm_g w p j := fun p j h => (hfw70 p j (by omega)).trans (hFw58 p j h)
                have z72 := (hfw70 pl 2 (by omega)).trans kv68
                refine ev_istore (l' := [_, _, _, _, _, _, _]) dt_Pl_findBest_105 (Nat.le_of_ble_eq_true rfl) rfl ?_
                refine ev_iinc (l' := [_, _, _, _, _, _, _]) dt_Pl_findBest_107 rfl rfl ?_
                refine ev_goto (tgt := 24) dt_Pl_findBest_110 (by decide) ?_
                exact tm_loc (tm_le_s (tm_le_s (tm_le_s (tm_le_s (tm_le_s (tm_le_s (tm_le_n tm_le_0))))))) (ihL52 (v71) ((i54 + 1)) w70 hWw70 hFw70 (by omega) (by omega) (by omega) (by omega) (by omega))
              · skip
                refine ev_aload_n dt_Pl_findBest_80 rfl rfl ?_
                refine ev_iload dt_Pl_findBest_81 rfl ?_
                refine tm_putI (K := 2) dt_Pl_findBest_83 hWw58 plt0 (fp_Pl_47 _) rfl rfl trivial (by omega) (by omega) (fun w73 hWw73 kkw73 hfw73 => ?_)
                have hFw73 : ∀ (p : Nat) (j : Int), ¬ (p = (pl + 1) ∨ p = (pl + 2) ∨ p = (pl + 3) ∨ p = (pl + 4) ∨ (p = pl ∧ (j = 2))) → tm_g w73 p j = tm_g w p j := fun p j h => (hfw73 p j (by omega)).trans (hFw58 p j h)
                refine ev_aload_n dt_Pl_findBest_86 rfl rfl ?_
                refine tm_getR dt_Pl_findBest_87 hWw73 plt0 fl_Pl_11 rfl ?_
                refine ev_iconst dt_Pl_findBest_90 ?_
                refine ev_aload_n dt_Pl_findBest_91 rfl rfl ?_
                refine tm_getR dt_Pl_findBest_92 hWw73 plt0 fl_Pl_15 rfl ?_
                refine ev_iconst dt_Pl_findBest_95 ?_
                refine ev_iconst dt_Pl_findBest_96 ?_
                refine tm_copyi dt_Pl_findBest_97 ck_Pl_50 hWw73 plt1 plt2 (by omega) (by omega) (by omega) (by omega) (Nat.le_of_ble_eq_true rfl) (by decide) (fun w74 hWw74 hfw74 => ?_)
                have hFw74 : ∀ (p : Nat) (j : Int), ¬ (p = (pl + 1) ∨ p = (pl + 2) ∨ p = (pl + 3) ∨ p = (pl + 4) ∨ (p = pl ∧ (j = 2))) → tm_g w74 p j = tm_g w p j := fun p j h => (hfw74 p j (by omega)).trans (hFw73 p j h)
                have z75 := (hfw74 pl 2 (by omega)).trans kkw73
                refine ev_aload_n dt_Pl_findBest_100 rfl rfl ?_
                refine ev_iload_n dt_Pl_findBest_101 rfl rfl ?_
                refine tm_vi dt_Pl_findBest_102 (tm_Pl_nextRow hWw74 h_pl (a) (by omega) (by omega)) kb_Pl_56 ⟨im_Pl_nextRow, se_Pl_nextRow⟩ rfl hWw74 plt0 rfl (Nat.le_of_ble_eq_true rfl) (by decide) (fun w76 v77 hWw76 hRw76 => ?_)
                obtain ⟨hfw76, hpw76⟩ := hRw76
                have hFw76 : ∀ (p : Nat) (j : Int), ¬ (p = (pl + 1) ∨ p = (pl + 2) ∨ p = (pl + 3) ∨ p = (pl + 4) ∨ (p = pl ∧ (j = 2))) → tm_g w76 p j = tm_g w p j := fun p j h => (hfw76 p j (by omega)).trans (hFw74 p j h)
                have z78 := (hfw76 pl 2 (by omega)).trans z75
                refine ev_istore (l' := [_, _, _, _, _, _, _]) dt_Pl_findBest_105 (Nat.le_of_ble_eq_true rfl) rfl ?_
                refine ev_iinc (l' := [_, _, _, _, _, _, _]) dt_Pl_findBest_107 rfl rfl ?_
                refine ev_goto (tgt := 24) dt_Pl_findBest_110 (by decide) ?_
                exact tm_loc (tm_le_s (tm_le_s (tm_le_s (tm_le_s (tm_le_s (tm_le_s (tm_le_n tm_le_0))))))) (ihL52 (v77) ((i54 + 1)) w76 hWw76 hFw76 (by omega) (by omega) (by omega) (by omega) (by omega))
          · skip
            refine ev_aload_n dt_Pl_findBest_49 rfl rfl ?_
            refine ev_aload_n dt_Pl_findBest_50 rfl rfl ?_
            refine ev_iload_n dt_Pl_findBest_51 rfl rfl ?_
            refine tm_vp dt_Pl_findBest_52 (tm_Pl_leastHad hWw58 h_pl h_o (by omega) (a) (by omega) (by omega)) kb_Pl_40 ⟨im_Pl_leastHad, se_Pl_leastHad⟩ rfl hWw58 plt0 rfl (Nat.le_of_ble_eq_true rfl) (by decide) (fun v79 hv79 => ?_)
            refine ev_goto (tgt := 64) dt_Pl_findBest_55 (by decide) ?_
            refine ev_istore (l' := [_, _, _, _, _, _, _]) dt_Pl_findBest_64 (Nat.le_of_ble_eq_true rfl) rfl ?_
            refine ev_iload dt_Pl_findBest_66 rfl ?_
            refine ev_if_eq (tgt := 80) dt_Pl_findBest_68 (by decide) (by omega) (fun h80 => ?_) (fun h80 => ?_)
            · skip
              refine ev_aload_n dt_Pl_findBest_80 rfl rfl ?_
              refine ev_iload dt_Pl_findBest_81 rfl ?_
              refine tm_putI (K := 2) dt_Pl_findBest_83 hWw58 plt0 (fp_Pl_47 _) rfl rfl trivial (by omega) (by omega) (fun w81 hWw81 kkw81 hfw81 => ?_)
              have hFw81 : ∀ (p : Nat) (j : Int), ¬ (p = (pl + 1) ∨ p = (pl + 2) ∨ p = (pl + 3) ∨ p = (pl + 4) ∨ (p = pl ∧ (j = 2))) → tm_g w81 p j = tm_g w p j := fun p j h => (hfw81 p j (by omega)).trans (hFw58 p j h)
              refine ev_aload_n dt_Pl_findBest_86 rfl rfl ?_
              refine tm_getR dt_Pl_findBest_87 hWw81 plt0 fl_Pl_11 rfl ?_
              refine ev_iconst dt_Pl_findBest_90 ?_
              refine ev_aload_n dt_Pl_findBest_91 rfl rfl ?_
              refine tm_getR dt_Pl_findBest_92 hWw81 plt0 fl_Pl_15 rfl ?_
              refine ev_iconst dt_Pl_findBest_95 ?_
              refine ev_iconst dt_Pl_findBest_96 ?_
              refine tm_copyi dt_Pl_findBest_97 ck_Pl_50 hWw81 plt1 plt2 (by omega) (by omega) (by omega) (by omega) (Nat.le_of_ble_eq_true rfl) (by decide) (fun w82 hWw82 hfw82 => ?_)
              have hFw82 : ∀ (p : Nat) (j : Int), ¬ (p = (pl + 1) ∨ p = (pl + 2) ∨ p = (pl + 3) ∨ p = (pl + 4) ∨ (p = pl ∧ (j = 2))) → tm_g w82 p j = tm_g w p j := fun p j h => (hfw82 p j (by omega)).trans (hFw81 p j h)
              have z83 := (hfw82 pl 2 (by omega)).trans kkw81
              refine ev_aload_n dt_Pl_findBest_100 rfl rfl ?_
              refine ev_iload_n dt_Pl_findBest_101 rfl rfl ?_
              refine tm_vi dt_Pl_findBest_102 (tm_Pl_nextRow hWw82 h_pl (a) (by omega) (by omega)) kb_Pl_56 ⟨im_Pl_nextRow, se_Pl_nextRow⟩ rfl hWw82 plt0 rfl (Nat.le_of_ble_eq_true rfl) (by decide) (fun w84 v85 hWw84 hRw84 => ?_)
              obtain ⟨hfw84, hpw84⟩ := hRw84
              have hFw84 : ∀ (p : Nat) (j : Int), ¬ (p = (pl + 1) ∨ p = (pl + 2) ∨ p = (pl + 3) ∨ p = (pl + 4) ∨ (p = pl ∧ (j = 2))) → tm_g w84 p j = tm_g w p j := fun p j h => (hfw84 p j (by omega)).trans (hFw82 p j h)
              have z86 := (hfw84 pl 2 (by omega)).trans z83
              refine ev_istore (l' := [_, _, _, _, _, _, _]) dt_Pl_findBest_105 (Nat.le_of_ble_eq_true rfl) rfl ?_
              refine ev_iinc (l' := [_, _, _, _, _, _, _]) dt_Pl_findBest_107 rfl rfl ?_
              refine ev_goto (tgt := 24) dt_Pl_findBest_110 (by decide) ?_
              exact tm_loc (tm_le_s (tm_le_s (tm_le_s (tm_le_s (tm_le_s (tm_le_s (tm_le_n tm_le_0))))))) (ihL52 (v85) ((i54 + 1)) w84 hWw84 hFw84 (by omega) (by omega) (by omega) (by omega) (by omega))
            · skip
              refine ev_iload dt_Pl_findBest_71 rfl ?_
              refine ev_aload_n dt_Pl_findBest_73 rfl rfl ?_
              refine tm_getI (K := 2) dt_Pl_findBest_74 hWw58 plt0 fl_Pl_47 rfl rfl (fun v87 kv87 lv87 uv87 => ?_)
              refine ev_icmp_le (tgt := 100) dt_Pl_findBest_77 (by decide) (by omega) (by omega) (fun h88 => ?_) (fun h88 => ?_)
              · skip
                refine ev_aload_n dt_Pl_findBest_100 rfl rfl ?_
                refine ev_iload_n dt_Pl_findBest_101 rfl rfl ?_
                refine tm_vi dt_Pl_findBest_102 (tm_Pl_nextRow hWw58 h_pl (a) (by omega) (by omega)) kb_Pl_56 ⟨im_Pl_nextRow, se_Pl_nextRow⟩ rfl hWw58 plt0 rfl (Nat.le_of_ble_eq_true rfl) (by decide) (fun w89 v90 hWw89 hRw89 => ?_)
                obtain ⟨hfw89, hpw89⟩ := hRw89
                have hFw89 : ∀ (p : Nat) (j : Int), ¬ (p = (pl + 1) ∨ p = (pl + 2) ∨ p = (pl + 3) ∨ p = (pl + 4) ∨ (p = pl ∧ (j = 2))) → tm_g w89 p j = tm_g w p j := fun p j h => (hfw89 p j (by omega)).trans (hFw58 p j h)
                have z91 := (hfw89 pl 2 (by omega)).trans kv87
                refine ev_istore (l' := [_, _, _, _, _, _, _]) dt_Pl_findBest_105 (Nat.le_of_ble_eq_true rfl) rfl ?_
                refine ev_iinc (l' := [_, _, _, _, _, _, _]) dt_Pl_findBest_107 rfl rfl ?_
                refine ev_goto (tgt := 24) dt_Pl_findBest_110 (by decide) ?_
                exact tm_loc (tm_le_s (tm_le_s (tm_le_s (tm_le_s (tm_le_s (tm_le_s (tm_le_n tm_le_0))))))) (ihL52 (v90) ((i54 + 1)) w89 hWw89 hFw89 (by omega) (by omega) (by omega) (by omega) (by omega))
              · skip
                refine ev_aload_n dt_Pl_findBest_80 rfl rfl ?_
                refine ev_iload dt_Pl_findBest_81 rfl ?_
                refine tm_putI (K := 2) dt_Pl_findBest_83 hWw58 plt0 (fp_Pl_47 _) rfl rfl trivial (by omega) (by omega) (fun w92 hWw92 kkw92 hfw92 => ?_)
                have hFw92 : ∀ (p : Nat) (j : Int), ¬ (p = (pl + 1) ∨ p = (pl + 2) ∨ p = (pl + 3) ∨ p = (pl + 4) ∨ (p = pl ∧ (j = 2))) → tm_g w92 p j = tm_g w p j := fun p j h => (hfw92 p j (by omega)).trans (hFw58 p j h)
                refine ev_aload_n dt_Pl_findBest_86 rfl rfl ?_
                refine tm_getR dt_Pl_findBest_87 hWw92 plt0 fl_Pl_11 rfl ?_
                refine ev_iconst dt_Pl_findBest_90 ?_
                refine ev_aload_n dt_Pl_findBest_91 rfl rfl ?_
                refine tm_getR dt_Pl_findBest_92 hWw92 plt0 fl_Pl_15 rfl ?_
                refine ev_iconst dt_Pl_findBest_95 ?_
                refine ev_iconst dt_Pl_findBest_96 ?_
                refine tm_copyi dt_Pl_findBest_97 ck_Pl_50 hWw92 plt1 plt2 (by omega) (by omega) (by omega) (by omega) (Nat.le_of_ble_eq_true rfl) (by decide) (fun w93 hWw93 hfw93 => ?_)
                have hFw93 : ∀ (p : Nat) (j : Int), ¬ (p = (pl + 1) ∨ p = (pl + 2) ∨ p = (pl + 3) ∨ p = (pl + 4) ∨ (p = pl ∧ (j = 2))) → tm_g w93 p j = tm_g w p j := fun p j h => (hfw93 p j (by omega)).trans (hFw92 p j h)
                have z94 := (hfw93 pl 2 (by omega)).trans kkw92
                refine ev_aload_n dt_Pl_findBest_100 rfl rfl ?_
                refine ev_iload_n dt_Pl_findBest_101 rfl rfl ?_
                refine tm_vi dt_Pl_findBest_102 (tm_Pl_nextRow hWw93 h_pl (a) (by omega) (by omega)) kb_Pl_56 ⟨im_Pl_nextRow, se_Pl_nextRow⟩ rfl hWw93 plt0 rfl (Nat.le_of_ble_eq_true rfl) (by decide) (fun w95 v96 hWw95 hRw95 => ?_)
                obtain ⟨hfw95, hpw95⟩ := hRw95
                have hFw95 : ∀ (p : Nat) (j : Int), ¬ (p = (pl + 1) ∨ p = (pl + 2) ∨ p = (pl + 3) ∨ p = (pl + 4) ∨ (p = pl ∧ (j = 2))) → tm_g w95 p j = tm_g w p j := fun p j h => (hfw95 p j (by omega)).trans (hFw93 p j h)
                have z97 := (hfw95 pl 2 (by omega)).trans z94
                refine ev_istore (l' := [_, _, _, _, _, _, _]) dt_Pl_findBest_105 (Nat.le_of_ble_eq_true rfl) rfl ?_
                refine ev_iinc (l' := [_, _, _, _, _, _, _]) dt_Pl_findBest_107 rfl rfl ?_
                refine ev_goto (tgt := 24) dt_Pl_findBest_110 (by decide) ?_
                exact tm_loc (tm_le_s (tm_le_s (tm_le_s (tm_le_s (tm_le_s (tm_le_s (tm_le_n tm_le_0))))))) (ihL52 (v96) ((i54 + 1)) w95 hWw95 hFw95 (by omega) (by omega) (by omega) (by omega) (by omega))
  exact tm_loc (tm_le_s (tm_le_s (tm_le_s (tm_le_s (tm_le_s (tm_le_s (tm_le_n tm_le_0))))))) (L52 (243 - (0) + 1 : Int).toNat (0) (0)  w51 hWw51 hFw51 (by omega) (by omega) (by omega) (by omega) (by omega))
