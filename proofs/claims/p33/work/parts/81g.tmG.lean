theorem dt_Ma_push_0 : decode prog_5_method_4_code 0 = .ok (.aload_n 0, 1) := by decide +kernel
theorem dt_Ma_push_1 : decode prog_5_method_4_code 1 = .ok (.getfield 15, 3) := by decide +kernel
theorem dt_Ma_push_4 : decode prog_5_method_4_code 4 = .ok (.bipush 32, 2) := by decide +kernel
theorem dt_Ma_push_6 : decode prog_5_method_4_code 6 = .ok (.if_icmp .ge 23, 3) := by decide +kernel
theorem dt_Ma_push_9 : decode prog_5_method_4_code 9 = .ok (.aload_n 0, 1) := by decide +kernel
theorem dt_Ma_push_10 : decode prog_5_method_4_code 10 = .ok (.getfield 11, 3) := by decide +kernel
theorem dt_Ma_push_13 : decode prog_5_method_4_code 13 = .ok (.aload_n 0, 1) := by decide +kernel
theorem dt_Ma_push_14 : decode prog_5_method_4_code 14 = .ok (.getfield 15, 3) := by decide +kernel
theorem dt_Ma_push_17 : decode prog_5_method_4_code 17 = .ok (.lload_n 1, 1) := by decide +kernel
theorem dt_Ma_push_18 : decode prog_5_method_4_code 18 = .ok (.lastore, 1) := by decide +kernel
theorem dt_Ma_push_19 : decode prog_5_method_4_code 19 = .ok (.aload_n 0, 1) := by decide +kernel
theorem dt_Ma_push_20 : decode prog_5_method_4_code 20 = .ok (.dup, 1) := by decide +kernel
theorem dt_Ma_push_21 : decode prog_5_method_4_code 21 = .ok (.getfield 15, 3) := by decide +kernel
theorem dt_Ma_push_24 : decode prog_5_method_4_code 24 = .ok (.iconst 1, 1) := by decide +kernel
theorem dt_Ma_push_25 : decode prog_5_method_4_code 25 = .ok (.iadd, 1) := by decide +kernel
theorem dt_Ma_push_26 : decode prog_5_method_4_code 26 = .ok (.putfield 15, 3) := by decide +kernel
theorem dt_Ma_push_29 : decode prog_5_method_4_code 29 = .ok (.return_, 1) := by decide +kernel
set_option maxHeartbeats 4000000 in
set_option maxRecDepth 10000 in
theorem tm_Ma_push {N : Nat} {T : Nat → tm_S} {w : ab_W} {ma : Nat} (hW : tm_W N T w) (h_ma : is_Ma T ma) (a : Int64) : ab_Mt g_G g_rs mt_Ma_push 0 0 0 [ab_R ma, ab_J a] w (tm_Qv N T (fun w2 => (∀ (p : Nat) (j : Int), ¬ (p = (ma + 1) ∨ (p = ma ∧ (j = 1))) → tm_g w2 p j = tm_g w p j))) := by
  obtain ⟨mat0, mat1⟩ := id h_ma
  have hF0 : ∀ (p : Nat) (j : Int), ¬ (p = (ma + 1) ∨ (p = ma ∧ (j = 1))) → tm_g w p j = tm_g w p j := fun _ _ _ => rfl
  refine ab_Mt.of rfl (Nat.le_of_ble_eq_true rfl) ?_
  show ab_Ev g_G g_rs mt_Ma_push _ _ _ 0 [some (ab_R ma), some (ab_J a), none] [] _ _
  refine ev_aload_n dt_Ma_push_0 rfl rfl ?_
  refine tm_getI (K := 1) dt_Ma_push_1 hW mat0 fl_Ma_15 rfl rfl (fun v1 kv1 lv1 uv1 => ?_)
  refine ev_bipush dt_Ma_push_4 rfl ?_
  refine ev_icmp_ge (tgt := 29) dt_Ma_push_6 (by decide) (by omega) (by omega) (fun h2 => ?_) (fun h2 => ?_)
  · skip
    exact ev_return dt_Ma_push_29 rfl ⟨hW, rfl, hF0⟩
  · skip
    refine ev_aload_n dt_Ma_push_9 rfl rfl ?_
    refine tm_getR dt_Ma_push_10 hW mat0 fl_Ma_11 rfl ?_
    refine ev_aload_n dt_Ma_push_13 rfl rfl ?_
    refine tm_getK (K := 1) dt_Ma_push_14 hW mat0 fl_Ma_15 rfl kv1 ?_
    refine ev_lload_n dt_Ma_push_17 rfl rfl ?_
    refine tm_lastore dt_Ma_push_18 hW mat1 (by omega) (by omega) (by omega) (fun w3 hWw3 hfw3 => ?_)
    have hFw3 : ∀ (p : Nat) (j : Int), ¬ (p = (ma + 1) ∨ (p = ma ∧ (j = 1))) → tm_g w3 p j = tm_g w p j := fun p j h => (hfw3 p j (by omega)).trans (hF0 p j h)
    have z4 := (hfw3 ma 1 (by omega)).trans kv1
    refine ev_aload_n dt_Ma_push_19 rfl rfl ?_
    refine ev_dup dt_Ma_push_20 rfl ?_
    refine tm_getK (K := 1) dt_Ma_push_21 hWw3 mat0 fl_Ma_15 rfl z4 ?_
    refine ev_iconst dt_Ma_push_24 ?_
    refine ev_iadd dt_Ma_push_25 ?_
    refine tm_putI (K := 1) dt_Ma_push_26 hWw3 mat0 (fp_Ma_15 _) rfl rfl trivial (by omega) (by omega) (fun w5 hWw5 kkw5 hfw5 => ?_)
    have hFw5 : ∀ (p : Nat) (j : Int), ¬ (p = (ma + 1) ∨ (p = ma ∧ (j = 1))) → tm_g w5 p j = tm_g w p j := fun p j h => (hfw5 p j (by omega)).trans (hFw3 p j h)
    exact ev_return dt_Ma_push_29 rfl ⟨hWw5, rfl, hFw5⟩
theorem dt_Ma_pop_0 : decode prog_5_method_5_code 0 = .ok (.aload_n 0, 1) := by decide +kernel
theorem dt_Ma_pop_1 : decode prog_5_method_5_code 1 = .ok (.getfield 15, 3) := by decide +kernel
theorem dt_Ma_pop_4 : decode prog_5_method_5_code 4 = .ok (.ifCond .ne 5, 3) := by decide +kernel
theorem dt_Ma_pop_7 : decode prog_5_method_5_code 7 = .ok (.lconst 0, 1) := by decide +kernel
theorem dt_Ma_pop_8 : decode prog_5_method_5_code 8 = .ok (.lreturn, 1) := by decide +kernel
theorem dt_Ma_pop_9 : decode prog_5_method_5_code 9 = .ok (.aload_n 0, 1) := by decide +kernel
theorem dt_Ma_pop_10 : decode prog_5_method_5_code 10 = .ok (.dup, 1) := by decide +kernel
theorem dt_Ma_pop_11 : decode prog_5_method_5_code 11 = .ok (.getfield 15, 3) := by decide +kernel
theorem dt_Ma_pop_14 : decode prog_5_method_5_code 14 = .ok (.iconst 1, 1) := by decide +kernel
theorem dt_Ma_pop_15 : decode prog_5_method_5_code 15 = .ok (.isub, 1) := by decide +kernel
theorem dt_Ma_pop_16 : decode prog_5_method_5_code 16 = .ok (.putfield 15, 3) := by decide +kernel
theorem dt_Ma_pop_19 : decode prog_5_method_5_code 19 = .ok (.aload_n 0, 1) := by decide +kernel
theorem dt_Ma_pop_20 : decode prog_5_method_5_code 20 = .ok (.getfield 11, 3) := by decide +kernel
theorem dt_Ma_pop_23 : decode prog_5_method_5_code 23 = .ok (.aload_n 0, 1) := by decide +kernel
theorem dt_Ma_pop_24 : decode prog_5_method_5_code 24 = .ok (.getfield 15, 3) := by decide +kernel
theorem dt_Ma_pop_27 : decode prog_5_method_5_code 27 = .ok (.laload, 1) := by decide +kernel
theorem dt_Ma_pop_28 : decode prog_5_method_5_code 28 = .ok (.lreturn, 1) := by decide +kernel
set_option maxHeartbeats 4000000 in
set_option maxRecDepth 10000 in
theorem tm_Ma_pop {N : Nat} {T : Nat → tm_S} {w : ab_W} {ma : Nat} (hW : tm_W N T w) (h_ma : is_Ma T ma) : ab_Mt g_G g_rs mt_Ma_pop 0 0 0 [ab_R ma] w (tm_Qj N T (fun _ w2 => (∀ (p : Nat) (j : Int), ¬ (p = (ma + 1) ∨ (p = ma ∧ (j = 1))) → tm_g w2 p j = tm_g w p j))) := by
  obtain ⟨mat0, mat1⟩ := id h_ma
  have hF0 : ∀ (p : Nat) (j : Int), ¬ (p = (ma + 1) ∨ (p = ma ∧ (j = 1))) → tm_g w p j = tm_g w p j := fun _ _ _ => rfl
  refine ab_Mt.of rfl (Nat.le_of_ble_eq_true rfl) ?_
  show ab_Ev g_G g_rs mt_Ma_pop _ _ _ 0 [some (ab_R ma)] [] _ _
  refine ev_aload_n dt_Ma_pop_0 rfl rfl ?_
  refine tm_getI (K := 1) dt_Ma_pop_1 hW mat0 fl_Ma_15 rfl rfl (fun v6 kv6 lv6 uv6 => ?_)
  refine ev_if_ne (tgt := 9) dt_Ma_pop_4 (by decide) (by omega) (fun h7 => ?_) (fun h7 => ?_)
  · skip
    refine ev_aload_n dt_Ma_pop_9 rfl rfl ?_
    refine ev_dup dt_Ma_pop_10 rfl ?_
    refine tm_getK (K := 1) dt_Ma_pop_11 hW mat0 fl_Ma_15 rfl kv6 ?_
    refine ev_iconst dt_Ma_pop_14 ?_
    refine ev_isub dt_Ma_pop_15 ?_
    refine tm_putI (K := 1) dt_Ma_pop_16 hW mat0 (fp_Ma_15 _) rfl rfl trivial (by omega) (by omega) (fun w8 hWw8 kkw8 hfw8 => ?_)
    have hFw8 : ∀ (p : Nat) (j : Int), ¬ (p = (ma + 1) ∨ (p = ma ∧ (j = 1))) → tm_g w8 p j = tm_g w p j := fun p j h => (hfw8 p j (by omega)).trans (hF0 p j h)
    refine ev_aload_n dt_Ma_pop_19 rfl rfl ?_
    refine tm_getR dt_Ma_pop_20 hWw8 mat0 fl_Ma_11 rfl ?_
    refine ev_aload_n dt_Ma_pop_23 rfl rfl ?_
    refine tm_getK (K := 1) dt_Ma_pop_24 hWw8 mat0 fl_Ma_15 rfl kkw8 ?_
    refine tm_laload dt_Ma_pop_27 hWw8 mat1 (by omega) (by omega) (by omega) (fun j9 => ?_)
    exact ev_lreturn dt_Ma_pop_28 rfl ⟨hWw8, _, rfl, hFw8⟩
  · skip
    refine ev_lconsti (n := 0) dt_Ma_pop_7 (by decide) ?_
    exact ev_lreturn dt_Ma_pop_8 rfl ⟨hW, _, rfl, hF0⟩
theorem dt_Ma_truth_0 : decode prog_5_method_6_code 0 = .ok (.iload_n 0, 1) := by decide +kernel
theorem dt_Ma_truth_1 : decode prog_5_method_6_code 1 = .ok (.ifCond .eq 7, 3) := by decide +kernel
theorem dt_Ma_truth_4 : decode prog_5_method_6_code 4 = .ok (.lconst 1, 1) := by decide +kernel
theorem dt_Ma_truth_5 : decode prog_5_method_6_code 5 = .ok (.goto 4, 3) := by decide +kernel
theorem dt_Ma_truth_8 : decode prog_5_method_6_code 8 = .ok (.lconst 0, 1) := by decide +kernel
theorem dt_Ma_truth_9 : decode prog_5_method_6_code 9 = .ok (.lreturn, 1) := by decide +kernel
set_option maxHeartbeats 4000000 in
set_option maxRecDepth 10000 in
theorem tm_Ma_truth {N : Nat} {T : Nat → tm_S} {w : ab_W} (hW : tm_W N T w) (a : Int) (l_a : 0 ≤ a) (u_a : a ≤ 1) : ab_Mt g_G g_rs mt_Ma_truth 0 0 0 [ab_I a] w (tm_PJ w (fun _ => True)) := by
  refine ab_Mt.of rfl (Nat.le_of_ble_eq_true rfl) ?_
  show ab_Ev g_G g_rs mt_Ma_truth _ _ _ 0 [some (ab_I a)] [] _ _
  refine ev_iload_n dt_Ma_truth_0 rfl rfl ?_
  refine ev_if_eq (tgt := 8) dt_Ma_truth_1 (by decide) (by omega) (fun h10 => ?_) (fun h10 => ?_)
  · skip
    refine ev_lconsti (n := 0) dt_Ma_truth_8 (by decide) ?_
    exact ev_lreturn dt_Ma_truth_9 rfl ⟨rfl, _, rfl, trivial⟩
  · skip
    refine ev_lconsti (n := 1) dt_Ma_truth_4 (by decide) ?_
    refine ev_goto (tgt := 9) dt_Ma_truth_5 (by decide) ?_
    exact ev_lreturn dt_Ma_truth_9 rfl ⟨rfl, _, rfl, trivial⟩
theorem dt_Ma_joined_0 : decode prog_5_method_7_code 0 = .ok (.iload_n 0, 1) := by decide +kernel
theorem dt_Ma_joined_1 : decode prog_5_method_7_code 1 = .ok (.tableswitch 178 (-31) (-21) #[174, 159, 144, 129, 114, 99, 85, 71, 67, 63, 59], 59) := by decide +kernel
theorem dt_Ma_joined_60 : decode prog_5_method_7_code 60 = .ok (.lload_n 1, 1) := by decide +kernel
theorem dt_Ma_joined_61 : decode prog_5_method_7_code 61 = .ok (.lload_n 3, 1) := by decide +kernel
theorem dt_Ma_joined_62 : decode prog_5_method_7_code 62 = .ok (.ladd, 1) := by decide +kernel
theorem dt_Ma_joined_63 : decode prog_5_method_7_code 63 = .ok (.lreturn, 1) := by decide +kernel
theorem dt_Ma_joined_64 : decode prog_5_method_7_code 64 = .ok (.lload_n 1, 1) := by decide +kernel
theorem dt_Ma_joined_65 : decode prog_5_method_7_code 65 = .ok (.lload_n 3, 1) := by decide +kernel
theorem dt_Ma_joined_66 : decode prog_5_method_7_code 66 = .ok (.lsub, 1) := by decide +kernel
theorem dt_Ma_joined_67 : decode prog_5_method_7_code 67 = .ok (.lreturn, 1) := by decide +kernel
theorem dt_Ma_joined_68 : decode prog_5_method_7_code 68 = .ok (.lload_n 1, 1) := by decide +kernel
theorem dt_Ma_joined_69 : decode prog_5_method_7_code 69 = .ok (.lload_n 3, 1) := by decide +kernel
theorem dt_Ma_joined_70 : decode prog_5_method_7_code 70 = .ok (.lmul, 1) := by decide +kernel
theorem dt_Ma_joined_71 : decode prog_5_method_7_code 71 = .ok (.lreturn, 1) := by decide +kernel
theorem dt_Ma_joined_72 : decode prog_5_method_7_code 72 = .ok (.lload_n 3, 1) := by decide +kernel
theorem dt_Ma_joined_73 : decode prog_5_method_7_code 73 = .ok (.lconst 0, 1) := by decide +kernel
theorem dt_Ma_joined_74 : decode prog_5_method_7_code 74 = .ok (.lcmp, 1) := by decide +kernel
theorem dt_Ma_joined_75 : decode prog_5_method_7_code 75 = .ok (.ifCond .ne 7, 3) := by decide +kernel
theorem dt_Ma_joined_78 : decode prog_5_method_7_code 78 = .ok (.lconst 0, 1) := by decide +kernel
theorem dt_Ma_joined_79 : decode prog_5_method_7_code 79 = .ok (.goto 6, 3) := by decide +kernel
theorem dt_Ma_joined_82 : decode prog_5_method_7_code 82 = .ok (.lload_n 1, 1) := by decide +kernel
theorem dt_Ma_joined_83 : decode prog_5_method_7_code 83 = .ok (.lload_n 3, 1) := by decide +kernel
theorem dt_Ma_joined_84 : decode prog_5_method_7_code 84 = .ok (.ldiv, 1) := by decide +kernel
theorem dt_Ma_joined_85 : decode prog_5_method_7_code 85 = .ok (.lreturn, 1) := by decide +kernel
theorem dt_Ma_joined_86 : decode prog_5_method_7_code 86 = .ok (.lload_n 3, 1) := by decide +kernel
theorem dt_Ma_joined_87 : decode prog_5_method_7_code 87 = .ok (.lconst 0, 1) := by decide +kernel
theorem dt_Ma_joined_88 : decode prog_5_method_7_code 88 = .ok (.lcmp, 1) := by decide +kernel
theorem dt_Ma_joined_89 : decode prog_5_method_7_code 89 = .ok (.ifCond .ne 7, 3) := by decide +kernel
theorem dt_Ma_joined_92 : decode prog_5_method_7_code 92 = .ok (.lconst 0, 1) := by decide +kernel
theorem dt_Ma_joined_93 : decode prog_5_method_7_code 93 = .ok (.goto 6, 3) := by decide +kernel
theorem dt_Ma_joined_96 : decode prog_5_method_7_code 96 = .ok (.lload_n 1, 1) := by decide +kernel
theorem dt_Ma_joined_97 : decode prog_5_method_7_code 97 = .ok (.lload_n 3, 1) := by decide +kernel
theorem dt_Ma_joined_98 : decode prog_5_method_7_code 98 = .ok (.lrem, 1) := by decide +kernel
theorem dt_Ma_joined_99 : decode prog_5_method_7_code 99 = .ok (.lreturn, 1) := by decide +kernel
theorem dt_Ma_joined_100 : decode prog_5_method_7_code 100 = .ok (.lload_n 1, 1) := by decide +kernel
theorem dt_Ma_joined_101 : decode prog_5_method_7_code 101 = .ok (.lload_n 3, 1) := by decide +kernel
theorem dt_Ma_joined_102 : decode prog_5_method_7_code 102 = .ok (.lcmp, 1) := by decide +kernel
theorem dt_Ma_joined_103 : decode prog_5_method_7_code 103 = .ok (.ifCond .ge 7, 3) := by decide +kernel
theorem dt_Ma_joined_106 : decode prog_5_method_7_code 106 = .ok (.iconst 1, 1) := by decide +kernel
theorem dt_Ma_joined_107 : decode prog_5_method_7_code 107 = .ok (.goto 4, 3) := by decide +kernel
theorem dt_Ma_joined_110 : decode prog_5_method_7_code 110 = .ok (.iconst 0, 1) := by decide +kernel
theorem dt_Ma_joined_111 : decode prog_5_method_7_code 111 = .ok (.invokestatic 37, 3) := by decide +kernel
theorem dt_Ma_joined_114 : decode prog_5_method_7_code 114 = .ok (.lreturn, 1) := by decide +kernel
theorem dt_Ma_joined_115 : decode prog_5_method_7_code 115 = .ok (.lload_n 1, 1) := by decide +kernel
theorem dt_Ma_joined_116 : decode prog_5_method_7_code 116 = .ok (.lload_n 3, 1) := by decide +kernel
theorem dt_Ma_joined_117 : decode prog_5_method_7_code 117 = .ok (.lcmp, 1) := by decide +kernel
theorem dt_Ma_joined_118 : decode prog_5_method_7_code 118 = .ok (.ifCond .gt 7, 3) := by decide +kernel
theorem dt_Ma_joined_121 : decode prog_5_method_7_code 121 = .ok (.iconst 1, 1) := by decide +kernel
theorem dt_Ma_joined_122 : decode prog_5_method_7_code 122 = .ok (.goto 4, 3) := by decide +kernel
theorem dt_Ma_joined_125 : decode prog_5_method_7_code 125 = .ok (.iconst 0, 1) := by decide +kernel
theorem dt_Ma_joined_126 : decode prog_5_method_7_code 126 = .ok (.invokestatic 37, 3) := by decide +kernel
theorem dt_Ma_joined_129 : decode prog_5_method_7_code 129 = .ok (.lreturn, 1) := by decide +kernel
theorem dt_Ma_joined_130 : decode prog_5_method_7_code 130 = .ok (.lload_n 1, 1) := by decide +kernel
theorem dt_Ma_joined_131 : decode prog_5_method_7_code 131 = .ok (.lload_n 3, 1) := by decide +kernel
theorem dt_Ma_joined_132 : decode prog_5_method_7_code 132 = .ok (.lcmp, 1) := by decide +kernel
theorem dt_Ma_joined_133 : decode prog_5_method_7_code 133 = .ok (.ifCond .ne 7, 3) := by decide +kernel
theorem dt_Ma_joined_136 : decode prog_5_method_7_code 136 = .ok (.iconst 1, 1) := by decide +kernel
theorem dt_Ma_joined_137 : decode prog_5_method_7_code 137 = .ok (.goto 4, 3) := by decide +kernel
theorem dt_Ma_joined_140 : decode prog_5_method_7_code 140 = .ok (.iconst 0, 1) := by decide +kernel
theorem dt_Ma_joined_141 : decode prog_5_method_7_code 141 = .ok (.invokestatic 37, 3) := by decide +kernel
theorem dt_Ma_joined_144 : decode prog_5_method_7_code 144 = .ok (.lreturn, 1) := by decide +kernel
theorem dt_Ma_joined_145 : decode prog_5_method_7_code 145 = .ok (.lload_n 1, 1) := by decide +kernel
theorem dt_Ma_joined_146 : decode prog_5_method_7_code 146 = .ok (.lload_n 3, 1) := by decide +kernel
theorem dt_Ma_joined_147 : decode prog_5_method_7_code 147 = .ok (.lcmp, 1) := by decide +kernel
theorem dt_Ma_joined_148 : decode prog_5_method_7_code 148 = .ok (.ifCond .lt 7, 3) := by decide +kernel
theorem dt_Ma_joined_151 : decode prog_5_method_7_code 151 = .ok (.iconst 1, 1) := by decide +kernel
theorem dt_Ma_joined_152 : decode prog_5_method_7_code 152 = .ok (.goto 4, 3) := by decide +kernel
theorem dt_Ma_joined_155 : decode prog_5_method_7_code 155 = .ok (.iconst 0, 1) := by decide +kernel
theorem dt_Ma_joined_156 : decode prog_5_method_7_code 156 = .ok (.invokestatic 37, 3) := by decide +kernel
theorem dt_Ma_joined_159 : decode prog_5_method_7_code 159 = .ok (.lreturn, 1) := by decide +kernel
theorem dt_Ma_joined_160 : decode prog_5_method_7_code 160 = .ok (.lload_n 1, 1) := by decide +kernel
theorem dt_Ma_joined_161 : decode prog_5_method_7_code 161 = .ok (.lload_n 3, 1) := by decide +kernel
theorem dt_Ma_joined_162 : decode prog_5_method_7_code 162 = .ok (.lcmp, 1) := by decide +kernel
theorem dt_Ma_joined_163 : decode prog_5_method_7_code 163 = .ok (.ifCond .le 7, 3) := by decide +kernel
theorem dt_Ma_joined_166 : decode prog_5_method_7_code 166 = .ok (.iconst 1, 1) := by decide +kernel
theorem dt_Ma_joined_167 : decode prog_5_method_7_code 167 = .ok (.goto 4, 3) := by decide +kernel
theorem dt_Ma_joined_170 : decode prog_5_method_7_code 170 = .ok (.iconst 0, 1) := by decide +kernel
theorem dt_Ma_joined_171 : decode prog_5_method_7_code 171 = .ok (.invokestatic 37, 3) := by decide +kernel
theorem dt_Ma_joined_174 : decode prog_5_method_7_code 174 = .ok (.lreturn, 1) := by decide +kernel
theorem dt_Ma_joined_175 : decode prog_5_method_7_code 175 = .ok (.lload_n 1, 1) := by decide +kernel
theorem dt_Ma_joined_176 : decode prog_5_method_7_code 176 = .ok (.lload_n 3, 1) := by decide +kernel
theorem dt_Ma_joined_177 : decode prog_5_method_7_code 177 = .ok (.land, 1) := by decide +kernel
theorem dt_Ma_joined_178 : decode prog_5_method_7_code 178 = .ok (.lreturn, 1) := by decide +kernel
theorem dt_Ma_joined_179 : decode prog_5_method_7_code 179 = .ok (.lload_n 1, 1) := by decide +kernel
theorem dt_Ma_joined_180 : decode prog_5_method_7_code 180 = .ok (.lload_n 3, 1) := by decide +kernel
theorem dt_Ma_joined_181 : decode prog_5_method_7_code 181 = .ok (.lor, 1) := by decide +kernel
theorem dt_Ma_joined_182 : decode prog_5_method_7_code 182 = .ok (.lreturn, 1) := by decide +kernel
set_option maxHeartbeats 4000000 in
set_option maxRecDepth 10000 in
theorem tm_Ma_joined {N : Nat} {T : Nat → tm_S} {w : ab_W} (hW : tm_W N T w) (a : Int) (l_a : (-2147483648) ≤ a) (u_a : a ≤ 2147483647) (b : Int64) (c : Int64) : ab_Mt g_G g_rs mt_Ma_joined 1 0 0 [ab_I a, ab_J b, ab_J c] w (tm_PJ w (fun _ => True)) := by
  refine ab_Mt.of rfl (Nat.le_of_ble_eq_true rfl) ?_
  show ab_Ev g_G g_rs mt_Ma_joined _ _ _ 0 [some (ab_I a), some (ab_J b), none, some (ab_J c), none] [] _ _
  refine ev_iload_n dt_Ma_joined_0 rfl rfl ?_
  rcases (by omega : a = (-31) ∨ a = (-30) ∨ a = (-29) ∨ a = (-28) ∨ a = (-27) ∨ a = (-26) ∨ a = (-25) ∨ a = (-24) ∨ a = (-23) ∨ a = (-22) ∨ a = (-21) ∨ a < (-31) ∨ (-21) < a) with c11 | c11 | c11 | c11 | c11 | c11 | c11 | c11 | c11 | c11 | c11 | c11 | c11
  · skip
    refine ev_tableIn (off := 174) (tgt := 175) dt_Ma_joined_1 (by omega) (by omega) (by omega) (by rw [c11]; rfl) (by decide) ?_
    refine ev_lload_n dt_Ma_joined_175 rfl rfl ?_
    refine ev_lload_n dt_Ma_joined_176 rfl rfl ?_
    refine ev_land dt_Ma_joined_177 ?_
    exact ev_lreturn dt_Ma_joined_178 rfl ⟨rfl, _, rfl, trivial⟩
  · skip
    refine ev_tableIn (off := 159) (tgt := 160) dt_Ma_joined_1 (by omega) (by omega) (by omega) (by rw [c11]; rfl) (by decide) ?_
    refine ev_lload_n dt_Ma_joined_160 rfl rfl ?_
    refine ev_lload_n dt_Ma_joined_161 rfl rfl ?_
    refine tm_lcmp dt_Ma_joined_162 (fun v12 lv12 uv12 cv12 => ?_)
    refine ev_if_le (tgt := 170) dt_Ma_joined_163 (by decide) (by omega) (fun h13 => ?_) (fun h13 => ?_)
    · skip
      refine ev_iconst dt_Ma_joined_170 ?_
      refine tm_spJ dt_Ma_joined_171 (tm_Ma_truth hW (0) (by omega) (by omega)) kb_Ma_37 sc_Ma_truth rfl (Nat.le_of_ble_eq_true rfl) (by decide) (fun j14 _ => ?_)
      exact ev_lreturn dt_Ma_joined_174 rfl ⟨rfl, _, rfl, trivial⟩
    · skip
      have nzv12 := cv12 (by omega)
      refine ev_iconst dt_Ma_joined_166 ?_
      refine ev_goto (tgt := 171) dt_Ma_joined_167 (by decide) ?_
      refine tm_spJ dt_Ma_joined_171 (tm_Ma_truth hW (1) (by omega) (by omega)) kb_Ma_37 sc_Ma_truth rfl (Nat.le_of_ble_eq_true rfl) (by decide) (fun j15 _ => ?_)
      exact ev_lreturn dt_Ma_joined_174 rfl ⟨rfl, _, rfl, trivial⟩
  · skip
    refine ev_tableIn (off := 144) (tgt := 145) dt_Ma_joined_1 (by omega) (by omega) (by omega) (by rw [c11]; rfl) (by decide) ?_
    refine ev_lload_n dt_Ma_joined_145 rfl rfl ?_
    refine ev_lload_n dt_Ma_joined_146 rfl rfl ?_
    refine tm_lcmp dt_Ma_joined_147 (fun v16 lv16 uv16 cv16 => ?_)
    refine ev_if_lt (tgt := 155) dt_Ma_joined_148 (by decide) (by omega) (fun h17 => ?_) (fun h17 => ?_)
    · skip
      have nzv16 := cv16 (by omega)
      refine ev_iconst dt_Ma_joined_155 ?_
      refine tm_spJ dt_Ma_joined_156 (tm_Ma_truth hW (0) (by omega) (by omega)) kb_Ma_37 sc_Ma_truth rfl (Nat.le_of_ble_eq_true rfl) (by decide) (fun j18 _ => ?_)
      exact ev_lreturn dt_Ma_joined_159 rfl ⟨rfl, _, rfl, trivial⟩
    · skip
      refine ev_iconst dt_Ma_joined_151 ?_
      refine ev_goto (tgt := 156) dt_Ma_joined_152 (by decide) ?_
      refine tm_spJ dt_Ma_joined_156 (tm_Ma_truth hW (1) (by omega) (by omega)) kb_Ma_37 sc_Ma_truth rfl (Nat.le_of_ble_eq_true rfl) (by decide) (fun j19 _ => ?_)
      exact ev_lreturn dt_Ma_joined_159 rfl ⟨rfl, _, rfl, trivial⟩
  · skip
    refine ev_tableIn (off := 129) (tgt := 130) dt_Ma_joined_1 (by omega) (by omega) (by omega) (by rw [c11]; rfl) (by decide) ?_
    refine ev_lload_n dt_Ma_joined_130 rfl rfl ?_
    refine ev_lload_n dt_Ma_joined_131 rfl rfl ?_
    refine tm_lcmp dt_Ma_joined_132 (fun v20 lv20 uv20 cv20 => ?_)
    refine ev_if_ne (tgt := 140) dt_Ma_joined_133 (by decide) (by omega) (fun h21 => ?_) (fun h21 => ?_)
    · skip
      have nzv20 := cv20 (by omega)
      refine ev_iconst dt_Ma_joined_140 ?_
      refine tm_spJ dt_Ma_joined_141 (tm_Ma_truth hW (0) (by omega) (by omega)) kb_Ma_37 sc_Ma_truth rfl (Nat.le_of_ble_eq_true rfl) (by decide) (fun j22 _ => ?_)
      exact ev_lreturn dt_Ma_joined_144 rfl ⟨rfl, _, rfl, trivial⟩
    · skip
      refine ev_iconst dt_Ma_joined_136 ?_
      refine ev_goto (tgt := 141) dt_Ma_joined_137 (by decide) ?_
      refine tm_spJ dt_Ma_joined_141 (tm_Ma_truth hW (1) (by omega) (by omega)) kb_Ma_37 sc_Ma_truth rfl (Nat.le_of_ble_eq_true rfl) (by decide) (fun j23 _ => ?_)
      exact ev_lreturn dt_Ma_joined_144 rfl ⟨rfl, _, rfl, trivial⟩
  · skip
    refine ev_tableIn (off := 114) (tgt := 115) dt_Ma_joined_1 (by omega) (by omega) (by omega) (by rw [c11]; rfl) (by decide) ?_
    refine ev_lload_n dt_Ma_joined_115 rfl rfl ?_
    refine ev_lload_n dt_Ma_joined_116 rfl rfl ?_
    refine tm_lcmp dt_Ma_joined_117 (fun v24 lv24 uv24 cv24 => ?_)
    refine ev_if_gt (tgt := 125) dt_Ma_joined_118 (by decide) (by omega) (fun h25 => ?_) (fun h25 => ?_)
    · skip
      have nzv24 := cv24 (by omega)
      refine ev_iconst dt_Ma_joined_125 ?_
      refine tm_spJ dt_Ma_joined_126 (tm_Ma_truth hW (0) (by omega) (by omega)) kb_Ma_37 sc_Ma_truth rfl (Nat.le_of_ble_eq_true rfl) (by decide) (fun j26 _ => ?_)
      exact ev_lreturn dt_Ma_joined_129 rfl ⟨rfl, _, rfl, trivial⟩
    · skip
      refine ev_iconst dt_Ma_joined_121 ?_
      refine ev_goto (tgt := 126) dt_Ma_joined_122 (by decide) ?_
      refine tm_spJ dt_Ma_joined_126 (tm_Ma_truth hW (1) (by omega) (by omega)) kb_Ma_37 sc_Ma_truth rfl (Nat.le_of_ble_eq_true rfl) (by decide) (fun j27 _ => ?_)
      exact ev_lreturn dt_Ma_joined_129 rfl ⟨rfl, _, rfl, trivial⟩
  · skip
    refine ev_tableIn (off := 99) (tgt := 100) dt_Ma_joined_1 (by omega) (by omega) (by omega) (by rw [c11]; rfl) (by decide) ?_
    refine ev_lload_n dt_Ma_joined_100 rfl rfl ?_
    refine ev_lload_n dt_Ma_joined_101 rfl rfl ?_
    refine tm_lcmp dt_Ma_joined_102 (fun v28 lv28 uv28 cv28 => ?_)
    refine ev_if_ge (tgt := 110) dt_Ma_joined_103 (by decide) (by omega) (fun h29 => ?_) (fun h29 => ?_)
    · skip
      refine ev_iconst dt_Ma_joined_110 ?_
      refine tm_spJ dt_Ma_joined_111 (tm_Ma_truth hW (0) (by omega) (by omega)) kb_Ma_37 sc_Ma_truth rfl (Nat.le_of_ble_eq_true rfl) (by decide) (fun j30 _ => ?_)
      exact ev_lreturn dt_Ma_joined_114 rfl ⟨rfl, _, rfl, trivial⟩
    · skip
      have nzv28 := cv28 (by omega)
      refine ev_iconst dt_Ma_joined_106 ?_
      refine ev_goto (tgt := 111) dt_Ma_joined_107 (by decide) ?_
      refine tm_spJ dt_Ma_joined_111 (tm_Ma_truth hW (1) (by omega) (by omega)) kb_Ma_37 sc_Ma_truth rfl (Nat.le_of_ble_eq_true rfl) (by decide) (fun j31 _ => ?_)
      exact ev_lreturn dt_Ma_joined_114 rfl ⟨rfl, _, rfl, trivial⟩
  · skip
    refine ev_tableIn (off := 85) (tgt := 86) dt_Ma_joined_1 (by omega) (by omega) (by omega) (by rw [c11]; rfl) (by decide) ?_
    refine ev_lload_n dt_Ma_joined_86 rfl rfl ?_
    refine ev_lconsti (n := 0) dt_Ma_joined_87 (by decide) ?_
    refine tm_lcmp dt_Ma_joined_88 (fun v32 lv32 uv32 cv32 => ?_)
    refine ev_if_ne (tgt := 96) dt_Ma_joined_89 (by decide) (by omega) (fun h33 => ?_) (fun h33 => ?_)
    · skip
      have nzv32 := cv32 (by omega)
      refine ev_lload_n dt_Ma_joined_96 rfl rfl ?_
      refine ev_lload_n dt_Ma_joined_97 rfl rfl ?_
      refine ev_lrem dt_Ma_joined_98 (by first | assumption | decide) ?_
      exact ev_lreturn dt_Ma_joined_99 rfl ⟨rfl, _, rfl, trivial⟩
    · skip
      refine ev_lconsti (n := 0) dt_Ma_joined_92 (by decide) ?_
      refine ev_goto (tgt := 99) dt_Ma_joined_93 (by decide) ?_
      exact ev_lreturn dt_Ma_joined_99 rfl ⟨rfl, _, rfl, trivial⟩
  · skip
    refine ev_tableIn (off := 71) (tgt := 72) dt_Ma_joined_1 (by omega) (by omega) (by omega) (by rw [c11]; rfl) (by decide) ?_
    refine ev_lload_n dt_Ma_joined_72 rfl rfl ?_
    refine ev_lconsti (n := 0) dt_Ma_joined_73 (by decide) ?_
    refine tm_lcmp dt_Ma_joined_74 (fun v34 lv34 uv34 cv34 => ?_)
    refine ev_if_ne (tgt := 82) dt_Ma_joined_75 (by decide) (by omega) (fun h35 => ?_) (fun h35 => ?_)
    · skip
      have nzv34 := cv34 (by omega)
      refine ev_lload_n dt_Ma_joined_82 rfl rfl ?_
      refine ev_lload_n dt_Ma_joined_83 rfl rfl ?_
      refine ev_ldiv dt_Ma_joined_84 (by first | assumption | decide) ?_
      exact ev_lreturn dt_Ma_joined_85 rfl ⟨rfl, _, rfl, trivial⟩
    · skip
      refine ev_lconsti (n := 0) dt_Ma_joined_78 (by decide) ?_
      refine ev_goto (tgt := 85) dt_Ma_joined_79 (by decide) ?_
      exact ev_lreturn dt_Ma_joined_85 rfl ⟨rfl, _, rfl, trivial⟩
  · skip
    refine ev_tableIn (off := 67) (tgt := 68) dt_Ma_joined_1 (by omega) (by omega) (by omega) (by rw [c11]; rfl) (by decide) ?_
    refine ev_lload_n dt_Ma_joined_68 rfl rfl ?_
    refine ev_lload_n dt_Ma_joined_69 rfl rfl ?_
    refine ev_lmul dt_Ma_joined_70 ?_
    exact ev_lreturn dt_Ma_joined_71 rfl ⟨rfl, _, rfl, trivial⟩
  · skip
    refine ev_tableIn (off := 63) (tgt := 64) dt_Ma_joined_1 (by omega) (by omega) (by omega) (by rw [c11]; rfl) (by decide) ?_
    refine ev_lload_n dt_Ma_joined_64 rfl rfl ?_
    refine ev_lload_n dt_Ma_joined_65 rfl rfl ?_
    refine ev_lsub dt_Ma_joined_66 ?_
    exact ev_lreturn dt_Ma_joined_67 rfl ⟨rfl, _, rfl, trivial⟩
  · skip
    refine ev_tableIn (off := 59) (tgt := 60) dt_Ma_joined_1 (by omega) (by omega) (by omega) (by rw [c11]; rfl) (by decide) ?_
    refine ev_lload_n dt_Ma_joined_60 rfl rfl ?_
    refine ev_lload_n dt_Ma_joined_61 rfl rfl ?_
    refine ev_ladd dt_Ma_joined_62 ?_
    exact ev_lreturn dt_Ma_joined_63 rfl ⟨rfl, _, rfl, trivial⟩
  · skip
    refine ev_tableOut (tgt := 179) dt_Ma_joined_1 (by omega) (by omega) (by decide) ?_
    refine ev_lload_n dt_Ma_joined_179 rfl rfl ?_
    refine ev_lload_n dt_Ma_joined_180 rfl rfl ?_
    refine ev_lor dt_Ma_joined_181 ?_
    exact ev_lreturn dt_Ma_joined_182 rfl ⟨rfl, _, rfl, trivial⟩
  · skip
    refine ev_tableOut (tgt := 179) dt_Ma_joined_1 (by omega) (by omega) (by decide) ?_
    refine ev_lload_n dt_Ma_joined_179 rfl rfl ?_
    refine ev_lload_n dt_Ma_joined_180 rfl rfl ?_
    refine ev_lor dt_Ma_joined_181 ?_
    exact ev_lreturn dt_Ma_joined_182 rfl ⟨rfl, _, rfl, trivial⟩
theorem dt_Ma_held_0 : decode prog_5_method_3_code 0 = .ok (.ldc2_w 49, 3) := by decide +kernel
theorem dt_Ma_held_3 : decode prog_5_method_3_code 3 = .ok (.ldc2_w 51, 3) := by decide +kernel
theorem dt_Ma_held_6 : decode prog_5_method_3_code 6 = .ok (.lload_n 0, 1) := by decide +kernel
theorem dt_Ma_held_7 : decode prog_5_method_3_code 7 = .ok (.invokestatic 53, 3) := by decide +kernel
theorem dt_Ma_held_10 : decode prog_5_method_3_code 10 = .ok (.invokestatic 59, 3) := by decide +kernel
theorem dt_Ma_held_13 : decode prog_5_method_3_code 13 = .ok (.l2i, 1) := by decide +kernel
theorem dt_Ma_held_14 : decode prog_5_method_3_code 14 = .ok (.ireturn, 1) := by decide +kernel
set_option maxHeartbeats 4000000 in
set_option maxRecDepth 10000 in
theorem tm_Ma_held {N : Nat} {T : Nat → tm_S} {w : ab_W} (hW : tm_W N T w) (a : Int64) : ab_Mt g_G g_rs mt_Ma_held 1 0 0 [ab_J a] w (tm_P w (fun v => (-2147483648) ≤ v ∧ v ≤ 2147483647)) := by
  refine ab_Mt.of rfl (Nat.le_of_ble_eq_true rfl) ?_
  show ab_Ev g_G g_rs mt_Ma_held _ _ _ 0 [some (ab_J a), none] [] _ _
  refine ev_ldc2i (n := -3) dt_Ma_held_0 cn_Ma_49 (by decide) ?_
  refine ev_ldc2i (n := 3) dt_Ma_held_3 cn_Ma_51 (by decide) ?_
  refine ev_lload_n dt_Ma_held_6 rfl rfl ?_
  refine ev_mmin_long dt_Ma_held_7 mk_Ma_53 (Nat.le_of_ble_eq_true rfl) (by decide) ?_
  refine ev_mmax_long dt_Ma_held_10 mk_Ma_59 (Nat.le_of_ble_eq_true rfl) (by decide) ?_
  refine tm_l2i dt_Ma_held_13 (fun v36 hv36 => ?_)
  exact ev_ireturn dt_Ma_held_14 rfl ⟨rfl, _, rfl, by omega⟩
theorem dt_Ma_wordOf_0 : decode prog_5_method_8_code 0 = .ok (.iload_n 0, 1) := by decide +kernel
theorem dt_Ma_wordOf_1 : decode prog_5_method_8_code 1 = .ok (.tableswitch 132 0 10 #[59, 64, 69, 74, 84, 94, 107, 112, 117, 122, 127], 59) := by decide +kernel
theorem dt_Ma_wordOf_60 : decode prog_5_method_8_code 60 = .ok (.aload_n 1, 1) := by decide +kernel
theorem dt_Ma_wordOf_61 : decode prog_5_method_8_code 61 = .ok (.getfield 62, 3) := by decide +kernel
theorem dt_Ma_wordOf_64 : decode prog_5_method_8_code 64 = .ok (.ireturn, 1) := by decide +kernel
theorem dt_Ma_wordOf_65 : decode prog_5_method_8_code 65 = .ok (.aload_n 1, 1) := by decide +kernel
theorem dt_Ma_wordOf_66 : decode prog_5_method_8_code 66 = .ok (.getfield 67, 3) := by decide +kernel
theorem dt_Ma_wordOf_69 : decode prog_5_method_8_code 69 = .ok (.ireturn, 1) := by decide +kernel
theorem dt_Ma_wordOf_70 : decode prog_5_method_8_code 70 = .ok (.aload_n 1, 1) := by decide +kernel
theorem dt_Ma_wordOf_71 : decode prog_5_method_8_code 71 = .ok (.getfield 70, 3) := by decide +kernel
theorem dt_Ma_wordOf_74 : decode prog_5_method_8_code 74 = .ok (.ireturn, 1) := by decide +kernel
theorem dt_Ma_wordOf_75 : decode prog_5_method_8_code 75 = .ok (.aload_n 1, 1) := by decide +kernel
theorem dt_Ma_wordOf_76 : decode prog_5_method_8_code 76 = .ok (.getfield 73, 3) := by decide +kernel
theorem dt_Ma_wordOf_79 : decode prog_5_method_8_code 79 = .ok (.aload_n 1, 1) := by decide +kernel
theorem dt_Ma_wordOf_80 : decode prog_5_method_8_code 80 = .ok (.getfield 62, 3) := by decide +kernel
theorem dt_Ma_wordOf_83 : decode prog_5_method_8_code 83 = .ok (.iaload, 1) := by decide +kernel
theorem dt_Ma_wordOf_84 : decode prog_5_method_8_code 84 = .ok (.ireturn, 1) := by decide +kernel
theorem dt_Ma_wordOf_85 : decode prog_5_method_8_code 85 = .ok (.aload_n 1, 1) := by decide +kernel
theorem dt_Ma_wordOf_86 : decode prog_5_method_8_code 86 = .ok (.getfield 76, 3) := by decide +kernel
theorem dt_Ma_wordOf_89 : decode prog_5_method_8_code 89 = .ok (.aload_n 1, 1) := by decide +kernel
theorem dt_Ma_wordOf_90 : decode prog_5_method_8_code 90 = .ok (.getfield 70, 3) := by decide +kernel
theorem dt_Ma_wordOf_93 : decode prog_5_method_8_code 93 = .ok (.iaload, 1) := by decide +kernel
theorem dt_Ma_wordOf_94 : decode prog_5_method_8_code 94 = .ok (.ireturn, 1) := by decide +kernel
theorem dt_Ma_wordOf_95 : decode prog_5_method_8_code 95 = .ok (.aload_n 1, 1) := by decide +kernel
theorem dt_Ma_wordOf_96 : decode prog_5_method_8_code 96 = .ok (.aload_n 1, 1) := by decide +kernel
theorem dt_Ma_wordOf_97 : decode prog_5_method_8_code 97 = .ok (.getfield 70, 3) := by decide +kernel
theorem dt_Ma_wordOf_100 : decode prog_5_method_8_code 100 = .ok (.aload_n 1, 1) := by decide +kernel
theorem dt_Ma_wordOf_101 : decode prog_5_method_8_code 101 = .ok (.getfield 62, 3) := by decide +kernel
theorem dt_Ma_wordOf_104 : decode prog_5_method_8_code 104 = .ok (.invokevirtual 79, 3) := by decide +kernel
theorem dt_Ma_wordOf_107 : decode prog_5_method_8_code 107 = .ok (.ireturn, 1) := by decide +kernel
theorem dt_Ma_wordOf_108 : decode prog_5_method_8_code 108 = .ok (.aload_n 1, 1) := by decide +kernel
theorem dt_Ma_wordOf_109 : decode prog_5_method_8_code 109 = .ok (.invokevirtual 83, 3) := by decide +kernel
theorem dt_Ma_wordOf_112 : decode prog_5_method_8_code 112 = .ok (.ireturn, 1) := by decide +kernel
theorem dt_Ma_wordOf_113 : decode prog_5_method_8_code 113 = .ok (.aload_n 1, 1) := by decide +kernel
theorem dt_Ma_wordOf_114 : decode prog_5_method_8_code 114 = .ok (.invokevirtual 87, 3) := by decide +kernel
theorem dt_Ma_wordOf_117 : decode prog_5_method_8_code 117 = .ok (.ireturn, 1) := by decide +kernel
theorem dt_Ma_wordOf_118 : decode prog_5_method_8_code 118 = .ok (.aload_n 1, 1) := by decide +kernel
theorem dt_Ma_wordOf_119 : decode prog_5_method_8_code 119 = .ok (.invokevirtual 90, 3) := by decide +kernel
theorem dt_Ma_wordOf_122 : decode prog_5_method_8_code 122 = .ok (.ireturn, 1) := by decide +kernel
theorem dt_Ma_wordOf_123 : decode prog_5_method_8_code 123 = .ok (.aload_n 1, 1) := by decide +kernel
theorem dt_Ma_wordOf_124 : decode prog_5_method_8_code 124 = .ok (.invokevirtual 93, 3) := by decide +kernel
theorem dt_Ma_wordOf_127 : decode prog_5_method_8_code 127 = .ok (.ireturn, 1) := by decide +kernel
theorem dt_Ma_wordOf_128 : decode prog_5_method_8_code 128 = .ok (.aload_n 1, 1) := by decide +kernel
theorem dt_Ma_wordOf_129 : decode prog_5_method_8_code 129 = .ok (.invokevirtual 96, 3) := by decide +kernel
theorem dt_Ma_wordOf_132 : decode prog_5_method_8_code 132 = .ok (.ireturn, 1) := by decide +kernel
theorem dt_Ma_wordOf_133 : decode prog_5_method_8_code 133 = .ok (.aload_n 1, 1) := by decide +kernel
theorem dt_Ma_wordOf_134 : decode prog_5_method_8_code 134 = .ok (.getfield 99, 3) := by decide +kernel
theorem dt_Ma_wordOf_137 : decode prog_5_method_8_code 137 = .ok (.ireturn, 1) := by decide +kernel
set_option maxHeartbeats 4000000 in
set_option maxRecDepth 10000 in
theorem tm_Ma_wordOf {N : Nat} {T : Nat → tm_S} {w : ab_W} {o : Nat} (hW : tm_W N T w) (h_o : is_Ri T o) (a : Int) (l_a : (-2147483648) ≤ a) (u_a : a ≤ 2147483647) : ab_Mt g_G g_rs mt_Ma_wordOf 4 0 0 [ab_I a, ab_R o] w (tm_P w (fun v => (-2147483648) ≤ v ∧ v ≤ 2147483647)) := by
  obtain ⟨ot0, ot1, ot2, ot3, ot4, ot5, ot6, ot7, ot8, ot9, ot10, ot11, ot12⟩ := id h_o
  have od := is_Ri.d h_o
  refine ab_Mt.of rfl (Nat.le_of_ble_eq_true rfl) ?_
  show ab_Ev g_G g_rs mt_Ma_wordOf _ _ _ 0 [some (ab_I a), some (ab_R o)] [] _ _
  refine ev_iload_n dt_Ma_wordOf_0 rfl rfl ?_
  rcases (by omega : a = 0 ∨ a = 1 ∨ a = 2 ∨ a = 3 ∨ a = 4 ∨ a = 5 ∨ a = 6 ∨ a = 7 ∨ a = 8 ∨ a = 9 ∨ a = 10 ∨ a < 0 ∨ 10 < a) with c37 | c37 | c37 | c37 | c37 | c37 | c37 | c37 | c37 | c37 | c37 | c37 | c37
  · skip
    refine ev_tableIn (off := 59) (tgt := 60) dt_Ma_wordOf_1 (by omega) (by omega) (by omega) (by rw [c37]; rfl) (by decide) ?_
    refine ev_aload_n dt_Ma_wordOf_60 rfl rfl ?_
    refine tm_getI (K := 2) dt_Ma_wordOf_61 hW ot0 fl_Ma_62 rfl rfl (fun v38 kv38 lv38 uv38 => ?_)
    exact ev_ireturn dt_Ma_wordOf_64 rfl ⟨rfl, _, rfl, by omega⟩
  · skip
    refine ev_tableIn (off := 64) (tgt := 65) dt_Ma_wordOf_1 (by omega) (by omega) (by omega) (by rw [c37]; rfl) (by decide) ?_
    refine ev_aload_n dt_Ma_wordOf_65 rfl rfl ?_
    refine tm_getI (K := 3) dt_Ma_wordOf_66 hW ot0 fl_Ma_67 rfl rfl (fun v39 kv39 lv39 uv39 => ?_)
    exact ev_ireturn dt_Ma_wordOf_69 rfl ⟨rfl, _, rfl, by omega⟩
  · skip
    refine ev_tableIn (off := 69) (tgt := 70) dt_Ma_wordOf_1 (by omega) (by omega) (by omega) (by rw [c37]; rfl) (by decide) ?_
    refine ev_aload_n dt_Ma_wordOf_70 rfl rfl ?_
    refine tm_getI (K := 1) dt_Ma_wordOf_71 hW ot0 fl_Ma_70 rfl rfl (fun v40 kv40 lv40 uv40 => ?_)
    exact ev_ireturn dt_Ma_wordOf_74 rfl ⟨rfl, _, rfl, by omega⟩
  · skip
    refine ev_tableIn (off := 74) (tgt := 75) dt_Ma_wordOf_1 (by omega) (by omega) (by omega) (by rw [c37]; rfl) (by decide) ?_
    refine ev_aload_n dt_Ma_wordOf_75 rfl rfl ?_
    refine tm_getR dt_Ma_wordOf_76 hW ot0 fl_Ma_73 rfl ?_
    refine ev_aload_n dt_Ma_wordOf_79 rfl rfl ?_
    refine tm_getI (K := 2) dt_Ma_wordOf_80 hW ot0 fl_Ma_62 rfl rfl (fun v41 kv41 lv41 uv41 => ?_)
    refine tm_iaload dt_Ma_wordOf_83 hW ot6 (by omega) (by omega) (by omega) (fun v42 kv42 lv42 uv42 => ?_)
    exact ev_ireturn dt_Ma_wordOf_84 rfl ⟨rfl, _, rfl, by omega⟩
  · skip
    refine ev_tableIn (off := 84) (tgt := 85) dt_Ma_wordOf_1 (by omega) (by omega) (by omega) (by rw [c37]; rfl) (by decide) ?_
    refine ev_aload_n dt_Ma_wordOf_85 rfl rfl ?_
    refine tm_getR dt_Ma_wordOf_86 hW ot0 fl_Ma_76 rfl ?_
    refine ev_aload_n dt_Ma_wordOf_89 rfl rfl ?_
    refine tm_getI (K := 1) dt_Ma_wordOf_90 hW ot0 fl_Ma_70 rfl rfl (fun v43 kv43 lv43 uv43 => ?_)
    refine tm_iaload dt_Ma_wordOf_93 hW ot7 (by omega) (by omega) (by omega) (fun v44 kv44 lv44 uv44 => ?_)
    exact ev_ireturn dt_Ma_wordOf_94 rfl ⟨rfl, _, rfl, by omega⟩
  · skip
    refine ev_tableIn (off := 94) (tgt := 95) dt_Ma_wordOf_1 (by omega) (by omega) (by omega) (by rw [c37]; rfl) (by decide) ?_
    refine ev_aload_n dt_Ma_wordOf_95 rfl rfl ?_
    refine ev_aload_n dt_Ma_wordOf_96 rfl rfl ?_
    refine tm_getI (K := 1) dt_Ma_wordOf_97 hW ot0 fl_Ma_70 rfl rfl (fun v45 kv45 lv45 uv45 => ?_)
    refine ev_aload_n dt_Ma_wordOf_100 rfl rfl ?_
    refine tm_getI (K := 2) dt_Ma_wordOf_101 hW ot0 fl_Ma_62 rfl rfl (fun v46 kv46 lv46 uv46 => ?_)
    refine tm_vp dt_Ma_wordOf_104 (tm_Ri_allLike hW h_o (v45) (by omega) (by omega) (v46) (by omega) (by omega)) kb_Ma_79 ⟨im_Ri_allLike, se_Ri_allLike⟩ rfl hW ot0 rfl (Nat.le_of_ble_eq_true rfl) (by decide) (fun v47 hv47 => ?_)
    exact ev_ireturn dt_Ma_wordOf_107 rfl ⟨rfl, _, rfl, by omega⟩
  · skip
    refine ev_tableIn (off := 107) (tgt := 108) dt_Ma_wordOf_1 (by omega) (by omega) (by omega) (by rw [c37]; rfl) (by decide) ?_
    refine ev_aload_n dt_Ma_wordOf_108 rfl rfl ?_
    refine tm_vp dt_Ma_wordOf_109 (tm_Ri_bestLike hW h_o) kb_Ma_83 ⟨im_Ri_bestLike, se_Ri_bestLike⟩ rfl hW ot0 rfl (Nat.le_of_ble_eq_true rfl) (by decide) (fun v48 hv48 => ?_)
    exact ev_ireturn dt_Ma_wordOf_112 rfl ⟨rfl, _, rfl, by omega⟩
  · skip
    refine ev_tableIn (off := 112) (tgt := 113) dt_Ma_wordOf_1 (by omega) (by omega) (by omega) (by rw [c37]; rfl) (by decide) ?_
    refine ev_aload_n dt_Ma_wordOf_113 rfl rfl ?_
    refine tm_vp dt_Ma_wordOf_114 (tm_Ri_leastLike hW h_o) kb_Ma_87 ⟨im_Ri_leastLike, se_Ri_leastLike⟩ rfl hW ot0 rfl (Nat.le_of_ble_eq_true rfl) (by decide) (fun v49 hv49 => ?_)
    exact ev_ireturn dt_Ma_wordOf_117 rfl ⟨rfl, _, rfl, by omega⟩
  · skip
    refine ev_tableIn (off := 117) (tgt := 118) dt_Ma_wordOf_1 (by omega) (by omega) (by omega) (by rw [c37]; rfl) (by decide) ?_
    refine ev_aload_n dt_Ma_wordOf_118 rfl rfl ?_
    refine tm_vp dt_Ma_wordOf_119 (tm_Ri_stayVotes hW h_o) kb_Ma_90 ⟨im_Ri_stayVotes, se_Ri_stayVotes⟩ rfl hW ot0 rfl (Nat.le_of_ble_eq_true rfl) (by decide) (fun v50 hv50 => ?_)
    exact ev_ireturn dt_Ma_wordOf_122 rfl ⟨rfl, _, rfl, by omega⟩
  · skip
    refine ev_tableIn (off := 122) (tgt := 123) dt_Ma_wordOf_1 (by omega) (by omega) (by omega) (by rw [c37]; rfl) (by decide) ?_
    refine ev_aload_n dt_Ma_wordOf_123 rfl rfl ?_
    refine tm_vp dt_Ma_wordOf_124 (tm_Ri_allVotes hW h_o) kb_Ma_93 ⟨im_Ri_allVotes, se_Ri_allVotes⟩ rfl hW ot0 rfl (Nat.le_of_ble_eq_true rfl) (by decide) (fun v51 hv51 => ?_)
    exact ev_ireturn dt_Ma_wordOf_127 rfl ⟨rfl, _, rfl, by omega⟩
  · skip
    refine ev_tableIn (off := 127) (tgt := 128) dt_Ma_wordOf_1 (by omega) (by omega) (by omega) (by rw [c37]; rfl) (by decide) ?_
    refine ev_aload_n dt_Ma_wordOf_128 rfl rfl ?_
    refine tm_vp dt_Ma_wordOf_129 (tm_Ri_atGates hW h_o) kb_Ma_96 ⟨im_Ri_atGates, se_Ri_atGates⟩ rfl hW ot0 rfl (Nat.le_of_ble_eq_true rfl) (by decide) (fun v52 hv52 => ?_)
    exact ev_ireturn dt_Ma_wordOf_132 rfl ⟨rfl, _, rfl, by omega⟩
  · skip
    refine ev_tableOut (tgt := 133) dt_Ma_wordOf_1 (by omega) (by omega) (by decide) ?_
    refine ev_aload_n dt_Ma_wordOf_133 rfl rfl ?_
    refine tm_getI (K := 5) dt_Ma_wordOf_134 hW ot0 fl_Ma_99 rfl rfl (fun v53 kv53 lv53 uv53 => ?_)
    exact ev_ireturn dt_Ma_wordOf_137 rfl ⟨rfl, _, rfl, by omega⟩
  · skip
    refine ev_tableOut (tgt := 133) dt_Ma_wordOf_1 (by omega) (by omega) (by decide) ?_
    refine ev_aload_n dt_Ma_wordOf_133 rfl rfl ?_
    refine tm_getI (K := 5) dt_Ma_wordOf_134 hW ot0 fl_Ma_99 rfl rfl (fun v54 kv54 lv54 uv54 => ?_)
    exact ev_ireturn dt_Ma_wordOf_137 rfl ⟨rfl, _, rfl, by omega⟩
theorem dt_Ma_rateBy_0 : decode prog_5_method_2_code 0 = .ok (.aload_n 0, 1) := by decide +kernel
theorem dt_Ma_rateBy_1 : decode prog_5_method_2_code 1 = .ok (.iconst 0, 1) := by decide +kernel
theorem dt_Ma_rateBy_2 : decode prog_5_method_2_code 2 = .ok (.putfield 15, 3) := by decide +kernel
theorem dt_Ma_rateBy_5 : decode prog_5_method_2_code 5 = .ok (.iconst 0, 1) := by decide +kernel
theorem dt_Ma_rateBy_6 : decode prog_5_method_2_code 6 = .ok (.istore_n 3, 1) := by decide +kernel
theorem dt_Ma_rateBy_7 : decode prog_5_method_2_code 7 = .ok (.iload_n 3, 1) := by decide +kernel
theorem dt_Ma_rateBy_8 : decode prog_5_method_2_code 8 = .ok (.aload_n 1, 1) := by decide +kernel
theorem dt_Ma_rateBy_9 : decode prog_5_method_2_code 9 = .ok (.getfield 19, 3) := by decide +kernel
theorem dt_Ma_rateBy_12 : decode prog_5_method_2_code 12 = .ok (.arraylength, 1) := by decide +kernel
theorem dt_Ma_rateBy_13 : decode prog_5_method_2_code 13 = .ok (.if_icmp .ge 169, 3) := by decide +kernel
theorem dt_Ma_rateBy_16 : decode prog_5_method_2_code 16 = .ok (.aload_n 1, 1) := by decide +kernel
theorem dt_Ma_rateBy_17 : decode prog_5_method_2_code 17 = .ok (.getfield 19, 3) := by decide +kernel
theorem dt_Ma_rateBy_20 : decode prog_5_method_2_code 20 = .ok (.iload_n 3, 1) := by decide +kernel
theorem dt_Ma_rateBy_21 : decode prog_5_method_2_code 21 = .ok (.iaload, 1) := by decide +kernel
theorem dt_Ma_rateBy_22 : decode prog_5_method_2_code 22 = .ok (.istore 4, 2) := by decide +kernel
theorem dt_Ma_rateBy_24 : decode prog_5_method_2_code 24 = .ok (.iload 4, 2) := by decide +kernel
theorem dt_Ma_rateBy_26 : decode prog_5_method_2_code 26 = .ok (.ifCond .lt 13, 3) := by decide +kernel
theorem dt_Ma_rateBy_29 : decode prog_5_method_2_code 29 = .ok (.aload_n 0, 1) := by decide +kernel
theorem dt_Ma_rateBy_30 : decode prog_5_method_2_code 30 = .ok (.iload 4, 2) := by decide +kernel
theorem dt_Ma_rateBy_32 : decode prog_5_method_2_code 32 = .ok (.i2l, 1) := by decide +kernel
theorem dt_Ma_rateBy_33 : decode prog_5_method_2_code 33 = .ok (.invokevirtual 25, 3) := by decide +kernel
theorem dt_Ma_rateBy_36 : decode prog_5_method_2_code 36 = .ok (.goto 140, 3) := by decide +kernel
theorem dt_Ma_rateBy_39 : decode prog_5_method_2_code 39 = .ok (.iload 4, 2) := by decide +kernel
theorem dt_Ma_rateBy_41 : decode prog_5_method_2_code 41 = .ok (.bipush (-12), 2) := by decide +kernel
theorem dt_Ma_rateBy_43 : decode prog_5_method_2_code 43 = .ok (.if_icmp .lt 19, 3) := by decide +kernel
theorem dt_Ma_rateBy_46 : decode prog_5_method_2_code 46 = .ok (.aload_n 0, 1) := by decide +kernel
theorem dt_Ma_rateBy_47 : decode prog_5_method_2_code 47 = .ok (.iconst (-1), 1) := by decide +kernel
theorem dt_Ma_rateBy_48 : decode prog_5_method_2_code 48 = .ok (.iload 4, 2) := by decide +kernel
theorem dt_Ma_rateBy_50 : decode prog_5_method_2_code 50 = .ok (.isub, 1) := by decide +kernel
theorem dt_Ma_rateBy_51 : decode prog_5_method_2_code 51 = .ok (.aload_n 2, 1) := by decide +kernel
theorem dt_Ma_rateBy_52 : decode prog_5_method_2_code 52 = .ok (.invokestatic 29, 3) := by decide +kernel
theorem dt_Ma_rateBy_55 : decode prog_5_method_2_code 55 = .ok (.i2l, 1) := by decide +kernel
theorem dt_Ma_rateBy_56 : decode prog_5_method_2_code 56 = .ok (.invokevirtual 25, 3) := by decide +kernel
theorem dt_Ma_rateBy_59 : decode prog_5_method_2_code 59 = .ok (.goto 117, 3) := by decide +kernel
theorem dt_Ma_rateBy_62 : decode prog_5_method_2_code 62 = .ok (.iload 4, 2) := by decide +kernel
theorem dt_Ma_rateBy_64 : decode prog_5_method_2_code 64 = .ok (.bipush (-33), 2) := by decide +kernel
theorem dt_Ma_rateBy_66 : decode prog_5_method_2_code 66 = .ok (.if_icmp .ne 27, 3) := by decide +kernel
theorem dt_Ma_rateBy_69 : decode prog_5_method_2_code 69 = .ok (.aload_n 0, 1) := by decide +kernel
theorem dt_Ma_rateBy_70 : decode prog_5_method_2_code 70 = .ok (.aload_n 0, 1) := by decide +kernel
theorem dt_Ma_rateBy_71 : decode prog_5_method_2_code 71 = .ok (.invokevirtual 33, 3) := by decide +kernel
theorem dt_Ma_rateBy_74 : decode prog_5_method_2_code 74 = .ok (.lconst 0, 1) := by decide +kernel
theorem dt_Ma_rateBy_75 : decode prog_5_method_2_code 75 = .ok (.lcmp, 1) := by decide +kernel
theorem dt_Ma_rateBy_76 : decode prog_5_method_2_code 76 = .ok (.ifCond .ne 7, 3) := by decide +kernel
theorem dt_Ma_rateBy_79 : decode prog_5_method_2_code 79 = .ok (.iconst 1, 1) := by decide +kernel
theorem dt_Ma_rateBy_80 : decode prog_5_method_2_code 80 = .ok (.goto 4, 3) := by decide +kernel
theorem dt_Ma_rateBy_83 : decode prog_5_method_2_code 83 = .ok (.iconst 0, 1) := by decide +kernel
theorem dt_Ma_rateBy_84 : decode prog_5_method_2_code 84 = .ok (.invokestatic 37, 3) := by decide +kernel
theorem dt_Ma_rateBy_87 : decode prog_5_method_2_code 87 = .ok (.invokevirtual 25, 3) := by decide +kernel
theorem dt_Ma_rateBy_90 : decode prog_5_method_2_code 90 = .ok (.goto 86, 3) := by decide +kernel
theorem dt_Ma_rateBy_93 : decode prog_5_method_2_code 93 = .ok (.iload 4, 2) := by decide +kernel
theorem dt_Ma_rateBy_95 : decode prog_5_method_2_code 95 = .ok (.bipush (-34), 2) := by decide +kernel
theorem dt_Ma_rateBy_97 : decode prog_5_method_2_code 97 = .ok (.if_icmp .ne 11, 3) := by decide +kernel
theorem dt_Ma_rateBy_100 : decode prog_5_method_2_code 100 = .ok (.aload_n 0, 1) := by decide +kernel
theorem dt_Ma_rateBy_101 : decode prog_5_method_2_code 101 = .ok (.invokevirtual 33, 3) := by decide +kernel
theorem dt_Ma_rateBy_104 : decode prog_5_method_2_code 104 = .ok (.invokestatic 41, 3) := by decide +kernel
theorem dt_Ma_rateBy_107 : decode prog_5_method_2_code 107 = .ok (.ireturn, 1) := by decide +kernel
theorem dt_Ma_rateBy_108 : decode prog_5_method_2_code 108 = .ok (.iload 4, 2) := by decide +kernel
theorem dt_Ma_rateBy_110 : decode prog_5_method_2_code 110 = .ok (.bipush (-35), 2) := by decide +kernel
theorem dt_Ma_rateBy_112 : decode prog_5_method_2_code 112 = .ok (.if_icmp .ne 39, 3) := by decide +kernel
theorem dt_Ma_rateBy_115 : decode prog_5_method_2_code 115 = .ok (.aload_n 0, 1) := by decide +kernel
theorem dt_Ma_rateBy_116 : decode prog_5_method_2_code 116 = .ok (.invokevirtual 33, 3) := by decide +kernel
theorem dt_Ma_rateBy_119 : decode prog_5_method_2_code 119 = .ok (.lconst 0, 1) := by decide +kernel
theorem dt_Ma_rateBy_120 : decode prog_5_method_2_code 120 = .ok (.lcmp, 1) := by decide +kernel
theorem dt_Ma_rateBy_121 : decode prog_5_method_2_code 121 = .ok (.ifCond .eq 7, 3) := by decide +kernel
theorem dt_Ma_rateBy_124 : decode prog_5_method_2_code 124 = .ok (.iconst 1, 1) := by decide +kernel
theorem dt_Ma_rateBy_125 : decode prog_5_method_2_code 125 = .ok (.goto 4, 3) := by decide +kernel
theorem dt_Ma_rateBy_128 : decode prog_5_method_2_code 128 = .ok (.iconst 0, 1) := by decide +kernel
theorem dt_Ma_rateBy_129 : decode prog_5_method_2_code 129 = .ok (.istore 5, 2) := by decide +kernel
theorem dt_Ma_rateBy_131 : decode prog_5_method_2_code 131 = .ok (.aload_n 0, 1) := by decide +kernel
theorem dt_Ma_rateBy_132 : decode prog_5_method_2_code 132 = .ok (.invokevirtual 33, 3) := by decide +kernel
theorem dt_Ma_rateBy_135 : decode prog_5_method_2_code 135 = .ok (.lstore 6, 2) := by decide +kernel
theorem dt_Ma_rateBy_137 : decode prog_5_method_2_code 137 = .ok (.iload 5, 2) := by decide +kernel
theorem dt_Ma_rateBy_139 : decode prog_5_method_2_code 139 = .ok (.ifCond .eq 9, 3) := by decide +kernel
theorem dt_Ma_rateBy_142 : decode prog_5_method_2_code 142 = .ok (.lload 6, 2) := by decide +kernel
theorem dt_Ma_rateBy_144 : decode prog_5_method_2_code 144 = .ok (.invokestatic 41, 3) := by decide +kernel
theorem dt_Ma_rateBy_147 : decode prog_5_method_2_code 147 = .ok (.ireturn, 1) := by decide +kernel
theorem dt_Ma_rateBy_148 : decode prog_5_method_2_code 148 = .ok (.goto 28, 3) := by decide +kernel
theorem dt_Ma_rateBy_151 : decode prog_5_method_2_code 151 = .ok (.aload_n 0, 1) := by decide +kernel
theorem dt_Ma_rateBy_152 : decode prog_5_method_2_code 152 = .ok (.invokevirtual 33, 3) := by decide +kernel
theorem dt_Ma_rateBy_155 : decode prog_5_method_2_code 155 = .ok (.lstore 5, 2) := by decide +kernel
theorem dt_Ma_rateBy_157 : decode prog_5_method_2_code 157 = .ok (.aload_n 0, 1) := by decide +kernel
theorem dt_Ma_rateBy_158 : decode prog_5_method_2_code 158 = .ok (.invokevirtual 33, 3) := by decide +kernel
theorem dt_Ma_rateBy_161 : decode prog_5_method_2_code 161 = .ok (.lstore 7, 2) := by decide +kernel
theorem dt_Ma_rateBy_163 : decode prog_5_method_2_code 163 = .ok (.aload_n 0, 1) := by decide +kernel
theorem dt_Ma_rateBy_164 : decode prog_5_method_2_code 164 = .ok (.iload 4, 2) := by decide +kernel
theorem dt_Ma_rateBy_166 : decode prog_5_method_2_code 166 = .ok (.lload 7, 2) := by decide +kernel
theorem dt_Ma_rateBy_168 : decode prog_5_method_2_code 168 = .ok (.lload 5, 2) := by decide +kernel
theorem dt_Ma_rateBy_170 : decode prog_5_method_2_code 170 = .ok (.invokestatic 45, 3) := by decide +kernel
theorem dt_Ma_rateBy_173 : decode prog_5_method_2_code 173 = .ok (.invokevirtual 25, 3) := by decide +kernel
theorem dt_Ma_rateBy_176 : decode prog_5_method_2_code 176 = .ok (.iinc 3 1, 3) := by decide +kernel
theorem dt_Ma_rateBy_179 : decode prog_5_method_2_code 179 = .ok (.goto (-172), 3) := by decide +kernel
theorem dt_Ma_rateBy_182 : decode prog_5_method_2_code 182 = .ok (.iconst 0, 1) := by decide +kernel
theorem dt_Ma_rateBy_183 : decode prog_5_method_2_code 183 = .ok (.ireturn, 1) := by decide +kernel
set_option maxHeartbeats 4000000 in
set_option maxRecDepth 10000 in
theorem tm_Ma_rateBy {N : Nat} {T : Nat → tm_S} {w : ab_W} {ma : Nat} {q : Nat} {o : Nat} {n : Nat} (hW : tm_W N T w) (h_ma : is_Ma T ma) (h_q : is_Ro T q n) (h_o : is_Ri T o) : ab_Mt g_G g_rs mt_Ma_rateBy 5 0 0 [ab_R ma, ab_R q, ab_R o] w (tm_Qi N T (fun v w2 => (∀ (p : Nat) (j : Int), ¬ (p = (ma + 1) ∨ (p = ma ∧ (j = 1))) → tm_g w2 p j = tm_g w p j) ∧ ((-2147483648) ≤ v ∧ v ≤ 2147483647))) := by
  obtain ⟨mat0, mat1⟩ := id h_ma
  obtain ⟨qt0, qt1, n_le⟩ := id h_q
  obtain ⟨ot0, ot1, ot2, ot3, ot4, ot5, ot6, ot7, ot8, ot9, ot10, ot11, ot12⟩ := id h_o
  have od := is_Ri.d h_o
  have hF0 : ∀ (p : Nat) (j : Int), ¬ (p = (ma + 1) ∨ (p = ma ∧ (j = 1))) → tm_g w p j = tm_g w p j := fun _ _ _ => rfl
  refine ab_Mt.of rfl (Nat.le_of_ble_eq_true rfl) ?_
  show ab_Ev g_G g_rs mt_Ma_rateBy _ _ _ 0 [some (ab_R ma), some (ab_R q), some (ab_R o), none, none, none, none, none, none] [] _ _
  refine ev_aload_n dt_Ma_rateBy_0 rfl rfl ?_
  refine ev_iconst dt_Ma_rateBy_1 ?_
  refine tm_putI (K := 1) dt_Ma_rateBy_2 hW mat0 (fp_Ma_15 _) rfl rfl trivial (by omega) (by omega) (fun w55 hWw55 kkw55 hfw55 => ?_)
  have hFw55 : ∀ (p : Nat) (j : Int), ¬ (p = (ma + 1) ∨ (p = ma ∧ (j = 1))) → tm_g w55 p j = tm_g w p j := fun p j h => (hfw55 p j (by omega)).trans (hF0 p j h)
  refine ev_iconst dt_Ma_rateBy_5 ?_
  refine ev_istore_n (l' := [_, _, _, _, _, _, _, _, _]) dt_Ma_rateBy_6 rfl (Nat.le_of_ble_eq_true rfl) rfl ?_
  have L56 : ∀ (n : Nat) (i57 : Int)  (w58 : ab_W), tm_W N T w58 → (∀ (p : Nat) (j : Int), ¬ (p = (ma + 1) ∨ (p = ma ∧ (j = 1))) → tm_g w58 p j = tm_g w p j) → 0 ≤ i57 → i57 ≤ 2147483647 → 2147483647 - i57 < (n : Int) → ab_Ev g_G g_rs mt_Ma_rateBy 5 0 0 7 [some (ab_R ma), some (ab_R q), some (ab_R o), some (ab_I i57), none, none, none, none, none] [] w58 (tm_Qi N T (fun v w2 => (∀ (p : Nat) (j : Int), ¬ (p = (ma + 1) ∨ (p = ma ∧ (j = 1))) → tm_g w2 p j = tm_g w p j) ∧ ((-2147483648) ≤ v ∧ v ≤ 2147483647))) := by
    intro n
    induction n with
    | zero =>
      intro i57  w58 hWw58 hFw58 li57 ui57 mL56
      exfalso
      omega
    | succ nL56 ihL56 =>
      intro i57  w58 hWw58 hFw58 li57 ui57 mL56
      refine ev_iload_n dt_Ma_rateBy_7 rfl rfl ?_
      refine ev_aload_n dt_Ma_rateBy_8 rfl rfl ?_
      refine tm_getR dt_Ma_rateBy_9 hWw58 qt0 fl_Ma_19 rfl ?_
      refine tm_alen dt_Ma_rateBy_12 hWw58 qt1 (by decide) ?_
      refine ev_icmp_ge (tgt := 182) dt_Ma_rateBy_13 (by decide) (by omega) (by omega) (fun h59 => ?_) (fun h59 => ?_)
      · skip
        refine ev_iconst dt_Ma_rateBy_182 ?_
        exact ev_ireturn dt_Ma_rateBy_183 rfl ⟨hWw58, _, rfl, ⟨hFw58, by omega⟩⟩
      · skip
        refine ev_aload_n dt_Ma_rateBy_16 rfl rfl ?_
        refine tm_getR dt_Ma_rateBy_17 hWw58 qt0 fl_Ma_19 rfl ?_
        refine ev_iload_n dt_Ma_rateBy_20 rfl rfl ?_
        refine tm_iaload dt_Ma_rateBy_21 hWw58 qt1 (by omega) (by omega) (by omega) (fun v60 kv60 lv60 uv60 => ?_)
        refine ev_istore (l' := [_, _, _, _, _, _, _, _, _]) dt_Ma_rateBy_22 (Nat.le_of_ble_eq_true rfl) rfl ?_
        refine ev_iload dt_Ma_rateBy_24 rfl ?_
        refine ev_if_lt (tgt := 39) dt_Ma_rateBy_26 (by decide) (by omega) (fun h61 => ?_) (fun h61 => ?_)
        · skip
          refine ev_iload dt_Ma_rateBy_39 rfl ?_
          refine ev_bipush dt_Ma_rateBy_41 rfl ?_
          refine ev_icmp_lt (tgt := 62) dt_Ma_rateBy_43 (by decide) (by omega) (by omega) (fun h62 => ?_) (fun h62 => ?_)
          · skip
            refine ev_iload dt_Ma_rateBy_62 rfl ?_
            refine ev_bipush dt_Ma_rateBy_64 rfl ?_
            refine ev_icmp_ne (tgt := 93) dt_Ma_rateBy_66 (by decide) (by omega) (by omega) (fun h63 => ?_) (fun h63 => ?_)
            · skip
              refine ev_iload dt_Ma_rateBy_93 rfl ?_
              refine ev_bipush dt_Ma_rateBy_95 rfl ?_
              refine ev_icmp_ne (tgt := 108) dt_Ma_rateBy_97 (by decide) (by omega) (by omega) (fun h64 => ?_) (fun h64 => ?_)
              · skip
                refine ev_iload dt_Ma_rateBy_108 rfl ?_
                refine ev_bipush dt_Ma_rateBy_110 rfl ?_
                refine ev_icmp_ne (tgt := 151) dt_Ma_rateBy_112 (by decide) (by omega) (by omega) (fun h65 => ?_) (fun h65 => ?_)
                · skip
                  refine ev_aload_n dt_Ma_rateBy_151 rfl rfl ?_
                  refine tm_vj dt_Ma_rateBy_152 (tm_Ma_pop hWw58 h_ma) kb_Ma_33 ⟨im_Ma_pop, se_Ma_pop⟩ rfl hWw58 mat0 rfl (Nat.le_of_ble_eq_true rfl) (by decide) (fun w66 j67 hWw66 hRw66 => ?_)
                  have hfw66 := hRw66
                  have hFw66 : ∀ (p : Nat) (j : Int), ¬ (p = (ma + 1) ∨ (p = ma ∧ (j = 1))) → tm_g w66 p j = tm_g w p j := fun p j h => (hfw66 p j (by omega)).trans (hFw58 p j h)
                  refine ev_lstore (l' := [_, _, _, _, _, _, _, _, _]) dt_Ma_rateBy_155 (Nat.le_of_ble_eq_true rfl) rfl ?_
                  refine ev_aload_n dt_Ma_rateBy_157 rfl rfl ?_
                  refine tm_vj dt_Ma_rateBy_158 (tm_Ma_pop hWw66 h_ma) kb_Ma_33 ⟨im_Ma_pop, se_Ma_pop⟩ rfl hWw66 mat0 rfl (Nat.le_of_ble_eq_true rfl) (by decide) (fun w68 j69 hWw68 hRw68 => ?_)
                  have hfw68 := hRw68
                  have hFw68 : ∀ (p : Nat) (j : Int), ¬ (p = (ma + 1) ∨ (p = ma ∧ (j = 1))) → tm_g w68 p j = tm_g w p j := fun p j h => (hfw68 p j (by omega)).trans (hFw66 p j h)
                  refine ev_lstore (l' := [_, _, _, _, _, _, _, _, _]) dt_Ma_rateBy_161 (Nat.le_of_ble_eq_true rfl) rfl ?_
                  refine ev_aload_n dt_Ma_rateBy_163 rfl rfl ?_
                  refine ev_iload dt_Ma_rateBy_164 rfl ?_
                  refine ev_lload dt_Ma_rateBy_166 rfl ?_
                  refine ev_lload dt_Ma_rateBy_168 rfl ?_
                  refine tm_spJ dt_Ma_rateBy_170 (tm_Ma_joined hWw68 (v60) (by omega) (by omega) _ _) kb_Ma_45 sc_Ma_joined rfl (Nat.le_of_ble_eq_true rfl) (by decide) (fun j70 _ => ?_)
                  refine tm_vv dt_Ma_rateBy_173 (tm_Ma_push hWw68 h_ma _) kb_Ma_25 ⟨im_Ma_push, se_Ma_push⟩ rfl hWw68 mat0 rfl (Nat.le_of_ble_eq_true rfl) (by decide) (fun w71 hWw71 hRw71 => ?_)
                  have hfw71 := hRw71
                  have hFw71 : ∀ (p : Nat) (j : Int), ¬ (p = (ma + 1) ∨ (p = ma ∧ (j = 1))) → tm_g w71 p j = tm_g w p j := fun p j h => (hfw71 p j (by omega)).trans (hFw68 p j h)
                  refine ev_iinc (l' := [_, _, _, _, _, _, _, _, _]) dt_Ma_rateBy_176 rfl rfl ?_
                  refine ev_goto (tgt := 7) dt_Ma_rateBy_179 (by decide) ?_
                  exact tm_loc (tm_le_s (tm_le_s (tm_le_s (tm_le_s (tm_le_n (tm_le_n (tm_le_n (tm_le_n (tm_le_n tm_le_0))))))))) (ihL56 ((i57 + 1)) w71 hWw71 hFw71 (by omega) (by omega) (by omega))
                · skip
                  refine ev_aload_n dt_Ma_rateBy_115 rfl rfl ?_
                  refine tm_vj dt_Ma_rateBy_116 (tm_Ma_pop hWw58 h_ma) kb_Ma_33 ⟨im_Ma_pop, se_Ma_pop⟩ rfl hWw58 mat0 rfl (Nat.le_of_ble_eq_true rfl) (by decide) (fun w72 j73 hWw72 hRw72 => ?_)
                  have hfw72 := hRw72
                  have hFw72 : ∀ (p : Nat) (j : Int), ¬ (p = (ma + 1) ∨ (p = ma ∧ (j = 1))) → tm_g w72 p j = tm_g w p j := fun p j h => (hfw72 p j (by omega)).trans (hFw58 p j h)
                  refine ev_lconsti (n := 0) dt_Ma_rateBy_119 (by decide) ?_
                  refine tm_lcmp dt_Ma_rateBy_120 (fun v74 lv74 uv74 cv74 => ?_)
                  refine ev_if_eq (tgt := 128) dt_Ma_rateBy_121 (by decide) (by omega) (fun h75 => ?_) (fun h75 => ?_)
                  · skip
                    refine ev_iconst dt_Ma_rateBy_128 ?_
                    refine ev_istore (l' := [_, _, _, _, _, _, _, _, _]) dt_Ma_rateBy_129 (Nat.le_of_ble_eq_true rfl) rfl ?_
                    refine ev_aload_n dt_Ma_rateBy_131 rfl rfl ?_
                    refine tm_vj dt_Ma_rateBy_132 (tm_Ma_pop hWw72 h_ma) kb_Ma_33 ⟨im_Ma_pop, se_Ma_pop⟩ rfl hWw72 mat0 rfl (Nat.le_of_ble_eq_true rfl) (by decide) (fun w76 j77 hWw76 hRw76 => ?_)
                    have hfw76 := hRw76
                    have hFw76 : ∀ (p : Nat) (j : Int), ¬ (p = (ma + 1) ∨ (p = ma ∧ (j = 1))) → tm_g w76 p j = tm_g w p j := fun p j h => (hfw76 p j (by omega)).trans (hFw72 p j h)
                    refine ev_lstore (l' := [_, _, _, _, _, _, _, _, _]) dt_Ma_rateBy_135 (Nat.le_of_ble_eq_true rfl) rfl ?_
                    refine ev_iload dt_Ma_rateBy_137 rfl ?_
                    refine ev_if_eq (tgt := 148) dt_Ma_rateBy_139 (by decide) (by omega) (fun h78 => ?_) (fun h78 => ?_)
                    · skip
                      refine ev_goto (tgt := 176) dt_Ma_rateBy_148 (by decide) ?_
                      refine ev_iinc (l' := [_, _, _, _, _, _, _, _, _]) dt_Ma_rateBy_176 rfl rfl ?_
                      refine ev_goto (tgt := 7) dt_Ma_rateBy_179 (by decide) ?_
                      exact tm_loc (tm_le_s (tm_le_s (tm_le_s (tm_le_s (tm_le_n (tm_le_n (tm_le_n (tm_le_n (tm_le_n tm_le_0))))))))) (ihL56 ((i57 + 1)) w76 hWw76 hFw76 (by omega) (by omega) (by omega))
                    · skip
                      exfalso
                      omega
                  · skip
                    have nzv74 := cv74 (by omega)
                    refine ev_iconst dt_Ma_rateBy_124 ?_
                    refine ev_goto (tgt := 129) dt_Ma_rateBy_125 (by decide) ?_
                    refine ev_istore (l' := [_, _, _, _, _, _, _, _, _]) dt_Ma_rateBy_129 (Nat.le_of_ble_eq_true rfl) rfl ?_
                    refine ev_aload_n dt_Ma_rateBy_131 rfl rfl ?_
                    refine tm_vj dt_Ma_rateBy_132 (tm_Ma_pop hWw72 h_ma) kb_Ma_33 ⟨im_Ma_pop, se_Ma_pop⟩ rfl hWw72 mat0 rfl (Nat.le_of_ble_eq_true rfl) (by decide) (fun w79 j80 hWw79 hRw79 => ?_)
                    have hfw79 := hRw79
                    have hFw79 : ∀ (p : Nat) (j : Int), ¬ (p = (ma + 1) ∨ (p = ma ∧ (j = 1))) → tm_g w79 p j = tm_g w p j := fun p j h => (hfw79 p j (by omega)).trans (hFw72 p j h)
                    refine ev_lstore (l' := [_, _, _, _, _, _, _, _, _]) dt_Ma_rateBy_135 (Nat.le_of_ble_eq_true rfl) rfl ?_
                    refine ev_iload dt_Ma_rateBy_137 rfl ?_
                    refine ev_if_eq (tgt := 148) dt_Ma_rateBy_139 (by decide) (by omega) (fun h81 => ?_) (fun h81 => ?_)
                    · skip
                      exfalso
                      omega
                    · skip
                      refine ev_lload dt_Ma_rateBy_142 rfl ?_
                      refine tm_sp dt_Ma_rateBy_144 (tm_Ma_held hWw79 _) kb_Ma_41 sc_Ma_held rfl (Nat.le_of_ble_eq_true rfl) (by decide) (fun v82 hv82 => ?_)
                      exact ev_ireturn dt_Ma_rateBy_147 rfl ⟨hWw79, _, rfl, ⟨hFw79, by omega⟩⟩
              · skip
                refine ev_aload_n dt_Ma_rateBy_100 rfl rfl ?_
                refine tm_vj dt_Ma_rateBy_101 (tm_Ma_pop hWw58 h_ma) kb_Ma_33 ⟨im_Ma_pop, se_Ma_pop⟩ rfl hWw58 mat0 rfl (Nat.le_of_ble_eq_true rfl) (by decide) (fun w83 j84 hWw83 hRw83 => ?_)
                have hfw83 := hRw83
                have hFw83 : ∀ (p : Nat) (j : Int), ¬ (p = (ma + 1) ∨ (p = ma ∧ (j = 1))) → tm_g w83 p j = tm_g w p j := fun p j h => (hfw83 p j (by omega)).trans (hFw58 p j h)
                refine tm_sp dt_Ma_rateBy_104 (tm_Ma_held hWw83 _) kb_Ma_41 sc_Ma_held rfl (Nat.le_of_ble_eq_true rfl) (by decide) (fun v85 hv85 => ?_)
                exact ev_ireturn dt_Ma_rateBy_107 rfl ⟨hWw83, _, rfl, ⟨hFw83, by omega⟩⟩
            · skip
              refine ev_aload_n dt_Ma_rateBy_69 rfl rfl ?_
              refine ev_aload_n dt_Ma_rateBy_70 rfl rfl ?_
              refine tm_vj dt_Ma_rateBy_71 (tm_Ma_pop hWw58 h_ma) kb_Ma_33 ⟨im_Ma_pop, se_Ma_pop⟩ rfl hWw58 mat0 rfl (Nat.le_of_ble_eq_true rfl) (by decide) (fun w86 j87 hWw86 hRw86 => ?_)
              have hfw86 := hRw86
              have hFw86 : ∀ (p : Nat) (j : Int), ¬ (p = (ma + 1) ∨ (p = ma ∧ (j = 1))) → tm_g w86 p j = tm_g w p j := fun p j h => (hfw86 p j (by omega)).trans (hFw58 p j h)
              refine ev_lconsti (n := 0) dt_Ma_rateBy_74 (by decide) ?_
              refine tm_lcmp dt_Ma_rateBy_75 (fun v88 lv88 uv88 cv88 => ?_)
              refine ev_if_ne (tgt := 83) dt_Ma_rateBy_76 (by decide) (by omega) (fun h89 => ?_) (fun h89 => ?_)
              · skip
                have nzv88 := cv88 (by omega)
                refine ev_iconst dt_Ma_rateBy_83 ?_
                refine tm_spJ dt_Ma_rateBy_84 (tm_Ma_truth hWw86 (0) (by omega) (by omega)) kb_Ma_37 sc_Ma_truth rfl (Nat.le_of_ble_eq_true rfl) (by decide) (fun j90 _ => ?_)
                refine tm_vv dt_Ma_rateBy_87 (tm_Ma_push hWw86 h_ma _) kb_Ma_25 ⟨im_Ma_push, se_Ma_push⟩ rfl hWw86 mat0 rfl (Nat.le_of_ble_eq_true rfl) (by decide) (fun w91 hWw91 hRw91 => ?_)
                have hfw91 := hRw91
                have hFw91 : ∀ (p : Nat) (j : Int), ¬ (p = (ma + 1) ∨ (p = ma ∧ (j = 1))) → tm_g w91 p j = tm_g w p j := fun p j h => (hfw91 p j (by omega)).trans (hFw86 p j h)
                refine ev_goto (tgt := 176) dt_Ma_rateBy_90 (by decide) ?_
                refine ev_iinc (l' := [_, _, _, _, _, _, _, _, _]) dt_Ma_rateBy_176 rfl rfl ?_
                refine ev_goto (tgt := 7) dt_Ma_rateBy_179 (by decide) ?_
                exact tm_loc (tm_le_s (tm_le_s (tm_le_s (tm_le_s (tm_le_n (tm_le_n (tm_le_n (tm_le_n (tm_le_n tm_le_0))))))))) (ihL56 ((i57 + 1)) w91 hWw91 hFw91 (by omega) (by omega) (by omega))
              · skip
                refine ev_iconst dt_Ma_rateBy_79 ?_
                refine ev_goto (tgt := 84) dt_Ma_rateBy_80 (by decide) ?_
                refine tm_spJ dt_Ma_rateBy_84 (tm_Ma_truth hWw86 (1) (by omega) (by omega)) kb_Ma_37 sc_Ma_truth rfl (Nat.le_of_ble_eq_true rfl) (by decide) (fun j92 _ => ?_)
                refine tm_vv dt_Ma_rateBy_87 (tm_Ma_push hWw86 h_ma _) kb_Ma_25 ⟨im_Ma_push, se_Ma_push⟩ rfl hWw86 mat0 rfl (Nat.le_of_ble_eq_true rfl) (by decide) (fun w93 hWw93 hRw93 => ?_)
                have hfw93 := hRw93
                have hFw93 : ∀ (p : Nat) (j : Int), ¬ (p = (ma + 1) ∨ (p = ma ∧ (j = 1))) → tm_g w93 p j = tm_g w p j := fun p j h => (hfw93 p j (by omega)).trans (hFw86 p j h)
                refine ev_goto (tgt := 176) dt_Ma_rateBy_90 (by decide) ?_
                refine ev_iinc (l' := [_, _, _, _, _, _, _, _, _]) dt_Ma_rateBy_176 rfl rfl ?_
                refine ev_goto (tgt := 7) dt_Ma_rateBy_179 (by decide) ?_
                exact tm_loc (tm_le_s (tm_le_s (tm_le_s (tm_le_s (tm_le_n (tm_le_n (tm_le_n (tm_le_n (tm_le_n tm_le_0))))))))) (ihL56 ((i57 + 1)) w93 hWw93 hFw93 (by omega) (by omega) (by omega))
          · skip
            refine ev_aload_n dt_Ma_rateBy_46 rfl rfl ?_
            refine ev_iconst dt_Ma_rateBy_47 ?_
            refine ev_iload dt_Ma_rateBy_48 rfl ?_
            refine ev_isub dt_Ma_rateBy_50 ?_
            refine ev_aload_n dt_Ma_rateBy_51 rfl rfl ?_
            refine tm_sp dt_Ma_rateBy_52 (tm_Ma_wordOf hWw58 h_o (((-1) - v60)) (by omega) (by omega)) kb_Ma_29 sc_Ma_wordOf rfl (Nat.le_of_ble_eq_true rfl) (by decide) (fun v94 hv94 => ?_)
            refine ev_i2l dt_Ma_rateBy_55 (by omega) ?_
            refine tm_vv dt_Ma_rateBy_56 (tm_Ma_push hWw58 h_ma _) kb_Ma_25 ⟨im_Ma_push, se_Ma_push⟩ rfl hWw58 mat0 rfl (Nat.le_of_ble_eq_true rfl) (by decide) (fun w95 hWw95 hRw95 => ?_)
            have hfw95 := hRw95
            have hFw95 : ∀ (p : Nat) (j : Int), ¬ (p = (ma + 1) ∨ (p = ma ∧ (j = 1))) → tm_g w95 p j = tm_g w p j := fun p j h => (hfw95 p j (by omega)).trans (hFw58 p j h)
            refine ev_goto (tgt := 176) dt_Ma_rateBy_59 (by decide) ?_
            refine ev_iinc (l' := [_, _, _, _, _, _, _, _, _]) dt_Ma_rateBy_176 rfl rfl ?_
            refine ev_goto (tgt := 7) dt_Ma_rateBy_179 (by decide) ?_
            exact tm_loc (tm_le_s (tm_le_s (tm_le_s (tm_le_s (tm_le_n (tm_le_n (tm_le_n (tm_le_n (tm_le_n tm_le_0))))))))) (ihL56 ((i57 + 1)) w95 hWw95 hFw95 (by omega) (by omega) (by omega))
        · skip
          refine ev_aload_n dt_Ma_rateBy_29 rfl rfl ?_
          refine ev_iload dt_Ma_rateBy_30 rfl ?_
          refine ev_i2l dt_Ma_rateBy_32 (by omega) ?_
          refine tm_vv dt_Ma_rateBy_33 (tm_Ma_push hWw58 h_ma _) kb_Ma_25 ⟨im_Ma_push, se_Ma_push⟩ rfl hWw58 mat0 rfl (Nat.le_of_ble_eq_true rfl) (by decide) (fun w96 hWw96 hRw96 => ?_)
          have hfw96 := hRw96
          have hFw96 : ∀ (p : Nat) (j : Int), ¬ (p = (ma + 1) ∨ (p = ma ∧ (j = 1))) → tm_g w96 p j = tm_g w p j := fun p j h => (hfw96 p j (by omega)).trans (hFw58 p j h)
          refine ev_goto (tgt := 176) dt_Ma_rateBy_36 (by decide) ?_
          refine ev_iinc (l' := [_, _, _, _, _, _, _, _, _]) dt_Ma_rateBy_176 rfl rfl ?_
          refine ev_goto (tgt := 7) dt_Ma_rateBy_179 (by decide) ?_
          exact tm_loc (tm_le_s (tm_le_s (tm_le_s (tm_le_s (tm_le_n (tm_le_n (tm_le_n (tm_le_n (tm_le_n tm_le_0))))))))) (ihL56 ((i57 + 1)) w96 hWw96 hFw96 (by omega) (by omega) (by omega))
  exact tm_loc (tm_le_s (tm_le_s (tm_le_s (tm_le_s (tm_le_n (tm_le_n (tm_le_n (tm_le_n (tm_le_n tm_le_0))))))))) (L56 (2147483647 - (0) + 1 : Int).toNat (0)  w55 hWw55 hFw55 (by omega) (by omega) (by omega))
