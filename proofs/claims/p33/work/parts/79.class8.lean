/-! a sign of the TAPE: what it is, and where it ends -/
/-! the ACTS at a place c -/
def acl (c : Nat) (ki f1 s1 : Int → Int) (sz nx : Int) (w : ab_W) : Prop := w[c]? = some (ab_ob 0 [ab_R (c + 1), ab_R (c + 2), ab_R (c + 3), ab_I sz, ab_I nx]) ∧ w[c + 1]? = some (ab_ai 0 20 ki) ∧ w[c + 2]? = some (ab_ai 0 20 f1) ∧ w[c + 3]? = some (ab_ai 0 20 s1)
theorem acl_o {c : Nat} {ki f1 s1 : Int → Int} {sz nx sz2 nx2 : Int} {w : ab_W} (h : acl c ki f1 s1 sz nx w) : acl c ki f1 s1 sz2 nx2 (w.set c (ab_ob 0 [ab_R (c + 1), ab_R (c + 2), ab_R (c + 3), ab_I sz2, ab_I nx2])) := ⟨ab_gs h.1, ab_gn h.2.1 (by omega), ab_gn h.2.2.1 (by omega), ab_gn h.2.2.2 (by omega)⟩
theorem acl_1 {c : Nat} {ki f1 s1 ki2 : Int → Int} {sz nx : Int} {w : ab_W} (h : acl c ki f1 s1 sz nx w) : acl c ki2 f1 s1 sz nx (w.set (c + 1) (ab_ai 0 20 ki2)) := ⟨ab_gn h.1 (by omega), ab_gs h.2.1, ab_gn h.2.2.1 (by omega), ab_gn h.2.2.2 (by omega)⟩
theorem acl_2 {c : Nat} {ki f1 s1 f2 : Int → Int} {sz nx : Int} {w : ab_W} (h : acl c ki f1 s1 sz nx w) : acl c ki f2 s1 sz nx (w.set (c + 2) (ab_ai 0 20 f2)) := ⟨ab_gn h.1 (by omega), ab_gn h.2.1 (by omega), ab_gs h.2.2.1, ab_gn h.2.2.2 (by omega)⟩
theorem acl_3 {c : Nat} {ki f1 s1 s2 : Int → Int} {sz nx : Int} {w : ab_W} (h : acl c ki f1 s1 sz nx w) : acl c ki f1 s2 sz nx (w.set (c + 3) (ab_ai 0 20 s2)) := ⟨ab_gn h.1 (by omega), ab_gn h.2.1 (by omega), ab_gn h.2.2.1 (by omega), ab_gs h.2.2.2⟩
theorem de_Ac_keep_0 : decode prog_2_method_3_code 0 = .ok (.aload_n 0, 1) := by decide +kernel
theorem de_Ac_keep_1 : decode prog_2_method_3_code 1 = .ok (.getfield 9, 3) := by decide +kernel
theorem de_Ac_keep_4 : decode prog_2_method_3_code 4 = .ok (.aload_n 0, 1) := by decide +kernel
theorem de_Ac_keep_5 : decode prog_2_method_3_code 5 = .ok (.getfield 23, 3) := by decide +kernel
theorem de_Ac_keep_8 : decode prog_2_method_3_code 8 = .ok (.iload_n 1, 1) := by decide +kernel
theorem de_Ac_keep_9 : decode prog_2_method_3_code 9 = .ok (.iastore, 1) := by decide +kernel
theorem de_Ac_keep_10 : decode prog_2_method_3_code 10 = .ok (.aload_n 0, 1) := by decide +kernel
theorem de_Ac_keep_11 : decode prog_2_method_3_code 11 = .ok (.getfield 13, 3) := by decide +kernel
theorem de_Ac_keep_14 : decode prog_2_method_3_code 14 = .ok (.aload_n 0, 1) := by decide +kernel
theorem de_Ac_keep_15 : decode prog_2_method_3_code 15 = .ok (.getfield 23, 3) := by decide +kernel
theorem de_Ac_keep_18 : decode prog_2_method_3_code 18 = .ok (.iload_n 2, 1) := by decide +kernel
theorem de_Ac_keep_19 : decode prog_2_method_3_code 19 = .ok (.iastore, 1) := by decide +kernel
theorem de_Ac_keep_20 : decode prog_2_method_3_code 20 = .ok (.aload_n 0, 1) := by decide +kernel
theorem de_Ac_keep_21 : decode prog_2_method_3_code 21 = .ok (.getfield 16, 3) := by decide +kernel
theorem de_Ac_keep_24 : decode prog_2_method_3_code 24 = .ok (.aload_n 0, 1) := by decide +kernel
theorem de_Ac_keep_25 : decode prog_2_method_3_code 25 = .ok (.getfield 23, 3) := by decide +kernel
theorem de_Ac_keep_28 : decode prog_2_method_3_code 28 = .ok (.iload_n 3, 1) := by decide +kernel
theorem de_Ac_keep_29 : decode prog_2_method_3_code 29 = .ok (.iastore, 1) := by decide +kernel
theorem de_Ac_keep_30 : decode prog_2_method_3_code 30 = .ok (.aload_n 0, 1) := by decide +kernel
theorem de_Ac_keep_31 : decode prog_2_method_3_code 31 = .ok (.aload_n 0, 1) := by decide +kernel
theorem de_Ac_keep_32 : decode prog_2_method_3_code 32 = .ok (.getfield 23, 3) := by decide +kernel
theorem de_Ac_keep_35 : decode prog_2_method_3_code 35 = .ok (.iconst 1, 1) := by decide +kernel
theorem de_Ac_keep_36 : decode prog_2_method_3_code 36 = .ok (.iadd, 1) := by decide +kernel
theorem de_Ac_keep_37 : decode prog_2_method_3_code 37 = .ok (.bipush 20, 2) := by decide +kernel
theorem de_Ac_keep_39 : decode prog_2_method_3_code 39 = .ok (.irem, 1) := by decide +kernel
theorem de_Ac_keep_40 : decode prog_2_method_3_code 40 = .ok (.putfield 23, 3) := by decide +kernel
theorem de_Ac_keep_43 : decode prog_2_method_3_code 43 = .ok (.aload_n 0, 1) := by decide +kernel
theorem de_Ac_keep_44 : decode prog_2_method_3_code 44 = .ok (.aload_n 0, 1) := by decide +kernel
theorem de_Ac_keep_45 : decode prog_2_method_3_code 45 = .ok (.getfield 19, 3) := by decide +kernel
theorem de_Ac_keep_48 : decode prog_2_method_3_code 48 = .ok (.iconst 1, 1) := by decide +kernel
theorem de_Ac_keep_49 : decode prog_2_method_3_code 49 = .ok (.iadd, 1) := by decide +kernel
theorem de_Ac_keep_50 : decode prog_2_method_3_code 50 = .ok (.bipush 20, 2) := by decide +kernel
theorem de_Ac_keep_52 : decode prog_2_method_3_code 52 = .ok (.invokestatic 26, 3) := by decide +kernel
theorem de_Ac_keep_55 : decode prog_2_method_3_code 55 = .ok (.putfield 19, 3) := by decide +kernel
theorem de_Ac_keep_58 : decode prog_2_method_3_code 58 = .ok (.return_, 1) := by decide +kernel
set_option maxHeartbeats 4000000 in
set_option maxRecDepth 10000 in
theorem co_Ac_keep {c : Nat} {ki f1 s1 : Int → Int} {sz nx : Int} {w : ab_W} (hA : acl c ki f1 s1 sz nx w) (h0 : 0 ≤ nx) (h1 : nx < 20) (s0 : 0 ≤ sz) (s1b : sz ≤ 20) (a b d : Int) : ab_Mt g_G g_rs mt_Ac_keep 1 0 0 [ab_R c, ab_I a, ab_I b, ab_I d] w (fun r w2 => r = none ∧ acl c (ab_up ki nx a) (ab_up f1 nx b) (ab_up s1 nx d) (if 20 < sz + 1 then 20 else sz + 1) ((nx + 1) % 20) w2 ∧ fr_at c 4 w w2) := by
  have hf : fr_at c 4 w w := fr_0
  obtain ⟨c0, c1, c2, c3⟩ := id hA
  refine ab_Mt.of rfl (Nat.le_of_ble_eq_true rfl) ?_
  show ab_Ev g_G g_rs mt_Ac_keep _ _ _ 0 [some (ab_R c), some (ab_I a), some (ab_I b), some (ab_I d)] [] _ _
  refine ev_aload_n de_Ac_keep_0 rfl rfl ?_
  refine ev_getfield de_Ac_keep_1 c0 fl_Ac_9 rfl ?_
  refine ev_aload_n de_Ac_keep_4 rfl rfl ?_
  refine ev_getfield de_Ac_keep_5 c0 fl_Ac_23 rfl ?_
  refine ev_iload_n de_Ac_keep_8 rfl rfl ?_
  refine ev_iastore de_Ac_keep_9 c1 (by omega) (by omega) (by omega) ?_
  refine ev_gen (P := fun w1 => acl c (ab_up ki nx a) f1 s1 sz nx w1 ∧ fr_at c 4 w w1) ⟨acl_1 hA, fr_set hf (by omega) (by omega)⟩ (fun w1 hCf => ?_)
  obtain ⟨hA, hf⟩ := hCf
  obtain ⟨c0, c1, c2, c3⟩ := id hA
  refine ev_aload_n de_Ac_keep_10 rfl rfl ?_
  refine ev_getfield de_Ac_keep_11 c0 fl_Ac_13 rfl ?_
  refine ev_aload_n de_Ac_keep_14 rfl rfl ?_
  refine ev_getfield de_Ac_keep_15 c0 fl_Ac_23 rfl ?_
  refine ev_iload_n de_Ac_keep_18 rfl rfl ?_
  refine ev_iastore de_Ac_keep_19 c2 (by omega) (by omega) (by omega) ?_
  refine ev_gen (P := fun w1 => acl c (ab_up ki nx a) (ab_up f1 nx b) s1 sz nx w1 ∧ fr_at c 4 w w1) ⟨acl_2 hA, fr_set hf (by omega) (by omega)⟩ (fun w1 hCf => ?_)
  obtain ⟨hA, hf⟩ := hCf
  obtain ⟨c0, c1, c2, c3⟩ := id hA
  refine ev_aload_n de_Ac_keep_20 rfl rfl ?_
  refine ev_getfield de_Ac_keep_21 c0 fl_Ac_16 rfl ?_
  refine ev_aload_n de_Ac_keep_24 rfl rfl ?_
  refine ev_getfield de_Ac_keep_25 c0 fl_Ac_23 rfl ?_
  refine ev_iload_n de_Ac_keep_28 rfl rfl ?_
  refine ev_iastore de_Ac_keep_29 c3 (by omega) (by omega) (by omega) ?_
  refine ev_gen (P := fun w1 => acl c (ab_up ki nx a) (ab_up f1 nx b) (ab_up s1 nx d) sz nx w1 ∧ fr_at c 4 w w1) ⟨acl_3 hA, fr_set hf (by omega) (by omega)⟩ (fun w1 hCf => ?_)
  obtain ⟨hA, hf⟩ := hCf
  obtain ⟨c0, c1, c2, c3⟩ := id hA
  refine ev_aload_n de_Ac_keep_30 rfl rfl ?_
  refine ev_aload_n de_Ac_keep_31 rfl rfl ?_
  refine ev_getfield de_Ac_keep_32 c0 fl_Ac_23 rfl ?_
  refine ev_iconst de_Ac_keep_35 ?_
  refine ev_iadd de_Ac_keep_36 ?_
  refine ev_bipush de_Ac_keep_37 rfl ?_
  refine ev_irem de_Ac_keep_39 (by omega) (by omega) (by omega) ?_
  refine ev_top (congrArg Sum.inl (show (nx + 1).tmod 20 = (nx + 1) % 20 from (ab_tme (nx + 1) 20 (by decide)).1 (by omega))) ?_
  refine ev_putfield de_Ac_keep_40 c0 (fp_Ac_23 _) (Nat.le_of_ble_eq_true rfl) trivial ?_
  refine ev_gen (P := fun w1 => acl c (ab_up ki nx a) (ab_up f1 nx b) (ab_up s1 nx d) sz ((nx + 1) % 20) w1 ∧ fr_at c 4 w w1) ⟨acl_o hA, fr_set hf (by omega) (by omega)⟩ (fun w1 hCf => ?_)
  obtain ⟨hA, hf⟩ := hCf
  obtain ⟨c0, c1, c2, c3⟩ := id hA
  refine ev_aload_n de_Ac_keep_43 rfl rfl ?_
  refine ev_aload_n de_Ac_keep_44 rfl rfl ?_
  refine ev_getfield de_Ac_keep_45 c0 fl_Ac_19 rfl ?_
  refine ev_iconst de_Ac_keep_48 ?_
  refine ev_iadd de_Ac_keep_49 ?_
  refine ev_bipush de_Ac_keep_50 rfl ?_
  refine ev_mmin (by omega) (by omega) de_Ac_keep_52 mk_Ac_26 (Nat.le_of_ble_eq_true rfl) (by decide) ?_
  refine ev_putfield de_Ac_keep_55 c0 (fp_Ac_19 _) (Nat.le_of_ble_eq_true rfl) trivial ?_
  refine ev_gen (P := fun w1 => acl c (ab_up ki nx a) (ab_up f1 nx b) (ab_up s1 nx d) (if 20 < sz + 1 then 20 else sz + 1) ((nx + 1) % 20) w1 ∧ fr_at c 4 w w1) ⟨acl_o hA, fr_set hf (by omega) (by omega)⟩ (fun w1 hCf => ?_)
  obtain ⟨hA, hf⟩ := hCf
  obtain ⟨c0, c1, c2, c3⟩ := id hA
  exact ev_return de_Ac_keep_58 rfl ⟨rfl, hA, hf⟩
theorem de_Ac_forget_0 : decode prog_2_method_2_code 0 = .ok (.aload_n 0, 1) := by decide +kernel
theorem de_Ac_forget_1 : decode prog_2_method_2_code 1 = .ok (.iconst 0, 1) := by decide +kernel
theorem de_Ac_forget_2 : decode prog_2_method_2_code 2 = .ok (.putfield 19, 3) := by decide +kernel
theorem de_Ac_forget_5 : decode prog_2_method_2_code 5 = .ok (.return_, 1) := by decide +kernel
set_option maxHeartbeats 4000000 in
set_option maxRecDepth 10000 in
theorem co_Ac_forget {c : Nat} {ki f1 s1 : Int → Int} {sz nx : Int} {w : ab_W} (hA : acl c ki f1 s1 sz nx w) : ab_Mt g_G g_rs mt_Ac_forget 0 0 0 [ab_R c] w (fun r w2 => r = none ∧ acl c ki f1 s1 0 nx w2 ∧ fr_at c 4 w w2) := by
  have hf : fr_at c 4 w w := fr_0
  obtain ⟨c0, c1, c2, c3⟩ := id hA
  refine ab_Mt.of rfl (Nat.le_of_ble_eq_true rfl) ?_
  show ab_Ev g_G g_rs mt_Ac_forget _ _ _ 0 [some (ab_R c)] [] _ _
  refine ev_aload_n de_Ac_forget_0 rfl rfl ?_
  refine ev_iconst de_Ac_forget_1 ?_
  refine ev_putfield de_Ac_forget_2 c0 (fp_Ac_19 _) (Nat.le_of_ble_eq_true rfl) trivial ?_
  refine ev_gen (P := fun w1 => acl c ki f1 s1 (0) nx w1 ∧ fr_at c 4 w w1) ⟨acl_o hA, fr_set hf (by omega) (by omega)⟩ (fun w1 hCf => ?_)
  obtain ⟨hA, hf⟩ := hCf
  obtain ⟨c0, c1, c2, c3⟩ := id hA
  exact ev_return de_Ac_forget_5 rfl ⟨rfl, hA, hf⟩
theorem de_Tu_isDirection_0 : decode prog_1_method_39_code 0 = .ok (.iload_n 0, 1) := by decide +kernel
theorem de_Tu_isDirection_1 : decode prog_1_method_39_code 1 = .ok (.ifCond .lt 13, 3) := by decide +kernel
theorem de_Tu_isDirection_4 : decode prog_1_method_39_code 4 = .ok (.iload_n 0, 1) := by decide +kernel
theorem de_Tu_isDirection_5 : decode prog_1_method_39_code 5 = .ok (.bipush 12, 2) := by decide +kernel
theorem de_Tu_isDirection_7 : decode prog_1_method_39_code 7 = .ok (.if_icmp .ge 7, 3) := by decide +kernel
theorem de_Tu_isDirection_10 : decode prog_1_method_39_code 10 = .ok (.iconst 1, 1) := by decide +kernel
theorem de_Tu_isDirection_11 : decode prog_1_method_39_code 11 = .ok (.goto 4, 3) := by decide +kernel
theorem de_Tu_isDirection_14 : decode prog_1_method_39_code 14 = .ok (.iconst 0, 1) := by decide +kernel
theorem de_Tu_isDirection_15 : decode prog_1_method_39_code 15 = .ok (.ireturn, 1) := by decide +kernel
set_option maxHeartbeats 4000000 in
set_option maxRecDepth 10000 in
theorem co_Tu_isDirection (w : ab_W) (v : Int) (hv : ab_in v) : ab_Mt g_G g_rs mt_Tu_isDirection 0 0 0 [ab_I v] w (ab_is (some (ab_I (if 0 ≤ v ∧ v ≤ 11 then 1 else 0))) w) := by
  refine ab_Mt.of rfl (Nat.le_of_ble_eq_true rfl) ?_
  show ab_Ev g_G g_rs mt_Tu_isDirection _ _ _ 0 [some (ab_I v)] [] _ _
  refine ev_iload_n de_Tu_isDirection_0 rfl rfl ?_
  refine ev_if_lt (tgt := 14) de_Tu_isDirection_1 (by decide) (by omega) (fun h1 => ?_) (fun h1 => ?_)
  · skip
    refine ev_iconst de_Tu_isDirection_14 ?_
    exact ev_zreturn de_Tu_isDirection_15 rfl (by omega) ⟨by first | rw [if_pos (by omega)] | rw [if_neg (by omega)], rfl⟩
  · skip
    refine ev_iload_n de_Tu_isDirection_4 rfl rfl ?_
    refine ev_bipush de_Tu_isDirection_5 rfl ?_
    refine ev_icmp_ge (tgt := 14) de_Tu_isDirection_7 (by decide) (by omega) (by omega) (fun h7 => ?_) (fun h7 => ?_)
    · skip
      refine ev_iconst de_Tu_isDirection_14 ?_
      exact ev_zreturn de_Tu_isDirection_15 rfl (by omega) ⟨by first | rw [if_pos (by omega)] | rw [if_neg (by omega)], rfl⟩
    · skip
      refine ev_iconst de_Tu_isDirection_10 ?_
      refine ev_goto (tgt := 15) de_Tu_isDirection_11 (by decide) ?_
      exact ev_zreturn de_Tu_isDirection_15 rfl (by omega) ⟨by first | rw [if_pos (by omega)] | rw [if_neg (by omega)], rfl⟩
theorem de_Tu_isHour_0 : decode prog_1_method_40_code 0 = .ok (.iload_n 0, 1) := by decide +kernel
theorem de_Tu_isHour_1 : decode prog_1_method_40_code 1 = .ok (.ifCond .lt 13, 3) := by decide +kernel
theorem de_Tu_isHour_4 : decode prog_1_method_40_code 4 = .ok (.iload_n 0, 1) := by decide +kernel
theorem de_Tu_isHour_5 : decode prog_1_method_40_code 5 = .ok (.bipush 24, 2) := by decide +kernel
theorem de_Tu_isHour_7 : decode prog_1_method_40_code 7 = .ok (.if_icmp .ge 7, 3) := by decide +kernel
theorem de_Tu_isHour_10 : decode prog_1_method_40_code 10 = .ok (.iconst 1, 1) := by decide +kernel
theorem de_Tu_isHour_11 : decode prog_1_method_40_code 11 = .ok (.goto 4, 3) := by decide +kernel
theorem de_Tu_isHour_14 : decode prog_1_method_40_code 14 = .ok (.iconst 0, 1) := by decide +kernel
theorem de_Tu_isHour_15 : decode prog_1_method_40_code 15 = .ok (.ireturn, 1) := by decide +kernel
set_option maxHeartbeats 4000000 in
set_option maxRecDepth 10000 in
theorem co_Tu_isHour (w : ab_W) (v : Int) (hv : ab_in v) : ab_Mt g_G g_rs mt_Tu_isHour 0 0 0 [ab_I v] w (ab_is (some (ab_I (if 0 ≤ v ∧ v ≤ 23 then 1 else 0))) w) := by
  refine ab_Mt.of rfl (Nat.le_of_ble_eq_true rfl) ?_
  show ab_Ev g_G g_rs mt_Tu_isHour _ _ _ 0 [some (ab_I v)] [] _ _
  refine ev_iload_n de_Tu_isHour_0 rfl rfl ?_
  refine ev_if_lt (tgt := 14) de_Tu_isHour_1 (by decide) (by omega) (fun h1 => ?_) (fun h1 => ?_)
  · skip
    refine ev_iconst de_Tu_isHour_14 ?_
    exact ev_zreturn de_Tu_isHour_15 rfl (by omega) ⟨by first | rw [if_pos (by omega)] | rw [if_neg (by omega)], rfl⟩
  · skip
    refine ev_iload_n de_Tu_isHour_4 rfl rfl ?_
    refine ev_bipush de_Tu_isHour_5 rfl ?_
    refine ev_icmp_ge (tgt := 14) de_Tu_isHour_7 (by decide) (by omega) (by omega) (fun h7 => ?_) (fun h7 => ?_)
    · skip
      refine ev_iconst de_Tu_isHour_14 ?_
      exact ev_zreturn de_Tu_isHour_15 rfl (by omega) ⟨by first | rw [if_pos (by omega)] | rw [if_neg (by omega)], rfl⟩
    · skip
      refine ev_iconst de_Tu_isHour_10 ?_
      refine ev_goto (tgt := 15) de_Tu_isHour_11 (by decide) ?_
      exact ev_zreturn de_Tu_isHour_15 rfl (by omega) ⟨by first | rw [if_pos (by omega)] | rw [if_neg (by omega)], rfl⟩
theorem de_Tu_isSort_0 : decode prog_1_method_41_code 0 = .ok (.iload_n 0, 1) := by decide +kernel
theorem de_Tu_isSort_1 : decode prog_1_method_41_code 1 = .ok (.ifCond .lt 12, 3) := by decide +kernel
theorem de_Tu_isSort_4 : decode prog_1_method_41_code 4 = .ok (.iload_n 0, 1) := by decide +kernel
theorem de_Tu_isSort_5 : decode prog_1_method_41_code 5 = .ok (.iconst 5, 1) := by decide +kernel
theorem de_Tu_isSort_6 : decode prog_1_method_41_code 6 = .ok (.if_icmp .ge 7, 3) := by decide +kernel
theorem de_Tu_isSort_9 : decode prog_1_method_41_code 9 = .ok (.iconst 1, 1) := by decide +kernel
theorem de_Tu_isSort_10 : decode prog_1_method_41_code 10 = .ok (.goto 4, 3) := by decide +kernel
theorem de_Tu_isSort_13 : decode prog_1_method_41_code 13 = .ok (.iconst 0, 1) := by decide +kernel
theorem de_Tu_isSort_14 : decode prog_1_method_41_code 14 = .ok (.ireturn, 1) := by decide +kernel
set_option maxHeartbeats 4000000 in
set_option maxRecDepth 10000 in
theorem co_Tu_isSort (w : ab_W) (v : Int) (hv : ab_in v) : ab_Mt g_G g_rs mt_Tu_isSort 0 0 0 [ab_I v] w (ab_is (some (ab_I (if 0 ≤ v ∧ v ≤ 4 then 1 else 0))) w) := by
  refine ab_Mt.of rfl (Nat.le_of_ble_eq_true rfl) ?_
  show ab_Ev g_G g_rs mt_Tu_isSort _ _ _ 0 [some (ab_I v)] [] _ _
  refine ev_iload_n de_Tu_isSort_0 rfl rfl ?_
  refine ev_if_lt (tgt := 13) de_Tu_isSort_1 (by decide) (by omega) (fun h1 => ?_) (fun h1 => ?_)
  · skip
    refine ev_iconst de_Tu_isSort_13 ?_
    exact ev_zreturn de_Tu_isSort_14 rfl (by omega) ⟨by first | rw [if_pos (by omega)] | rw [if_neg (by omega)], rfl⟩
  · skip
    refine ev_iload_n de_Tu_isSort_4 rfl rfl ?_
    refine ev_iconst de_Tu_isSort_5 ?_
    refine ev_icmp_ge (tgt := 13) de_Tu_isSort_6 (by decide) (by omega) (by omega) (fun h6 => ?_) (fun h6 => ?_)
    · skip
      refine ev_iconst de_Tu_isSort_13 ?_
      exact ev_zreturn de_Tu_isSort_14 rfl (by omega) ⟨by first | rw [if_pos (by omega)] | rw [if_neg (by omega)], rfl⟩
    · skip
      refine ev_iconst de_Tu_isSort_9 ?_
      refine ev_goto (tgt := 14) de_Tu_isSort_10 (by decide) ?_
      exact ev_zreturn de_Tu_isSort_14 rfl (by omega) ⟨by first | rw [if_pos (by omega)] | rw [if_neg (by omega)], rfl⟩
