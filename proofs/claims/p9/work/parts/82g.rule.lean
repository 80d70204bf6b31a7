theorem dt_Ar_copyOf_0 : decode prog_22_method_123_code 0 = .ok (.iload_n 1, 1) := by decide +kernel
theorem dt_Ar_copyOf_1 : decode prog_22_method_123_code 1 = .ok (.aload_n 0, 1) := by decide +kernel
theorem dt_Ar_copyOf_2 : decode prog_22_method_123_code 2 = .ok (.arraylength, 1) := by decide +kernel
theorem dt_Ar_copyOf_3 : decode prog_22_method_123_code 3 = .ok (.if_icmp .ne 11, 3) := by decide +kernel
theorem dt_Ar_copyOf_6 : decode prog_22_method_123_code 6 = .ok (.aload_n 0, 1) := by decide +kernel
theorem dt_Ar_copyOf_7 : decode prog_22_method_123_code 7 = .ok (.invokevirtual 316, 3) := by decide +kernel
theorem dt_Ar_copyOf_10 : decode prog_22_method_123_code 10 = .ok (.checkcast 317, 3) := by decide +kernel
theorem dt_Ar_copyOf_13 : decode prog_22_method_123_code 13 = .ok (.areturn, 1) := by decide +kernel
theorem dt_Ar_copyOf_14 : decode prog_22_method_123_code 14 = .ok (.iload_n 1, 1) := by decide +kernel
theorem dt_Ar_copyOf_15 : decode prog_22_method_123_code 15 = .ok (.newarray .int, 2) := by decide +kernel
theorem dt_Ar_copyOf_17 : decode prog_22_method_123_code 17 = .ok (.astore_n 2, 1) := by decide +kernel
theorem dt_Ar_copyOf_18 : decode prog_22_method_123_code 18 = .ok (.aload_n 0, 1) := by decide +kernel
theorem dt_Ar_copyOf_19 : decode prog_22_method_123_code 19 = .ok (.iconst 0, 1) := by decide +kernel
theorem dt_Ar_copyOf_20 : decode prog_22_method_123_code 20 = .ok (.aload_n 2, 1) := by decide +kernel
theorem dt_Ar_copyOf_21 : decode prog_22_method_123_code 21 = .ok (.iconst 0, 1) := by decide +kernel
theorem dt_Ar_copyOf_22 : decode prog_22_method_123_code 22 = .ok (.aload_n 0, 1) := by decide +kernel
theorem dt_Ar_copyOf_23 : decode prog_22_method_123_code 23 = .ok (.arraylength, 1) := by decide +kernel
theorem dt_Ar_copyOf_24 : decode prog_22_method_123_code 24 = .ok (.iload_n 1, 1) := by decide +kernel
theorem dt_Ar_copyOf_25 : decode prog_22_method_123_code 25 = .ok (.invokestatic 304, 3) := by decide +kernel
theorem dt_Ar_copyOf_28 : decode prog_22_method_123_code 28 = .ok (.invokestatic 150, 3) := by decide +kernel
theorem dt_Ar_copyOf_31 : decode prog_22_method_123_code 31 = .ok (.aload_n 2, 1) := by decide +kernel
theorem dt_Ar_copyOf_32 : decode prog_22_method_123_code 32 = .ok (.areturn, 1) := by decide +kernel
theorem dt_Ru_codeRead_0 : decode prog_10_method_3_code 0 = .ok (.aload_n 0, 1) := by decide +kernel
theorem dt_Ru_codeRead_1 : decode prog_10_method_3_code 1 = .ok (.getfield 9, 3) := by decide +kernel
theorem dt_Ru_codeRead_4 : decode prog_10_method_3_code 4 = .ok (.aload_n 0, 1) := by decide +kernel
theorem dt_Ru_codeRead_5 : decode prog_10_method_3_code 5 = .ok (.getfield 23, 3) := by decide +kernel
theorem dt_Ru_codeRead_8 : decode prog_10_method_3_code 8 = .ok (.invokestatic 59, 3) := by decide +kernel
theorem dt_Ru_codeRead_11 : decode prog_10_method_3_code 11 = .ok (.areturn, 1) := by decide +kernel
theorem dt_Ro_init_0 : decode prog_9_method_1_code 0 = .ok (.aload_n 0, 1) := by decide +kernel
theorem dt_Ro_init_1 : decode prog_9_method_1_code 1 = .ok (.invokespecial 1, 3) := by decide +kernel
theorem dt_Ro_init_4 : decode prog_9_method_1_code 4 = .ok (.aload_n 0, 1) := by decide +kernel
theorem dt_Ro_init_5 : decode prog_9_method_1_code 5 = .ok (.aload_n 1, 1) := by decide +kernel
theorem dt_Ro_init_6 : decode prog_9_method_1_code 6 = .ok (.putfield 7, 3) := by decide +kernel
theorem dt_Ro_init_9 : decode prog_9_method_1_code 9 = .ok (.return_, 1) := by decide +kernel
theorem mk_Ar_304 : ab_mk g_G "java/util/Arrays" 304 Lib.Math.min.name Lib.Math.min.code 2 .int := ⟨g_memT (g_t3 112 rfl) rfl, g_memT (g_t3 113 rfl) rfl, g_memT (g_t1 18 rfl) rfl, g_memT (g_t3 114 rfl) rfl⟩
theorem cw_clone : Cond.castable "[I" "java/lang/Cloneable" ∈ g_G.2.2.1 := g_memM (g_t3 110 rfl) rfl
theorem ab_okL_ri {n i : Nat} {x : Int} (h : i < n) : ab_okL n [some (ab_R i), some (ab_I x), none] := by
  intro k v hk
  match k with
  | 0 => cases hk; exact Or.inl h
  | 1 => cases hk; trivial
  | 2 => cases hk
  | k + 3 => cases hk
set_option maxRecDepth 10000 in
theorem tm_copyOf {w : ab_W} {o n : Nat} {f : Int → Int} {m : Int} (hc : w[o]? = some (ab_ai 0 n f)) (hn : n ≤ 400) (hb : ∀ k, -2147483648 ≤ f k ∧ f k ≤ 2147483647) (h0 : 0 ≤ m) (h1 : m ≤ n) (hlt : w.length < ab_sb) (hW : ab_okW w) : ab_Mt g_G g_rs mt_Ar_copyOf 1 1 400 [ab_R o, ab_I m] w (fun r w2 => r = some (ab_R w.length) ∧ ∃ (n2 : Nat) (g : Int → Int), w2 = w ++ [ab_ai 0 n2 g] ∧ n2 ≤ 400 ∧ ∀ k, -2147483648 ≤ g k ∧ g k ≤ 2147483647) := by
  have hlo := tm_lt hc
  refine ab_Mt.of rfl (Nat.le_of_ble_eq_true rfl) ?_
  show ab_Ev g_G g_rs mt_Ar_copyOf _ _ _ 0 [some (ab_R o), some (ab_I m), none] [] _ _
  refine ev_iload_n dt_Ar_copyOf_0 rfl rfl ?_
  refine ev_aload_n dt_Ar_copyOf_1 rfl rfl ?_
  refine ev_alen (t := 0) dt_Ar_copyOf_2 hc (Or.inl ⟨0, f, by decide, rfl⟩) ?_
  refine ev_icmp_ne (tgt := 14) dt_Ar_copyOf_3 (by decide) (by omega) (by omega) (fun h3 => ?_) (fun h3 => ?_)
  · refine tm_room (bc := 0 + 1) (bs := 0 + m.toNat) (by omega) (by omega) ?_
    refine ev_iload_n dt_Ar_copyOf_14 rfl rfl ?_
    refine ev_newai (n := m) dt_Ar_copyOf_15 ac_int h0 (by omega) hlt hW (ab_okL_ri hlo) ab_okS_n ?_
    refine ev_astore_n (l' := [_, _, _]) dt_Ar_copyOf_17 rfl (Nat.le_of_ble_eq_true rfl) rfl ?_
    refine ev_aload_n dt_Ar_copyOf_18 rfl rfl ?_
    refine ev_iconst dt_Ar_copyOf_19 ?_
    refine ev_aload_n dt_Ar_copyOf_20 rfl rfl ?_
    refine ev_iconst dt_Ar_copyOf_21 ?_
    refine ev_aload_n dt_Ar_copyOf_22 rfl rfl ?_
    refine ev_alen (t := 0) dt_Ar_copyOf_23 (ab_ga hc) (Or.inl ⟨0, f, by decide, rfl⟩) ?_
    refine ev_iload_n dt_Ar_copyOf_24 rfl rfl ?_
    refine tm_min (by omega) (by omega) dt_Ar_copyOf_25 mk_Ar_304 (Nat.le_of_ble_eq_true rfl) (by decide) (fun v x1 x2 x3 => ?_)
    refine ev_copyi dt_Ar_copyOf_28 ck_Ar_150 (by decide) (ab_ga hc) ab_gl (by omega) (by omega) (Or.inl rfl) (Nat.le_of_ble_eq_true rfl) (by decide) ?_
    refine ev_aload_n dt_Ar_copyOf_31 rfl rfl ?_
    refine ev_areturn dt_Ar_copyOf_32 rfl (Or.inr ⟨_, rfl⟩) ⟨rfl, m.toNat, _, ab_sl1, by omega, fun k => ?_⟩
    unfold ab_cp
    split
    · exact hb _
    · show (-2147483648 : Int) ≤ 0 ∧ (0 : Int) ≤ 2147483647
      decide
  · refine tm_room (bc := 0 + 1) (bs := 0 + n) (by omega) (by omega) ?_
    refine ev_aload_n dt_Ar_copyOf_6 rfl rfl ?_
    refine ev_cloneI dt_Ar_copyOf_7 (g_memT (g_t3 105 rfl) rfl) (g_memT (g_t3 106 rfl) rfl) (g_memT (g_t3 107 rfl) rfl) (g_memT (g_t3 108 rfl) rfl) (g_memT (g_t3 109 rfl) rfl) cw_clone hc hlt hW (ab_okL_ri hlo) ab_okS_n (Nat.le_of_ble_eq_true rfl) (by decide) ?_
    refine ev_castI dt_Ar_copyOf_10 (g_memT (g_t3 111 rfl) rfl) ab_gl ?_
    exact ev_areturn dt_Ar_copyOf_13 rfl (Or.inr ⟨_, rfl⟩) ⟨rfl, n, f, rfl, hn, hb⟩
set_option maxRecDepth 10000 in
theorem tm_codeRead {w : ab_W} {rr o n : Nat} {vs : List ab_V} {f : Int → Int} {m : Int} (hc : w[rr]? = some (ab_ob 7 vs)) (hv0 : vs[0]? = some (ab_R o)) (hv1 : vs[1]? = some (ab_I m)) (ho : w[o]? = some (ab_ai 0 n f)) (hn : n ≤ 400) (hb : ∀ k, -2147483648 ≤ f k ∧ f k ≤ 2147483647) (h0 : 0 ≤ m) (h1 : m ≤ n) (hlt : w.length < ab_sb) (hW : ab_okW w) : ab_Mt g_G g_rs mt_Ru_codeRead 2 1 400 [ab_R rr] w (fun r w2 => r = some (ab_R w.length) ∧ ∃ (n2 : Nat) (g : Int → Int), w2 = w ++ [ab_ai 0 n2 g] ∧ n2 ≤ 400 ∧ ∀ k, -2147483648 ≤ g k ∧ g k ≤ 2147483647) := by
  have hlo := tm_lt hc
  refine ab_Mt.of rfl (Nat.le_of_ble_eq_true rfl) ?_
  show ab_Ev g_G g_rs mt_Ru_codeRead _ _ _ 0 [some (ab_R rr)] [] _ _
  refine ev_aload_n dt_Ru_codeRead_0 rfl rfl ?_
  refine ev_getfield dt_Ru_codeRead_1 hc fl_Ru_9 hv0 ?_
  refine ev_aload_n dt_Ru_codeRead_4 rfl rfl ?_
  refine ev_getfield dt_Ru_codeRead_5 hc fl_Ru_23 hv1 ?_
  refine ev_static (bc := 0) (bs := 0) dt_Ru_codeRead_8 (tm_copyOf ho hn hb h0 h1 hlt hW) kb_Ru_59 sc_Ar_copyOf rfl (Nat.le_of_ble_eq_true rfl) (by decide) (Or.inr ⟨fun k v hk => ?_, ab_okS_n⟩) (fun r w1 hq => ?_)
  · match k with
    | 0 => cases hk; exact Or.inl hlo
    | k + 1 => cases hk
  · obtain ⟨rfl, hq⟩ := hq
    exact ev_areturn dt_Ru_codeRead_11 rfl (Or.inr ⟨_, rfl⟩) ⟨rfl, hq⟩
set_option maxRecDepth 10000 in
theorem tm_RoInit {w : ab_W} {q c : Nat} {v0 : ab_V} (hc : w[q]? = some (ab_ob 6 [v0])) : ab_Mt g_G g_rs mt_Ro_init 1 0 0 [ab_R q, ab_R c] w (ab_is none (w.set q (ab_ob 6 [ab_R c]))) := by
  refine ab_Mt.of rfl (Nat.le_of_ble_eq_true rfl) ?_
  show ab_Ev g_G g_rs mt_Ro_init _ _ _ 0 [some (ab_R q), some (ab_R c)] [] _ _
  refine ev_aload_n dt_Ro_init_0 rfl rfl ?_
  refine ev_objInit dt_Ro_init_1 oi_Ro (Nat.le_of_ble_eq_true rfl) (by decide) ?_
  refine ev_aload_n dt_Ro_init_4 rfl rfl ?_
  refine ev_aload_n dt_Ro_init_5 rfl rfl ?_
  refine ev_putfield dt_Ro_init_6 hc fp_Ro_7 (Nat.le_of_ble_eq_true rfl) trivial ?_
  exact ev_return dt_Ro_init_9 rfl ⟨rfl, rfl⟩
theorem dt_Tu_rule_0 : decode prog_1_method_5_code 0 = .ok (.aload_n 0, 1) := by decide +kernel
theorem dt_Tu_rule_1 : decode prog_1_method_5_code 1 = .ok (.getfield 105, 3) := by decide +kernel
theorem dt_Tu_rule_4 : decode prog_1_method_5_code 4 = .ok (.bipush 6, 2) := by decide +kernel
theorem dt_Tu_rule_6 : decode prog_1_method_5_code 6 = .ok (.if_icmp .lt 5, 3) := by decide +kernel
theorem dt_Tu_rule_9 : decode prog_1_method_5_code 9 = .ok (.iconst (-1), 1) := by decide +kernel
theorem dt_Tu_rule_10 : decode prog_1_method_5_code 10 = .ok (.ireturn, 1) := by decide +kernel
theorem dt_Tu_rule_11 : decode prog_1_method_5_code 11 = .ok (.aload_n 0, 1) := by decide +kernel
theorem dt_Tu_rule_12 : decode prog_1_method_5_code 12 = .ok (.getfield 50, 3) := by decide +kernel
theorem dt_Tu_rule_15 : decode prog_1_method_5_code 15 = .ok (.aload_n 0, 1) := by decide +kernel
theorem dt_Tu_rule_16 : decode prog_1_method_5_code 16 = .ok (.getfield 10, 3) := by decide +kernel
theorem dt_Tu_rule_19 : decode prog_1_method_5_code 19 = .ok (.invokevirtual 108, 3) := by decide +kernel
theorem dt_Tu_rule_22 : decode prog_1_method_5_code 22 = .ok (.istore_n 1, 1) := by decide +kernel
theorem dt_Tu_rule_23 : decode prog_1_method_5_code 23 = .ok (.aload_n 0, 1) := by decide +kernel
theorem dt_Tu_rule_24 : decode prog_1_method_5_code 24 = .ok (.getfield 10, 3) := by decide +kernel
theorem dt_Tu_rule_27 : decode prog_1_method_5_code 27 = .ok (.iconst 0, 1) := by decide +kernel
theorem dt_Tu_rule_28 : decode prog_1_method_5_code 28 = .ok (.putfield 82, 3) := by decide +kernel
theorem dt_Tu_rule_31 : decode prog_1_method_5_code 31 = .ok (.iload_n 1, 1) := by decide +kernel
theorem dt_Tu_rule_32 : decode prog_1_method_5_code 32 = .ok (.ifCond .eq 8, 3) := by decide +kernel
theorem dt_Tu_rule_35 : decode prog_1_method_5_code 35 = .ok (.bipush (-2), 2) := by decide +kernel
theorem dt_Tu_rule_37 : decode prog_1_method_5_code 37 = .ok (.iload_n 1, 1) := by decide +kernel
theorem dt_Tu_rule_38 : decode prog_1_method_5_code 38 = .ok (.isub, 1) := by decide +kernel
theorem dt_Tu_rule_39 : decode prog_1_method_5_code 39 = .ok (.ireturn, 1) := by decide +kernel
theorem dt_Tu_rule_40 : decode prog_1_method_5_code 40 = .ok (.aload_n 0, 1) := by decide +kernel
theorem dt_Tu_rule_41 : decode prog_1_method_5_code 41 = .ok (.getfield 36, 3) := by decide +kernel
theorem dt_Tu_rule_44 : decode prog_1_method_5_code 44 = .ok (.aload_n 0, 1) := by decide +kernel
theorem dt_Tu_rule_45 : decode prog_1_method_5_code 45 = .ok (.getfield 105, 3) := by decide +kernel
theorem dt_Tu_rule_48 : decode prog_1_method_5_code 48 = .ok (.new 34, 3) := by decide +kernel
theorem dt_Tu_rule_51 : decode prog_1_method_5_code 51 = .ok (.dup, 1) := by decide +kernel
theorem dt_Tu_rule_52 : decode prog_1_method_5_code 52 = .ok (.aload_n 0, 1) := by decide +kernel
theorem dt_Tu_rule_53 : decode prog_1_method_5_code 53 = .ok (.getfield 50, 3) := by decide +kernel
theorem dt_Tu_rule_56 : decode prog_1_method_5_code 56 = .ok (.invokevirtual 111, 3) := by decide +kernel
theorem dt_Tu_rule_59 : decode prog_1_method_5_code 59 = .ok (.invokespecial 115, 3) := by decide +kernel
theorem dt_Tu_rule_62 : decode prog_1_method_5_code 62 = .ok (.aastore, 1) := by decide +kernel
theorem dt_Tu_rule_63 : decode prog_1_method_5_code 63 = .ok (.aload_n 0, 1) := by decide +kernel
theorem dt_Tu_rule_64 : decode prog_1_method_5_code 64 = .ok (.dup, 1) := by decide +kernel
theorem dt_Tu_rule_65 : decode prog_1_method_5_code 65 = .ok (.getfield 105, 3) := by decide +kernel
theorem dt_Tu_rule_68 : decode prog_1_method_5_code 68 = .ok (.iconst 1, 1) := by decide +kernel
theorem dt_Tu_rule_69 : decode prog_1_method_5_code 69 = .ok (.iadd, 1) := by decide +kernel
theorem dt_Tu_rule_70 : decode prog_1_method_5_code 70 = .ok (.putfield 105, 3) := by decide +kernel
theorem dt_Tu_rule_73 : decode prog_1_method_5_code 73 = .ok (.aload_n 0, 1) := by decide +kernel
theorem dt_Tu_rule_74 : decode prog_1_method_5_code 74 = .ok (.getfield 105, 3) := by decide +kernel
theorem dt_Tu_rule_77 : decode prog_1_method_5_code 77 = .ok (.iconst 1, 1) := by decide +kernel
theorem dt_Tu_rule_78 : decode prog_1_method_5_code 78 = .ok (.isub, 1) := by decide +kernel
theorem dt_Tu_rule_79 : decode prog_1_method_5_code 79 = .ok (.ireturn, 1) := by decide +kernel
set_option maxHeartbeats 4000000 in
set_option maxRecDepth 10000 in
theorem tm_Tu_rule {N : Nat} {T : Nat → tm_S} {w : ab_W} {tu tp im md rl ac rr ma pl tr gu a b : Nat} (hW : tm_W N T w) (h_all : is_All T tu tp im md rl ac rr ma pl tr gu a b) (kn : tm_g w tu 1 = some (ab_R a)) (kt : tm_g w tu 2 = some (ab_R b)) (rc : Int) (k_rc : tm_g w tu 6 = some (ab_I rc)) (hrl : ∀ j : Int, 0 ≤ j → j < rc → ∃ q n : Nat, tm_g w rl j = some (ab_R q) ∧ is_Ro T q n ∧ 129 ≤ q ∧ q + 1 < N) (hN1 : N < 100000) (hN0 : 129 ≤ N) : ab_Mt g_G g_rs mt_Tu_rule 36 2 401 [ab_R tu] w (fun r w2 => ∃ (N2 : Nat) (T2 : Nat → tm_S) (v rc2 : Int), r = some (ab_I v) ∧ tm_W N2 T2 w2 ∧ (∀ p, p < N → T2 p = T p) ∧ (∀ (p : Nat) (j : Int), ¬ ((p = tp ∧ (j = 2 ∨ j = 5 ∨ j = 6 ∨ j = 7 ∨ j = 8 ∨ j = 4 ∨ j = 3 ∨ j = 1)) ∨ p = (rr + 1) ∨ (p = rr ∧ (j = 1 ∨ j = 2)) ∨ (p = tu ∧ (j = 6)) ∨ p = rl) → p < N → tm_g w2 p j = tm_g w p j) ∧ tm_g w2 tu 6 = some (ab_I rc2) ∧ (rc ≤ rc2 ∧ rc2 ≤ 6 ∧ (N2 : Int) = N + 2 * (rc2 - rc)) ∧ ∀ j : Int, 0 ≤ j → j < rc2 → ∃ q n : Nat, tm_g w2 rl j = some (ab_R q) ∧ is_Ro T2 q n ∧ 129 ≤ q ∧ q + 1 < N2) := by
  obtain ⟨tut0, imt0, mdt0, rlt0, h_tp, h_ac, h_rr, h_ma, h_pl, h_tr, h_gu, h_a, h_b, e_all, e_ab⟩ := id h_all
  obtain ⟨tpt0, tpt1⟩ := id h_tp
  obtain ⟨act0, act1, act2, act3⟩ := id h_ac
  obtain ⟨rrt0, rrt1⟩ := id h_rr
  obtain ⟨mat0, mat1⟩ := id h_ma
  obtain ⟨plt0, plt1, plt2, plt3, plt4⟩ := id h_pl
  obtain ⟨trt0, trt1, trt2, trt3, trt4, trt5⟩ := id h_tr
  obtain ⟨gut0, gut1, gut2, gut3⟩ := id h_gu
  obtain ⟨at0, at1, at2, at3, at4, at5, at6, at7, at8, at9, at10, at11, at12⟩ := id h_a
  have ad := is_Ri.d h_a
  obtain ⟨bt0, bt1, bt2, bt3, bt4, bt5, bt6, bt7, bt8, bt9, bt10, bt11, bt12⟩ := id h_b
  have bd := is_Ri.d h_b
  have hF0 : ∀ (p : Nat) (j : Int), ¬ ((p = tp ∧ (j = 2 ∨ j = 5 ∨ j = 6 ∨ j = 7 ∨ j = 8 ∨ j = 4 ∨ j = 3 ∨ j = 1)) ∨ p = (rr + 1) ∨ (p = rr ∧ (j = 1 ∨ j = 2)) ∨ (p = tu ∧ (j = 6)) ∨ p = rl) → tm_g w p j = tm_g w p j := fun _ _ _ => rfl
  refine ab_Mt.of rfl (Nat.le_of_ble_eq_true rfl) ?_
  show ab_Ev g_G g_rs mt_Tu_rule _ _ _ 0 [some (ab_R tu), none] [] _ _
  have b_rc : 0 ≤ rc ∧ rc ≤ 6 := by obtain ⟨a, e, h0, h1⟩ := tm_peek (k := 6) (K := 6) hW tut0 rfl rfl; rw [k_rc] at e; injection e with e; injection e with e; omega
  refine ev_aload_n dt_Tu_rule_0 rfl rfl ?_
  refine tm_getK (K := 6) dt_Tu_rule_1 hW tut0 fl_Tu_105 rfl k_rc ?_
  refine ev_bipush dt_Tu_rule_4 rfl ?_
  refine ev_icmp_lt (tgt := 11) dt_Tu_rule_6 (by decide) (by omega) (by omega) (fun h1 => ?_) (fun h1 => ?_)
  · skip
    refine ev_aload_n dt_Tu_rule_11 rfl rfl ?_
    refine tm_getR dt_Tu_rule_12 hW tut0 fl_Tu_50 rfl ?_
    refine ev_aload_n dt_Tu_rule_15 rfl rfl ?_
    refine tm_getR dt_Tu_rule_16 hW tut0 fl_Tu_10 rfl ?_
    refine tm_vi dt_Tu_rule_19 (tm_Ru_readAll hW h_rr h_tp (by omega)) kb_Tu_108 ⟨im_Ru_readAll, se_Ru_readAll⟩ rfl hW rrt0 rfl (Nat.le_of_ble_eq_true rfl) (by decide) (fun w2 v3 hWw2 hRw2 => ?_)
    obtain ⟨hfw2, hpw2⟩ := hRw2
    have hFw2 : ∀ (p : Nat) (j : Int), ¬ ((p = tp ∧ (j = 2 ∨ j = 5 ∨ j = 6 ∨ j = 7 ∨ j = 8 ∨ j = 4 ∨ j = 3 ∨ j = 1)) ∨ p = (rr + 1) ∨ (p = rr ∧ (j = 1 ∨ j = 2)) ∨ (p = tu ∧ (j = 6)) ∨ p = rl) → tm_g w2 p j = tm_g w p j := fun p j h => (hfw2 p j (by omega)).trans (hF0 p j h)
    have z4 := (hfw2 tu 6 (by omega)).trans k_rc
    have hrw2 : ∀ j, tm_g w2 rl j = tm_g w rl j := fun j => (hfw2 rl j (by omega)).trans rfl
    refine ev_istore_n (l' := [_, _]) dt_Tu_rule_22 rfl (Nat.le_of_ble_eq_true rfl) rfl ?_
    refine ev_aload_n dt_Tu_rule_23 rfl rfl ?_
    refine tm_getR dt_Tu_rule_24 hWw2 tut0 fl_Tu_10 rfl ?_
    refine ev_iconst dt_Tu_rule_27 ?_
    refine tm_putI (K := 1) dt_Tu_rule_28 hWw2 tpt0 (fp_Tu_82 _) rfl rfl trivial (by omega) (by omega) (fun w5 hWw5 kkw5 hfw5 => ?_)
    have hFw5 : ∀ (p : Nat) (j : Int), ¬ ((p = tp ∧ (j = 2 ∨ j = 5 ∨ j = 6 ∨ j = 7 ∨ j = 8 ∨ j = 4 ∨ j = 3 ∨ j = 1)) ∨ p = (rr + 1) ∨ (p = rr ∧ (j = 1 ∨ j = 2)) ∨ (p = tu ∧ (j = 6)) ∨ p = rl) → tm_g w5 p j = tm_g w p j := fun p j h => (hfw5 p j (by omega)).trans (hFw2 p j h)
    have z6 := (hfw5 tu 6 (by omega)).trans z4
    have hrw5 : ∀ j, tm_g w5 rl j = tm_g w rl j := fun j => (hfw5 rl j (by omega)).trans (hrw2 j)
    refine ev_iload_n dt_Tu_rule_31 rfl rfl ?_
    refine ev_if_eq (tgt := 40) dt_Tu_rule_32 (by decide) (by omega) (fun h7 => ?_) (fun h7 => ?_)
    · skip
      refine ev_aload_n dt_Tu_rule_40 rfl rfl ?_
      refine tm_getR dt_Tu_rule_41 hWw5 tut0 fl_Tu_36 rfl ?_
      refine ev_aload_n dt_Tu_rule_44 rfl rfl ?_
      refine tm_getK (K := 6) dt_Tu_rule_45 hWw5 tut0 fl_Tu_105 rfl z6 ?_
      have hN := hWw5.1
      have hrlF : ∀ j, tm_g w5 rl j = tm_g w rl j := fun j => hrw5 j
      obtain ⟨tvs, htc, htl, htv⟩ := tm_cell hWw5 tut0
      obtain ⟨rvs, hrc, -, hrv⟩ := tm_cell hWw5 rrt0
      obtain ⟨rv0, hrv0, hre0⟩ := hrv 0 _ rfl
      have hre0 : rv0 = ab_R (rr + 1) := hre0
      subst hre0
      obtain ⟨rv1, hrv1, sz, hrs, hs0, hs1⟩ := hrv 1 _ rfl
      subst hrs
      have hca := hWw5.2.1 (rr + 1)
      rw [rrt1] at hca
      obtain ⟨cf, hcf, hcb⟩ := hca
      obtain ⟨tv8, htr, hte⟩ := htv 8 _ rfl
      have hte : tv8 = ab_R rr := hte
      subst hte
      have htu : tu < w5.length := tm_lt htc
      have hrlN : rl < w5.length := by
        have h := hWw5.2.1 rl
        rw [rlt0] at h
        obtain ⟨f, h⟩ := h
        exact tm_lt h
      refine ev_new (G := g_G) (M := mt_Tu_rule) (bc := 1) (bs := 400) (ci := 6) (N := 1) (fs := df_Ro) dt_Tu_rule_48 nw_Tu_34 (by unfold ab_sb; omega) hWw5.2.2 (show ab_okS _ df_Ro from ab_okS_z ab_okS_n) (ab_okL2 (j := 0) htu) (ab_okS_i (ab_okS_r hrlN ab_okS_n)) ?_
      refine ev_dup dt_Tu_rule_51 rfl ?_
      refine ev_aload_n dt_Tu_rule_52 rfl rfl ?_
      refine ev_getfield dt_Tu_rule_53 (ab_ga htc) fl_Tu_50 htr ?_
      have hl1 : (w5 ++ [ab_ob 6 df_Ro]).length = w5.length + 1 := List.length_append
      refine ev_virtual (ci := 7) (bc := 0) (bs := 0) dt_Tu_rule_56 (tm_codeRead (ab_ga hrc) hrv0 hrv1 (ab_ga hcf) (by decide) hcb hs0 hs1 (by unfold ab_sb; omega) (ab_okW_1 (e := ab_ob 6 df_Ro) hWw5.2.2 (show ab_okS _ df_Ro from ab_okS_z ab_okS_n))) kb_Tu_111 ⟨im_Ru_codeRead, se_Ru_codeRead⟩ rfl (ab_ga hrc) rfl (Nat.le_of_ble_eq_true rfl) (by decide) (Or.inr ⟨ab_okL2 (j := 0) (by omega), ab_okS_r (by omega) (ab_okS_r (by omega) (ab_okS_i (ab_okS_r (by omega) ab_okS_n)))⟩) (fun r1 w3 hq => ?_)
      obtain ⟨rfl, n2, g, rfl, hn2, hg⟩ := hq
      refine ev_special (bc := 0) (bs := 0) dt_Tu_rule_59 (tm_RoInit (v0 := ab_N) (ab_ga ab_gl)) kb_Tu_115 ⟨im_Ro_init, rfl, rfl⟩ rfl (Nat.le_of_ble_eq_true rfl) (by decide) (Or.inl (fun r w1 h => by rw [h.2, List.length_set])) (fun r2 w4 hq => ?_)
      obtain ⟨rfl, rfl⟩ := hq
      refine ev_world (w' := w5 ++ [ab_ob 6 [ab_R (N + 1)], ab_ai 0 n2 g]) (by rw [ab_sl2, hl1, hN]) ?_
      have hW5 := tm_app2 (S1 := tm_o 6 [tm_r (N + 1)]) (S2 := tm_ai 0 n2 (-2147483648) 2147483647) hWw5 ⟨[ab_R (N + 1)], rfl, rfl, fun k F hF => by
        match k with
        | 0 => cases hF; exact ⟨_, rfl, rfl⟩
        | k + 1 => cases hF⟩ ⟨g, rfl, hg⟩ (ab_okS_r (by omega) ab_okS_n) trivial
      generalize hT2 : tm_up (tm_up T N (tm_o 6 [tm_r (N + 1)])) (N + 1) (tm_ai 0 n2 (-2147483648) 2147483647) = T2 at hW5
      have hTT : ∀ p, p < N → T2 p = T p := fun p hp => by rw [← hT2, tm_upn (by omega), tm_upn (by omega)]
      have hTN : T2 N = tm_o 6 [tm_r (N + 1)] := by rw [← hT2, tm_upn (by omega), tm_upe]
      have hTM : T2 (N + 1) = tm_ai 0 n2 (-2147483648) 2147483647 := by rw [← hT2, tm_upe]
      have hg5 : ∀ (p : Nat) (j : Int), p < N → tm_g (w5 ++ [ab_ob 6 [ab_R (N + 1)], ab_ai 0 n2 g]) p j = tm_g w5 p j := fun p j hp => tm_g_app (by omega)
      generalize w5 ++ [ab_ob 6 [ab_R (N + 1)], ab_ai 0 n2 g] = w5 at hW5 hg5 ⊢
      rw [hN]
      have rlt2 : T2 rl = tm_ar 5 6 := (hTT rl (by omega)).trans rlt0
      have tut2 := (hTT tu (by omega)).trans tut0
      refine tm_aastore (t := 1) (ci := 6) dt_Tu_rule_62 hW5 rlt2 rfl rfl hTN (by omega) (by omega) (by omega) (fun w6 hW6 k6 f6 => ?_)
      have kc6 : tm_g w6 tu 6 = some (ab_I rc) := (f6 tu 6 (by omega)).trans ((hg5 tu 6 (by omega)).trans z6)
      refine ev_aload_n dt_Tu_rule_63 rfl rfl ?_
      refine ev_dup dt_Tu_rule_64 rfl ?_
      refine tm_getK (K := 6) dt_Tu_rule_65 hW6 tut2 fl_Tu_105 rfl kc6 ?_
      refine ev_iconst dt_Tu_rule_68 ?_
      refine ev_iadd dt_Tu_rule_69 ?_
      refine tm_putI (K := 6) dt_Tu_rule_70 hW6 tut2 (fp_Tu_105 _) rfl rfl trivial (by omega) (by omega) (fun w7 hW7 k7 f7 => ?_)
      refine ev_aload_n dt_Tu_rule_73 rfl rfl ?_
      refine tm_getK (K := 6) dt_Tu_rule_74 hW7 tut2 fl_Tu_105 rfl k7 ?_
      refine ev_iconst dt_Tu_rule_77 ?_
      refine ev_isub dt_Tu_rule_78 ?_
      refine ev_ireturn dt_Tu_rule_79 rfl ⟨N + 2, T2, _, rc + 1, rfl, hW7, hTT, fun p j h hp => ((f7 p j (by omega)).trans (f6 p j (by omega))).trans ((hg5 p j hp).trans (hFw5 p j h)), k7, by omega, fun j h0 h1 => ?_⟩
      by_cases hj : j = rc
      · subst hj
        exact ⟨N, n2, (f7 rl _ (by omega)).trans k6, ⟨hTN, hTM, by omega⟩, by omega, by omega⟩
      · obtain ⟨q, n, k1, ⟨k2, k3, k4⟩, k45, k5⟩ := hrl j h0 (by omega)
        exact ⟨q, n, ((f7 rl j (by omega)).trans (f6 rl j (by omega))).trans ((hg5 rl j (by omega)).trans ((hrlF j).trans k1)), ⟨(hTT q (by omega)).trans k2, (hTT (q + 1) (by omega)).trans k3, k4⟩, by omega, by omega⟩
    · skip
      refine ev_bipush dt_Tu_rule_35 rfl ?_
      refine ev_iload_n dt_Tu_rule_37 rfl rfl ?_
      refine ev_isub dt_Tu_rule_38 ?_
      refine tm_any (fun v8 hv8 _ => ?_)
      exact ev_ireturn dt_Tu_rule_39 rfl ⟨N, T, _, rc, rfl, hWw5, fun _ _ => rfl, fun p j h _ => hFw5 p j h, z6, by omega, (fun j h0 h1 => by obtain ⟨q, n, k1, k2, k3, k4⟩ := hrl j h0 h1; exact ⟨q, n, (hrw5 j).trans k1, k2, k3, k4⟩)⟩
  · skip
    refine ev_iconst dt_Tu_rule_9 ?_
    exact ev_ireturn dt_Tu_rule_10 rfl ⟨N, T, _, rc, rfl, hW, fun _ _ => rfl, fun p j h _ => hF0 p j h, k_rc, by omega, hrl⟩
