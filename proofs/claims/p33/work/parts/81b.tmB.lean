theorem dt_Di_copyFrom_0 : decode prog_3_method_2_code 0 = .ok (.aload_n 0, 1) := by decide +kernel
theorem dt_Di_copyFrom_1 : decode prog_3_method_2_code 1 = .ok (.aload_n 1, 1) := by decide +kernel
theorem dt_Di_copyFrom_2 : decode prog_3_method_2_code 2 = .ok (.getfield 24, 3) := by decide +kernel
theorem dt_Di_copyFrom_5 : decode prog_3_method_2_code 5 = .ok (.putfield 24, 3) := by decide +kernel
theorem dt_Di_copyFrom_8 : decode prog_3_method_2_code 8 = .ok (.aload_n 1, 1) := by decide +kernel
theorem dt_Di_copyFrom_9 : decode prog_3_method_2_code 9 = .ok (.getfield 9, 3) := by decide +kernel
theorem dt_Di_copyFrom_12 : decode prog_3_method_2_code 12 = .ok (.iconst 0, 1) := by decide +kernel
theorem dt_Di_copyFrom_13 : decode prog_3_method_2_code 13 = .ok (.aload_n 0, 1) := by decide +kernel
theorem dt_Di_copyFrom_14 : decode prog_3_method_2_code 14 = .ok (.getfield 9, 3) := by decide +kernel
theorem dt_Di_copyFrom_17 : decode prog_3_method_2_code 17 = .ok (.iconst 0, 1) := by decide +kernel
theorem dt_Di_copyFrom_18 : decode prog_3_method_2_code 18 = .ok (.bipush 10, 2) := by decide +kernel
theorem dt_Di_copyFrom_20 : decode prog_3_method_2_code 20 = .ok (.invokestatic 28, 3) := by decide +kernel
theorem dt_Di_copyFrom_23 : decode prog_3_method_2_code 23 = .ok (.aload_n 1, 1) := by decide +kernel
theorem dt_Di_copyFrom_24 : decode prog_3_method_2_code 24 = .ok (.getfield 15, 3) := by decide +kernel
theorem dt_Di_copyFrom_27 : decode prog_3_method_2_code 27 = .ok (.iconst 0, 1) := by decide +kernel
theorem dt_Di_copyFrom_28 : decode prog_3_method_2_code 28 = .ok (.aload_n 0, 1) := by decide +kernel
theorem dt_Di_copyFrom_29 : decode prog_3_method_2_code 29 = .ok (.getfield 15, 3) := by decide +kernel
theorem dt_Di_copyFrom_32 : decode prog_3_method_2_code 32 = .ok (.iconst 0, 1) := by decide +kernel
theorem dt_Di_copyFrom_33 : decode prog_3_method_2_code 33 = .ok (.bipush 10, 2) := by decide +kernel
theorem dt_Di_copyFrom_35 : decode prog_3_method_2_code 35 = .ok (.invokestatic 28, 3) := by decide +kernel
theorem dt_Di_copyFrom_38 : decode prog_3_method_2_code 38 = .ok (.aload_n 1, 1) := by decide +kernel
theorem dt_Di_copyFrom_39 : decode prog_3_method_2_code 39 = .ok (.getfield 18, 3) := by decide +kernel
theorem dt_Di_copyFrom_42 : decode prog_3_method_2_code 42 = .ok (.iconst 0, 1) := by decide +kernel
theorem dt_Di_copyFrom_43 : decode prog_3_method_2_code 43 = .ok (.aload_n 0, 1) := by decide +kernel
theorem dt_Di_copyFrom_44 : decode prog_3_method_2_code 44 = .ok (.getfield 18, 3) := by decide +kernel
theorem dt_Di_copyFrom_47 : decode prog_3_method_2_code 47 = .ok (.iconst 0, 1) := by decide +kernel
theorem dt_Di_copyFrom_48 : decode prog_3_method_2_code 48 = .ok (.bipush 10, 2) := by decide +kernel
theorem dt_Di_copyFrom_50 : decode prog_3_method_2_code 50 = .ok (.invokestatic 28, 3) := by decide +kernel
theorem dt_Di_copyFrom_53 : decode prog_3_method_2_code 53 = .ok (.aload_n 1, 1) := by decide +kernel
theorem dt_Di_copyFrom_54 : decode prog_3_method_2_code 54 = .ok (.getfield 21, 3) := by decide +kernel
theorem dt_Di_copyFrom_57 : decode prog_3_method_2_code 57 = .ok (.iconst 0, 1) := by decide +kernel
theorem dt_Di_copyFrom_58 : decode prog_3_method_2_code 58 = .ok (.aload_n 0, 1) := by decide +kernel
theorem dt_Di_copyFrom_59 : decode prog_3_method_2_code 59 = .ok (.getfield 21, 3) := by decide +kernel
theorem dt_Di_copyFrom_62 : decode prog_3_method_2_code 62 = .ok (.iconst 0, 1) := by decide +kernel
theorem dt_Di_copyFrom_63 : decode prog_3_method_2_code 63 = .ok (.bipush 10, 2) := by decide +kernel
theorem dt_Di_copyFrom_65 : decode prog_3_method_2_code 65 = .ok (.invokestatic 28, 3) := by decide +kernel
theorem dt_Di_copyFrom_68 : decode prog_3_method_2_code 68 = .ok (.return_, 1) := by decide +kernel
set_option maxHeartbeats 4000000 in
set_option maxRecDepth 10000 in
theorem tm_Di_copyFrom {N : Nat} {T : Nat → tm_S} {w : ab_W} {o : Nat} {q : Nat} (hW : tm_W N T w) (h_o : is_Di T o) (h_q : is_Di T q) (ne_o_q : o + 4 < q ∨ q + 4 < o) : ab_Mt g_G g_rs mt_Di_copyFrom 1 0 0 [ab_R o, ab_R q] w (tm_Qv N T (fun w2 => (∀ (p : Nat) (j : Int), ¬ ((p = o ∧ (j = 0)) ∨ p = (o + 1) ∨ p = (o + 2) ∨ p = (o + 3) ∨ p = (o + 4)) → tm_g w2 p j = tm_g w p j))) := by
  obtain ⟨ot0, ot1, ot2, ot3, ot4⟩ := id h_o
  obtain ⟨qt0, qt1, qt2, qt3, qt4⟩ := id h_q
  have hF0 : ∀ (p : Nat) (j : Int), ¬ ((p = o ∧ (j = 0)) ∨ p = (o + 1) ∨ p = (o + 2) ∨ p = (o + 3) ∨ p = (o + 4)) → tm_g w p j = tm_g w p j := fun _ _ _ => rfl
  refine ab_Mt.of rfl (Nat.le_of_ble_eq_true rfl) ?_
  show ab_Ev g_G g_rs mt_Di_copyFrom _ _ _ 0 [some (ab_R o), some (ab_R q)] [] _ _
  refine ev_aload_n dt_Di_copyFrom_0 rfl rfl ?_
  refine ev_aload_n dt_Di_copyFrom_1 rfl rfl ?_
  refine tm_getI (K := 0) dt_Di_copyFrom_2 hW qt0 fl_Di_24 rfl rfl (fun v1 kv1 lv1 uv1 => ?_)
  refine tm_putI (K := 0) dt_Di_copyFrom_5 hW ot0 (fp_Di_24 _) rfl rfl trivial (by omega) (by omega) (fun w2 hWw2 kkw2 hfw2 => ?_)
  have hFw2 : ∀ (p : Nat) (j : Int), ¬ ((p = o ∧ (j = 0)) ∨ p = (o + 1) ∨ p = (o + 2) ∨ p = (o + 3) ∨ p = (o + 4)) → tm_g w2 p j = tm_g w p j := fun p j h => (hfw2 p j (by omega)).trans (hF0 p j h)
  refine ev_aload_n dt_Di_copyFrom_8 rfl rfl ?_
  refine tm_getR dt_Di_copyFrom_9 hWw2 qt0 fl_Di_9 rfl ?_
  refine ev_iconst dt_Di_copyFrom_12 ?_
  refine ev_aload_n dt_Di_copyFrom_13 rfl rfl ?_
  refine tm_getR dt_Di_copyFrom_14 hWw2 ot0 fl_Di_9 rfl ?_
  refine ev_iconst dt_Di_copyFrom_17 ?_
  refine ev_bipush dt_Di_copyFrom_18 rfl ?_
  refine tm_copyi dt_Di_copyFrom_20 ck_Di_28 hWw2 qt1 ot1 (by omega) (by omega) (by omega) (by omega) (Nat.le_of_ble_eq_true rfl) (by decide) (fun w3 hWw3 hfw3 => ?_)
  have hFw3 : ∀ (p : Nat) (j : Int), ¬ ((p = o ∧ (j = 0)) ∨ p = (o + 1) ∨ p = (o + 2) ∨ p = (o + 3) ∨ p = (o + 4)) → tm_g w3 p j = tm_g w p j := fun p j h => (hfw3 p j (by omega)).trans (hFw2 p j h)
  have z4 := (hfw3 o 0 (by omega)).trans kkw2
  refine ev_aload_n dt_Di_copyFrom_23 rfl rfl ?_
  refine tm_getR dt_Di_copyFrom_24 hWw3 qt0 fl_Di_15 rfl ?_
  refine ev_iconst dt_Di_copyFrom_27 ?_
  refine ev_aload_n dt_Di_copyFrom_28 rfl rfl ?_
  refine tm_getR dt_Di_copyFrom_29 hWw3 ot0 fl_Di_15 rfl ?_
  refine ev_iconst dt_Di_copyFrom_32 ?_
  refine ev_bipush dt_Di_copyFrom_33 rfl ?_
  refine tm_copyi dt_Di_copyFrom_35 ck_Di_28 hWw3 qt2 ot2 (by omega) (by omega) (by omega) (by omega) (Nat.le_of_ble_eq_true rfl) (by decide) (fun w5 hWw5 hfw5 => ?_)
  have hFw5 : ∀ (p : Nat) (j : Int), ¬ ((p = o ∧ (j = 0)) ∨ p = (o + 1) ∨ p = (o + 2) ∨ p = (o + 3) ∨ p = (o + 4)) → tm_g w5 p j = tm_g w p j := fun p j h => (hfw5 p j (by omega)).trans (hFw3 p j h)
  have z6 := (hfw5 o 0 (by omega)).trans z4
  refine ev_aload_n dt_Di_copyFrom_38 rfl rfl ?_
  refine tm_getR dt_Di_copyFrom_39 hWw5 qt0 fl_Di_18 rfl ?_
  refine ev_iconst dt_Di_copyFrom_42 ?_
  refine ev_aload_n dt_Di_copyFrom_43 rfl rfl ?_
  refine tm_getR dt_Di_copyFrom_44 hWw5 ot0 fl_Di_18 rfl ?_
  refine ev_iconst dt_Di_copyFrom_47 ?_
  refine ev_bipush dt_Di_copyFrom_48 rfl ?_
  refine tm_copyi dt_Di_copyFrom_50 ck_Di_28 hWw5 qt3 ot3 (by omega) (by omega) (by omega) (by omega) (Nat.le_of_ble_eq_true rfl) (by decide) (fun w7 hWw7 hfw7 => ?_)
  have hFw7 : ∀ (p : Nat) (j : Int), ¬ ((p = o ∧ (j = 0)) ∨ p = (o + 1) ∨ p = (o + 2) ∨ p = (o + 3) ∨ p = (o + 4)) → tm_g w7 p j = tm_g w p j := fun p j h => (hfw7 p j (by omega)).trans (hFw5 p j h)
  have z8 := (hfw7 o 0 (by omega)).trans z6
  refine ev_aload_n dt_Di_copyFrom_53 rfl rfl ?_
  refine tm_getR dt_Di_copyFrom_54 hWw7 qt0 fl_Di_21 rfl ?_
  refine ev_iconst dt_Di_copyFrom_57 ?_
  refine ev_aload_n dt_Di_copyFrom_58 rfl rfl ?_
  refine tm_getR dt_Di_copyFrom_59 hWw7 ot0 fl_Di_21 rfl ?_
  refine ev_iconst dt_Di_copyFrom_62 ?_
  refine ev_bipush dt_Di_copyFrom_63 rfl ?_
  refine tm_copyi dt_Di_copyFrom_65 ck_Di_28 hWw7 qt4 ot4 (by omega) (by omega) (by omega) (by omega) (Nat.le_of_ble_eq_true rfl) (by decide) (fun w9 hWw9 hfw9 => ?_)
  have hFw9 : ∀ (p : Nat) (j : Int), ¬ ((p = o ∧ (j = 0)) ∨ p = (o + 1) ∨ p = (o + 2) ∨ p = (o + 3) ∨ p = (o + 4)) → tm_g w9 p j = tm_g w p j := fun p j h => (hfw9 p j (by omega)).trans (hFw7 p j h)
  have z10 := (hfw9 o 0 (by omega)).trans z8
  exact ev_return dt_Di_copyFrom_68 rfl ⟨hWw9, rfl, hFw9⟩
theorem dt_Di_write_0 : decode prog_3_method_3_code 0 = .ok (.aload_n 0, 1) := by decide +kernel
theorem dt_Di_write_1 : decode prog_3_method_3_code 1 = .ok (.getfield 9, 3) := by decide +kernel
theorem dt_Di_write_4 : decode prog_3_method_3_code 4 = .ok (.aload_n 0, 1) := by decide +kernel
theorem dt_Di_write_5 : decode prog_3_method_3_code 5 = .ok (.getfield 24, 3) := by decide +kernel
theorem dt_Di_write_8 : decode prog_3_method_3_code 8 = .ok (.iload_n 1, 1) := by decide +kernel
theorem dt_Di_write_9 : decode prog_3_method_3_code 9 = .ok (.iastore, 1) := by decide +kernel
theorem dt_Di_write_10 : decode prog_3_method_3_code 10 = .ok (.aload_n 0, 1) := by decide +kernel
theorem dt_Di_write_11 : decode prog_3_method_3_code 11 = .ok (.getfield 15, 3) := by decide +kernel
theorem dt_Di_write_14 : decode prog_3_method_3_code 14 = .ok (.aload_n 0, 1) := by decide +kernel
theorem dt_Di_write_15 : decode prog_3_method_3_code 15 = .ok (.getfield 24, 3) := by decide +kernel
theorem dt_Di_write_18 : decode prog_3_method_3_code 18 = .ok (.iload_n 2, 1) := by decide +kernel
theorem dt_Di_write_19 : decode prog_3_method_3_code 19 = .ok (.iastore, 1) := by decide +kernel
theorem dt_Di_write_20 : decode prog_3_method_3_code 20 = .ok (.aload_n 0, 1) := by decide +kernel
theorem dt_Di_write_21 : decode prog_3_method_3_code 21 = .ok (.getfield 18, 3) := by decide +kernel
theorem dt_Di_write_24 : decode prog_3_method_3_code 24 = .ok (.aload_n 0, 1) := by decide +kernel
theorem dt_Di_write_25 : decode prog_3_method_3_code 25 = .ok (.getfield 24, 3) := by decide +kernel
theorem dt_Di_write_28 : decode prog_3_method_3_code 28 = .ok (.iload_n 3, 1) := by decide +kernel
theorem dt_Di_write_29 : decode prog_3_method_3_code 29 = .ok (.iastore, 1) := by decide +kernel
theorem dt_Di_write_30 : decode prog_3_method_3_code 30 = .ok (.aload_n 0, 1) := by decide +kernel
theorem dt_Di_write_31 : decode prog_3_method_3_code 31 = .ok (.getfield 21, 3) := by decide +kernel
theorem dt_Di_write_34 : decode prog_3_method_3_code 34 = .ok (.aload_n 0, 1) := by decide +kernel
theorem dt_Di_write_35 : decode prog_3_method_3_code 35 = .ok (.getfield 24, 3) := by decide +kernel
theorem dt_Di_write_38 : decode prog_3_method_3_code 38 = .ok (.iload 4, 2) := by decide +kernel
theorem dt_Di_write_40 : decode prog_3_method_3_code 40 = .ok (.ifCond .eq 7, 3) := by decide +kernel
theorem dt_Di_write_43 : decode prog_3_method_3_code 43 = .ok (.iconst 1, 1) := by decide +kernel
theorem dt_Di_write_44 : decode prog_3_method_3_code 44 = .ok (.goto 4, 3) := by decide +kernel
theorem dt_Di_write_47 : decode prog_3_method_3_code 47 = .ok (.iconst 0, 1) := by decide +kernel
theorem dt_Di_write_48 : decode prog_3_method_3_code 48 = .ok (.iastore, 1) := by decide +kernel
theorem dt_Di_write_49 : decode prog_3_method_3_code 49 = .ok (.aload_n 0, 1) := by decide +kernel
theorem dt_Di_write_50 : decode prog_3_method_3_code 50 = .ok (.dup, 1) := by decide +kernel
theorem dt_Di_write_51 : decode prog_3_method_3_code 51 = .ok (.getfield 24, 3) := by decide +kernel
theorem dt_Di_write_54 : decode prog_3_method_3_code 54 = .ok (.iconst 1, 1) := by decide +kernel
theorem dt_Di_write_55 : decode prog_3_method_3_code 55 = .ok (.iadd, 1) := by decide +kernel
theorem dt_Di_write_56 : decode prog_3_method_3_code 56 = .ok (.putfield 24, 3) := by decide +kernel
theorem dt_Di_write_59 : decode prog_3_method_3_code 59 = .ok (.return_, 1) := by decide +kernel
set_option maxHeartbeats 4000000 in
set_option maxRecDepth 10000 in
theorem tm_Di_write {N : Nat} {T : Nat → tm_S} {w : ab_W} {o : Nat} (hW : tm_W N T w) (h_o : is_Di T o) (a : Int) (l_a : 0 ≤ a) (u_a : a ≤ 6) (b : Int) (l_b : 0 ≤ b) (u_b : b ≤ 99) (c : Int) (l_c : 0 ≤ c) (u_c : c ≤ 4) (e : Int) (l_e : 0 ≤ e) (u_e : e ≤ 1) (k : Int) (k_k : tm_g w o 0 = some (ab_I k)) (l_k : 0 ≤ k) (u_k : k ≤ 9) : ab_Mt g_G g_rs mt_Di_write 0 0 0 [ab_R o, ab_I a, ab_I b, ab_I c, ab_I e] w (tm_Qv N T (fun w2 => (∀ (p : Nat) (j : Int), ¬ ((p = o ∧ (j = 0)) ∨ p = (o + 1) ∨ p = (o + 2) ∨ p = (o + 3) ∨ p = (o + 4)) → tm_g w2 p j = tm_g w p j))) := by
  obtain ⟨ot0, ot1, ot2, ot3, ot4⟩ := id h_o
  have hF0 : ∀ (p : Nat) (j : Int), ¬ ((p = o ∧ (j = 0)) ∨ p = (o + 1) ∨ p = (o + 2) ∨ p = (o + 3) ∨ p = (o + 4)) → tm_g w p j = tm_g w p j := fun _ _ _ => rfl
  refine ab_Mt.of rfl (Nat.le_of_ble_eq_true rfl) ?_
  show ab_Ev g_G g_rs mt_Di_write _ _ _ 0 [some (ab_R o), some (ab_I a), some (ab_I b), some (ab_I c), some (ab_I e)] [] _ _
  refine ev_aload_n dt_Di_write_0 rfl rfl ?_
  refine tm_getR dt_Di_write_1 hW ot0 fl_Di_9 rfl ?_
  refine ev_aload_n dt_Di_write_4 rfl rfl ?_
  refine tm_getK (K := 0) dt_Di_write_5 hW ot0 fl_Di_24 rfl k_k ?_
  refine ev_iload_n dt_Di_write_8 rfl rfl ?_
  refine tm_iastore dt_Di_write_9 hW ot1 (by omega) (by omega) (by omega) (by omega) (by omega) (fun w11 hWw11 kkw11 hfw11 => ?_)
  have hFw11 : ∀ (p : Nat) (j : Int), ¬ ((p = o ∧ (j = 0)) ∨ p = (o + 1) ∨ p = (o + 2) ∨ p = (o + 3) ∨ p = (o + 4)) → tm_g w11 p j = tm_g w p j := fun p j h => (hfw11 p j (by omega)).trans (hF0 p j h)
  have z12 := (hfw11 o 0 (by omega)).trans k_k
  refine ev_aload_n dt_Di_write_10 rfl rfl ?_
  refine tm_getR dt_Di_write_11 hWw11 ot0 fl_Di_15 rfl ?_
  refine ev_aload_n dt_Di_write_14 rfl rfl ?_
  refine tm_getK (K := 0) dt_Di_write_15 hWw11 ot0 fl_Di_24 rfl z12 ?_
  refine ev_iload_n dt_Di_write_18 rfl rfl ?_
  refine tm_iastore dt_Di_write_19 hWw11 ot2 (by omega) (by omega) (by omega) (by omega) (by omega) (fun w13 hWw13 kkw13 hfw13 => ?_)
  have hFw13 : ∀ (p : Nat) (j : Int), ¬ ((p = o ∧ (j = 0)) ∨ p = (o + 1) ∨ p = (o + 2) ∨ p = (o + 3) ∨ p = (o + 4)) → tm_g w13 p j = tm_g w p j := fun p j h => (hfw13 p j (by omega)).trans (hFw11 p j h)
  have z14 := (hfw13 o 0 (by omega)).trans z12
  refine ev_aload_n dt_Di_write_20 rfl rfl ?_
  refine tm_getR dt_Di_write_21 hWw13 ot0 fl_Di_18 rfl ?_
  refine ev_aload_n dt_Di_write_24 rfl rfl ?_
  refine tm_getK (K := 0) dt_Di_write_25 hWw13 ot0 fl_Di_24 rfl z14 ?_
  refine ev_iload_n dt_Di_write_28 rfl rfl ?_
  refine tm_iastore dt_Di_write_29 hWw13 ot3 (by omega) (by omega) (by omega) (by omega) (by omega) (fun w15 hWw15 kkw15 hfw15 => ?_)
  have hFw15 : ∀ (p : Nat) (j : Int), ¬ ((p = o ∧ (j = 0)) ∨ p = (o + 1) ∨ p = (o + 2) ∨ p = (o + 3) ∨ p = (o + 4)) → tm_g w15 p j = tm_g w p j := fun p j h => (hfw15 p j (by omega)).trans (hFw13 p j h)
  have z16 := (hfw15 o 0 (by omega)).trans z14
  refine ev_aload_n dt_Di_write_30 rfl rfl ?_
  refine tm_getR dt_Di_write_31 hWw15 ot0 fl_Di_21 rfl ?_
  refine ev_aload_n dt_Di_write_34 rfl rfl ?_
  refine tm_getK (K := 0) dt_Di_write_35 hWw15 ot0 fl_Di_24 rfl z16 ?_
  refine ev_iload dt_Di_write_38 rfl ?_
  refine ev_if_eq (tgt := 47) dt_Di_write_40 (by decide) (by omega) (fun h17 => ?_) (fun h17 => ?_)
  · skip
    refine ev_iconst dt_Di_write_47 ?_
    refine tm_iastore dt_Di_write_48 hWw15 ot4 (by omega) (by omega) (by omega) (by omega) (by omega) (fun w18 hWw18 kkw18 hfw18 => ?_)
    have hFw18 : ∀ (p : Nat) (j : Int), ¬ ((p = o ∧ (j = 0)) ∨ p = (o + 1) ∨ p = (o + 2) ∨ p = (o + 3) ∨ p = (o + 4)) → tm_g w18 p j = tm_g w p j := fun p j h => (hfw18 p j (by omega)).trans (hFw15 p j h)
    have z19 := (hfw18 o 0 (by omega)).trans z16
    refine ev_aload_n dt_Di_write_49 rfl rfl ?_
    refine ev_dup dt_Di_write_50 rfl ?_
    refine tm_getK (K := 0) dt_Di_write_51 hWw18 ot0 fl_Di_24 rfl z19 ?_
    refine ev_iconst dt_Di_write_54 ?_
    refine ev_iadd dt_Di_write_55 ?_
    refine tm_putI (K := 0) dt_Di_write_56 hWw18 ot0 (fp_Di_24 _) rfl rfl trivial (by omega) (by omega) (fun w20 hWw20 kkw20 hfw20 => ?_)
    have hFw20 : ∀ (p : Nat) (j : Int), ¬ ((p = o ∧ (j = 0)) ∨ p = (o + 1) ∨ p = (o + 2) ∨ p = (o + 3) ∨ p = (o + 4)) → tm_g w20 p j = tm_g w p j := fun p j h => (hfw20 p j (by omega)).trans (hFw18 p j h)
    exact ev_return dt_Di_write_59 rfl ⟨hWw20, rfl, hFw20⟩
  · skip
    refine ev_iconst dt_Di_write_43 ?_
    refine ev_goto (tgt := 48) dt_Di_write_44 (by decide) ?_
    refine tm_iastore dt_Di_write_48 hWw15 ot4 (by omega) (by omega) (by omega) (by omega) (by omega) (fun w21 hWw21 kkw21 hfw21 => ?_)
    have hFw21 : ∀ (p : Nat) (j : Int), ¬ ((p = o ∧ (j = 0)) ∨ p = (o + 1) ∨ p = (o + 2) ∨ p = (o + 3) ∨ p = (o + 4)) → tm_g w21 p j = tm_g w p j := fun p j h => (hfw21 p j (by omega)).trans (hFw15 p j h)
    have z22 := (hfw21 o 0 (by omega)).trans z16
    refine ev_aload_n dt_Di_write_49 rfl rfl ?_
    refine ev_dup dt_Di_write_50 rfl ?_
    refine tm_getK (K := 0) dt_Di_write_51 hWw21 ot0 fl_Di_24 rfl z22 ?_
    refine ev_iconst dt_Di_write_54 ?_
    refine ev_iadd dt_Di_write_55 ?_
    refine tm_putI (K := 0) dt_Di_write_56 hWw21 ot0 (fp_Di_24 _) rfl rfl trivial (by omega) (by omega) (fun w23 hWw23 kkw23 hfw23 => ?_)
    have hFw23 : ∀ (p : Nat) (j : Int), ¬ ((p = o ∧ (j = 0)) ∨ p = (o + 1) ∨ p = (o + 2) ∨ p = (o + 3) ∨ p = (o + 4)) → tm_g w23 p j = tm_g w p j := fun p j h => (hfw23 p j (by omega)).trans (hFw21 p j h)
    exact ev_return dt_Di_write_59 rfl ⟨hWw23, rfl, hFw23⟩
theorem dt_Ri_clear_0 : decode prog_7_method_2_code 0 = .ok (.aload_n 0, 1) := by decide +kernel
theorem dt_Ri_clear_1 : decode prog_7_method_2_code 1 = .ok (.iconst 0, 1) := by decide +kernel
theorem dt_Ri_clear_2 : decode prog_7_method_2_code 2 = .ok (.putfield 41, 3) := by decide +kernel
theorem dt_Ri_clear_5 : decode prog_7_method_2_code 5 = .ok (.aload_n 0, 1) := by decide +kernel
theorem dt_Ri_clear_6 : decode prog_7_method_2_code 6 = .ok (.iconst 0, 1) := by decide +kernel
theorem dt_Ri_clear_7 : decode prog_7_method_2_code 7 = .ok (.putfield 45, 3) := by decide +kernel
theorem dt_Ri_clear_10 : decode prog_7_method_2_code 10 = .ok (.aload_n 0, 1) := by decide +kernel
theorem dt_Ri_clear_11 : decode prog_7_method_2_code 11 = .ok (.iconst 0, 1) := by decide +kernel
theorem dt_Ri_clear_12 : decode prog_7_method_2_code 12 = .ok (.putfield 49, 3) := by decide +kernel
theorem dt_Ri_clear_15 : decode prog_7_method_2_code 15 = .ok (.aload_n 0, 1) := by decide +kernel
theorem dt_Ri_clear_16 : decode prog_7_method_2_code 16 = .ok (.iconst 0, 1) := by decide +kernel
theorem dt_Ri_clear_17 : decode prog_7_method_2_code 17 = .ok (.putfield 52, 3) := by decide +kernel
theorem dt_Ri_clear_20 : decode prog_7_method_2_code 20 = .ok (.aload_n 0, 1) := by decide +kernel
theorem dt_Ri_clear_21 : decode prog_7_method_2_code 21 = .ok (.iconst 0, 1) := by decide +kernel
theorem dt_Ri_clear_22 : decode prog_7_method_2_code 22 = .ok (.putfield 55, 3) := by decide +kernel
theorem dt_Ri_clear_25 : decode prog_7_method_2_code 25 = .ok (.aload_n 0, 1) := by decide +kernel
theorem dt_Ri_clear_26 : decode prog_7_method_2_code 26 = .ok (.iconst 0, 1) := by decide +kernel
theorem dt_Ri_clear_27 : decode prog_7_method_2_code 27 = .ok (.putfield 58, 3) := by decide +kernel
theorem dt_Ri_clear_30 : decode prog_7_method_2_code 30 = .ok (.aload_n 0, 1) := by decide +kernel
theorem dt_Ri_clear_31 : decode prog_7_method_2_code 31 = .ok (.iconst 0, 1) := by decide +kernel
theorem dt_Ri_clear_32 : decode prog_7_method_2_code 32 = .ok (.putfield 61, 3) := by decide +kernel
theorem dt_Ri_clear_35 : decode prog_7_method_2_code 35 = .ok (.aload_n 0, 1) := by decide +kernel
theorem dt_Ri_clear_36 : decode prog_7_method_2_code 36 = .ok (.iconst 0, 1) := by decide +kernel
theorem dt_Ri_clear_37 : decode prog_7_method_2_code 37 = .ok (.putfield 64, 3) := by decide +kernel
theorem dt_Ri_clear_40 : decode prog_7_method_2_code 40 = .ok (.aload_n 0, 1) := by decide +kernel
theorem dt_Ri_clear_41 : decode prog_7_method_2_code 41 = .ok (.iconst 0, 1) := by decide +kernel
theorem dt_Ri_clear_42 : decode prog_7_method_2_code 42 = .ok (.putfield 67, 3) := by decide +kernel
theorem dt_Ri_clear_45 : decode prog_7_method_2_code 45 = .ok (.aload_n 0, 1) := by decide +kernel
theorem dt_Ri_clear_46 : decode prog_7_method_2_code 46 = .ok (.iconst 0, 1) := by decide +kernel
theorem dt_Ri_clear_47 : decode prog_7_method_2_code 47 = .ok (.putfield 70, 3) := by decide +kernel
theorem dt_Ri_clear_50 : decode prog_7_method_2_code 50 = .ok (.aload_n 0, 1) := by decide +kernel
theorem dt_Ri_clear_51 : decode prog_7_method_2_code 51 = .ok (.getfield 21, 3) := by decide +kernel
theorem dt_Ri_clear_54 : decode prog_7_method_2_code 54 = .ok (.iconst 0, 1) := by decide +kernel
theorem dt_Ri_clear_55 : decode prog_7_method_2_code 55 = .ok (.invokestatic 73, 3) := by decide +kernel
theorem dt_Ri_clear_58 : decode prog_7_method_2_code 58 = .ok (.aload_n 0, 1) := by decide +kernel
theorem dt_Ri_clear_59 : decode prog_7_method_2_code 59 = .ok (.getfield 24, 3) := by decide +kernel
theorem dt_Ri_clear_62 : decode prog_7_method_2_code 62 = .ok (.lconst 0, 1) := by decide +kernel
theorem dt_Ri_clear_63 : decode prog_7_method_2_code 63 = .ok (.invokestatic 79, 3) := by decide +kernel
theorem dt_Ri_clear_66 : decode prog_7_method_2_code 66 = .ok (.aload_n 0, 1) := by decide +kernel
theorem dt_Ri_clear_67 : decode prog_7_method_2_code 67 = .ok (.getfield 28, 3) := by decide +kernel
theorem dt_Ri_clear_70 : decode prog_7_method_2_code 70 = .ok (.iconst 1, 1) := by decide +kernel
theorem dt_Ri_clear_71 : decode prog_7_method_2_code 71 = .ok (.invokestatic 73, 3) := by decide +kernel
theorem dt_Ri_clear_74 : decode prog_7_method_2_code 74 = .ok (.aload_n 0, 1) := by decide +kernel
theorem dt_Ri_clear_75 : decode prog_7_method_2_code 75 = .ok (.getfield 31, 3) := by decide +kernel
theorem dt_Ri_clear_78 : decode prog_7_method_2_code 78 = .ok (.iconst 0, 1) := by decide +kernel
theorem dt_Ri_clear_79 : decode prog_7_method_2_code 79 = .ok (.invokestatic 73, 3) := by decide +kernel
theorem dt_Ri_clear_82 : decode prog_7_method_2_code 82 = .ok (.aload_n 0, 1) := by decide +kernel
theorem dt_Ri_clear_83 : decode prog_7_method_2_code 83 = .ok (.getfield 37, 3) := by decide +kernel
theorem dt_Ri_clear_86 : decode prog_7_method_2_code 86 = .ok (.iconst 0, 1) := by decide +kernel
theorem dt_Ri_clear_87 : decode prog_7_method_2_code 87 = .ok (.putfield 82, 3) := by decide +kernel
theorem dt_Ri_clear_90 : decode prog_7_method_2_code 90 = .ok (.return_, 1) := by decide +kernel
theorem dt_Ri_copyFrom_0 : decode prog_7_method_3_code 0 = .ok (.aload_n 0, 1) := by decide +kernel
theorem dt_Ri_copyFrom_1 : decode prog_7_method_3_code 1 = .ok (.aload_n 1, 1) := by decide +kernel
theorem dt_Ri_copyFrom_2 : decode prog_7_method_3_code 2 = .ok (.getfield 41, 3) := by decide +kernel
theorem dt_Ri_copyFrom_5 : decode prog_7_method_3_code 5 = .ok (.putfield 41, 3) := by decide +kernel
theorem dt_Ri_copyFrom_8 : decode prog_7_method_3_code 8 = .ok (.aload_n 0, 1) := by decide +kernel
theorem dt_Ri_copyFrom_9 : decode prog_7_method_3_code 9 = .ok (.aload_n 1, 1) := by decide +kernel
theorem dt_Ri_copyFrom_10 : decode prog_7_method_3_code 10 = .ok (.getfield 45, 3) := by decide +kernel
theorem dt_Ri_copyFrom_13 : decode prog_7_method_3_code 13 = .ok (.putfield 45, 3) := by decide +kernel
theorem dt_Ri_copyFrom_16 : decode prog_7_method_3_code 16 = .ok (.aload_n 0, 1) := by decide +kernel
theorem dt_Ri_copyFrom_17 : decode prog_7_method_3_code 17 = .ok (.aload_n 1, 1) := by decide +kernel
theorem dt_Ri_copyFrom_18 : decode prog_7_method_3_code 18 = .ok (.getfield 49, 3) := by decide +kernel
theorem dt_Ri_copyFrom_21 : decode prog_7_method_3_code 21 = .ok (.putfield 49, 3) := by decide +kernel
theorem dt_Ri_copyFrom_24 : decode prog_7_method_3_code 24 = .ok (.aload_n 0, 1) := by decide +kernel
theorem dt_Ri_copyFrom_25 : decode prog_7_method_3_code 25 = .ok (.aload_n 1, 1) := by decide +kernel
theorem dt_Ri_copyFrom_26 : decode prog_7_method_3_code 26 = .ok (.getfield 52, 3) := by decide +kernel
theorem dt_Ri_copyFrom_29 : decode prog_7_method_3_code 29 = .ok (.putfield 52, 3) := by decide +kernel
theorem dt_Ri_copyFrom_32 : decode prog_7_method_3_code 32 = .ok (.aload_n 0, 1) := by decide +kernel
theorem dt_Ri_copyFrom_33 : decode prog_7_method_3_code 33 = .ok (.aload_n 1, 1) := by decide +kernel
theorem dt_Ri_copyFrom_34 : decode prog_7_method_3_code 34 = .ok (.getfield 55, 3) := by decide +kernel
theorem dt_Ri_copyFrom_37 : decode prog_7_method_3_code 37 = .ok (.putfield 55, 3) := by decide +kernel
theorem dt_Ri_copyFrom_40 : decode prog_7_method_3_code 40 = .ok (.aload_n 0, 1) := by decide +kernel
theorem dt_Ri_copyFrom_41 : decode prog_7_method_3_code 41 = .ok (.aload_n 1, 1) := by decide +kernel
theorem dt_Ri_copyFrom_42 : decode prog_7_method_3_code 42 = .ok (.getfield 58, 3) := by decide +kernel
theorem dt_Ri_copyFrom_45 : decode prog_7_method_3_code 45 = .ok (.putfield 58, 3) := by decide +kernel
theorem dt_Ri_copyFrom_48 : decode prog_7_method_3_code 48 = .ok (.aload_n 0, 1) := by decide +kernel
theorem dt_Ri_copyFrom_49 : decode prog_7_method_3_code 49 = .ok (.aload_n 1, 1) := by decide +kernel
theorem dt_Ri_copyFrom_50 : decode prog_7_method_3_code 50 = .ok (.getfield 61, 3) := by decide +kernel
theorem dt_Ri_copyFrom_53 : decode prog_7_method_3_code 53 = .ok (.putfield 61, 3) := by decide +kernel
theorem dt_Ri_copyFrom_56 : decode prog_7_method_3_code 56 = .ok (.aload_n 0, 1) := by decide +kernel
theorem dt_Ri_copyFrom_57 : decode prog_7_method_3_code 57 = .ok (.aload_n 1, 1) := by decide +kernel
theorem dt_Ri_copyFrom_58 : decode prog_7_method_3_code 58 = .ok (.getfield 64, 3) := by decide +kernel
theorem dt_Ri_copyFrom_61 : decode prog_7_method_3_code 61 = .ok (.putfield 64, 3) := by decide +kernel
theorem dt_Ri_copyFrom_64 : decode prog_7_method_3_code 64 = .ok (.aload_n 0, 1) := by decide +kernel
theorem dt_Ri_copyFrom_65 : decode prog_7_method_3_code 65 = .ok (.aload_n 1, 1) := by decide +kernel
theorem dt_Ri_copyFrom_66 : decode prog_7_method_3_code 66 = .ok (.getfield 67, 3) := by decide +kernel
theorem dt_Ri_copyFrom_69 : decode prog_7_method_3_code 69 = .ok (.putfield 67, 3) := by decide +kernel
theorem dt_Ri_copyFrom_72 : decode prog_7_method_3_code 72 = .ok (.aload_n 0, 1) := by decide +kernel
theorem dt_Ri_copyFrom_73 : decode prog_7_method_3_code 73 = .ok (.aload_n 1, 1) := by decide +kernel
theorem dt_Ri_copyFrom_74 : decode prog_7_method_3_code 74 = .ok (.getfield 70, 3) := by decide +kernel
theorem dt_Ri_copyFrom_77 : decode prog_7_method_3_code 77 = .ok (.putfield 70, 3) := by decide +kernel
theorem dt_Ri_copyFrom_80 : decode prog_7_method_3_code 80 = .ok (.aload_n 1, 1) := by decide +kernel
theorem dt_Ri_copyFrom_81 : decode prog_7_method_3_code 81 = .ok (.getfield 9, 3) := by decide +kernel
theorem dt_Ri_copyFrom_84 : decode prog_7_method_3_code 84 = .ok (.iconst 0, 1) := by decide +kernel
theorem dt_Ri_copyFrom_85 : decode prog_7_method_3_code 85 = .ok (.aload_n 0, 1) := by decide +kernel
theorem dt_Ri_copyFrom_86 : decode prog_7_method_3_code 86 = .ok (.getfield 9, 3) := by decide +kernel
theorem dt_Ri_copyFrom_89 : decode prog_7_method_3_code 89 = .ok (.iconst 0, 1) := by decide +kernel
theorem dt_Ri_copyFrom_90 : decode prog_7_method_3_code 90 = .ok (.bipush 7, 2) := by decide +kernel
theorem dt_Ri_copyFrom_92 : decode prog_7_method_3_code 92 = .ok (.invokestatic 85, 3) := by decide +kernel
theorem dt_Ri_copyFrom_95 : decode prog_7_method_3_code 95 = .ok (.aload_n 1, 1) := by decide +kernel
theorem dt_Ri_copyFrom_96 : decode prog_7_method_3_code 96 = .ok (.getfield 15, 3) := by decide +kernel
theorem dt_Ri_copyFrom_99 : decode prog_7_method_3_code 99 = .ok (.iconst 0, 1) := by decide +kernel
theorem dt_Ri_copyFrom_100 : decode prog_7_method_3_code 100 = .ok (.aload_n 0, 1) := by decide +kernel
theorem dt_Ri_copyFrom_101 : decode prog_7_method_3_code 101 = .ok (.getfield 15, 3) := by decide +kernel
theorem dt_Ri_copyFrom_104 : decode prog_7_method_3_code 104 = .ok (.iconst 0, 1) := by decide +kernel
theorem dt_Ri_copyFrom_105 : decode prog_7_method_3_code 105 = .ok (.bipush 7, 2) := by decide +kernel
theorem dt_Ri_copyFrom_107 : decode prog_7_method_3_code 107 = .ok (.invokestatic 85, 3) := by decide +kernel
theorem dt_Ri_copyFrom_110 : decode prog_7_method_3_code 110 = .ok (.aload_n 1, 1) := by decide +kernel
theorem dt_Ri_copyFrom_111 : decode prog_7_method_3_code 111 = .ok (.getfield 18, 3) := by decide +kernel
theorem dt_Ri_copyFrom_114 : decode prog_7_method_3_code 114 = .ok (.iconst 0, 1) := by decide +kernel
theorem dt_Ri_copyFrom_115 : decode prog_7_method_3_code 115 = .ok (.aload_n 0, 1) := by decide +kernel
theorem dt_Ri_copyFrom_116 : decode prog_7_method_3_code 116 = .ok (.getfield 18, 3) := by decide +kernel
theorem dt_Ri_copyFrom_119 : decode prog_7_method_3_code 119 = .ok (.iconst 0, 1) := by decide +kernel
theorem dt_Ri_copyFrom_120 : decode prog_7_method_3_code 120 = .ok (.bipush 7, 2) := by decide +kernel
theorem dt_Ri_copyFrom_122 : decode prog_7_method_3_code 122 = .ok (.invokestatic 85, 3) := by decide +kernel
theorem dt_Ri_copyFrom_125 : decode prog_7_method_3_code 125 = .ok (.aload_n 1, 1) := by decide +kernel
theorem dt_Ri_copyFrom_126 : decode prog_7_method_3_code 126 = .ok (.getfield 21, 3) := by decide +kernel
theorem dt_Ri_copyFrom_129 : decode prog_7_method_3_code 129 = .ok (.iconst 0, 1) := by decide +kernel
theorem dt_Ri_copyFrom_130 : decode prog_7_method_3_code 130 = .ok (.aload_n 0, 1) := by decide +kernel
theorem dt_Ri_copyFrom_131 : decode prog_7_method_3_code 131 = .ok (.getfield 21, 3) := by decide +kernel
theorem dt_Ri_copyFrom_134 : decode prog_7_method_3_code 134 = .ok (.iconst 0, 1) := by decide +kernel
theorem dt_Ri_copyFrom_135 : decode prog_7_method_3_code 135 = .ok (.bipush 35, 2) := by decide +kernel
theorem dt_Ri_copyFrom_137 : decode prog_7_method_3_code 137 = .ok (.invokestatic 85, 3) := by decide +kernel
theorem dt_Ri_copyFrom_140 : decode prog_7_method_3_code 140 = .ok (.aload_n 1, 1) := by decide +kernel
theorem dt_Ri_copyFrom_141 : decode prog_7_method_3_code 141 = .ok (.getfield 24, 3) := by decide +kernel
theorem dt_Ri_copyFrom_144 : decode prog_7_method_3_code 144 = .ok (.iconst 0, 1) := by decide +kernel
theorem dt_Ri_copyFrom_145 : decode prog_7_method_3_code 145 = .ok (.aload_n 0, 1) := by decide +kernel
theorem dt_Ri_copyFrom_146 : decode prog_7_method_3_code 146 = .ok (.getfield 24, 3) := by decide +kernel
theorem dt_Ri_copyFrom_149 : decode prog_7_method_3_code 149 = .ok (.iconst 0, 1) := by decide +kernel
theorem dt_Ri_copyFrom_150 : decode prog_7_method_3_code 150 = .ok (.bipush 24, 2) := by decide +kernel
theorem dt_Ri_copyFrom_152 : decode prog_7_method_3_code 152 = .ok (.invokestatic 85, 3) := by decide +kernel
theorem dt_Ri_copyFrom_155 : decode prog_7_method_3_code 155 = .ok (.aload_n 1, 1) := by decide +kernel
theorem dt_Ri_copyFrom_156 : decode prog_7_method_3_code 156 = .ok (.getfield 28, 3) := by decide +kernel
theorem dt_Ri_copyFrom_159 : decode prog_7_method_3_code 159 = .ok (.iconst 0, 1) := by decide +kernel
theorem dt_Ri_copyFrom_160 : decode prog_7_method_3_code 160 = .ok (.aload_n 0, 1) := by decide +kernel
theorem dt_Ri_copyFrom_161 : decode prog_7_method_3_code 161 = .ok (.getfield 28, 3) := by decide +kernel
theorem dt_Ri_copyFrom_164 : decode prog_7_method_3_code 164 = .ok (.iconst 0, 1) := by decide +kernel
theorem dt_Ri_copyFrom_165 : decode prog_7_method_3_code 165 = .ok (.bipush 24, 2) := by decide +kernel
theorem dt_Ri_copyFrom_167 : decode prog_7_method_3_code 167 = .ok (.invokestatic 85, 3) := by decide +kernel
theorem dt_Ri_copyFrom_170 : decode prog_7_method_3_code 170 = .ok (.aload_n 1, 1) := by decide +kernel
theorem dt_Ri_copyFrom_171 : decode prog_7_method_3_code 171 = .ok (.getfield 31, 3) := by decide +kernel
theorem dt_Ri_copyFrom_174 : decode prog_7_method_3_code 174 = .ok (.iconst 0, 1) := by decide +kernel
theorem dt_Ri_copyFrom_175 : decode prog_7_method_3_code 175 = .ok (.aload_n 0, 1) := by decide +kernel
theorem dt_Ri_copyFrom_176 : decode prog_7_method_3_code 176 = .ok (.getfield 31, 3) := by decide +kernel
theorem dt_Ri_copyFrom_179 : decode prog_7_method_3_code 179 = .ok (.iconst 0, 1) := by decide +kernel
theorem dt_Ri_copyFrom_180 : decode prog_7_method_3_code 180 = .ok (.bipush 12, 2) := by decide +kernel
theorem dt_Ri_copyFrom_182 : decode prog_7_method_3_code 182 = .ok (.invokestatic 85, 3) := by decide +kernel
theorem dt_Ri_copyFrom_185 : decode prog_7_method_3_code 185 = .ok (.aload_n 0, 1) := by decide +kernel
theorem dt_Ri_copyFrom_186 : decode prog_7_method_3_code 186 = .ok (.getfield 37, 3) := by decide +kernel
theorem dt_Ri_copyFrom_189 : decode prog_7_method_3_code 189 = .ok (.aload_n 1, 1) := by decide +kernel
theorem dt_Ri_copyFrom_190 : decode prog_7_method_3_code 190 = .ok (.getfield 37, 3) := by decide +kernel
theorem dt_Ri_copyFrom_193 : decode prog_7_method_3_code 193 = .ok (.invokevirtual 91, 3) := by decide +kernel
theorem dt_Ri_copyFrom_196 : decode prog_7_method_3_code 196 = .ok (.return_, 1) := by decide +kernel
set_option maxHeartbeats 4000000 in
set_option maxRecDepth 10000 in
theorem tm_Ri_copyFrom {N : Nat} {T : Nat → tm_S} {w : ab_W} {o : Nat} {q : Nat} (hW : tm_W N T w) (h_o : is_Ri T o) (h_q : is_Ri T q) (ne_o_q : o + 12 < q ∨ q + 12 < o) (x0 : Int) (k_x0 : tm_g w q 6 = some (ab_I x0)) : ab_Mt g_G g_rs mt_Ri_copyFrom 2 0 0 [ab_R o, ab_R q] w (tm_Qv N T (fun w2 => (∀ (p : Nat) (j : Int), ¬ (p = o ∨ p = (o + 1) ∨ p = (o + 2) ∨ p = (o + 3) ∨ p = (o + 4) ∨ p = (o + 5) ∨ p = (o + 6) ∨ p = (o + 7) ∨ p = (o + 8) ∨ p = (o + 9) ∨ p = (o + 10) ∨ p = (o + 11) ∨ p = (o + 12)) → tm_g w2 p j = tm_g w p j) ∧ ∃ x1 : Int, tm_g w2 o 6 = some (ab_I x1) ∧ (x1 = x0))) := by
  obtain ⟨ot0, ot1, ot2, ot3, ot4, ot5, ot6, ot7, ot8, ot9, ot10, ot11, ot12⟩ := id h_o
  have od := is_Ri.d h_o
  obtain ⟨qt0, qt1, qt2, qt3, qt4, qt5, qt6, qt7, qt8, qt9, qt10, qt11, qt12⟩ := id h_q
  have qd := is_Ri.d h_q
  have hF0 : ∀ (p : Nat) (j : Int), ¬ (p = o ∨ p = (o + 1) ∨ p = (o + 2) ∨ p = (o + 3) ∨ p = (o + 4) ∨ p = (o + 5) ∨ p = (o + 6) ∨ p = (o + 7) ∨ p = (o + 8) ∨ p = (o + 9) ∨ p = (o + 10) ∨ p = (o + 11) ∨ p = (o + 12)) → tm_g w p j = tm_g w p j := fun _ _ _ => rfl
  refine ab_Mt.of rfl (Nat.le_of_ble_eq_true rfl) ?_
  show ab_Ev g_G g_rs mt_Ri_copyFrom _ _ _ 0 [some (ab_R o), some (ab_R q)] [] _ _
  have b_x0 : (-2147483648) ≤ x0 ∧ x0 ≤ 2147483647 := by obtain ⟨a, e, h0, h1⟩ := tm_peek (k := 6) (K := 6) hW qt0 rfl rfl; rw [k_x0] at e; injection e with e; injection e with e; omega
  refine ev_aload_n dt_Ri_copyFrom_0 rfl rfl ?_
  refine ev_aload_n dt_Ri_copyFrom_1 rfl rfl ?_
  refine tm_getI (K := 0) dt_Ri_copyFrom_2 hW qt0 fl_Ri_41 rfl rfl (fun v134 kv134 lv134 uv134 => ?_)
  refine tm_putI (K := 0) dt_Ri_copyFrom_5 hW ot0 (fp_Ri_41 _) rfl rfl (by have h0 := True; first | (show _ = _ ∨ _ = _; omega) | omega) (by omega) (by omega) (fun w135 hWw135 kkw135 hfw135 => ?_)
  have hFw135 : ∀ (p : Nat) (j : Int), ¬ (p = o ∨ p = (o + 1) ∨ p = (o + 2) ∨ p = (o + 3) ∨ p = (o + 4) ∨ p = (o + 5) ∨ p = (o + 6) ∨ p = (o + 7) ∨ p = (o + 8) ∨ p = (o + 9) ∨ p = (o + 10) ∨ p = (o + 11) ∨ p = (o + 12)) → tm_g w135 p j = tm_g w p j := fun p j h => (hfw135 p j (by omega)).trans (hF0 p j h)
  refine ev_aload_n dt_Ri_copyFrom_8 rfl rfl ?_
  refine ev_aload_n dt_Ri_copyFrom_9 rfl rfl ?_
  refine tm_getI (K := 1) dt_Ri_copyFrom_10 hWw135 qt0 fl_Ri_45 rfl rfl (fun v136 kv136 lv136 uv136 => ?_)
  have z137 := (hFw135 q 1 (by omega)).symm.trans kv136
  refine tm_putI (K := 1) dt_Ri_copyFrom_13 hWw135 ot0 (fp_Ri_45 _) rfl rfl trivial (by omega) (by omega) (fun w138 hWw138 kkw138 hfw138 => ?_)
  have hFw138 : ∀ (p : Nat) (j : Int), ¬ (p = o ∨ p = (o + 1) ∨ p = (o + 2) ∨ p = (o + 3) ∨ p = (o + 4) ∨ p = (o + 5) ∨ p = (o + 6) ∨ p = (o + 7) ∨ p = (o + 8) ∨ p = (o + 9) ∨ p = (o + 10) ∨ p = (o + 11) ∨ p = (o + 12)) → tm_g w138 p j = tm_g w p j := fun p j h => (hfw138 p j (by omega)).trans (hFw135 p j h)
  have z139 := (hfw138 o 0 (by omega)).trans kkw135
  refine ev_aload_n dt_Ri_copyFrom_16 rfl rfl ?_
  refine ev_aload_n dt_Ri_copyFrom_17 rfl rfl ?_
  refine tm_getI (K := 2) dt_Ri_copyFrom_18 hWw138 qt0 fl_Ri_49 rfl rfl (fun v140 kv140 lv140 uv140 => ?_)
  have z141 := (hFw138 q 2 (by omega)).symm.trans kv140
  refine tm_putI (K := 2) dt_Ri_copyFrom_21 hWw138 ot0 (fp_Ri_49 _) rfl rfl trivial (by omega) (by omega) (fun w142 hWw142 kkw142 hfw142 => ?_)
  have hFw142 : ∀ (p : Nat) (j : Int), ¬ (p = o ∨ p = (o + 1) ∨ p = (o + 2) ∨ p = (o + 3) ∨ p = (o + 4) ∨ p = (o + 5) ∨ p = (o + 6) ∨ p = (o + 7) ∨ p = (o + 8) ∨ p = (o + 9) ∨ p = (o + 10) ∨ p = (o + 11) ∨ p = (o + 12)) → tm_g w142 p j = tm_g w p j := fun p j h => (hfw142 p j (by omega)).trans (hFw138 p j h)
  have z143 := (hfw142 o 0 (by omega)).trans z139
  have z144 := (hfw142 o 1 (by omega)).trans kkw138
  refine ev_aload_n dt_Ri_copyFrom_24 rfl rfl ?_
  refine ev_aload_n dt_Ri_copyFrom_25 rfl rfl ?_
  refine tm_getI (K := 3) dt_Ri_copyFrom_26 hWw142 qt0 fl_Ri_52 rfl rfl (fun v145 kv145 lv145 uv145 => ?_)
  have z146 := (hFw142 q 3 (by omega)).symm.trans kv145
  refine tm_putI (K := 3) dt_Ri_copyFrom_29 hWw142 ot0 (fp_Ri_52 _) rfl rfl trivial (by omega) (by omega) (fun w147 hWw147 kkw147 hfw147 => ?_)
  have hFw147 : ∀ (p : Nat) (j : Int), ¬ (p = o ∨ p = (o + 1) ∨ p = (o + 2) ∨ p = (o + 3) ∨ p = (o + 4) ∨ p = (o + 5) ∨ p = (o + 6) ∨ p = (o + 7) ∨ p = (o + 8) ∨ p = (o + 9) ∨ p = (o + 10) ∨ p = (o + 11) ∨ p = (o + 12)) → tm_g w147 p j = tm_g w p j := fun p j h => (hfw147 p j (by omega)).trans (hFw142 p j h)
  have z148 := (hfw147 o 0 (by omega)).trans z143
  have z149 := (hfw147 o 1 (by omega)).trans z144
  have z150 := (hfw147 o 2 (by omega)).trans kkw142
  refine ev_aload_n dt_Ri_copyFrom_32 rfl rfl ?_
  refine ev_aload_n dt_Ri_copyFrom_33 rfl rfl ?_
  refine tm_getI (K := 4) dt_Ri_copyFrom_34 hWw147 qt0 fl_Ri_55 rfl rfl (fun v151 kv151 lv151 uv151 => ?_)
  have z152 := (hFw147 q 4 (by omega)).symm.trans kv151
  refine tm_putI (K := 4) dt_Ri_copyFrom_37 hWw147 ot0 (fp_Ri_55 _) rfl rfl (by have h0 := True; first | (show _ = _ ∨ _ = _; omega) | omega) (by omega) (by omega) (fun w153 hWw153 kkw153 hfw153 => ?_)
  have hFw153 : ∀ (p : Nat) (j : Int), ¬ (p = o ∨ p = (o + 1) ∨ p = (o + 2) ∨ p = (o + 3) ∨ p = (o + 4) ∨ p = (o + 5) ∨ p = (o + 6) ∨ p = (o + 7) ∨ p = (o + 8) ∨ p = (o + 9) ∨ p = (o + 10) ∨ p = (o + 11) ∨ p = (o + 12)) → tm_g w153 p j = tm_g w p j := fun p j h => (hfw153 p j (by omega)).trans (hFw147 p j h)
  have z154 := (hfw153 o 0 (by omega)).trans z148
  have z155 := (hfw153 o 1 (by omega)).trans z149
  have z156 := (hfw153 o 2 (by omega)).trans z150
  have z157 := (hfw153 o 3 (by omega)).trans kkw147
  refine ev_aload_n dt_Ri_copyFrom_40 rfl rfl ?_
  refine ev_aload_n dt_Ri_copyFrom_41 rfl rfl ?_
  refine tm_getI (K := 5) dt_Ri_copyFrom_42 hWw153 qt0 fl_Ri_58 rfl rfl (fun v158 kv158 lv158 uv158 => ?_)
  have z159 := (hFw153 q 5 (by omega)).symm.trans kv158
  refine tm_putI (K := 5) dt_Ri_copyFrom_45 hWw153 ot0 (fp_Ri_58 _) rfl rfl trivial (by omega) (by omega) (fun w160 hWw160 kkw160 hfw160 => ?_)
  have hFw160 : ∀ (p : Nat) (j : Int), ¬ (p = o ∨ p = (o + 1) ∨ p = (o + 2) ∨ p = (o + 3) ∨ p = (o + 4) ∨ p = (o + 5) ∨ p = (o + 6) ∨ p = (o + 7) ∨ p = (o + 8) ∨ p = (o + 9) ∨ p = (o + 10) ∨ p = (o + 11) ∨ p = (o + 12)) → tm_g w160 p j = tm_g w p j := fun p j h => (hfw160 p j (by omega)).trans (hFw153 p j h)
  have z161 := (hfw160 o 0 (by omega)).trans z154
  have z162 := (hfw160 o 1 (by omega)).trans z155
  have z163 := (hfw160 o 2 (by omega)).trans z156
  have z164 := (hfw160 o 3 (by omega)).trans z157
  have z165 := (hfw160 o 4 (by omega)).trans kkw153
  refine ev_aload_n dt_Ri_copyFrom_48 rfl rfl ?_
  refine ev_aload_n dt_Ri_copyFrom_49 rfl rfl ?_
  refine tm_getK (K := 6) dt_Ri_copyFrom_50 hWw160 qt0 fl_Ri_61 rfl ((hFw160 q 6 (by omega)).trans k_x0) ?_
  refine tm_putI (K := 6) dt_Ri_copyFrom_53 hWw160 ot0 (fp_Ri_61 _) rfl rfl trivial (by omega) (by omega) (fun w166 hWw166 kkw166 hfw166 => ?_)
  have hFw166 : ∀ (p : Nat) (j : Int), ¬ (p = o ∨ p = (o + 1) ∨ p = (o + 2) ∨ p = (o + 3) ∨ p = (o + 4) ∨ p = (o + 5) ∨ p = (o + 6) ∨ p = (o + 7) ∨ p = (o + 8) ∨ p = (o + 9) ∨ p = (o + 10) ∨ p = (o + 11) ∨ p = (o + 12)) → tm_g w166 p j = tm_g w p j := fun p j h => (hfw166 p j (by omega)).trans (hFw160 p j h)
  have z167 := (hfw166 o 0 (by omega)).trans z161
  have z168 := (hfw166 o 1 (by omega)).trans z162
  have z169 := (hfw166 o 2 (by omega)).trans z163
  have z170 := (hfw166 o 3 (by omega)).trans z164
  have z171 := (hfw166 o 4 (by omega)).trans z165
  have z172 := (hfw166 o 5 (by omega)).trans kkw160
  refine ev_aload_n dt_Ri_copyFrom_56 rfl rfl ?_
  refine ev_aload_n dt_Ri_copyFrom_57 rfl rfl ?_
  refine tm_getI (K := 7) dt_Ri_copyFrom_58 hWw166 qt0 fl_Ri_64 rfl rfl (fun v173 kv173 lv173 uv173 => ?_)
  have z174 := (hFw166 q 7 (by omega)).symm.trans kv173
  refine tm_putI (K := 7) dt_Ri_copyFrom_61 hWw166 ot0 (fp_Ri_64 _) rfl rfl trivial (by omega) (by omega) (fun w175 hWw175 kkw175 hfw175 => ?_)
  have hFw175 : ∀ (p : Nat) (j : Int), ¬ (p = o ∨ p = (o + 1) ∨ p = (o + 2) ∨ p = (o + 3) ∨ p = (o + 4) ∨ p = (o + 5) ∨ p = (o + 6) ∨ p = (o + 7) ∨ p = (o + 8) ∨ p = (o + 9) ∨ p = (o + 10) ∨ p = (o + 11) ∨ p = (o + 12)) → tm_g w175 p j = tm_g w p j := fun p j h => (hfw175 p j (by omega)).trans (hFw166 p j h)
  have z176 := (hfw175 o 0 (by omega)).trans z167
  have z177 := (hfw175 o 1 (by omega)).trans z168
  have z178 := (hfw175 o 2 (by omega)).trans z169
  have z179 := (hfw175 o 3 (by omega)).trans z170
  have z180 := (hfw175 o 4 (by omega)).trans z171
  have z181 := (hfw175 o 5 (by omega)).trans z172
  have z182 := (hfw175 o 6 (by omega)).trans kkw166
  refine ev_aload_n dt_Ri_copyFrom_64 rfl rfl ?_
  refine ev_aload_n dt_Ri_copyFrom_65 rfl rfl ?_
  refine tm_getI (K := 8) dt_Ri_copyFrom_66 hWw175 qt0 fl_Ri_67 rfl rfl (fun v183 kv183 lv183 uv183 => ?_)
  have z184 := (hFw175 q 8 (by omega)).symm.trans kv183
  refine tm_putI (K := 8) dt_Ri_copyFrom_69 hWw175 ot0 (fp_Ri_67 _) rfl rfl trivial (by omega) (by omega) (fun w185 hWw185 kkw185 hfw185 => ?_)
  have hFw185 : ∀ (p : Nat) (j : Int), ¬ (p = o ∨ p = (o + 1) ∨ p = (o + 2) ∨ p = (o + 3) ∨ p = (o + 4) ∨ p = (o + 5) ∨ p = (o + 6) ∨ p = (o + 7) ∨ p = (o + 8) ∨ p = (o + 9) ∨ p = (o + 10) ∨ p = (o + 11) ∨ p = (o + 12)) → tm_g w185 p j = tm_g w p j := fun p j h => (hfw185 p j (by omega)).trans (hFw175 p j h)
  have z186 := (hfw185 o 0 (by omega)).trans z176
  have z187 := (hfw185 o 1 (by omega)).trans z177
  have z188 := (hfw185 o 2 (by omega)).trans z178
  have z189 := (hfw185 o 3 (by omega)).trans z179
  have z190 := (hfw185 o 4 (by omega)).trans z180
  have z191 := (hfw185 o 5 (by omega)).trans z181
  have z192 := (hfw185 o 6 (by omega)).trans z182
  have z193 := (hfw185 o 7 (by omega)).trans kkw175
  refine ev_aload_n dt_Ri_copyFrom_72 rfl rfl ?_
  refine ev_aload_n dt_Ri_copyFrom_73 rfl rfl ?_
  refine tm_getI (K := 9) dt_Ri_copyFrom_74 hWw185 qt0 fl_Ri_70 rfl rfl (fun v194 kv194 lv194 uv194 => ?_)
  have z195 := (hFw185 q 9 (by omega)).symm.trans kv194
  refine tm_putI (K := 9) dt_Ri_copyFrom_77 hWw185 ot0 (fp_Ri_70 _) rfl rfl trivial (by omega) (by omega) (fun w196 hWw196 kkw196 hfw196 => ?_)
  have hFw196 : ∀ (p : Nat) (j : Int), ¬ (p = o ∨ p = (o + 1) ∨ p = (o + 2) ∨ p = (o + 3) ∨ p = (o + 4) ∨ p = (o + 5) ∨ p = (o + 6) ∨ p = (o + 7) ∨ p = (o + 8) ∨ p = (o + 9) ∨ p = (o + 10) ∨ p = (o + 11) ∨ p = (o + 12)) → tm_g w196 p j = tm_g w p j := fun p j h => (hfw196 p j (by omega)).trans (hFw185 p j h)
  have z197 := (hfw196 o 0 (by omega)).trans z186
  have z198 := (hfw196 o 1 (by omega)).trans z187
  have z199 := (hfw196 o 2 (by omega)).trans z188
  have z200 := (hfw196 o 3 (by omega)).trans z189
  have z201 := (hfw196 o 4 (by omega)).trans z190
  have z202 := (hfw196 o 5 (by omega)).trans z191
  have z203 := (hfw196 o 6 (by omega)).trans z192
  have z204 := (hfw196 o 7 (by omega)).trans z193
  have z205 := (hfw196 o 8 (by omega)).trans kkw185
  refine ev_aload_n dt_Ri_copyFrom_80 rfl rfl ?_
  refine tm_getR dt_Ri_copyFrom_81 hWw196 qt0 fl_Ri_9 rfl ?_
  refine ev_iconst dt_Ri_copyFrom_84 ?_
  refine ev_aload_n dt_Ri_copyFrom_85 rfl rfl ?_
  refine tm_getR dt_Ri_copyFrom_86 hWw196 ot0 fl_Ri_9 rfl ?_
  refine ev_iconst dt_Ri_copyFrom_89 ?_
  refine ev_bipush dt_Ri_copyFrom_90 rfl ?_
  refine tm_copyi dt_Ri_copyFrom_92 ck_Ri_85 hWw196 qt1 ot1 (by omega) (by omega) (by omega) (by omega) (Nat.le_of_ble_eq_true rfl) (by decide) (fun w206 hWw206 hfw206 => ?_)
  have hFw206 : ∀ (p : Nat) (j : Int), ¬ (p = o ∨ p = (o + 1) ∨ p = (o + 2) ∨ p = (o + 3) ∨ p = (o + 4) ∨ p = (o + 5) ∨ p = (o + 6) ∨ p = (o + 7) ∨ p = (o + 8) ∨ p = (o + 9) ∨ p = (o + 10) ∨ p = (o + 11) ∨ p = (o + 12)) → tm_g w206 p j = tm_g w p j := fun p j h => (hfw206 p j (by omega)).trans (hFw196 p j h)
  have z207 := (hfw206 o 0 (by omega)).trans z197
  have z208 := (hfw206 o 1 (by omega)).trans z198
  have z209 := (hfw206 o 2 (by omega)).trans z199
  have z210 := (hfw206 o 3 (by omega)).trans z200
  have z211 := (hfw206 o 4 (by omega)).trans z201
  have z212 := (hfw206 o 5 (by omega)).trans z202
  have z213 := (hfw206 o 6 (by omega)).trans z203
  have z214 := (hfw206 o 7 (by omega)).trans z204
  have z215 := (hfw206 o 8 (by omega)).trans z205
  have z216 := (hfw206 o 9 (by omega)).trans kkw196
  refine ev_aload_n dt_Ri_copyFrom_95 rfl rfl ?_
  refine tm_getR dt_Ri_copyFrom_96 hWw206 qt0 fl_Ri_15 rfl ?_
  refine ev_iconst dt_Ri_copyFrom_99 ?_
  refine ev_aload_n dt_Ri_copyFrom_100 rfl rfl ?_
  refine tm_getR dt_Ri_copyFrom_101 hWw206 ot0 fl_Ri_15 rfl ?_
  refine ev_iconst dt_Ri_copyFrom_104 ?_
  refine ev_bipush dt_Ri_copyFrom_105 rfl ?_
  refine tm_copyi dt_Ri_copyFrom_107 ck_Ri_85 hWw206 qt2 ot2 (by omega) (by omega) (by omega) (by omega) (Nat.le_of_ble_eq_true rfl) (by decide) (fun w217 hWw217 hfw217 => ?_)
  have hFw217 : ∀ (p : Nat) (j : Int), ¬ (p = o ∨ p = (o + 1) ∨ p = (o + 2) ∨ p = (o + 3) ∨ p = (o + 4) ∨ p = (o + 5) ∨ p = (o + 6) ∨ p = (o + 7) ∨ p = (o + 8) ∨ p = (o + 9) ∨ p = (o + 10) ∨ p = (o + 11) ∨ p = (o + 12)) → tm_g w217 p j = tm_g w p j := fun p j h => (hfw217 p j (by omega)).trans (hFw206 p j h)
  have z218 := (hfw217 o 0 (by omega)).trans z207
  have z219 := (hfw217 o 1 (by omega)).trans z208
  have z220 := (hfw217 o 2 (by omega)).trans z209
  have z221 := (hfw217 o 3 (by omega)).trans z210
  have z222 := (hfw217 o 4 (by omega)).trans z211
  have z223 := (hfw217 o 5 (by omega)).trans z212
  have z224 := (hfw217 o 6 (by omega)).trans z213
  have z225 := (hfw217 o 7 (by omega)).trans z214
  have z226 := (hfw217 o 8 (by omega)).trans z215
  have z227 := (hfw217 o 9 (by omega)).trans z216
  refine ev_aload_n dt_Ri_copyFrom_110 rfl rfl ?_
  refine tm_getR dt_Ri_copyFrom_111 hWw217 qt0 fl_Ri_18 rfl ?_
  refine ev_iconst dt_Ri_copyFrom_114 ?_
  refine ev_aload_n dt_Ri_copyFrom_115 rfl rfl ?_
  refine tm_getR dt_Ri_copyFrom_116 hWw217 ot0 fl_Ri_18 rfl ?_
  refine ev_iconst dt_Ri_copyFrom_119 ?_
  refine ev_bipush dt_Ri_copyFrom_120 rfl ?_
  refine tm_copyi dt_Ri_copyFrom_122 ck_Ri_85 hWw217 qt3 ot3 (by omega) (by omega) (by omega) (by omega) (Nat.le_of_ble_eq_true rfl) (by decide) (fun w228 hWw228 hfw228 => ?_)
  have hFw228 : ∀ (p : Nat) (j : Int), ¬ (p = o ∨ p = (o + 1) ∨ p = (o + 2) ∨ p = (o + 3) ∨ p = (o + 4) ∨ p = (o + 5) ∨ p = (o + 6) ∨ p = (o + 7) ∨ p = (o + 8) ∨ p = (o + 9) ∨ p = (o + 10) ∨ p = (o + 11) ∨ p = (o + 12)) → tm_g w228 p j = tm_g w p j := fun p j h => (hfw228 p j (by omega)).trans (hFw217 p j h)
  have z229 := (hfw228 o 0 (by omega)).trans z218
  have z230 := (hfw228 o 1 (by omega)).trans z219
  have z231 := (hfw228 o 2 (by omega)).trans z220
  have z232 := (hfw228 o 3 (by omega)).trans z221
  have z233 := (hfw228 o 4 (by omega)).trans z222
  have z234 := (hfw228 o 5 (by omega)).trans z223
  have z235 := (hfw228 o 6 (by omega)).trans z224
  have z236 := (hfw228 o 7 (by omega)).trans z225
  have z237 := (hfw228 o 8 (by omega)).trans z226
  have z238 := (hfw228 o 9 (by omega)).trans z227
  refine ev_aload_n dt_Ri_copyFrom_125 rfl rfl ?_
  refine tm_getR dt_Ri_copyFrom_126 hWw228 qt0 fl_Ri_21 rfl ?_
  refine ev_iconst dt_Ri_copyFrom_129 ?_
  refine ev_aload_n dt_Ri_copyFrom_130 rfl rfl ?_
  refine tm_getR dt_Ri_copyFrom_131 hWw228 ot0 fl_Ri_21 rfl ?_
  refine ev_iconst dt_Ri_copyFrom_134 ?_
  refine ev_bipush dt_Ri_copyFrom_135 rfl ?_
  refine tm_copyi dt_Ri_copyFrom_137 ck_Ri_85 hWw228 qt4 ot4 (by omega) (by omega) (by omega) (by omega) (Nat.le_of_ble_eq_true rfl) (by decide) (fun w239 hWw239 hfw239 => ?_)
  have hFw239 : ∀ (p : Nat) (j : Int), ¬ (p = o ∨ p = (o + 1) ∨ p = (o + 2) ∨ p = (o + 3) ∨ p = (o + 4) ∨ p = (o + 5) ∨ p = (o + 6) ∨ p = (o + 7) ∨ p = (o + 8) ∨ p = (o + 9) ∨ p = (o + 10) ∨ p = (o + 11) ∨ p = (o + 12)) → tm_g w239 p j = tm_g w p j := fun p j h => (hfw239 p j (by omega)).trans (hFw228 p j h)
  have z240 := (hfw239 o 0 (by omega)).trans z229
  have z241 := (hfw239 o 1 (by omega)).trans z230
  have z242 := (hfw239 o 2 (by omega)).trans z231
  have z243 := (hfw239 o 3 (by omega)).trans z232
  have z244 := (hfw239 o 4 (by omega)).trans z233
  have z245 := (hfw239 o 5 (by omega)).trans z234
  have z246 := (hfw239 o 6 (by omega)).trans z235
  have z247 := (hfw239 o 7 (by omega)).trans z236
  have z248 := (hfw239 o 8 (by omega)).trans z237
  have z249 := (hfw239 o 9 (by omega)).trans z238
  refine ev_aload_n dt_Ri_copyFrom_140 rfl rfl ?_
  refine tm_getR dt_Ri_copyFrom_141 hWw239 qt0 fl_Ri_24 rfl ?_
  refine ev_iconst dt_Ri_copyFrom_144 ?_
  refine ev_aload_n dt_Ri_copyFrom_145 rfl rfl ?_
  refine tm_getR dt_Ri_copyFrom_146 hWw239 ot0 fl_Ri_24 rfl ?_
  refine ev_iconst dt_Ri_copyFrom_149 ?_
  refine ev_bipush dt_Ri_copyFrom_150 rfl ?_
  refine tm_copyl dt_Ri_copyFrom_152 ck_Ri_85 hWw239 qt5 ot5 (by omega) (by omega) (Nat.le_of_ble_eq_true rfl) (by decide) (fun w250 hWw250 hfw250 => ?_)
  have hFw250 : ∀ (p : Nat) (j : Int), ¬ (p = o ∨ p = (o + 1) ∨ p = (o + 2) ∨ p = (o + 3) ∨ p = (o + 4) ∨ p = (o + 5) ∨ p = (o + 6) ∨ p = (o + 7) ∨ p = (o + 8) ∨ p = (o + 9) ∨ p = (o + 10) ∨ p = (o + 11) ∨ p = (o + 12)) → tm_g w250 p j = tm_g w p j := fun p j h => (hfw250 p j (by omega)).trans (hFw239 p j h)
  have z251 := (hfw250 o 0 (by omega)).trans z240
  have z252 := (hfw250 o 1 (by omega)).trans z241
  have z253 := (hfw250 o 2 (by omega)).trans z242
  have z254 := (hfw250 o 3 (by omega)).trans z243
  have z255 := (hfw250 o 4 (by omega)).trans z244
  have z256 := (hfw250 o 5 (by omega)).trans z245
  have z257 := (hfw250 o 6 (by omega)).trans z246
  have z258 := (hfw250 o 7 (by omega)).trans z247
  have z259 := (hfw250 o 8 (by omega)).trans z248
  have z260 := (hfw250 o 9 (by omega)).trans z249
  refine ev_aload_n dt_Ri_copyFrom_155 rfl rfl ?_
  refine tm_getR dt_Ri_copyFrom_156 hWw250 qt0 fl_Ri_28 rfl ?_
  refine ev_iconst dt_Ri_copyFrom_159 ?_
  refine ev_aload_n dt_Ri_copyFrom_160 rfl rfl ?_
  refine tm_getR dt_Ri_copyFrom_161 hWw250 ot0 fl_Ri_28 rfl ?_
  refine ev_iconst dt_Ri_copyFrom_164 ?_
  refine ev_bipush dt_Ri_copyFrom_165 rfl ?_
  refine tm_copyi dt_Ri_copyFrom_167 ck_Ri_85 hWw250 qt6 ot6 (by omega) (by omega) (by omega) (by omega) (Nat.le_of_ble_eq_true rfl) (by decide) (fun w261 hWw261 hfw261 => ?_)
  have hFw261 : ∀ (p : Nat) (j : Int), ¬ (p = o ∨ p = (o + 1) ∨ p = (o + 2) ∨ p = (o + 3) ∨ p = (o + 4) ∨ p = (o + 5) ∨ p = (o + 6) ∨ p = (o + 7) ∨ p = (o + 8) ∨ p = (o + 9) ∨ p = (o + 10) ∨ p = (o + 11) ∨ p = (o + 12)) → tm_g w261 p j = tm_g w p j := fun p j h => (hfw261 p j (by omega)).trans (hFw250 p j h)
  have z262 := (hfw261 o 0 (by omega)).trans z251
  have z263 := (hfw261 o 1 (by omega)).trans z252
  have z264 := (hfw261 o 2 (by omega)).trans z253
  have z265 := (hfw261 o 3 (by omega)).trans z254
  have z266 := (hfw261 o 4 (by omega)).trans z255
  have z267 := (hfw261 o 5 (by omega)).trans z256
  have z268 := (hfw261 o 6 (by omega)).trans z257
  have z269 := (hfw261 o 7 (by omega)).trans z258
  have z270 := (hfw261 o 8 (by omega)).trans z259
  have z271 := (hfw261 o 9 (by omega)).trans z260
  refine ev_aload_n dt_Ri_copyFrom_170 rfl rfl ?_
  refine tm_getR dt_Ri_copyFrom_171 hWw261 qt0 fl_Ri_31 rfl ?_
  refine ev_iconst dt_Ri_copyFrom_174 ?_
  refine ev_aload_n dt_Ri_copyFrom_175 rfl rfl ?_
  refine tm_getR dt_Ri_copyFrom_176 hWw261 ot0 fl_Ri_31 rfl ?_
  refine ev_iconst dt_Ri_copyFrom_179 ?_
  refine ev_bipush dt_Ri_copyFrom_180 rfl ?_
  refine tm_copyi dt_Ri_copyFrom_182 ck_Ri_85 hWw261 qt7 ot7 (by omega) (by omega) (by omega) (by omega) (Nat.le_of_ble_eq_true rfl) (by decide) (fun w272 hWw272 hfw272 => ?_)
  have hFw272 : ∀ (p : Nat) (j : Int), ¬ (p = o ∨ p = (o + 1) ∨ p = (o + 2) ∨ p = (o + 3) ∨ p = (o + 4) ∨ p = (o + 5) ∨ p = (o + 6) ∨ p = (o + 7) ∨ p = (o + 8) ∨ p = (o + 9) ∨ p = (o + 10) ∨ p = (o + 11) ∨ p = (o + 12)) → tm_g w272 p j = tm_g w p j := fun p j h => (hfw272 p j (by omega)).trans (hFw261 p j h)
  have z273 := (hfw272 o 0 (by omega)).trans z262
  have z274 := (hfw272 o 1 (by omega)).trans z263
  have z275 := (hfw272 o 2 (by omega)).trans z264
  have z276 := (hfw272 o 3 (by omega)).trans z265
  have z277 := (hfw272 o 4 (by omega)).trans z266
  have z278 := (hfw272 o 5 (by omega)).trans z267
  have z279 := (hfw272 o 6 (by omega)).trans z268
  have z280 := (hfw272 o 7 (by omega)).trans z269
  have z281 := (hfw272 o 8 (by omega)).trans z270
  have z282 := (hfw272 o 9 (by omega)).trans z271
  refine ev_aload_n dt_Ri_copyFrom_185 rfl rfl ?_
  refine tm_getR dt_Ri_copyFrom_186 hWw272 ot0 fl_Ri_37 rfl ?_
  refine ev_aload_n dt_Ri_copyFrom_189 rfl rfl ?_
  refine tm_getR dt_Ri_copyFrom_190 hWw272 qt0 fl_Ri_37 rfl ?_
  refine tm_vv dt_Ri_copyFrom_193 (tm_Di_copyFrom hWw272 od qd (by omega)) kb_Ri_91 ⟨im_Di_copyFrom, se_Di_copyFrom⟩ rfl hWw272 ot8 rfl (Nat.le_of_ble_eq_true rfl) (by decide) (fun w283 hWw283 hRw283 => ?_)
  have hfw283 := hRw283
  have hFw283 : ∀ (p : Nat) (j : Int), ¬ (p = o ∨ p = (o + 1) ∨ p = (o + 2) ∨ p = (o + 3) ∨ p = (o + 4) ∨ p = (o + 5) ∨ p = (o + 6) ∨ p = (o + 7) ∨ p = (o + 8) ∨ p = (o + 9) ∨ p = (o + 10) ∨ p = (o + 11) ∨ p = (o + 12)) → tm_g w283 p j = tm_g w p j := fun p j h => (hfw283 p j (by omega)).trans (hFw272 p j h)
  have z284 := (hfw283 o 0 (by omega)).trans z273
  have z285 := (hfw283 o 1 (by omega)).trans z274
  have z286 := (hfw283 o 2 (by omega)).trans z275
  have z287 := (hfw283 o 3 (by omega)).trans z276
  have z288 := (hfw283 o 4 (by omega)).trans z277
  have z289 := (hfw283 o 5 (by omega)).trans z278
  have z290 := (hfw283 o 6 (by omega)).trans z279
  have z291 := (hfw283 o 7 (by omega)).trans z280
  have z292 := (hfw283 o 8 (by omega)).trans z281
  have z293 := (hfw283 o 9 (by omega)).trans z282
  exact ev_return dt_Ri_copyFrom_196 rfl ⟨hWw283, rfl, ⟨hFw283, x0, z290, by omega⟩⟩
theorem dt_Ri_addHouse_0 : decode prog_7_method_5_code 0 = .ok (.aload_n 0, 1) := by decide +kernel
theorem dt_Ri_addHouse_1 : decode prog_7_method_5_code 1 = .ok (.getfield 9, 3) := by decide +kernel
theorem dt_Ri_addHouse_4 : decode prog_7_method_5_code 4 = .ok (.aload_n 0, 1) := by decide +kernel
theorem dt_Ri_addHouse_5 : decode prog_7_method_5_code 5 = .ok (.getfield 64, 3) := by decide +kernel
theorem dt_Ri_addHouse_8 : decode prog_7_method_5_code 8 = .ok (.iload_n 1, 1) := by decide +kernel
theorem dt_Ri_addHouse_9 : decode prog_7_method_5_code 9 = .ok (.iastore, 1) := by decide +kernel
theorem dt_Ri_addHouse_10 : decode prog_7_method_5_code 10 = .ok (.aload_n 0, 1) := by decide +kernel
theorem dt_Ri_addHouse_11 : decode prog_7_method_5_code 11 = .ok (.getfield 15, 3) := by decide +kernel
theorem dt_Ri_addHouse_14 : decode prog_7_method_5_code 14 = .ok (.aload_n 0, 1) := by decide +kernel
theorem dt_Ri_addHouse_15 : decode prog_7_method_5_code 15 = .ok (.getfield 64, 3) := by decide +kernel
theorem dt_Ri_addHouse_18 : decode prog_7_method_5_code 18 = .ok (.iload_n 1, 1) := by decide +kernel
theorem dt_Ri_addHouse_19 : decode prog_7_method_5_code 19 = .ok (.iastore, 1) := by decide +kernel
theorem dt_Ri_addHouse_20 : decode prog_7_method_5_code 20 = .ok (.aload_n 0, 1) := by decide +kernel
theorem dt_Ri_addHouse_21 : decode prog_7_method_5_code 21 = .ok (.getfield 18, 3) := by decide +kernel
theorem dt_Ri_addHouse_24 : decode prog_7_method_5_code 24 = .ok (.aload_n 0, 1) := by decide +kernel
theorem dt_Ri_addHouse_25 : decode prog_7_method_5_code 25 = .ok (.getfield 64, 3) := by decide +kernel
theorem dt_Ri_addHouse_28 : decode prog_7_method_5_code 28 = .ok (.iload_n 2, 1) := by decide +kernel
theorem dt_Ri_addHouse_29 : decode prog_7_method_5_code 29 = .ok (.iastore, 1) := by decide +kernel
theorem dt_Ri_addHouse_30 : decode prog_7_method_5_code 30 = .ok (.aload_n 0, 1) := by decide +kernel
theorem dt_Ri_addHouse_31 : decode prog_7_method_5_code 31 = .ok (.dup, 1) := by decide +kernel
theorem dt_Ri_addHouse_32 : decode prog_7_method_5_code 32 = .ok (.getfield 64, 3) := by decide +kernel
theorem dt_Ri_addHouse_35 : decode prog_7_method_5_code 35 = .ok (.iconst 1, 1) := by decide +kernel
theorem dt_Ri_addHouse_36 : decode prog_7_method_5_code 36 = .ok (.iadd, 1) := by decide +kernel
theorem dt_Ri_addHouse_37 : decode prog_7_method_5_code 37 = .ok (.putfield 64, 3) := by decide +kernel
theorem dt_Ri_addHouse_40 : decode prog_7_method_5_code 40 = .ok (.return_, 1) := by decide +kernel
theorem dt_Ri_addSight_0 : decode prog_7_method_6_code 0 = .ok (.iload_n 3, 1) := by decide +kernel
theorem dt_Ri_addSight_1 : decode prog_7_method_6_code 1 = .ok (.istore 5, 2) := by decide +kernel
theorem dt_Ri_addSight_3 : decode prog_7_method_6_code 3 = .ok (.iload 5, 2) := by decide +kernel
theorem dt_Ri_addSight_5 : decode prog_7_method_6_code 5 = .ok (.iload 4, 2) := by decide +kernel
theorem dt_Ri_addSight_7 : decode prog_7_method_6_code 7 = .ok (.if_icmp .gt 26, 3) := by decide +kernel
theorem dt_Ri_addSight_10 : decode prog_7_method_6_code 10 = .ok (.aload_n 0, 1) := by decide +kernel
theorem dt_Ri_addSight_11 : decode prog_7_method_6_code 11 = .ok (.getfield 24, 3) := by decide +kernel
theorem dt_Ri_addSight_14 : decode prog_7_method_6_code 14 = .ok (.iload 5, 2) := by decide +kernel
theorem dt_Ri_addSight_16 : decode prog_7_method_6_code 16 = .ok (.dup2, 1) := by decide +kernel
theorem dt_Ri_addSight_17 : decode prog_7_method_6_code 17 = .ok (.laload, 1) := by decide +kernel
theorem dt_Ri_addSight_18 : decode prog_7_method_6_code 18 = .ok (.lconst 1, 1) := by decide +kernel
theorem dt_Ri_addSight_19 : decode prog_7_method_6_code 19 = .ok (.iload_n 2, 1) := by decide +kernel
theorem dt_Ri_addSight_20 : decode prog_7_method_6_code 20 = .ok (.iconst 5, 1) := by decide +kernel
theorem dt_Ri_addSight_21 : decode prog_7_method_6_code 21 = .ok (.imul, 1) := by decide +kernel
theorem dt_Ri_addSight_22 : decode prog_7_method_6_code 22 = .ok (.iload_n 1, 1) := by decide +kernel
theorem dt_Ri_addSight_23 : decode prog_7_method_6_code 23 = .ok (.iadd, 1) := by decide +kernel
theorem dt_Ri_addSight_24 : decode prog_7_method_6_code 24 = .ok (.lshl, 1) := by decide +kernel
theorem dt_Ri_addSight_25 : decode prog_7_method_6_code 25 = .ok (.lor, 1) := by decide +kernel
theorem dt_Ri_addSight_26 : decode prog_7_method_6_code 26 = .ok (.lastore, 1) := by decide +kernel
theorem dt_Ri_addSight_27 : decode prog_7_method_6_code 27 = .ok (.iinc 5 1, 3) := by decide +kernel
theorem dt_Ri_addSight_30 : decode prog_7_method_6_code 30 = .ok (.goto (-27), 3) := by decide +kernel
theorem dt_Ri_addSight_33 : decode prog_7_method_6_code 33 = .ok (.aload_n 0, 1) := by decide +kernel
theorem dt_Ri_addSight_34 : decode prog_7_method_6_code 34 = .ok (.dup, 1) := by decide +kernel
theorem dt_Ri_addSight_35 : decode prog_7_method_6_code 35 = .ok (.getfield 67, 3) := by decide +kernel
theorem dt_Ri_addSight_38 : decode prog_7_method_6_code 38 = .ok (.iconst 1, 1) := by decide +kernel
theorem dt_Ri_addSight_39 : decode prog_7_method_6_code 39 = .ok (.iadd, 1) := by decide +kernel
theorem dt_Ri_addSight_40 : decode prog_7_method_6_code 40 = .ok (.putfield 67, 3) := by decide +kernel
theorem dt_Ri_addSight_43 : decode prog_7_method_6_code 43 = .ok (.return_, 1) := by decide +kernel
theorem dt_Ri_setRates_0 : decode prog_7_method_7_code 0 = .ok (.iload_n 1, 1) := by decide +kernel
theorem dt_Ri_setRates_1 : decode prog_7_method_7_code 1 = .ok (.istore 4, 2) := by decide +kernel
theorem dt_Ri_setRates_3 : decode prog_7_method_7_code 3 = .ok (.iload 4, 2) := by decide +kernel
theorem dt_Ri_setRates_5 : decode prog_7_method_7_code 5 = .ok (.iload_n 2, 1) := by decide +kernel
theorem dt_Ri_setRates_6 : decode prog_7_method_7_code 6 = .ok (.if_icmp .gt 17, 3) := by decide +kernel
theorem dt_Ri_setRates_9 : decode prog_7_method_7_code 9 = .ok (.aload_n 0, 1) := by decide +kernel
theorem dt_Ri_setRates_10 : decode prog_7_method_7_code 10 = .ok (.getfield 28, 3) := by decide +kernel
theorem dt_Ri_setRates_13 : decode prog_7_method_7_code 13 = .ok (.iload 4, 2) := by decide +kernel
theorem dt_Ri_setRates_15 : decode prog_7_method_7_code 15 = .ok (.iload_n 3, 1) := by decide +kernel
theorem dt_Ri_setRates_16 : decode prog_7_method_7_code 16 = .ok (.iastore, 1) := by decide +kernel
theorem dt_Ri_setRates_17 : decode prog_7_method_7_code 17 = .ok (.iinc 4 1, 3) := by decide +kernel
theorem dt_Ri_setRates_20 : decode prog_7_method_7_code 20 = .ok (.goto (-17), 3) := by decide +kernel
theorem dt_Ri_setRates_23 : decode prog_7_method_7_code 23 = .ok (.return_, 1) := by decide +kernel
theorem dt_Ri_swapSlots_0 : decode prog_7_method_29_code 0 = .ok (.aload_n 0, 1) := by decide +kernel
theorem dt_Ri_swapSlots_1 : decode prog_7_method_29_code 1 = .ok (.getfield 9, 3) := by decide +kernel
theorem dt_Ri_swapSlots_4 : decode prog_7_method_29_code 4 = .ok (.iload_n 1, 1) := by decide +kernel
theorem dt_Ri_swapSlots_5 : decode prog_7_method_29_code 5 = .ok (.iaload, 1) := by decide +kernel
theorem dt_Ri_swapSlots_6 : decode prog_7_method_29_code 6 = .ok (.istore_n 3, 1) := by decide +kernel
theorem dt_Ri_swapSlots_7 : decode prog_7_method_29_code 7 = .ok (.aload_n 0, 1) := by decide +kernel
theorem dt_Ri_swapSlots_8 : decode prog_7_method_29_code 8 = .ok (.getfield 9, 3) := by decide +kernel
theorem dt_Ri_swapSlots_11 : decode prog_7_method_29_code 11 = .ok (.iload_n 1, 1) := by decide +kernel
theorem dt_Ri_swapSlots_12 : decode prog_7_method_29_code 12 = .ok (.aload_n 0, 1) := by decide +kernel
theorem dt_Ri_swapSlots_13 : decode prog_7_method_29_code 13 = .ok (.getfield 9, 3) := by decide +kernel
theorem dt_Ri_swapSlots_16 : decode prog_7_method_29_code 16 = .ok (.iload_n 2, 1) := by decide +kernel
theorem dt_Ri_swapSlots_17 : decode prog_7_method_29_code 17 = .ok (.iaload, 1) := by decide +kernel
theorem dt_Ri_swapSlots_18 : decode prog_7_method_29_code 18 = .ok (.iastore, 1) := by decide +kernel
theorem dt_Ri_swapSlots_19 : decode prog_7_method_29_code 19 = .ok (.aload_n 0, 1) := by decide +kernel
theorem dt_Ri_swapSlots_20 : decode prog_7_method_29_code 20 = .ok (.getfield 9, 3) := by decide +kernel
theorem dt_Ri_swapSlots_23 : decode prog_7_method_29_code 23 = .ok (.iload_n 2, 1) := by decide +kernel
theorem dt_Ri_swapSlots_24 : decode prog_7_method_29_code 24 = .ok (.iload_n 3, 1) := by decide +kernel
theorem dt_Ri_swapSlots_25 : decode prog_7_method_29_code 25 = .ok (.iastore, 1) := by decide +kernel
theorem dt_Ri_swapSlots_26 : decode prog_7_method_29_code 26 = .ok (.return_, 1) := by decide +kernel
set_option maxHeartbeats 4000000 in
set_option maxRecDepth 10000 in
theorem tm_Ri_swapSlots {N : Nat} {T : Nat → tm_S} {w : ab_W} {o : Nat} (hW : tm_W N T w) (h_o : is_Ri T o) (a : Int) (l_a : 0 ≤ a) (u_a : a ≤ 6) (b : Int) (l_b : 0 ≤ b) (u_b : b ≤ 6) : ab_Mt g_G g_rs mt_Ri_swapSlots 0 0 0 [ab_R o, ab_I a, ab_I b] w (tm_Qv N T (fun w2 => (∀ (p : Nat) (j : Int), ¬ (p = (o + 1)) → tm_g w2 p j = tm_g w p j))) := by
  obtain ⟨ot0, ot1, ot2, ot3, ot4, ot5, ot6, ot7, ot8, ot9, ot10, ot11, ot12⟩ := id h_o
  have od := is_Ri.d h_o
  have hF0 : ∀ (p : Nat) (j : Int), ¬ (p = (o + 1)) → tm_g w p j = tm_g w p j := fun _ _ _ => rfl
  refine ab_Mt.of rfl (Nat.le_of_ble_eq_true rfl) ?_
  show ab_Ev g_G g_rs mt_Ri_swapSlots _ _ _ 0 [some (ab_R o), some (ab_I a), some (ab_I b), none] [] _ _
  refine ev_aload_n dt_Ri_swapSlots_0 rfl rfl ?_
  refine tm_getR dt_Ri_swapSlots_1 hW ot0 fl_Ri_9 rfl ?_
  refine ev_iload_n dt_Ri_swapSlots_4 rfl rfl ?_
  refine tm_iaload dt_Ri_swapSlots_5 hW ot1 (by omega) (by omega) (by omega) (fun v315 kv315 lv315 uv315 => ?_)
  refine ev_istore_n (l' := [_, _, _, _]) dt_Ri_swapSlots_6 rfl (Nat.le_of_ble_eq_true rfl) rfl ?_
  refine ev_aload_n dt_Ri_swapSlots_7 rfl rfl ?_
  refine tm_getR dt_Ri_swapSlots_8 hW ot0 fl_Ri_9 rfl ?_
  refine ev_iload_n dt_Ri_swapSlots_11 rfl rfl ?_
  refine ev_aload_n dt_Ri_swapSlots_12 rfl rfl ?_
  refine tm_getR dt_Ri_swapSlots_13 hW ot0 fl_Ri_9 rfl ?_
  refine ev_iload_n dt_Ri_swapSlots_16 rfl rfl ?_
  refine tm_iaload dt_Ri_swapSlots_17 hW ot1 (by omega) (by omega) (by omega) (fun v316 kv316 lv316 uv316 => ?_)
  refine tm_iastore dt_Ri_swapSlots_18 hW ot1 (by omega) (by omega) (by omega) (by omega) (by omega) (fun w317 hWw317 kkw317 hfw317 => ?_)
  have hFw317 : ∀ (p : Nat) (j : Int), ¬ (p = (o + 1)) → tm_g w317 p j = tm_g w p j := fun p j h => (hfw317 p j (by omega)).trans (hF0 p j h)
  refine ev_aload_n dt_Ri_swapSlots_19 rfl rfl ?_
  refine tm_getR dt_Ri_swapSlots_20 hWw317 ot0 fl_Ri_9 rfl ?_
  refine ev_iload_n dt_Ri_swapSlots_23 rfl rfl ?_
  refine ev_iload_n dt_Ri_swapSlots_24 rfl rfl ?_
  refine tm_iastore dt_Ri_swapSlots_25 hWw317 ot1 (by omega) (by omega) (by omega) (by omega) (by omega) (fun w318 hWw318 kkw318 hfw318 => ?_)
  have hFw318 : ∀ (p : Nat) (j : Int), ¬ (p = (o + 1)) → tm_g w318 p j = tm_g w p j := fun p j h => (hfw318 p j (by omega)).trans (hFw317 p j h)
  exact ev_return dt_Ri_swapSlots_26 rfl ⟨hWw318, rfl, hFw318⟩
theorem dt_Ri_passHour_0 : decode prog_7_method_27_code 0 = .ok (.aload_n 0, 1) := by decide +kernel
theorem dt_Ri_passHour_1 : decode prog_7_method_27_code 1 = .ok (.getfield 55, 3) := by decide +kernel
theorem dt_Ri_passHour_4 : decode prog_7_method_27_code 4 = .ok (.ifCond .eq 7, 3) := by decide +kernel
theorem dt_Ri_passHour_7 : decode prog_7_method_27_code 7 = .ok (.iconst 0, 1) := by decide +kernel
theorem dt_Ri_passHour_8 : decode prog_7_method_27_code 8 = .ok (.goto 4, 3) := by decide +kernel
theorem dt_Ri_passHour_11 : decode prog_7_method_27_code 11 = .ok (.iload_n 1, 1) := by decide +kernel
theorem dt_Ri_passHour_12 : decode prog_7_method_27_code 12 = .ok (.istore_n 2, 1) := by decide +kernel
theorem dt_Ri_passHour_13 : decode prog_7_method_27_code 13 = .ok (.iload_n 2, 1) := by decide +kernel
theorem dt_Ri_passHour_14 : decode prog_7_method_27_code 14 = .ok (.ifCond .ge 7, 3) := by decide +kernel
theorem dt_Ri_passHour_17 : decode prog_7_method_27_code 17 = .ok (.iconst (-1), 1) := by decide +kernel
theorem dt_Ri_passHour_18 : decode prog_7_method_27_code 18 = .ok (.goto 4, 3) := by decide +kernel
theorem dt_Ri_passHour_21 : decode prog_7_method_27_code 21 = .ok (.iconst 1, 1) := by decide +kernel
theorem dt_Ri_passHour_22 : decode prog_7_method_27_code 22 = .ok (.istore_n 3, 1) := by decide +kernel
theorem dt_Ri_passHour_23 : decode prog_7_method_27_code 23 = .ok (.iload_n 2, 1) := by decide +kernel
theorem dt_Ri_passHour_24 : decode prog_7_method_27_code 24 = .ok (.invokestatic 140, 3) := by decide +kernel
theorem dt_Ri_passHour_27 : decode prog_7_method_27_code 27 = .ok (.istore 4, 2) := by decide +kernel
theorem dt_Ri_passHour_29 : decode prog_7_method_27_code 29 = .ok (.iload 4, 2) := by decide +kernel
theorem dt_Ri_passHour_31 : decode prog_7_method_27_code 31 = .ok (.ifCond .le 35, 3) := by decide +kernel
theorem dt_Ri_passHour_34 : decode prog_7_method_27_code 34 = .ok (.aload_n 0, 1) := by decide +kernel
theorem dt_Ri_passHour_35 : decode prog_7_method_27_code 35 = .ok (.getfield 31, 3) := by decide +kernel
theorem dt_Ri_passHour_38 : decode prog_7_method_27_code 38 = .ok (.aload_n 0, 1) := by decide +kernel
theorem dt_Ri_passHour_39 : decode prog_7_method_27_code 39 = .ok (.getfield 45, 3) := by decide +kernel
theorem dt_Ri_passHour_42 : decode prog_7_method_27_code 42 = .ok (.dup2, 1) := by decide +kernel
theorem dt_Ri_passHour_43 : decode prog_7_method_27_code 43 = .ok (.iaload, 1) := by decide +kernel
theorem dt_Ri_passHour_44 : decode prog_7_method_27_code 44 = .ok (.iconst 1, 1) := by decide +kernel
theorem dt_Ri_passHour_45 : decode prog_7_method_27_code 45 = .ok (.iadd, 1) := by decide +kernel
theorem dt_Ri_passHour_46 : decode prog_7_method_27_code 46 = .ok (.iastore, 1) := by decide +kernel
theorem dt_Ri_passHour_47 : decode prog_7_method_27_code 47 = .ok (.aload_n 0, 1) := by decide +kernel
theorem dt_Ri_passHour_48 : decode prog_7_method_27_code 48 = .ok (.aload_n 0, 1) := by decide +kernel
theorem dt_Ri_passHour_49 : decode prog_7_method_27_code 49 = .ok (.getfield 45, 3) := by decide +kernel
theorem dt_Ri_passHour_52 : decode prog_7_method_27_code 52 = .ok (.iload_n 3, 1) := by decide +kernel
theorem dt_Ri_passHour_53 : decode prog_7_method_27_code 53 = .ok (.iadd, 1) := by decide +kernel
theorem dt_Ri_passHour_54 : decode prog_7_method_27_code 54 = .ok (.invokestatic 131, 3) := by decide +kernel
theorem dt_Ri_passHour_57 : decode prog_7_method_27_code 57 = .ok (.putfield 45, 3) := by decide +kernel
theorem dt_Ri_passHour_60 : decode prog_7_method_27_code 60 = .ok (.iinc 4 (-1), 3) := by decide +kernel
theorem dt_Ri_passHour_63 : decode prog_7_method_27_code 63 = .ok (.goto (-34), 3) := by decide +kernel
theorem dt_Ri_passHour_66 : decode prog_7_method_27_code 66 = .ok (.aload_n 0, 1) := by decide +kernel
theorem dt_Ri_passHour_67 : decode prog_7_method_27_code 67 = .ok (.iconst 0, 1) := by decide +kernel
theorem dt_Ri_passHour_68 : decode prog_7_method_27_code 68 = .ok (.putfield 55, 3) := by decide +kernel
theorem dt_Ri_passHour_71 : decode prog_7_method_27_code 71 = .ok (.aload_n 0, 1) := by decide +kernel
theorem dt_Ri_passHour_72 : decode prog_7_method_27_code 72 = .ok (.dup, 1) := by decide +kernel
theorem dt_Ri_passHour_73 : decode prog_7_method_27_code 73 = .ok (.getfield 49, 3) := by decide +kernel
theorem dt_Ri_passHour_76 : decode prog_7_method_27_code 76 = .ok (.iconst 1, 1) := by decide +kernel
theorem dt_Ri_passHour_77 : decode prog_7_method_27_code 77 = .ok (.iadd, 1) := by decide +kernel
theorem dt_Ri_passHour_78 : decode prog_7_method_27_code 78 = .ok (.putfield 49, 3) := by decide +kernel
theorem dt_Ri_passHour_81 : decode prog_7_method_27_code 81 = .ok (.aload_n 0, 1) := by decide +kernel
theorem dt_Ri_passHour_82 : decode prog_7_method_27_code 82 = .ok (.getfield 49, 3) := by decide +kernel
theorem dt_Ri_passHour_85 : decode prog_7_method_27_code 85 = .ok (.bipush 24, 2) := by decide +kernel
theorem dt_Ri_passHour_87 : decode prog_7_method_27_code 87 = .ok (.if_icmp .ne 24, 3) := by decide +kernel
theorem dt_Ri_passHour_90 : decode prog_7_method_27_code 90 = .ok (.aload_n 0, 1) := by decide +kernel
theorem dt_Ri_passHour_91 : decode prog_7_method_27_code 91 = .ok (.iconst 0, 1) := by decide +kernel
theorem dt_Ri_passHour_92 : decode prog_7_method_27_code 92 = .ok (.putfield 49, 3) := by decide +kernel
theorem dt_Ri_passHour_95 : decode prog_7_method_27_code 95 = .ok (.aload_n 0, 1) := by decide +kernel
theorem dt_Ri_passHour_96 : decode prog_7_method_27_code 96 = .ok (.aload_n 0, 1) := by decide +kernel
theorem dt_Ri_passHour_97 : decode prog_7_method_27_code 97 = .ok (.getfield 52, 3) := by decide +kernel
theorem dt_Ri_passHour_100 : decode prog_7_method_27_code 100 = .ok (.iconst 1, 1) := by decide +kernel
theorem dt_Ri_passHour_101 : decode prog_7_method_27_code 101 = .ok (.iadd, 1) := by decide +kernel
theorem dt_Ri_passHour_102 : decode prog_7_method_27_code 102 = .ok (.sipush 999, 3) := by decide +kernel
theorem dt_Ri_passHour_105 : decode prog_7_method_27_code 105 = .ok (.invokestatic 118, 3) := by decide +kernel
theorem dt_Ri_passHour_108 : decode prog_7_method_27_code 108 = .ok (.putfield 52, 3) := by decide +kernel
theorem dt_Ri_passHour_111 : decode prog_7_method_27_code 111 = .ok (.iload_n 2, 1) := by decide +kernel
theorem dt_Ri_passHour_112 : decode prog_7_method_27_code 112 = .ok (.ireturn, 1) := by decide +kernel
set_option maxHeartbeats 4000000 in
set_option maxRecDepth 10000 in
theorem tm_Ri_passHour {N : Nat} {T : Nat → tm_S} {w : ab_W} {o : Nat} (hW : tm_W N T w) (h_o : is_Ri T o) (a : Int) (l_a : (-2147483648) ≤ a) (u_a : a ≤ 2147483647) : ab_Mt g_G g_rs mt_Ri_passHour 1 0 0 [ab_R o, ab_I a] w (tm_Qi N T (fun v w2 => (∀ (p : Nat) (j : Int), ¬ ((p = o ∧ (j = 1 ∨ j = 2 ∨ j = 3 ∨ j = 4)) ∨ p = (o + 7)) → tm_g w2 p j = tm_g w p j) ∧ ((-2147483648) ≤ v ∧ v ≤ 2147483647))) := by
  have oo := h_o
  obtain ⟨hr, khr, lhr, uhr⟩ := tm_peek (k := 2) (K := 2) hW h_o.1 rfl rfl
  let TW := tm_up T o (tm_o 5 (ri_fs o (-1) 24))
  have hW : tm_W N TW w := tm_riwide oo hW
  have h_o : is_RiH TW o (-1) 24 := is_RiW oo
  obtain ⟨ot0, ot1, ot2, ot3, ot4, ot5, ot6, ot7, ot8, ot9, ot10, ot11, ot12⟩ := id h_o
  have od := is_Ri.d h_o
  have hF0 : ∀ (p : Nat) (j : Int), ¬ ((p = o ∧ (j = 1 ∨ j = 2 ∨ j = 3 ∨ j = 4)) ∨ p = (o + 7)) → tm_g w p j = tm_g w p j := fun _ _ _ => rfl
  refine ab_Mt.of rfl (Nat.le_of_ble_eq_true rfl) ?_
  show ab_Ev g_G g_rs mt_Ri_passHour _ _ _ 0 [some (ab_R o), some (ab_I a), none, none, none] [] _ _
  refine ev_aload_n dt_Ri_passHour_0 rfl rfl ?_
  refine tm_getI (K := 4) dt_Ri_passHour_1 hW ot0 fl_Ri_55 rfl rfl (fun v319 kv319 lv319 uv319 => ?_)
  refine ev_if_eq (tgt := 11) dt_Ri_passHour_4 (by decide) (by omega) (fun h320 => ?_) (fun h320 => ?_)
  · skip
    refine ev_iload_n dt_Ri_passHour_11 rfl rfl ?_
    refine ev_istore_n (l' := [_, _, _, _, _]) dt_Ri_passHour_12 rfl (Nat.le_of_ble_eq_true rfl) rfl ?_
    refine ev_iload_n dt_Ri_passHour_13 rfl rfl ?_
    refine ev_if_ge (tgt := 21) dt_Ri_passHour_14 (by decide) (by omega) (fun h321 => ?_) (fun h321 => ?_)
    · skip
      refine ev_iconst dt_Ri_passHour_21 ?_
      refine ev_istore_n (l' := [_, _, _, _, _]) dt_Ri_passHour_22 rfl (Nat.le_of_ble_eq_true rfl) rfl ?_
      refine ev_iload_n dt_Ri_passHour_23 rfl rfl ?_
      refine tm_abs (by omega) dt_Ri_passHour_24 mk_Ri_140 (Nat.le_of_ble_eq_true rfl) (by decide) (fun v322 x1 x2 => ?_)
      have hv322 : 0 ≤ v322 ∧ v322 ≤ 2147483647 := by omega
      clear x1 x2
      refine ev_istore (l' := [_, _, _, _, _]) dt_Ri_passHour_27 (Nat.le_of_ble_eq_true rfl) rfl ?_
      have L323 : ∀ (n : Nat) (i324 : Int) (t326 : Int) (w325 : ab_W), tm_W N TW w325 → (∀ (p : Nat) (j : Int), ¬ ((p = o ∧ (j = 1 ∨ j = 2 ∨ j = 3 ∨ j = 4)) ∨ p = (o + 7)) → tm_g w325 p j = tm_g w p j) → tm_g w325 o 2 = some (ab_I t326) → (-2147483648) ≤ i324 → i324 ≤ 2147483647 → 0 ≤ t326 → t326 ≤ 23 → i324 - (-2147483648) < (n : Int) → ab_Ev g_G g_rs mt_Ri_passHour 1 0 0 29 [some (ab_R o), none, some (ab_I a), some (ab_I 1), some (ab_I i324)] [] w325 (tm_Qi N T (fun v w2 => (∀ (p : Nat) (j : Int), ¬ ((p = o ∧ (j = 1 ∨ j = 2 ∨ j = 3 ∨ j = 4)) ∨ p = (o + 7)) → tm_g w2 p j = tm_g w p j) ∧ ((-2147483648) ≤ v ∧ v ≤ 2147483647))) := by
        intro n
        induction n with
        | zero =>
          intro i324 t326 w325 hWw325 hFw325 kt326 li324 ui324 lt326 ut326 mL323
          exfalso
          omega
        | succ nL323 ihL323 =>
          intro i324 t326 w325 hWw325 hFw325 kt326 li324 ui324 lt326 ut326 mL323
          refine ev_iload dt_Ri_passHour_29 rfl ?_
          refine ev_if_le (tgt := 66) dt_Ri_passHour_31 (by decide) (by omega) (fun h327 => ?_) (fun h327 => ?_)
          · skip
            refine ev_aload_n dt_Ri_passHour_66 rfl rfl ?_
            refine ev_iconst dt_Ri_passHour_67 ?_
            refine tm_putI (K := 4) dt_Ri_passHour_68 hWw325 ot0 (fp_Ri_55 _) rfl rfl (by have h0 := True; first | (show _ = _ ∨ _ = _; omega) | omega) (by omega) (by omega) (fun w328 hWw328 kkw328 hfw328 => ?_)
            have hFw328 : ∀ (p : Nat) (j : Int), ¬ ((p = o ∧ (j = 1 ∨ j = 2 ∨ j = 3 ∨ j = 4)) ∨ p = (o + 7)) → tm_g w328 p j = tm_g w p j := fun p j h => (hfw328 p j (by omega)).trans (hFw325 p j h)
            have z329 := (hfw328 o 2 (by omega)).trans kt326
            refine ev_aload_n dt_Ri_passHour_71 rfl rfl ?_
            refine ev_dup dt_Ri_passHour_72 rfl ?_
            refine tm_getK (K := 2) dt_Ri_passHour_73 hWw328 ot0 fl_Ri_49 rfl z329 ?_
            refine ev_iconst dt_Ri_passHour_76 ?_
            refine ev_iadd dt_Ri_passHour_77 ?_
            refine tm_putI (K := 2) dt_Ri_passHour_78 hWw328 ot0 (fp_Ri_49 _) rfl rfl trivial (by omega) (by omega) (fun w330 hWw330 kkw330 hfw330 => ?_)
            have hFw330 : ∀ (p : Nat) (j : Int), ¬ ((p = o ∧ (j = 1 ∨ j = 2 ∨ j = 3 ∨ j = 4)) ∨ p = (o + 7)) → tm_g w330 p j = tm_g w p j := fun p j h => (hfw330 p j (by omega)).trans (hFw328 p j h)
            have z331 := (hfw330 o 4 (by omega)).trans kkw328
            refine ev_aload_n dt_Ri_passHour_81 rfl rfl ?_
            refine tm_getK (K := 2) dt_Ri_passHour_82 hWw330 ot0 fl_Ri_49 rfl kkw330 ?_
            refine ev_bipush dt_Ri_passHour_85 rfl ?_
            refine ev_icmp_ne (tgt := 111) dt_Ri_passHour_87 (by decide) (by omega) (by omega) (fun h332 => ?_) (fun h332 => ?_)
            · skip
              refine ev_iload_n dt_Ri_passHour_111 rfl rfl ?_
              exact ev_ireturn dt_Ri_passHour_112 rfl ⟨(tm_riback oo hWw330 kkw330 (by omega) (by omega)), _, rfl, ⟨hFw330, by omega⟩⟩
            · skip
              refine ev_aload_n dt_Ri_passHour_90 rfl rfl ?_
              refine ev_iconst dt_Ri_passHour_91 ?_
              refine tm_putI (K := 2) dt_Ri_passHour_92 hWw330 ot0 (fp_Ri_49 _) rfl rfl trivial (by omega) (by omega) (fun w333 hWw333 kkw333 hfw333 => ?_)
              have hFw333 : ∀ (p : Nat) (j : Int), ¬ ((p = o ∧ (j = 1 ∨ j = 2 ∨ j = 3 ∨ j = 4)) ∨ p = (o + 7)) → tm_g w333 p j = tm_g w p j := fun p j h => (hfw333 p j (by omega)).trans (hFw330 p j h)
              have z334 := (hfw333 o 4 (by omega)).trans z331
              refine ev_aload_n dt_Ri_passHour_95 rfl rfl ?_
              refine ev_aload_n dt_Ri_passHour_96 rfl rfl ?_
              refine tm_getI (K := 3) dt_Ri_passHour_97 hWw333 ot0 fl_Ri_52 rfl rfl (fun v335 kv335 lv335 uv335 => ?_)
              refine ev_iconst dt_Ri_passHour_100 ?_
              refine ev_iadd dt_Ri_passHour_101 ?_
              refine tm_any (fun v336 hv336 _ => ?_)
              refine ev_sipush dt_Ri_passHour_102 rfl ?_
              refine tm_min (by omega) (by omega) dt_Ri_passHour_105 mk_Ri_118 (Nat.le_of_ble_eq_true rfl) (by decide) (fun v337 x1 x2 x3 => ?_)
              have hv337 : (-2147483648) ≤ v337 ∧ v337 ≤ 999 := by omega
              clear x1 x2 x3
              refine tm_putI (K := 3) dt_Ri_passHour_108 hWw333 ot0 (fp_Ri_52 _) rfl rfl trivial (by omega) (by omega) (fun w338 hWw338 kkw338 hfw338 => ?_)
              have hFw338 : ∀ (p : Nat) (j : Int), ¬ ((p = o ∧ (j = 1 ∨ j = 2 ∨ j = 3 ∨ j = 4)) ∨ p = (o + 7)) → tm_g w338 p j = tm_g w p j := fun p j h => (hfw338 p j (by omega)).trans (hFw333 p j h)
              have z339 := (hfw338 o 4 (by omega)).trans z334
              have z340 := (hfw338 o 2 (by omega)).trans kkw333
              refine ev_iload_n dt_Ri_passHour_111 rfl rfl ?_
              exact ev_ireturn dt_Ri_passHour_112 rfl ⟨(tm_riback oo hWw338 z340 (by omega) (by omega)), _, rfl, ⟨hFw338, by omega⟩⟩
          · skip
            refine ev_aload_n dt_Ri_passHour_34 rfl rfl ?_
            refine tm_getR dt_Ri_passHour_35 hWw325 ot0 fl_Ri_31 rfl ?_
            refine ev_aload_n dt_Ri_passHour_38 rfl rfl ?_
            refine tm_getI (K := 1) dt_Ri_passHour_39 hWw325 ot0 fl_Ri_45 rfl rfl (fun v341 kv341 lv341 uv341 => ?_)
            refine ev_dup2 dt_Ri_passHour_42 rfl rfl ?_
            refine tm_iaload dt_Ri_passHour_43 hWw325 ot7 (by omega) (by omega) (by omega) (fun v342 kv342 lv342 uv342 => ?_)
            refine ev_iconst dt_Ri_passHour_44 ?_
            refine ev_iadd dt_Ri_passHour_45 ?_
            refine tm_any (fun v343 hv343 _ => ?_)
            refine tm_iastore dt_Ri_passHour_46 hWw325 ot7 (by omega) (by omega) (by omega) (by omega) (by omega) (fun w344 hWw344 kkw344 hfw344 => ?_)
            have hFw344 : ∀ (p : Nat) (j : Int), ¬ ((p = o ∧ (j = 1 ∨ j = 2 ∨ j = 3 ∨ j = 4)) ∨ p = (o + 7)) → tm_g w344 p j = tm_g w p j := fun p j h => (hfw344 p j (by omega)).trans (hFw325 p j h)
            have z345 := (hfw344 o 2 (by omega)).trans kt326
            have z346 := (hfw344 o 1 (by omega)).trans kv341
            refine ev_aload_n dt_Ri_passHour_47 rfl rfl ?_
            refine ev_aload_n dt_Ri_passHour_48 rfl rfl ?_
            refine tm_getK (K := 1) dt_Ri_passHour_49 hWw344 ot0 fl_Ri_45 rfl z346 ?_
            refine ev_iload_n dt_Ri_passHour_52 rfl rfl ?_
            refine ev_iadd dt_Ri_passHour_53 ?_
            refine tm_sp dt_Ri_passHour_54 (tm_Tu_wrapped hWw344 ((v341 + 1)) (by omega) (by omega)) kb_Ri_131 sc_Tu_wrapped rfl (Nat.le_of_ble_eq_true rfl) (by decide) (fun v347 hv347 => ?_)
            refine tm_putI (K := 1) dt_Ri_passHour_57 hWw344 ot0 (fp_Ri_45 _) rfl rfl trivial (by omega) (by omega) (fun w348 hWw348 kkw348 hfw348 => ?_)
            have hFw348 : ∀ (p : Nat) (j : Int), ¬ ((p = o ∧ (j = 1 ∨ j = 2 ∨ j = 3 ∨ j = 4)) ∨ p = (o + 7)) → tm_g w348 p j = tm_g w p j := fun p j h => (hfw348 p j (by omega)).trans (hFw344 p j h)
            have z349 := (hfw348 o 2 (by omega)).trans z345
            refine ev_iinc (l' := [_, _, _, _, _]) dt_Ri_passHour_60 rfl rfl ?_
            refine ev_goto (tgt := 29) dt_Ri_passHour_63 (by decide) ?_
            exact tm_loc (tm_le_s (tm_le_n (tm_le_s (tm_le_s (tm_le_s tm_le_0))))) (ihL323 ((i324 + (-1))) (t326) w348 hWw348 hFw348 z349 (by omega) (by omega) (by omega) (by omega) (by omega))
      exact tm_loc (tm_le_s (tm_le_n (tm_le_s (tm_le_s (tm_le_s tm_le_0))))) (L323 ((v322) - (-2147483648) + 1 : Int).toNat (v322) (hr) w hW hF0 khr (by omega) (by omega) (by omega) (by omega) (by omega))
    · skip
      refine ev_iconst dt_Ri_passHour_17 ?_
      refine ev_goto (tgt := 22) dt_Ri_passHour_18 (by decide) ?_
      refine ev_istore_n (l' := [_, _, _, _, _]) dt_Ri_passHour_22 rfl (Nat.le_of_ble_eq_true rfl) rfl ?_
      refine ev_iload_n dt_Ri_passHour_23 rfl rfl ?_
      refine tm_abs (by omega) dt_Ri_passHour_24 mk_Ri_140 (Nat.le_of_ble_eq_true rfl) (by decide) (fun v350 x1 x2 => ?_)
      have hv350 : (-2147483648) ≤ v350 ∧ v350 ≤ 2147483647 := by omega
      clear x1 x2
      refine ev_istore (l' := [_, _, _, _, _]) dt_Ri_passHour_27 (Nat.le_of_ble_eq_true rfl) rfl ?_
      have L351 : ∀ (n : Nat) (i352 : Int) (t354 : Int) (w353 : ab_W), tm_W N TW w353 → (∀ (p : Nat) (j : Int), ¬ ((p = o ∧ (j = 1 ∨ j = 2 ∨ j = 3 ∨ j = 4)) ∨ p = (o + 7)) → tm_g w353 p j = tm_g w p j) → tm_g w353 o 2 = some (ab_I t354) → (-2147483648) ≤ i352 → i352 ≤ 2147483647 → 0 ≤ t354 → t354 ≤ 23 → i352 - (-2147483648) < (n : Int) → ab_Ev g_G g_rs mt_Ri_passHour 1 0 0 29 [some (ab_R o), none, some (ab_I a), some (ab_I (-1)), some (ab_I i352)] [] w353 (tm_Qi N T (fun v w2 => (∀ (p : Nat) (j : Int), ¬ ((p = o ∧ (j = 1 ∨ j = 2 ∨ j = 3 ∨ j = 4)) ∨ p = (o + 7)) → tm_g w2 p j = tm_g w p j) ∧ ((-2147483648) ≤ v ∧ v ≤ 2147483647))) := by
        intro n
        induction n with
        | zero =>
          intro i352 t354 w353 hWw353 hFw353 kt354 li352 ui352 lt354 ut354 mL351
          exfalso
          omega
        | succ nL351 ihL351 =>
          intro i352 t354 w353 hWw353 hFw353 kt354 li352 ui352 lt354 ut354 mL351
          refine ev_iload dt_Ri_passHour_29 rfl ?_
          refine ev_if_le (tgt := 66) dt_Ri_passHour_31 (by decide) (by omega) (fun h355 => ?_) (fun h355 => ?_)
          · skip
            refine ev_aload_n dt_Ri_passHour_66 rfl rfl ?_
            refine ev_iconst dt_Ri_passHour_67 ?_
            refine tm_putI (K := 4) dt_Ri_passHour_68 hWw353 ot0 (fp_Ri_55 _) rfl rfl (by have h0 := True; first | (show _ = _ ∨ _ = _; omega) | omega) (by omega) (by omega) (fun w356 hWw356 kkw356 hfw356 => ?_)
            have hFw356 : ∀ (p : Nat) (j : Int), ¬ ((p = o ∧ (j = 1 ∨ j = 2 ∨ j = 3 ∨ j = 4)) ∨ p = (o + 7)) → tm_g w356 p j = tm_g w p j := fun p j h => (hfw356 p j (by omega)).trans (hFw353 p j h)
            have z357 := (hfw356 o 2 (by omega)).trans kt354
            refine ev_aload_n dt_Ri_passHour_71 rfl rfl ?_
            refine ev_dup dt_Ri_passHour_72 rfl ?_
            refine tm_getK (K := 2) dt_Ri_passHour_73 hWw356 ot0 fl_Ri_49 rfl z357 ?_
            refine ev_iconst dt_Ri_passHour_76 ?_
            refine ev_iadd dt_Ri_passHour_77 ?_
            refine tm_putI (K := 2) dt_Ri_passHour_78 hWw356 ot0 (fp_Ri_49 _) rfl rfl trivial (by omega) (by omega) (fun w358 hWw358 kkw358 hfw358 => ?_)
            have hFw358 : ∀ (p : Nat) (j : Int), ¬ ((p = o ∧ (j = 1 ∨ j = 2 ∨ j = 3 ∨ j = 4)) ∨ p = (o + 7)) → tm_g w358 p j = tm_g w p j := fun p j h => (hfw358 p j (by omega)).trans (hFw356 p j h)
            have z359 := (hfw358 o 4 (by omega)).trans kkw356
            refine ev_aload_n dt_Ri_passHour_81 rfl rfl ?_
            refine tm_getK (K := 2) dt_Ri_passHour_82 hWw358 ot0 fl_Ri_49 rfl kkw358 ?_
            refine ev_bipush dt_Ri_passHour_85 rfl ?_
            refine ev_icmp_ne (tgt := 111) dt_Ri_passHour_87 (by decide) (by omega) (by omega) (fun h360 => ?_) (fun h360 => ?_)
            · skip
              refine ev_iload_n dt_Ri_passHour_111 rfl rfl ?_
              exact ev_ireturn dt_Ri_passHour_112 rfl ⟨(tm_riback oo hWw358 kkw358 (by omega) (by omega)), _, rfl, ⟨hFw358, by omega⟩⟩
            · skip
              refine ev_aload_n dt_Ri_passHour_90 rfl rfl ?_
              refine ev_iconst dt_Ri_passHour_91 ?_
              refine tm_putI (K := 2) dt_Ri_passHour_92 hWw358 ot0 (fp_Ri_49 _) rfl rfl trivial (by omega) (by omega) (fun w361 hWw361 kkw361 hfw361 => ?_)
              have hFw361 : ∀ (p : Nat) (j : Int), ¬ ((p = o ∧ (j = 1 ∨ j = 2 ∨ j = 3 ∨ j = 4)) ∨ p = (o + 7)) → tm_g w361 p j = tm_g w p j := fun p j h => (hfw361 p j (by omega)).trans (hFw358 p j h)
              have z362 := (hfw361 o 4 (by omega)).trans z359
              refine ev_aload_n dt_Ri_passHour_95 rfl rfl ?_
              refine ev_aload_n dt_Ri_passHour_96 rfl rfl ?_
              refine tm_getI (K := 3) dt_Ri_passHour_97 hWw361 ot0 fl_Ri_52 rfl rfl (fun v363 kv363 lv363 uv363 => ?_)
              refine ev_iconst dt_Ri_passHour_100 ?_
              refine ev_iadd dt_Ri_passHour_101 ?_
              refine tm_any (fun v364 hv364 _ => ?_)
              refine ev_sipush dt_Ri_passHour_102 rfl ?_
              refine tm_min (by omega) (by omega) dt_Ri_passHour_105 mk_Ri_118 (Nat.le_of_ble_eq_true rfl) (by decide) (fun v365 x1 x2 x3 => ?_)
              have hv365 : (-2147483648) ≤ v365 ∧ v365 ≤ 999 := by omega
              clear x1 x2 x3
              refine tm_putI (K := 3) dt_Ri_passHour_108 hWw361 ot0 (fp_Ri_52 _) rfl rfl trivial (by omega) (by omega) (fun w366 hWw366 kkw366 hfw366 => ?_)
              have hFw366 : ∀ (p : Nat) (j : Int), ¬ ((p = o ∧ (j = 1 ∨ j = 2 ∨ j = 3 ∨ j = 4)) ∨ p = (o + 7)) → tm_g w366 p j = tm_g w p j := fun p j h => (hfw366 p j (by omega)).trans (hFw361 p j h)
              have z367 := (hfw366 o 4 (by omega)).trans z362
              have z368 := (hfw366 o 2 (by omega)).trans kkw361
              refine ev_iload_n dt_Ri_passHour_111 rfl rfl ?_
              exact ev_ireturn dt_Ri_passHour_112 rfl ⟨(tm_riback oo hWw366 z368 (by omega) (by omega)), _, rfl, ⟨hFw366, by omega⟩⟩
          · skip
            refine ev_aload_n dt_Ri_passHour_34 rfl rfl ?_
            refine tm_getR dt_Ri_passHour_35 hWw353 ot0 fl_Ri_31 rfl ?_
            refine ev_aload_n dt_Ri_passHour_38 rfl rfl ?_
            refine tm_getI (K := 1) dt_Ri_passHour_39 hWw353 ot0 fl_Ri_45 rfl rfl (fun v369 kv369 lv369 uv369 => ?_)
            refine ev_dup2 dt_Ri_passHour_42 rfl rfl ?_
            refine tm_iaload dt_Ri_passHour_43 hWw353 ot7 (by omega) (by omega) (by omega) (fun v370 kv370 lv370 uv370 => ?_)
            refine ev_iconst dt_Ri_passHour_44 ?_
            refine ev_iadd dt_Ri_passHour_45 ?_
            refine tm_any (fun v371 hv371 _ => ?_)
            refine tm_iastore dt_Ri_passHour_46 hWw353 ot7 (by omega) (by omega) (by omega) (by omega) (by omega) (fun w372 hWw372 kkw372 hfw372 => ?_)
            have hFw372 : ∀ (p : Nat) (j : Int), ¬ ((p = o ∧ (j = 1 ∨ j = 2 ∨ j = 3 ∨ j = 4)) ∨ p = (o + 7)) → tm_g w372 p j = tm_g w p j := fun p j h => (hfw372 p j (by omega)).trans (hFw353 p j h)
            have z373 := (hfw372 o 2 (by omega)).trans kt354
            have z374 := (hfw372 o 1 (by omega)).trans kv369
            refine ev_aload_n dt_Ri_passHour_47 rfl rfl ?_
            refine ev_aload_n dt_Ri_passHour_48 rfl rfl ?_
            refine tm_getK (K := 1) dt_Ri_passHour_49 hWw372 ot0 fl_Ri_45 rfl z374 ?_
            refine ev_iload_n dt_Ri_passHour_52 rfl rfl ?_
            refine ev_iadd dt_Ri_passHour_53 ?_
            refine tm_sp dt_Ri_passHour_54 (tm_Tu_wrapped hWw372 ((v369 + (-1))) (by omega) (by omega)) kb_Ri_131 sc_Tu_wrapped rfl (Nat.le_of_ble_eq_true rfl) (by decide) (fun v375 hv375 => ?_)
            refine tm_putI (K := 1) dt_Ri_passHour_57 hWw372 ot0 (fp_Ri_45 _) rfl rfl trivial (by omega) (by omega) (fun w376 hWw376 kkw376 hfw376 => ?_)
            have hFw376 : ∀ (p : Nat) (j : Int), ¬ ((p = o ∧ (j = 1 ∨ j = 2 ∨ j = 3 ∨ j = 4)) ∨ p = (o + 7)) → tm_g w376 p j = tm_g w p j := fun p j h => (hfw376 p j (by omega)).trans (hFw372 p j h)
            have z377 := (hfw376 o 2 (by omega)).trans z373
            refine ev_iinc (l' := [_, _, _, _, _]) dt_Ri_passHour_60 rfl rfl ?_
            refine ev_goto (tgt := 29) dt_Ri_passHour_63 (by decide) ?_
            exact tm_loc (tm_le_s (tm_le_n (tm_le_s (tm_le_s (tm_le_s tm_le_0))))) (ihL351 ((i352 + (-1))) (t354) w376 hWw376 hFw376 z377 (by omega) (by omega) (by omega) (by omega) (by omega))
      exact tm_loc (tm_le_s (tm_le_n (tm_le_s (tm_le_s (tm_le_s tm_le_0))))) (L351 ((v350) - (-2147483648) + 1 : Int).toNat (v350) (hr) w hW hF0 khr (by omega) (by omega) (by omega) (by omega) (by omega))
  · skip
    refine ev_iconst dt_Ri_passHour_7 ?_
    refine ev_goto (tgt := 12) dt_Ri_passHour_8 (by decide) ?_
    refine ev_istore_n (l' := [_, _, _, _, _]) dt_Ri_passHour_12 rfl (Nat.le_of_ble_eq_true rfl) rfl ?_
    refine ev_iload_n dt_Ri_passHour_13 rfl rfl ?_
    refine ev_if_ge (tgt := 21) dt_Ri_passHour_14 (by decide) (by omega) (fun h378 => ?_) (fun h378 => ?_)
    · skip
      refine ev_iconst dt_Ri_passHour_21 ?_
      refine ev_istore_n (l' := [_, _, _, _, _]) dt_Ri_passHour_22 rfl (Nat.le_of_ble_eq_true rfl) rfl ?_
      refine ev_iload_n dt_Ri_passHour_23 rfl rfl ?_
      refine tm_abs (by omega) dt_Ri_passHour_24 mk_Ri_140 (Nat.le_of_ble_eq_true rfl) (by decide) (fun v379 x1 x2 => ?_)
      have hv379 : 0 ≤ v379 ∧ v379 ≤ 0 := by omega
      clear x1 x2
      refine ev_istore (l' := [_, _, _, _, _]) dt_Ri_passHour_27 (Nat.le_of_ble_eq_true rfl) rfl ?_
      have L380 : ∀ (n : Nat) (i381 : Int) (t383 : Int) (w382 : ab_W), tm_W N TW w382 → (∀ (p : Nat) (j : Int), ¬ ((p = o ∧ (j = 1 ∨ j = 2 ∨ j = 3 ∨ j = 4)) ∨ p = (o + 7)) → tm_g w382 p j = tm_g w p j) → tm_g w382 o 2 = some (ab_I t383) → (-2147483648) ≤ i381 → i381 ≤ 2147483647 → 0 ≤ t383 → t383 ≤ 23 → i381 - (-2147483648) < (n : Int) → ab_Ev g_G g_rs mt_Ri_passHour 1 0 0 29 [some (ab_R o), none, some (ab_I 0), some (ab_I 1), some (ab_I i381)] [] w382 (tm_Qi N T (fun v w2 => (∀ (p : Nat) (j : Int), ¬ ((p = o ∧ (j = 1 ∨ j = 2 ∨ j = 3 ∨ j = 4)) ∨ p = (o + 7)) → tm_g w2 p j = tm_g w p j) ∧ ((-2147483648) ≤ v ∧ v ≤ 2147483647))) := by
        intro n
        induction n with
        | zero =>
          intro i381 t383 w382 hWw382 hFw382 kt383 li381 ui381 lt383 ut383 mL380
          exfalso
          omega
        | succ nL380 ihL380 =>
          intro i381 t383 w382 hWw382 hFw382 kt383 li381 ui381 lt383 ut383 mL380
          refine ev_iload dt_Ri_passHour_29 rfl ?_
          refine ev_if_le (tgt := 66) dt_Ri_passHour_31 (by decide) (by omega) (fun h384 => ?_) (fun h384 => ?_)
          · skip
            refine ev_aload_n dt_Ri_passHour_66 rfl rfl ?_
            refine ev_iconst dt_Ri_passHour_67 ?_
            refine tm_putI (K := 4) dt_Ri_passHour_68 hWw382 ot0 (fp_Ri_55 _) rfl rfl (by have h0 := True; first | (show _ = _ ∨ _ = _; omega) | omega) (by omega) (by omega) (fun w385 hWw385 kkw385 hfw385 => ?_)
            have hFw385 : ∀ (p : Nat) (j : Int), ¬ ((p = o ∧ (j = 1 ∨ j = 2 ∨ j = 3 ∨ j = 4)) ∨ p = (o + 7)) → tm_g w385 p j = tm_g w p j := fun p j h => (hfw385 p j (by omega)).trans (hFw382 p j h)
            have z386 := (hfw385 o 2 (by omega)).trans kt383
            refine ev_aload_n dt_Ri_passHour_71 rfl rfl ?_
            refine ev_dup dt_Ri_passHour_72 rfl ?_
            refine tm_getK (K := 2) dt_Ri_passHour_73 hWw385 ot0 fl_Ri_49 rfl z386 ?_
            refine ev_iconst dt_Ri_passHour_76 ?_
            refine ev_iadd dt_Ri_passHour_77 ?_
            refine tm_putI (K := 2) dt_Ri_passHour_78 hWw385 ot0 (fp_Ri_49 _) rfl rfl trivial (by omega) (by omega) (fun w387 hWw387 kkw387 hfw387 => ?_)
            have hFw387 : ∀ (p : Nat) (j : Int), ¬ ((p = o ∧ (j = 1 ∨ j = 2 ∨ j = 3 ∨ j = 4)) ∨ p = (o + 7)) → tm_g w387 p j = tm_g w p j := fun p j h => (hfw387 p j (by omega)).trans (hFw385 p j h)
            have z388 := (hfw387 o 4 (by omega)).trans kkw385
            refine ev_aload_n dt_Ri_passHour_81 rfl rfl ?_
            refine tm_getK (K := 2) dt_Ri_passHour_82 hWw387 ot0 fl_Ri_49 rfl kkw387 ?_
            refine ev_bipush dt_Ri_passHour_85 rfl ?_
            refine ev_icmp_ne (tgt := 111) dt_Ri_passHour_87 (by decide) (by omega) (by omega) (fun h389 => ?_) (fun h389 => ?_)
            · skip
              refine ev_iload_n dt_Ri_passHour_111 rfl rfl ?_
              exact ev_ireturn dt_Ri_passHour_112 rfl ⟨(tm_riback oo hWw387 kkw387 (by omega) (by omega)), _, rfl, ⟨hFw387, by omega⟩⟩
            · skip
              refine ev_aload_n dt_Ri_passHour_90 rfl rfl ?_
              refine ev_iconst dt_Ri_passHour_91 ?_
              refine tm_putI (K := 2) dt_Ri_passHour_92 hWw387 ot0 (fp_Ri_49 _) rfl rfl trivial (by omega) (by omega) (fun w390 hWw390 kkw390 hfw390 => ?_)
              have hFw390 : ∀ (p : Nat) (j : Int), ¬ ((p = o ∧ (j = 1 ∨ j = 2 ∨ j = 3 ∨ j = 4)) ∨ p = (o + 7)) → tm_g w390 p j = tm_g w p j := fun p j h => (hfw390 p j (by omega)).trans (hFw387 p j h)
              have z391 := (hfw390 o 4 (by omega)).trans z388
              refine ev_aload_n dt_Ri_passHour_95 rfl rfl ?_
              refine ev_aload_n dt_Ri_passHour_96 rfl rfl ?_
              refine tm_getI (K := 3) dt_Ri_passHour_97 hWw390 ot0 fl_Ri_52 rfl rfl (fun v392 kv392 lv392 uv392 => ?_)
              refine ev_iconst dt_Ri_passHour_100 ?_
              refine ev_iadd dt_Ri_passHour_101 ?_
              refine tm_any (fun v393 hv393 _ => ?_)
              refine ev_sipush dt_Ri_passHour_102 rfl ?_
              refine tm_min (by omega) (by omega) dt_Ri_passHour_105 mk_Ri_118 (Nat.le_of_ble_eq_true rfl) (by decide) (fun v394 x1 x2 x3 => ?_)
              have hv394 : (-2147483648) ≤ v394 ∧ v394 ≤ 999 := by omega
              clear x1 x2 x3
              refine tm_putI (K := 3) dt_Ri_passHour_108 hWw390 ot0 (fp_Ri_52 _) rfl rfl trivial (by omega) (by omega) (fun w395 hWw395 kkw395 hfw395 => ?_)
              have hFw395 : ∀ (p : Nat) (j : Int), ¬ ((p = o ∧ (j = 1 ∨ j = 2 ∨ j = 3 ∨ j = 4)) ∨ p = (o + 7)) → tm_g w395 p j = tm_g w p j := fun p j h => (hfw395 p j (by omega)).trans (hFw390 p j h)
              have z396 := (hfw395 o 4 (by omega)).trans z391
              have z397 := (hfw395 o 2 (by omega)).trans kkw390
              refine ev_iload_n dt_Ri_passHour_111 rfl rfl ?_
              exact ev_ireturn dt_Ri_passHour_112 rfl ⟨(tm_riback oo hWw395 z397 (by omega) (by omega)), _, rfl, ⟨hFw395, by omega⟩⟩
          · skip
            refine ev_aload_n dt_Ri_passHour_34 rfl rfl ?_
            refine tm_getR dt_Ri_passHour_35 hWw382 ot0 fl_Ri_31 rfl ?_
            refine ev_aload_n dt_Ri_passHour_38 rfl rfl ?_
            refine tm_getI (K := 1) dt_Ri_passHour_39 hWw382 ot0 fl_Ri_45 rfl rfl (fun v398 kv398 lv398 uv398 => ?_)
            refine ev_dup2 dt_Ri_passHour_42 rfl rfl ?_
            refine tm_iaload dt_Ri_passHour_43 hWw382 ot7 (by omega) (by omega) (by omega) (fun v399 kv399 lv399 uv399 => ?_)
            refine ev_iconst dt_Ri_passHour_44 ?_
            refine ev_iadd dt_Ri_passHour_45 ?_
            refine tm_any (fun v400 hv400 _ => ?_)
            refine tm_iastore dt_Ri_passHour_46 hWw382 ot7 (by omega) (by omega) (by omega) (by omega) (by omega) (fun w401 hWw401 kkw401 hfw401 => ?_)
            have hFw401 : ∀ (p : Nat) (j : Int), ¬ ((p = o ∧ (j = 1 ∨ j = 2 ∨ j = 3 ∨ j = 4)) ∨ p = (o + 7)) → tm_g w401 p j = tm_g w p j := fun p j h => (hfw401 p j (by omega)).trans (hFw382 p j h)
            have z402 := (hfw401 o 2 (by omega)).trans kt383
            have z403 := (hfw401 o 1 (by omega)).trans kv398
            refine ev_aload_n dt_Ri_passHour_47 rfl rfl ?_
            refine ev_aload_n dt_Ri_passHour_48 rfl rfl ?_
            refine tm_getK (K := 1) dt_Ri_passHour_49 hWw401 ot0 fl_Ri_45 rfl z403 ?_
            refine ev_iload_n dt_Ri_passHour_52 rfl rfl ?_
            refine ev_iadd dt_Ri_passHour_53 ?_
            refine tm_sp dt_Ri_passHour_54 (tm_Tu_wrapped hWw401 ((v398 + 1)) (by omega) (by omega)) kb_Ri_131 sc_Tu_wrapped rfl (Nat.le_of_ble_eq_true rfl) (by decide) (fun v404 hv404 => ?_)
            refine tm_putI (K := 1) dt_Ri_passHour_57 hWw401 ot0 (fp_Ri_45 _) rfl rfl trivial (by omega) (by omega) (fun w405 hWw405 kkw405 hfw405 => ?_)
            have hFw405 : ∀ (p : Nat) (j : Int), ¬ ((p = o ∧ (j = 1 ∨ j = 2 ∨ j = 3 ∨ j = 4)) ∨ p = (o + 7)) → tm_g w405 p j = tm_g w p j := fun p j h => (hfw405 p j (by omega)).trans (hFw401 p j h)
            have z406 := (hfw405 o 2 (by omega)).trans z402
            refine ev_iinc (l' := [_, _, _, _, _]) dt_Ri_passHour_60 rfl rfl ?_
            refine ev_goto (tgt := 29) dt_Ri_passHour_63 (by decide) ?_
            exact tm_loc (tm_le_s (tm_le_n (tm_le_s (tm_le_s (tm_le_s tm_le_0))))) (ihL380 ((i381 + (-1))) (t383) w405 hWw405 hFw405 z406 (by omega) (by omega) (by omega) (by omega) (by omega))
      exact tm_loc (tm_le_s (tm_le_n (tm_le_s (tm_le_s (tm_le_s tm_le_0))))) (L380 ((v379) - (-2147483648) + 1 : Int).toNat (v379) (hr) w hW hF0 khr (by omega) (by omega) (by omega) (by omega) (by omega))
    · skip
      exfalso
      omega
theorem dt_Ri_takeHourBack_0 : decode prog_7_method_28_code 0 = .ok (.iload_n 1, 1) := by decide +kernel
theorem dt_Ri_takeHourBack_1 : decode prog_7_method_28_code 1 = .ok (.ifCond .ge 7, 3) := by decide +kernel
theorem dt_Ri_takeHourBack_4 : decode prog_7_method_28_code 4 = .ok (.iconst (-1), 1) := by decide +kernel
theorem dt_Ri_takeHourBack_5 : decode prog_7_method_28_code 5 = .ok (.goto 4, 3) := by decide +kernel
theorem dt_Ri_takeHourBack_8 : decode prog_7_method_28_code 8 = .ok (.iconst 1, 1) := by decide +kernel
theorem dt_Ri_takeHourBack_9 : decode prog_7_method_28_code 9 = .ok (.istore_n 3, 1) := by decide +kernel
theorem dt_Ri_takeHourBack_10 : decode prog_7_method_28_code 10 = .ok (.iload_n 1, 1) := by decide +kernel
theorem dt_Ri_takeHourBack_11 : decode prog_7_method_28_code 11 = .ok (.invokestatic 140, 3) := by decide +kernel
theorem dt_Ri_takeHourBack_14 : decode prog_7_method_28_code 14 = .ok (.istore 4, 2) := by decide +kernel
theorem dt_Ri_takeHourBack_16 : decode prog_7_method_28_code 16 = .ok (.iload 4, 2) := by decide +kernel
theorem dt_Ri_takeHourBack_18 : decode prog_7_method_28_code 18 = .ok (.ifCond .le 35, 3) := by decide +kernel
theorem dt_Ri_takeHourBack_21 : decode prog_7_method_28_code 21 = .ok (.aload_n 0, 1) := by decide +kernel
theorem dt_Ri_takeHourBack_22 : decode prog_7_method_28_code 22 = .ok (.aload_n 0, 1) := by decide +kernel
theorem dt_Ri_takeHourBack_23 : decode prog_7_method_28_code 23 = .ok (.getfield 45, 3) := by decide +kernel
theorem dt_Ri_takeHourBack_26 : decode prog_7_method_28_code 26 = .ok (.iload_n 3, 1) := by decide +kernel
theorem dt_Ri_takeHourBack_27 : decode prog_7_method_28_code 27 = .ok (.isub, 1) := by decide +kernel
theorem dt_Ri_takeHourBack_28 : decode prog_7_method_28_code 28 = .ok (.invokestatic 131, 3) := by decide +kernel
theorem dt_Ri_takeHourBack_31 : decode prog_7_method_28_code 31 = .ok (.putfield 45, 3) := by decide +kernel
theorem dt_Ri_takeHourBack_34 : decode prog_7_method_28_code 34 = .ok (.aload_n 0, 1) := by decide +kernel
theorem dt_Ri_takeHourBack_35 : decode prog_7_method_28_code 35 = .ok (.getfield 31, 3) := by decide +kernel
theorem dt_Ri_takeHourBack_38 : decode prog_7_method_28_code 38 = .ok (.aload_n 0, 1) := by decide +kernel
theorem dt_Ri_takeHourBack_39 : decode prog_7_method_28_code 39 = .ok (.getfield 45, 3) := by decide +kernel
theorem dt_Ri_takeHourBack_42 : decode prog_7_method_28_code 42 = .ok (.dup2, 1) := by decide +kernel
theorem dt_Ri_takeHourBack_43 : decode prog_7_method_28_code 43 = .ok (.iaload, 1) := by decide +kernel
theorem dt_Ri_takeHourBack_44 : decode prog_7_method_28_code 44 = .ok (.iconst 1, 1) := by decide +kernel
theorem dt_Ri_takeHourBack_45 : decode prog_7_method_28_code 45 = .ok (.isub, 1) := by decide +kernel
theorem dt_Ri_takeHourBack_46 : decode prog_7_method_28_code 46 = .ok (.iastore, 1) := by decide +kernel
theorem dt_Ri_takeHourBack_47 : decode prog_7_method_28_code 47 = .ok (.iinc 4 (-1), 3) := by decide +kernel
theorem dt_Ri_takeHourBack_50 : decode prog_7_method_28_code 50 = .ok (.goto (-34), 3) := by decide +kernel
theorem dt_Ri_takeHourBack_53 : decode prog_7_method_28_code 53 = .ok (.aload_n 0, 1) := by decide +kernel
theorem dt_Ri_takeHourBack_54 : decode prog_7_method_28_code 54 = .ok (.iload_n 2, 1) := by decide +kernel
theorem dt_Ri_takeHourBack_55 : decode prog_7_method_28_code 55 = .ok (.putfield 55, 3) := by decide +kernel
theorem dt_Ri_takeHourBack_58 : decode prog_7_method_28_code 58 = .ok (.aload_n 0, 1) := by decide +kernel
theorem dt_Ri_takeHourBack_59 : decode prog_7_method_28_code 59 = .ok (.dup, 1) := by decide +kernel
theorem dt_Ri_takeHourBack_60 : decode prog_7_method_28_code 60 = .ok (.getfield 49, 3) := by decide +kernel
theorem dt_Ri_takeHourBack_63 : decode prog_7_method_28_code 63 = .ok (.iconst 1, 1) := by decide +kernel
theorem dt_Ri_takeHourBack_64 : decode prog_7_method_28_code 64 = .ok (.isub, 1) := by decide +kernel
theorem dt_Ri_takeHourBack_65 : decode prog_7_method_28_code 65 = .ok (.putfield 49, 3) := by decide +kernel
theorem dt_Ri_takeHourBack_68 : decode prog_7_method_28_code 68 = .ok (.aload_n 0, 1) := by decide +kernel
theorem dt_Ri_takeHourBack_69 : decode prog_7_method_28_code 69 = .ok (.getfield 49, 3) := by decide +kernel
theorem dt_Ri_takeHourBack_72 : decode prog_7_method_28_code 72 = .ok (.ifCond .ge 19, 3) := by decide +kernel
theorem dt_Ri_takeHourBack_75 : decode prog_7_method_28_code 75 = .ok (.aload_n 0, 1) := by decide +kernel
theorem dt_Ri_takeHourBack_76 : decode prog_7_method_28_code 76 = .ok (.bipush 23, 2) := by decide +kernel
theorem dt_Ri_takeHourBack_78 : decode prog_7_method_28_code 78 = .ok (.putfield 49, 3) := by decide +kernel
theorem dt_Ri_takeHourBack_81 : decode prog_7_method_28_code 81 = .ok (.aload_n 0, 1) := by decide +kernel
theorem dt_Ri_takeHourBack_82 : decode prog_7_method_28_code 82 = .ok (.dup, 1) := by decide +kernel
theorem dt_Ri_takeHourBack_83 : decode prog_7_method_28_code 83 = .ok (.getfield 52, 3) := by decide +kernel
theorem dt_Ri_takeHourBack_86 : decode prog_7_method_28_code 86 = .ok (.iconst 1, 1) := by decide +kernel
theorem dt_Ri_takeHourBack_87 : decode prog_7_method_28_code 87 = .ok (.isub, 1) := by decide +kernel
theorem dt_Ri_takeHourBack_88 : decode prog_7_method_28_code 88 = .ok (.putfield 52, 3) := by decide +kernel
theorem dt_Ri_takeHourBack_91 : decode prog_7_method_28_code 91 = .ok (.return_, 1) := by decide +kernel
set_option maxHeartbeats 4000000 in
set_option maxRecDepth 10000 in
theorem tm_Ri_takeHourBack {N : Nat} {T : Nat → tm_S} {w : ab_W} {o : Nat} (hW : tm_W N T w) (h_o : is_Ri T o) (a : Int) (l_a : (-2147483648) ≤ a) (u_a : a ≤ 2147483647) (b : Int) (l_b : 0 ≤ b) (u_b : b ≤ 1) : ab_Mt g_G g_rs mt_Ri_takeHourBack 1 0 0 [ab_R o, ab_I a, ab_I b] w (tm_Qv N T (fun w2 => (∀ (p : Nat) (j : Int), ¬ ((p = o ∧ (j = 1 ∨ j = 2 ∨ j = 3 ∨ j = 4)) ∨ p = (o + 7)) → tm_g w2 p j = tm_g w p j))) := by
  have oo := h_o
  obtain ⟨hr, khr, lhr, uhr⟩ := tm_peek (k := 2) (K := 2) hW h_o.1 rfl rfl
  let TW := tm_up T o (tm_o 5 (ri_fs o (-1) 24))
  have hW : tm_W N TW w := tm_riwide oo hW
  have h_o : is_RiH TW o (-1) 24 := is_RiW oo
  obtain ⟨ot0, ot1, ot2, ot3, ot4, ot5, ot6, ot7, ot8, ot9, ot10, ot11, ot12⟩ := id h_o
  have od := is_Ri.d h_o
  have hF0 : ∀ (p : Nat) (j : Int), ¬ ((p = o ∧ (j = 1 ∨ j = 2 ∨ j = 3 ∨ j = 4)) ∨ p = (o + 7)) → tm_g w p j = tm_g w p j := fun _ _ _ => rfl
  refine ab_Mt.of rfl (Nat.le_of_ble_eq_true rfl) ?_
  show ab_Ev g_G g_rs mt_Ri_takeHourBack _ _ _ 0 [some (ab_R o), some (ab_I a), some (ab_I b), none, none] [] _ _
  refine ev_iload_n dt_Ri_takeHourBack_0 rfl rfl ?_
  refine ev_if_ge (tgt := 8) dt_Ri_takeHourBack_1 (by decide) (by omega) (fun h407 => ?_) (fun h407 => ?_)
  · skip
    refine ev_iconst dt_Ri_takeHourBack_8 ?_
    refine ev_istore_n (l' := [_, _, _, _, _]) dt_Ri_takeHourBack_9 rfl (Nat.le_of_ble_eq_true rfl) rfl ?_
    refine ev_iload_n dt_Ri_takeHourBack_10 rfl rfl ?_
    refine tm_abs (by omega) dt_Ri_takeHourBack_11 mk_Ri_140 (Nat.le_of_ble_eq_true rfl) (by decide) (fun v408 x1 x2 => ?_)
    have hv408 : 0 ≤ v408 ∧ v408 ≤ 2147483647 := by omega
    clear x1 x2
    refine ev_istore (l' := [_, _, _, _, _]) dt_Ri_takeHourBack_14 (Nat.le_of_ble_eq_true rfl) rfl ?_
    have L409 : ∀ (n : Nat) (i410 : Int) (t412 : Int) (w411 : ab_W), tm_W N TW w411 → (∀ (p : Nat) (j : Int), ¬ ((p = o ∧ (j = 1 ∨ j = 2 ∨ j = 3 ∨ j = 4)) ∨ p = (o + 7)) → tm_g w411 p j = tm_g w p j) → tm_g w411 o 2 = some (ab_I t412) → (-2147483648) ≤ i410 → i410 ≤ 2147483647 → 0 ≤ t412 → t412 ≤ 23 → i410 - (-2147483648) < (n : Int) → ab_Ev g_G g_rs mt_Ri_takeHourBack 1 0 0 16 [some (ab_R o), none, some (ab_I b), some (ab_I 1), some (ab_I i410)] [] w411 (tm_Qv N T (fun w2 => (∀ (p : Nat) (j : Int), ¬ ((p = o ∧ (j = 1 ∨ j = 2 ∨ j = 3 ∨ j = 4)) ∨ p = (o + 7)) → tm_g w2 p j = tm_g w p j))) := by
      intro n
      induction n with
      | zero =>
        intro i410 t412 w411 hWw411 hFw411 kt412 li410 ui410 lt412 ut412 mL409
        exfalso
        omega
      | succ nL409 ihL409 =>
        intro i410 t412 w411 hWw411 hFw411 kt412 li410 ui410 lt412 ut412 mL409
        refine ev_iload dt_Ri_takeHourBack_16 rfl ?_
        refine ev_if_le (tgt := 53) dt_Ri_takeHourBack_18 (by decide) (by omega) (fun h413 => ?_) (fun h413 => ?_)
        · skip
          refine ev_aload_n dt_Ri_takeHourBack_53 rfl rfl ?_
          refine ev_iload_n dt_Ri_takeHourBack_54 rfl rfl ?_
          refine tm_putI (K := 4) dt_Ri_takeHourBack_55 hWw411 ot0 (fp_Ri_55 _) rfl rfl (by have h0 := True; first | (show _ = _ ∨ _ = _; omega) | omega) (by omega) (by omega) (fun w414 hWw414 kkw414 hfw414 => ?_)
          have hFw414 : ∀ (p : Nat) (j : Int), ¬ ((p = o ∧ (j = 1 ∨ j = 2 ∨ j = 3 ∨ j = 4)) ∨ p = (o + 7)) → tm_g w414 p j = tm_g w p j := fun p j h => (hfw414 p j (by omega)).trans (hFw411 p j h)
          have z415 := (hfw414 o 2 (by omega)).trans kt412
          refine ev_aload_n dt_Ri_takeHourBack_58 rfl rfl ?_
          refine ev_dup dt_Ri_takeHourBack_59 rfl ?_
          refine tm_getK (K := 2) dt_Ri_takeHourBack_60 hWw414 ot0 fl_Ri_49 rfl z415 ?_
          refine ev_iconst dt_Ri_takeHourBack_63 ?_
          refine ev_isub dt_Ri_takeHourBack_64 ?_
          refine tm_putI (K := 2) dt_Ri_takeHourBack_65 hWw414 ot0 (fp_Ri_49 _) rfl rfl trivial (by omega) (by omega) (fun w416 hWw416 kkw416 hfw416 => ?_)
          have hFw416 : ∀ (p : Nat) (j : Int), ¬ ((p = o ∧ (j = 1 ∨ j = 2 ∨ j = 3 ∨ j = 4)) ∨ p = (o + 7)) → tm_g w416 p j = tm_g w p j := fun p j h => (hfw416 p j (by omega)).trans (hFw414 p j h)
          have z417 := (hfw416 o 4 (by omega)).trans kkw414
          refine ev_aload_n dt_Ri_takeHourBack_68 rfl rfl ?_
          refine tm_getK (K := 2) dt_Ri_takeHourBack_69 hWw416 ot0 fl_Ri_49 rfl kkw416 ?_
          refine ev_if_ge (tgt := 91) dt_Ri_takeHourBack_72 (by decide) (by omega) (fun h418 => ?_) (fun h418 => ?_)
          · skip
            exact ev_return dt_Ri_takeHourBack_91 rfl ⟨(tm_riback oo hWw416 kkw416 (by omega) (by omega)), rfl, hFw416⟩
          · skip
            refine ev_aload_n dt_Ri_takeHourBack_75 rfl rfl ?_
            refine ev_bipush dt_Ri_takeHourBack_76 rfl ?_
            refine tm_putI (K := 2) dt_Ri_takeHourBack_78 hWw416 ot0 (fp_Ri_49 _) rfl rfl trivial (by omega) (by omega) (fun w419 hWw419 kkw419 hfw419 => ?_)
            have hFw419 : ∀ (p : Nat) (j : Int), ¬ ((p = o ∧ (j = 1 ∨ j = 2 ∨ j = 3 ∨ j = 4)) ∨ p = (o + 7)) → tm_g w419 p j = tm_g w p j := fun p j h => (hfw419 p j (by omega)).trans (hFw416 p j h)
            have z420 := (hfw419 o 4 (by omega)).trans z417
            refine ev_aload_n dt_Ri_takeHourBack_81 rfl rfl ?_
            refine ev_dup dt_Ri_takeHourBack_82 rfl ?_
            refine tm_getI (K := 3) dt_Ri_takeHourBack_83 hWw419 ot0 fl_Ri_52 rfl rfl (fun v421 kv421 lv421 uv421 => ?_)
            refine ev_iconst dt_Ri_takeHourBack_86 ?_
            refine ev_isub dt_Ri_takeHourBack_87 ?_
            refine tm_any (fun v422 hv422 _ => ?_)
            refine tm_putI (K := 3) dt_Ri_takeHourBack_88 hWw419 ot0 (fp_Ri_52 _) rfl rfl trivial (by omega) (by omega) (fun w423 hWw423 kkw423 hfw423 => ?_)
            have hFw423 : ∀ (p : Nat) (j : Int), ¬ ((p = o ∧ (j = 1 ∨ j = 2 ∨ j = 3 ∨ j = 4)) ∨ p = (o + 7)) → tm_g w423 p j = tm_g w p j := fun p j h => (hfw423 p j (by omega)).trans (hFw419 p j h)
            have z424 := (hfw423 o 4 (by omega)).trans z420
            have z425 := (hfw423 o 2 (by omega)).trans kkw419
            exact ev_return dt_Ri_takeHourBack_91 rfl ⟨(tm_riback oo hWw423 z425 (by omega) (by omega)), rfl, hFw423⟩
        · skip
          refine ev_aload_n dt_Ri_takeHourBack_21 rfl rfl ?_
          refine ev_aload_n dt_Ri_takeHourBack_22 rfl rfl ?_
          refine tm_getI (K := 1) dt_Ri_takeHourBack_23 hWw411 ot0 fl_Ri_45 rfl rfl (fun v426 kv426 lv426 uv426 => ?_)
          refine ev_iload_n dt_Ri_takeHourBack_26 rfl rfl ?_
          refine ev_isub dt_Ri_takeHourBack_27 ?_
          refine tm_sp dt_Ri_takeHourBack_28 (tm_Tu_wrapped hWw411 ((v426 - 1)) (by omega) (by omega)) kb_Ri_131 sc_Tu_wrapped rfl (Nat.le_of_ble_eq_true rfl) (by decide) (fun v427 hv427 => ?_)
          refine tm_putI (K := 1) dt_Ri_takeHourBack_31 hWw411 ot0 (fp_Ri_45 _) rfl rfl trivial (by omega) (by omega) (fun w428 hWw428 kkw428 hfw428 => ?_)
          have hFw428 : ∀ (p : Nat) (j : Int), ¬ ((p = o ∧ (j = 1 ∨ j = 2 ∨ j = 3 ∨ j = 4)) ∨ p = (o + 7)) → tm_g w428 p j = tm_g w p j := fun p j h => (hfw428 p j (by omega)).trans (hFw411 p j h)
          have z429 := (hfw428 o 2 (by omega)).trans kt412
          refine ev_aload_n dt_Ri_takeHourBack_34 rfl rfl ?_
          refine tm_getR dt_Ri_takeHourBack_35 hWw428 ot0 fl_Ri_31 rfl ?_
          refine ev_aload_n dt_Ri_takeHourBack_38 rfl rfl ?_
          refine tm_getK (K := 1) dt_Ri_takeHourBack_39 hWw428 ot0 fl_Ri_45 rfl kkw428 ?_
          refine ev_dup2 dt_Ri_takeHourBack_42 rfl rfl ?_
          refine tm_iaload dt_Ri_takeHourBack_43 hWw428 ot7 (by omega) (by omega) (by omega) (fun v430 kv430 lv430 uv430 => ?_)
          refine ev_iconst dt_Ri_takeHourBack_44 ?_
          refine ev_isub dt_Ri_takeHourBack_45 ?_
          refine tm_any (fun v431 hv431 _ => ?_)
          refine tm_iastore dt_Ri_takeHourBack_46 hWw428 ot7 (by omega) (by omega) (by omega) (by omega) (by omega) (fun w432 hWw432 kkw432 hfw432 => ?_)
          have hFw432 : ∀ (p : Nat) (j : Int), ¬ ((p = o ∧ (j = 1 ∨ j = 2 ∨ j = 3 ∨ j = 4)) ∨ p = (o + 7)) → tm_g w432 p j = tm_g w p j := fun p j h => (hfw432 p j (by omega)).trans (hFw428 p j h)
          have z433 := (hfw432 o 2 (by omega)).trans z429
          have z434 := (hfw432 o 1 (by omega)).trans kkw428
          refine ev_iinc (l' := [_, _, _, _, _]) dt_Ri_takeHourBack_47 rfl rfl ?_
          refine ev_goto (tgt := 16) dt_Ri_takeHourBack_50 (by decide) ?_
          exact tm_loc (tm_le_s (tm_le_n (tm_le_s (tm_le_s (tm_le_s tm_le_0))))) (ihL409 ((i410 + (-1))) (t412) w432 hWw432 hFw432 z433 (by omega) (by omega) (by omega) (by omega) (by omega))
    exact tm_loc (tm_le_s (tm_le_n (tm_le_s (tm_le_s (tm_le_s tm_le_0))))) (L409 ((v408) - (-2147483648) + 1 : Int).toNat (v408) (hr) w hW hF0 khr (by omega) (by omega) (by omega) (by omega) (by omega))
  · skip
    refine ev_iconst dt_Ri_takeHourBack_4 ?_
    refine ev_goto (tgt := 9) dt_Ri_takeHourBack_5 (by decide) ?_
    refine ev_istore_n (l' := [_, _, _, _, _]) dt_Ri_takeHourBack_9 rfl (Nat.le_of_ble_eq_true rfl) rfl ?_
    refine ev_iload_n dt_Ri_takeHourBack_10 rfl rfl ?_
    refine tm_abs (by omega) dt_Ri_takeHourBack_11 mk_Ri_140 (Nat.le_of_ble_eq_true rfl) (by decide) (fun v435 x1 x2 => ?_)
    have hv435 : (-2147483648) ≤ v435 ∧ v435 ≤ 2147483647 := by omega
    clear x1 x2
    refine ev_istore (l' := [_, _, _, _, _]) dt_Ri_takeHourBack_14 (Nat.le_of_ble_eq_true rfl) rfl ?_
    have L436 : ∀ (n : Nat) (i437 : Int) (t439 : Int) (w438 : ab_W), tm_W N TW w438 → (∀ (p : Nat) (j : Int), ¬ ((p = o ∧ (j = 1 ∨ j = 2 ∨ j = 3 ∨ j = 4)) ∨ p = (o + 7)) → tm_g w438 p j = tm_g w p j) → tm_g w438 o 2 = some (ab_I t439) → (-2147483648) ≤ i437 → i437 ≤ 2147483647 → 0 ≤ t439 → t439 ≤ 23 → i437 - (-2147483648) < (n : Int) → ab_Ev g_G g_rs mt_Ri_takeHourBack 1 0 0 16 [some (ab_R o), none, some (ab_I b), some (ab_I (-1)), some (ab_I i437)] [] w438 (tm_Qv N T (fun w2 => (∀ (p : Nat) (j : Int), ¬ ((p = o ∧ (j = 1 ∨ j = 2 ∨ j = 3 ∨ j = 4)) ∨ p = (o + 7)) → tm_g w2 p j = tm_g w p j))) := by
      intro n
      induction n with
      | zero =>
        intro i437 t439 w438 hWw438 hFw438 kt439 li437 ui437 lt439 ut439 mL436
        exfalso
        omega
      | succ nL436 ihL436 =>
        intro i437 t439 w438 hWw438 hFw438 kt439 li437 ui437 lt439 ut439 mL436
        refine ev_iload dt_Ri_takeHourBack_16 rfl ?_
        refine ev_if_le (tgt := 53) dt_Ri_takeHourBack_18 (by decide) (by omega) (fun h440 => ?_) (fun h440 => ?_)
        · skip
          refine ev_aload_n dt_Ri_takeHourBack_53 rfl rfl ?_
          refine ev_iload_n dt_Ri_takeHourBack_54 rfl rfl ?_
          refine tm_putI (K := 4) dt_Ri_takeHourBack_55 hWw438 ot0 (fp_Ri_55 _) rfl rfl (by have h0 := True; first | (show _ = _ ∨ _ = _; omega) | omega) (by omega) (by omega) (fun w441 hWw441 kkw441 hfw441 => ?_)
          have hFw441 : ∀ (p : Nat) (j : Int), ¬ ((p = o ∧ (j = 1 ∨ j = 2 ∨ j = 3 ∨ j = 4)) ∨ p = (o + 7)) → tm_g w441 p j = tm_g w p j := fun p j h => (hfw441 p j (by omega)).trans (hFw438 p j h)
          have z442 := (hfw441 o 2 (by omega)).trans kt439
          refine ev_aload_n dt_Ri_takeHourBack_58 rfl rfl ?_
          refine ev_dup dt_Ri_takeHourBack_59 rfl ?_
          refine tm_getK (K := 2) dt_Ri_takeHourBack_60 hWw441 ot0 fl_Ri_49 rfl z442 ?_
          refine ev_iconst dt_Ri_takeHourBack_63 ?_
          refine ev_isub dt_Ri_takeHourBack_64 ?_
          refine tm_putI (K := 2) dt_Ri_takeHourBack_65 hWw441 ot0 (fp_Ri_49 _) rfl rfl trivial (by omega) (by omega) (fun w443 hWw443 kkw443 hfw443 => ?_)
          have hFw443 : ∀ (p : Nat) (j : Int), ¬ ((p = o ∧ (j = 1 ∨ j = 2 ∨ j = 3 ∨ j = 4)) ∨ p = (o + 7)) → tm_g w443 p j = tm_g w p j := fun p j h => (hfw443 p j (by omega)).trans (hFw441 p j h)
          have z444 := (hfw443 o 4 (by omega)).trans kkw441
          refine ev_aload_n dt_Ri_takeHourBack_68 rfl rfl ?_
          refine tm_getK (K := 2) dt_Ri_takeHourBack_69 hWw443 ot0 fl_Ri_49 rfl kkw443 ?_
          refine ev_if_ge (tgt := 91) dt_Ri_takeHourBack_72 (by decide) (by omega) (fun h445 => ?_) (fun h445 => ?_)
          · skip
            exact ev_return dt_Ri_takeHourBack_91 rfl ⟨(tm_riback oo hWw443 kkw443 (by omega) (by omega)), rfl, hFw443⟩
          · skip
            refine ev_aload_n dt_Ri_takeHourBack_75 rfl rfl ?_
            refine ev_bipush dt_Ri_takeHourBack_76 rfl ?_
            refine tm_putI (K := 2) dt_Ri_takeHourBack_78 hWw443 ot0 (fp_Ri_49 _) rfl rfl trivial (by omega) (by omega) (fun w446 hWw446 kkw446 hfw446 => ?_)
            have hFw446 : ∀ (p : Nat) (j : Int), ¬ ((p = o ∧ (j = 1 ∨ j = 2 ∨ j = 3 ∨ j = 4)) ∨ p = (o + 7)) → tm_g w446 p j = tm_g w p j := fun p j h => (hfw446 p j (by omega)).trans (hFw443 p j h)
            have z447 := (hfw446 o 4 (by omega)).trans z444
            refine ev_aload_n dt_Ri_takeHourBack_81 rfl rfl ?_
            refine ev_dup dt_Ri_takeHourBack_82 rfl ?_
            refine tm_getI (K := 3) dt_Ri_takeHourBack_83 hWw446 ot0 fl_Ri_52 rfl rfl (fun v448 kv448 lv448 uv448 => ?_)
            refine ev_iconst dt_Ri_takeHourBack_86 ?_
            refine ev_isub dt_Ri_takeHourBack_87 ?_
            refine tm_any (fun v449 hv449 _ => ?_)
            refine tm_putI (K := 3) dt_Ri_takeHourBack_88 hWw446 ot0 (fp_Ri_52 _) rfl rfl trivial (by omega) (by omega) (fun w450 hWw450 kkw450 hfw450 => ?_)
            have hFw450 : ∀ (p : Nat) (j : Int), ¬ ((p = o ∧ (j = 1 ∨ j = 2 ∨ j = 3 ∨ j = 4)) ∨ p = (o + 7)) → tm_g w450 p j = tm_g w p j := fun p j h => (hfw450 p j (by omega)).trans (hFw446 p j h)
            have z451 := (hfw450 o 4 (by omega)).trans z447
            have z452 := (hfw450 o 2 (by omega)).trans kkw446
            exact ev_return dt_Ri_takeHourBack_91 rfl ⟨(tm_riback oo hWw450 z452 (by omega) (by omega)), rfl, hFw450⟩
        · skip
          refine ev_aload_n dt_Ri_takeHourBack_21 rfl rfl ?_
          refine ev_aload_n dt_Ri_takeHourBack_22 rfl rfl ?_
          refine tm_getI (K := 1) dt_Ri_takeHourBack_23 hWw438 ot0 fl_Ri_45 rfl rfl (fun v453 kv453 lv453 uv453 => ?_)
          refine ev_iload_n dt_Ri_takeHourBack_26 rfl rfl ?_
          refine ev_isub dt_Ri_takeHourBack_27 ?_
          refine tm_sp dt_Ri_takeHourBack_28 (tm_Tu_wrapped hWw438 ((v453 - (-1))) (by omega) (by omega)) kb_Ri_131 sc_Tu_wrapped rfl (Nat.le_of_ble_eq_true rfl) (by decide) (fun v454 hv454 => ?_)
          refine tm_putI (K := 1) dt_Ri_takeHourBack_31 hWw438 ot0 (fp_Ri_45 _) rfl rfl trivial (by omega) (by omega) (fun w455 hWw455 kkw455 hfw455 => ?_)
          have hFw455 : ∀ (p : Nat) (j : Int), ¬ ((p = o ∧ (j = 1 ∨ j = 2 ∨ j = 3 ∨ j = 4)) ∨ p = (o + 7)) → tm_g w455 p j = tm_g w p j := fun p j h => (hfw455 p j (by omega)).trans (hFw438 p j h)
          have z456 := (hfw455 o 2 (by omega)).trans kt439
          refine ev_aload_n dt_Ri_takeHourBack_34 rfl rfl ?_
          refine tm_getR dt_Ri_takeHourBack_35 hWw455 ot0 fl_Ri_31 rfl ?_
          refine ev_aload_n dt_Ri_takeHourBack_38 rfl rfl ?_
          refine tm_getK (K := 1) dt_Ri_takeHourBack_39 hWw455 ot0 fl_Ri_45 rfl kkw455 ?_
          refine ev_dup2 dt_Ri_takeHourBack_42 rfl rfl ?_
          refine tm_iaload dt_Ri_takeHourBack_43 hWw455 ot7 (by omega) (by omega) (by omega) (fun v457 kv457 lv457 uv457 => ?_)
          refine ev_iconst dt_Ri_takeHourBack_44 ?_
          refine ev_isub dt_Ri_takeHourBack_45 ?_
          refine tm_any (fun v458 hv458 _ => ?_)
          refine tm_iastore dt_Ri_takeHourBack_46 hWw455 ot7 (by omega) (by omega) (by omega) (by omega) (by omega) (fun w459 hWw459 kkw459 hfw459 => ?_)
          have hFw459 : ∀ (p : Nat) (j : Int), ¬ ((p = o ∧ (j = 1 ∨ j = 2 ∨ j = 3 ∨ j = 4)) ∨ p = (o + 7)) → tm_g w459 p j = tm_g w p j := fun p j h => (hfw459 p j (by omega)).trans (hFw455 p j h)
          have z460 := (hfw459 o 2 (by omega)).trans z456
          have z461 := (hfw459 o 1 (by omega)).trans kkw455
          refine ev_iinc (l' := [_, _, _, _, _]) dt_Ri_takeHourBack_47 rfl rfl ?_
          refine ev_goto (tgt := 16) dt_Ri_takeHourBack_50 (by decide) ?_
          exact tm_loc (tm_le_s (tm_le_n (tm_le_s (tm_le_s (tm_le_s tm_le_0))))) (ihL436 ((i437 + (-1))) (t439) w459 hWw459 hFw459 z460 (by omega) (by omega) (by omega) (by omega) (by omega))
    exact tm_loc (tm_le_s (tm_le_n (tm_le_s (tm_le_s (tm_le_s tm_le_0))))) (L436 ((v435) - (-2147483648) + 1 : Int).toNat (v435) (hr) w hW hF0 khr (by omega) (by omega) (by omega) (by omega) (by omega))
