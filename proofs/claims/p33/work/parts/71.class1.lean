/-! the class: a Ring at a place o, told by a row f as the reference has it -/
def cs_sorts (vw : Int → Int64) (d h : Int) : Int := ab_iand (((vw h).toUInt64 >>> ((Int32.ofInt (d * 5)).toInt64.toUInt64 &&& Int64.toUInt64 63)).toInt64.toInt32.toInt) 31
theorem de_Tu_facedBy_0 : decode prog_1_method_44_code 0 = .ok (.iload_n 0, 1) := by decide +kernel
theorem de_Tu_facedBy_1 : decode prog_1_method_44_code 1 = .ok (.iload_n 1, 1) := by decide +kernel
theorem de_Tu_facedBy_2 : decode prog_1_method_44_code 2 = .ok (.iadd, 1) := by decide +kernel
theorem de_Tu_facedBy_3 : decode prog_1_method_44_code 3 = .ok (.istore_n 2, 1) := by decide +kernel
theorem de_Tu_facedBy_4 : decode prog_1_method_44_code 4 = .ok (.iload_n 2, 1) := by decide +kernel
theorem de_Tu_facedBy_5 : decode prog_1_method_44_code 5 = .ok (.bipush 12, 2) := by decide +kernel
theorem de_Tu_facedBy_7 : decode prog_1_method_44_code 7 = .ok (.if_icmp .ge 7, 3) := by decide +kernel
theorem de_Tu_facedBy_10 : decode prog_1_method_44_code 10 = .ok (.iload_n 2, 1) := by decide +kernel
theorem de_Tu_facedBy_11 : decode prog_1_method_44_code 11 = .ok (.goto 7, 3) := by decide +kernel
theorem de_Tu_facedBy_14 : decode prog_1_method_44_code 14 = .ok (.iload_n 2, 1) := by decide +kernel
theorem de_Tu_facedBy_15 : decode prog_1_method_44_code 15 = .ok (.bipush 12, 2) := by decide +kernel
theorem de_Tu_facedBy_17 : decode prog_1_method_44_code 17 = .ok (.isub, 1) := by decide +kernel
theorem de_Tu_facedBy_18 : decode prog_1_method_44_code 18 = .ok (.ireturn, 1) := by decide +kernel
set_option maxHeartbeats 4000000 in
set_option maxRecDepth 10000 in
theorem co_Tu_facedBy (w : ab_W) (s a : Int) (hs0 : 0 ≤ s) (hs1 : s ≤ 11) (ha0 : 0 ≤ a) (ha1 : a ≤ 11) : ab_Mt g_G g_rs mt_Tu_facedBy 0 0 0 [ab_I s, ab_I a] w (ab_is (some (ab_I ((s + a) % 12))) w) := by
  refine ab_Mt.of rfl (Nat.le_of_ble_eq_true rfl) ?_
  show ab_Ev g_G g_rs mt_Tu_facedBy _ _ _ 0 [some (ab_I s), some (ab_I a), none] [] _ _
  refine ev_iload_n de_Tu_facedBy_0 rfl rfl ?_
  refine ev_iload_n de_Tu_facedBy_1 rfl rfl ?_
  refine ev_iadd de_Tu_facedBy_2 ?_
  refine ev_istore_n (l' := [_, _, _]) de_Tu_facedBy_3 rfl (Nat.le_of_ble_eq_true rfl) rfl ?_
  refine ev_iload_n de_Tu_facedBy_4 rfl rfl ?_
  refine ev_bipush de_Tu_facedBy_5 rfl ?_
  refine ev_icmp_ge (tgt := 14) de_Tu_facedBy_7 (by decide) (by omega) (by omega) (fun h7 => ?_) (fun h7 => ?_)
  · skip
    refine ev_iload_n de_Tu_facedBy_14 rfl rfl ?_
    refine ev_bipush de_Tu_facedBy_15 rfl ?_
    refine ev_isub de_Tu_facedBy_17 ?_
    exact ev_ireturn de_Tu_facedBy_18 rfl ⟨by congr 2; omega, rfl⟩
  · skip
    refine ev_iload_n de_Tu_facedBy_10 rfl rfl ?_
    refine ev_goto (tgt := 18) de_Tu_facedBy_11 (by decide) ?_
    exact ev_ireturn de_Tu_facedBy_18 rfl ⟨by congr 2; omega, rfl⟩
theorem de_Tu_wrapped_0 : decode prog_1_method_43_code 0 = .ok (.iload_n 0, 1) := by decide +kernel
theorem de_Tu_wrapped_1 : decode prog_1_method_43_code 1 = .ok (.bipush 12, 2) := by decide +kernel
theorem de_Tu_wrapped_3 : decode prog_1_method_43_code 3 = .ok (.irem, 1) := by decide +kernel
theorem de_Tu_wrapped_4 : decode prog_1_method_43_code 4 = .ok (.istore_n 1, 1) := by decide +kernel
theorem de_Tu_wrapped_5 : decode prog_1_method_43_code 5 = .ok (.iload_n 1, 1) := by decide +kernel
theorem de_Tu_wrapped_6 : decode prog_1_method_43_code 6 = .ok (.ifCond .ge 10, 3) := by decide +kernel
theorem de_Tu_wrapped_9 : decode prog_1_method_43_code 9 = .ok (.iload_n 1, 1) := by decide +kernel
theorem de_Tu_wrapped_10 : decode prog_1_method_43_code 10 = .ok (.bipush 12, 2) := by decide +kernel
theorem de_Tu_wrapped_12 : decode prog_1_method_43_code 12 = .ok (.iadd, 1) := by decide +kernel
theorem de_Tu_wrapped_13 : decode prog_1_method_43_code 13 = .ok (.goto 4, 3) := by decide +kernel
theorem de_Tu_wrapped_16 : decode prog_1_method_43_code 16 = .ok (.iload_n 1, 1) := by decide +kernel
theorem de_Tu_wrapped_17 : decode prog_1_method_43_code 17 = .ok (.ireturn, 1) := by decide +kernel
set_option maxHeartbeats 4000000 in
set_option maxRecDepth 10000 in
theorem co_Tu_wrapped (w : ab_W) (v : Int) (hv : ab_in v) : ab_Mt g_G g_rs mt_Tu_wrapped 0 0 0 [ab_I v] w (ab_is (some (ab_I (v % 12))) w) := by
  refine ab_Mt.of rfl (Nat.le_of_ble_eq_true rfl) ?_
  show ab_Ev g_G g_rs mt_Tu_wrapped _ _ _ 0 [some (ab_I v), none] [] _ _
  refine ev_iload_n de_Tu_wrapped_0 rfl rfl ?_
  refine ev_bipush de_Tu_wrapped_1 rfl ?_
  refine ev_irem de_Tu_wrapped_3 (by omega) (by omega) (by omega) ?_
  have q := ab_tme v 12 (by decide)
  refine ev_istore_n (l' := [_, _]) de_Tu_wrapped_4 rfl (Nat.le_of_ble_eq_true rfl) rfl ?_
  refine ev_iload_n de_Tu_wrapped_5 rfl rfl ?_
  refine ev_if_ge (tgt := 16) de_Tu_wrapped_6 (by decide) (by omega) (fun h6 => ?_) (fun h6 => ?_)
  · skip
    refine ev_iload_n de_Tu_wrapped_16 rfl rfl ?_
    exact ev_ireturn de_Tu_wrapped_17 rfl ⟨by congr 2; omega, rfl⟩
  · skip
    refine ev_iload_n de_Tu_wrapped_9 rfl rfl ?_
    refine ev_bipush de_Tu_wrapped_10 rfl ?_
    refine ev_iadd de_Tu_wrapped_12 ?_
    refine ev_goto (tgt := 17) de_Tu_wrapped_13 (by decide) ?_
    exact ev_ireturn de_Tu_wrapped_17 rfl ⟨by congr 2; omega, rfl⟩
theorem de_Ri_facing_0 : decode prog_7_method_9_code 0 = .ok (.aload_n 0, 1) := by decide +kernel
theorem de_Ri_facing_1 : decode prog_7_method_9_code 1 = .ok (.getfield 9, 3) := by decide +kernel
theorem de_Ri_facing_4 : decode prog_7_method_9_code 4 = .ok (.iload_n 1, 1) := by decide +kernel
theorem de_Ri_facing_5 : decode prog_7_method_9_code 5 = .ok (.iaload, 1) := by decide +kernel
theorem de_Ri_facing_6 : decode prog_7_method_9_code 6 = .ok (.aload_n 0, 1) := by decide +kernel
theorem de_Ri_facing_7 : decode prog_7_method_9_code 7 = .ok (.getfield 45, 3) := by decide +kernel
theorem de_Ri_facing_10 : decode prog_7_method_9_code 10 = .ok (.invokestatic 95, 3) := by decide +kernel
theorem de_Ri_facing_13 : decode prog_7_method_9_code 13 = .ok (.ireturn, 1) := by decide +kernel
theorem de_Ri_sortsAt_0 : decode prog_7_method_11_code 0 = .ok (.aload_n 0, 1) := by decide +kernel
theorem de_Ri_sortsAt_1 : decode prog_7_method_11_code 1 = .ok (.getfield 24, 3) := by decide +kernel
theorem de_Ri_sortsAt_4 : decode prog_7_method_11_code 4 = .ok (.iload_n 2, 1) := by decide +kernel
theorem de_Ri_sortsAt_5 : decode prog_7_method_11_code 5 = .ok (.laload, 1) := by decide +kernel
theorem de_Ri_sortsAt_6 : decode prog_7_method_11_code 6 = .ok (.iload_n 1, 1) := by decide +kernel
theorem de_Ri_sortsAt_7 : decode prog_7_method_11_code 7 = .ok (.iconst 5, 1) := by decide +kernel
theorem de_Ri_sortsAt_8 : decode prog_7_method_11_code 8 = .ok (.imul, 1) := by decide +kernel
theorem de_Ri_sortsAt_9 : decode prog_7_method_11_code 9 = .ok (.lushr, 1) := by decide +kernel
theorem de_Ri_sortsAt_10 : decode prog_7_method_11_code 10 = .ok (.l2i, 1) := by decide +kernel
theorem de_Ri_sortsAt_11 : decode prog_7_method_11_code 11 = .ok (.bipush 31, 2) := by decide +kernel
theorem de_Ri_sortsAt_13 : decode prog_7_method_11_code 13 = .ok (.iand, 1) := by decide +kernel
theorem de_Ri_sortsAt_14 : decode prog_7_method_11_code 14 = .ok (.ireturn, 1) := by decide +kernel
theorem de_Ri_isGate_0 : decode prog_7_method_8_code 0 = .ok (.aload_n 0, 1) := by decide +kernel
theorem de_Ri_isGate_1 : decode prog_7_method_8_code 1 = .ok (.getfield 70, 3) := by decide +kernel
theorem de_Ri_isGate_4 : decode prog_7_method_8_code 4 = .ok (.iload_n 1, 1) := by decide +kernel
theorem de_Ri_isGate_5 : decode prog_7_method_8_code 5 = .ok (.ishr, 1) := by decide +kernel
theorem de_Ri_isGate_6 : decode prog_7_method_8_code 6 = .ok (.iconst 1, 1) := by decide +kernel
theorem de_Ri_isGate_7 : decode prog_7_method_8_code 7 = .ok (.iand, 1) := by decide +kernel
theorem de_Ri_isGate_8 : decode prog_7_method_8_code 8 = .ok (.ifCond .eq 7, 3) := by decide +kernel
theorem de_Ri_isGate_11 : decode prog_7_method_8_code 11 = .ok (.iconst 1, 1) := by decide +kernel
theorem de_Ri_isGate_12 : decode prog_7_method_8_code 12 = .ok (.goto 4, 3) := by decide +kernel
theorem de_Ri_isGate_15 : decode prog_7_method_8_code 15 = .ok (.iconst 0, 1) := by decide +kernel
theorem de_Ri_isGate_16 : decode prog_7_method_8_code 16 = .ok (.ireturn, 1) := by decide +kernel
theorem cs_half (n k : Nat) : ((n / 2 ^ k : Nat) : Int) / 2 ^ (1 : Int).toNat = ((n / 2 ^ (k + 1) : Nat) : Int) := by
  show ((n / 2 ^ k : Nat) : Int) / 2 = _
  rw [Nat.pow_succ, ← Nat.div_div_eq_div_mul]
  omega
theorem cs_odd (n k : Nat) (h : n < 32) : ab_iand ((n / 2 ^ k : Nat) : Int) 1 = bit_at n k := by
  have q : n / 2 ^ k ≤ n := Nat.div_le_self _ _
  have e := ab_bit (a := (n : Int)) (k := (k : Int)) (by omega) (by omega)
  rw [Int.toNat_natCast, Int.toNat_natCast] at e
  rw [← e]
  congr 1
theorem sp_like_stop (f : Int → Int) (h : Int) (n k : Nat) (hz : n / 2 ^ k = 0) : ∀ m : Nat, k ≤ m → sp_like f h n m = sp_like f h n k := by
  intro m
  induction m with
  | zero => intro hk; rw [show k = 0 by omega]
  | succ m ih =>
    intro hk
    by_cases c : k = m + 1
    · rw [c]
    · have tb : n.testBit m = false := by
        have h1 : n < 2 ^ k := (Nat.div_eq_zero_iff_lt (Nat.two_pow_pos k)).mp hz
        exact Nat.testBit_lt_two_pow (Nat.lt_of_lt_of_le h1 (Nat.pow_le_pow_right (by decide) (by omega)))
      simp only [sp_like, tb]
      rw [ih (by omega)]
      simp
theorem de_Ri_likesIn_0 : decode prog_7_method_12_code 0 = .ok (.aload_n 0, 1) := by decide +kernel
theorem de_Ri_likesIn_1 : decode prog_7_method_12_code 1 = .ok (.iload_n 2, 1) := by decide +kernel
theorem de_Ri_likesIn_2 : decode prog_7_method_12_code 2 = .ok (.iload_n 3, 1) := by decide +kernel
theorem de_Ri_likesIn_3 : decode prog_7_method_12_code 3 = .ok (.invokestatic 95, 3) := by decide +kernel
theorem de_Ri_likesIn_6 : decode prog_7_method_12_code 6 = .ok (.iload 4, 2) := by decide +kernel
theorem de_Ri_likesIn_8 : decode prog_7_method_12_code 8 = .ok (.invokevirtual 103, 3) := by decide +kernel
theorem de_Ri_likesIn_11 : decode prog_7_method_12_code 11 = .ok (.istore 5, 2) := by decide +kernel
theorem de_Ri_likesIn_13 : decode prog_7_method_12_code 13 = .ok (.iconst 0, 1) := by decide +kernel
theorem de_Ri_likesIn_14 : decode prog_7_method_12_code 14 = .ok (.istore 6, 2) := by decide +kernel
theorem de_Ri_likesIn_16 : decode prog_7_method_12_code 16 = .ok (.iconst 0, 1) := by decide +kernel
theorem de_Ri_likesIn_17 : decode prog_7_method_12_code 17 = .ok (.istore 7, 2) := by decide +kernel
theorem de_Ri_likesIn_19 : decode prog_7_method_12_code 19 = .ok (.iload 5, 2) := by decide +kernel
theorem de_Ri_likesIn_21 : decode prog_7_method_12_code 21 = .ok (.ifCond .eq 44, 3) := by decide +kernel
theorem de_Ri_likesIn_24 : decode prog_7_method_12_code 24 = .ok (.iload 7, 2) := by decide +kernel
theorem de_Ri_likesIn_26 : decode prog_7_method_12_code 26 = .ok (.iconst 5, 1) := by decide +kernel
theorem de_Ri_likesIn_27 : decode prog_7_method_12_code 27 = .ok (.if_icmp .ge 38, 3) := by decide +kernel
theorem de_Ri_likesIn_30 : decode prog_7_method_12_code 30 = .ok (.iload 5, 2) := by decide +kernel
theorem de_Ri_likesIn_32 : decode prog_7_method_12_code 32 = .ok (.iconst 1, 1) := by decide +kernel
theorem de_Ri_likesIn_33 : decode prog_7_method_12_code 33 = .ok (.iand, 1) := by decide +kernel
theorem de_Ri_likesIn_34 : decode prog_7_method_12_code 34 = .ok (.ifCond .eq 19, 3) := by decide +kernel
theorem de_Ri_likesIn_37 : decode prog_7_method_12_code 37 = .ok (.iload 6, 2) := by decide +kernel
theorem de_Ri_likesIn_39 : decode prog_7_method_12_code 39 = .ok (.aload_n 0, 1) := by decide +kernel
theorem de_Ri_likesIn_40 : decode prog_7_method_12_code 40 = .ok (.getfield 21, 3) := by decide +kernel
theorem de_Ri_likesIn_43 : decode prog_7_method_12_code 43 = .ok (.iload_n 1, 1) := by decide +kernel
theorem de_Ri_likesIn_44 : decode prog_7_method_12_code 44 = .ok (.iconst 5, 1) := by decide +kernel
theorem de_Ri_likesIn_45 : decode prog_7_method_12_code 45 = .ok (.imul, 1) := by decide +kernel
theorem de_Ri_likesIn_46 : decode prog_7_method_12_code 46 = .ok (.iload 7, 2) := by decide +kernel
theorem de_Ri_likesIn_48 : decode prog_7_method_12_code 48 = .ok (.iadd, 1) := by decide +kernel
theorem de_Ri_likesIn_49 : decode prog_7_method_12_code 49 = .ok (.iaload, 1) := by decide +kernel
theorem de_Ri_likesIn_50 : decode prog_7_method_12_code 50 = .ok (.iadd, 1) := by decide +kernel
theorem de_Ri_likesIn_51 : decode prog_7_method_12_code 51 = .ok (.istore 6, 2) := by decide +kernel
theorem de_Ri_likesIn_53 : decode prog_7_method_12_code 53 = .ok (.iload 5, 2) := by decide +kernel
theorem de_Ri_likesIn_55 : decode prog_7_method_12_code 55 = .ok (.iconst 1, 1) := by decide +kernel
theorem de_Ri_likesIn_56 : decode prog_7_method_12_code 56 = .ok (.ishr, 1) := by decide +kernel
theorem de_Ri_likesIn_57 : decode prog_7_method_12_code 57 = .ok (.istore 5, 2) := by decide +kernel
theorem de_Ri_likesIn_59 : decode prog_7_method_12_code 59 = .ok (.iinc 7 1, 3) := by decide +kernel
theorem de_Ri_likesIn_62 : decode prog_7_method_12_code 62 = .ok (.goto (-43), 3) := by decide +kernel
theorem de_Ri_likesIn_65 : decode prog_7_method_12_code 65 = .ok (.iload 6, 2) := by decide +kernel
theorem de_Ri_likesIn_67 : decode prog_7_method_12_code 67 = .ok (.ireturn, 1) := by decide +kernel