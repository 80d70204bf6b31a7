/-! the reference: its world -/
def mo_W (tape : Int → Int) (taped : Int) (rules : Int) (sign : Int → Int) (leng : Int → Int) (clause : Int → Int) (clauses : Int → Int) (read : Int → Int) (next : Int) (wrong : Int) (number : Int) (text : Int) (made : Int) (deep : Int) (lines : Int) (opn : Int → Int) (opened : Int) (stack : Int → Int64) (top : Int) (word : Int → Int64) (said : Int → Int) (xx : Int) (was : Int → Int) (undone : Int) (kept : Int → Int) (sumOf : Int → Int) (faced : Int → Int) (slotAt : Int → Int) (dayAt : Int → Int) (row : Int → Int) (bestRow : Int → Int) (tMany : Int) (tMost : Int) (drawX : Int64) (images : Int → Int) (imageX : Int → Int) (isMade : Int → Int) : ab_W := [ab_ob 11 [ab_R 1, ab_I taped, ab_I rules, ab_R 2, ab_R 3, ab_R 4, ab_R 5, ab_R 6, ab_I next, ab_I wrong, ab_I number, ab_I text, ab_I made, ab_I deep, ab_I lines, ab_R 7, ab_I opened, ab_R 8, ab_I top, ab_R 9, ab_R 10, ab_I xx, ab_R 11, ab_I undone, ab_R 12, ab_R 13, ab_R 14, ab_R 15, ab_R 16, ab_R 17, ab_R 18, ab_I tMany, ab_I tMost, ab_J drawX, ab_R 19, ab_R 20, ab_R 21], ab_ai 1 400 tape, ab_ai 0 2400 sign, ab_ai 0 7 leng, ab_ai 0 288 clause, ab_ai 0 6 clauses, ab_ai 0 150 read, ab_ai 0 400 opn, ab_al 64 stack, ab_al 12 word, ab_ai 0 191 said, ab_ai 0 1060 was, ab_ai 0 53 kept, ab_ai 0 7 sumOf, ab_ai 0 97 faced, ab_ai 0 7 slotAt, ab_ai 0 49 dayAt, ab_ai 0 7 row, ab_ai 0 7 bestRow, ab_ai 0 764 images, ab_ai 0 4 imageX, ab_ai 2 4 isMade]
section MO
variable {tape : Int → Int} {taped : Int} {rules : Int} {sign : Int → Int} {leng : Int → Int} {clause : Int → Int} {clauses : Int → Int} {read : Int → Int} {next : Int} {wrong : Int} {number : Int} {text : Int} {made : Int} {deep : Int} {lines : Int} {opn : Int → Int} {opened : Int} {stack : Int → Int64} {top : Int} {word : Int → Int64} {said : Int → Int} {xx : Int} {was : Int → Int} {undone : Int} {kept : Int → Int} {sumOf : Int → Int} {faced : Int → Int} {slotAt : Int → Int} {dayAt : Int → Int} {row : Int → Int} {bestRow : Int → Int} {tMany : Int} {tMost : Int} {drawX : Int64} {images : Int → Int} {imageX : Int → Int} {isMade : Int → Int}
theorem de_Mo_round_0 : decode prog_14_method_4_code 0 = .ok (.iload_n 0, 1) := by decide +kernel
theorem de_Mo_round_1 : decode prog_14_method_4_code 1 = .ok (.bipush 12, 2) := by decide +kernel
theorem de_Mo_round_3 : decode prog_14_method_4_code 3 = .ok (.irem, 1) := by decide +kernel
theorem de_Mo_round_4 : decode prog_14_method_4_code 4 = .ok (.istore_n 1, 1) := by decide +kernel
theorem de_Mo_round_5 : decode prog_14_method_4_code 5 = .ok (.iload_n 1, 1) := by decide +kernel
theorem de_Mo_round_6 : decode prog_14_method_4_code 6 = .ok (.ifCond .ge 10, 3) := by decide +kernel
theorem de_Mo_round_9 : decode prog_14_method_4_code 9 = .ok (.iload_n 1, 1) := by decide +kernel
theorem de_Mo_round_10 : decode prog_14_method_4_code 10 = .ok (.bipush 12, 2) := by decide +kernel
theorem de_Mo_round_12 : decode prog_14_method_4_code 12 = .ok (.iadd, 1) := by decide +kernel
theorem de_Mo_round_13 : decode prog_14_method_4_code 13 = .ok (.goto 4, 3) := by decide +kernel
theorem de_Mo_round_16 : decode prog_14_method_4_code 16 = .ok (.iload_n 1, 1) := by decide +kernel
theorem de_Mo_round_17 : decode prog_14_method_4_code 17 = .ok (.ireturn, 1) := by decide +kernel
set_option maxRecDepth 10000 in
theorem co_Mo_round (w : ab_W) (v : Int) (hv : ab_in v) : ab_Mt g_G g_rs mt_Mo_round 0 0 0 [ab_I v] w (ab_is (some (ab_I (v % 12))) w) := by
  refine ab_Mt.of rfl (Nat.le_of_ble_eq_true rfl) ?_
  show ab_Ev g_G g_rs mt_Mo_round _ _ _ 0 [some (ab_I v), none] [] _ _
  refine ev_iload_n de_Mo_round_0 rfl rfl ?_
  refine ev_bipush de_Mo_round_1 rfl ?_
  refine ev_irem de_Mo_round_3 (by omega) (by omega) (by omega) ?_
  have q := ab_tme v 12 (by decide)
  refine ev_istore_n (l' := [_, _]) de_Mo_round_4 rfl (Nat.le_of_ble_eq_true rfl) rfl ?_
  refine ev_iload_n de_Mo_round_5 rfl rfl ?_
  refine ev_if_ge (tgt := 16) de_Mo_round_6 (by decide) (by omega) (fun h6 => ?_) (fun h6 => ?_)
  · skip
    refine ev_iload_n de_Mo_round_16 rfl rfl ?_
    exact ev_ireturn de_Mo_round_17 rfl ⟨by congr 2; omega, rfl⟩
  · skip
    refine ev_iload_n de_Mo_round_9 rfl rfl ?_
    refine ev_bipush de_Mo_round_10 rfl ?_
    refine ev_iadd de_Mo_round_12 ?_
    refine ev_goto (tgt := 17) de_Mo_round_13 (by decide) ?_
    exact ev_ireturn de_Mo_round_17 rfl ⟨by congr 2; omega, rfl⟩
theorem de_Mo_isOf_0 : decode prog_14_method_3_code 0 = .ok (.iload_n 0, 1) := by decide +kernel
theorem de_Mo_isOf_1 : decode prog_14_method_3_code 1 = .ok (.iload_n 1, 1) := by decide +kernel
theorem de_Mo_isOf_2 : decode prog_14_method_3_code 2 = .ok (.ishr, 1) := by decide +kernel
theorem de_Mo_isOf_3 : decode prog_14_method_3_code 3 = .ok (.iconst 1, 1) := by decide +kernel
theorem de_Mo_isOf_4 : decode prog_14_method_3_code 4 = .ok (.iand, 1) := by decide +kernel
theorem de_Mo_isOf_5 : decode prog_14_method_3_code 5 = .ok (.iconst 1, 1) := by decide +kernel
theorem de_Mo_isOf_6 : decode prog_14_method_3_code 6 = .ok (.if_icmp .ne 7, 3) := by decide +kernel
theorem de_Mo_isOf_9 : decode prog_14_method_3_code 9 = .ok (.iconst 1, 1) := by decide +kernel
theorem de_Mo_isOf_10 : decode prog_14_method_3_code 10 = .ok (.goto 4, 3) := by decide +kernel
theorem de_Mo_isOf_13 : decode prog_14_method_3_code 13 = .ok (.iconst 0, 1) := by decide +kernel
theorem de_Mo_isOf_14 : decode prog_14_method_3_code 14 = .ok (.ireturn, 1) := by decide +kernel
set_option maxRecDepth 10000 in
theorem co_Mo_isOf (w : ab_W) (s k : Int) (hs : 0 ≤ s) (hs2 : s ≤ 2147483647) (hk : 0 ≤ k) (hk2 : k < 32) : ab_Mt g_G g_rs mt_Mo_isOf 0 0 0 [ab_I s, ab_I k] w (ab_is (some (ab_I (bit_at s.toNat k.toNat))) w) := by
  refine ab_Mt.of rfl (Nat.le_of_ble_eq_true rfl) ?_
  show ab_Ev g_G g_rs mt_Mo_isOf _ _ _ 0 [some (ab_I s), some (ab_I k)] [] _ _
  refine ev_iload_n de_Mo_isOf_0 rfl rfl ?_
  refine ev_iload_n de_Mo_isOf_1 rfl rfl ?_
  refine ev_ishr de_Mo_isOf_2 (by omega) (by omega) (by omega) ?_
  refine ev_iconst de_Mo_isOf_3 ?_
  refine ev_iand de_Mo_isOf_4 ?_
  refine ev_top (congrArg Sum.inl (ab_bit hs hs2)) ?_
  have q := bit_01 s.toNat k.toNat
  refine ev_iconst de_Mo_isOf_5 ?_
  refine ev_icmp_ne (tgt := 13) de_Mo_isOf_6 (by decide) (by omega) (by omega) (fun h6 => ?_) (fun h6 => ?_)
  · skip
    refine ev_iconst de_Mo_isOf_13 ?_
    exact ev_zreturn de_Mo_isOf_14 rfl (by omega) ⟨by congr 2; omega, rfl⟩
  · skip
    refine ev_iconst de_Mo_isOf_9 ?_
    refine ev_goto (tgt := 14) de_Mo_isOf_10 (by decide) ?_
    exact ev_zreturn de_Mo_isOf_14 rfl (by omega) ⟨by congr 2; omega, rfl⟩
theorem de_Mo_in_0 : decode prog_14_method_2_code 0 = .ok (.lload_n 0, 1) := by decide +kernel
theorem de_Mo_in_1 : decode prog_14_method_2_code 1 = .ok (.lload_n 2, 1) := by decide +kernel
theorem de_Mo_in_2 : decode prog_14_method_2_code 2 = .ok (.lcmp, 1) := by decide +kernel
theorem de_Mo_in_3 : decode prog_14_method_2_code 3 = .ok (.ifCond .lt 14, 3) := by decide +kernel
theorem de_Mo_in_6 : decode prog_14_method_2_code 6 = .ok (.lload_n 0, 1) := by decide +kernel
theorem de_Mo_in_7 : decode prog_14_method_2_code 7 = .ok (.lload 4, 2) := by decide +kernel
theorem de_Mo_in_9 : decode prog_14_method_2_code 9 = .ok (.lcmp, 1) := by decide +kernel
theorem de_Mo_in_10 : decode prog_14_method_2_code 10 = .ok (.ifCond .gt 7, 3) := by decide +kernel
theorem de_Mo_in_13 : decode prog_14_method_2_code 13 = .ok (.iconst 1, 1) := by decide +kernel
theorem de_Mo_in_14 : decode prog_14_method_2_code 14 = .ok (.goto 4, 3) := by decide +kernel
theorem de_Mo_in_17 : decode prog_14_method_2_code 17 = .ok (.iconst 0, 1) := by decide +kernel
theorem de_Mo_in_18 : decode prog_14_method_2_code 18 = .ok (.ireturn, 1) := by decide +kernel
set_option maxRecDepth 10000 in
theorem co_Mo_in (w : ab_W) (v a b : Int) (hv : ab_in v) (ha : ab_in a) (hb : ab_in b) : ab_Mt g_G g_rs mt_Mo_in 0 0 0 [ab_J (Int64.ofInt v), ab_J (Int64.ofInt a), ab_J (Int64.ofInt b)] w (ab_is (some (ab_I (if a ≤ v ∧ v ≤ b then 1 else 0))) w) := by
  refine ab_Mt.of rfl (Nat.le_of_ble_eq_true rfl) ?_
  show ab_Ev g_G g_rs mt_Mo_in _ _ _ 0 [some (ab_J (Int64.ofInt v)), none, some (ab_J (Int64.ofInt a)), none, some (ab_J (Int64.ofInt b)), none] [] _ _
  refine ev_lload_n de_Mo_in_0 rfl rfl ?_
  refine ev_lload_n de_Mo_in_1 rfl rfl ?_
  refine ev_lcmp de_Mo_in_2 ?_
  have q := ab_cmpI hv ha
  refine ev_if_lt (tgt := 17) de_Mo_in_3 (by decide) (by omega) (fun h3 => ?_) (fun h3 => ?_)
  · skip
    refine ev_iconst de_Mo_in_17 ?_
    exact ev_zreturn de_Mo_in_18 rfl (by omega) ⟨by first | rw [if_pos (by omega)] | rw [if_neg (by omega)], rfl⟩
  · skip
    refine ev_lload_n de_Mo_in_6 rfl rfl ?_
    refine ev_lload de_Mo_in_7 rfl ?_
    refine ev_lcmp de_Mo_in_9 ?_
    have q2 := ab_cmpI hv hb
    refine ev_if_gt (tgt := 17) de_Mo_in_10 (by decide) (by omega) (fun h10 => ?_) (fun h10 => ?_)
    · skip
      refine ev_iconst de_Mo_in_17 ?_
      exact ev_zreturn de_Mo_in_18 rfl (by omega) ⟨by first | rw [if_pos (by omega)] | rw [if_neg (by omega)], rfl⟩
    · skip
      refine ev_iconst de_Mo_in_13 ?_
      refine ev_goto (tgt := 18) de_Mo_in_14 (by decide) ?_
      exact ev_zreturn de_Mo_in_18 rfl (by omega) ⟨by first | rw [if_pos (by omega)] | rw [if_neg (by omega)], rfl⟩
theorem de_Mo_sortsAt_0 : decode prog_14_method_51_code 0 = .ok (.iconst 0, 1) := by decide +kernel
theorem de_Mo_sortsAt_1 : decode prog_14_method_51_code 1 = .ok (.istore_n 3, 1) := by decide +kernel
theorem de_Mo_sortsAt_2 : decode prog_14_method_51_code 2 = .ok (.iconst 0, 1) := by decide +kernel
theorem de_Mo_sortsAt_3 : decode prog_14_method_51_code 3 = .ok (.istore 4, 2) := by decide +kernel
theorem de_Mo_sortsAt_5 : decode prog_14_method_51_code 5 = .ok (.iload 4, 2) := by decide +kernel
theorem de_Mo_sortsAt_7 : decode prog_14_method_51_code 7 = .ok (.aload_n 0, 1) := by decide +kernel
theorem de_Mo_sortsAt_8 : decode prog_14_method_51_code 8 = .ok (.getfield 39, 3) := by decide +kernel
theorem de_Mo_sortsAt_11 : decode prog_14_method_51_code 11 = .ok (.iconst 2, 1) := by decide +kernel
theorem de_Mo_sortsAt_12 : decode prog_14_method_51_code 12 = .ok (.iaload, 1) := by decide +kernel
theorem de_Mo_sortsAt_13 : decode prog_14_method_51_code 13 = .ok (.if_icmp .ge 69, 3) := by decide +kernel
theorem de_Mo_sortsAt_16 : decode prog_14_method_51_code 16 = .ok (.bipush 95, 2) := by decide +kernel
theorem de_Mo_sortsAt_18 : decode prog_14_method_51_code 18 = .ok (.iconst 4, 1) := by decide +kernel
theorem de_Mo_sortsAt_19 : decode prog_14_method_51_code 19 = .ok (.iload 4, 2) := by decide +kernel
theorem de_Mo_sortsAt_21 : decode prog_14_method_51_code 21 = .ok (.imul, 1) := by decide +kernel
theorem de_Mo_sortsAt_22 : decode prog_14_method_51_code 22 = .ok (.iadd, 1) := by decide +kernel
theorem de_Mo_sortsAt_23 : decode prog_14_method_51_code 23 = .ok (.istore 5, 2) := by decide +kernel
theorem de_Mo_sortsAt_25 : decode prog_14_method_51_code 25 = .ok (.aload_n 0, 1) := by decide +kernel
theorem de_Mo_sortsAt_26 : decode prog_14_method_51_code 26 = .ok (.getfield 39, 3) := by decide +kernel
theorem de_Mo_sortsAt_29 : decode prog_14_method_51_code 29 = .ok (.iload 5, 2) := by decide +kernel
theorem de_Mo_sortsAt_31 : decode prog_14_method_51_code 31 = .ok (.iconst 1, 1) := by decide +kernel
theorem de_Mo_sortsAt_32 : decode prog_14_method_51_code 32 = .ok (.iadd, 1) := by decide +kernel
theorem de_Mo_sortsAt_33 : decode prog_14_method_51_code 33 = .ok (.iaload, 1) := by decide +kernel
theorem de_Mo_sortsAt_34 : decode prog_14_method_51_code 34 = .ok (.iload_n 1, 1) := by decide +kernel
theorem de_Mo_sortsAt_35 : decode prog_14_method_51_code 35 = .ok (.if_icmp .ne 41, 3) := by decide +kernel
theorem de_Mo_sortsAt_38 : decode prog_14_method_51_code 38 = .ok (.iload_n 2, 1) := by decide +kernel
theorem de_Mo_sortsAt_39 : decode prog_14_method_51_code 39 = .ok (.aload_n 0, 1) := by decide +kernel
theorem de_Mo_sortsAt_40 : decode prog_14_method_51_code 40 = .ok (.getfield 39, 3) := by decide +kernel
theorem de_Mo_sortsAt_43 : decode prog_14_method_51_code 43 = .ok (.iload 5, 2) := by decide +kernel
theorem de_Mo_sortsAt_45 : decode prog_14_method_51_code 45 = .ok (.iconst 2, 1) := by decide +kernel
theorem de_Mo_sortsAt_46 : decode prog_14_method_51_code 46 = .ok (.iadd, 1) := by decide +kernel
theorem de_Mo_sortsAt_47 : decode prog_14_method_51_code 47 = .ok (.iaload, 1) := by decide +kernel
theorem de_Mo_sortsAt_48 : decode prog_14_method_51_code 48 = .ok (.if_icmp .lt 28, 3) := by decide +kernel
theorem de_Mo_sortsAt_51 : decode prog_14_method_51_code 51 = .ok (.iload_n 2, 1) := by decide +kernel
theorem de_Mo_sortsAt_52 : decode prog_14_method_51_code 52 = .ok (.aload_n 0, 1) := by decide +kernel
theorem de_Mo_sortsAt_53 : decode prog_14_method_51_code 53 = .ok (.getfield 39, 3) := by decide +kernel
theorem de_Mo_sortsAt_56 : decode prog_14_method_51_code 56 = .ok (.iload 5, 2) := by decide +kernel
theorem de_Mo_sortsAt_58 : decode prog_14_method_51_code 58 = .ok (.iconst 3, 1) := by decide +kernel
theorem de_Mo_sortsAt_59 : decode prog_14_method_51_code 59 = .ok (.iadd, 1) := by decide +kernel
theorem de_Mo_sortsAt_60 : decode prog_14_method_51_code 60 = .ok (.iaload, 1) := by decide +kernel
theorem de_Mo_sortsAt_61 : decode prog_14_method_51_code 61 = .ok (.if_icmp .gt 15, 3) := by decide +kernel
theorem de_Mo_sortsAt_64 : decode prog_14_method_51_code 64 = .ok (.iload_n 3, 1) := by decide +kernel
theorem de_Mo_sortsAt_65 : decode prog_14_method_51_code 65 = .ok (.iconst 1, 1) := by decide +kernel
theorem de_Mo_sortsAt_66 : decode prog_14_method_51_code 66 = .ok (.aload_n 0, 1) := by decide +kernel
theorem de_Mo_sortsAt_67 : decode prog_14_method_51_code 67 = .ok (.getfield 39, 3) := by decide +kernel
theorem de_Mo_sortsAt_70 : decode prog_14_method_51_code 70 = .ok (.iload 5, 2) := by decide +kernel
theorem de_Mo_sortsAt_72 : decode prog_14_method_51_code 72 = .ok (.iaload, 1) := by decide +kernel
theorem de_Mo_sortsAt_73 : decode prog_14_method_51_code 73 = .ok (.ishl, 1) := by decide +kernel
theorem de_Mo_sortsAt_74 : decode prog_14_method_51_code 74 = .ok (.ior, 1) := by decide +kernel
theorem de_Mo_sortsAt_75 : decode prog_14_method_51_code 75 = .ok (.istore_n 3, 1) := by decide +kernel
theorem de_Mo_sortsAt_76 : decode prog_14_method_51_code 76 = .ok (.iinc 4 1, 3) := by decide +kernel
theorem de_Mo_sortsAt_79 : decode prog_14_method_51_code 79 = .ok (.goto (-74), 3) := by decide +kernel
theorem de_Mo_sortsAt_82 : decode prog_14_method_51_code 82 = .ok (.iload_n 3, 1) := by decide +kernel
theorem de_Mo_sortsAt_83 : decode prog_14_method_51_code 83 = .ok (.ireturn, 1) := by decide +kernel
set_option maxRecDepth 10000 in
theorem lo_Mo_sortsAt {B : Int} (hI : sg_ok B said) (dd hh : Int) (hdd : ab_in dd) (hhh : ab_in hh) : ∀ (n : Nat) (k : Nat) (s5 : Option ab_V), k ≤ (said 2).toNat → (said 2).toNat < k + n → ab_Ev g_G g_rs mt_Mo_sortsAt 0 0 0 5 [some (ab_R 0), some (ab_I dd), some (ab_I hh), some (ab_I (sp_sorts said dd hh k : Nat)), some (ab_I (k : Int)), s5] [] (mo_W tape taped rules sign leng clause clauses read next wrong number text made deep lines opn opened stack top word said xx was undone kept sumOf faced slotAt dayAt row bestRow tMany tMost drawX images imageX isMade) (ab_is (some (ab_I (sp_sortsAt said dd hh : Nat))) (mo_W tape taped rules sign leng clause clauses read next wrong number text made deep lines opn opened stack top word said xx was undone kept sumOf faced slotAt dayAt row bestRow tMany tMost drawX images imageX isMade)) := by
  intro n
  induction n with
  | zero =>
    intro k s5
    intro h1 h2; omega
  | succ n ih =>
    intro k s5
    intro h1 h2
    have hI2 := hI
    obtain ⟨i0, i1, i2, i3, i4, i5, i6, i7, i8, i9, i10, i11, i12, i13, i14, i15, i16, i17⟩ := hI
    have hlt := sp_sorts_lt hI2 dd hh k (by omega)
    refine ev_iload de_Mo_sortsAt_5 rfl ?_
    refine ev_aload_n de_Mo_sortsAt_7 rfl rfl ?_
    refine ev_getfield de_Mo_sortsAt_8 rfl fl_Mo_39 rfl ?_
    refine ev_iconst de_Mo_sortsAt_11 ?_
    refine ev_iaload de_Mo_sortsAt_12 rfl (by omega) (by omega) (by omega) ?_
    refine ev_icmp_ge (tgt := 82) de_Mo_sortsAt_13 (by decide) (by omega) (by omega) (fun h13 => ?_) (fun h13 => ?_)
    · skip
      have e : k = (said 2).toNat := by omega
      subst e
      refine ev_iload_n de_Mo_sortsAt_82 rfl rfl ?_
      exact ev_ireturn de_Mo_sortsAt_83 rfl ⟨rfl, rfl⟩
    · skip
      have q := i14 (k : Int) (by omega) (by omega)
      refine ev_bipush de_Mo_sortsAt_16 rfl ?_
      refine ev_iconst de_Mo_sortsAt_18 ?_
      refine ev_iload de_Mo_sortsAt_19 rfl ?_
      refine ev_imul de_Mo_sortsAt_21 ?_
      refine ev_iadd de_Mo_sortsAt_22 ?_
      refine ev_istore (l' := [_, _, _, _, _, _]) de_Mo_sortsAt_23 (Nat.le_of_ble_eq_true rfl) rfl ?_
      refine ev_aload_n de_Mo_sortsAt_25 rfl rfl ?_
      refine ev_getfield de_Mo_sortsAt_26 rfl fl_Mo_39 rfl ?_
      refine ev_iload de_Mo_sortsAt_29 rfl ?_
      refine ev_iconst de_Mo_sortsAt_31 ?_
      refine ev_iadd de_Mo_sortsAt_32 ?_
      refine ev_iaload de_Mo_sortsAt_33 rfl (by omega) (by omega) (by omega) ?_
      refine ev_iload_n de_Mo_sortsAt_34 rfl rfl ?_
      refine ev_icmp_ne (tgt := 76) de_Mo_sortsAt_35 (by decide) (by omega) (by omega) (fun h35 => ?_) (fun h35 => ?_)
      · skip
        refine ev_iinc (l' := [_, _, _, _, _, _]) de_Mo_sortsAt_76 rfl rfl ?_
        refine ev_goto (tgt := 5) de_Mo_sortsAt_79 (by decide) ?_
        have e : sp_sorts said dd hh (k + 1) = sp_sorts said dd hh k := by simp only [sp_sorts]; rw [if_neg (by omega)]
        have z := fun s5 => ih (k + 1) s5 (by omega) (by omega)
        rw [e] at z
        exact z _
      · skip
        refine ev_iload_n de_Mo_sortsAt_38 rfl rfl ?_
        refine ev_aload_n de_Mo_sortsAt_39 rfl rfl ?_
        refine ev_getfield de_Mo_sortsAt_40 rfl fl_Mo_39 rfl ?_
        refine ev_iload de_Mo_sortsAt_43 rfl ?_
        refine ev_iconst de_Mo_sortsAt_45 ?_
        refine ev_iadd de_Mo_sortsAt_46 ?_
        refine ev_iaload de_Mo_sortsAt_47 rfl (by omega) (by omega) (by omega) ?_
        refine ev_icmp_lt (tgt := 76) de_Mo_sortsAt_48 (by decide) (by omega) (by omega) (fun h48 => ?_) (fun h48 => ?_)
        · skip
          refine ev_iinc (l' := [_, _, _, _, _, _]) de_Mo_sortsAt_76 rfl rfl ?_
          refine ev_goto (tgt := 5) de_Mo_sortsAt_79 (by decide) ?_
          have e : sp_sorts said dd hh (k + 1) = sp_sorts said dd hh k := by simp only [sp_sorts]; rw [if_neg (by omega)]
          have z := fun s5 => ih (k + 1) s5 (by omega) (by omega)
          rw [e] at z
          exact z _
        · skip
          refine ev_iload_n de_Mo_sortsAt_51 rfl rfl ?_
          refine ev_aload_n de_Mo_sortsAt_52 rfl rfl ?_
          refine ev_getfield de_Mo_sortsAt_53 rfl fl_Mo_39 rfl ?_
          refine ev_iload de_Mo_sortsAt_56 rfl ?_
          refine ev_iconst de_Mo_sortsAt_58 ?_
          refine ev_iadd de_Mo_sortsAt_59 ?_
          refine ev_iaload de_Mo_sortsAt_60 rfl (by omega) (by omega) (by omega) ?_
          refine ev_icmp_gt (tgt := 76) de_Mo_sortsAt_61 (by decide) (by omega) (by omega) (fun h61 => ?_) (fun h61 => ?_)
          · skip
            refine ev_iinc (l' := [_, _, _, _, _, _]) de_Mo_sortsAt_76 rfl rfl ?_
            refine ev_goto (tgt := 5) de_Mo_sortsAt_79 (by decide) ?_
            have e : sp_sorts said dd hh (k + 1) = sp_sorts said dd hh k := by simp only [sp_sorts]; rw [if_neg (by omega)]
            have z := fun s5 => ih (k + 1) s5 (by omega) (by omega)
            rw [e] at z
            exact z _
          · skip
            refine ev_iload_n de_Mo_sortsAt_64 rfl rfl ?_
            refine ev_iconst de_Mo_sortsAt_65 ?_
            refine ev_aload_n de_Mo_sortsAt_66 rfl rfl ?_
            refine ev_getfield de_Mo_sortsAt_67 rfl fl_Mo_39 rfl ?_
            refine ev_iload de_Mo_sortsAt_70 rfl ?_
            refine ev_iaload de_Mo_sortsAt_72 rfl (by omega) (by omega) (by omega) ?_
            refine ev_ishl de_Mo_sortsAt_73 (by omega) (by omega) ?_
            refine ev_ior de_Mo_sortsAt_74 ?_
            have e : ab_ior (sp_sorts said dd hh k : Nat) (1 * 2 ^ (said (95 + 4 * (k : Int))).toNat) = ((sp_sorts said dd hh (k + 1) : Nat) : Int) := by
              rw [ab_ior_pow (by omega) (by omega)]
              simp only [sp_sorts]
              rw [if_pos (by omega)]
            refine ev_top (congrArg Sum.inl e) ?_
            refine ev_istore_n (l' := [_, _, _, _, _, _]) de_Mo_sortsAt_75 rfl (Nat.le_of_ble_eq_true rfl) rfl ?_
            refine ev_iinc (l' := [_, _, _, _, _, _]) de_Mo_sortsAt_76 rfl rfl ?_
            refine ev_goto (tgt := 5) de_Mo_sortsAt_79 (by decide) ?_
            exact ih (k + 1) _ (by omega) (by omega)
end MO
