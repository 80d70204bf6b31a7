/-! the reference: its world -/
def mo_W (tape : Int → Int) (taped : Int) (rules : Int) (sign : Int → Int) (leng : Int → Int) (clause : Int → Int) (clauses : Int → Int) (read : Int → Int) (next : Int) (wrong : Int) (number : Int) (text : Int) (made : Int) (deep : Int) (lines : Int) (opn : Int → Int) (opened : Int) (stack : Int → Int64) (top : Int) (word : Int → Int64) (said : Int → Int) (xx : Int) (was : Int → Int) (undone : Int) (kept : Int → Int) (sumOf : Int → Int) (faced : Int → Int) (slotAt : Int → Int) (dayAt : Int → Int) (row : Int → Int) (bestRow : Int → Int) (tMany : Int) (tMost : Int) (drawX : Int64) (images : Int → Int) (imageX : Int → Int) (isMade : Int → Int) : ab_W := [ab_ob 11 [ab_R 1, ab_I taped, ab_I rules, ab_R 2, ab_R 3, ab_R 4, ab_R 5, ab_R 6, ab_I next, ab_I wrong, ab_I number, ab_I text, ab_I made, ab_I deep, ab_I lines, ab_R 7, ab_I opened, ab_R 8, ab_I top, ab_R 9, ab_R 10, ab_I xx, ab_R 11, ab_I undone, ab_R 12, ab_R 13, ab_R 14, ab_R 15, ab_R 16, ab_R 17, ab_R 18, ab_I tMany, ab_I tMost, ab_J drawX, ab_R 19, ab_R 20, ab_R 21], ab_ai 1 400 tape, ab_ai 0 2400 sign, ab_ai 0 7 leng, ab_ai 0 288 clause, ab_ai 0 6 clauses, ab_ai 0 150 read, ab_ai 0 400 opn, ab_al 64 stack, ab_al 12 word, ab_ai 0 191 said, ab_ai 0 1060 was, ab_ai 0 53 kept, ab_ai 0 7 sumOf, ab_ai 0 97 faced, ab_ai 0 7 slotAt, ab_ai 0 49 dayAt, ab_ai 0 7 row, ab_ai 0 7 bestRow, ab_ai 0 764 images, ab_ai 0 4 imageX, ab_ai 2 4 isMade]
theorem mo_Wn {tape : Int → Int} {taped : Int} {rules : Int} {sign : Int → Int} {leng : Int → Int} {clause : Int → Int} {clauses : Int → Int} {read : Int → Int} {next : Int} {wrong : Int} {number : Int} {text : Int} {made : Int} {deep : Int} {lines : Int} {opn : Int → Int} {opened : Int} {stack : Int → Int64} {top : Int} {word : Int → Int64} {said : Int → Int} {xx : Int} {was : Int → Int} {undone : Int} {kept : Int → Int} {sumOf : Int → Int} {faced : Int → Int} {slotAt : Int → Int} {dayAt : Int → Int} {row : Int → Int} {bestRow : Int → Int} {tMany : Int} {tMost : Int} {drawX : Int64} {images : Int → Int} {imageX : Int → Int} {isMade : Int → Int} : (mo_W tape taped rules sign leng clause clauses read next wrong number text made deep lines opn opened stack top word said xx was undone kept sumOf faced slotAt dayAt row bestRow tMany tMost drawX images imageX isMade).length = 22 := rfl
section MO
variable {tape : Int → Int} {taped : Int} {rules : Int} {sign : Int → Int} {leng : Int → Int} {clause : Int → Int} {clauses : Int → Int} {read : Int → Int} {next : Int} {wrong : Int} {number : Int} {text : Int} {made : Int} {deep : Int} {lines : Int} {opn : Int → Int} {opened : Int} {stack : Int → Int64} {top : Int} {word : Int → Int64} {said : Int → Int} {xx : Int} {was : Int → Int} {undone : Int} {kept : Int → Int} {sumOf : Int → Int} {faced : Int → Int} {slotAt : Int → Int} {dayAt : Int → Int} {row : Int → Int} {bestRow : Int → Int} {tMany : Int} {tMost : Int} {drawX : Int64} {images : Int → Int} {imageX : Int → Int} {isMade : Int → Int}
theorem de_Mo_round_0 : decode prog_14_method_4_code 0 = .ok (.iload_n 0, 1) := by decide +kernel
theorem de_Mo_round_1 : decode prog_14_method_4_code 1 = .ok (.bipush 12, 2) := by decide +kernel
theorem de_Mo_round_3 : decode prog_14_method_4_code 3 = .ok (.irem, 1) := by decide +kernel
theorem de_Mo_round_4 : decode prog_14_method_4_code 4 = .ok (.istore_n 1, 1) := by decide +kernel
theorem de_Mo_round_5 : decode prog_14_method_4_code 5 = .ok (.iload_n 1, 1) := by decide +kernel
theorem de_Mo_round_6 : decode prog_14_method_4_code 6 = .ok (.ifCond .ge 10, 3) := by decide +kernel
theorem de_Mo_round_9 : decode prog_14_method_4_code 9 = .ok (.iload_n 1, 1) := by decide +kernel
theorem de_Mo_round_10 : decode prog_14_method_4_code 10 = .ok (.bipush 12, 2) := by decide +kernel
theorem de_Mo_round_12 : decode prog_14_method_4_code 12 = .ok (.iadd, 1) := by decide +kernel
theorem de_Mo_round_13 : decode prog_14_method_4_code 13 = .ok (.goto 4, 3) := by decide +kernel
theorem de_Mo_round_16 : decode prog_14_method_4_code 16 = .ok (.iload_n 1, 1) := by decide +kernel
theorem de_Mo_round_17 : decode prog_14_method_4_code 17 = .ok (.ireturn, 1) := by decide +kernel
set_option maxRecDepth 10000 in
theorem co_Mo_round (w : ab_W) (v : Int) (hv : ab_in v) : ab_Mt g_G g_rs mt_Mo_round 0 0 0 [ab_I v] w (ab_is (some (ab_I (v % 12))) w) := by
  refine ab_Mt.of rfl (Nat.le_of_ble_eq_true rfl) ?_
  show ab_Ev g_G g_rs mt_Mo_round _ _ _ 0 [some (ab_I v), none] [] _ _
  refine ev_iload_n de_Mo_round_0 rfl rfl ?_
  refine ev_bipush de_Mo_round_1 rfl ?_
  refine ev_irem de_Mo_round_3 (by omega) (by omega) (by omega) ?_
  have q := ab_tme v 12 (by decide)
  refine ev_istore_n (l' := [_, _]) de_Mo_round_4 rfl (Nat.le_of_ble_eq_true rfl) rfl ?_
  refine ev_iload_n de_Mo_round_5 rfl rfl ?_
  refine ev_if_ge (tgt := 16) de_Mo_round_6 (by decide) (by omega) (fun h6 => ?_) (fun h6 => ?_)
  · skip
    refine ev_iload_n de_Mo_round_16 rfl rfl ?_
    exact ev_ireturn de_Mo_round_17 rfl ⟨by congr 2; omega, rfl⟩
  · skip
    refine ev_iload_n de_Mo_round_9 rfl rfl ?_
    refine ev_bipush de_Mo_round_10 rfl ?_
    refine ev_iadd de_Mo_round_12 ?_
    refine ev_goto (tgt := 17) de_Mo_round_13 (by decide) ?_
    exact ev_ireturn de_Mo_round_17 rfl ⟨by congr 2; omega, rfl⟩
theorem de_Mo_isOf_0 : decode prog_14_method_3_code 0 = .ok (.iload_n 0, 1) := by decide +kernel
theorem de_Mo_isOf_1 : decode prog_14_method_3_code 1 = .ok (.iload_n 1, 1) := by decide +kernel
theorem de_Mo_isOf_2 : decode prog_14_method_3_code 2 = .ok (.ishr, 1) := by decide +kernel
theorem de_Mo_isOf_3 : decode prog_14_method_3_code 3 = .ok (.iconst 1, 1) := by decide +kernel
theorem de_Mo_isOf_4 : decode prog_14_method_3_code 4 = .ok (.iand, 1) := by decide +kernel
theorem de_Mo_isOf_5 : decode prog_14_method_3_code 5 = .ok (.iconst 1, 1) := by decide +kernel
theorem de_Mo_isOf_6 : decode prog_14_method_3_code 6 = .ok (.if_icmp .ne 7, 3) := by decide +kernel
theorem de_Mo_isOf_9 : decode prog_14_method_3_code 9 = .ok (.iconst 1, 1) := by decide +kernel
theorem de_Mo_isOf_10 : decode prog_14_method_3_code 10 = .ok (.goto 4, 3) := by decide +kernel
theorem de_Mo_isOf_13 : decode prog_14_method_3_code 13 = .ok (.iconst 0, 1) := by decide +kernel
theorem de_Mo_isOf_14 : decode prog_14_method_3_code 14 = .ok (.ireturn, 1) := by decide +kernel
set_option maxRecDepth 10000 in
theorem co_Mo_isOf (w : ab_W) (s k : Int) (hs : 0 ≤ s) (hs2 : s ≤ 2147483647) (hk : 0 ≤ k) (hk2 : k < 32) : ab_Mt g_G g_rs mt_Mo_isOf 0 0 0 [ab_I s, ab_I k] w (ab_is (some (ab_I (bit_at s.toNat k.toNat))) w) := by
  refine ab_Mt.of rfl (Nat.le_of_ble_eq_true rfl) ?_
  show ab_Ev g_G g_rs mt_Mo_isOf _ _ _ 0 [some (ab_I s), some (ab_I k)] [] _ _
  refine ev_iload_n de_Mo_isOf_0 rfl rfl ?_
  refine ev_iload_n de_Mo_isOf_1 rfl rfl ?_
  refine ev_ishr de_Mo_isOf_2 (by omega) (by omega) (by omega) ?_
  refine ev_iconst de_Mo_isOf_3 ?_
  refine ev_iand de_Mo_isOf_4 ?_
  refine ev_top (congrArg Sum.inl (ab_bit hs hs2)) ?_
  have q := bit_01 s.toNat k.toNat
  refine ev_iconst de_Mo_isOf_5 ?_
  refine ev_icmp_ne (tgt := 13) de_Mo_isOf_6 (by decide) (by omega) (by omega) (fun h6 => ?_) (fun h6 => ?_)
  · skip
    refine ev_iconst de_Mo_isOf_13 ?_
    exact ev_zreturn de_Mo_isOf_14 rfl (by omega) ⟨by congr 2; omega, rfl⟩
  · skip
    refine ev_iconst de_Mo_isOf_9 ?_
    refine ev_goto (tgt := 14) de_Mo_isOf_10 (by decide) ?_
    exact ev_zreturn de_Mo_isOf_14 rfl (by omega) ⟨by congr 2; omega, rfl⟩
theorem de_Mo_in_0 : decode prog_14_method_2_code 0 = .ok (.lload_n 0, 1) := by decide +kernel
theorem de_Mo_in_1 : decode prog_14_method_2_code 1 = .ok (.lload_n 2, 1) := by decide +kernel
theorem de_Mo_in_2 : decode prog_14_method_2_code 2 = .ok (.lcmp, 1) := by decide +kernel
theorem de_Mo_in_3 : decode prog_14_method_2_code 3 = .ok (.ifCond .lt 14, 3) := by decide +kernel
theorem de_Mo_in_6 : decode prog_14_method_2_code 6 = .ok (.lload_n 0, 1) := by decide +kernel
theorem de_Mo_in_7 : decode prog_14_method_2_code 7 = .ok (.lload 4, 2) := by decide +kernel
theorem de_Mo_in_9 : decode prog_14_method_2_code 9 = .ok (.lcmp, 1) := by decide +kernel
theorem de_Mo_in_10 : decode prog_14_method_2_code 10 = .ok (.ifCond .gt 7, 3) := by decide +kernel
theorem de_Mo_in_13 : decode prog_14_method_2_code 13 = .ok (.iconst 1, 1) := by decide +kernel
theorem de_Mo_in_14 : decode prog_14_method_2_code 14 = .ok (.goto 4, 3) := by decide +kernel
theorem de_Mo_in_17 : decode prog_14_method_2_code 17 = .ok (.iconst 0, 1) := by decide +kernel
theorem de_Mo_in_18 : decode prog_14_method_2_code 18 = .ok (.ireturn, 1) := by decide +kernel
set_option maxRecDepth 10000 in
theorem co_Mo_in (w : ab_W) (v a b : Int) (hv : ab_in v) (ha : ab_in a) (hb : ab_in b) : ab_Mt g_G g_rs mt_Mo_in 0 0 0 [ab_J (Int64.ofInt v), ab_J (Int64.ofInt a), ab_J (Int64.ofInt b)] w (ab_is (some (ab_I (if a ≤ v ∧ v ≤ b then 1 else 0))) w) := by
  refine ab_Mt.of rfl (Nat.le_of_ble_eq_true rfl) ?_
  show ab_Ev g_G g_rs mt_Mo_in _ _ _ 0 [some (ab_J (Int64.ofInt v)), none, some (ab_J (Int64.ofInt a)), none, some (ab_J (Int64.ofInt b)), none] [] _ _
  refine ev_lload_n de_Mo_in_0 rfl rfl ?_
  refine ev_lload_n de_Mo_in_1 rfl rfl ?_
  refine ev_lcmp de_Mo_in_2 ?_
  have q := ab_cmpI hv ha
  refine ev_if_lt (tgt := 17) de_Mo_in_3 (by decide) (by omega) (fun h3 => ?_) (fun h3 => ?_)
  · skip
    refine ev_iconst de_Mo_in_17 ?_
    exact ev_zreturn de_Mo_in_18 rfl (by omega) ⟨by first | rw [if_pos (by omega)] | rw [if_neg (by omega)], rfl⟩
  · skip
    refine ev_lload_n de_Mo_in_6 rfl rfl ?_
    refine ev_lload de_Mo_in_7 rfl ?_
    refine ev_lcmp de_Mo_in_9 ?_
    have q2 := ab_cmpI hv hb
    refine ev_if_gt (tgt := 17) de_Mo_in_10 (by decide) (by omega) (fun h10 => ?_) (fun h10 => ?_)
    · skip
      refine ev_iconst de_Mo_in_17 ?_
      exact ev_zreturn de_Mo_in_18 rfl (by omega) ⟨by first | rw [if_pos (by omega)] | rw [if_neg (by omega)], rfl⟩
    · skip
      refine ev_iconst de_Mo_in_13 ?_
      refine ev_goto (tgt := 18) de_Mo_in_14 (by decide) ?_
      exact ev_zreturn de_Mo_in_18 rfl (by omega) ⟨by first | rw [if_pos (by omega)] | rw [if_neg (by omega)], rfl⟩
theorem de_Mo_sortsAt_0 : decode prog_14_method_51_code 0 = .ok (.iconst 0, 1) := by decide +kernel
theorem de_Mo_sortsAt_1 : decode prog_14_method_51_code 1 = .ok (.istore_n 3, 1) := by decide +kernel
theorem de_Mo_sortsAt_2 : decode prog_14_method_51_code 2 = .ok (.iconst 0, 1) := by decide +kernel
theorem de_Mo_sortsAt_3 : decode prog_14_method_51_code 3 = .ok (.istore 4, 2) := by decide +kernel
theorem de_Mo_sortsAt_5 : decode prog_14_method_51_code 5 = .ok (.iload 4, 2) := by decide +kernel
theorem de_Mo_sortsAt_7 : decode prog_14_method_51_code 7 = .ok (.aload_n 0, 1) := by decide +kernel
theorem de_Mo_sortsAt_8 : decode prog_14_method_51_code 8 = .ok (.getfield 39, 3) := by decide +kernel
theorem de_Mo_sortsAt_11 : decode prog_14_method_51_code 11 = .ok (.iconst 2, 1) := by decide +kernel
theorem de_Mo_sortsAt_12 : decode prog_14_method_51_code 12 = .ok (.iaload, 1) := by decide +kernel
theorem de_Mo_sortsAt_13 : decode prog_14_method_51_code 13 = .ok (.if_icmp .ge 69, 3) := by decide +kernel
theorem de_Mo_sortsAt_16 : decode prog_14_method_51_code 16 = .ok (.bipush 95, 2) := by decide +kernel
theorem de_Mo_sortsAt_18 : decode prog_14_method_51_code 18 = .ok (.iconst 4, 1) := by decide +kernel
theorem de_Mo_sortsAt_19 : decode prog_14_method_51_code 19 = .ok (.iload 4, 2) := by decide +kernel
theorem de_Mo_sortsAt_21 : decode prog_14_method_51_code 21 = .ok (.imul, 1) := by decide +kernel
theorem de_Mo_sortsAt_22 : decode prog_14_method_51_code 22 = .ok (.iadd, 1) := by decide +kernel
theorem de_Mo_sortsAt_23 : decode prog_14_method_51_code 23 = .ok (.istore 5, 2) := by decide +kernel
theorem de_Mo_sortsAt_25 : decode prog_14_method_51_code 25 = .ok (.aload_n 0, 1) := by decide +kernel
theorem de_Mo_sortsAt_26 : decode prog_14_method_51_code 26 = .ok (.getfield 39, 3) := by decide +kernel
theorem de_Mo_sortsAt_29 : decode prog_14_method_51_code 29 = .ok (.iload 5, 2) := by decide +kernel
theorem de_Mo_sortsAt_31 : decode prog_14_method_51_code 31 = .ok (.iconst 1, 1) := by decide +kernel
theorem de_Mo_sortsAt_32 : decode prog_14_method_51_code 32 = .ok (.iadd, 1) := by decide +kernel
theorem de_Mo_sortsAt_33 : decode prog_14_method_51_code 33 = .ok (.iaload, 1) := by decide +kernel
theorem de_Mo_sortsAt_34 : decode prog_14_method_51_code 34 = .ok (.iload_n 1, 1) := by decide +kernel
theorem de_Mo_sortsAt_35 : decode prog_14_method_51_code 35 = .ok (.if_icmp .ne 41, 3) := by decide +kernel
theorem de_Mo_sortsAt_38 : decode prog_14_method_51_code 38 = .ok (.iload_n 2, 1) := by decide +kernel
theorem de_Mo_sortsAt_39 : decode prog_14_method_51_code 39 = .ok (.aload_n 0, 1) := by decide +kernel
theorem de_Mo_sortsAt_40 : decode prog_14_method_51_code 40 = .ok (.getfield 39, 3) := by decide +kernel
theorem de_Mo_sortsAt_43 : decode prog_14_method_51_code 43 = .ok (.iload 5, 2) := by decide +kernel
theorem de_Mo_sortsAt_45 : decode prog_14_method_51_code 45 = .ok (.iconst 2, 1) := by decide +kernel
theorem de_Mo_sortsAt_46 : decode prog_14_method_51_code 46 = .ok (.iadd, 1) := by decide +kernel
theorem de_Mo_sortsAt_47 : decode prog_14_method_51_code 47 = .ok (.iaload, 1) := by decide +kernel
theorem de_Mo_sortsAt_48 : decode prog_14_method_51_code 48 = .ok (.if_icmp .lt 28, 3) := by decide +kernel
theorem de_Mo_sortsAt_51 : decode prog_14_method_51_code 51 = .ok (.iload_n 2, 1) := by decide +kernel
theorem de_Mo_sortsAt_52 : decode prog_14_method_51_code 52 = .ok (.aload_n 0, 1) := by decide +kernel
theorem de_Mo_sortsAt_53 : decode prog_14_method_51_code 53 = .ok (.getfield 39, 3) := by decide +kernel
theorem de_Mo_sortsAt_56 : decode prog_14_method_51_code 56 = .ok (.iload 5, 2) := by decide +kernel
theorem de_Mo_sortsAt_58 : decode prog_14_method_51_code 58 = .ok (.iconst 3, 1) := by decide +kernel
theorem de_Mo_sortsAt_59 : decode prog_14_method_51_code 59 = .ok (.iadd, 1) := by decide +kernel
theorem de_Mo_sortsAt_60 : decode prog_14_method_51_code 60 = .ok (.iaload, 1) := by decide +kernel
theorem de_Mo_sortsAt_61 : decode prog_14_method_51_code 61 = .ok (.if_icmp .gt 15, 3) := by decide +kernel
theorem de_Mo_sortsAt_64 : decode prog_14_method_51_code 64 = .ok (.iload_n 3, 1) := by decide +kernel
theorem de_Mo_sortsAt_65 : decode prog_14_method_51_code 65 = .ok (.iconst 1, 1) := by decide +kernel
theorem de_Mo_sortsAt_66 : decode prog_14_method_51_code 66 = .ok (.aload_n 0, 1) := by decide +kernel
theorem de_Mo_sortsAt_67 : decode prog_14_method_51_code 67 = .ok (.getfield 39, 3) := by decide +kernel
theorem de_Mo_sortsAt_70 : decode prog_14_method_51_code 70 = .ok (.iload 5, 2) := by decide +kernel
theorem de_Mo_sortsAt_72 : decode prog_14_method_51_code 72 = .ok (.iaload, 1) := by decide +kernel
theorem de_Mo_sortsAt_73 : decode prog_14_method_51_code 73 = .ok (.ishl, 1) := by decide +kernel
theorem de_Mo_sortsAt_74 : decode prog_14_method_51_code 74 = .ok (.ior, 1) := by decide +kernel
theorem de_Mo_sortsAt_75 : decode prog_14_method_51_code 75 = .ok (.istore_n 3, 1) := by decide +kernel
theorem de_Mo_sortsAt_76 : decode prog_14_method_51_code 76 = .ok (.iinc 4 1, 3) := by decide +kernel
theorem de_Mo_sortsAt_79 : decode prog_14_method_51_code 79 = .ok (.goto (-74), 3) := by decide +kernel
theorem de_Mo_sortsAt_82 : decode prog_14_method_51_code 82 = .ok (.iload_n 3, 1) := by decide +kernel
theorem de_Mo_sortsAt_83 : decode prog_14_method_51_code 83 = .ok (.ireturn, 1) := by decide +kernel
set_option maxRecDepth 10000 in
theorem lo_Mo_sortsAt {B : Int} (hI : sg_ok B said) (dd hh : Int) (hdd : ab_in dd) (hhh : ab_in hh) : ∀ (n : Nat) (k : Nat) (s5 : Option ab_V), k ≤ (said 2).toNat → (said 2).toNat < k + n → ab_Ev g_G g_rs mt_Mo_sortsAt 0 0 0 5 [some (ab_R 0), some (ab_I dd), some (ab_I hh), some (ab_I (sp_sorts said dd hh k : Nat)), some (ab_I (k : Int)), s5] [] (mo_W tape taped rules sign leng clause clauses read next wrong number text made deep lines opn opened stack top word said xx was undone kept sumOf faced slotAt dayAt row bestRow tMany tMost drawX images imageX isMade) (ab_is (some (ab_I (sp_sortsAt said dd hh : Nat))) (mo_W tape taped rules sign leng clause clauses read next wrong number text made deep lines opn opened stack top word said xx was undone kept sumOf faced slotAt dayAt row bestRow tMany tMost drawX images imageX isMade)) := by
  intro n
  induction n with
  | zero =>
    intro k s5
    intro h1 h2; omega
  | succ n ih =>
    intro k s5
    intro h1 h2
    have hI2 := hI
    obtain ⟨i0, i1, i2, i3, i4, i5, i6, i7, hzz⟩ := sg_all hI
    obtain ⟨i8, i9, i10, i11, i12, i13, i14, i15, hzz⟩ := hzz
    obtain ⟨i16, i17⟩ := hzz
    have hlt := sp_sorts_lt hI2 dd hh k (by omega)
    refine ev_iload de_Mo_sortsAt_5 rfl ?_
    refine ev_aload_n de_Mo_sortsAt_7 rfl rfl ?_
    refine ev_getfield de_Mo_sortsAt_8 rfl fl_Mo_39 rfl ?_
    refine ev_iconst de_Mo_sortsAt_11 ?_
    refine ev_iaload de_Mo_sortsAt_12 rfl (by omega) (by omega) (by omega) ?_
    refine ev_icmp_ge (tgt := 82) de_Mo_sortsAt_13 (by decide) (by omega) (by omega) (fun h13 => ?_) (fun h13 => ?_)
    · skip
      have e : k = (said 2).toNat := by omega
      subst e
      refine ev_iload_n de_Mo_sortsAt_82 rfl rfl ?_
      exact ev_ireturn de_Mo_sortsAt_83 rfl ⟨rfl, rfl⟩
    · skip
      have q := i14 (k : Int) (by omega) (by omega)
      refine ev_bipush de_Mo_sortsAt_16 rfl ?_
      refine ev_iconst de_Mo_sortsAt_18 ?_
      refine ev_iload de_Mo_sortsAt_19 rfl ?_
      refine ev_imul de_Mo_sortsAt_21 ?_
      refine ev_iadd de_Mo_sortsAt_22 ?_
      refine ev_istore (l' := [_, _, _, _, _, _]) de_Mo_sortsAt_23 (Nat.le_of_ble_eq_true rfl) rfl ?_
      refine ev_aload_n de_Mo_sortsAt_25 rfl rfl ?_
      refine ev_getfield de_Mo_sortsAt_26 rfl fl_Mo_39 rfl ?_
      refine ev_iload de_Mo_sortsAt_29 rfl ?_
      refine ev_iconst de_Mo_sortsAt_31 ?_
      refine ev_iadd de_Mo_sortsAt_32 ?_
      refine ev_iaload de_Mo_sortsAt_33 rfl (by omega) (by omega) (by omega) ?_
      refine ev_iload_n de_Mo_sortsAt_34 rfl rfl ?_
      refine ev_icmp_ne (tgt := 76) de_Mo_sortsAt_35 (by decide) (by omega) (by omega) (fun h35 => ?_) (fun h35 => ?_)
      · skip
        refine ev_iinc (l' := [_, _, _, _, _, _]) de_Mo_sortsAt_76 rfl rfl ?_
        refine ev_goto (tgt := 5) de_Mo_sortsAt_79 (by decide) ?_
        have e : sp_sorts said dd hh (k + 1) = sp_sorts said dd hh k := by simp only [sp_sorts]; rw [if_neg (by omega)]
        have z := fun s5 => ih (k + 1) s5 (by omega) (by omega)
        rw [e] at z
        exact z _
      · skip
        refine ev_iload_n de_Mo_sortsAt_38 rfl rfl ?_
        refine ev_aload_n de_Mo_sortsAt_39 rfl rfl ?_
        refine ev_getfield de_Mo_sortsAt_40 rfl fl_Mo_39 rfl ?_
        refine ev_iload de_Mo_sortsAt_43 rfl ?_
        refine ev_iconst de_Mo_sortsAt_45 ?_
        refine ev_iadd de_Mo_sortsAt_46 ?_
        refine ev_iaload de_Mo_sortsAt_47 rfl (by omega) (by omega) (by omega) ?_
        refine ev_icmp_lt (tgt := 76) de_Mo_sortsAt_48 (by decide) (by omega) (by omega) (fun h48 => ?_) (fun h48 => ?_)
        · skip
          refine ev_iinc (l' := [_, _, _, _, _, _]) de_Mo_sortsAt_76 rfl rfl ?_
          refine ev_goto (tgt := 5) de_Mo_sortsAt_79 (by decide) ?_
          have e : sp_sorts said dd hh (k + 1) = sp_sorts said dd hh k := by simp only [sp_sorts]; rw [if_neg (by omega)]
          have z := fun s5 => ih (k + 1) s5 (by omega) (by omega)
          rw [e] at z
          exact z _
        · skip
          refine ev_iload_n de_Mo_sortsAt_51 rfl rfl ?_
          refine ev_aload_n de_Mo_sortsAt_52 rfl rfl ?_
          refine ev_getfield de_Mo_sortsAt_53 rfl fl_Mo_39 rfl ?_
          refine ev_iload de_Mo_sortsAt_56 rfl ?_
          refine ev_iconst de_Mo_sortsAt_58 ?_
          refine ev_iadd de_Mo_sortsAt_59 ?_
          refine ev_iaload de_Mo_sortsAt_60 rfl (by omega) (by omega) (by omega) ?_
          refine ev_icmp_gt (tgt := 76) de_Mo_sortsAt_61 (by decide) (by omega) (by omega) (fun h61 => ?_) (fun h61 => ?_)
          · skip
            refine ev_iinc (l' := [_, _, _, _, _, _]) de_Mo_sortsAt_76 rfl rfl ?_
            refine ev_goto (tgt := 5) de_Mo_sortsAt_79 (by decide) ?_
            have e : sp_sorts said dd hh (k + 1) = sp_sorts said dd hh k := by simp only [sp_sorts]; rw [if_neg (by omega)]
            have z := fun s5 => ih (k + 1) s5 (by omega) (by omega)
            rw [e] at z
            exact z _
          · skip
            refine ev_iload_n de_Mo_sortsAt_64 rfl rfl ?_
            refine ev_iconst de_Mo_sortsAt_65 ?_
            refine ev_aload_n de_Mo_sortsAt_66 rfl rfl ?_
            refine ev_getfield de_Mo_sortsAt_67 rfl fl_Mo_39 rfl ?_
            refine ev_iload de_Mo_sortsAt_70 rfl ?_
            refine ev_iaload de_Mo_sortsAt_72 rfl (by omega) (by omega) (by omega) ?_
            refine ev_ishl de_Mo_sortsAt_73 (by omega) (by omega) ?_
            refine ev_ior de_Mo_sortsAt_74 ?_
            have e : ab_ior (sp_sorts said dd hh k : Nat) (1 * 2 ^ (said (95 + 4 * (k : Int))).toNat) = ((sp_sorts said dd hh (k + 1) : Nat) : Int) := by
              rw [ab_ior_pow (by omega) (by omega)]
              simp only [sp_sorts]
              rw [if_pos (by omega)]
            refine ev_top (congrArg Sum.inl e) ?_
            refine ev_istore_n (l' := [_, _, _, _, _, _]) de_Mo_sortsAt_75 rfl (Nat.le_of_ble_eq_true rfl) rfl ?_
            refine ev_iinc (l' := [_, _, _, _, _, _]) de_Mo_sortsAt_76 rfl rfl ?_
            refine ev_goto (tgt := 5) de_Mo_sortsAt_79 (by decide) ?_
            exact ih (k + 1) _ (by omega) (by omega)
set_option maxRecDepth 10000 in
theorem co_Mo_sortsAt {B : Int} (hI : sg_ok B said) (dd hh : Int) (hdd : ab_in dd) (hhh : ab_in hh) : ab_Mt g_G g_rs mt_Mo_sortsAt 0 0 0 [ab_R 0, ab_I dd, ab_I hh] (mo_W tape taped rules sign leng clause clauses read next wrong number text made deep lines opn opened stack top word said xx was undone kept sumOf faced slotAt dayAt row bestRow tMany tMost drawX images imageX isMade) (ab_is (some (ab_I ((sp_sortsAt said dd hh : Nat)))) (mo_W tape taped rules sign leng clause clauses read next wrong number text made deep lines opn opened stack top word said xx was undone kept sumOf faced slotAt dayAt row bestRow tMany tMost drawX images imageX isMade)) := by
  refine ab_Mt.of rfl (Nat.le_of_ble_eq_true rfl) ?_
  show ab_Ev g_G g_rs mt_Mo_sortsAt _ _ _ 0 [some (ab_R 0), some (ab_I dd), some (ab_I hh), none, none, none] [] _ _
  refine ev_iconst de_Mo_sortsAt_0 ?_
  refine ev_istore_n (l' := [_, _, _, _, _, _]) de_Mo_sortsAt_1 rfl (Nat.le_of_ble_eq_true rfl) rfl ?_
  refine ev_iconst de_Mo_sortsAt_2 ?_
  refine ev_istore (l' := [_, _, _, _, _, _]) de_Mo_sortsAt_3 (Nat.le_of_ble_eq_true rfl) rfl ?_
  have hJ := hI; obtain ⟨i0, i1, i2, i3, i4, i5, i6, i7, i8, i9, i10, i11, i12, i13, i14, i15, i16, i17⟩ := sg_all hJ
  exact lo_Mo_sortsAt hI dd hh hdd hhh ((said 2).toNat + 1) 0 none (by omega) (by omega)
theorem de_Mo_likesAt_0 : decode prog_14_method_52_code 0 = .ok (.aload_n 0, 1) := by decide +kernel
theorem de_Mo_likesAt_1 : decode prog_14_method_52_code 1 = .ok (.iload_n 2, 1) := by decide +kernel
theorem de_Mo_likesAt_2 : decode prog_14_method_52_code 2 = .ok (.iload_n 3, 1) := by decide +kernel
theorem de_Mo_likesAt_3 : decode prog_14_method_52_code 3 = .ok (.invokevirtual 290, 3) := by decide +kernel
theorem de_Mo_likesAt_6 : decode prog_14_method_52_code 6 = .ok (.istore 4, 2) := by decide +kernel
theorem de_Mo_likesAt_8 : decode prog_14_method_52_code 8 = .ok (.iconst 0, 1) := by decide +kernel
theorem de_Mo_likesAt_9 : decode prog_14_method_52_code 9 = .ok (.istore 5, 2) := by decide +kernel
theorem de_Mo_likesAt_11 : decode prog_14_method_52_code 11 = .ok (.iconst 0, 1) := by decide +kernel
theorem de_Mo_likesAt_12 : decode prog_14_method_52_code 12 = .ok (.istore 6, 2) := by decide +kernel
theorem de_Mo_likesAt_14 : decode prog_14_method_52_code 14 = .ok (.iload 6, 2) := by decide +kernel
theorem de_Mo_likesAt_16 : decode prog_14_method_52_code 16 = .ok (.iconst 5, 1) := by decide +kernel
theorem de_Mo_likesAt_17 : decode prog_14_method_52_code 17 = .ok (.if_icmp .ge 42, 3) := by decide +kernel
theorem de_Mo_likesAt_20 : decode prog_14_method_52_code 20 = .ok (.iload 5, 2) := by decide +kernel
theorem de_Mo_likesAt_22 : decode prog_14_method_52_code 22 = .ok (.iload 4, 2) := by decide +kernel
theorem de_Mo_likesAt_24 : decode prog_14_method_52_code 24 = .ok (.iload 6, 2) := by decide +kernel
theorem de_Mo_likesAt_26 : decode prog_14_method_52_code 26 = .ok (.invokestatic 294, 3) := by decide +kernel
theorem de_Mo_likesAt_29 : decode prog_14_method_52_code 29 = .ok (.ifCond .eq 20, 3) := by decide +kernel
theorem de_Mo_likesAt_32 : decode prog_14_method_52_code 32 = .ok (.aload_n 0, 1) := by decide +kernel
theorem de_Mo_likesAt_33 : decode prog_14_method_52_code 33 = .ok (.getfield 39, 3) := by decide +kernel
theorem de_Mo_likesAt_36 : decode prog_14_method_52_code 36 = .ok (.bipush 60, 2) := by decide +kernel
theorem de_Mo_likesAt_38 : decode prog_14_method_52_code 38 = .ok (.iconst 5, 1) := by decide +kernel
theorem de_Mo_likesAt_39 : decode prog_14_method_52_code 39 = .ok (.iload_n 1, 1) := by decide +kernel
theorem de_Mo_likesAt_40 : decode prog_14_method_52_code 40 = .ok (.imul, 1) := by decide +kernel
theorem de_Mo_likesAt_41 : decode prog_14_method_52_code 41 = .ok (.iadd, 1) := by decide +kernel
theorem de_Mo_likesAt_42 : decode prog_14_method_52_code 42 = .ok (.iload 6, 2) := by decide +kernel
theorem de_Mo_likesAt_44 : decode prog_14_method_52_code 44 = .ok (.iadd, 1) := by decide +kernel
theorem de_Mo_likesAt_45 : decode prog_14_method_52_code 45 = .ok (.iaload, 1) := by decide +kernel
theorem de_Mo_likesAt_46 : decode prog_14_method_52_code 46 = .ok (.goto 4, 3) := by decide +kernel
theorem de_Mo_likesAt_49 : decode prog_14_method_52_code 49 = .ok (.iconst 0, 1) := by decide +kernel
theorem de_Mo_likesAt_50 : decode prog_14_method_52_code 50 = .ok (.iadd, 1) := by decide +kernel
theorem de_Mo_likesAt_51 : decode prog_14_method_52_code 51 = .ok (.istore 5, 2) := by decide +kernel
theorem de_Mo_likesAt_53 : decode prog_14_method_52_code 53 = .ok (.iinc 6 1, 3) := by decide +kernel
theorem de_Mo_likesAt_56 : decode prog_14_method_52_code 56 = .ok (.goto (-42), 3) := by decide +kernel
theorem de_Mo_likesAt_59 : decode prog_14_method_52_code 59 = .ok (.iload 5, 2) := by decide +kernel
theorem de_Mo_likesAt_61 : decode prog_14_method_52_code 61 = .ok (.ireturn, 1) := by decide +kernel
set_option maxRecDepth 10000 in
theorem lo_Mo_likesAt {B : Int} (hI : sg_ok B said) (h0 dd hr : Int) (hh0 : 0 ≤ h0) (hh1 : h0 < 7) (hdd : ab_in dd) (hhr : ab_in hr) : ∀ (n : Nat) (k : Nat), k ≤ 5 → 5 < k + n → ab_Ev g_G g_rs mt_Mo_likesAt 1 0 0 14 [some (ab_R 0), some (ab_I h0), some (ab_I dd), some (ab_I hr), some (ab_I (sp_sortsAt said dd hr : Nat)), some (ab_I (sp_like said h0 (sp_sortsAt said dd hr) k)), some (ab_I (k : Int))] [] (mo_W tape taped rules sign leng clause clauses read next wrong number text made deep lines opn opened stack top word said xx was undone kept sumOf faced slotAt dayAt row bestRow tMany tMost drawX images imageX isMade) (ab_is (some (ab_I (sp_likesAt said h0 dd hr))) (mo_W tape taped rules sign leng clause clauses read next wrong number text made deep lines opn opened stack top word said xx was undone kept sumOf faced slotAt dayAt row bestRow tMany tMost drawX images imageX isMade)) := by
  intro n
  induction n with
  | zero =>
    intro k
    intro h1 h2; omega
  | succ n ih =>
    intro k
    intro h1 h2
    have hJ := hI; obtain ⟨i0, i1, i2, i3, i4, i5, i6, i7, i8, i9, i10, i11, i12, i13, i14, i15, i16, i17⟩ := sg_all hJ
    have hs := sp_sortsAt_lt hI dd hr
    have hb := sp_like_b hI hh0 hh1 (sp_sortsAt said dd hr) k h1
    refine ev_iload de_Mo_likesAt_14 rfl ?_
    refine ev_iconst de_Mo_likesAt_16 ?_
    refine ev_icmp_ge (tgt := 59) de_Mo_likesAt_17 (by decide) (by omega) (by omega) (fun h17 => ?_) (fun h17 => ?_)
    · skip
      have e : k = 5 := by omega
      subst e
      refine ev_iload de_Mo_likesAt_59 rfl ?_
      exact ev_ireturn de_Mo_likesAt_61 rfl ⟨rfl, rfl⟩
    · skip
      refine ev_iload de_Mo_likesAt_20 rfl ?_
      refine ev_iload de_Mo_likesAt_22 rfl ?_
      refine ev_iload de_Mo_likesAt_24 rfl ?_
      refine ev_sv de_Mo_likesAt_26 (co_Mo_isOf _ _ _ (by omega) (by omega) (by omega) (by omega)) kb_Mo_294 sc_Mo_isOf rfl (Nat.le_of_ble_eq_true rfl) (by decide) rfl ?_
      have q := bit_01 (sp_sortsAt said dd hr) k
      refine ev_if_eq (tgt := 49) de_Mo_likesAt_29 (by decide) (by rcases q with q | q <;> (show ab_in (bit_at (sp_sortsAt said dd hr) k); rw [q]; decide)) (fun h29 => ?_) (fun h29 => ?_)
      · skip
        have tb : (sp_sortsAt said dd hr).testBit k = false := bit_z.mp h29
        refine ev_iconst de_Mo_likesAt_49 ?_
        refine ev_iadd de_Mo_likesAt_50 ?_
        refine ev_top (congrArg Sum.inl (show _ = sp_like said h0 (sp_sortsAt said dd hr) (k + 1) from by simp [sp_like, tb])) ?_
        refine ev_istore (l' := [_, _, _, _, _, _, _]) de_Mo_likesAt_51 (Nat.le_of_ble_eq_true rfl) rfl ?_
        refine ev_iinc (l' := [_, _, _, _, _, _, _]) de_Mo_likesAt_53 rfl rfl ?_
        refine ev_goto (tgt := 14) de_Mo_likesAt_56 (by decide) ?_
        exact ih (k + 1) (by omega) (by omega)
      · skip
        have tb : (sp_sortsAt said dd hr).testBit k = true := bit_nz.mp h29
        refine ev_aload_n de_Mo_likesAt_32 rfl rfl ?_
        refine ev_getfield de_Mo_likesAt_33 rfl fl_Mo_39 rfl ?_
        refine ev_bipush de_Mo_likesAt_36 rfl ?_
        refine ev_iconst de_Mo_likesAt_38 ?_
        refine ev_iload_n de_Mo_likesAt_39 rfl rfl ?_
        refine ev_imul de_Mo_likesAt_40 ?_
        refine ev_iadd de_Mo_likesAt_41 ?_
        refine ev_iload de_Mo_likesAt_42 rfl ?_
        refine ev_iadd de_Mo_likesAt_44 ?_
        have q3 := i13 (60 + 5 * h0 + (k : Int)) (by omega) (by omega)
        refine ev_iaload de_Mo_likesAt_45 rfl (by omega) (by omega) (by omega) ?_
        refine ev_goto (tgt := 50) de_Mo_likesAt_46 (by decide) ?_
        refine ev_iadd de_Mo_likesAt_50 ?_
        refine ev_top (congrArg Sum.inl (show _ = sp_like said h0 (sp_sortsAt said dd hr) (k + 1) from by simp [sp_like, tb])) ?_
        refine ev_istore (l' := [_, _, _, _, _, _, _]) de_Mo_likesAt_51 (Nat.le_of_ble_eq_true rfl) rfl ?_
        refine ev_iinc (l' := [_, _, _, _, _, _, _]) de_Mo_likesAt_53 rfl rfl ?_
        refine ev_goto (tgt := 14) de_Mo_likesAt_56 (by decide) ?_
        exact ih (k + 1) (by omega) (by omega)
set_option maxRecDepth 10000 in
theorem co_Mo_likesAt {B : Int} (hI : sg_ok B said) (h0 dd hr : Int) (hh0 : 0 ≤ h0) (hh1 : h0 < 7) (hdd : ab_in dd) (hhr : ab_in hr) : ab_Mt g_G g_rs mt_Mo_likesAt 1 0 0 [ab_R 0, ab_I h0, ab_I dd, ab_I hr] (mo_W tape taped rules sign leng clause clauses read next wrong number text made deep lines opn opened stack top word said xx was undone kept sumOf faced slotAt dayAt row bestRow tMany tMost drawX images imageX isMade) (ab_is (some (ab_I (sp_likesAt said h0 dd hr))) (mo_W tape taped rules sign leng clause clauses read next wrong number text made deep lines opn opened stack top word said xx was undone kept sumOf faced slotAt dayAt row bestRow tMany tMost drawX images imageX isMade)) := by
  refine ab_Mt.of rfl (Nat.le_of_ble_eq_true rfl) ?_
  show ab_Ev g_G g_rs mt_Mo_likesAt _ _ _ 0 [some (ab_R 0), some (ab_I h0), some (ab_I dd), some (ab_I hr), none, none, none] [] _ _
  refine ev_aload_n de_Mo_likesAt_0 rfl rfl ?_
  refine ev_iload_n de_Mo_likesAt_1 rfl rfl ?_
  refine ev_iload_n de_Mo_likesAt_2 rfl rfl ?_
  refine ev_vv (ci := 11) de_Mo_likesAt_3 (co_Mo_sortsAt hI dd hr hdd hhr) kb_Mo_290 ⟨im_Mo_sortsAt, se_Mo_sortsAt⟩ rfl rfl rfl (Nat.le_of_ble_eq_true rfl) (by decide) rfl ?_
  refine ev_istore (l' := [_, _, _, _, _, _, _]) de_Mo_likesAt_6 (Nat.le_of_ble_eq_true rfl) rfl ?_
  refine ev_iconst de_Mo_likesAt_8 ?_
  refine ev_istore (l' := [_, _, _, _, _, _, _]) de_Mo_likesAt_9 (Nat.le_of_ble_eq_true rfl) rfl ?_
  refine ev_iconst de_Mo_likesAt_11 ?_
  refine ev_istore (l' := [_, _, _, _, _, _, _]) de_Mo_likesAt_12 (Nat.le_of_ble_eq_true rfl) rfl ?_
  exact lo_Mo_likesAt hI h0 dd hr hh0 hh1 hdd hhr 6 0 (by omega) (by omega)
theorem de_Mo_facesOf_0 : decode prog_14_method_53_code 0 = .ok (.aload_n 0, 1) := by decide +kernel
theorem de_Mo_facesOf_1 : decode prog_14_method_53_code 1 = .ok (.getfield 39, 3) := by decide +kernel
theorem de_Mo_facesOf_4 : decode prog_14_method_53_code 4 = .ok (.bipush 46, 2) := by decide +kernel
theorem de_Mo_facesOf_6 : decode prog_14_method_53_code 6 = .ok (.iload_n 1, 1) := by decide +kernel
theorem de_Mo_facesOf_7 : decode prog_14_method_53_code 7 = .ok (.iadd, 1) := by decide +kernel
theorem de_Mo_facesOf_8 : decode prog_14_method_53_code 8 = .ok (.iaload, 1) := by decide +kernel
theorem de_Mo_facesOf_9 : decode prog_14_method_53_code 9 = .ok (.aload_n 0, 1) := by decide +kernel
theorem de_Mo_facesOf_10 : decode prog_14_method_53_code 10 = .ok (.getfield 39, 3) := by decide +kernel
theorem de_Mo_facesOf_13 : decode prog_14_method_53_code 13 = .ok (.iconst 4, 1) := by decide +kernel
theorem de_Mo_facesOf_14 : decode prog_14_method_53_code 14 = .ok (.iaload, 1) := by decide +kernel
theorem de_Mo_facesOf_15 : decode prog_14_method_53_code 15 = .ok (.iadd, 1) := by decide +kernel
theorem de_Mo_facesOf_16 : decode prog_14_method_53_code 16 = .ok (.invokestatic 297, 3) := by decide +kernel
theorem de_Mo_facesOf_19 : decode prog_14_method_53_code 19 = .ok (.ireturn, 1) := by decide +kernel
set_option maxRecDepth 10000 in
theorem co_Mo_facesOf {B : Int} (hI : sg_ok B said) (h0 : Int) (hh0 : 0 ≤ h0) (hh1 : h0 < 7) : ab_Mt g_G g_rs mt_Mo_facesOf 1 0 0 [ab_R 0, ab_I h0] (mo_W tape taped rules sign leng clause clauses read next wrong number text made deep lines opn opened stack top word said xx was undone kept sumOf faced slotAt dayAt row bestRow tMany tMost drawX images imageX isMade) (ab_is (some (ab_I (sp_facesOf said h0))) (mo_W tape taped rules sign leng clause clauses read next wrong number text made deep lines opn opened stack top word said xx was undone kept sumOf faced slotAt dayAt row bestRow tMany tMost drawX images imageX isMade)) := by
  refine ab_Mt.of rfl (Nat.le_of_ble_eq_true rfl) ?_
  show ab_Ev g_G g_rs mt_Mo_facesOf _ _ _ 0 [some (ab_R 0), some (ab_I h0)] [] _ _
  have hJ := hI; obtain ⟨i0, i1, i2, i3, i4, i5, i6, i7, i8, i9, i10, i11, i12, i13, i14, i15, i16, i17⟩ := sg_all hJ
  have q := i11 (46 + h0) (by omega) (by omega)
  refine ev_aload_n de_Mo_facesOf_0 rfl rfl ?_
  refine ev_getfield de_Mo_facesOf_1 rfl fl_Mo_39 rfl ?_
  refine ev_bipush de_Mo_facesOf_4 rfl ?_
  refine ev_iload_n de_Mo_facesOf_6 rfl rfl ?_
  refine ev_iadd de_Mo_facesOf_7 ?_
  refine ev_iaload de_Mo_facesOf_8 rfl (by omega) (by omega) (by omega) ?_
  refine ev_aload_n de_Mo_facesOf_9 rfl rfl ?_
  refine ev_getfield de_Mo_facesOf_10 rfl fl_Mo_39 rfl ?_
  refine ev_iconst de_Mo_facesOf_13 ?_
  refine ev_iaload de_Mo_facesOf_14 rfl (by omega) (by omega) (by omega) ?_
  refine ev_iadd de_Mo_facesOf_15 ?_
  refine ev_sv de_Mo_facesOf_16 (co_Mo_round _ _ (by omega)) kb_Mo_297 sc_Mo_round rfl (Nat.le_of_ble_eq_true rfl) (by decide) rfl ?_
  exact ev_ireturn de_Mo_facesOf_19 rfl ⟨rfl, rfl⟩
theorem de_Mo_likesOf_0 : decode prog_14_method_54_code 0 = .ok (.aload_n 0, 1) := by decide +kernel
theorem de_Mo_likesOf_1 : decode prog_14_method_54_code 1 = .ok (.iload_n 1, 1) := by decide +kernel
theorem de_Mo_likesOf_2 : decode prog_14_method_54_code 2 = .ok (.aload_n 0, 1) := by decide +kernel
theorem de_Mo_likesOf_3 : decode prog_14_method_54_code 3 = .ok (.iload_n 1, 1) := by decide +kernel
theorem de_Mo_likesOf_4 : decode prog_14_method_54_code 4 = .ok (.invokevirtual 300, 3) := by decide +kernel
theorem de_Mo_likesOf_7 : decode prog_14_method_54_code 7 = .ok (.aload_n 0, 1) := by decide +kernel
theorem de_Mo_likesOf_8 : decode prog_14_method_54_code 8 = .ok (.getfield 39, 3) := by decide +kernel
theorem de_Mo_likesOf_11 : decode prog_14_method_54_code 11 = .ok (.iconst 5, 1) := by decide +kernel
theorem de_Mo_likesOf_12 : decode prog_14_method_54_code 12 = .ok (.iaload, 1) := by decide +kernel
theorem de_Mo_likesOf_13 : decode prog_14_method_54_code 13 = .ok (.invokevirtual 303, 3) := by decide +kernel
theorem de_Mo_likesOf_16 : decode prog_14_method_54_code 16 = .ok (.ireturn, 1) := by decide +kernel
set_option maxRecDepth 10000 in
theorem co_Mo_likesOf {B : Int} (hI : sg_ok B said) (h0 : Int) (hh0 : 0 ≤ h0) (hh1 : h0 < 7) : ab_Mt g_G g_rs mt_Mo_likesOf 2 0 0 [ab_R 0, ab_I h0] (mo_W tape taped rules sign leng clause clauses read next wrong number text made deep lines opn opened stack top word said xx was undone kept sumOf faced slotAt dayAt row bestRow tMany tMost drawX images imageX isMade) (ab_is (some (ab_I (sp_likesOf said h0))) (mo_W tape taped rules sign leng clause clauses read next wrong number text made deep lines opn opened stack top word said xx was undone kept sumOf faced slotAt dayAt row bestRow tMany tMost drawX images imageX isMade)) := by
  refine ab_Mt.of rfl (Nat.le_of_ble_eq_true rfl) ?_
  show ab_Ev g_G g_rs mt_Mo_likesOf _ _ _ 0 [some (ab_R 0), some (ab_I h0)] [] _ _
  have hJ := hI; obtain ⟨i0, i1, i2, i3, i4, i5, i6, i7, i8, i9, i10, i11, i12, i13, i14, i15, i16, i17⟩ := sg_all hJ
  have q := sp_facesOf_b said h0
  refine ev_aload_n de_Mo_likesOf_0 rfl rfl ?_
  refine ev_iload_n de_Mo_likesOf_1 rfl rfl ?_
  refine ev_aload_n de_Mo_likesOf_2 rfl rfl ?_
  refine ev_iload_n de_Mo_likesOf_3 rfl rfl ?_
  refine ev_vv (ci := 11) de_Mo_likesOf_4 (co_Mo_facesOf hI h0 hh0 hh1) kb_Mo_300 ⟨im_Mo_facesOf, se_Mo_facesOf⟩ rfl rfl rfl (Nat.le_of_ble_eq_true rfl) (by decide) rfl ?_
  refine ev_aload_n de_Mo_likesOf_7 rfl rfl ?_
  refine ev_getfield de_Mo_likesOf_8 rfl fl_Mo_39 rfl ?_
  refine ev_iconst de_Mo_likesOf_11 ?_
  refine ev_iaload de_Mo_likesOf_12 rfl (by omega) (by omega) (by omega) ?_
  refine ev_vv (ci := 11) de_Mo_likesOf_13 (co_Mo_likesAt hI h0 _ _ hh0 hh1 (by omega) (by omega)) kb_Mo_303 ⟨im_Mo_likesAt, se_Mo_likesAt⟩ rfl rfl rfl (Nat.le_of_ble_eq_true rfl) (by decide) rfl ?_
  exact ev_ireturn de_Mo_likesOf_16 rfl ⟨rfl, rfl⟩
theorem de_Mo_rateNow_0 : decode prog_14_method_55_code 0 = .ok (.aload_n 0, 1) := by decide +kernel
theorem de_Mo_rateNow_1 : decode prog_14_method_55_code 1 = .ok (.getfield 39, 3) := by decide +kernel
theorem de_Mo_rateNow_4 : decode prog_14_method_55_code 4 = .ok (.bipush 10, 2) := by decide +kernel
theorem de_Mo_rateNow_6 : decode prog_14_method_55_code 6 = .ok (.aload_n 0, 1) := by decide +kernel
theorem de_Mo_rateNow_7 : decode prog_14_method_55_code 7 = .ok (.getfield 39, 3) := by decide +kernel
theorem de_Mo_rateNow_10 : decode prog_14_method_55_code 10 = .ok (.iconst 5, 1) := by decide +kernel
theorem de_Mo_rateNow_11 : decode prog_14_method_55_code 11 = .ok (.iaload, 1) := by decide +kernel
theorem de_Mo_rateNow_12 : decode prog_14_method_55_code 12 = .ok (.iadd, 1) := by decide +kernel
theorem de_Mo_rateNow_13 : decode prog_14_method_55_code 13 = .ok (.iaload, 1) := by decide +kernel
theorem de_Mo_rateNow_14 : decode prog_14_method_55_code 14 = .ok (.ireturn, 1) := by decide +kernel
set_option maxRecDepth 10000 in
theorem co_Mo_rateNow {B : Int} (hI : sg_ok B said) : ab_Mt g_G g_rs mt_Mo_rateNow 0 0 0 [ab_R 0] (mo_W tape taped rules sign leng clause clauses read next wrong number text made deep lines opn opened stack top word said xx was undone kept sumOf faced slotAt dayAt row bestRow tMany tMost drawX images imageX isMade) (ab_is (some (ab_I (sp_rateNow said))) (mo_W tape taped rules sign leng clause clauses read next wrong number text made deep lines opn opened stack top word said xx was undone kept sumOf faced slotAt dayAt row bestRow tMany tMost drawX images imageX isMade)) := by
  refine ab_Mt.of rfl (Nat.le_of_ble_eq_true rfl) ?_
  show ab_Ev g_G g_rs mt_Mo_rateNow _ _ _ 0 [some (ab_R 0)] [] _ _
  have hJ := hI; obtain ⟨i0, i1, i2, i3, i4, i5, i6, i7, i8, i9, i10, i11, i12, i13, i14, i15, i16, i17⟩ := sg_all hJ
  refine ev_aload_n de_Mo_rateNow_0 rfl rfl ?_
  refine ev_getfield de_Mo_rateNow_1 rfl fl_Mo_39 rfl ?_
  refine ev_bipush de_Mo_rateNow_4 rfl ?_
  refine ev_aload_n de_Mo_rateNow_6 rfl rfl ?_
  refine ev_getfield de_Mo_rateNow_7 rfl fl_Mo_39 rfl ?_
  refine ev_iconst de_Mo_rateNow_10 ?_
  refine ev_iaload de_Mo_rateNow_11 rfl (by omega) (by omega) (by omega) ?_
  refine ev_iadd de_Mo_rateNow_12 ?_
  refine ev_iaload de_Mo_rateNow_13 rfl (by omega) (by omega) (by omega) ?_
  exact ev_ireturn de_Mo_rateNow_14 rfl ⟨rfl, rfl⟩
theorem de_Mo_wantsStay_0 : decode prog_14_method_56_code 0 = .ok (.aload_n 0, 1) := by decide +kernel
theorem de_Mo_wantsStay_1 : decode prog_14_method_56_code 1 = .ok (.iload_n 1, 1) := by decide +kernel
theorem de_Mo_wantsStay_2 : decode prog_14_method_56_code 2 = .ok (.invokevirtual 307, 3) := by decide +kernel
theorem de_Mo_wantsStay_5 : decode prog_14_method_56_code 5 = .ok (.aload_n 0, 1) := by decide +kernel
theorem de_Mo_wantsStay_6 : decode prog_14_method_56_code 6 = .ok (.iload_n 1, 1) := by decide +kernel
theorem de_Mo_wantsStay_7 : decode prog_14_method_56_code 7 = .ok (.aload_n 0, 1) := by decide +kernel
theorem de_Mo_wantsStay_8 : decode prog_14_method_56_code 8 = .ok (.iload_n 1, 1) := by decide +kernel
theorem de_Mo_wantsStay_9 : decode prog_14_method_56_code 9 = .ok (.invokevirtual 300, 3) := by decide +kernel
theorem de_Mo_wantsStay_12 : decode prog_14_method_56_code 12 = .ok (.aload_n 0, 1) := by decide +kernel
theorem de_Mo_wantsStay_13 : decode prog_14_method_56_code 13 = .ok (.invokevirtual 310, 3) := by decide +kernel
theorem de_Mo_wantsStay_16 : decode prog_14_method_56_code 16 = .ok (.iadd, 1) := by decide +kernel
theorem de_Mo_wantsStay_17 : decode prog_14_method_56_code 17 = .ok (.invokestatic 297, 3) := by decide +kernel
theorem de_Mo_wantsStay_20 : decode prog_14_method_56_code 20 = .ok (.aload_n 0, 1) := by decide +kernel
theorem de_Mo_wantsStay_21 : decode prog_14_method_56_code 21 = .ok (.getfield 39, 3) := by decide +kernel
theorem de_Mo_wantsStay_24 : decode prog_14_method_56_code 24 = .ok (.iconst 5, 1) := by decide +kernel
theorem de_Mo_wantsStay_25 : decode prog_14_method_56_code 25 = .ok (.iaload, 1) := by decide +kernel
theorem de_Mo_wantsStay_26 : decode prog_14_method_56_code 26 = .ok (.invokevirtual 303, 3) := by decide +kernel
theorem de_Mo_wantsStay_29 : decode prog_14_method_56_code 29 = .ok (.if_icmp .le 7, 3) := by decide +kernel
theorem de_Mo_wantsStay_32 : decode prog_14_method_56_code 32 = .ok (.iconst 1, 1) := by decide +kernel
theorem de_Mo_wantsStay_33 : decode prog_14_method_56_code 33 = .ok (.goto 4, 3) := by decide +kernel
theorem de_Mo_wantsStay_36 : decode prog_14_method_56_code 36 = .ok (.iconst 0, 1) := by decide +kernel
theorem de_Mo_wantsStay_37 : decode prog_14_method_56_code 37 = .ok (.ireturn, 1) := by decide +kernel
set_option maxRecDepth 10000 in
theorem co_Mo_wantsStay {B : Int} (hI : sg_ok B said) (h0 : Int) (hh0 : 0 ≤ h0) (hh1 : h0 < 7) : ab_Mt g_G g_rs mt_Mo_wantsStay 3 0 0 [ab_R 0, ab_I h0] (mo_W tape taped rules sign leng clause clauses read next wrong number text made deep lines opn opened stack top word said xx was undone kept sumOf faced slotAt dayAt row bestRow tMany tMost drawX images imageX isMade) (ab_is (some (ab_I (sp_wantsI said h0))) (mo_W tape taped rules sign leng clause clauses read next wrong number text made deep lines opn opened stack top word said xx was undone kept sumOf faced slotAt dayAt row bestRow tMany tMost drawX images imageX isMade)) := by
  refine ab_Mt.of rfl (Nat.le_of_ble_eq_true rfl) ?_
  show ab_Ev g_G g_rs mt_Mo_wantsStay _ _ _ 0 [some (ab_R 0), some (ab_I h0)] [] _ _
  have hJ := hI; obtain ⟨i0, i1, i2, i3, i4, i5, i6, i7, i8, i9, i10, i11, i12, i13, i14, i15, i16, i17⟩ := sg_all hJ
  have q := sp_facesOf_b said h0
  have q1 := sp_likesOf_b hI hh0 hh1
  have q2 := sp_likesAt_b hI hh0 hh1 ((sp_facesOf said h0 + sp_rateNow said) % 12) (said 5)
  have q3 : -3 ≤ sp_rateNow said ∧ sp_rateNow said ≤ 3 := i9 (10 + said 5) (by omega) (by omega)
  refine ev_aload_n de_Mo_wantsStay_0 rfl rfl ?_
  refine ev_iload_n de_Mo_wantsStay_1 rfl rfl ?_
  refine ev_vv (ci := 11) de_Mo_wantsStay_2 (co_Mo_likesOf hI h0 hh0 hh1) kb_Mo_307 ⟨im_Mo_likesOf, se_Mo_likesOf⟩ rfl rfl rfl (Nat.le_of_ble_eq_true rfl) (by decide) rfl ?_
  refine ev_aload_n de_Mo_wantsStay_5 rfl rfl ?_
  refine ev_iload_n de_Mo_wantsStay_6 rfl rfl ?_
  refine ev_aload_n de_Mo_wantsStay_7 rfl rfl ?_
  refine ev_iload_n de_Mo_wantsStay_8 rfl rfl ?_
  refine ev_vv (ci := 11) de_Mo_wantsStay_9 (co_Mo_facesOf hI h0 hh0 hh1) kb_Mo_300 ⟨im_Mo_facesOf, se_Mo_facesOf⟩ rfl rfl rfl (Nat.le_of_ble_eq_true rfl) (by decide) rfl ?_
  refine ev_aload_n de_Mo_wantsStay_12 rfl rfl ?_
  refine ev_vv (ci := 11) de_Mo_wantsStay_13 (co_Mo_rateNow hI) kb_Mo_310 ⟨im_Mo_rateNow, se_Mo_rateNow⟩ rfl rfl rfl (Nat.le_of_ble_eq_true rfl) (by decide) rfl ?_
  refine ev_iadd de_Mo_wantsStay_16 ?_
  refine ev_sv de_Mo_wantsStay_17 (co_Mo_round _ _ (by omega)) kb_Mo_297 sc_Mo_round rfl (Nat.le_of_ble_eq_true rfl) (by decide) rfl ?_
  refine ev_aload_n de_Mo_wantsStay_20 rfl rfl ?_
  refine ev_getfield de_Mo_wantsStay_21 rfl fl_Mo_39 rfl ?_
  refine ev_iconst de_Mo_wantsStay_24 ?_
  refine ev_iaload de_Mo_wantsStay_25 rfl (by omega) (by omega) (by omega) ?_
  refine ev_vv (ci := 11) de_Mo_wantsStay_26 (co_Mo_likesAt hI h0 _ _ hh0 hh1 (by omega) (by omega)) kb_Mo_303 ⟨im_Mo_likesAt, se_Mo_likesAt⟩ rfl rfl rfl (Nat.le_of_ble_eq_true rfl) (by decide) rfl ?_
  refine ev_icmp_le (tgt := 36) de_Mo_wantsStay_29 (by decide) (by omega) (by omega) (fun h29 => ?_) (fun h29 => ?_)
  · skip
    refine ev_iconst de_Mo_wantsStay_36 ?_
    exact ev_zreturn de_Mo_wantsStay_37 rfl (by omega) ⟨by unfold sp_wantsI; first | rw [if_pos (by omega)] | rw [if_neg (by omega)], rfl⟩
  · skip
    refine ev_iconst de_Mo_wantsStay_32 ?_
    refine ev_goto (tgt := 37) de_Mo_wantsStay_33 (by decide) ?_
    exact ev_zreturn de_Mo_wantsStay_37 rfl (by omega) ⟨by unfold sp_wantsI; first | rw [if_pos (by omega)] | rw [if_neg (by omega)], rfl⟩
theorem de_Mo_allLike_0 : decode prog_14_method_57_code 0 = .ok (.iconst 0, 1) := by decide +kernel
theorem de_Mo_allLike_1 : decode prog_14_method_57_code 1 = .ok (.istore_n 1, 1) := by decide +kernel
theorem de_Mo_allLike_2 : decode prog_14_method_57_code 2 = .ok (.iconst 0, 1) := by decide +kernel
theorem de_Mo_allLike_3 : decode prog_14_method_57_code 3 = .ok (.istore_n 2, 1) := by decide +kernel
theorem de_Mo_allLike_4 : decode prog_14_method_57_code 4 = .ok (.iload_n 2, 1) := by decide +kernel
theorem de_Mo_allLike_5 : decode prog_14_method_57_code 5 = .ok (.aload_n 0, 1) := by decide +kernel
theorem de_Mo_allLike_6 : decode prog_14_method_57_code 6 = .ok (.getfield 39, 3) := by decide +kernel
theorem de_Mo_allLike_9 : decode prog_14_method_57_code 9 = .ok (.iconst 1, 1) := by decide +kernel
theorem de_Mo_allLike_10 : decode prog_14_method_57_code 10 = .ok (.iaload, 1) := by decide +kernel
theorem de_Mo_allLike_11 : decode prog_14_method_57_code 11 = .ok (.if_icmp .ge 17, 3) := by decide +kernel
theorem de_Mo_allLike_14 : decode prog_14_method_57_code 14 = .ok (.iload_n 1, 1) := by decide +kernel
theorem de_Mo_allLike_15 : decode prog_14_method_57_code 15 = .ok (.aload_n 0, 1) := by decide +kernel
theorem de_Mo_allLike_16 : decode prog_14_method_57_code 16 = .ok (.iload_n 2, 1) := by decide +kernel
theorem de_Mo_allLike_17 : decode prog_14_method_57_code 17 = .ok (.invokevirtual 307, 3) := by decide +kernel
theorem de_Mo_allLike_20 : decode prog_14_method_57_code 20 = .ok (.iadd, 1) := by decide +kernel
theorem de_Mo_allLike_21 : decode prog_14_method_57_code 21 = .ok (.istore_n 1, 1) := by decide +kernel
theorem de_Mo_allLike_22 : decode prog_14_method_57_code 22 = .ok (.iinc 2 1, 3) := by decide +kernel
theorem de_Mo_allLike_25 : decode prog_14_method_57_code 25 = .ok (.goto (-21), 3) := by decide +kernel
theorem de_Mo_allLike_28 : decode prog_14_method_57_code 28 = .ok (.iload_n 1, 1) := by decide +kernel
theorem de_Mo_allLike_29 : decode prog_14_method_57_code 29 = .ok (.ireturn, 1) := by decide +kernel
set_option maxRecDepth 10000 in
theorem lo_Mo_allLike {B : Int} (hI : sg_ok B said) : ∀ (n : Nat) (k : Nat), k ≤ (said 1).toNat → (said 1).toNat < k + n → ab_Ev g_G g_rs mt_Mo_allLike 3 0 0 4 [some (ab_R 0), some (ab_I (sp_sum (sp_likesOf said) k)), some (ab_I (k : Int))] [] (mo_W tape taped rules sign leng clause clauses read next wrong number text made deep lines opn opened stack top word said xx was undone kept sumOf faced slotAt dayAt row bestRow tMany tMost drawX images imageX isMade) (ab_is (some (ab_I (sp_allLike said))) (mo_W tape taped rules sign leng clause clauses read next wrong number text made deep lines opn opened stack top word said xx was undone kept sumOf faced slotAt dayAt row bestRow tMany tMost drawX images imageX isMade)) := by
  intro n
  induction n with
  | zero =>
    intro k
    intro h1 h2; omega
  | succ n ih =>
    intro k
    intro h1 h2
    have hJ := hI; obtain ⟨i0, i1, i2, i3, i4, i5, i6, i7, i8, i9, i10, i11, i12, i13, i14, i15, i16, i17⟩ := sg_all hJ
    refine ev_iload_n de_Mo_allLike_4 rfl rfl ?_
    refine ev_aload_n de_Mo_allLike_5 rfl rfl ?_
    refine ev_getfield de_Mo_allLike_6 rfl fl_Mo_39 rfl ?_
    refine ev_iconst de_Mo_allLike_9 ?_
    refine ev_iaload de_Mo_allLike_10 rfl (by omega) (by omega) (by omega) ?_
    refine ev_icmp_ge (tgt := 28) de_Mo_allLike_11 (by decide) (by omega) (by omega) (fun h11 => ?_) (fun h11 => ?_)
    · skip
      have e : k = (said 1).toNat := by omega
      subst e
      refine ev_iload_n de_Mo_allLike_28 rfl rfl ?_
      exact ev_ireturn de_Mo_allLike_29 rfl ⟨rfl, rfl⟩
    · skip
      refine ev_iload_n de_Mo_allLike_14 rfl rfl ?_
      refine ev_aload_n de_Mo_allLike_15 rfl rfl ?_
      refine ev_iload_n de_Mo_allLike_16 rfl rfl ?_
      refine ev_vv (ci := 11) de_Mo_allLike_17 (co_Mo_likesOf hI _ (by omega) (by omega)) kb_Mo_307 ⟨im_Mo_likesOf, se_Mo_likesOf⟩ rfl rfl rfl (Nat.le_of_ble_eq_true rfl) (by decide) rfl ?_
      refine ev_iadd de_Mo_allLike_20 ?_
      refine ev_istore_n (l' := [_, _, _]) de_Mo_allLike_21 rfl (Nat.le_of_ble_eq_true rfl) rfl ?_
      refine ev_iinc (l' := [_, _, _]) de_Mo_allLike_22 rfl rfl ?_
      refine ev_goto (tgt := 4) de_Mo_allLike_25 (by decide) ?_
      exact ih (k + 1) (by omega) (by omega)
set_option maxRecDepth 10000 in
theorem co_Mo_allLike {B : Int} (hI : sg_ok B said) : ab_Mt g_G g_rs mt_Mo_allLike 3 0 0 [ab_R 0] (mo_W tape taped rules sign leng clause clauses read next wrong number text made deep lines opn opened stack top word said xx was undone kept sumOf faced slotAt dayAt row bestRow tMany tMost drawX images imageX isMade) (ab_is (some (ab_I (sp_allLike said))) (mo_W tape taped rules sign leng clause clauses read next wrong number text made deep lines opn opened stack top word said xx was undone kept sumOf faced slotAt dayAt row bestRow tMany tMost drawX images imageX isMade)) := by
  refine ab_Mt.of rfl (Nat.le_of_ble_eq_true rfl) ?_
  show ab_Ev g_G g_rs mt_Mo_allLike _ _ _ 0 [some (ab_R 0), none, none] [] _ _
  refine ev_iconst de_Mo_allLike_0 ?_
  refine ev_istore_n (l' := [_, _, _]) de_Mo_allLike_1 rfl (Nat.le_of_ble_eq_true rfl) rfl ?_
  refine ev_iconst de_Mo_allLike_2 ?_
  refine ev_istore_n (l' := [_, _, _]) de_Mo_allLike_3 rfl (Nat.le_of_ble_eq_true rfl) rfl ?_
  have hJ := hI; obtain ⟨i0, i1, i2, i3, i4, i5, i6, i7, i8, i9, i10, i11, i12, i13, i14, i15, i16, i17⟩ := sg_all hJ
  exact lo_Mo_allLike hI ((said 1).toNat + 1) 0 (by omega) (by omega)
theorem de_Mo_votesOf_0 : decode prog_14_method_58_code 0 = .ok (.iconst 0, 1) := by decide +kernel
theorem de_Mo_votesOf_1 : decode prog_14_method_58_code 1 = .ok (.istore_n 2, 1) := by decide +kernel
theorem de_Mo_votesOf_2 : decode prog_14_method_58_code 2 = .ok (.iconst 0, 1) := by decide +kernel
theorem de_Mo_votesOf_3 : decode prog_14_method_58_code 3 = .ok (.istore_n 3, 1) := by decide +kernel
theorem de_Mo_votesOf_4 : decode prog_14_method_58_code 4 = .ok (.iload_n 3, 1) := by decide +kernel
theorem de_Mo_votesOf_5 : decode prog_14_method_58_code 5 = .ok (.aload_n 0, 1) := by decide +kernel
theorem de_Mo_votesOf_6 : decode prog_14_method_58_code 6 = .ok (.getfield 39, 3) := by decide +kernel
theorem de_Mo_votesOf_9 : decode prog_14_method_58_code 9 = .ok (.iconst 1, 1) := by decide +kernel
theorem de_Mo_votesOf_10 : decode prog_14_method_58_code 10 = .ok (.iaload, 1) := by decide +kernel
theorem de_Mo_votesOf_11 : decode prog_14_method_58_code 11 = .ok (.if_icmp .ge 33, 3) := by decide +kernel
theorem de_Mo_votesOf_14 : decode prog_14_method_58_code 14 = .ok (.iload_n 2, 1) := by decide +kernel
theorem de_Mo_votesOf_15 : decode prog_14_method_58_code 15 = .ok (.iload_n 1, 1) := by decide +kernel
theorem de_Mo_votesOf_16 : decode prog_14_method_58_code 16 = .ok (.iload_n 3, 1) := by decide +kernel
theorem de_Mo_votesOf_17 : decode prog_14_method_58_code 17 = .ok (.invokestatic 294, 3) := by decide +kernel
theorem de_Mo_votesOf_20 : decode prog_14_method_58_code 20 = .ok (.ifCond .eq 15, 3) := by decide +kernel
theorem de_Mo_votesOf_23 : decode prog_14_method_58_code 23 = .ok (.aload_n 0, 1) := by decide +kernel
theorem de_Mo_votesOf_24 : decode prog_14_method_58_code 24 = .ok (.getfield 39, 3) := by decide +kernel
theorem de_Mo_votesOf_27 : decode prog_14_method_58_code 27 = .ok (.bipush 53, 2) := by decide +kernel
theorem de_Mo_votesOf_29 : decode prog_14_method_58_code 29 = .ok (.iload_n 3, 1) := by decide +kernel
theorem de_Mo_votesOf_30 : decode prog_14_method_58_code 30 = .ok (.iadd, 1) := by decide +kernel
theorem de_Mo_votesOf_31 : decode prog_14_method_58_code 31 = .ok (.iaload, 1) := by decide +kernel
theorem de_Mo_votesOf_32 : decode prog_14_method_58_code 32 = .ok (.goto 4, 3) := by decide +kernel
theorem de_Mo_votesOf_35 : decode prog_14_method_58_code 35 = .ok (.iconst 0, 1) := by decide +kernel
theorem de_Mo_votesOf_36 : decode prog_14_method_58_code 36 = .ok (.iadd, 1) := by decide +kernel
theorem de_Mo_votesOf_37 : decode prog_14_method_58_code 37 = .ok (.istore_n 2, 1) := by decide +kernel
theorem de_Mo_votesOf_38 : decode prog_14_method_58_code 38 = .ok (.iinc 3 1, 3) := by decide +kernel
theorem de_Mo_votesOf_41 : decode prog_14_method_58_code 41 = .ok (.goto (-37), 3) := by decide +kernel
theorem de_Mo_votesOf_44 : decode prog_14_method_58_code 44 = .ok (.iload_n 2, 1) := by decide +kernel
theorem de_Mo_votesOf_45 : decode prog_14_method_58_code 45 = .ok (.ireturn, 1) := by decide +kernel
set_option maxRecDepth 10000 in
theorem lo_Mo_votesOf {B : Int} (hI : sg_ok B said) (set0 : Int) (hs0 : 0 ≤ set0) (hs1 : set0 ≤ 2147483647) : ∀ (n : Nat) (k : Nat), k ≤ (said 1).toNat → (said 1).toNat < k + n → ab_Ev g_G g_rs mt_Mo_votesOf 1 0 0 4 [some (ab_R 0), some (ab_I set0), some (ab_I (sp_sum (fun h => if (set0.toNat).testBit h.toNat then said (53 + h) else 0) k)), some (ab_I (k : Int))] [] (mo_W tape taped rules sign leng clause clauses read next wrong number text made deep lines opn opened stack top word said xx was undone kept sumOf faced slotAt dayAt row bestRow tMany tMost drawX images imageX isMade) (ab_is (some (ab_I (sp_votesOf said set0.toNat))) (mo_W tape taped rules sign leng clause clauses read next wrong number text made deep lines opn opened stack top word said xx was undone kept sumOf faced slotAt dayAt row bestRow tMany tMost drawX images imageX isMade)) := by
  intro n
  induction n with
  | zero =>
    intro k
    intro h1 h2; omega
  | succ n ih =>
    intro k
    intro h1 h2
    have hJ := hI; obtain ⟨i0, i1, i2, i3, i4, i5, i6, i7, i8, i9, i10, i11, i12, i13, i14, i15, i16, i17⟩ := sg_all hJ
    refine ev_iload_n de_Mo_votesOf_4 rfl rfl ?_
    refine ev_aload_n de_Mo_votesOf_5 rfl rfl ?_
    refine ev_getfield de_Mo_votesOf_6 rfl fl_Mo_39 rfl ?_
    refine ev_iconst de_Mo_votesOf_9 ?_
    refine ev_iaload de_Mo_votesOf_10 rfl (by omega) (by omega) (by omega) ?_
    refine ev_icmp_ge (tgt := 44) de_Mo_votesOf_11 (by decide) (by omega) (by omega) (fun h11 => ?_) (fun h11 => ?_)
    · skip
      have e : k = (said 1).toNat := by omega
      subst e
      refine ev_iload_n de_Mo_votesOf_44 rfl rfl ?_
      exact ev_ireturn de_Mo_votesOf_45 rfl ⟨rfl, rfl⟩
    · skip
      refine ev_iload_n de_Mo_votesOf_14 rfl rfl ?_
      refine ev_iload_n de_Mo_votesOf_15 rfl rfl ?_
      refine ev_iload_n de_Mo_votesOf_16 rfl rfl ?_
      refine ev_sv de_Mo_votesOf_17 (co_Mo_isOf _ _ _ (by omega) (by omega) (by omega) (by omega)) kb_Mo_294 sc_Mo_isOf rfl (Nat.le_of_ble_eq_true rfl) (by decide) rfl ?_
      have q := bit_01 set0.toNat k
      refine ev_if_eq (tgt := 35) de_Mo_votesOf_20 (by decide) (by rcases q with q | q <;> (show ab_in (bit_at set0.toNat k); rw [q]; decide)) (fun h20 => ?_) (fun h20 => ?_)
      · skip
        have tb : set0.toNat.testBit k = false := bit_z.mp h20
        refine ev_iconst de_Mo_votesOf_35 ?_
        refine ev_iadd de_Mo_votesOf_36 ?_
        refine ev_top (congrArg Sum.inl (show _ = sp_sum (fun h => if (set0.toNat).testBit h.toNat then said (53 + h) else 0) (k + 1) from by simp [sp_sum, tb])) ?_
        refine ev_istore_n (l' := [_, _, _, _]) de_Mo_votesOf_37 rfl (Nat.le_of_ble_eq_true rfl) rfl ?_
        refine ev_iinc (l' := [_, _, _, _]) de_Mo_votesOf_38 rfl rfl ?_
        refine ev_goto (tgt := 4) de_Mo_votesOf_41 (by decide) ?_
        exact ih (k + 1) (by omega) (by omega)
      · skip
        have tb : set0.toNat.testBit k = true := bit_nz.mp h20
        refine ev_aload_n de_Mo_votesOf_23 rfl rfl ?_
        refine ev_getfield de_Mo_votesOf_24 rfl fl_Mo_39 rfl ?_
        refine ev_bipush de_Mo_votesOf_27 rfl ?_
        refine ev_iload_n de_Mo_votesOf_29 rfl rfl ?_
        refine ev_iadd de_Mo_votesOf_30 ?_
        refine ev_iaload de_Mo_votesOf_31 rfl (by omega) (by omega) (by omega) ?_
        refine ev_goto (tgt := 36) de_Mo_votesOf_32 (by decide) ?_
        refine ev_iadd de_Mo_votesOf_36 ?_
        refine ev_top (congrArg Sum.inl (show _ = sp_sum (fun h => if (set0.toNat).testBit h.toNat then said (53 + h) else 0) (k + 1) from by simp [sp_sum, tb])) ?_
        refine ev_istore_n (l' := [_, _, _, _]) de_Mo_votesOf_37 rfl (Nat.le_of_ble_eq_true rfl) rfl ?_
        refine ev_iinc (l' := [_, _, _, _]) de_Mo_votesOf_38 rfl rfl ?_
        refine ev_goto (tgt := 4) de_Mo_votesOf_41 (by decide) ?_
        exact ih (k + 1) (by omega) (by omega)
set_option maxRecDepth 10000 in
theorem co_Mo_votesOf {B : Int} (hI : sg_ok B said) (set0 : Int) (hs0 : 0 ≤ set0) (hs1 : set0 ≤ 2147483647) : ab_Mt g_G g_rs mt_Mo_votesOf 1 0 0 [ab_R 0, ab_I set0] (mo_W tape taped rules sign leng clause clauses read next wrong number text made deep lines opn opened stack top word said xx was undone kept sumOf faced slotAt dayAt row bestRow tMany tMost drawX images imageX isMade) (ab_is (some (ab_I (sp_votesOf said set0.toNat))) (mo_W tape taped rules sign leng clause clauses read next wrong number text made deep lines opn opened stack top word said xx was undone kept sumOf faced slotAt dayAt row bestRow tMany tMost drawX images imageX isMade)) := by
  refine ab_Mt.of rfl (Nat.le_of_ble_eq_true rfl) ?_
  show ab_Ev g_G g_rs mt_Mo_votesOf _ _ _ 0 [some (ab_R 0), some (ab_I set0), none, none] [] _ _
  refine ev_iconst de_Mo_votesOf_0 ?_
  refine ev_istore_n (l' := [_, _, _, _]) de_Mo_votesOf_1 rfl (Nat.le_of_ble_eq_true rfl) rfl ?_
  refine ev_iconst de_Mo_votesOf_2 ?_
  refine ev_istore_n (l' := [_, _, _, _]) de_Mo_votesOf_3 rfl (Nat.le_of_ble_eq_true rfl) rfl ?_
  have hJ := hI; obtain ⟨i0, i1, i2, i3, i4, i5, i6, i7, i8, i9, i10, i11, i12, i13, i14, i15, i16, i17⟩ := sg_all hJ
  exact lo_Mo_votesOf hI set0 hs0 hs1 ((said 1).toNat + 1) 0 (by omega) (by omega)
theorem de_Mo_everyHouse_0 : decode prog_14_method_59_code 0 = .ok (.iconst 1, 1) := by decide +kernel
theorem de_Mo_everyHouse_1 : decode prog_14_method_59_code 1 = .ok (.aload_n 0, 1) := by decide +kernel
theorem de_Mo_everyHouse_2 : decode prog_14_method_59_code 2 = .ok (.getfield 39, 3) := by decide +kernel
theorem de_Mo_everyHouse_5 : decode prog_14_method_59_code 5 = .ok (.iconst 1, 1) := by decide +kernel
theorem de_Mo_everyHouse_6 : decode prog_14_method_59_code 6 = .ok (.iaload, 1) := by decide +kernel
theorem de_Mo_everyHouse_7 : decode prog_14_method_59_code 7 = .ok (.ishl, 1) := by decide +kernel
theorem de_Mo_everyHouse_8 : decode prog_14_method_59_code 8 = .ok (.iconst 1, 1) := by decide +kernel
theorem de_Mo_everyHouse_9 : decode prog_14_method_59_code 9 = .ok (.isub, 1) := by decide +kernel
theorem de_Mo_everyHouse_10 : decode prog_14_method_59_code 10 = .ok (.ireturn, 1) := by decide +kernel
set_option maxRecDepth 10000 in
theorem co_Mo_everyHouse {B : Int} (hI : sg_ok B said) : ab_Mt g_G g_rs mt_Mo_everyHouse 0 0 0 [ab_R 0] (mo_W tape taped rules sign leng clause clauses read next wrong number text made deep lines opn opened stack top word said xx was undone kept sumOf faced slotAt dayAt row bestRow tMany tMost drawX images imageX isMade) (ab_is (some (ab_I ((sp_every said : Nat)))) (mo_W tape taped rules sign leng clause clauses read next wrong number text made deep lines opn opened stack top word said xx was undone kept sumOf faced slotAt dayAt row bestRow tMany tMost drawX images imageX isMade)) := by
  refine ab_Mt.of rfl (Nat.le_of_ble_eq_true rfl) ?_
  show ab_Ev g_G g_rs mt_Mo_everyHouse _ _ _ 0 [some (ab_R 0)] [] _ _
  have hJ := hI; obtain ⟨i0, i1, i2, i3, i4, i5, i6, i7, i8, i9, i10, i11, i12, i13, i14, i15, i16, i17⟩ := sg_all hJ
  refine ev_iconst de_Mo_everyHouse_0 ?_
  refine ev_aload_n de_Mo_everyHouse_1 rfl rfl ?_
  refine ev_getfield de_Mo_everyHouse_2 rfl fl_Mo_39 rfl ?_
  refine ev_iconst de_Mo_everyHouse_5 ?_
  refine ev_iaload de_Mo_everyHouse_6 rfl (by omega) (by omega) (by omega) ?_
  refine ev_ishl de_Mo_everyHouse_7 (by omega) (by omega) ?_
  refine ev_iconst de_Mo_everyHouse_8 ?_
  refine ev_isub de_Mo_everyHouse_9 ?_
  have e : (1 * 2 ^ (said 1).toNat - 1 : Int) = ((sp_every said : Nat) : Int) := by
    have hp : 0 < 2 ^ (said 1).toNat := Nat.pow_pos (by decide)
    rw [ab_pw]
    unfold sp_every
    omega
  refine ev_top (congrArg Sum.inl e) ?_
  exact ev_ireturn de_Mo_everyHouse_10 rfl ⟨rfl, rfl⟩
theorem de_Mo_whoStay_0 : decode prog_14_method_60_code 0 = .ok (.iconst 0, 1) := by decide +kernel
theorem de_Mo_whoStay_1 : decode prog_14_method_60_code 1 = .ok (.istore_n 1, 1) := by decide +kernel
theorem de_Mo_whoStay_2 : decode prog_14_method_60_code 2 = .ok (.iconst 0, 1) := by decide +kernel
theorem de_Mo_whoStay_3 : decode prog_14_method_60_code 3 = .ok (.istore_n 2, 1) := by decide +kernel
theorem de_Mo_whoStay_4 : decode prog_14_method_60_code 4 = .ok (.iload_n 2, 1) := by decide +kernel
theorem de_Mo_whoStay_5 : decode prog_14_method_60_code 5 = .ok (.aload_n 0, 1) := by decide +kernel
theorem de_Mo_whoStay_6 : decode prog_14_method_60_code 6 = .ok (.getfield 39, 3) := by decide +kernel
theorem de_Mo_whoStay_9 : decode prog_14_method_60_code 9 = .ok (.iconst 1, 1) := by decide +kernel
theorem de_Mo_whoStay_10 : decode prog_14_method_60_code 10 = .ok (.iaload, 1) := by decide +kernel
theorem de_Mo_whoStay_11 : decode prog_14_method_60_code 11 = .ok (.if_icmp .ge 27, 3) := by decide +kernel
theorem de_Mo_whoStay_14 : decode prog_14_method_60_code 14 = .ok (.iload_n 1, 1) := by decide +kernel
theorem de_Mo_whoStay_15 : decode prog_14_method_60_code 15 = .ok (.aload_n 0, 1) := by decide +kernel
theorem de_Mo_whoStay_16 : decode prog_14_method_60_code 16 = .ok (.iload_n 2, 1) := by decide +kernel
theorem de_Mo_whoStay_17 : decode prog_14_method_60_code 17 = .ok (.invokevirtual 313, 3) := by decide +kernel
theorem de_Mo_whoStay_20 : decode prog_14_method_60_code 20 = .ok (.ifCond .eq 9, 3) := by decide +kernel
theorem de_Mo_whoStay_23 : decode prog_14_method_60_code 23 = .ok (.iconst 1, 1) := by decide +kernel
theorem de_Mo_whoStay_24 : decode prog_14_method_60_code 24 = .ok (.iload_n 2, 1) := by decide +kernel
theorem de_Mo_whoStay_25 : decode prog_14_method_60_code 25 = .ok (.ishl, 1) := by decide +kernel
theorem de_Mo_whoStay_26 : decode prog_14_method_60_code 26 = .ok (.goto 4, 3) := by decide +kernel
theorem de_Mo_whoStay_29 : decode prog_14_method_60_code 29 = .ok (.iconst 0, 1) := by decide +kernel
theorem de_Mo_whoStay_30 : decode prog_14_method_60_code 30 = .ok (.ior, 1) := by decide +kernel
theorem de_Mo_whoStay_31 : decode prog_14_method_60_code 31 = .ok (.istore_n 1, 1) := by decide +kernel
theorem de_Mo_whoStay_32 : decode prog_14_method_60_code 32 = .ok (.iinc 2 1, 3) := by decide +kernel
theorem de_Mo_whoStay_35 : decode prog_14_method_60_code 35 = .ok (.goto (-31), 3) := by decide +kernel
theorem de_Mo_whoStay_38 : decode prog_14_method_60_code 38 = .ok (.iload_n 1, 1) := by decide +kernel
theorem de_Mo_whoStay_39 : decode prog_14_method_60_code 39 = .ok (.ireturn, 1) := by decide +kernel
set_option maxRecDepth 10000 in
theorem lo_Mo_whoStay {B : Int} (hI : sg_ok B said) : ∀ (n : Nat) (k : Nat), k ≤ (said 1).toNat → (said 1).toNat < k + n → ab_Ev g_G g_rs mt_Mo_whoStay 4 0 0 4 [some (ab_R 0), some (ab_I (sp_set (sp_wantsI said) k : Nat)), some (ab_I (k : Int))] [] (mo_W tape taped rules sign leng clause clauses read next wrong number text made deep lines opn opened stack top word said xx was undone kept sumOf faced slotAt dayAt row bestRow tMany tMost drawX images imageX isMade) (ab_is (some (ab_I ((sp_whoStay said : Nat)))) (mo_W tape taped rules sign leng clause clauses read next wrong number text made deep lines opn opened stack top word said xx was undone kept sumOf faced slotAt dayAt row bestRow tMany tMost drawX images imageX isMade)) := by
  intro n
  induction n with
  | zero =>
    intro k
    intro h1 h2; omega
  | succ n ih =>
    intro k
    intro h1 h2
    have hJ := hI; obtain ⟨i0, i1, i2, i3, i4, i5, i6, i7, i8, i9, i10, i11, i12, i13, i14, i15, i16, i17⟩ := sg_all hJ
    have hlt : sp_set (sp_wantsI said) k < 2 ^ 30 := Nat.lt_of_lt_of_le (sp_set_lt _ k) (Nat.pow_le_pow_right (by decide) (by omega))
    refine ev_iload_n de_Mo_whoStay_4 rfl rfl ?_
    refine ev_aload_n de_Mo_whoStay_5 rfl rfl ?_
    refine ev_getfield de_Mo_whoStay_6 rfl fl_Mo_39 rfl ?_
    refine ev_iconst de_Mo_whoStay_9 ?_
    refine ev_iaload de_Mo_whoStay_10 rfl (by omega) (by omega) (by omega) ?_
    refine ev_icmp_ge (tgt := 38) de_Mo_whoStay_11 (by decide) (by omega) (by omega) (fun h11 => ?_) (fun h11 => ?_)
    · skip
      have e : k = (said 1).toNat := by omega
      subst e
      refine ev_iload_n de_Mo_whoStay_38 rfl rfl ?_
      exact ev_ireturn de_Mo_whoStay_39 rfl ⟨rfl, rfl⟩
    · skip
      refine ev_iload_n de_Mo_whoStay_14 rfl rfl ?_
      refine ev_aload_n de_Mo_whoStay_15 rfl rfl ?_
      refine ev_iload_n de_Mo_whoStay_16 rfl rfl ?_
      refine ev_vv (ci := 11) de_Mo_whoStay_17 (co_Mo_wantsStay hI _ (by omega) (by omega)) kb_Mo_313 ⟨im_Mo_wantsStay, se_Mo_wantsStay⟩ rfl rfl rfl (Nat.le_of_ble_eq_true rfl) (by decide) rfl ?_
      refine ev_if_eq (tgt := 29) de_Mo_whoStay_20 (by decide) (by unfold sp_wantsI; split <;> decide) (fun h20 => ?_) (fun h20 => ?_)
      · skip
        refine ev_iconst de_Mo_whoStay_29 ?_
        refine ev_ior de_Mo_whoStay_30 ?_
        refine ev_top (congrArg Sum.inl (show _ = ((sp_set (sp_wantsI said) (k + 1) : Nat) : Int) from by first | (show ab_ior ((sp_set (sp_wantsI said) k : Nat) : Int) (1 * 2 ^ k) = _; rw [ab_ior_pow hlt (by omega)]; simp only [sp_set]; rw [if_neg h20]; done) | (rw [ab_ior_zero hlt]; simp only [sp_set]; rw [if_pos h20, Nat.or_zero]; done))) ?_
        refine ev_istore_n (l' := [_, _, _]) de_Mo_whoStay_31 rfl (Nat.le_of_ble_eq_true rfl) rfl ?_
        refine ev_iinc (l' := [_, _, _]) de_Mo_whoStay_32 rfl rfl ?_
        refine ev_goto (tgt := 4) de_Mo_whoStay_35 (by decide) ?_
        exact ih (k + 1) (by omega) (by omega)
      · skip
        refine ev_iconst de_Mo_whoStay_23 ?_
        refine ev_iload_n de_Mo_whoStay_24 rfl rfl ?_
        refine ev_ishl de_Mo_whoStay_25 (by omega) (by omega) ?_
        refine ev_goto (tgt := 30) de_Mo_whoStay_26 (by decide) ?_
        refine ev_ior de_Mo_whoStay_30 ?_
        refine ev_top (congrArg Sum.inl (show _ = ((sp_set (sp_wantsI said) (k + 1) : Nat) : Int) from by first | (show ab_ior ((sp_set (sp_wantsI said) k : Nat) : Int) (1 * 2 ^ k) = _; rw [ab_ior_pow hlt (by omega)]; simp only [sp_set]; rw [if_neg h20]; done) | (rw [ab_ior_zero hlt]; simp only [sp_set]; rw [if_pos h20, Nat.or_zero]; done))) ?_
        refine ev_istore_n (l' := [_, _, _]) de_Mo_whoStay_31 rfl (Nat.le_of_ble_eq_true rfl) rfl ?_
        refine ev_iinc (l' := [_, _, _]) de_Mo_whoStay_32 rfl rfl ?_
        refine ev_goto (tgt := 4) de_Mo_whoStay_35 (by decide) ?_
        exact ih (k + 1) (by omega) (by omega)
set_option maxRecDepth 10000 in
theorem co_Mo_whoStay {B : Int} (hI : sg_ok B said) : ab_Mt g_G g_rs mt_Mo_whoStay 4 0 0 [ab_R 0] (mo_W tape taped rules sign leng clause clauses read next wrong number text made deep lines opn opened stack top word said xx was undone kept sumOf faced slotAt dayAt row bestRow tMany tMost drawX images imageX isMade) (ab_is (some (ab_I ((sp_whoStay said : Nat)))) (mo_W tape taped rules sign leng clause clauses read next wrong number text made deep lines opn opened stack top word said xx was undone kept sumOf faced slotAt dayAt row bestRow tMany tMost drawX images imageX isMade)) := by
  refine ab_Mt.of rfl (Nat.le_of_ble_eq_true rfl) ?_
  show ab_Ev g_G g_rs mt_Mo_whoStay _ _ _ 0 [some (ab_R 0), none, none] [] _ _
  refine ev_iconst de_Mo_whoStay_0 ?_
  refine ev_istore_n (l' := [_, _, _]) de_Mo_whoStay_1 rfl (Nat.le_of_ble_eq_true rfl) rfl ?_
  refine ev_iconst de_Mo_whoStay_2 ?_
  refine ev_istore_n (l' := [_, _, _]) de_Mo_whoStay_3 rfl (Nat.le_of_ble_eq_true rfl) rfl ?_
  have hJ := hI; obtain ⟨i0, i1, i2, i3, i4, i5, i6, i7, i8, i9, i10, i11, i12, i13, i14, i15, i16, i17⟩ := sg_all hJ
  exact lo_Mo_whoStay hI ((said 1).toNat + 1) 0 (by omega) (by omega)
theorem de_Mo_atGates_0 : decode prog_14_method_61_code 0 = .ok (.iconst 0, 1) := by decide +kernel
theorem de_Mo_atGates_1 : decode prog_14_method_61_code 1 = .ok (.istore_n 1, 1) := by decide +kernel
theorem de_Mo_atGates_2 : decode prog_14_method_61_code 2 = .ok (.iconst 0, 1) := by decide +kernel
theorem de_Mo_atGates_3 : decode prog_14_method_61_code 3 = .ok (.istore_n 2, 1) := by decide +kernel
theorem de_Mo_atGates_4 : decode prog_14_method_61_code 4 = .ok (.iload_n 2, 1) := by decide +kernel
theorem de_Mo_atGates_5 : decode prog_14_method_61_code 5 = .ok (.aload_n 0, 1) := by decide +kernel
theorem de_Mo_atGates_6 : decode prog_14_method_61_code 6 = .ok (.getfield 39, 3) := by decide +kernel
theorem de_Mo_atGates_9 : decode prog_14_method_61_code 9 = .ok (.iconst 1, 1) := by decide +kernel
theorem de_Mo_atGates_10 : decode prog_14_method_61_code 10 = .ok (.iaload, 1) := by decide +kernel
theorem de_Mo_atGates_11 : decode prog_14_method_61_code 11 = .ok (.if_icmp .ge 34, 3) := by decide +kernel
theorem de_Mo_atGates_14 : decode prog_14_method_61_code 14 = .ok (.iload_n 1, 1) := by decide +kernel
theorem de_Mo_atGates_15 : decode prog_14_method_61_code 15 = .ok (.aload_n 0, 1) := by decide +kernel
theorem de_Mo_atGates_16 : decode prog_14_method_61_code 16 = .ok (.getfield 39, 3) := by decide +kernel
theorem de_Mo_atGates_19 : decode prog_14_method_61_code 19 = .ok (.iconst 3, 1) := by decide +kernel
theorem de_Mo_atGates_20 : decode prog_14_method_61_code 20 = .ok (.iaload, 1) := by decide +kernel
theorem de_Mo_atGates_21 : decode prog_14_method_61_code 21 = .ok (.aload_n 0, 1) := by decide +kernel
theorem de_Mo_atGates_22 : decode prog_14_method_61_code 22 = .ok (.iload_n 2, 1) := by decide +kernel
theorem de_Mo_atGates_23 : decode prog_14_method_61_code 23 = .ok (.invokevirtual 300, 3) := by decide +kernel
theorem de_Mo_atGates_26 : decode prog_14_method_61_code 26 = .ok (.invokestatic 294, 3) := by decide +kernel
theorem de_Mo_atGates_29 : decode prog_14_method_61_code 29 = .ok (.ifCond .eq 7, 3) := by decide +kernel
theorem de_Mo_atGates_32 : decode prog_14_method_61_code 32 = .ok (.iconst 1, 1) := by decide +kernel
theorem de_Mo_atGates_33 : decode prog_14_method_61_code 33 = .ok (.goto 4, 3) := by decide +kernel
theorem de_Mo_atGates_36 : decode prog_14_method_61_code 36 = .ok (.iconst 0, 1) := by decide +kernel
theorem de_Mo_atGates_37 : decode prog_14_method_61_code 37 = .ok (.iadd, 1) := by decide +kernel
theorem de_Mo_atGates_38 : decode prog_14_method_61_code 38 = .ok (.istore_n 1, 1) := by decide +kernel
theorem de_Mo_atGates_39 : decode prog_14_method_61_code 39 = .ok (.iinc 2 1, 3) := by decide +kernel
theorem de_Mo_atGates_42 : decode prog_14_method_61_code 42 = .ok (.goto (-38), 3) := by decide +kernel
theorem de_Mo_atGates_45 : decode prog_14_method_61_code 45 = .ok (.iload_n 1, 1) := by decide +kernel
theorem de_Mo_atGates_46 : decode prog_14_method_61_code 46 = .ok (.ireturn, 1) := by decide +kernel
set_option maxRecDepth 10000 in
theorem lo_Mo_atGates {B : Int} (hI : sg_ok B said) : ∀ (n : Nat) (k : Nat), k ≤ (said 1).toNat → (said 1).toNat < k + n → ab_Ev g_G g_rs mt_Mo_atGates 2 0 0 4 [some (ab_R 0), some (ab_I (sp_sum (fun h => bit_at (said 3).toNat (sp_facesOf said h).toNat) k)), some (ab_I (k : Int))] [] (mo_W tape taped rules sign leng clause clauses read next wrong number text made deep lines opn opened stack top word said xx was undone kept sumOf faced slotAt dayAt row bestRow tMany tMost drawX images imageX isMade) (ab_is (some (ab_I (sp_atGates said))) (mo_W tape taped rules sign leng clause clauses read next wrong number text made deep lines opn opened stack top word said xx was undone kept sumOf faced slotAt dayAt row bestRow tMany tMost drawX images imageX isMade)) := by
  intro n
  induction n with
  | zero =>
    intro k
    intro h1 h2; omega
  | succ n ih =>
    intro k
    intro h1 h2
    have hJ := hI; obtain ⟨i0, i1, i2, i3, i4, i5, i6, i7, i8, i9, i10, i11, i12, i13, i14, i15, i16, i17⟩ := sg_all hJ
    have qf := sp_facesOf_b said (k : Int)
    refine ev_iload_n de_Mo_atGates_4 rfl rfl ?_
    refine ev_aload_n de_Mo_atGates_5 rfl rfl ?_
    refine ev_getfield de_Mo_atGates_6 rfl fl_Mo_39 rfl ?_
    refine ev_iconst de_Mo_atGates_9 ?_
    refine ev_iaload de_Mo_atGates_10 rfl (by omega) (by omega) (by omega) ?_
    refine ev_icmp_ge (tgt := 45) de_Mo_atGates_11 (by decide) (by omega) (by omega) (fun h11 => ?_) (fun h11 => ?_)
    · skip
      have e : k = (said 1).toNat := by omega
      subst e
      refine ev_iload_n de_Mo_atGates_45 rfl rfl ?_
      exact ev_ireturn de_Mo_atGates_46 rfl ⟨rfl, rfl⟩
    · skip
      refine ev_iload_n de_Mo_atGates_14 rfl rfl ?_
      refine ev_aload_n de_Mo_atGates_15 rfl rfl ?_
      refine ev_getfield de_Mo_atGates_16 rfl fl_Mo_39 rfl ?_
      refine ev_iconst de_Mo_atGates_19 ?_
      refine ev_iaload de_Mo_atGates_20 rfl (by omega) (by omega) (by omega) ?_
      refine ev_aload_n de_Mo_atGates_21 rfl rfl ?_
      refine ev_iload_n de_Mo_atGates_22 rfl rfl ?_
      refine ev_vv (ci := 11) de_Mo_atGates_23 (co_Mo_facesOf hI _ (by omega) (by omega)) kb_Mo_300 ⟨im_Mo_facesOf, se_Mo_facesOf⟩ rfl rfl rfl (Nat.le_of_ble_eq_true rfl) (by decide) rfl ?_
      refine ev_sv de_Mo_atGates_26 (co_Mo_isOf _ _ _ (by omega) (by omega) (by omega) (by omega)) kb_Mo_294 sc_Mo_isOf rfl (Nat.le_of_ble_eq_true rfl) (by decide) rfl ?_
      have q := bit_01 (said 3).toNat (sp_facesOf said (k : Int)).toNat
      refine ev_if_eq (tgt := 36) de_Mo_atGates_29 (by decide) (by omega) (fun h29 => ?_) (fun h29 => ?_)
      · skip
        refine ev_iconst de_Mo_atGates_36 ?_
        refine ev_iadd de_Mo_atGates_37 ?_
        refine ev_top (congrArg Sum.inl (show _ = sp_sum (fun h => bit_at (said 3).toNat (sp_facesOf said h).toNat) (k + 1) from by simp only [sp_sum]; omega)) ?_
        refine ev_istore_n (l' := [_, _, _]) de_Mo_atGates_38 rfl (Nat.le_of_ble_eq_true rfl) rfl ?_
        refine ev_iinc (l' := [_, _, _]) de_Mo_atGates_39 rfl rfl ?_
        refine ev_goto (tgt := 4) de_Mo_atGates_42 (by decide) ?_
        exact ih (k + 1) (by omega) (by omega)
      · skip
        refine ev_iconst de_Mo_atGates_32 ?_
        refine ev_goto (tgt := 37) de_Mo_atGates_33 (by decide) ?_
        refine ev_iadd de_Mo_atGates_37 ?_
        refine ev_top (congrArg Sum.inl (show _ = sp_sum (fun h => bit_at (said 3).toNat (sp_facesOf said h).toNat) (k + 1) from by simp only [sp_sum]; omega)) ?_
        refine ev_istore_n (l' := [_, _, _]) de_Mo_atGates_38 rfl (Nat.le_of_ble_eq_true rfl) rfl ?_
        refine ev_iinc (l' := [_, _, _]) de_Mo_atGates_39 rfl rfl ?_
        refine ev_goto (tgt := 4) de_Mo_atGates_42 (by decide) ?_
        exact ih (k + 1) (by omega) (by omega)
set_option maxRecDepth 10000 in
theorem co_Mo_atGates {B : Int} (hI : sg_ok B said) : ab_Mt g_G g_rs mt_Mo_atGates 2 0 0 [ab_R 0] (mo_W tape taped rules sign leng clause clauses read next wrong number text made deep lines opn opened stack top word said xx was undone kept sumOf faced slotAt dayAt row bestRow tMany tMost drawX images imageX isMade) (ab_is (some (ab_I (sp_atGates said))) (mo_W tape taped rules sign leng clause clauses read next wrong number text made deep lines opn opened stack top word said xx was undone kept sumOf faced slotAt dayAt row bestRow tMany tMost drawX images imageX isMade)) := by
  refine ab_Mt.of rfl (Nat.le_of_ble_eq_true rfl) ?_
  show ab_Ev g_G g_rs mt_Mo_atGates _ _ _ 0 [some (ab_R 0), none, none] [] _ _
  refine ev_iconst de_Mo_atGates_0 ?_
  refine ev_istore_n (l' := [_, _, _]) de_Mo_atGates_1 rfl (Nat.le_of_ble_eq_true rfl) rfl ?_
  refine ev_iconst de_Mo_atGates_2 ?_
  refine ev_istore_n (l' := [_, _, _]) de_Mo_atGates_3 rfl (Nat.le_of_ble_eq_true rfl) rfl ?_
  have hJ := hI; obtain ⟨i0, i1, i2, i3, i4, i5, i6, i7, i8, i9, i10, i11, i12, i13, i14, i15, i16, i17⟩ := sg_all hJ
  exact lo_Mo_atGates hI ((said 1).toNat + 1) 0 (by omega) (by omega)
theorem de_Mo_isRing_0 : decode prog_14_method_49_code 0 = .ok (.aload_n 0, 1) := by decide +kernel
theorem de_Mo_isRing_1 : decode prog_14_method_49_code 1 = .ok (.getfield 39, 3) := by decide +kernel
theorem de_Mo_isRing_4 : decode prog_14_method_49_code 4 = .ok (.iconst 0, 1) := by decide +kernel
theorem de_Mo_isRing_5 : decode prog_14_method_49_code 5 = .ok (.iaload, 1) := by decide +kernel
theorem de_Mo_isRing_6 : decode prog_14_method_49_code 6 = .ok (.ifCond .le 7, 3) := by decide +kernel
theorem de_Mo_isRing_9 : decode prog_14_method_49_code 9 = .ok (.iconst 1, 1) := by decide +kernel
theorem de_Mo_isRing_10 : decode prog_14_method_49_code 10 = .ok (.goto 4, 3) := by decide +kernel
theorem de_Mo_isRing_13 : decode prog_14_method_49_code 13 = .ok (.iconst 0, 1) := by decide +kernel
theorem de_Mo_isRing_14 : decode prog_14_method_49_code 14 = .ok (.ireturn, 1) := by decide +kernel
set_option maxRecDepth 10000 in
theorem co_Mo_isRing {B : Int} (hI : sg_ok B said) : ab_Mt g_G g_rs mt_Mo_isRing 0 0 0 [ab_R 0] (mo_W tape taped rules sign leng clause clauses read next wrong number text made deep lines opn opened stack top word said xx was undone kept sumOf faced slotAt dayAt row bestRow tMany tMost drawX images imageX isMade) (ab_is (some (ab_I (said 0))) (mo_W tape taped rules sign leng clause clauses read next wrong number text made deep lines opn opened stack top word said xx was undone kept sumOf faced slotAt dayAt row bestRow tMany tMost drawX images imageX isMade)) := by
  refine ab_Mt.of rfl (Nat.le_of_ble_eq_true rfl) ?_
  show ab_Ev g_G g_rs mt_Mo_isRing _ _ _ 0 [some (ab_R 0)] [] _ _
  have hJ := hI; obtain ⟨i0, i1, i2, i3, i4, i5, i6, i7, i8, i9, i10, i11, i12, i13, i14, i15, i16, i17⟩ := sg_all hJ
  refine ev_aload_n de_Mo_isRing_0 rfl rfl ?_
  refine ev_getfield de_Mo_isRing_1 rfl fl_Mo_39 rfl ?_
  refine ev_iconst de_Mo_isRing_4 ?_
  refine ev_iaload de_Mo_isRing_5 rfl (by omega) (by omega) (by omega) ?_
  refine ev_if_le (tgt := 13) de_Mo_isRing_6 (by decide) (by omega) (fun h6 => ?_) (fun h6 => ?_)
  · skip
    refine ev_iconst de_Mo_isRing_13 ?_
    exact ev_zreturn de_Mo_isRing_14 rfl (by omega) ⟨by congr 2; omega, rfl⟩
  · skip
    refine ev_iconst de_Mo_isRing_9 ?_
    refine ev_goto (tgt := 14) de_Mo_isRing_10 (by decide) ?_
    exact ev_zreturn de_Mo_isRing_14 rfl (by omega) ⟨by congr 2; omega, rfl⟩
theorem de_Mo_isHouse_0 : decode prog_14_method_50_code 0 = .ok (.iload_n 1, 1) := by decide +kernel
theorem de_Mo_isHouse_1 : decode prog_14_method_50_code 1 = .ok (.ifCond .lt 17, 3) := by decide +kernel
theorem de_Mo_isHouse_4 : decode prog_14_method_50_code 4 = .ok (.iload_n 1, 1) := by decide +kernel
theorem de_Mo_isHouse_5 : decode prog_14_method_50_code 5 = .ok (.aload_n 0, 1) := by decide +kernel
theorem de_Mo_isHouse_6 : decode prog_14_method_50_code 6 = .ok (.getfield 39, 3) := by decide +kernel
theorem de_Mo_isHouse_9 : decode prog_14_method_50_code 9 = .ok (.iconst 1, 1) := by decide +kernel
theorem de_Mo_isHouse_10 : decode prog_14_method_50_code 10 = .ok (.iaload, 1) := by decide +kernel
theorem de_Mo_isHouse_11 : decode prog_14_method_50_code 11 = .ok (.if_icmp .ge 7, 3) := by decide +kernel
theorem de_Mo_isHouse_14 : decode prog_14_method_50_code 14 = .ok (.iconst 1, 1) := by decide +kernel
theorem de_Mo_isHouse_15 : decode prog_14_method_50_code 15 = .ok (.goto 4, 3) := by decide +kernel
theorem de_Mo_isHouse_18 : decode prog_14_method_50_code 18 = .ok (.iconst 0, 1) := by decide +kernel
theorem de_Mo_isHouse_19 : decode prog_14_method_50_code 19 = .ok (.ireturn, 1) := by decide +kernel
set_option maxRecDepth 10000 in
theorem co_Mo_isHouse {B : Int} (hI : sg_ok B said) (h0 : Int) (hh : ab_in h0) : ab_Mt g_G g_rs mt_Mo_isHouse 0 0 0 [ab_R 0, ab_I h0] (mo_W tape taped rules sign leng clause clauses read next wrong number text made deep lines opn opened stack top word said xx was undone kept sumOf faced slotAt dayAt row bestRow tMany tMost drawX images imageX isMade) (ab_is (some (ab_I (if 0 ≤ h0 ∧ h0 < said 1 then 1 else 0))) (mo_W tape taped rules sign leng clause clauses read next wrong number text made deep lines opn opened stack top word said xx was undone kept sumOf faced slotAt dayAt row bestRow tMany tMost drawX images imageX isMade)) := by
  refine ab_Mt.of rfl (Nat.le_of_ble_eq_true rfl) ?_
  show ab_Ev g_G g_rs mt_Mo_isHouse _ _ _ 0 [some (ab_R 0), some (ab_I h0)] [] _ _
  have hJ := hI; obtain ⟨i0, i1, i2, i3, i4, i5, i6, i7, i8, i9, i10, i11, i12, i13, i14, i15, i16, i17⟩ := sg_all hJ
  refine ev_iload_n de_Mo_isHouse_0 rfl rfl ?_
  refine ev_if_lt (tgt := 18) de_Mo_isHouse_1 (by decide) (by omega) (fun h1 => ?_) (fun h1 => ?_)
  · skip
    refine ev_iconst de_Mo_isHouse_18 ?_
    exact ev_zreturn de_Mo_isHouse_19 rfl (by omega) ⟨by first | rw [if_pos (by omega)] | rw [if_neg (by omega)], rfl⟩
  · skip
    refine ev_iload_n de_Mo_isHouse_4 rfl rfl ?_
    refine ev_aload_n de_Mo_isHouse_5 rfl rfl ?_
    refine ev_getfield de_Mo_isHouse_6 rfl fl_Mo_39 rfl ?_
    refine ev_iconst de_Mo_isHouse_9 ?_
    refine ev_iaload de_Mo_isHouse_10 rfl (by omega) (by omega) (by omega) ?_
    refine ev_icmp_ge (tgt := 18) de_Mo_isHouse_11 (by decide) (by omega) (by omega) (fun h11 => ?_) (fun h11 => ?_)
    · skip
      refine ev_iconst de_Mo_isHouse_18 ?_
      exact ev_zreturn de_Mo_isHouse_19 rfl (by omega) ⟨by first | rw [if_pos (by omega)] | rw [if_neg (by omega)], rfl⟩
    · skip
      refine ev_iconst de_Mo_isHouse_14 ?_
      refine ev_goto (tgt := 19) de_Mo_isHouse_15 (by decide) ?_
      exact ev_zreturn de_Mo_isHouse_19 rfl (by omega) ⟨by first | rw [if_pos (by omega)] | rw [if_neg (by omega)], rfl⟩
end MO
