section MO
variable {tape : Int → Int} {taped : Int} {rules : Int} {sign : Int → Int} {leng : Int → Int} {clause : Int → Int} {clauses : Int → Int} {read : Int → Int} {next : Int} {wrong : Int} {number : Int} {text : Int} {made : Int} {deep : Int} {lines : Int} {opn : Int → Int} {opened : Int} {stack : Int → Int64} {top : Int} {word : Int → Int64} {said : Int → Int} {xx : Int} {was : Int → Int} {undone : Int} {kept : Int → Int} {sumOf : Int → Int} {faced : Int → Int} {slotAt : Int → Int} {dayAt : Int → Int} {row : Int → Int} {bestRow : Int → Int} {tMany : Int} {tMost : Int} {drawX : Int64} {images : Int → Int} {imageX : Int → Int} {isMade : Int → Int}
theorem tr_and {a : Int} (h0 : 0 ≤ a) (h1 : a ≤ 127) (b : Int) : 0 ≤ ab_iand a b ∧ ab_iand a b ≤ 127 := by
  unfold ab_iand
  have h : (Int32.ofInt a &&& Int32.ofInt b).toBitVec.toNat ≤ 127 := by
    show ((Int32.ofInt a).toBitVec &&& (Int32.ofInt b).toBitVec).toNat ≤ 127
    rw [BitVec.toNat_and, ab_natbv h0 (by omega)]
    exact Nat.le_trans Nat.and_le_left (by omega)
  rw [ab_bvint rfl (by omega)]
  omega
theorem tr_or {a k : Int} (h0 : 0 ≤ a) (h1 : a ≤ 127) (hk0 : 0 ≤ k) (hk1 : k ≤ 6) : 0 ≤ ab_ior a (1 * 2 ^ k.toNat) ∧ ab_ior a (1 * 2 ^ k.toNat) ≤ 127 := by
  have hp : (1 : Int) * 2 ^ k.toNat = ((2 ^ k.toNat : Nat) : Int) := by rw [Int.one_mul]; push_cast; rfl
  have hb : 2 ^ k.toNat ≤ 2 ^ 6 := Nat.pow_le_pow_right (by decide) (by omega)
  rw [hp]
  generalize 2 ^ k.toNat = N at hb ⊢
  rw [ab_ior_nat h0 (by omega) (by omega) (by omega)]
  have q : (a.toNat ||| (N : Int).toNat) < 2 ^ 7 := Nat.or_lt_two_pow (by omega) (by rw [Int.toNat_natCast]; omega)
  omega
theorem de_Mo_gathersTrades_0 : decode prog_14_method_99_code 0 = .ok (.iconst 0, 1) := by decide +kernel
theorem de_Mo_gathersTrades_1 : decode prog_14_method_99_code 1 = .ok (.istore_n 1, 1) := by decide +kernel
theorem de_Mo_gathersTrades_2 : decode prog_14_method_99_code 2 = .ok (.iconst 0, 1) := by decide +kernel
theorem de_Mo_gathersTrades_3 : decode prog_14_method_99_code 3 = .ok (.istore_n 2, 1) := by decide +kernel
theorem de_Mo_gathersTrades_4 : decode prog_14_method_99_code 4 = .ok (.aload_n 0, 1) := by decide +kernel
theorem de_Mo_gathersTrades_5 : decode prog_14_method_99_code 5 = .ok (.iconst 0, 1) := by decide +kernel
theorem de_Mo_gathersTrades_6 : decode prog_14_method_99_code 6 = .ok (.putfield 420, 3) := by decide +kernel
theorem de_Mo_gathersTrades_9 : decode prog_14_method_99_code 9 = .ok (.aload_n 0, 1) := by decide +kernel
theorem de_Mo_gathersTrades_10 : decode prog_14_method_99_code 10 = .ok (.getfield 60, 3) := by decide +kernel
theorem de_Mo_gathersTrades_13 : decode prog_14_method_99_code 13 = .ok (.iconst 0, 1) := by decide +kernel
theorem de_Mo_gathersTrades_14 : decode prog_14_method_99_code 14 = .ok (.iconst (-1), 1) := by decide +kernel
theorem de_Mo_gathersTrades_15 : decode prog_14_method_99_code 15 = .ok (.iastore, 1) := by decide +kernel
theorem de_Mo_gathersTrades_16 : decode prog_14_method_99_code 16 = .ok (.iload_n 2, 1) := by decide +kernel
theorem de_Mo_gathersTrades_17 : decode prog_14_method_99_code 17 = .ok (.ifCond .lt 157, 3) := by decide +kernel
theorem de_Mo_gathersTrades_20 : decode prog_14_method_99_code 20 = .ok (.iload_n 2, 1) := by decide +kernel
theorem de_Mo_gathersTrades_21 : decode prog_14_method_99_code 21 = .ok (.aload_n 0, 1) := by decide +kernel
theorem de_Mo_gathersTrades_22 : decode prog_14_method_99_code 22 = .ok (.getfield 39, 3) := by decide +kernel
theorem de_Mo_gathersTrades_25 : decode prog_14_method_99_code 25 = .ok (.iconst 1, 1) := by decide +kernel
theorem de_Mo_gathersTrades_26 : decode prog_14_method_99_code 26 = .ok (.iaload, 1) := by decide +kernel
theorem de_Mo_gathersTrades_27 : decode prog_14_method_99_code 27 = .ok (.if_icmp .ne 7, 3) := by decide +kernel
theorem de_Mo_gathersTrades_30 : decode prog_14_method_99_code 30 = .ok (.aload_n 0, 1) := by decide +kernel
theorem de_Mo_gathersTrades_31 : decode prog_14_method_99_code 31 = .ok (.invokevirtual 426, 3) := by decide +kernel
theorem de_Mo_gathersTrades_34 : decode prog_14_method_99_code 34 = .ok (.iload_n 2, 1) := by decide +kernel
theorem de_Mo_gathersTrades_35 : decode prog_14_method_99_code 35 = .ok (.aload_n 0, 1) := by decide +kernel
theorem de_Mo_gathersTrades_36 : decode prog_14_method_99_code 36 = .ok (.getfield 39, 3) := by decide +kernel
theorem de_Mo_gathersTrades_39 : decode prog_14_method_99_code 39 = .ok (.iconst 1, 1) := by decide +kernel
theorem de_Mo_gathersTrades_40 : decode prog_14_method_99_code 40 = .ok (.iaload, 1) := by decide +kernel
theorem de_Mo_gathersTrades_41 : decode prog_14_method_99_code 41 = .ok (.if_icmp .ne 12, 3) := by decide +kernel
theorem de_Mo_gathersTrades_44 : decode prog_14_method_99_code 44 = .ok (.aload_n 0, 1) := by decide +kernel
theorem de_Mo_gathersTrades_45 : decode prog_14_method_99_code 45 = .ok (.getfield 39, 3) := by decide +kernel
theorem de_Mo_gathersTrades_48 : decode prog_14_method_99_code 48 = .ok (.iconst 1, 1) := by decide +kernel
theorem de_Mo_gathersTrades_49 : decode prog_14_method_99_code 49 = .ok (.iaload, 1) := by decide +kernel
theorem de_Mo_gathersTrades_50 : decode prog_14_method_99_code 50 = .ok (.goto 11, 3) := by decide +kernel
theorem de_Mo_gathersTrades_53 : decode prog_14_method_99_code 53 = .ok (.aload_n 0, 1) := by decide +kernel
theorem de_Mo_gathersTrades_54 : decode prog_14_method_99_code 54 = .ok (.getfield 60, 3) := by decide +kernel
theorem de_Mo_gathersTrades_57 : decode prog_14_method_99_code 57 = .ok (.iload_n 2, 1) := by decide +kernel
theorem de_Mo_gathersTrades_58 : decode prog_14_method_99_code 58 = .ok (.iaload, 1) := by decide +kernel
theorem de_Mo_gathersTrades_59 : decode prog_14_method_99_code 59 = .ok (.iconst 1, 1) := by decide +kernel
theorem de_Mo_gathersTrades_60 : decode prog_14_method_99_code 60 = .ok (.iadd, 1) := by decide +kernel
theorem de_Mo_gathersTrades_61 : decode prog_14_method_99_code 61 = .ok (.istore_n 3, 1) := by decide +kernel
theorem de_Mo_gathersTrades_62 : decode prog_14_method_99_code 62 = .ok (.iload_n 3, 1) := by decide +kernel
theorem de_Mo_gathersTrades_63 : decode prog_14_method_99_code 63 = .ok (.aload_n 0, 1) := by decide +kernel
theorem de_Mo_gathersTrades_64 : decode prog_14_method_99_code 64 = .ok (.getfield 39, 3) := by decide +kernel
theorem de_Mo_gathersTrades_67 : decode prog_14_method_99_code 67 = .ok (.iconst 1, 1) := by decide +kernel
theorem de_Mo_gathersTrades_68 : decode prog_14_method_99_code 68 = .ok (.iaload, 1) := by decide +kernel
theorem de_Mo_gathersTrades_69 : decode prog_14_method_99_code 69 = .ok (.if_icmp .ge 36, 3) := by decide +kernel
theorem de_Mo_gathersTrades_72 : decode prog_14_method_99_code 72 = .ok (.iload_n 1, 1) := by decide +kernel
theorem de_Mo_gathersTrades_73 : decode prog_14_method_99_code 73 = .ok (.iload_n 3, 1) := by decide +kernel
theorem de_Mo_gathersTrades_74 : decode prog_14_method_99_code 74 = .ok (.invokestatic 294, 3) := by decide +kernel
theorem de_Mo_gathersTrades_77 : decode prog_14_method_99_code 77 = .ok (.ifCond .ne 22, 3) := by decide +kernel
theorem de_Mo_gathersTrades_80 : decode prog_14_method_99_code 80 = .ok (.aload_n 0, 1) := by decide +kernel
theorem de_Mo_gathersTrades_81 : decode prog_14_method_99_code 81 = .ok (.getfield 57, 3) := by decide +kernel
theorem de_Mo_gathersTrades_84 : decode prog_14_method_99_code 84 = .ok (.bipush 7, 2) := by decide +kernel
theorem de_Mo_gathersTrades_86 : decode prog_14_method_99_code 86 = .ok (.iload_n 2, 1) := by decide +kernel
theorem de_Mo_gathersTrades_87 : decode prog_14_method_99_code 87 = .ok (.imul, 1) := by decide +kernel
theorem de_Mo_gathersTrades_88 : decode prog_14_method_99_code 88 = .ok (.iload_n 3, 1) := by decide +kernel
theorem de_Mo_gathersTrades_89 : decode prog_14_method_99_code 89 = .ok (.iadd, 1) := by decide +kernel
theorem de_Mo_gathersTrades_90 : decode prog_14_method_99_code 90 = .ok (.iaload, 1) := by decide +kernel
theorem de_Mo_gathersTrades_91 : decode prog_14_method_99_code 91 = .ok (.aload_n 0, 1) := by decide +kernel
theorem de_Mo_gathersTrades_92 : decode prog_14_method_99_code 92 = .ok (.iload_n 2, 1) := by decide +kernel
theorem de_Mo_gathersTrades_93 : decode prog_14_method_99_code 93 = .ok (.invokevirtual 429, 3) := by decide +kernel
theorem de_Mo_gathersTrades_96 : decode prog_14_method_99_code 96 = .ok (.if_icmp .ge 9, 3) := by decide +kernel
theorem de_Mo_gathersTrades_99 : decode prog_14_method_99_code 99 = .ok (.iinc 3 1, 3) := by decide +kernel
theorem de_Mo_gathersTrades_102 : decode prog_14_method_99_code 102 = .ok (.goto (-40), 3) := by decide +kernel
theorem de_Mo_gathersTrades_105 : decode prog_14_method_99_code 105 = .ok (.iload_n 3, 1) := by decide +kernel
theorem de_Mo_gathersTrades_106 : decode prog_14_method_99_code 106 = .ok (.aload_n 0, 1) := by decide +kernel
theorem de_Mo_gathersTrades_107 : decode prog_14_method_99_code 107 = .ok (.getfield 39, 3) := by decide +kernel
theorem de_Mo_gathersTrades_110 : decode prog_14_method_99_code 110 = .ok (.iconst 1, 1) := by decide +kernel
theorem de_Mo_gathersTrades_111 : decode prog_14_method_99_code 111 = .ok (.iaload, 1) := by decide +kernel
theorem de_Mo_gathersTrades_112 : decode prog_14_method_99_code 112 = .ok (.if_icmp .ne 26, 3) := by decide +kernel
theorem de_Mo_gathersTrades_115 : decode prog_14_method_99_code 115 = .ok (.iinc 2 (-1), 3) := by decide +kernel
theorem de_Mo_gathersTrades_118 : decode prog_14_method_99_code 118 = .ok (.iload_n 2, 1) := by decide +kernel
theorem de_Mo_gathersTrades_119 : decode prog_14_method_99_code 119 = .ok (.ifCond .lt (-103), 3) := by decide +kernel
theorem de_Mo_gathersTrades_122 : decode prog_14_method_99_code 122 = .ok (.iload_n 1, 1) := by decide +kernel
theorem de_Mo_gathersTrades_123 : decode prog_14_method_99_code 123 = .ok (.iconst 1, 1) := by decide +kernel
theorem de_Mo_gathersTrades_124 : decode prog_14_method_99_code 124 = .ok (.aload_n 0, 1) := by decide +kernel
theorem de_Mo_gathersTrades_125 : decode prog_14_method_99_code 125 = .ok (.getfield 60, 3) := by decide +kernel
theorem de_Mo_gathersTrades_128 : decode prog_14_method_99_code 128 = .ok (.iload_n 2, 1) := by decide +kernel
theorem de_Mo_gathersTrades_129 : decode prog_14_method_99_code 129 = .ok (.iaload, 1) := by decide +kernel
theorem de_Mo_gathersTrades_130 : decode prog_14_method_99_code 130 = .ok (.ishl, 1) := by decide +kernel
theorem de_Mo_gathersTrades_131 : decode prog_14_method_99_code 131 = .ok (.iconst (-1), 1) := by decide +kernel
theorem de_Mo_gathersTrades_132 : decode prog_14_method_99_code 132 = .ok (.ixor, 1) := by decide +kernel
theorem de_Mo_gathersTrades_133 : decode prog_14_method_99_code 133 = .ok (.iand, 1) := by decide +kernel
theorem de_Mo_gathersTrades_134 : decode prog_14_method_99_code 134 = .ok (.istore_n 1, 1) := by decide +kernel
theorem de_Mo_gathersTrades_135 : decode prog_14_method_99_code 135 = .ok (.goto (-119), 3) := by decide +kernel
theorem de_Mo_gathersTrades_138 : decode prog_14_method_99_code 138 = .ok (.aload_n 0, 1) := by decide +kernel
theorem de_Mo_gathersTrades_139 : decode prog_14_method_99_code 139 = .ok (.getfield 60, 3) := by decide +kernel
theorem de_Mo_gathersTrades_142 : decode prog_14_method_99_code 142 = .ok (.iload_n 2, 1) := by decide +kernel
theorem de_Mo_gathersTrades_143 : decode prog_14_method_99_code 143 = .ok (.iload_n 3, 1) := by decide +kernel
theorem de_Mo_gathersTrades_144 : decode prog_14_method_99_code 144 = .ok (.iastore, 1) := by decide +kernel
theorem de_Mo_gathersTrades_145 : decode prog_14_method_99_code 145 = .ok (.iload_n 1, 1) := by decide +kernel
theorem de_Mo_gathersTrades_146 : decode prog_14_method_99_code 146 = .ok (.iconst 1, 1) := by decide +kernel
theorem de_Mo_gathersTrades_147 : decode prog_14_method_99_code 147 = .ok (.iload_n 3, 1) := by decide +kernel
theorem de_Mo_gathersTrades_148 : decode prog_14_method_99_code 148 = .ok (.ishl, 1) := by decide +kernel
theorem de_Mo_gathersTrades_149 : decode prog_14_method_99_code 149 = .ok (.ior, 1) := by decide +kernel
theorem de_Mo_gathersTrades_150 : decode prog_14_method_99_code 150 = .ok (.istore_n 1, 1) := by decide +kernel
theorem de_Mo_gathersTrades_151 : decode prog_14_method_99_code 151 = .ok (.iinc 2 1, 3) := by decide +kernel
theorem de_Mo_gathersTrades_154 : decode prog_14_method_99_code 154 = .ok (.iload_n 2, 1) := by decide +kernel
theorem de_Mo_gathersTrades_155 : decode prog_14_method_99_code 155 = .ok (.aload_n 0, 1) := by decide +kernel
theorem de_Mo_gathersTrades_156 : decode prog_14_method_99_code 156 = .ok (.getfield 39, 3) := by decide +kernel
theorem de_Mo_gathersTrades_159 : decode prog_14_method_99_code 159 = .ok (.iconst 1, 1) := by decide +kernel
theorem de_Mo_gathersTrades_160 : decode prog_14_method_99_code 160 = .ok (.iaload, 1) := by decide +kernel
theorem de_Mo_gathersTrades_161 : decode prog_14_method_99_code 161 = .ok (.if_icmp .ge 10, 3) := by decide +kernel
theorem de_Mo_gathersTrades_164 : decode prog_14_method_99_code 164 = .ok (.aload_n 0, 1) := by decide +kernel
theorem de_Mo_gathersTrades_165 : decode prog_14_method_99_code 165 = .ok (.getfield 60, 3) := by decide +kernel
theorem de_Mo_gathersTrades_168 : decode prog_14_method_99_code 168 = .ok (.iload_n 2, 1) := by decide +kernel
theorem de_Mo_gathersTrades_169 : decode prog_14_method_99_code 169 = .ok (.iconst (-1), 1) := by decide +kernel
theorem de_Mo_gathersTrades_170 : decode prog_14_method_99_code 170 = .ok (.iastore, 1) := by decide +kernel
theorem de_Mo_gathersTrades_171 : decode prog_14_method_99_code 171 = .ok (.goto (-155), 3) := by decide +kernel
theorem de_Mo_gathersTrades_174 : decode prog_14_method_99_code 174 = .ok (.return_, 1) := by decide +kernel
set_option maxHeartbeats 4000000 in
set_option maxRecDepth 10000 in
theorem lk_Mo_gathers {B : Int} (hI : sg_ok B said) (hd : td_d dayAt) (hsl : td_s slotAt) (used : Int) (hu0 : 0 ≤ used) (hu1 : used ≤ 127) (h0 : Int) (hh0 : 0 ≤ h0) (hh1 : h0 < said 1) (k0 : Int) (kk : ∀ k, k0 ≤ k → k ≤ said 1 → ab_Ev g_G g_rs mt_Mo_gathersTrades 2 0 0 105 [some (ab_R 0), some (ab_I used), some (ab_I h0), some (ab_I k)] [] (mo_W tape taped rules sign leng clause clauses read next wrong number text made deep lines opn opened stack top word said xx was undone kept sumOf faced slotAt dayAt row bestRow tMany tMost drawX images imageX isMade) (fun r w2 => r = none ∧ ∃ (rw_ br : Int → Int) (tm to_ : Int), ab_in tm ∧ ab_in to_ ∧ w2 = (mo_W tape taped rules sign leng clause clauses read next wrong number text made deep lines opn opened stack top word said xx was undone kept sumOf faced slotAt dayAt (rw_) (br) (tm) (to_) drawX images imageX isMade))) : ∀ (n : Nat) (k : Int), k0 ≤ k → 0 ≤ k → k ≤ said 1 → said 1 < k + n → ab_Ev g_G g_rs mt_Mo_gathersTrades 2 0 0 62 [some (ab_R 0), some (ab_I used), some (ab_I h0), some (ab_I k)] [] (mo_W tape taped rules sign leng clause clauses read next wrong number text made deep lines opn opened stack top word said xx was undone kept sumOf faced slotAt dayAt row bestRow tMany tMost drawX images imageX isMade) (fun r w2 => r = none ∧ ∃ (rw_ br : Int → Int) (tm to_ : Int), ab_in tm ∧ ab_in to_ ∧ w2 = (mo_W tape taped rules sign leng clause clauses read next wrong number text made deep lines opn opened stack top word said xx was undone kept sumOf faced slotAt dayAt (rw_) (br) (tm) (to_) drawX images imageX isMade)) := by
  intro n
  induction n with
  | zero =>
    intro k
    intro g g0 g1 g2; omega
  | succ n ih =>
    intro k
    intro g g0 g1 g2
    have hJ := hI; obtain ⟨i0, i1, i2, i3, i4, i5, i6, i7, i8, i9, i10, i11, i12, i13, i14, i15, i16, i17⟩ := sg_all hJ
    have qb := bit_01 used.toNat k.toNat
    refine ev_iload_n de_Mo_gathersTrades_62 rfl rfl ?_
    refine ev_aload_n de_Mo_gathersTrades_63 rfl rfl ?_
    refine ev_getfield de_Mo_gathersTrades_64 rfl fl_Mo_39 rfl ?_
    refine ev_iconst de_Mo_gathersTrades_67 ?_
    refine ev_iaload de_Mo_gathersTrades_68 rfl (by omega) (by omega) (by omega) ?_
    refine ev_icmp_ge (tgt := 105) de_Mo_gathersTrades_69 (by decide) (by omega) (by omega) (fun h69 => ?_) (fun h69 => ?_)
    · skip
      exact kk _ g g1
    · skip
      have q3 := hd (7 * h0 + k) (by omega) (by omega)
      refine ev_iload_n de_Mo_gathersTrades_72 rfl rfl ?_
      refine ev_iload_n de_Mo_gathersTrades_73 rfl rfl ?_
      refine ev_sv de_Mo_gathersTrades_74 (co_Mo_isOf _ used k hu0 (by omega) g0 (by omega)) kb_Mo_294 sc_Mo_isOf rfl (Nat.le_of_ble_eq_true rfl) (by decide) rfl ?_
      refine ev_if_ne (tgt := 99) de_Mo_gathersTrades_77 (by decide) (by omega) (fun h77 => ?_) (fun h77 => ?_)
      · skip
        refine ev_iinc (l' := [_, _, _, _]) de_Mo_gathersTrades_99 rfl rfl ?_
        refine ev_goto (tgt := 62) de_Mo_gathersTrades_102 (by decide) ?_
        exact ih (k + 1) (by omega) (by omega) (by omega) (by omega)
      · skip
        refine ev_aload_n de_Mo_gathersTrades_80 rfl rfl ?_
        refine ev_getfield de_Mo_gathersTrades_81 rfl fl_Mo_57 rfl ?_
        refine ev_bipush de_Mo_gathersTrades_84 rfl ?_
        refine ev_iload_n de_Mo_gathersTrades_86 rfl rfl ?_
        refine ev_imul de_Mo_gathersTrades_87 ?_
        refine ev_iload_n de_Mo_gathersTrades_88 rfl rfl ?_
        refine ev_iadd de_Mo_gathersTrades_89 ?_
        refine ev_iaload de_Mo_gathersTrades_90 rfl (by omega) (by omega) (by omega) ?_
        refine ev_aload_n de_Mo_gathersTrades_91 rfl rfl ?_
        refine ev_iload_n de_Mo_gathersTrades_92 rfl rfl ?_
        refine ev_virtual (ci := 11) (mc := 0) (ms := 0) (bc := 0) (bs := 0) de_Mo_gathersTrades_93 (co_Mo_dayNow hI hd hsl h0 hh0 (by omega)) kb_Mo_429 ⟨im_Mo_dayNow, se_Mo_dayNow⟩ rfl rfl rfl (Nat.le_of_ble_eq_true rfl) (by decide) (Or.inl (fun r w1 h => by obtain ⟨-, rfl⟩ := h; first | exact mo_Wn.trans mo_Wn.symm | rfl)) (fun r1 w1 hm1 => ?_)
        obtain ⟨⟨v, rfl, hv0, hv1⟩, rfl⟩ := hm1
        · skip
          refine ev_icmp_ge (tgt := 105) de_Mo_gathersTrades_96 (by decide) (by omega) (by omega) (fun h96 => ?_) (fun h96 => ?_)
          · skip
            exact kk _ g g1
          · skip
            refine ev_iinc (l' := [_, _, _, _]) de_Mo_gathersTrades_99 rfl rfl ?_
            refine ev_goto (tgt := 62) de_Mo_gathersTrades_102 (by decide) ?_
            exact ih (k + 1) (by omega) (by omega) (by omega) (by omega)
set_option maxHeartbeats 4000000 in
set_option maxRecDepth 10000 in
theorem lb_Mo_gathers {B : Int} (hI : sg_ok B said) (used : Int) (hu0 : 0 ≤ used) (hu1 : used ≤ 127) (h0 : Int) (hh0 : 0 ≤ h0) (hh1 : h0 ≤ said 1) (hrow : 1 ≤ h0 → 0 ≤ row (h0 + -1) ∧ row (h0 + -1) < 7) (K : ∀ used, 0 ≤ used → used ≤ 127 → ab_Ev g_G g_rs mt_Mo_gathersTrades 2 0 0 16 [some (ab_R 0), some (ab_I used), some (ab_I (h0 + -1)), some (ab_I (said 1))] [] (mo_W tape taped rules sign leng clause clauses read next wrong number text made deep lines opn opened stack top word said xx was undone kept sumOf faced slotAt dayAt row bestRow tMany tMost drawX images imageX isMade) (fun r w2 => r = none ∧ ∃ (rw_ br : Int → Int) (tm to_ : Int), ab_in tm ∧ ab_in to_ ∧ w2 = (mo_W tape taped rules sign leng clause clauses read next wrong number text made deep lines opn opened stack top word said xx was undone kept sumOf faced slotAt dayAt (rw_) (br) (tm) (to_) drawX images imageX isMade))) : ab_Ev g_G g_rs mt_Mo_gathersTrades 2 0 0 105 [some (ab_R 0), some (ab_I used), some (ab_I h0), some (ab_I (said 1))] [] (mo_W tape taped rules sign leng clause clauses read next wrong number text made deep lines opn opened stack top word said xx was undone kept sumOf faced slotAt dayAt row bestRow tMany tMost drawX images imageX isMade) (fun r w2 => r = none ∧ ∃ (rw_ br : Int → Int) (tm to_ : Int), ab_in tm ∧ ab_in to_ ∧ w2 = (mo_W tape taped rules sign leng clause clauses read next wrong number text made deep lines opn opened stack top word said xx was undone kept sumOf faced slotAt dayAt (rw_) (br) (tm) (to_) drawX images imageX isMade)) := by
  have hJ := hI; obtain ⟨i0, i1, i2, i3, i4, i5, i6, i7, i8, i9, i10, i11, i12, i13, i14, i15, i16, i17⟩ := sg_all hJ
  refine ev_iload_n de_Mo_gathersTrades_105 rfl rfl ?_
  refine ev_aload_n de_Mo_gathersTrades_106 rfl rfl ?_
  refine ev_getfield de_Mo_gathersTrades_107 rfl fl_Mo_39 rfl ?_
  refine ev_iconst de_Mo_gathersTrades_110 ?_
  refine ev_iaload de_Mo_gathersTrades_111 rfl (by omega) (by omega) (by omega) ?_
  refine ev_icmp_ne (tgt := 138) de_Mo_gathersTrades_112 (by decide) (by omega) (by omega) (fun h112 => ?_) (fun h112 => ?_)
  · exact absurd rfl h112
  · skip
    refine ev_iinc (l' := [_, _, _, _]) de_Mo_gathersTrades_115 rfl rfl ?_
    refine ev_iload_n de_Mo_gathersTrades_118 rfl rfl ?_
    refine ev_if_lt (tgt := 16) de_Mo_gathersTrades_119 (by decide) (by omega) (fun h119 => ?_) (fun h119 => ?_)
    · skip
      exact K _ hu0 hu1
    · skip
      have q1 := hrow (by omega)
      refine ev_iload_n de_Mo_gathersTrades_122 rfl rfl ?_
      refine ev_iconst de_Mo_gathersTrades_123 ?_
      refine ev_aload_n de_Mo_gathersTrades_124 rfl rfl ?_
      refine ev_getfield de_Mo_gathersTrades_125 rfl fl_Mo_60 rfl ?_
      refine ev_iload_n de_Mo_gathersTrades_128 rfl rfl ?_
      refine ev_iaload de_Mo_gathersTrades_129 rfl (by omega) (by omega) (by omega) ?_
      refine ev_ishl de_Mo_gathersTrades_130 (by omega) (by omega) ?_
      refine ev_iconst de_Mo_gathersTrades_131 ?_
      refine ev_ixor de_Mo_gathersTrades_132 ?_
      refine ev_iand de_Mo_gathersTrades_133 ?_
      refine ev_istore_n (l' := [_, _, _, _]) de_Mo_gathersTrades_134 rfl (Nat.le_of_ble_eq_true rfl) rfl ?_
      refine ev_goto (tgt := 16) de_Mo_gathersTrades_135 (by decide) ?_
      have q := tr_and hu0 hu1 (ab_ixor (1 * 2 ^ (row (h0 + -1)).toNat) (-1))
      exact K _ q.1 q.2
set_option maxHeartbeats 4000000 in
set_option maxRecDepth 10000 in
theorem la_Mo_gathers {B : Int} (hI : sg_ok B said) (used : Int) (hu0 : 0 ≤ used) (hu1 : used ≤ 127) (h0 k : Int) (hh0 : 0 ≤ h0) (hh1 : h0 < said 1) (hk0 : 0 ≤ k) (hk1 : k < said 1) (N : ∀ (used : Int) (row2 : Int → Int), 0 ≤ used → used ≤ 127 → (∀ j, 0 ≤ j → j < h0 → row2 j = row j) → row2 h0 = k → (h0 + 1 < said 1 → row2 (h0 + 1) = -1) → ab_Ev g_G g_rs mt_Mo_gathersTrades 2 0 0 16 [some (ab_R 0), some (ab_I used), some (ab_I (h0 + 1)), some (ab_I k)] [] (mo_W tape taped rules sign leng clause clauses read next wrong number text made deep lines opn opened stack top word said xx was undone kept sumOf faced slotAt dayAt (row2) bestRow tMany tMost drawX images imageX isMade) (fun r w2 => r = none ∧ ∃ (rw_ br : Int → Int) (tm to_ : Int), ab_in tm ∧ ab_in to_ ∧ w2 = (mo_W tape taped rules sign leng clause clauses read next wrong number text made deep lines opn opened stack top word said xx was undone kept sumOf faced slotAt dayAt (rw_) (br) (tm) (to_) drawX images imageX isMade))) : ab_Ev g_G g_rs mt_Mo_gathersTrades 2 0 0 105 [some (ab_R 0), some (ab_I used), some (ab_I h0), some (ab_I k)] [] (mo_W tape taped rules sign leng clause clauses read next wrong number text made deep lines opn opened stack top word said xx was undone kept sumOf faced slotAt dayAt row bestRow tMany tMost drawX images imageX isMade) (fun r w2 => r = none ∧ ∃ (rw_ br : Int → Int) (tm to_ : Int), ab_in tm ∧ ab_in to_ ∧ w2 = (mo_W tape taped rules sign leng clause clauses read next wrong number text made deep lines opn opened stack top word said xx was undone kept sumOf faced slotAt dayAt (rw_) (br) (tm) (to_) drawX images imageX isMade)) := by
  have hJ := hI; obtain ⟨i0, i1, i2, i3, i4, i5, i6, i7, i8, i9, i10, i11, i12, i13, i14, i15, i16, i17⟩ := sg_all hJ
  refine ev_iload_n de_Mo_gathersTrades_105 rfl rfl ?_
  refine ev_aload_n de_Mo_gathersTrades_106 rfl rfl ?_
  refine ev_getfield de_Mo_gathersTrades_107 rfl fl_Mo_39 rfl ?_
  refine ev_iconst de_Mo_gathersTrades_110 ?_
  refine ev_iaload de_Mo_gathersTrades_111 rfl (by omega) (by omega) (by omega) ?_
  refine ev_icmp_ne (tgt := 138) de_Mo_gathersTrades_112 (by decide) (by omega) (by omega) (fun h112 => ?_) (fun h112 => ?_)
  · skip
    have q := tr_or hu0 hu1 hk0 (show k ≤ 6 by omega)
    refine ev_aload_n de_Mo_gathersTrades_138 rfl rfl ?_
    refine ev_getfield de_Mo_gathersTrades_139 rfl fl_Mo_60 rfl ?_
    refine ev_iload_n de_Mo_gathersTrades_142 rfl rfl ?_
    refine ev_iload_n de_Mo_gathersTrades_143 rfl rfl ?_
    refine ev_iastore de_Mo_gathersTrades_144 rfl (by omega) (by omega) (by omega) ?_
    refine ev_world (w' := mo_W _ _ _ _ _ _ _ _ _ _ _ _ _ _ _ _ _ _ _ _ _ _ _ _ _ _ _ _ _ _ _ _ _ _ _ _ _) rfl ?_
    refine ev_iload_n de_Mo_gathersTrades_145 rfl rfl ?_
    refine ev_iconst de_Mo_gathersTrades_146 ?_
    refine ev_iload_n de_Mo_gathersTrades_147 rfl rfl ?_
    refine ev_ishl de_Mo_gathersTrades_148 (by omega) (by omega) ?_
    refine ev_ior de_Mo_gathersTrades_149 ?_
    refine ev_istore_n (l' := [_, _, _, _]) de_Mo_gathersTrades_150 rfl (Nat.le_of_ble_eq_true rfl) rfl ?_
    refine ev_iinc (l' := [_, _, _, _]) de_Mo_gathersTrades_151 rfl rfl ?_
    refine ev_iload_n de_Mo_gathersTrades_154 rfl rfl ?_
    refine ev_aload_n de_Mo_gathersTrades_155 rfl rfl ?_
    refine ev_getfield de_Mo_gathersTrades_156 rfl fl_Mo_39 rfl ?_
    refine ev_iconst de_Mo_gathersTrades_159 ?_
    refine ev_iaload de_Mo_gathersTrades_160 rfl (by omega) (by omega) (by omega) ?_
    refine ev_icmp_ge (tgt := 171) de_Mo_gathersTrades_161 (by decide) (by omega) (by omega) (fun h161 => ?_) (fun h161 => ?_)
    · skip
      refine ev_goto (tgt := 16) de_Mo_gathersTrades_171 (by decide) ?_
      exact N _ _ q.1 q.2 (fun j a b => ab_upn _ _ (by omega)) (ab_upe _ _ _) (fun z => absurd z (by omega))
    · skip
      refine ev_aload_n de_Mo_gathersTrades_164 rfl rfl ?_
      refine ev_getfield de_Mo_gathersTrades_165 rfl fl_Mo_60 rfl ?_
      refine ev_iload_n de_Mo_gathersTrades_168 rfl rfl ?_
      refine ev_iconst de_Mo_gathersTrades_169 ?_
      refine ev_iastore de_Mo_gathersTrades_170 rfl (by omega) (by omega) (by omega) ?_
      refine ev_world (w' := mo_W _ _ _ _ _ _ _ _ _ _ _ _ _ _ _ _ _ _ _ _ _ _ _ _ _ _ _ _ _ _ _ _ _ _ _ _ _) rfl ?_
      refine ev_goto (tgt := 16) de_Mo_gathersTrades_171 (by decide) ?_
      exact N _ _ q.1 q.2 (fun j a b => by rw [ab_upn _ _ (by omega), ab_upn _ _ (by omega)]) (by rw [ab_upn _ _ (by omega), ab_upe]) (fun _ => ab_upe _ _ _)
  · exact absurd h112 (by omega)
set_option maxHeartbeats 4000000 in
set_option maxRecDepth 10000 in
theorem lg_Mo_gathers {B : Int} (hI : sg_ok B said) (hd : td_d dayAt) (hsl : td_s slotAt) : ∀ (m : Nat) (h0 : Int) (p : Int → Int), h0 + (m : Int) = said 1 → 0 ≤ h0 → td_r p h0 (said 1) → (∀ (used : Int) (l3 : Option ab_V) (row bestRow : Int → Int) (tMany tMost : Int), 0 ≤ used → used ≤ 127 → (∀ j, 0 ≤ j → j < h0 → row j = p j) → ab_in tMany → ab_in tMost → ab_Ev g_G g_rs mt_Mo_gathersTrades 2 0 0 16 [some (ab_R 0), some (ab_I used), some (ab_I (h0 + -1)), l3] [] (mo_W tape taped rules sign leng clause clauses read next wrong number text made deep lines opn opened stack top word said xx was undone kept sumOf faced slotAt dayAt row bestRow tMany tMost drawX images imageX isMade) (fun r w2 => r = none ∧ ∃ (rw_ br : Int → Int) (tm to_ : Int), ab_in tm ∧ ab_in to_ ∧ w2 = (mo_W tape taped rules sign leng clause clauses read next wrong number text made deep lines opn opened stack top word said xx was undone kept sumOf faced slotAt dayAt (rw_) (br) (tm) (to_) drawX images imageX isMade))) → ∀ (n : Nat) (used : Int) (l3 : Option ab_V) (row bestRow : Int → Int) (tMany tMost : Int), (h0 < said 1 → -1 ≤ row h0 ∧ row h0 < said 1 ∧ said 1 - 1 - row h0 < n) → 0 ≤ used → used ≤ 127 → (∀ j, 0 ≤ j → j < h0 → row j = p j) → ab_in tMany → ab_in tMost → ab_Ev g_G g_rs mt_Mo_gathersTrades 2 0 0 16 [some (ab_R 0), some (ab_I used), some (ab_I h0), l3] [] (mo_W tape taped rules sign leng clause clauses read next wrong number text made deep lines opn opened stack top word said xx was undone kept sumOf faced slotAt dayAt row bestRow tMany tMost drawX images imageX isMade) (fun r w2 => r = none ∧ ∃ (rw_ br : Int → Int) (tm to_ : Int), ab_in tm ∧ ab_in to_ ∧ w2 = (mo_W tape taped rules sign leng clause clauses read next wrong number text made deep lines opn opened stack top word said xx was undone kept sumOf faced slotAt dayAt (rw_) (br) (tm) (to_) drawX images imageX isMade)) := by
  intro m
  induction m with
  | zero =>
    intro h0 p hm hh0 hp K n used l3 row bestRow tMany tMost hr hu0 hu1 ha htm hto
    have hrr : td_r row (said 1) (said 1) := fun j a b => by rw [ha j a (by omega)]; exact hp j a (by omega)
    have hJ := hI; obtain ⟨i0, i1, i2, i3, i4, i5, i6, i7, i8, i9, i10, i11, i12, i13, i14, i15, i16, i17⟩ := sg_all hJ
    refine ev_iload_n de_Mo_gathersTrades_16 rfl rfl ?_
    refine ev_if_lt (tgt := 174) de_Mo_gathersTrades_17 (by decide) (by omega) (fun h17 => ?_) (fun h17 => ?_)
    · exact absurd h17 (by omega)
    · skip
      refine ev_iload_n de_Mo_gathersTrades_20 rfl rfl ?_
      refine ev_aload_n de_Mo_gathersTrades_21 rfl rfl ?_
      refine ev_getfield de_Mo_gathersTrades_22 rfl fl_Mo_39 rfl ?_
      refine ev_iconst de_Mo_gathersTrades_25 ?_
      refine ev_iaload de_Mo_gathersTrades_26 rfl (by omega) (by omega) (by omega) ?_
      refine ev_icmp_ne (tgt := 34) de_Mo_gathersTrades_27 (by decide) (by omega) (by omega) (fun h27 => ?_) (fun h27 => ?_)
      · exact absurd (show h0 = said 1 by omega) h27
      · skip
        refine ev_aload_n de_Mo_gathersTrades_30 rfl rfl ?_
        refine ev_virtual (ci := 11) (mc := 0) (ms := 0) (bc := 0) (bs := 0) de_Mo_gathersTrades_31 (co_Mo_countsRow hI hd hsl hrr htm hto) kb_Mo_426 ⟨im_Mo_countsRow, se_Mo_countsRow⟩ rfl rfl rfl (Nat.le_of_ble_eq_true rfl) (by decide) (Or.inl (fun r w1 h => by obtain ⟨-, br, tm, to_, -, -, rfl⟩ := h; first | exact mo_Wn.trans mo_Wn.symm | rfl)) (fun r1 w1 hm1 => ?_)
        obtain ⟨rfl, br, tm, to_, htm2, hto2, rfl⟩ := hm1
        · skip
          refine ev_iload_n de_Mo_gathersTrades_34 rfl rfl ?_
          refine ev_aload_n de_Mo_gathersTrades_35 rfl rfl ?_
          refine ev_getfield de_Mo_gathersTrades_36 rfl fl_Mo_39 rfl ?_
          refine ev_iconst de_Mo_gathersTrades_39 ?_
          refine ev_iaload de_Mo_gathersTrades_40 rfl (by omega) (by omega) (by omega) ?_
          refine ev_icmp_ne (tgt := 53) de_Mo_gathersTrades_41 (by decide) (by omega) (by omega) (fun h41 => ?_) (fun h41 => ?_)
          · exact absurd (show h0 = said 1 by omega) h41
          · skip
            refine ev_aload_n de_Mo_gathersTrades_44 rfl rfl ?_
            refine ev_getfield de_Mo_gathersTrades_45 rfl fl_Mo_39 rfl ?_
            refine ev_iconst de_Mo_gathersTrades_48 ?_
            refine ev_iaload de_Mo_gathersTrades_49 rfl (by omega) (by omega) (by omega) ?_
            refine ev_goto (tgt := 61) de_Mo_gathersTrades_50 (by decide) ?_
            refine ev_istore_n (l' := [_, _, _, _]) de_Mo_gathersTrades_61 rfl (Nat.le_of_ble_eq_true rfl) rfl ?_
            refine ev_iload_n de_Mo_gathersTrades_62 rfl rfl ?_
            refine ev_aload_n de_Mo_gathersTrades_63 rfl rfl ?_
            refine ev_getfield de_Mo_gathersTrades_64 rfl fl_Mo_39 rfl ?_
            refine ev_iconst de_Mo_gathersTrades_67 ?_
            refine ev_iaload de_Mo_gathersTrades_68 rfl (by omega) (by omega) (by omega) ?_
            refine ev_icmp_ge (tgt := 105) de_Mo_gathersTrades_69 (by decide) (by omega) (by omega) (fun h69 => ?_) (fun h69 => ?_)
            · skip
              exact lb_Mo_gathers hI used hu0 hu1 h0 hh0 (by omega) (fun z => by have q := hrr (h0 + -1) (by omega) (by omega); omega) (fun used hu0 hu1 => K used _ row _ _ _ hu0 hu1 ha htm2 hto2)
            · exact absurd (Int.le_refl _) h69
  | succ m ih =>
    intro h0 p hm hh0 hp K n
    induction n with
    | zero => intro used l3 row bestRow tMany tMost hr; have q := hr (by omega); omega
    | succ n ihn =>
      intro used l3 row bestRow tMany tMost hr hu0 hu1 ha htm hto
      have q0 := hr (by omega)
      have hJ := hI; obtain ⟨i0, i1, i2, i3, i4, i5, i6, i7, i8, i9, i10, i11, i12, i13, i14, i15, i16, i17⟩ := sg_all hJ
      refine ev_iload_n de_Mo_gathersTrades_16 rfl rfl ?_
      refine ev_if_lt (tgt := 174) de_Mo_gathersTrades_17 (by decide) (by omega) (fun h17 => ?_) (fun h17 => ?_)
      · exact absurd h17 (by omega)
      · skip
        refine ev_iload_n de_Mo_gathersTrades_20 rfl rfl ?_
        refine ev_aload_n de_Mo_gathersTrades_21 rfl rfl ?_
        refine ev_getfield de_Mo_gathersTrades_22 rfl fl_Mo_39 rfl ?_
        refine ev_iconst de_Mo_gathersTrades_25 ?_
        refine ev_iaload de_Mo_gathersTrades_26 rfl (by omega) (by omega) (by omega) ?_
        refine ev_icmp_ne (tgt := 34) de_Mo_gathersTrades_27 (by decide) (by omega) (by omega) (fun h27 => ?_) (fun h27 => ?_)
        · skip
          refine ev_iload_n de_Mo_gathersTrades_34 rfl rfl ?_
          refine ev_aload_n de_Mo_gathersTrades_35 rfl rfl ?_
          refine ev_getfield de_Mo_gathersTrades_36 rfl fl_Mo_39 rfl ?_
          refine ev_iconst de_Mo_gathersTrades_39 ?_
          refine ev_iaload de_Mo_gathersTrades_40 rfl (by omega) (by omega) (by omega) ?_
          refine ev_icmp_ne (tgt := 53) de_Mo_gathersTrades_41 (by decide) (by omega) (by omega) (fun h41 => ?_) (fun h41 => ?_)
          · skip
            refine ev_aload_n de_Mo_gathersTrades_53 rfl rfl ?_
            refine ev_getfield de_Mo_gathersTrades_54 rfl fl_Mo_60 rfl ?_
            refine ev_iload_n de_Mo_gathersTrades_57 rfl rfl ?_
            refine ev_iaload de_Mo_gathersTrades_58 rfl (by omega) (by omega) (by omega) ?_
            refine ev_iconst de_Mo_gathersTrades_59 ?_
            refine ev_iadd de_Mo_gathersTrades_60 ?_
            refine ev_istore_n (l' := [_, _, _, _]) de_Mo_gathersTrades_61 rfl (Nat.le_of_ble_eq_true rfl) rfl ?_
            refine lk_Mo_gathers hI hd hsl used hu0 hu1 h0 hh0 (by omega) (row h0 + 1) (fun k hk0 hk1 => ?_) 8 (row h0 + 1) (by omega) (by omega) (by omega) (by omega)
            by_cases c : k = said 1
            · subst c
              exact lb_Mo_gathers hI used hu0 hu1 h0 hh0 (by omega) (fun z => by rw [ha (h0 + -1) (by omega) (by omega)]; have q := hp (h0 + -1) (by omega) (by omega); omega) (fun used hu0 hu1 => K used _ row _ _ _ hu0 hu1 ha htm hto)
            · refine la_Mo_gathers hI used hu0 hu1 h0 k hh0 (by omega) (by omega) (by omega) (fun used row2 hu0 hu1 e1 e2 e3 => ?_)
              have hp2 : td_r row2 (h0 + 1) (said 1) := fun j a b => by
                by_cases z : j = h0
                · rw [z, e2]; omega
                · rw [e1 j a (by omega), ha j a (by omega)]; exact hp j a (by omega)
              refine ih (h0 + 1) row2 (by omega) (by omega) hp2 (fun used l3 row bestRow tMany tMost hu0 hu1 ha2 htm hto => ?_) 8 used _ row2 _ _ _ (fun z => by rw [e3 z]; omega) hu0 hu1 (fun j a b => rfl) htm hto
              have eh : row h0 = k := by rw [ha2 h0 hh0 (by omega)]; exact e2
              refine ev_loc (l2 := [some (ab_R 0), some (ab_I used), some (ab_I h0), l3]) (by rw [show h0 + 1 + -1 = h0 by omega]) ?_
              exact ihn used l3 row bestRow tMany tMost (fun _ => by rw [eh]; omega) hu0 hu1 (fun j a b => by rw [ha2 j a (by omega), e1 j a b]; exact ha j a b) htm hto
          · exact absurd h41 (by omega)
        · exact absurd h27 (by omega)
set_option maxHeartbeats 4000000 in
set_option maxRecDepth 10000 in
theorem co_Mo_gathersTrades {B : Int} (hI : sg_ok B said) (hd : td_d dayAt) (hsl : td_s slotAt) (htm : ab_in tMany) (hto : ab_in tMost) : ab_Mt g_G g_rs mt_Mo_gathersTrades 2 0 0 [ab_R 0] (mo_W tape taped rules sign leng clause clauses read next wrong number text made deep lines opn opened stack top word said xx was undone kept sumOf faced slotAt dayAt row bestRow tMany tMost drawX images imageX isMade) (fun r w2 => r = none ∧ ∃ (rw_ br : Int → Int) (tm to_ : Int), ab_in tm ∧ ab_in to_ ∧ w2 = (mo_W tape taped rules sign leng clause clauses read next wrong number text made deep lines opn opened stack top word said xx was undone kept sumOf faced slotAt dayAt (rw_) (br) (tm) (to_) drawX images imageX isMade)) := by
  refine ab_Mt.of rfl (Nat.le_of_ble_eq_true rfl) ?_
  show ab_Ev g_G g_rs mt_Mo_gathersTrades _ _ _ 0 [some (ab_R 0), none, none, none] [] _ _
  refine ev_iconst de_Mo_gathersTrades_0 ?_
  refine ev_istore_n (l' := [_, _, _, _]) de_Mo_gathersTrades_1 rfl (Nat.le_of_ble_eq_true rfl) rfl ?_
  refine ev_iconst de_Mo_gathersTrades_2 ?_
  refine ev_istore_n (l' := [_, _, _, _]) de_Mo_gathersTrades_3 rfl (Nat.le_of_ble_eq_true rfl) rfl ?_
  refine ev_aload_n de_Mo_gathersTrades_4 rfl rfl ?_
  refine ev_iconst de_Mo_gathersTrades_5 ?_
  refine ev_putfield de_Mo_gathersTrades_6 rfl (fp_Mo_420 _) (Nat.le_of_ble_eq_true rfl) trivial ?_
  refine ev_world (w' := mo_W _ _ _ _ _ _ _ _ _ _ _ _ _ _ _ _ _ _ _ _ _ _ _ _ _ _ _ _ _ _ _ _ _ _ _ _ _) rfl ?_
  refine ev_aload_n de_Mo_gathersTrades_9 rfl rfl ?_
  refine ev_getfield de_Mo_gathersTrades_10 rfl fl_Mo_60 rfl ?_
  refine ev_iconst de_Mo_gathersTrades_13 ?_
  refine ev_iconst de_Mo_gathersTrades_14 ?_
  refine ev_iastore de_Mo_gathersTrades_15 rfl (by omega) (by omega) (by omega) ?_
  refine ev_world (w' := mo_W _ _ _ _ _ _ _ _ _ _ _ _ _ _ _ _ _ _ _ _ _ _ _ _ _ _ _ _ _ _ _ _ _ _ _ _ _) rfl ?_
  have hJ := hI; obtain ⟨i0, i1, i2, i3, i4, i5, i6, i7, i8, i9, i10, i11, i12, i13, i14, i15, i16, i17⟩ := sg_all hJ
  refine lg_Mo_gathers hI hd hsl (said 1).toNat 0 row (by omega) (by omega) (fun j a b => by omega) (fun used l3 row bestRow tMany tMost hu0 hu1 ha htm hto => ?_) 9 0 _ _ _ _ _ (fun _ => by rw [ab_upe]; omega) (by omega) (by omega) (fun j a b => by omega) (by decide) hto
  refine ev_iload_n de_Mo_gathersTrades_16 rfl rfl ?_
  refine ev_if_lt (tgt := 174) de_Mo_gathersTrades_17 (by decide) (by decide) (fun _ => ?_) (fun h => absurd (by decide) h)
  exact ev_return de_Mo_gathersTrades_174 rfl ⟨rfl, _, _, _, _, htm, hto, rfl⟩
theorem de_Mo_trade_0 : decode prog_14_method_100_code 0 = .ok (.aload_n 0, 1) := by decide +kernel
theorem de_Mo_trade_1 : decode prog_14_method_100_code 1 = .ok (.invokevirtual 323, 3) := by decide +kernel
theorem de_Mo_trade_4 : decode prog_14_method_100_code 4 = .ok (.ifCond .eq 15, 3) := by decide +kernel
theorem de_Mo_trade_7 : decode prog_14_method_100_code 7 = .ok (.iload_n 1, 1) := by decide +kernel
theorem de_Mo_trade_8 : decode prog_14_method_100_code 8 = .ok (.i2l, 1) := by decide +kernel
theorem de_Mo_trade_9 : decode prog_14_method_100_code 9 = .ok (.lconst 0, 1) := by decide +kernel
theorem de_Mo_trade_10 : decode prog_14_method_100_code 10 = .ok (.ldc2_w 432, 3) := by decide +kernel
theorem de_Mo_trade_13 : decode prog_14_method_100_code 13 = .ok (.invokestatic 115, 3) := by decide +kernel
theorem de_Mo_trade_16 : decode prog_14_method_100_code 16 = .ok (.ifCond .ne 7, 3) := by decide +kernel
theorem de_Mo_trade_19 : decode prog_14_method_100_code 19 = .ok (.ldc_w 399, 3) := by decide +kernel
theorem de_Mo_trade_22 : decode prog_14_method_100_code 22 = .ok (.ireturn, 1) := by decide +kernel
theorem de_Mo_trade_23 : decode prog_14_method_100_code 23 = .ok (.aload_n 0, 1) := by decide +kernel
theorem de_Mo_trade_24 : decode prog_14_method_100_code 24 = .ok (.invokevirtual 434, 3) := by decide +kernel
theorem de_Mo_trade_27 : decode prog_14_method_100_code 27 = .ok (.aload_n 0, 1) := by decide +kernel
theorem de_Mo_trade_28 : decode prog_14_method_100_code 28 = .ok (.invokevirtual 437, 3) := by decide +kernel
theorem de_Mo_trade_31 : decode prog_14_method_100_code 31 = .ok (.iload_n 1, 1) := by decide +kernel
theorem de_Mo_trade_32 : decode prog_14_method_100_code 32 = .ok (.ifCond .ne 8, 3) := by decide +kernel
theorem de_Mo_trade_35 : decode prog_14_method_100_code 35 = .ok (.aload_n 0, 1) := by decide +kernel
theorem de_Mo_trade_36 : decode prog_14_method_100_code 36 = .ok (.getfield 420, 3) := by decide +kernel
theorem de_Mo_trade_39 : decode prog_14_method_100_code 39 = .ok (.ireturn, 1) := by decide +kernel
theorem de_Mo_trade_40 : decode prog_14_method_100_code 40 = .ok (.iload_n 1, 1) := by decide +kernel
theorem de_Mo_trade_41 : decode prog_14_method_100_code 41 = .ok (.iconst 1, 1) := by decide +kernel
theorem de_Mo_trade_42 : decode prog_14_method_100_code 42 = .ok (.if_icmp .ne 10, 3) := by decide +kernel
theorem de_Mo_trade_45 : decode prog_14_method_100_code 45 = .ok (.aload_n 0, 1) := by decide +kernel
theorem de_Mo_trade_46 : decode prog_14_method_100_code 46 = .ok (.getfield 423, 3) := by decide +kernel
theorem de_Mo_trade_49 : decode prog_14_method_100_code 49 = .ok (.goto 28, 3) := by decide +kernel
theorem de_Mo_trade_52 : decode prog_14_method_100_code 52 = .ok (.iload_n 1, 1) := by decide +kernel
theorem de_Mo_trade_53 : decode prog_14_method_100_code 53 = .ok (.iconst 2, 1) := by decide +kernel
theorem de_Mo_trade_54 : decode prog_14_method_100_code 54 = .ok (.isub, 1) := by decide +kernel
theorem de_Mo_trade_55 : decode prog_14_method_100_code 55 = .ok (.aload_n 0, 1) := by decide +kernel
theorem de_Mo_trade_56 : decode prog_14_method_100_code 56 = .ok (.getfield 39, 3) := by decide +kernel
theorem de_Mo_trade_59 : decode prog_14_method_100_code 59 = .ok (.iconst 1, 1) := by decide +kernel
theorem de_Mo_trade_60 : decode prog_14_method_100_code 60 = .ok (.iaload, 1) := by decide +kernel
theorem de_Mo_trade_61 : decode prog_14_method_100_code 61 = .ok (.if_icmp .ge 14, 3) := by decide +kernel
theorem de_Mo_trade_64 : decode prog_14_method_100_code 64 = .ok (.aload_n 0, 1) := by decide +kernel
theorem de_Mo_trade_65 : decode prog_14_method_100_code 65 = .ok (.getfield 63, 3) := by decide +kernel
theorem de_Mo_trade_68 : decode prog_14_method_100_code 68 = .ok (.iload_n 1, 1) := by decide +kernel
theorem de_Mo_trade_69 : decode prog_14_method_100_code 69 = .ok (.iconst 2, 1) := by decide +kernel
theorem de_Mo_trade_70 : decode prog_14_method_100_code 70 = .ok (.isub, 1) := by decide +kernel
theorem de_Mo_trade_71 : decode prog_14_method_100_code 71 = .ok (.iaload, 1) := by decide +kernel
theorem de_Mo_trade_72 : decode prog_14_method_100_code 72 = .ok (.goto 5, 3) := by decide +kernel
theorem de_Mo_trade_75 : decode prog_14_method_100_code 75 = .ok (.bipush (-2), 2) := by decide +kernel
theorem de_Mo_trade_77 : decode prog_14_method_100_code 77 = .ok (.ireturn, 1) := by decide +kernel
set_option maxHeartbeats 4000000 in
set_option maxRecDepth 10000 in
theorem co_Mo_trade {B : Int} (hI : sg_ok B said) (hB : B ≤ 29000) (hd : td_d dayAt) (hsl : td_s slotAt) (htm : ab_in tMany) (hto : ab_in tMost) (ww : Int) (hw : ab_in ww) : ab_Mt g_G g_rs mt_Mo_trade 6 0 0 [ab_R 0, ab_I ww] (mo_W tape taped rules sign leng clause clauses read next wrong number text made deep lines opn opened stack top word said xx was undone kept sumOf faced slotAt dayAt row bestRow tMany tMost drawX images imageX isMade) (fun r w2 => (∃ v, r = some (ab_I v)) ∧ ∃ (sl dy kp rw_ br : Int → Int) (tm to_ : Int), td_s sl ∧ td_d dy ∧ ab_in tm ∧ ab_in to_ ∧ w2 = (mo_W tape taped rules sign leng clause clauses read next wrong number text made deep lines opn opened stack top word said xx was undone (kp) sumOf faced (sl) (dy) (rw_) (br) (tm) (to_) drawX images imageX isMade)) := by
  refine ab_Mt.of rfl (Nat.le_of_ble_eq_true rfl) ?_
  show ab_Ev g_G g_rs mt_Mo_trade _ _ _ 0 [some (ab_R 0), some (ab_I ww)] [] _ _
  have hJ := hI; obtain ⟨i0, i1, i2, i3, i4, i5, i6, i7, i8, i9, i10, i11, i12, i13, i14, i15, i16, i17⟩ := sg_all hJ
  refine ev_aload_n de_Mo_trade_0 rfl rfl ?_
  refine ev_vv (ci := 11) de_Mo_trade_1 (co_Mo_isRing hI) kb_Mo_323 ⟨im_Mo_isRing, se_Mo_isRing⟩ rfl rfl rfl (Nat.le_of_ble_eq_true rfl) (by decide) rfl ?_
  refine ev_if_eq (tgt := 19) de_Mo_trade_4 (by decide) (by omega) (fun h4 => ?_) (fun h4 => ?_)
  · skip
    refine ev_ldcw (n := -100000) de_Mo_trade_19 cn_Mo_399 rfl ?_
    exact ev_ireturn de_Mo_trade_22 rfl ⟨⟨_, rfl⟩, _, _, _, _, _, _, _, hsl, hd, htm, hto, rfl⟩
  · skip
    refine ev_iload_n de_Mo_trade_7 rfl rfl ?_
    refine ev_i2l de_Mo_trade_8 (by omega) ?_
    refine ev_lconsti (n := 0) de_Mo_trade_9 (by decide) ?_
    refine ev_ldc2i (n := 8) de_Mo_trade_10 cn_Mo_432 (by decide) ?_
    refine ev_sv de_Mo_trade_13 (co_Mo_in _ ww 0 8 hw (by decide) (by decide)) kb_Mo_115 sc_Mo_in rfl (Nat.le_of_ble_eq_true rfl) (by decide) rfl ?_
    refine ev_if_ne (tgt := 23) de_Mo_trade_16 (by decide) (by split <;> decide) (fun h16 => ?_) (fun h16 => ?_)
    · skip
      have n16 : 0 ≤ ww ∧ ww ≤ 8 := Decidable.byContradiction (fun z => by rw [if_neg z] at h16; exact h16 rfl)
      refine ev_aload_n de_Mo_trade_23 rfl rfl ?_
      refine ev_virtual (ci := 11) (mc := 0) (ms := 0) (bc := 0) (bs := 0) de_Mo_trade_24 (co_Mo_fillsDays hI hB hd hsl) kb_Mo_434 ⟨im_Mo_fillsDays, se_Mo_fillsDays⟩ rfl rfl rfl (Nat.le_of_ble_eq_true rfl) (by decide) (Or.inl (fun r w1 h => by obtain ⟨-, sl, dy, kp, -, -, rfl⟩ := h; first | exact mo_Wn.trans mo_Wn.symm | rfl)) (fun r1 w1 hm1 => ?_)
      obtain ⟨rfl, sl, dy, kp, hs1, hd1, rfl⟩ := hm1
      · skip
        refine ev_aload_n de_Mo_trade_27 rfl rfl ?_
        refine ev_virtual (ci := 11) (mc := 0) (ms := 0) (bc := 0) (bs := 0) de_Mo_trade_28 (co_Mo_gathersTrades hI hd1 hs1 htm hto) kb_Mo_437 ⟨im_Mo_gathersTrades, se_Mo_gathersTrades⟩ rfl rfl rfl (Nat.le_of_ble_eq_true rfl) (by decide) (Or.inl (fun r w1 h => by obtain ⟨-, r1, br, tm, to_, -, -, rfl⟩ := h; first | exact mo_Wn.trans mo_Wn.symm | rfl)) (fun r1 w1 hm1 => ?_)
        obtain ⟨rfl, r1, br, tm, to_, htm1, hto1, rfl⟩ := hm1
        · skip
          refine ev_iload_n de_Mo_trade_31 rfl rfl ?_
          refine ev_if_ne (tgt := 40) de_Mo_trade_32 (by decide) (by omega) (fun h32 => ?_) (fun h32 => ?_)
          · skip
            refine ev_iload_n de_Mo_trade_40 rfl rfl ?_
            refine ev_iconst de_Mo_trade_41 ?_
            refine ev_icmp_ne (tgt := 52) de_Mo_trade_42 (by decide) (by omega) (by omega) (fun h42 => ?_) (fun h42 => ?_)
            · skip
              refine ev_iload_n de_Mo_trade_52 rfl rfl ?_
              refine ev_iconst de_Mo_trade_53 ?_
              refine ev_isub de_Mo_trade_54 ?_
              refine ev_aload_n de_Mo_trade_55 rfl rfl ?_
              refine ev_getfield de_Mo_trade_56 rfl fl_Mo_39 rfl ?_
              refine ev_iconst de_Mo_trade_59 ?_
              refine ev_iaload de_Mo_trade_60 rfl (by omega) (by omega) (by omega) ?_
              refine ev_icmp_ge (tgt := 75) de_Mo_trade_61 (by decide) (by omega) (by omega) (fun h61 => ?_) (fun h61 => ?_)
              · skip
                refine ev_bipush de_Mo_trade_75 rfl ?_
                exact ev_ireturn de_Mo_trade_77 rfl ⟨⟨_, rfl⟩, _, _, _, _, _, _, _, hs1, hd1, htm1, hto1, rfl⟩
              · skip
                refine ev_aload_n de_Mo_trade_64 rfl rfl ?_
                refine ev_getfield de_Mo_trade_65 rfl fl_Mo_63 rfl ?_
                refine ev_iload_n de_Mo_trade_68 rfl rfl ?_
                refine ev_iconst de_Mo_trade_69 ?_
                refine ev_isub de_Mo_trade_70 ?_
                refine ev_iaload de_Mo_trade_71 rfl (by omega) (by omega) (by omega) ?_
                refine ev_goto (tgt := 77) de_Mo_trade_72 (by decide) ?_
                exact ev_ireturn de_Mo_trade_77 rfl ⟨⟨_, rfl⟩, _, _, _, _, _, _, _, hs1, hd1, htm1, hto1, rfl⟩
            · skip
              refine ev_aload_n de_Mo_trade_45 rfl rfl ?_
              refine ev_getfield de_Mo_trade_46 rfl fl_Mo_423 rfl ?_
              refine ev_goto (tgt := 77) de_Mo_trade_49 (by decide) ?_
              exact ev_ireturn de_Mo_trade_77 rfl ⟨⟨_, rfl⟩, _, _, _, _, _, _, _, hs1, hd1, htm1, hto1, rfl⟩
          · skip
            refine ev_aload_n de_Mo_trade_35 rfl rfl ?_
            refine ev_getfield de_Mo_trade_36 rfl fl_Mo_420 rfl ?_
            exact ev_ireturn de_Mo_trade_39 rfl ⟨⟨_, rfl⟩, _, _, _, _, _, _, _, hs1, hd1, htm1, hto1, rfl⟩
    · skip
      refine ev_ldcw (n := -100000) de_Mo_trade_19 cn_Mo_399 rfl ?_
      exact ev_ireturn de_Mo_trade_22 rfl ⟨⟨_, rfl⟩, _, _, _, _, _, _, _, hsl, hd, htm, hto, rfl⟩
end MO
