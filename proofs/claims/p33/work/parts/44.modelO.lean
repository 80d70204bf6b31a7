section MO
variable {tape : Int → Int} {taped : Int} {rules : Int} {sign : Int → Int} {leng : Int → Int} {clause : Int → Int} {clauses : Int → Int} {read : Int → Int} {next : Int} {wrong : Int} {number : Int} {text : Int} {made : Int} {deep : Int} {lines : Int} {opn : Int → Int} {opened : Int} {stack : Int → Int64} {top : Int} {word : Int → Int64} {said : Int → Int} {xx : Int} {was : Int → Int} {undone : Int} {kept : Int → Int} {sumOf : Int → Int} {faced : Int → Int} {slotAt : Int → Int} {dayAt : Int → Int} {row : Int → Int} {bestRow : Int → Int} {tMany : Int} {tMost : Int} {drawX : Int64} {images : Int → Int} {imageX : Int → Int} {isMade : Int → Int}
theorem de_Mo_compare_0 : decode prog_14_method_25_code 0 = .ok (.aload_n 0, 1) := by decide +kernel
theorem de_Mo_compare_1 : decode prog_14_method_25_code 1 = .ok (.invokevirtual 180, 3) := by decide +kernel
theorem de_Mo_compare_4 : decode prog_14_method_25_code 4 = .ok (.ifCond .ne 5, 3) := by decide +kernel
theorem de_Mo_compare_7 : decode prog_14_method_25_code 7 = .ok (.iconst 0, 1) := by decide +kernel
theorem de_Mo_compare_8 : decode prog_14_method_25_code 8 = .ok (.ireturn, 1) := by decide +kernel
theorem de_Mo_compare_9 : decode prog_14_method_25_code 9 = .ok (.aload_n 0, 1) := by decide +kernel
theorem de_Mo_compare_10 : decode prog_14_method_25_code 10 = .ok (.invokevirtual 90, 3) := by decide +kernel
theorem de_Mo_compare_13 : decode prog_14_method_25_code 13 = .ok (.istore_n 1, 1) := by decide +kernel
theorem de_Mo_compare_14 : decode prog_14_method_25_code 14 = .ok (.aload_n 0, 1) := by decide +kernel
theorem de_Mo_compare_15 : decode prog_14_method_25_code 15 = .ok (.getfield 87, 3) := by decide +kernel
theorem de_Mo_compare_18 : decode prog_14_method_25_code 18 = .ok (.istore_n 2, 1) := by decide +kernel
theorem de_Mo_compare_19 : decode prog_14_method_25_code 19 = .ok (.iload_n 1, 1) := by decide +kernel
theorem de_Mo_compare_20 : decode prog_14_method_25_code 20 = .ok (.bipush 60, 2) := by decide +kernel
theorem de_Mo_compare_22 : decode prog_14_method_25_code 22 = .ok (.if_icmp .eq 22, 3) := by decide +kernel
theorem de_Mo_compare_25 : decode prog_14_method_25_code 25 = .ok (.iload_n 1, 1) := by decide +kernel
theorem de_Mo_compare_26 : decode prog_14_method_25_code 26 = .ok (.bipush 61, 2) := by decide +kernel
theorem de_Mo_compare_28 : decode prog_14_method_25_code 28 = .ok (.if_icmp .eq 16, 3) := by decide +kernel
theorem de_Mo_compare_31 : decode prog_14_method_25_code 31 = .ok (.iload_n 1, 1) := by decide +kernel
theorem de_Mo_compare_32 : decode prog_14_method_25_code 32 = .ok (.bipush 62, 2) := by decide +kernel
theorem de_Mo_compare_34 : decode prog_14_method_25_code 34 = .ok (.if_icmp .eq 10, 3) := by decide +kernel
theorem de_Mo_compare_37 : decode prog_14_method_25_code 37 = .ok (.aload_n 0, 1) := by decide +kernel
theorem de_Mo_compare_38 : decode prog_14_method_25_code 38 = .ok (.iconst 0, 1) := by decide +kernel
theorem de_Mo_compare_39 : decode prog_14_method_25_code 39 = .ok (.iload_n 2, 1) := by decide +kernel
theorem de_Mo_compare_40 : decode prog_14_method_25_code 40 = .ok (.invokevirtual 108, 3) := by decide +kernel
theorem de_Mo_compare_43 : decode prog_14_method_25_code 43 = .ok (.ireturn, 1) := by decide +kernel
theorem de_Mo_compare_44 : decode prog_14_method_25_code 44 = .ok (.aload_n 0, 1) := by decide +kernel
theorem de_Mo_compare_45 : decode prog_14_method_25_code 45 = .ok (.dup, 1) := by decide +kernel
theorem de_Mo_compare_46 : decode prog_14_method_25_code 46 = .ok (.getfield 87, 3) := by decide +kernel
theorem de_Mo_compare_49 : decode prog_14_method_25_code 49 = .ok (.iconst 1, 1) := by decide +kernel
theorem de_Mo_compare_50 : decode prog_14_method_25_code 50 = .ok (.iadd, 1) := by decide +kernel
theorem de_Mo_compare_51 : decode prog_14_method_25_code 51 = .ok (.putfield 87, 3) := by decide +kernel
theorem de_Mo_compare_54 : decode prog_14_method_25_code 54 = .ok (.iload_n 1, 1) := by decide +kernel
theorem de_Mo_compare_55 : decode prog_14_method_25_code 55 = .ok (.bipush 61, 2) := by decide +kernel
theorem de_Mo_compare_57 : decode prog_14_method_25_code 57 = .ok (.if_icmp .eq 32, 3) := by decide +kernel
theorem de_Mo_compare_60 : decode prog_14_method_25_code 60 = .ok (.aload_n 0, 1) := by decide +kernel
theorem de_Mo_compare_61 : decode prog_14_method_25_code 61 = .ok (.getfield 87, 3) := by decide +kernel
theorem de_Mo_compare_64 : decode prog_14_method_25_code 64 = .ok (.aload_n 0, 1) := by decide +kernel
theorem de_Mo_compare_65 : decode prog_14_method_25_code 65 = .ok (.getfield 76, 3) := by decide +kernel
theorem de_Mo_compare_68 : decode prog_14_method_25_code 68 = .ok (.if_icmp .ge 21, 3) := by decide +kernel
theorem de_Mo_compare_71 : decode prog_14_method_25_code 71 = .ok (.aload_n 0, 1) := by decide +kernel
theorem de_Mo_compare_72 : decode prog_14_method_25_code 72 = .ok (.getfield 7, 3) := by decide +kernel
theorem de_Mo_compare_75 : decode prog_14_method_25_code 75 = .ok (.aload_n 0, 1) := by decide +kernel
theorem de_Mo_compare_76 : decode prog_14_method_25_code 76 = .ok (.getfield 87, 3) := by decide +kernel
theorem de_Mo_compare_79 : decode prog_14_method_25_code 79 = .ok (.baload, 1) := by decide +kernel
theorem de_Mo_compare_80 : decode prog_14_method_25_code 80 = .ok (.bipush 61, 2) := by decide +kernel
theorem de_Mo_compare_82 : decode prog_14_method_25_code 82 = .ok (.if_icmp .ne 7, 3) := by decide +kernel
theorem de_Mo_compare_85 : decode prog_14_method_25_code 85 = .ok (.iconst 1, 1) := by decide +kernel
theorem de_Mo_compare_86 : decode prog_14_method_25_code 86 = .ok (.goto 4, 3) := by decide +kernel
theorem de_Mo_compare_89 : decode prog_14_method_25_code 89 = .ok (.iconst 0, 1) := by decide +kernel
theorem de_Mo_compare_90 : decode prog_14_method_25_code 90 = .ok (.istore_n 3, 1) := by decide +kernel
theorem de_Mo_compare_91 : decode prog_14_method_25_code 91 = .ok (.iload_n 3, 1) := by decide +kernel
theorem de_Mo_compare_92 : decode prog_14_method_25_code 92 = .ok (.ifCond .eq 13, 3) := by decide +kernel
theorem de_Mo_compare_95 : decode prog_14_method_25_code 95 = .ok (.aload_n 0, 1) := by decide +kernel
theorem de_Mo_compare_96 : decode prog_14_method_25_code 96 = .ok (.dup, 1) := by decide +kernel
theorem de_Mo_compare_97 : decode prog_14_method_25_code 97 = .ok (.getfield 87, 3) := by decide +kernel
theorem de_Mo_compare_100 : decode prog_14_method_25_code 100 = .ok (.iconst 1, 1) := by decide +kernel
theorem de_Mo_compare_101 : decode prog_14_method_25_code 101 = .ok (.iadd, 1) := by decide +kernel
theorem de_Mo_compare_102 : decode prog_14_method_25_code 102 = .ok (.putfield 87, 3) := by decide +kernel
theorem de_Mo_compare_105 : decode prog_14_method_25_code 105 = .ok (.aload_n 0, 1) := by decide +kernel
theorem de_Mo_compare_106 : decode prog_14_method_25_code 106 = .ok (.iload_n 2, 1) := by decide +kernel
theorem de_Mo_compare_107 : decode prog_14_method_25_code 107 = .ok (.invokevirtual 167, 3) := by decide +kernel
theorem de_Mo_compare_110 : decode prog_14_method_25_code 110 = .ok (.ifCond .ne 5, 3) := by decide +kernel
theorem de_Mo_compare_113 : decode prog_14_method_25_code 113 = .ok (.iconst 0, 1) := by decide +kernel
theorem de_Mo_compare_114 : decode prog_14_method_25_code 114 = .ok (.ireturn, 1) := by decide +kernel
theorem de_Mo_compare_115 : decode prog_14_method_25_code 115 = .ok (.iload_n 1, 1) := by decide +kernel
theorem de_Mo_compare_116 : decode prog_14_method_25_code 116 = .ok (.bipush 60, 2) := by decide +kernel
theorem de_Mo_compare_118 : decode prog_14_method_25_code 118 = .ok (.if_icmp .ne 15, 3) := by decide +kernel
theorem de_Mo_compare_121 : decode prog_14_method_25_code 121 = .ok (.iload_n 3, 1) := by decide +kernel
theorem de_Mo_compare_122 : decode prog_14_method_25_code 122 = .ok (.ifCond .eq 7, 3) := by decide +kernel
theorem de_Mo_compare_125 : decode prog_14_method_25_code 125 = .ok (.iconst 1, 1) := by decide +kernel
theorem de_Mo_compare_126 : decode prog_14_method_25_code 126 = .ok (.goto 26, 3) := by decide +kernel
theorem de_Mo_compare_129 : decode prog_14_method_25_code 129 = .ok (.iconst 0, 1) := by decide +kernel
theorem de_Mo_compare_130 : decode prog_14_method_25_code 130 = .ok (.goto 22, 3) := by decide +kernel
theorem de_Mo_compare_133 : decode prog_14_method_25_code 133 = .ok (.iload_n 1, 1) := by decide +kernel
theorem de_Mo_compare_134 : decode prog_14_method_25_code 134 = .ok (.bipush 61, 2) := by decide +kernel
theorem de_Mo_compare_136 : decode prog_14_method_25_code 136 = .ok (.if_icmp .ne 7, 3) := by decide +kernel
theorem de_Mo_compare_139 : decode prog_14_method_25_code 139 = .ok (.iconst 2, 1) := by decide +kernel
theorem de_Mo_compare_140 : decode prog_14_method_25_code 140 = .ok (.goto 12, 3) := by decide +kernel
theorem de_Mo_compare_143 : decode prog_14_method_25_code 143 = .ok (.iload_n 3, 1) := by decide +kernel
theorem de_Mo_compare_144 : decode prog_14_method_25_code 144 = .ok (.ifCond .eq 7, 3) := by decide +kernel
theorem de_Mo_compare_147 : decode prog_14_method_25_code 147 = .ok (.iconst 3, 1) := by decide +kernel
theorem de_Mo_compare_148 : decode prog_14_method_25_code 148 = .ok (.goto 4, 3) := by decide +kernel
theorem de_Mo_compare_151 : decode prog_14_method_25_code 151 = .ok (.iconst 4, 1) := by decide +kernel
theorem de_Mo_compare_152 : decode prog_14_method_25_code 152 = .ok (.istore 4, 2) := by decide +kernel
theorem de_Mo_compare_154 : decode prog_14_method_25_code 154 = .ok (.aload_n 0, 1) := by decide +kernel
theorem de_Mo_compare_155 : decode prog_14_method_25_code 155 = .ok (.invokevirtual 180, 3) := by decide +kernel
theorem de_Mo_compare_158 : decode prog_14_method_25_code 158 = .ok (.ifCond .ne 5, 3) := by decide +kernel
theorem de_Mo_compare_161 : decode prog_14_method_25_code 161 = .ok (.iconst 0, 1) := by decide +kernel
theorem de_Mo_compare_162 : decode prog_14_method_25_code 162 = .ok (.ireturn, 1) := by decide +kernel
theorem de_Mo_compare_163 : decode prog_14_method_25_code 163 = .ok (.aload_n 0, 1) := by decide +kernel
theorem de_Mo_compare_164 : decode prog_14_method_25_code 164 = .ok (.bipush 6, 2) := by decide +kernel
theorem de_Mo_compare_166 : decode prog_14_method_25_code 166 = .ok (.iload 4, 2) := by decide +kernel
theorem de_Mo_compare_168 : decode prog_14_method_25_code 168 = .ok (.iadd, 1) := by decide +kernel
theorem de_Mo_compare_169 : decode prog_14_method_25_code 169 = .ok (.iconst 0, 1) := by decide +kernel
theorem de_Mo_compare_170 : decode prog_14_method_25_code 170 = .ok (.invokevirtual 159, 3) := by decide +kernel
theorem de_Mo_compare_173 : decode prog_14_method_25_code 173 = .ok (.iconst 1, 1) := by decide +kernel
theorem de_Mo_compare_174 : decode prog_14_method_25_code 174 = .ok (.ireturn, 1) := by decide +kernel
def rs_cs (ch al : Int) : Int := if ch = 60 then (if al = 1 then 1 else 0) else if ch = 61 then 2 else if al = 1 then 3 else 4
def rs_also (tape : Int → Int) (taped n0 : Int) : Int := if ¬ tk_ch tape taped n0 = 61 ∧ n0 + 1 < taped ∧ tape (n0 + 1) = 61 then 1 else 0
def rs_c3 (tape : Int → Int) (taped t s nx md : Int) (le sg : Int → Int) : Except Int pz := match rs_sum tape taped t nx md le sg with
  | .error e => .error e
  | .ok (n2, md2, le2, sg2) => .ok (pz_put t (6 + s) 0 n2 md2 le2 sg2)
def rs_c2 (tape : Int → Int) (taped t at_ s nx md : Int) (le sg : Int → Int) : Except Int pz := if md = 60 then .error (1 + 8 * at_ + 3) else rs_c3 tape taped t s nx (md + 1) le sg
def rs_cmp (tape : Int → Int) (taped t nx md : Int) (le sg : Int → Int) : Except Int pz := match rs_sum tape taped t nx md le sg with
  | .error e => .error e
  | .ok (n1, md1, le1, sg1) => if tk_ch tape taped (tk_sk tape taped n1) = 60 ∨ tk_ch tape taped (tk_sk tape taped n1) = 61 ∨ tk_ch tape taped (tk_sk tape taped n1) = 62 then rs_c2 tape taped t (tk_sk tape taped n1) (rs_cs (tk_ch tape taped (tk_sk tape taped n1)) (rs_also tape taped (tk_sk tape taped n1))) (tk_sk tape taped n1 + 1 + rs_also tape taped (tk_sk tape taped n1)) md1 le1 sg1 else .error (1 + 8 * tk_sk tape taped n1 + 0)
set_option maxHeartbeats 4000000 in
set_option maxRecDepth 10000 in
theorem l3_Mo_compare (ch at_ al : Int) (x : Option ab_V) (s : Int) (ht : tp_ok tape taped) (hn0 : 0 ≤ next) (hn1 : next ≤ taped) (tx0 : 0 ≤ text) (tx1 : text ≤ 5) (hnu : ab_in number) (hm0 : 0 ≤ made) (hm1 : made ≤ 60) (b0 : Int) (hb0 : 0 ≤ b0) (hl0 : b0 ≤ leng text) (c : Int) (hc : c ≤ 0) (hl1 : leng text - next ≤ c - 1) (s0 : Int → Int) (hs : sg_fr text s0 sign) : ab_Ev g_G g_rs mt_Mo_compare 6 0 0 152 [some (ab_R 0), some (ab_I ch), some (ab_I at_), some (ab_I al), x] [ab_I s] (mo_W tape taped rules sign leng clause clauses read next (0) number text made deep lines opn opened stack top word said xx was undone kept sumOf faced slotAt dayAt row bestRow tMany tMost drawX images imageX isMade) (pv tape taped rules clause clauses read text deep lines opn opened stack top word said xx was undone kept sumOf faced slotAt dayAt row bestRow tMany tMost drawX images imageX isMade c b0 s0 (rs_c3 tape taped text s next made leng sign)) := by
  have p1 := ht.2.1
  refine ev_istore (l' := [_, _, _, _, _]) de_Mo_compare_152 (Nat.le_of_ble_eq_true rfl) rfl ?_
  refine ev_aload_n de_Mo_compare_154 rfl rfl ?_
  refine ev_virtual (ci := 11) (mc := 0) (ms := 0) (bc := 0) (bs := 0) de_Mo_compare_155 (co_Mo_sum ht hn0 hn1 tx0 tx1 hnu hm0 hm1 b0 hb0 hl0 (c - 1) (by omega) hl1 s0 hs) kb_Mo_180 ⟨im_Mo_sum, se_Mo_sum⟩ rfl rfl rfl (Nat.le_of_ble_eq_true rfl) (by decide) (Or.inl (fun r w1 h => by obtain ⟨nx, nu, wr, mk, le, sg, e, -⟩ := h; rw [e]; first | exact mo_Wn.trans mo_Wn.symm | rfl)) (fun r1 w1 hm1 => ?_)
  obtain ⟨nx1, nu1, wr1, mk1, le1, sg1, rfl, hnx1, hnu1, hmk1, hfr1, hc1⟩ := hm1; rcases hc1 with ⟨rfl, rfl, hle1, hX1⟩ | ⟨rfl, hwr1, hX1⟩
  · skip
    refine ev_if_ne_t (tgt := 163) de_Mo_compare_158 (by decide) (by decide) (by decide) ?_
    refine ev_aload_n de_Mo_compare_163 rfl rfl ?_
    refine ev_bipush de_Mo_compare_164 rfl ?_
    refine ev_iload de_Mo_compare_166 rfl ?_
    refine ev_iadd de_Mo_compare_168 ?_
    refine ev_iconst de_Mo_compare_169 ?_
    refine ev_vn (ci := 11) de_Mo_compare_170 (co_Mo_puts tx0 tx1 (by omega) (by omega) _ 0) kb_Mo_159 ⟨im_Mo_puts, se_Mo_puts⟩ rfl rfl rfl (Nat.le_of_ble_eq_true rfl) (by decide) rfl ?_
    refine ev_iconst de_Mo_compare_173 ?_
    exact ev_zreturn de_Mo_compare_174 rfl (by decide) ⟨_, _, _, _, _, _, rfl, hnx1, hnu1, hmk1, sg_fr_up hfr1 (by omega) (by omega), Or.inl ⟨rfl, rfl, ⟨by rw [ab_upe]; omega, by rw [ab_upe]; omega⟩, by unfold rs_c3; rw [hX1]; rfl⟩⟩
  · skip
    refine ev_if_ne_f (tgt := 163) de_Mo_compare_158 (by decide) (by decide) (by decide) ?_
    refine ev_iconst de_Mo_compare_161 ?_
    exact ev_zreturn de_Mo_compare_162 rfl (by decide) ⟨_, _, _, _, _, _, rfl, hnx1, hnu1, hmk1, hfr1, Or.inr ⟨rfl, hwr1, by unfold rs_c3; rw [hX1]⟩⟩
set_option maxHeartbeats 4000000 in
set_option maxRecDepth 10000 in
theorem l2_Mo_compare (ch at_ al : Int) (ha0 : 0 ≤ at_) (ha1 : at_ ≤ taped) (hch : ab_in ch) (hal : al = 0 ∨ al = 1) (x : Option ab_V) (ht : tp_ok tape taped) (hn0 : 0 ≤ next) (hn1 : next ≤ taped) (tx0 : 0 ≤ text) (tx1 : text ≤ 5) (hnu : ab_in number) (hm0 : 0 ≤ made) (hm1 : made ≤ 60) (b0 : Int) (hb0 : 0 ≤ b0) (hl0 : b0 ≤ leng text) (c : Int) (hc : c ≤ 0) (hl1 : leng text - next ≤ c - 1) (s0 : Int → Int) (hs : sg_fr text s0 sign) : ab_Ev g_G g_rs mt_Mo_compare 6 0 0 105 [some (ab_R 0), some (ab_I ch), some (ab_I at_), some (ab_I al), x] [] (mo_W tape taped rules sign leng clause clauses read next (0) number text made deep lines opn opened stack top word said xx was undone kept sumOf faced slotAt dayAt row bestRow tMany tMost drawX images imageX isMade) (pv tape taped rules clause clauses read text deep lines opn opened stack top word said xx was undone kept sumOf faced slotAt dayAt row bestRow tMany tMost drawX images imageX isMade c b0 s0 (rs_c2 tape taped text at_ (rs_cs ch al) next made leng sign)) := by
  have p1 := ht.2.1
  have hmB := hm1
  refine ev_aload_n de_Mo_compare_105 rfl rfl ?_
  refine ev_iload_n de_Mo_compare_106 rfl rfl ?_
  refine ev_virtual (ci := 11) (mc := 0) (ms := 0) (bc := 0) (bs := 0) de_Mo_compare_107 (co_Mo_makes hm0 hmB at_) kb_Mo_167 ⟨im_Mo_makes, se_Mo_makes⟩ rfl rfl rfl (Nat.le_of_ble_eq_true rfl) (by decide) (Or.inl (fun r w1 h => by rcases h with ⟨-, -, rfl⟩ | ⟨-, -, rfl⟩ <;> first | exact mo_Wn.trans mo_Wn.symm | rfl)) (fun r1 w1 hm1 => ?_)
  rcases hm1 with ⟨hm, rfl, rfl⟩ | ⟨hm, rfl, rfl⟩
  · skip
    refine ev_if_ne_f (tgt := 115) de_Mo_compare_110 (by decide) (by decide) (by decide) ?_
    refine ev_iconst de_Mo_compare_113 ?_
    exact ev_zreturn de_Mo_compare_114 rfl (by decide) ⟨_, _, _, _, _, _, rfl, ⟨hn0, hn1⟩, hnu, ⟨hm0, hmB⟩, hs, Or.inr ⟨rfl, by omega, if_pos hm⟩⟩
  · skip
    have e2 : rs_c2 tape taped text at_ (rs_cs ch al) next made leng sign = rs_c3 tape taped text (rs_cs ch al) next (made + 1) leng sign := if_neg hm
    rw [e2]
    refine ev_if_ne_t (tgt := 115) de_Mo_compare_110 (by decide) (by decide) (by decide) ?_
    refine ev_iload_n de_Mo_compare_115 rfl rfl ?_
    refine ev_bipush de_Mo_compare_116 rfl ?_
    refine ev_icmp_ne (tgt := 133) de_Mo_compare_118 (by decide) (by omega) (by omega) (fun h118 => ?_) (fun h118 => ?_)
    · skip
      refine ev_iload_n de_Mo_compare_133 rfl rfl ?_
      refine ev_bipush de_Mo_compare_134 rfl ?_
      refine ev_icmp_ne (tgt := 143) de_Mo_compare_136 (by decide) (by omega) (by omega) (fun h136 => ?_) (fun h136 => ?_)
      · skip
        refine ev_iload_n de_Mo_compare_143 rfl rfl ?_
        refine ev_if_eq (tgt := 151) de_Mo_compare_144 (by decide) (by omega) (fun h144 => ?_) (fun h144 => ?_)
        · skip
          have e : rs_cs ch al = 4 := by unfold rs_cs; rw [if_neg h118, if_neg h136, if_neg (by omega)]
          rw [e]
          refine ev_iconst de_Mo_compare_151 ?_
          exact l3_Mo_compare ch at_ al x _ ht hn0 hn1 tx0 tx1 hnu (by omega) (by omega) b0 hb0 hl0 c hc hl1 s0 hs
        · skip
          have e : rs_cs ch al = 3 := by unfold rs_cs; rw [if_neg h118, if_neg h136, if_pos (by omega)]
          rw [e]
          refine ev_iconst de_Mo_compare_147 ?_
          refine ev_goto (tgt := 152) de_Mo_compare_148 (by decide) ?_
          exact l3_Mo_compare ch at_ al x _ ht hn0 hn1 tx0 tx1 hnu (by omega) (by omega) b0 hb0 hl0 c hc hl1 s0 hs
      · skip
        have e : rs_cs ch al = 2 := by unfold rs_cs; rw [if_neg h118, if_pos h136]
        rw [e]
        refine ev_iconst de_Mo_compare_139 ?_
        refine ev_goto (tgt := 152) de_Mo_compare_140 (by decide) ?_
        exact l3_Mo_compare ch at_ al x _ ht hn0 hn1 tx0 tx1 hnu (by omega) (by omega) b0 hb0 hl0 c hc hl1 s0 hs
    · skip
      refine ev_iload_n de_Mo_compare_121 rfl rfl ?_
      refine ev_if_eq (tgt := 129) de_Mo_compare_122 (by decide) (by omega) (fun h122 => ?_) (fun h122 => ?_)
      · skip
        have e : rs_cs ch al = 0 := by unfold rs_cs; rw [if_pos h118, if_neg (by omega)]
        rw [e]
        refine ev_iconst de_Mo_compare_129 ?_
        refine ev_goto (tgt := 152) de_Mo_compare_130 (by decide) ?_
        exact l3_Mo_compare ch at_ al x _ ht hn0 hn1 tx0 tx1 hnu (by omega) (by omega) b0 hb0 hl0 c hc hl1 s0 hs
      · skip
        have e : rs_cs ch al = 1 := by unfold rs_cs; rw [if_pos h118, if_pos (by omega)]
        rw [e]
        refine ev_iconst de_Mo_compare_125 ?_
        refine ev_goto (tgt := 152) de_Mo_compare_126 (by decide) ?_
        exact l3_Mo_compare ch at_ al x _ ht hn0 hn1 tx0 tx1 hnu (by omega) (by omega) b0 hb0 hl0 c hc hl1 s0 hs
set_option maxHeartbeats 4000000 in
set_option maxRecDepth 10000 in
theorem l1_Mo_compare (ch at_ : Int) (hch : ab_in ch) (hce : ch = tk_ch tape taped at_) (x3 x : Option ab_V) (ht : tp_ok tape taped) (ha0 : 0 ≤ at_) (ha1 : at_ < taped) (tx0 : 0 ≤ text) (tx1 : text ≤ 5) (hnu : ab_in number) (hm0 : 0 ≤ made) (hm1 : made ≤ 60) (b0 : Int) (hb0 : 0 ≤ b0) (hl0 : b0 ≤ leng text) (c : Int) (hc : c ≤ 0) (hl1 : leng text - at_ ≤ c) (s0 : Int → Int) (hs : sg_fr text s0 sign) : ab_Ev g_G g_rs mt_Mo_compare 6 0 0 44 [some (ab_R 0), some (ab_I ch), some (ab_I at_), x3, x] [] (mo_W tape taped rules sign leng clause clauses read (at_) (0) number text made deep lines opn opened stack top word said xx was undone kept sumOf faced slotAt dayAt row bestRow tMany tMost drawX images imageX isMade) (pv tape taped rules clause clauses read text deep lines opn opened stack top word said xx was undone kept sumOf faced slotAt dayAt row bestRow tMany tMost drawX images imageX isMade c b0 s0 (rs_c2 tape taped text at_ (rs_cs ch (rs_also tape taped at_)) (at_ + 1 + rs_also tape taped at_) made leng sign)) := by
  have p1 := ht.2.1
  refine ev_aload_n de_Mo_compare_44 rfl rfl ?_
  refine ev_dup de_Mo_compare_45 rfl ?_
  refine ev_getfield de_Mo_compare_46 rfl fl_Mo_87 rfl ?_
  refine ev_iconst de_Mo_compare_49 ?_
  refine ev_iadd de_Mo_compare_50 ?_
  refine ev_putfield de_Mo_compare_51 rfl (fp_Mo_87 _) (Nat.le_of_ble_eq_true rfl) trivial ?_
  refine ev_world (w' := mo_W _ _ _ _ _ _ _ _ _ _ _ _ _ _ _ _ _ _ _ _ _ _ _ _ _ _ _ _ _ _ _ _ _ _ _ _ _) rfl ?_
  refine ev_iload_n de_Mo_compare_54 rfl rfl ?_
  refine ev_bipush de_Mo_compare_55 rfl ?_
  refine ev_icmp_eq (tgt := 89) de_Mo_compare_57 (by decide) (by omega) (by omega) (fun h57 => ?_) (fun h57 => ?_)
  · skip
    have eA : rs_also tape taped at_ = 0 := by unfold rs_also; rw [if_neg (fun z => z.1 (by omega))]
    refine ev_iconst de_Mo_compare_89 ?_
    refine ev_istore_n (l' := [_, _, _, _, _]) de_Mo_compare_90 rfl (Nat.le_of_ble_eq_true rfl) rfl ?_
    refine ev_iload_n de_Mo_compare_91 rfl rfl ?_
    refine ev_if_eq (tgt := 105) de_Mo_compare_92 (by decide) (by omega) (fun h92 => ?_) (fun h92 => ?_)
    · skip
      have eB : rs_also tape taped at_ = 0 := by omega
      rw [eA]
      first | (exfalso; omega) | exact l2_Mo_compare ch at_ 0 ha0 (by omega) hch (Or.inl rfl) x ht (by omega) (by omega) tx0 tx1 hnu hm0 hm1 b0 hb0 hl0 c hc (by omega) s0 hs | exact l2_Mo_compare ch at_ 1 ha0 (by omega) hch (Or.inr rfl) x ht (by omega) (by omega) tx0 tx1 hnu hm0 hm1 b0 hb0 hl0 c hc (by omega) s0 hs | (rw [show at_ + 1 + 0 = at_ + 1 by omega]; exact l2_Mo_compare ch at_ 0 ha0 (by omega) hch (Or.inl rfl) x ht (by omega) (by omega) tx0 tx1 hnu hm0 hm1 b0 hb0 hl0 c hc (by omega) s0 hs)
    · skip
      have eB : rs_also tape taped at_ = 1 := by omega
      refine ev_aload_n de_Mo_compare_95 rfl rfl ?_
      refine ev_dup de_Mo_compare_96 rfl ?_
      refine ev_getfield de_Mo_compare_97 rfl fl_Mo_87 rfl ?_
      refine ev_iconst de_Mo_compare_100 ?_
      refine ev_iadd de_Mo_compare_101 ?_
      refine ev_putfield de_Mo_compare_102 rfl (fp_Mo_87 _) (Nat.le_of_ble_eq_true rfl) trivial ?_
      refine ev_world (w' := mo_W _ _ _ _ _ _ _ _ _ _ _ _ _ _ _ _ _ _ _ _ _ _ _ _ _ _ _ _ _ _ _ _ _ _ _ _ _) rfl ?_
      rw [eA]
      first | (exfalso; omega) | exact l2_Mo_compare ch at_ 0 ha0 (by omega) hch (Or.inl rfl) x ht (by omega) (by omega) tx0 tx1 hnu hm0 hm1 b0 hb0 hl0 c hc (by omega) s0 hs | exact l2_Mo_compare ch at_ 1 ha0 (by omega) hch (Or.inr rfl) x ht (by omega) (by omega) tx0 tx1 hnu hm0 hm1 b0 hb0 hl0 c hc (by omega) s0 hs | (rw [show at_ + 1 + 0 = at_ + 1 by omega]; exact l2_Mo_compare ch at_ 0 ha0 (by omega) hch (Or.inl rfl) x ht (by omega) (by omega) tx0 tx1 hnu hm0 hm1 b0 hb0 hl0 c hc (by omega) s0 hs)
  · skip
    refine ev_aload_n de_Mo_compare_60 rfl rfl ?_
    refine ev_getfield de_Mo_compare_61 rfl fl_Mo_87 rfl ?_
    refine ev_aload_n de_Mo_compare_64 rfl rfl ?_
    refine ev_getfield de_Mo_compare_65 rfl fl_Mo_76 rfl ?_
    refine ev_icmp_ge (tgt := 89) de_Mo_compare_68 (by decide) (by omega) (by omega) (fun h68 => ?_) (fun h68 => ?_)
    · skip
      have eA : rs_also tape taped at_ = 0 := by unfold rs_also; rw [if_neg (fun z => by omega)]
      refine ev_iconst de_Mo_compare_89 ?_
      refine ev_istore_n (l' := [_, _, _, _, _]) de_Mo_compare_90 rfl (Nat.le_of_ble_eq_true rfl) rfl ?_
      refine ev_iload_n de_Mo_compare_91 rfl rfl ?_
      refine ev_if_eq (tgt := 105) de_Mo_compare_92 (by decide) (by omega) (fun h92 => ?_) (fun h92 => ?_)
      · skip
        have eB : rs_also tape taped at_ = 0 := by omega
        rw [eA]
        first | (exfalso; omega) | exact l2_Mo_compare ch at_ 0 ha0 (by omega) hch (Or.inl rfl) x ht (by omega) (by omega) tx0 tx1 hnu hm0 hm1 b0 hb0 hl0 c hc (by omega) s0 hs | exact l2_Mo_compare ch at_ 1 ha0 (by omega) hch (Or.inr rfl) x ht (by omega) (by omega) tx0 tx1 hnu hm0 hm1 b0 hb0 hl0 c hc (by omega) s0 hs | (rw [show at_ + 1 + 0 = at_ + 1 by omega]; exact l2_Mo_compare ch at_ 0 ha0 (by omega) hch (Or.inl rfl) x ht (by omega) (by omega) tx0 tx1 hnu hm0 hm1 b0 hb0 hl0 c hc (by omega) s0 hs)
      · skip
        have eB : rs_also tape taped at_ = 1 := by omega
        refine ev_aload_n de_Mo_compare_95 rfl rfl ?_
        refine ev_dup de_Mo_compare_96 rfl ?_
        refine ev_getfield de_Mo_compare_97 rfl fl_Mo_87 rfl ?_
        refine ev_iconst de_Mo_compare_100 ?_
        refine ev_iadd de_Mo_compare_101 ?_
        refine ev_putfield de_Mo_compare_102 rfl (fp_Mo_87 _) (Nat.le_of_ble_eq_true rfl) trivial ?_
        refine ev_world (w' := mo_W _ _ _ _ _ _ _ _ _ _ _ _ _ _ _ _ _ _ _ _ _ _ _ _ _ _ _ _ _ _ _ _ _ _ _ _ _) rfl ?_
        rw [eA]
        first | (exfalso; omega) | exact l2_Mo_compare ch at_ 0 ha0 (by omega) hch (Or.inl rfl) x ht (by omega) (by omega) tx0 tx1 hnu hm0 hm1 b0 hb0 hl0 c hc (by omega) s0 hs | exact l2_Mo_compare ch at_ 1 ha0 (by omega) hch (Or.inr rfl) x ht (by omega) (by omega) tx0 tx1 hnu hm0 hm1 b0 hb0 hl0 c hc (by omega) s0 hs | (rw [show at_ + 1 + 0 = at_ + 1 by omega]; exact l2_Mo_compare ch at_ 0 ha0 (by omega) hch (Or.inl rfl) x ht (by omega) (by omega) tx0 tx1 hnu hm0 hm1 b0 hb0 hl0 c hc (by omega) s0 hs)
    · skip
      have qb := ht.2.2 (at_ + 1) (by omega) (by omega)
      refine ev_aload_n de_Mo_compare_71 rfl rfl ?_
      refine ev_getfield de_Mo_compare_72 rfl fl_Mo_7 rfl ?_
      refine ev_aload_n de_Mo_compare_75 rfl rfl ?_
      refine ev_getfield de_Mo_compare_76 rfl fl_Mo_87 rfl ?_
      refine ev_baload de_Mo_compare_79 rfl (by omega) (by omega) (by omega) ?_
      refine ev_bipush de_Mo_compare_80 rfl ?_
      refine ev_icmp_ne (tgt := 89) de_Mo_compare_82 (by decide) (by omega) (by omega) (fun h82 => ?_) (fun h82 => ?_)
      · skip
        have eA : rs_also tape taped at_ = 0 := by unfold rs_also; rw [if_neg (fun z => h82 z.2.2)]
        refine ev_iconst de_Mo_compare_89 ?_
        refine ev_istore_n (l' := [_, _, _, _, _]) de_Mo_compare_90 rfl (Nat.le_of_ble_eq_true rfl) rfl ?_
        refine ev_iload_n de_Mo_compare_91 rfl rfl ?_
        refine ev_if_eq (tgt := 105) de_Mo_compare_92 (by decide) (by omega) (fun h92 => ?_) (fun h92 => ?_)
        · skip
          have eB : rs_also tape taped at_ = 0 := by omega
          rw [eA]
          first | (exfalso; omega) | exact l2_Mo_compare ch at_ 0 ha0 (by omega) hch (Or.inl rfl) x ht (by omega) (by omega) tx0 tx1 hnu hm0 hm1 b0 hb0 hl0 c hc (by omega) s0 hs | exact l2_Mo_compare ch at_ 1 ha0 (by omega) hch (Or.inr rfl) x ht (by omega) (by omega) tx0 tx1 hnu hm0 hm1 b0 hb0 hl0 c hc (by omega) s0 hs | (rw [show at_ + 1 + 0 = at_ + 1 by omega]; exact l2_Mo_compare ch at_ 0 ha0 (by omega) hch (Or.inl rfl) x ht (by omega) (by omega) tx0 tx1 hnu hm0 hm1 b0 hb0 hl0 c hc (by omega) s0 hs)
        · skip
          have eB : rs_also tape taped at_ = 1 := by omega
          refine ev_aload_n de_Mo_compare_95 rfl rfl ?_
          refine ev_dup de_Mo_compare_96 rfl ?_
          refine ev_getfield de_Mo_compare_97 rfl fl_Mo_87 rfl ?_
          refine ev_iconst de_Mo_compare_100 ?_
          refine ev_iadd de_Mo_compare_101 ?_
          refine ev_putfield de_Mo_compare_102 rfl (fp_Mo_87 _) (Nat.le_of_ble_eq_true rfl) trivial ?_
          refine ev_world (w' := mo_W _ _ _ _ _ _ _ _ _ _ _ _ _ _ _ _ _ _ _ _ _ _ _ _ _ _ _ _ _ _ _ _ _ _ _ _ _) rfl ?_
          rw [eA]
          first | (exfalso; omega) | exact l2_Mo_compare ch at_ 0 ha0 (by omega) hch (Or.inl rfl) x ht (by omega) (by omega) tx0 tx1 hnu hm0 hm1 b0 hb0 hl0 c hc (by omega) s0 hs | exact l2_Mo_compare ch at_ 1 ha0 (by omega) hch (Or.inr rfl) x ht (by omega) (by omega) tx0 tx1 hnu hm0 hm1 b0 hb0 hl0 c hc (by omega) s0 hs | (rw [show at_ + 1 + 0 = at_ + 1 by omega]; exact l2_Mo_compare ch at_ 0 ha0 (by omega) hch (Or.inl rfl) x ht (by omega) (by omega) tx0 tx1 hnu hm0 hm1 b0 hb0 hl0 c hc (by omega) s0 hs)
      · skip
        have eA : rs_also tape taped at_ = 1 := by unfold rs_also; rw [if_pos ⟨by omega, by omega, h82⟩]
        refine ev_iconst de_Mo_compare_85 ?_
        refine ev_goto (tgt := 90) de_Mo_compare_86 (by decide) ?_
        refine ev_istore_n (l' := [_, _, _, _, _]) de_Mo_compare_90 rfl (Nat.le_of_ble_eq_true rfl) rfl ?_
        refine ev_iload_n de_Mo_compare_91 rfl rfl ?_
        refine ev_if_eq (tgt := 105) de_Mo_compare_92 (by decide) (by omega) (fun h92 => ?_) (fun h92 => ?_)
        · skip
          have eB : rs_also tape taped at_ = 0 := by omega
          rw [eA]
          first | (exfalso; omega) | exact l2_Mo_compare ch at_ 0 ha0 (by omega) hch (Or.inl rfl) x ht (by omega) (by omega) tx0 tx1 hnu hm0 hm1 b0 hb0 hl0 c hc (by omega) s0 hs | exact l2_Mo_compare ch at_ 1 ha0 (by omega) hch (Or.inr rfl) x ht (by omega) (by omega) tx0 tx1 hnu hm0 hm1 b0 hb0 hl0 c hc (by omega) s0 hs | (rw [show at_ + 1 + 0 = at_ + 1 by omega]; exact l2_Mo_compare ch at_ 0 ha0 (by omega) hch (Or.inl rfl) x ht (by omega) (by omega) tx0 tx1 hnu hm0 hm1 b0 hb0 hl0 c hc (by omega) s0 hs)
        · skip
          have eB : rs_also tape taped at_ = 1 := by omega
          refine ev_aload_n de_Mo_compare_95 rfl rfl ?_
          refine ev_dup de_Mo_compare_96 rfl ?_
          refine ev_getfield de_Mo_compare_97 rfl fl_Mo_87 rfl ?_
          refine ev_iconst de_Mo_compare_100 ?_
          refine ev_iadd de_Mo_compare_101 ?_
          refine ev_putfield de_Mo_compare_102 rfl (fp_Mo_87 _) (Nat.le_of_ble_eq_true rfl) trivial ?_
          refine ev_world (w' := mo_W _ _ _ _ _ _ _ _ _ _ _ _ _ _ _ _ _ _ _ _ _ _ _ _ _ _ _ _ _ _ _ _ _ _ _ _ _) rfl ?_
          rw [eA]
          first | (exfalso; omega) | exact l2_Mo_compare ch at_ 0 ha0 (by omega) hch (Or.inl rfl) x ht (by omega) (by omega) tx0 tx1 hnu hm0 hm1 b0 hb0 hl0 c hc (by omega) s0 hs | exact l2_Mo_compare ch at_ 1 ha0 (by omega) hch (Or.inr rfl) x ht (by omega) (by omega) tx0 tx1 hnu hm0 hm1 b0 hb0 hl0 c hc (by omega) s0 hs | (rw [show at_ + 1 + 0 = at_ + 1 by omega]; exact l2_Mo_compare ch at_ 0 ha0 (by omega) hch (Or.inl rfl) x ht (by omega) (by omega) tx0 tx1 hnu hm0 hm1 b0 hb0 hl0 c hc (by omega) s0 hs)
set_option maxHeartbeats 4000000 in
set_option maxRecDepth 10000 in
theorem co_Mo_compare (ht : tp_ok tape taped) (hn0 : 0 ≤ next) (hn1 : next ≤ taped) (tx0 : 0 ≤ text) (tx1 : text ≤ 5) (hnu : ab_in number) (hm0 : 0 ≤ made) (hm1 : made ≤ 60) (b0 : Int) (hb0 : 0 ≤ b0) (hl0 : b0 ≤ leng text) (c : Int) (hc : c ≤ 0) (hl1 : leng text - next ≤ c) (s0 : Int → Int) (hs : sg_fr text s0 sign) : ab_Mt g_G g_rs mt_Mo_compare 6 0 0 [ab_R 0] (mo_W tape taped rules sign leng clause clauses read next (0) number text made deep lines opn opened stack top word said xx was undone kept sumOf faced slotAt dayAt row bestRow tMany tMost drawX images imageX isMade) (pv tape taped rules clause clauses read text deep lines opn opened stack top word said xx was undone kept sumOf faced slotAt dayAt row bestRow tMany tMost drawX images imageX isMade c b0 s0 (rs_cmp tape taped text next made leng sign)) := by
  refine ab_Mt.of rfl (Nat.le_of_ble_eq_true rfl) ?_
  show ab_Ev g_G g_rs mt_Mo_compare _ _ _ 0 [some (ab_R 0), none, none, none, none] [] _ _
  have p1 := ht.2.1
  refine ev_aload_n de_Mo_compare_0 rfl rfl ?_
  refine ev_virtual (ci := 11) (mc := 0) (ms := 0) (bc := 0) (bs := 0) de_Mo_compare_1 (co_Mo_sum ht hn0 hn1 tx0 tx1 hnu hm0 hm1 b0 hb0 hl0 c hc hl1 s0 hs) kb_Mo_180 ⟨im_Mo_sum, se_Mo_sum⟩ rfl rfl rfl (Nat.le_of_ble_eq_true rfl) (by decide) (Or.inl (fun r w1 h => by obtain ⟨nx, nu, wr, mk, le, sg, e, -⟩ := h; rw [e]; first | exact mo_Wn.trans mo_Wn.symm | rfl)) (fun r1 w1 hm1 => ?_)
  obtain ⟨nx1, nu1, wr1, mk1, le1, sg1, rfl, hnx1, hnu1, hmk1, hfr1, hc1⟩ := hm1; rcases hc1 with ⟨rfl, rfl, hle1, hX1⟩ | ⟨rfl, hwr1, hX1⟩
  · skip
    have hb := tk_sk_b tape hnx1.2
    have hcb := tk_ch_b tape taped (tk_sk tape taped nx1)
    refine ev_if_ne_t (tgt := 9) de_Mo_compare_4 (by decide) (by decide) (by decide) ?_
    refine ev_aload_n de_Mo_compare_9 rfl rfl ?_
    refine ev_vv (ci := 11) de_Mo_compare_10 (co_Mo_see ht hnx1.1 hnx1.2) kb_Mo_90 ⟨im_Mo_see, se_Mo_see⟩ rfl rfl rfl (Nat.le_of_ble_eq_true rfl) (by decide) rfl ?_
    refine ev_istore_n (l' := [_, _, _, _, _]) de_Mo_compare_13 rfl (Nat.le_of_ble_eq_true rfl) rfl ?_
    refine ev_aload_n de_Mo_compare_14 rfl rfl ?_
    refine ev_getfield de_Mo_compare_15 rfl fl_Mo_87 rfl ?_
    refine ev_istore_n (l' := [_, _, _, _, _]) de_Mo_compare_18 rfl (Nat.le_of_ble_eq_true rfl) rfl ?_
    refine ev_iload_n de_Mo_compare_19 rfl rfl ?_
    refine ev_bipush de_Mo_compare_20 rfl ?_
    refine ev_icmp_eq (tgt := 44) de_Mo_compare_22 (by decide) (by omega) (by omega) (fun h22 => ?_) (fun h22 => ?_)
    · skip
      have hop : tk_ch tape taped (tk_sk tape taped nx1) = 60 ∨ tk_ch tape taped (tk_sk tape taped nx1) = 61 ∨ tk_ch tape taped (tk_sk tape taped nx1) = 62 := by omega
      have hlt : tk_sk tape taped nx1 < taped := Decidable.byContradiction (fun z => by unfold tk_ch at hop; rw [if_neg z] at hop; omega)
      have e : rs_cmp tape taped text next made leng sign = rs_c2 tape taped text (tk_sk tape taped nx1) (rs_cs (tk_ch tape taped (tk_sk tape taped nx1)) (rs_also tape taped (tk_sk tape taped nx1))) (tk_sk tape taped nx1 + 1 + rs_also tape taped (tk_sk tape taped nx1)) mk1 le1 sg1 := by unfold rs_cmp; rw [hX1]; exact if_pos hop
      rw [e]
      exact l1_Mo_compare (tk_ch tape taped (tk_sk tape taped nx1)) (tk_sk tape taped nx1) (by omega) rfl _ _ ht (by omega) hlt tx0 tx1 hnu1 hmk1.1 hmk1.2 b0 hb0 hle1.1 c hc (by omega) s0 hfr1
    · skip
      refine ev_iload_n de_Mo_compare_25 rfl rfl ?_
      refine ev_bipush de_Mo_compare_26 rfl ?_
      refine ev_icmp_eq (tgt := 44) de_Mo_compare_28 (by decide) (by omega) (by omega) (fun h28 => ?_) (fun h28 => ?_)
      · skip
        have hop : tk_ch tape taped (tk_sk tape taped nx1) = 60 ∨ tk_ch tape taped (tk_sk tape taped nx1) = 61 ∨ tk_ch tape taped (tk_sk tape taped nx1) = 62 := by omega
        have hlt : tk_sk tape taped nx1 < taped := Decidable.byContradiction (fun z => by unfold tk_ch at hop; rw [if_neg z] at hop; omega)
        have e : rs_cmp tape taped text next made leng sign = rs_c2 tape taped text (tk_sk tape taped nx1) (rs_cs (tk_ch tape taped (tk_sk tape taped nx1)) (rs_also tape taped (tk_sk tape taped nx1))) (tk_sk tape taped nx1 + 1 + rs_also tape taped (tk_sk tape taped nx1)) mk1 le1 sg1 := by unfold rs_cmp; rw [hX1]; exact if_pos hop
        rw [e]
        exact l1_Mo_compare (tk_ch tape taped (tk_sk tape taped nx1)) (tk_sk tape taped nx1) (by omega) rfl _ _ ht (by omega) hlt tx0 tx1 hnu1 hmk1.1 hmk1.2 b0 hb0 hle1.1 c hc (by omega) s0 hfr1
      · skip
        refine ev_iload_n de_Mo_compare_31 rfl rfl ?_
        refine ev_bipush de_Mo_compare_32 rfl ?_
        refine ev_icmp_eq (tgt := 44) de_Mo_compare_34 (by decide) (by omega) (by omega) (fun h34 => ?_) (fun h34 => ?_)
        · skip
          have hop : tk_ch tape taped (tk_sk tape taped nx1) = 60 ∨ tk_ch tape taped (tk_sk tape taped nx1) = 61 ∨ tk_ch tape taped (tk_sk tape taped nx1) = 62 := by omega
          have hlt : tk_sk tape taped nx1 < taped := Decidable.byContradiction (fun z => by unfold tk_ch at hop; rw [if_neg z] at hop; omega)
          have e : rs_cmp tape taped text next made leng sign = rs_c2 tape taped text (tk_sk tape taped nx1) (rs_cs (tk_ch tape taped (tk_sk tape taped nx1)) (rs_also tape taped (tk_sk tape taped nx1))) (tk_sk tape taped nx1 + 1 + rs_also tape taped (tk_sk tape taped nx1)) mk1 le1 sg1 := by unfold rs_cmp; rw [hX1]; exact if_pos hop
          rw [e]
          exact l1_Mo_compare (tk_ch tape taped (tk_sk tape taped nx1)) (tk_sk tape taped nx1) (by omega) rfl _ _ ht (by omega) hlt tx0 tx1 hnu1 hmk1.1 hmk1.2 b0 hb0 hle1.1 c hc (by omega) s0 hfr1
        · skip
          have ef : tk_fl 0 0 (tk_sk tape taped nx1) = 1 + 8 * (tk_sk tape taped nx1) + 0 := rfl
          refine ev_aload_n de_Mo_compare_37 rfl rfl ?_
          refine ev_iconst de_Mo_compare_38 ?_
          refine ev_iload_n de_Mo_compare_39 rfl rfl ?_
          refine ev_vv (ci := 11) de_Mo_compare_40 (co_Mo_fails 0 (tk_sk tape taped nx1) (by decide)) kb_Mo_108 ⟨im_Mo_fails, se_Mo_fails⟩ rfl rfl rfl (Nat.le_of_ble_eq_true rfl) (by decide) rfl ?_
          exact ev_zreturn de_Mo_compare_43 rfl (by decide) ⟨_, _, _, _, _, _, rfl, ⟨by omega, hb.2⟩, hnu1, hmk1, hfr1, Or.inr ⟨rfl, by rw [ef]; omega, by unfold rs_cmp; rw [hX1]; exact if_neg (by omega)⟩⟩
  · skip
    refine ev_if_ne_f (tgt := 9) de_Mo_compare_4 (by decide) (by decide) (by decide) ?_
    refine ev_iconst de_Mo_compare_7 ?_
    exact ev_zreturn de_Mo_compare_8 rfl (by decide) ⟨_, _, _, _, _, _, rfl, hnx1, hnu1, hmk1, hfr1, Or.inr ⟨rfl, hwr1, by unfold rs_cmp; rw [hX1]⟩⟩
end MO
