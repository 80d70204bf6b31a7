section MO
variable {tape : Int → Int} {taped : Int} {rules : Int} {sign : Int → Int} {leng : Int → Int} {clause : Int → Int} {clauses : Int → Int} {read : Int → Int} {next : Int} {wrong : Int} {number : Int} {text : Int} {made : Int} {deep : Int} {lines : Int} {opn : Int → Int} {opened : Int} {stack : Int → Int64} {top : Int} {word : Int → Int64} {said : Int → Int} {xx : Int} {was : Int → Int} {undone : Int} {kept : Int → Int} {sumOf : Int → Int} {faced : Int → Int} {slotAt : Int → Int} {dayAt : Int → Int} {row : Int → Int} {bestRow : Int → Int} {tMany : Int} {tMost : Int} {drawX : Int64} {images : Int → Int} {imageX : Int → Int} {isMade : Int → Int}
theorem rs_fill_n {rd : Int → Int} {a v k : Int} : ∀ n : Nat, (k < a ∨ a + n ≤ k) → rs_fill rd a v n k = rd k
  | 0, _ => rfl
  | n + 1, h => by
    show ab_up (rs_fill rd a v n) (a + (n : Int)) v k = rd k
    rw [ab_upn _ _ (by omega)]
    exact rs_fill_n n (by omega)
theorem rd_fill0 {rd : Int → Int} {a : Int} (h : rd_ok rd) (ha : 60 ≤ a) : ∀ n : Nat, a + n ≤ 95 → rd_ok (rs_fill rd a 0 n)
  | 0, _ => h
  | n + 1, hn => rd_like (rd_fill0 h ha n (by omega)) (by omega) (by omega) (by decide) (by decide)
/-- is a told house in the slot v -/
def rs_dup (rd : Int → Int) (h v : Int) : Bool := (List.range h.toNat).any (fun k => decide (rd (46 + (k : Int)) = v))
theorem rs_dup_t {rd : Int → Int} {h v : Int} {k : Nat} (hk : (k : Int) < h) (e : rd (46 + (k : Int)) = v) : rs_dup rd h v = true := List.any_eq_true.mpr ⟨k, List.mem_range.mpr (by omega), decide_eq_true e⟩
theorem rs_dup_f {rd : Int → Int} {h v : Int} (e : ∀ k : Nat, (k : Int) < h → rd (46 + (k : Int)) ≠ v) : rs_dup rd h v = false := List.any_eq_false.mpr (fun k hk => by have := List.mem_range.mp hk; exact fun z => e k (by omega) (of_decide_eq_true z))
theorem rd_cell {rd : Int → Int} {a v b : Int} (h : rd_ok rd) (h0 : 0 ≤ v) (h1 : v ≤ b) (hb : (b = 11 ∧ ((46 ≤ a ∧ a < 53) ∨ (143 ≤ a ∧ a < 150))) ∨ (b = 9 ∧ 53 ≤ a ∧ a < 60)) : rd_ok (ab_up rd a v) := by
  refine rd_up h ?_ (fun z => by omega)
  unfold sg_lo sg_hi
  rw [if_neg (by omega), if_neg (by omega), if_neg (by omega), if_neg (by omega), if_neg (by omega)]
  by_cases c1 : a < 53
  · rw [if_pos c1]; omega
  · rw [if_neg c1]
    by_cases c2 : a < 95
    · rw [if_pos c2]; omega
    · rw [if_neg c2, if_neg (by omega), if_pos (by omega)]; omega
def rs_house (tape : Int → Int) (taped nx at_ : Int) (rd : Int → Int) : Except Int (Int × (Int → Int)) := if rd 1 = 7 then .error (1 + 8 * at_ + 4) else match rs_num tape taped 0 11 (tk_sk tape taped (tk_le tape taped nx)) with
  | .error e => .error e
  | .ok (n1, v1) => if rs_dup rd (rd 1) v1 = true then .error (1 + 8 * tk_sk tape taped (tk_le tape taped nx) + 1) else match rs_num tape taped 1 9 n1 with
    | .error e => .error e
    | .ok (n2, v2) => .ok (n2, ab_up (ab_up (rs_fill (ab_up (ab_up rd (46 + rd 1) v1) (53 + rd 1) v2) (60 + 5 * rd 1) 0 5) (143 + rd 1) v1) 1 (rd 1 + 1))
theorem de_Mo_isHouseHere_0 : decode prog_14_method_33_code 0 = .ok (.aload_n 0, 1) := by decide +kernel
theorem de_Mo_isHouseHere_1 : decode prog_14_method_33_code 1 = .ok (.getfield 26, 3) := by decide +kernel
theorem de_Mo_isHouseHere_4 : decode prog_14_method_33_code 4 = .ok (.iconst 1, 1) := by decide +kernel
theorem de_Mo_isHouseHere_5 : decode prog_14_method_33_code 5 = .ok (.iaload, 1) := by decide +kernel
theorem de_Mo_isHouseHere_6 : decode prog_14_method_33_code 6 = .ok (.bipush 7, 2) := by decide +kernel
theorem de_Mo_isHouseHere_8 : decode prog_14_method_33_code 8 = .ok (.if_icmp .ne 10, 3) := by decide +kernel
theorem de_Mo_isHouseHere_11 : decode prog_14_method_33_code 11 = .ok (.aload_n 0, 1) := by decide +kernel
theorem de_Mo_isHouseHere_12 : decode prog_14_method_33_code 12 = .ok (.iconst 4, 1) := by decide +kernel
theorem de_Mo_isHouseHere_13 : decode prog_14_method_33_code 13 = .ok (.iload_n 1, 1) := by decide +kernel
theorem de_Mo_isHouseHere_14 : decode prog_14_method_33_code 14 = .ok (.invokevirtual 108, 3) := by decide +kernel
theorem de_Mo_isHouseHere_17 : decode prog_14_method_33_code 17 = .ok (.ireturn, 1) := by decide +kernel
theorem de_Mo_isHouseHere_18 : decode prog_14_method_33_code 18 = .ok (.aload_n 0, 1) := by decide +kernel
theorem de_Mo_isHouseHere_19 : decode prog_14_method_33_code 19 = .ok (.invokevirtual 102, 3) := by decide +kernel
theorem de_Mo_isHouseHere_22 : decode prog_14_method_33_code 22 = .ok (.aload_n 0, 1) := by decide +kernel
theorem de_Mo_isHouseHere_23 : decode prog_14_method_33_code 23 = .ok (.getfield 26, 3) := by decide +kernel
theorem de_Mo_isHouseHere_26 : decode prog_14_method_33_code 26 = .ok (.iconst 1, 1) := by decide +kernel
theorem de_Mo_isHouseHere_27 : decode prog_14_method_33_code 27 = .ok (.iaload, 1) := by decide +kernel
theorem de_Mo_isHouseHere_28 : decode prog_14_method_33_code 28 = .ok (.istore_n 2, 1) := by decide +kernel
theorem de_Mo_isHouseHere_29 : decode prog_14_method_33_code 29 = .ok (.aload_n 0, 1) := by decide +kernel
theorem de_Mo_isHouseHere_30 : decode prog_14_method_33_code 30 = .ok (.invokevirtual 90, 3) := by decide +kernel
theorem de_Mo_isHouseHere_33 : decode prog_14_method_33_code 33 = .ok (.pop, 1) := by decide +kernel
theorem de_Mo_isHouseHere_34 : decode prog_14_method_33_code 34 = .ok (.aload_n 0, 1) := by decide +kernel
theorem de_Mo_isHouseHere_35 : decode prog_14_method_33_code 35 = .ok (.getfield 87, 3) := by decide +kernel
theorem de_Mo_isHouseHere_38 : decode prog_14_method_33_code 38 = .ok (.istore_n 3, 1) := by decide +kernel
theorem de_Mo_isHouseHere_39 : decode prog_14_method_33_code 39 = .ok (.aload_n 0, 1) := by decide +kernel
theorem de_Mo_isHouseHere_40 : decode prog_14_method_33_code 40 = .ok (.bipush 46, 2) := by decide +kernel
theorem de_Mo_isHouseHere_42 : decode prog_14_method_33_code 42 = .ok (.iload_n 2, 1) := by decide +kernel
theorem de_Mo_isHouseHere_43 : decode prog_14_method_33_code 43 = .ok (.iadd, 1) := by decide +kernel
theorem de_Mo_isHouseHere_44 : decode prog_14_method_33_code 44 = .ok (.iconst 0, 1) := by decide +kernel
theorem de_Mo_isHouseHere_45 : decode prog_14_method_33_code 45 = .ok (.bipush 11, 2) := by decide +kernel
theorem de_Mo_isHouseHere_47 : decode prog_14_method_33_code 47 = .ok (.invokevirtual 215, 3) := by decide +kernel
theorem de_Mo_isHouseHere_50 : decode prog_14_method_33_code 50 = .ok (.ifCond .ne 5, 3) := by decide +kernel
theorem de_Mo_isHouseHere_53 : decode prog_14_method_33_code 53 = .ok (.iconst 0, 1) := by decide +kernel
theorem de_Mo_isHouseHere_54 : decode prog_14_method_33_code 54 = .ok (.ireturn, 1) := by decide +kernel
theorem de_Mo_isHouseHere_55 : decode prog_14_method_33_code 55 = .ok (.iconst 0, 1) := by decide +kernel
theorem de_Mo_isHouseHere_56 : decode prog_14_method_33_code 56 = .ok (.istore 4, 2) := by decide +kernel
theorem de_Mo_isHouseHere_58 : decode prog_14_method_33_code 58 = .ok (.iload 4, 2) := by decide +kernel
theorem de_Mo_isHouseHere_60 : decode prog_14_method_33_code 60 = .ok (.iload_n 2, 1) := by decide +kernel
theorem de_Mo_isHouseHere_61 : decode prog_14_method_33_code 61 = .ok (.if_icmp .ge 38, 3) := by decide +kernel
theorem de_Mo_isHouseHere_64 : decode prog_14_method_33_code 64 = .ok (.aload_n 0, 1) := by decide +kernel
theorem de_Mo_isHouseHere_65 : decode prog_14_method_33_code 65 = .ok (.getfield 26, 3) := by decide +kernel
theorem de_Mo_isHouseHere_68 : decode prog_14_method_33_code 68 = .ok (.bipush 46, 2) := by decide +kernel
theorem de_Mo_isHouseHere_70 : decode prog_14_method_33_code 70 = .ok (.iload 4, 2) := by decide +kernel
theorem de_Mo_isHouseHere_72 : decode prog_14_method_33_code 72 = .ok (.iadd, 1) := by decide +kernel
theorem de_Mo_isHouseHere_73 : decode prog_14_method_33_code 73 = .ok (.iaload, 1) := by decide +kernel
theorem de_Mo_isHouseHere_74 : decode prog_14_method_33_code 74 = .ok (.aload_n 0, 1) := by decide +kernel
theorem de_Mo_isHouseHere_75 : decode prog_14_method_33_code 75 = .ok (.getfield 26, 3) := by decide +kernel
theorem de_Mo_isHouseHere_78 : decode prog_14_method_33_code 78 = .ok (.bipush 46, 2) := by decide +kernel
theorem de_Mo_isHouseHere_80 : decode prog_14_method_33_code 80 = .ok (.iload_n 2, 1) := by decide +kernel
theorem de_Mo_isHouseHere_81 : decode prog_14_method_33_code 81 = .ok (.iadd, 1) := by decide +kernel
theorem de_Mo_isHouseHere_82 : decode prog_14_method_33_code 82 = .ok (.iaload, 1) := by decide +kernel
theorem de_Mo_isHouseHere_83 : decode prog_14_method_33_code 83 = .ok (.if_icmp .ne 10, 3) := by decide +kernel
theorem de_Mo_isHouseHere_86 : decode prog_14_method_33_code 86 = .ok (.aload_n 0, 1) := by decide +kernel
theorem de_Mo_isHouseHere_87 : decode prog_14_method_33_code 87 = .ok (.iconst 1, 1) := by decide +kernel
theorem de_Mo_isHouseHere_88 : decode prog_14_method_33_code 88 = .ok (.iload_n 3, 1) := by decide +kernel
theorem de_Mo_isHouseHere_89 : decode prog_14_method_33_code 89 = .ok (.invokevirtual 108, 3) := by decide +kernel
theorem de_Mo_isHouseHere_92 : decode prog_14_method_33_code 92 = .ok (.ireturn, 1) := by decide +kernel
theorem de_Mo_isHouseHere_93 : decode prog_14_method_33_code 93 = .ok (.iinc 4 1, 3) := by decide +kernel
theorem de_Mo_isHouseHere_96 : decode prog_14_method_33_code 96 = .ok (.goto (-38), 3) := by decide +kernel
theorem de_Mo_isHouseHere_99 : decode prog_14_method_33_code 99 = .ok (.aload_n 0, 1) := by decide +kernel
theorem de_Mo_isHouseHere_100 : decode prog_14_method_33_code 100 = .ok (.bipush 53, 2) := by decide +kernel
theorem de_Mo_isHouseHere_102 : decode prog_14_method_33_code 102 = .ok (.iload_n 2, 1) := by decide +kernel
theorem de_Mo_isHouseHere_103 : decode prog_14_method_33_code 103 = .ok (.iadd, 1) := by decide +kernel
theorem de_Mo_isHouseHere_104 : decode prog_14_method_33_code 104 = .ok (.iconst 1, 1) := by decide +kernel
theorem de_Mo_isHouseHere_105 : decode prog_14_method_33_code 105 = .ok (.bipush 9, 2) := by decide +kernel
theorem de_Mo_isHouseHere_107 : decode prog_14_method_33_code 107 = .ok (.invokevirtual 215, 3) := by decide +kernel
theorem de_Mo_isHouseHere_110 : decode prog_14_method_33_code 110 = .ok (.ifCond .ne 5, 3) := by decide +kernel
theorem de_Mo_isHouseHere_113 : decode prog_14_method_33_code 113 = .ok (.iconst 0, 1) := by decide +kernel
theorem de_Mo_isHouseHere_114 : decode prog_14_method_33_code 114 = .ok (.ireturn, 1) := by decide +kernel
theorem de_Mo_isHouseHere_115 : decode prog_14_method_33_code 115 = .ok (.iconst 0, 1) := by decide +kernel
theorem de_Mo_isHouseHere_116 : decode prog_14_method_33_code 116 = .ok (.istore 4, 2) := by decide +kernel
theorem de_Mo_isHouseHere_118 : decode prog_14_method_33_code 118 = .ok (.iload 4, 2) := by decide +kernel
theorem de_Mo_isHouseHere_120 : decode prog_14_method_33_code 120 = .ok (.iconst 5, 1) := by decide +kernel
theorem de_Mo_isHouseHere_121 : decode prog_14_method_33_code 121 = .ok (.if_icmp .ge 24, 3) := by decide +kernel
theorem de_Mo_isHouseHere_124 : decode prog_14_method_33_code 124 = .ok (.aload_n 0, 1) := by decide +kernel
theorem de_Mo_isHouseHere_125 : decode prog_14_method_33_code 125 = .ok (.getfield 26, 3) := by decide +kernel
theorem de_Mo_isHouseHere_128 : decode prog_14_method_33_code 128 = .ok (.bipush 60, 2) := by decide +kernel
theorem de_Mo_isHouseHere_130 : decode prog_14_method_33_code 130 = .ok (.iconst 5, 1) := by decide +kernel
theorem de_Mo_isHouseHere_131 : decode prog_14_method_33_code 131 = .ok (.iload_n 2, 1) := by decide +kernel
theorem de_Mo_isHouseHere_132 : decode prog_14_method_33_code 132 = .ok (.imul, 1) := by decide +kernel
theorem de_Mo_isHouseHere_133 : decode prog_14_method_33_code 133 = .ok (.iadd, 1) := by decide +kernel
theorem de_Mo_isHouseHere_134 : decode prog_14_method_33_code 134 = .ok (.iload 4, 2) := by decide +kernel
theorem de_Mo_isHouseHere_136 : decode prog_14_method_33_code 136 = .ok (.iadd, 1) := by decide +kernel
theorem de_Mo_isHouseHere_137 : decode prog_14_method_33_code 137 = .ok (.iconst 0, 1) := by decide +kernel
theorem de_Mo_isHouseHere_138 : decode prog_14_method_33_code 138 = .ok (.iastore, 1) := by decide +kernel
theorem de_Mo_isHouseHere_139 : decode prog_14_method_33_code 139 = .ok (.iinc 4 1, 3) := by decide +kernel
theorem de_Mo_isHouseHere_142 : decode prog_14_method_33_code 142 = .ok (.goto (-24), 3) := by decide +kernel
theorem de_Mo_isHouseHere_145 : decode prog_14_method_33_code 145 = .ok (.aload_n 0, 1) := by decide +kernel
theorem de_Mo_isHouseHere_146 : decode prog_14_method_33_code 146 = .ok (.getfield 26, 3) := by decide +kernel
theorem de_Mo_isHouseHere_149 : decode prog_14_method_33_code 149 = .ok (.sipush 143, 3) := by decide +kernel
theorem de_Mo_isHouseHere_152 : decode prog_14_method_33_code 152 = .ok (.iload_n 2, 1) := by decide +kernel
theorem de_Mo_isHouseHere_153 : decode prog_14_method_33_code 153 = .ok (.iadd, 1) := by decide +kernel
theorem de_Mo_isHouseHere_154 : decode prog_14_method_33_code 154 = .ok (.aload_n 0, 1) := by decide +kernel
theorem de_Mo_isHouseHere_155 : decode prog_14_method_33_code 155 = .ok (.getfield 26, 3) := by decide +kernel
theorem de_Mo_isHouseHere_158 : decode prog_14_method_33_code 158 = .ok (.bipush 46, 2) := by decide +kernel
theorem de_Mo_isHouseHere_160 : decode prog_14_method_33_code 160 = .ok (.iload_n 2, 1) := by decide +kernel
theorem de_Mo_isHouseHere_161 : decode prog_14_method_33_code 161 = .ok (.iadd, 1) := by decide +kernel
theorem de_Mo_isHouseHere_162 : decode prog_14_method_33_code 162 = .ok (.iaload, 1) := by decide +kernel
theorem de_Mo_isHouseHere_163 : decode prog_14_method_33_code 163 = .ok (.iastore, 1) := by decide +kernel
theorem de_Mo_isHouseHere_164 : decode prog_14_method_33_code 164 = .ok (.aload_n 0, 1) := by decide +kernel
theorem de_Mo_isHouseHere_165 : decode prog_14_method_33_code 165 = .ok (.getfield 26, 3) := by decide +kernel
theorem de_Mo_isHouseHere_168 : decode prog_14_method_33_code 168 = .ok (.iconst 1, 1) := by decide +kernel
theorem de_Mo_isHouseHere_169 : decode prog_14_method_33_code 169 = .ok (.dup2, 1) := by decide +kernel
theorem de_Mo_isHouseHere_170 : decode prog_14_method_33_code 170 = .ok (.iaload, 1) := by decide +kernel
theorem de_Mo_isHouseHere_171 : decode prog_14_method_33_code 171 = .ok (.iconst 1, 1) := by decide +kernel
theorem de_Mo_isHouseHere_172 : decode prog_14_method_33_code 172 = .ok (.iadd, 1) := by decide +kernel
theorem de_Mo_isHouseHere_173 : decode prog_14_method_33_code 173 = .ok (.iastore, 1) := by decide +kernel
theorem de_Mo_isHouseHere_174 : decode prog_14_method_33_code 174 = .ok (.iconst 1, 1) := by decide +kernel
theorem de_Mo_isHouseHere_175 : decode prog_14_method_33_code 175 = .ok (.ireturn, 1) := by decide +kernel
set_option maxRecDepth 10000 in
theorem l2_Mo_isHouseHere (at_ h f0 v1 : Int) (hh0 : 0 ≤ h) (hh1 : h < 7) (e1 : read 1 = h) (e46 : read (46 + h) = v1) : ∀ (n : Nat) (j : Nat), (j : Int) ≤ 5 → 5 < (j : Int) + n → ab_Ev g_G g_rs mt_Mo_isHouseHere 3 0 0 118 [some (ab_R 0), some (ab_I at_), some (ab_I (h)), some (ab_I (f0)), some (ab_I ((j : Int)))] [] (mo_W tape taped rules sign leng clause clauses (rs_fill read (60 + 5 * h) 0 j) next wrong number text made deep lines opn opened stack top word said xx was undone kept sumOf faced slotAt dayAt row bestRow tMany tMost drawX images imageX isMade) (ab_is (some (ab_I (1))) (mo_W tape taped rules sign leng clause clauses (ab_up (ab_up (rs_fill read (60 + 5 * h) 0 5) (143 + h) v1) 1 (h + 1)) next wrong number text made deep lines opn opened stack top word said xx was undone kept sumOf faced slotAt dayAt row bestRow tMany tMost drawX images imageX isMade)) := by
  intro n
  induction n with
  | zero =>
    intro j
    intro g0 g1; omega
  | succ n ih =>
    intro j
    intro g0 g1
    refine ev_iload de_Mo_isHouseHere_118 rfl ?_
    refine ev_iconst de_Mo_isHouseHere_120 ?_
    refine ev_icmp_ge (tgt := 145) de_Mo_isHouseHere_121 (by decide) (by omega) (by omega) (fun h121 => ?_) (fun h121 => ?_)
    · skip
      have ej : j = 5 := by omega
      subst ej
      have f46 : rs_fill read (60 + 5 * h) 0 5 (46 + h) = v1 := by rw [rs_fill_n 5 (by omega), e46]
      have f1 : ab_up (rs_fill read (60 + 5 * h) 0 5) (143 + h) v1 1 = h := by rw [ab_upn _ _ (by omega), rs_fill_n 5 (by omega), e1]
      refine ev_aload_n de_Mo_isHouseHere_145 rfl rfl ?_
      refine ev_getfield de_Mo_isHouseHere_146 rfl fl_Mo_26 rfl ?_
      refine ev_sipush de_Mo_isHouseHere_149 rfl ?_
      refine ev_iload_n de_Mo_isHouseHere_152 rfl rfl ?_
      refine ev_iadd de_Mo_isHouseHere_153 ?_
      refine ev_aload_n de_Mo_isHouseHere_154 rfl rfl ?_
      refine ev_getfield de_Mo_isHouseHere_155 rfl fl_Mo_26 rfl ?_
      refine ev_bipush de_Mo_isHouseHere_158 rfl ?_
      refine ev_iload_n de_Mo_isHouseHere_160 rfl rfl ?_
      refine ev_iadd de_Mo_isHouseHere_161 ?_
      refine ev_iaload de_Mo_isHouseHere_162 rfl (by omega) (by omega) (by omega) ?_
      refine ev_top (congrArg Sum.inl f46) ?_
      refine ev_iastore de_Mo_isHouseHere_163 rfl (by omega) (by omega) (by omega) ?_
      refine ev_world (w' := mo_W _ _ _ _ _ _ _ _ _ _ _ _ _ _ _ _ _ _ _ _ _ _ _ _ _ _ _ _ _ _ _ _ _ _ _ _ _) rfl ?_
      refine ev_aload_n de_Mo_isHouseHere_164 rfl rfl ?_
      refine ev_getfield de_Mo_isHouseHere_165 rfl fl_Mo_26 rfl ?_
      refine ev_iconst de_Mo_isHouseHere_168 ?_
      refine ev_dup2 de_Mo_isHouseHere_169 rfl rfl ?_
      refine ev_iaload de_Mo_isHouseHere_170 rfl (by omega) (by omega) (by omega) ?_
      refine ev_top (congrArg Sum.inl f1) ?_
      refine ev_iconst de_Mo_isHouseHere_171 ?_
      refine ev_iadd de_Mo_isHouseHere_172 ?_
      refine ev_iastore de_Mo_isHouseHere_173 rfl (by omega) (by omega) (by omega) ?_
      refine ev_world (w' := mo_W _ _ _ _ _ _ _ _ _ _ _ _ _ _ _ _ _ _ _ _ _ _ _ _ _ _ _ _ _ _ _ _ _ _ _ _ _) rfl ?_
      refine ev_iconst de_Mo_isHouseHere_174 ?_
      exact ev_zreturn de_Mo_isHouseHere_175 rfl (by decide) ⟨rfl, rfl⟩
    · skip
      refine ev_aload_n de_Mo_isHouseHere_124 rfl rfl ?_
      refine ev_getfield de_Mo_isHouseHere_125 rfl fl_Mo_26 rfl ?_
      refine ev_bipush de_Mo_isHouseHere_128 rfl ?_
      refine ev_iconst de_Mo_isHouseHere_130 ?_
      refine ev_iload_n de_Mo_isHouseHere_131 rfl rfl ?_
      refine ev_imul de_Mo_isHouseHere_132 ?_
      refine ev_iadd de_Mo_isHouseHere_133 ?_
      refine ev_iload de_Mo_isHouseHere_134 rfl ?_
      refine ev_iadd de_Mo_isHouseHere_136 ?_
      refine ev_iconst de_Mo_isHouseHere_137 ?_
      refine ev_iastore de_Mo_isHouseHere_138 rfl (by omega) (by omega) (by omega) ?_
      refine ev_world (w' := mo_W _ _ _ _ _ _ _ _ _ _ _ _ _ _ _ _ _ _ _ _ _ _ _ _ _ _ _ _ _ _ _ _ _ _ _ _ _) rfl ?_
      refine ev_iinc (l' := [_, _, _, _, _]) de_Mo_isHouseHere_139 rfl rfl ?_
      refine ev_goto (tgt := 118) de_Mo_isHouseHere_142 (by decide) ?_
      refine ev_world (w' := (mo_W tape taped rules sign leng clause clauses (rs_fill read (60 + 5 * h) 0 (j + 1)) next wrong number text made deep lines opn opened stack top word said xx was undone kept sumOf faced slotAt dayAt row bestRow tMany tMost drawX images imageX isMade)) (by show _ = (mo_W tape taped rules sign leng clause clauses (ab_up (rs_fill read (60 + 5 * h) 0 j) (60 + 5 * h + (j : Int)) 0) next wrong number text made deep lines opn opened stack top word said xx was undone kept sumOf faced slotAt dayAt row bestRow tMany tMost drawX images imageX isMade); rfl) ?_
      exact ih (j + 1) (by omega) (by omega)
set_option maxRecDepth 10000 in
theorem l1_Mo_isHouseHere (ht : tp_ok tape taped) (hn0 : 0 ≤ next) (hn1 : next ≤ taped) (at_ : Int) (ha0 : 0 ≤ at_) (ha1 : at_ ≤ taped) (hrd : rd_ok read) (hnu : ab_in number) (nx0 : Int) (q1 : 0 ≤ read 1 ∧ read 1 ≤ 7) (h8 : ¬ read 1 = 7) (hf0 : 0 ≤ tk_sk tape taped (tk_le tape taped nx0)) (hf1 : tk_sk tape taped (tk_le tape taped nx0) ≤ taped) (hX1 : rs_num tape taped 0 11 (tk_sk tape taped (tk_le tape taped nx0)) = .ok (next, number)) (hlo1 : 0 ≤ number) (hhi1 : number ≤ 11) : ∀ (n : Nat) (j : Nat), (j : Int) ≤ read 1 → read 1 < (j : Int) + n → (∀ k : Nat, k < j → read (46 + (k : Int)) ≠ number) → ab_Ev g_G g_rs mt_Mo_isHouseHere 3 0 0 58 [some (ab_R 0), some (ab_I at_), some (ab_I (read 1)), some (ab_I (tk_sk tape taped (tk_le tape taped nx0))), some (ab_I ((j : Int)))] [] (mo_W tape taped rules sign leng clause clauses (ab_up read (46 + read 1) number) next (0) number text made deep lines opn opened stack top word said xx was undone kept sumOf faced slotAt dayAt row bestRow tMany tMost drawX images imageX isMade) (rq tape taped rules sign leng clause clauses text made deep lines opn opened stack top word said xx was undone kept sumOf faced slotAt dayAt row bestRow tMany tMost drawX images imageX isMade (rs_house tape taped nx0 at_ read)) := by
  intro n
  induction n with
  | zero =>
    intro j
    intro g0 g1 g2; omega
  | succ n ih =>
    intro j
    intro g0 g1 g2
    have k1 := rd_cell (a := 46 + read 1) hrd hlo1 hhi1 (by omega)
    refine ev_iload de_Mo_isHouseHere_58 rfl ?_
    refine ev_iload_n de_Mo_isHouseHere_60 rfl rfl ?_
    refine ev_icmp_ge (tgt := 99) de_Mo_isHouseHere_61 (by decide) (by omega) (by omega) (fun h61 => ?_) (fun h61 => ?_)
    · skip
      have hd : rs_dup read (read 1) number = false := rs_dup_f (fun k hk => g2 k (by omega))
      have hd2 : ¬ rs_dup read (read 1) number = true := by rw [hd]; decide
      refine ev_aload_n de_Mo_isHouseHere_99 rfl rfl ?_
      refine ev_bipush de_Mo_isHouseHere_100 rfl ?_
      refine ev_iload_n de_Mo_isHouseHere_102 rfl rfl ?_
      refine ev_iadd de_Mo_isHouseHere_103 ?_
      refine ev_iconst de_Mo_isHouseHere_104 ?_
      refine ev_bipush de_Mo_isHouseHere_105 rfl ?_
      refine ev_virtual (ci := 11) (mc := 0) (ms := 0) (bc := 0) (bs := 0) de_Mo_isHouseHere_107 (co_Mo_cellHere ht hn0 hn1 rfl hnu (53 + read 1) 1 9 (by omega) (by omega) (by decide) (by decide)) kb_Mo_215 ⟨im_Mo_cellHere, se_Mo_cellHere⟩ rfl rfl rfl (Nat.le_of_ble_eq_true rfl) (by decide) (Or.inl (fun r w1 h => by obtain ⟨nx, nu, wr, rd, e, -⟩ := h; rw [e]; first | exact mo_Wn.trans mo_Wn.symm | rfl)) (fun r1 w1 hm1 => ?_)
      obtain ⟨nx2, nu2, wr2, rd2, rfl, hnx2, hnu2, hc2⟩ := hm1; rcases hc2 with ⟨rfl, rfl, rfl, hX2, hlo2, hhi2⟩ | ⟨rfl, hwr2, rfl, hX2⟩
      · skip
        have k2 := rd_cell (a := 53 + read 1) k1 (Int.le_trans (by decide) hlo2) hhi2 (by omega)
        refine ev_if_ne_t (tgt := 115) de_Mo_isHouseHere_110 (by decide) (by decide) (by decide) ?_
        refine ev_iconst de_Mo_isHouseHere_115 ?_
        refine ev_istore (l' := [_, _, _, _, _]) de_Mo_isHouseHere_116 (Nat.le_of_ble_eq_true rfl) rfl ?_
        have z1 : ab_up (ab_up read (46 + read 1) number) (53 + read 1) nu2 1 = read 1 := by rw [ab_upn _ _ (by omega), ab_upn _ _ (by omega)]
        have z46 : ab_up (ab_up read (46 + read 1) number) (53 + read 1) nu2 (46 + read 1) = number := by rw [ab_upn _ _ (by omega), ab_upe]
        refine ev_conseq (fun r w2 h => ?_) (l2_Mo_isHouseHere (read := ab_up (ab_up read (46 + read 1) number) (53 + read 1) nu2) at_ (read 1) _ number q1.1 (by omega) z1 z46 6 0 (by decide) (by decide))
        obtain ⟨rfl, rfl⟩ := h
        exact ⟨_, _, _, _, rfl, hnx2, rd_up (rd_cell (rd_fill0 k2 (by omega) 5 (by omega)) hlo1 hhi1 (by omega)) ⟨show 0 ≤ read 1 + 1 by omega, show read 1 + 1 ≤ 7 by omega⟩ (fun z => by omega), hnu2, Or.inl ⟨rfl, rfl, by unfold rs_house; rw [if_neg h8]; simp only [hX1]; rw [if_neg hd2]; simp only [hX2]⟩⟩
      · skip
        refine ev_if_ne_f (tgt := 115) de_Mo_isHouseHere_110 (by decide) (by decide) (by decide) ?_
        refine ev_iconst de_Mo_isHouseHere_113 ?_
        exact ev_zreturn de_Mo_isHouseHere_114 rfl (by decide) ⟨_, _, _, _, rfl, hnx2, k1, hnu2, Or.inr ⟨rfl, hwr2, by unfold rs_house; rw [if_neg h8]; simp only [hX1]; rw [if_neg hd2]; simp only [hX2]⟩⟩
    · skip
      refine ev_aload_n de_Mo_isHouseHere_64 rfl rfl ?_
      refine ev_getfield de_Mo_isHouseHere_65 rfl fl_Mo_26 rfl ?_
      refine ev_bipush de_Mo_isHouseHere_68 rfl ?_
      refine ev_iload de_Mo_isHouseHere_70 rfl ?_
      refine ev_iadd de_Mo_isHouseHere_72 ?_
      have kj := k1.1 (46 + (j : Int)) (by omega) (by omega)
      refine ev_iaload de_Mo_isHouseHere_73 rfl (by omega) (by omega) (by omega) ?_
      refine ev_top (congrArg Sum.inl (ab_upn _ _ (by omega))) ?_
      refine ev_aload_n de_Mo_isHouseHere_74 rfl rfl ?_
      refine ev_getfield de_Mo_isHouseHere_75 rfl fl_Mo_26 rfl ?_
      refine ev_bipush de_Mo_isHouseHere_78 rfl ?_
      refine ev_iload_n de_Mo_isHouseHere_80 rfl rfl ?_
      refine ev_iadd de_Mo_isHouseHere_81 ?_
      refine ev_iaload de_Mo_isHouseHere_82 rfl (by omega) (by omega) (by omega) ?_
      refine ev_top (congrArg Sum.inl (ab_upe _ _ _)) ?_
      have kj2 : ab_in (read (46 + (j : Int))) := by have kk := hrd.1 (46 + (j : Int)) (by omega) (by omega); unfold sg_lo sg_hi at kk; rw [if_neg (by omega), if_neg (by omega), if_neg (by omega), if_neg (by omega), if_neg (by omega), if_pos (by omega)] at kk; omega
      refine ev_icmp_ne (tgt := 93) de_Mo_isHouseHere_83 (by decide) (by omega) (by omega) (fun h83 => ?_) (fun h83 => ?_)
      · skip
        refine ev_iinc (l' := [_, _, _, _, _]) de_Mo_isHouseHere_93 rfl rfl ?_
        refine ev_goto (tgt := 58) de_Mo_isHouseHere_96 (by decide) ?_
        exact ih (j + 1) (by omega) (by omega) (fun k hk => if e : k = j then by subst e; exact h83 else g2 k (by omega))
      · skip
        have p1 := ht.2.1
        have ef : tk_fl 0 1 (tk_sk tape taped (tk_le tape taped nx0)) = 1 + 8 * (tk_sk tape taped (tk_le tape taped nx0)) + 1 := rfl
        refine ev_aload_n de_Mo_isHouseHere_86 rfl rfl ?_
        refine ev_iconst de_Mo_isHouseHere_87 ?_
        refine ev_iload_n de_Mo_isHouseHere_88 rfl rfl ?_
        refine ev_vv (ci := 11) de_Mo_isHouseHere_89 (co_Mo_fails 1 (tk_sk tape taped (tk_le tape taped nx0)) (by decide)) kb_Mo_108 ⟨im_Mo_fails, se_Mo_fails⟩ rfl rfl rfl (Nat.le_of_ble_eq_true rfl) (by decide) rfl ?_
        exact ev_zreturn de_Mo_isHouseHere_92 rfl (by decide) ⟨_, _, _, _, rfl, ⟨hn0, hn1⟩, k1, hnu, Or.inr ⟨rfl, by rw [ef]; omega, by unfold rs_house; rw [if_neg h8]; simp only [hX1]; rw [if_pos (rs_dup_t (by omega) h83)]; rfl⟩⟩
set_option maxRecDepth 10000 in
theorem co_Mo_isHouseHere (ht : tp_ok tape taped) (hn0 : 0 ≤ next) (hn1 : next ≤ taped) (hrd : rd_ok read) (hw : wrong = 0) (hnu : ab_in number) (at_ : Int) (ha0 : 0 ≤ at_) (ha1 : at_ ≤ taped) : ab_Mt g_G g_rs mt_Mo_isHouseHere 3 0 0 [ab_R 0, ab_I at_] (mo_W tape taped rules sign leng clause clauses read next wrong number text made deep lines opn opened stack top word said xx was undone kept sumOf faced slotAt dayAt row bestRow tMany tMost drawX images imageX isMade) (rq tape taped rules sign leng clause clauses text made deep lines opn opened stack top word said xx was undone kept sumOf faced slotAt dayAt row bestRow tMany tMost drawX images imageX isMade (rs_house tape taped next at_ read)) := by
  refine ab_Mt.of rfl (Nat.le_of_ble_eq_true rfl) ?_
  show ab_Ev g_G g_rs mt_Mo_isHouseHere _ _ _ 0 [some (ab_R 0), some (ab_I at_), none, none, none] [] _ _
  subst hw
  have hb := tk_le_b tape hn1
  have hb2 := tk_sk_b tape hb.2
  have q1 : 0 ≤ read 1 ∧ read 1 ≤ 7 := hrd.1 1 (by decide) (by decide)
  refine ev_aload_n de_Mo_isHouseHere_0 rfl rfl ?_
  refine ev_getfield de_Mo_isHouseHere_1 rfl fl_Mo_26 rfl ?_
  refine ev_iconst de_Mo_isHouseHere_4 ?_
  refine ev_iaload de_Mo_isHouseHere_5 rfl (by omega) (by omega) (by omega) ?_
  refine ev_bipush de_Mo_isHouseHere_6 rfl ?_
  refine ev_icmp_ne (tgt := 18) de_Mo_isHouseHere_8 (by decide) (by omega) (by omega) (fun h8 => ?_) (fun h8 => ?_)
  · skip
    refine ev_aload_n de_Mo_isHouseHere_18 rfl rfl ?_
    refine ev_vn (ci := 11) de_Mo_isHouseHere_19 (co_Mo_passWord ht hn0 hn1) kb_Mo_102 ⟨im_Mo_passWord, se_Mo_passWord⟩ rfl rfl rfl (Nat.le_of_ble_eq_true rfl) (by decide) rfl ?_
    refine ev_aload_n de_Mo_isHouseHere_22 rfl rfl ?_
    refine ev_getfield de_Mo_isHouseHere_23 rfl fl_Mo_26 rfl ?_
    refine ev_iconst de_Mo_isHouseHere_26 ?_
    refine ev_iaload de_Mo_isHouseHere_27 rfl (by omega) (by omega) (by omega) ?_
    refine ev_istore_n (l' := [_, _, _, _, _]) de_Mo_isHouseHere_28 rfl (Nat.le_of_ble_eq_true rfl) rfl ?_
    refine ev_aload_n de_Mo_isHouseHere_29 rfl rfl ?_
    refine ev_vv (ci := 11) de_Mo_isHouseHere_30 (co_Mo_see ht (by omega) (by omega)) kb_Mo_90 ⟨im_Mo_see, se_Mo_see⟩ rfl rfl rfl (Nat.le_of_ble_eq_true rfl) (by decide) rfl ?_
    refine ev_pop de_Mo_isHouseHere_33 rfl ?_
    refine ev_aload_n de_Mo_isHouseHere_34 rfl rfl ?_
    refine ev_getfield de_Mo_isHouseHere_35 rfl fl_Mo_87 rfl ?_
    refine ev_istore_n (l' := [_, _, _, _, _]) de_Mo_isHouseHere_38 rfl (Nat.le_of_ble_eq_true rfl) rfl ?_
    refine ev_aload_n de_Mo_isHouseHere_39 rfl rfl ?_
    refine ev_bipush de_Mo_isHouseHere_40 rfl ?_
    refine ev_iload_n de_Mo_isHouseHere_42 rfl rfl ?_
    refine ev_iadd de_Mo_isHouseHere_43 ?_
    refine ev_iconst de_Mo_isHouseHere_44 ?_
    refine ev_bipush de_Mo_isHouseHere_45 rfl ?_
    refine ev_virtual (ci := 11) (mc := 0) (ms := 0) (bc := 0) (bs := 0) de_Mo_isHouseHere_47 (co_Mo_cellHere ht (by omega) (by omega) rfl hnu (46 + read 1) 0 11 (by omega) (by omega) (by decide) (by decide)) kb_Mo_215 ⟨im_Mo_cellHere, se_Mo_cellHere⟩ rfl rfl rfl (Nat.le_of_ble_eq_true rfl) (by decide) (Or.inl (fun r w1 h => by obtain ⟨nx, nu, wr, rd, e, -⟩ := h; rw [e]; first | exact mo_Wn.trans mo_Wn.symm | rfl)) (fun r1 w1 hm1 => ?_)
    obtain ⟨nx1, nu1, wr1, rd1, rfl, hnx1, hnu1, hc1⟩ := hm1; rcases hc1 with ⟨rfl, rfl, rfl, hX1, hlo1, hhi1⟩ | ⟨rfl, hwr1, rfl, hX1⟩
    · skip
      refine ev_if_ne_t (tgt := 55) de_Mo_isHouseHere_50 (by decide) (by decide) (by decide) ?_
      refine ev_iconst de_Mo_isHouseHere_55 ?_
      refine ev_istore (l' := [_, _, _, _, _]) de_Mo_isHouseHere_56 (Nat.le_of_ble_eq_true rfl) rfl ?_
      exact l1_Mo_isHouseHere ht hnx1.1 hnx1.2 at_ ha0 ha1 hrd hnu1 next q1 h8 (by omega) (by omega) hX1 hlo1 hhi1 8 0 q1.1 (by omega) (fun k hk => by omega)
    · skip
      refine ev_if_ne_f (tgt := 55) de_Mo_isHouseHere_50 (by decide) (by decide) (by decide) ?_
      refine ev_iconst de_Mo_isHouseHere_53 ?_
      exact ev_zreturn de_Mo_isHouseHere_54 rfl (by decide) ⟨_, _, _, _, rfl, hnx1, hrd, hnu1, Or.inr ⟨rfl, hwr1, by unfold rs_house; rw [if_neg h8]; simp only [hX1]⟩⟩
  · skip
    have p1 := ht.2.1
    have ef : tk_fl 0 4 (at_) = 1 + 8 * (at_) + 4 := rfl
    refine ev_aload_n de_Mo_isHouseHere_11 rfl rfl ?_
    refine ev_iconst de_Mo_isHouseHere_12 ?_
    refine ev_iload_n de_Mo_isHouseHere_13 rfl rfl ?_
    refine ev_vv (ci := 11) de_Mo_isHouseHere_14 (co_Mo_fails 4 at_ (by decide)) kb_Mo_108 ⟨im_Mo_fails, se_Mo_fails⟩ rfl rfl rfl (Nat.le_of_ble_eq_true rfl) (by decide) rfl ?_
    exact ev_zreturn de_Mo_isHouseHere_17 rfl (by decide) ⟨_, _, _, _, rfl, ⟨hn0, hn1⟩, hrd, hnu, Or.inr ⟨rfl, by rw [ef]; omega, by unfold rs_house; rw [if_pos h8]; rfl⟩⟩
theorem cs_Mo_isWord (ht : tp_ok tape taped) (hn0 : 0 ≤ next) (hn1 : next ≤ taped) (hsk : tk_sk tape taped next = next) (w : Int64) : ab_Mt g_G g_rs mt_Mo_isWord 1 0 0 [ab_R 0, ab_J w] (mo_W tape taped rules sign leng clause clauses read next wrong number text made deep lines opn opened stack top word said xx was undone kept sumOf faced slotAt dayAt row bestRow tMany tMost drawX images imageX isMade) (ab_is (some (ab_I (tk_isI tape taped next w))) (mo_W tape taped rules sign leng clause clauses read next wrong number text made deep lines opn opened stack top word said xx was undone kept sumOf faced slotAt dayAt row bestRow tMany tMost drawX images imageX isMade)) := by have q := co_Mo_isWord (rules := rules) (sign := sign) (leng := leng) (clause := clause) (clauses := clauses) (read := read) (wrong := wrong) (number := number) (text := text) (made := made) (deep := deep) (lines := lines) (opn := opn) (opened := opened) (stack := stack) (top := top) (word := word) (said := said) (xx := xx) (was := was) (undone := undone) (kept := kept) (sumOf := sumOf) (faced := faced) (slotAt := slotAt) (dayAt := dayAt) (row := row) (bestRow := bestRow) (tMany := tMany) (tMost := tMost) (drawX := drawX) (images := images) (imageX := imageX) (isMade := isMade) ht hn0 hn1 w; rw [hsk] at q; exact q
theorem de_Mo_isRingWord_0 : decode prog_14_method_39_code 0 = .ok (.aload_n 0, 1) := by decide +kernel
theorem de_Mo_isRingWord_1 : decode prog_14_method_39_code 1 = .ok (.ldc2_w 219, 3) := by decide +kernel
theorem de_Mo_isRingWord_4 : decode prog_14_method_39_code 4 = .ok (.invokevirtual 98, 3) := by decide +kernel
theorem de_Mo_isRingWord_7 : decode prog_14_method_39_code 7 = .ok (.ifCond .ne 33, 3) := by decide +kernel
theorem de_Mo_isRingWord_10 : decode prog_14_method_39_code 10 = .ok (.aload_n 0, 1) := by decide +kernel
theorem de_Mo_isRingWord_11 : decode prog_14_method_39_code 11 = .ok (.ldc2_w 224, 3) := by decide +kernel
theorem de_Mo_isRingWord_14 : decode prog_14_method_39_code 14 = .ok (.invokevirtual 98, 3) := by decide +kernel
theorem de_Mo_isRingWord_17 : decode prog_14_method_39_code 17 = .ok (.ifCond .ne 23, 3) := by decide +kernel
theorem de_Mo_isRingWord_20 : decode prog_14_method_39_code 20 = .ok (.aload_n 0, 1) := by decide +kernel
theorem de_Mo_isRingWord_21 : decode prog_14_method_39_code 21 = .ok (.ldc2_w 229, 3) := by decide +kernel
theorem de_Mo_isRingWord_24 : decode prog_14_method_39_code 24 = .ok (.invokevirtual 98, 3) := by decide +kernel
theorem de_Mo_isRingWord_27 : decode prog_14_method_39_code 27 = .ok (.ifCond .ne 13, 3) := by decide +kernel
theorem de_Mo_isRingWord_30 : decode prog_14_method_39_code 30 = .ok (.aload_n 0, 1) := by decide +kernel
theorem de_Mo_isRingWord_31 : decode prog_14_method_39_code 31 = .ok (.ldc2_w 234, 3) := by decide +kernel
theorem de_Mo_isRingWord_34 : decode prog_14_method_39_code 34 = .ok (.invokevirtual 98, 3) := by decide +kernel
theorem de_Mo_isRingWord_37 : decode prog_14_method_39_code 37 = .ok (.ifCond .eq 7, 3) := by decide +kernel
theorem de_Mo_isRingWord_40 : decode prog_14_method_39_code 40 = .ok (.iconst 1, 1) := by decide +kernel
theorem de_Mo_isRingWord_41 : decode prog_14_method_39_code 41 = .ok (.goto 4, 3) := by decide +kernel
theorem de_Mo_isRingWord_44 : decode prog_14_method_39_code 44 = .ok (.iconst 0, 1) := by decide +kernel
theorem de_Mo_isRingWord_45 : decode prog_14_method_39_code 45 = .ok (.istore_n 1, 1) := by decide +kernel
theorem de_Mo_isRingWord_46 : decode prog_14_method_39_code 46 = .ok (.iload_n 1, 1) := by decide +kernel
theorem de_Mo_isRingWord_47 : decode prog_14_method_39_code 47 = .ok (.ifCond .ne 33, 3) := by decide +kernel
theorem de_Mo_isRingWord_50 : decode prog_14_method_39_code 50 = .ok (.aload_n 0, 1) := by decide +kernel
theorem de_Mo_isRingWord_51 : decode prog_14_method_39_code 51 = .ok (.ldc2_w 239, 3) := by decide +kernel
theorem de_Mo_isRingWord_54 : decode prog_14_method_39_code 54 = .ok (.invokevirtual 98, 3) := by decide +kernel
theorem de_Mo_isRingWord_57 : decode prog_14_method_39_code 57 = .ok (.ifCond .ne 23, 3) := by decide +kernel
theorem de_Mo_isRingWord_60 : decode prog_14_method_39_code 60 = .ok (.aload_n 0, 1) := by decide +kernel
theorem de_Mo_isRingWord_61 : decode prog_14_method_39_code 61 = .ok (.ldc2_w 241, 3) := by decide +kernel
theorem de_Mo_isRingWord_64 : decode prog_14_method_39_code 64 = .ok (.invokevirtual 98, 3) := by decide +kernel
theorem de_Mo_isRingWord_67 : decode prog_14_method_39_code 67 = .ok (.ifCond .ne 13, 3) := by decide +kernel
theorem de_Mo_isRingWord_70 : decode prog_14_method_39_code 70 = .ok (.aload_n 0, 1) := by decide +kernel
theorem de_Mo_isRingWord_71 : decode prog_14_method_39_code 71 = .ok (.ldc2_w 125, 3) := by decide +kernel
theorem de_Mo_isRingWord_74 : decode prog_14_method_39_code 74 = .ok (.invokevirtual 98, 3) := by decide +kernel
theorem de_Mo_isRingWord_77 : decode prog_14_method_39_code 77 = .ok (.ifCond .eq 7, 3) := by decide +kernel
theorem de_Mo_isRingWord_80 : decode prog_14_method_39_code 80 = .ok (.iconst 1, 1) := by decide +kernel
theorem de_Mo_isRingWord_81 : decode prog_14_method_39_code 81 = .ok (.goto 4, 3) := by decide +kernel
theorem de_Mo_isRingWord_84 : decode prog_14_method_39_code 84 = .ok (.iconst 0, 1) := by decide +kernel
theorem de_Mo_isRingWord_85 : decode prog_14_method_39_code 85 = .ok (.ireturn, 1) := by decide +kernel
set_option maxRecDepth 10000 in
theorem co_Mo_isRingWord (ht : tp_ok tape taped) (hn0 : 0 ≤ next) (hn1 : next ≤ taped) (hsk : tk_sk tape taped next = next) : ab_Mt g_G g_rs mt_Mo_isRingWord 2 0 0 [ab_R 0] (mo_W tape taped rules sign leng clause clauses read next wrong number text made deep lines opn opened stack top word said xx was undone kept sumOf faced slotAt dayAt row bestRow tMany tMost drawX images imageX isMade) (ab_is (some (ab_I (if tk_isI tape taped next (Int64.ofInt 1919512167) = 1 ∨ tk_isI tape taped next (Int64.ofInt 448546567013) = 1 ∨ tk_isI tape taped next (Int64.ofInt 495689623668) = 1 ∨ tk_isI tape taped next (Int64.ofInt 465625113971) = 1 ∨ tk_isI tape taped next (Int64.ofInt 30521761840260467) = 1 ∨ tk_isI tape taped next (Int64.ofInt 1734440037) = 1 ∨ tk_isI tape taped next (Int64.ofInt 1918989413) = 1 then 1 else 0))) (mo_W tape taped rules sign leng clause clauses read next wrong number text made deep lines opn opened stack top word said xx was undone kept sumOf faced slotAt dayAt row bestRow tMany tMost drawX images imageX isMade)) := by
  refine ab_Mt.of rfl (Nat.le_of_ble_eq_true rfl) ?_
  show ab_Ev g_G g_rs mt_Mo_isRingWord _ _ _ 0 [some (ab_R 0), none] [] _ _
  have wRING := tk_isI_01 tape taped next (Int64.ofInt 1919512167)
  have wHOUSE := tk_isI_01 tape taped next (Int64.ofInt 448546567013)
  have wSIGHT := tk_isI_01 tape taped next (Int64.ofInt 495689623668)
  have wLIKES := tk_isI_01 tape taped next (Int64.ofInt 465625113971)
  have wLOATHES := tk_isI_01 tape taped next (Int64.ofInt 30521761840260467)
  have wGATE := tk_isI_01 tape taped next (Int64.ofInt 1734440037)
  have wRATE := tk_isI_01 tape taped next (Int64.ofInt 1918989413)
  refine ev_aload_n de_Mo_isRingWord_0 rfl rfl ?_
  refine ev_ldc2i (n := 1919512167) de_Mo_isRingWord_1 cn_Mo_219 (by decide) ?_
  refine ev_vv (ci := 11) de_Mo_isRingWord_4 (cs_Mo_isWord ht hn0 hn1 hsk (Int64.ofInt 1919512167)) kb_Mo_98 ⟨im_Mo_isWord, se_Mo_isWord⟩ rfl rfl rfl (Nat.le_of_ble_eq_true rfl) (by decide) rfl ?_
  refine ev_if_ne (tgt := 40) de_Mo_isRingWord_7 (by decide) (by omega) (fun h7 => ?_) (fun h7 => ?_)
  · skip
    refine ev_iconst de_Mo_isRingWord_40 ?_
    refine ev_goto (tgt := 45) de_Mo_isRingWord_41 (by decide) ?_
    refine ev_istore_n (l' := [_, _]) de_Mo_isRingWord_45 rfl (Nat.le_of_ble_eq_true rfl) rfl ?_
    refine ev_iload_n de_Mo_isRingWord_46 rfl rfl ?_
    refine ev_if_ne (tgt := 80) de_Mo_isRingWord_47 (by decide) (by omega) (fun h47 => ?_) (fun h47 => ?_)
    · skip
      refine ev_iconst de_Mo_isRingWord_80 ?_
      refine ev_goto (tgt := 85) de_Mo_isRingWord_81 (by decide) ?_
      exact ev_zreturn de_Mo_isRingWord_85 rfl (by decide) ⟨by first | (exfalso; omega) | (rw [if_pos (by omega)]; done) | (rw [if_neg (by omega)]; done), rfl⟩
    · skip
      refine ev_aload_n de_Mo_isRingWord_50 rfl rfl ?_
      refine ev_ldc2i (n := 30521761840260467) de_Mo_isRingWord_51 cn_Mo_239 (by decide) ?_
      refine ev_vv (ci := 11) de_Mo_isRingWord_54 (cs_Mo_isWord ht hn0 hn1 hsk (Int64.ofInt 30521761840260467)) kb_Mo_98 ⟨im_Mo_isWord, se_Mo_isWord⟩ rfl rfl rfl (Nat.le_of_ble_eq_true rfl) (by decide) rfl ?_
      refine ev_if_ne (tgt := 80) de_Mo_isRingWord_57 (by decide) (by omega) (fun h57 => ?_) (fun h57 => ?_)
      · skip
        refine ev_iconst de_Mo_isRingWord_80 ?_
        refine ev_goto (tgt := 85) de_Mo_isRingWord_81 (by decide) ?_
        exact ev_zreturn de_Mo_isRingWord_85 rfl (by decide) ⟨by first | (exfalso; omega) | (rw [if_pos (by omega)]; done) | (rw [if_neg (by omega)]; done), rfl⟩
      · skip
        refine ev_aload_n de_Mo_isRingWord_60 rfl rfl ?_
        refine ev_ldc2i (n := 1734440037) de_Mo_isRingWord_61 cn_Mo_241 (by decide) ?_
        refine ev_vv (ci := 11) de_Mo_isRingWord_64 (cs_Mo_isWord ht hn0 hn1 hsk (Int64.ofInt 1734440037)) kb_Mo_98 ⟨im_Mo_isWord, se_Mo_isWord⟩ rfl rfl rfl (Nat.le_of_ble_eq_true rfl) (by decide) rfl ?_
        refine ev_if_ne (tgt := 80) de_Mo_isRingWord_67 (by decide) (by omega) (fun h67 => ?_) (fun h67 => ?_)
        · skip
          refine ev_iconst de_Mo_isRingWord_80 ?_
          refine ev_goto (tgt := 85) de_Mo_isRingWord_81 (by decide) ?_
          exact ev_zreturn de_Mo_isRingWord_85 rfl (by decide) ⟨by first | (exfalso; omega) | (rw [if_pos (by omega)]; done) | (rw [if_neg (by omega)]; done), rfl⟩
        · skip
          refine ev_aload_n de_Mo_isRingWord_70 rfl rfl ?_
          refine ev_ldc2i (n := 1918989413) de_Mo_isRingWord_71 cn_Mo_125 (by decide) ?_
          refine ev_vv (ci := 11) de_Mo_isRingWord_74 (cs_Mo_isWord ht hn0 hn1 hsk (Int64.ofInt 1918989413)) kb_Mo_98 ⟨im_Mo_isWord, se_Mo_isWord⟩ rfl rfl rfl (Nat.le_of_ble_eq_true rfl) (by decide) rfl ?_
          refine ev_if_eq (tgt := 84) de_Mo_isRingWord_77 (by decide) (by omega) (fun h77 => ?_) (fun h77 => ?_)
          · skip
            refine ev_iconst de_Mo_isRingWord_84 ?_
            exact ev_zreturn de_Mo_isRingWord_85 rfl (by decide) ⟨by first | (exfalso; omega) | (rw [if_pos (by omega)]; done) | (rw [if_neg (by omega)]; done), rfl⟩
          · skip
            refine ev_iconst de_Mo_isRingWord_80 ?_
            refine ev_goto (tgt := 85) de_Mo_isRingWord_81 (by decide) ?_
            exact ev_zreturn de_Mo_isRingWord_85 rfl (by decide) ⟨by first | (exfalso; omega) | (rw [if_pos (by omega)]; done) | (rw [if_neg (by omega)]; done), rfl⟩
  · skip
    refine ev_aload_n de_Mo_isRingWord_10 rfl rfl ?_
    refine ev_ldc2i (n := 448546567013) de_Mo_isRingWord_11 cn_Mo_224 (by decide) ?_
    refine ev_vv (ci := 11) de_Mo_isRingWord_14 (cs_Mo_isWord ht hn0 hn1 hsk (Int64.ofInt 448546567013)) kb_Mo_98 ⟨im_Mo_isWord, se_Mo_isWord⟩ rfl rfl rfl (Nat.le_of_ble_eq_true rfl) (by decide) rfl ?_
    refine ev_if_ne (tgt := 40) de_Mo_isRingWord_17 (by decide) (by omega) (fun h17 => ?_) (fun h17 => ?_)
    · skip
      refine ev_iconst de_Mo_isRingWord_40 ?_
      refine ev_goto (tgt := 45) de_Mo_isRingWord_41 (by decide) ?_
      refine ev_istore_n (l' := [_, _]) de_Mo_isRingWord_45 rfl (Nat.le_of_ble_eq_true rfl) rfl ?_
      refine ev_iload_n de_Mo_isRingWord_46 rfl rfl ?_
      refine ev_if_ne (tgt := 80) de_Mo_isRingWord_47 (by decide) (by omega) (fun h47 => ?_) (fun h47 => ?_)
      · skip
        refine ev_iconst de_Mo_isRingWord_80 ?_
        refine ev_goto (tgt := 85) de_Mo_isRingWord_81 (by decide) ?_
        exact ev_zreturn de_Mo_isRingWord_85 rfl (by decide) ⟨by first | (exfalso; omega) | (rw [if_pos (by omega)]; done) | (rw [if_neg (by omega)]; done), rfl⟩
      · skip
        refine ev_aload_n de_Mo_isRingWord_50 rfl rfl ?_
        refine ev_ldc2i (n := 30521761840260467) de_Mo_isRingWord_51 cn_Mo_239 (by decide) ?_
        refine ev_vv (ci := 11) de_Mo_isRingWord_54 (cs_Mo_isWord ht hn0 hn1 hsk (Int64.ofInt 30521761840260467)) kb_Mo_98 ⟨im_Mo_isWord, se_Mo_isWord⟩ rfl rfl rfl (Nat.le_of_ble_eq_true rfl) (by decide) rfl ?_
        refine ev_if_ne (tgt := 80) de_Mo_isRingWord_57 (by decide) (by omega) (fun h57 => ?_) (fun h57 => ?_)
        · skip
          refine ev_iconst de_Mo_isRingWord_80 ?_
          refine ev_goto (tgt := 85) de_Mo_isRingWord_81 (by decide) ?_
          exact ev_zreturn de_Mo_isRingWord_85 rfl (by decide) ⟨by first | (exfalso; omega) | (rw [if_pos (by omega)]; done) | (rw [if_neg (by omega)]; done), rfl⟩
        · skip
          refine ev_aload_n de_Mo_isRingWord_60 rfl rfl ?_
          refine ev_ldc2i (n := 1734440037) de_Mo_isRingWord_61 cn_Mo_241 (by decide) ?_
          refine ev_vv (ci := 11) de_Mo_isRingWord_64 (cs_Mo_isWord ht hn0 hn1 hsk (Int64.ofInt 1734440037)) kb_Mo_98 ⟨im_Mo_isWord, se_Mo_isWord⟩ rfl rfl rfl (Nat.le_of_ble_eq_true rfl) (by decide) rfl ?_
          refine ev_if_ne (tgt := 80) de_Mo_isRingWord_67 (by decide) (by omega) (fun h67 => ?_) (fun h67 => ?_)
          · skip
            refine ev_iconst de_Mo_isRingWord_80 ?_
            refine ev_goto (tgt := 85) de_Mo_isRingWord_81 (by decide) ?_
            exact ev_zreturn de_Mo_isRingWord_85 rfl (by decide) ⟨by first | (exfalso; omega) | (rw [if_pos (by omega)]; done) | (rw [if_neg (by omega)]; done), rfl⟩
          · skip
            refine ev_aload_n de_Mo_isRingWord_70 rfl rfl ?_
            refine ev_ldc2i (n := 1918989413) de_Mo_isRingWord_71 cn_Mo_125 (by decide) ?_
            refine ev_vv (ci := 11) de_Mo_isRingWord_74 (cs_Mo_isWord ht hn0 hn1 hsk (Int64.ofInt 1918989413)) kb_Mo_98 ⟨im_Mo_isWord, se_Mo_isWord⟩ rfl rfl rfl (Nat.le_of_ble_eq_true rfl) (by decide) rfl ?_
            refine ev_if_eq (tgt := 84) de_Mo_isRingWord_77 (by decide) (by omega) (fun h77 => ?_) (fun h77 => ?_)
            · skip
              refine ev_iconst de_Mo_isRingWord_84 ?_
              exact ev_zreturn de_Mo_isRingWord_85 rfl (by decide) ⟨by first | (exfalso; omega) | (rw [if_pos (by omega)]; done) | (rw [if_neg (by omega)]; done), rfl⟩
            · skip
              refine ev_iconst de_Mo_isRingWord_80 ?_
              refine ev_goto (tgt := 85) de_Mo_isRingWord_81 (by decide) ?_
              exact ev_zreturn de_Mo_isRingWord_85 rfl (by decide) ⟨by first | (exfalso; omega) | (rw [if_pos (by omega)]; done) | (rw [if_neg (by omega)]; done), rfl⟩
    · skip
      refine ev_aload_n de_Mo_isRingWord_20 rfl rfl ?_
      refine ev_ldc2i (n := 495689623668) de_Mo_isRingWord_21 cn_Mo_229 (by decide) ?_
      refine ev_vv (ci := 11) de_Mo_isRingWord_24 (cs_Mo_isWord ht hn0 hn1 hsk (Int64.ofInt 495689623668)) kb_Mo_98 ⟨im_Mo_isWord, se_Mo_isWord⟩ rfl rfl rfl (Nat.le_of_ble_eq_true rfl) (by decide) rfl ?_
      refine ev_if_ne (tgt := 40) de_Mo_isRingWord_27 (by decide) (by omega) (fun h27 => ?_) (fun h27 => ?_)
      · skip
        refine ev_iconst de_Mo_isRingWord_40 ?_
        refine ev_goto (tgt := 45) de_Mo_isRingWord_41 (by decide) ?_
        refine ev_istore_n (l' := [_, _]) de_Mo_isRingWord_45 rfl (Nat.le_of_ble_eq_true rfl) rfl ?_
        refine ev_iload_n de_Mo_isRingWord_46 rfl rfl ?_
        refine ev_if_ne (tgt := 80) de_Mo_isRingWord_47 (by decide) (by omega) (fun h47 => ?_) (fun h47 => ?_)
        · skip
          refine ev_iconst de_Mo_isRingWord_80 ?_
          refine ev_goto (tgt := 85) de_Mo_isRingWord_81 (by decide) ?_
          exact ev_zreturn de_Mo_isRingWord_85 rfl (by decide) ⟨by first | (exfalso; omega) | (rw [if_pos (by omega)]; done) | (rw [if_neg (by omega)]; done), rfl⟩
        · skip
          refine ev_aload_n de_Mo_isRingWord_50 rfl rfl ?_
          refine ev_ldc2i (n := 30521761840260467) de_Mo_isRingWord_51 cn_Mo_239 (by decide) ?_
          refine ev_vv (ci := 11) de_Mo_isRingWord_54 (cs_Mo_isWord ht hn0 hn1 hsk (Int64.ofInt 30521761840260467)) kb_Mo_98 ⟨im_Mo_isWord, se_Mo_isWord⟩ rfl rfl rfl (Nat.le_of_ble_eq_true rfl) (by decide) rfl ?_
          refine ev_if_ne (tgt := 80) de_Mo_isRingWord_57 (by decide) (by omega) (fun h57 => ?_) (fun h57 => ?_)
          · skip
            refine ev_iconst de_Mo_isRingWord_80 ?_
            refine ev_goto (tgt := 85) de_Mo_isRingWord_81 (by decide) ?_
            exact ev_zreturn de_Mo_isRingWord_85 rfl (by decide) ⟨by first | (exfalso; omega) | (rw [if_pos (by omega)]; done) | (rw [if_neg (by omega)]; done), rfl⟩
          · skip
            refine ev_aload_n de_Mo_isRingWord_60 rfl rfl ?_
            refine ev_ldc2i (n := 1734440037) de_Mo_isRingWord_61 cn_Mo_241 (by decide) ?_
            refine ev_vv (ci := 11) de_Mo_isRingWord_64 (cs_Mo_isWord ht hn0 hn1 hsk (Int64.ofInt 1734440037)) kb_Mo_98 ⟨im_Mo_isWord, se_Mo_isWord⟩ rfl rfl rfl (Nat.le_of_ble_eq_true rfl) (by decide) rfl ?_
            refine ev_if_ne (tgt := 80) de_Mo_isRingWord_67 (by decide) (by omega) (fun h67 => ?_) (fun h67 => ?_)
            · skip
              refine ev_iconst de_Mo_isRingWord_80 ?_
              refine ev_goto (tgt := 85) de_Mo_isRingWord_81 (by decide) ?_
              exact ev_zreturn de_Mo_isRingWord_85 rfl (by decide) ⟨by first | (exfalso; omega) | (rw [if_pos (by omega)]; done) | (rw [if_neg (by omega)]; done), rfl⟩
            · skip
              refine ev_aload_n de_Mo_isRingWord_70 rfl rfl ?_
              refine ev_ldc2i (n := 1918989413) de_Mo_isRingWord_71 cn_Mo_125 (by decide) ?_
              refine ev_vv (ci := 11) de_Mo_isRingWord_74 (cs_Mo_isWord ht hn0 hn1 hsk (Int64.ofInt 1918989413)) kb_Mo_98 ⟨im_Mo_isWord, se_Mo_isWord⟩ rfl rfl rfl (Nat.le_of_ble_eq_true rfl) (by decide) rfl ?_
              refine ev_if_eq (tgt := 84) de_Mo_isRingWord_77 (by decide) (by omega) (fun h77 => ?_) (fun h77 => ?_)
              · skip
                refine ev_iconst de_Mo_isRingWord_84 ?_
                exact ev_zreturn de_Mo_isRingWord_85 rfl (by decide) ⟨by first | (exfalso; omega) | (rw [if_pos (by omega)]; done) | (rw [if_neg (by omega)]; done), rfl⟩
              · skip
                refine ev_iconst de_Mo_isRingWord_80 ?_
                refine ev_goto (tgt := 85) de_Mo_isRingWord_81 (by decide) ?_
                exact ev_zreturn de_Mo_isRingWord_85 rfl (by decide) ⟨by first | (exfalso; omega) | (rw [if_pos (by omega)]; done) | (rw [if_neg (by omega)]; done), rfl⟩
      · skip
        refine ev_aload_n de_Mo_isRingWord_30 rfl rfl ?_
        refine ev_ldc2i (n := 465625113971) de_Mo_isRingWord_31 cn_Mo_234 (by decide) ?_
        refine ev_vv (ci := 11) de_Mo_isRingWord_34 (cs_Mo_isWord ht hn0 hn1 hsk (Int64.ofInt 465625113971)) kb_Mo_98 ⟨im_Mo_isWord, se_Mo_isWord⟩ rfl rfl rfl (Nat.le_of_ble_eq_true rfl) (by decide) rfl ?_
        refine ev_if_eq (tgt := 44) de_Mo_isRingWord_37 (by decide) (by omega) (fun h37 => ?_) (fun h37 => ?_)
        · skip
          refine ev_iconst de_Mo_isRingWord_44 ?_
          refine ev_istore_n (l' := [_, _]) de_Mo_isRingWord_45 rfl (Nat.le_of_ble_eq_true rfl) rfl ?_
          refine ev_iload_n de_Mo_isRingWord_46 rfl rfl ?_
          refine ev_if_ne (tgt := 80) de_Mo_isRingWord_47 (by decide) (by omega) (fun h47 => ?_) (fun h47 => ?_)
          · skip
            refine ev_iconst de_Mo_isRingWord_80 ?_
            refine ev_goto (tgt := 85) de_Mo_isRingWord_81 (by decide) ?_
            exact ev_zreturn de_Mo_isRingWord_85 rfl (by decide) ⟨by first | (exfalso; omega) | (rw [if_pos (by omega)]; done) | (rw [if_neg (by omega)]; done), rfl⟩
          · skip
            refine ev_aload_n de_Mo_isRingWord_50 rfl rfl ?_
            refine ev_ldc2i (n := 30521761840260467) de_Mo_isRingWord_51 cn_Mo_239 (by decide) ?_
            refine ev_vv (ci := 11) de_Mo_isRingWord_54 (cs_Mo_isWord ht hn0 hn1 hsk (Int64.ofInt 30521761840260467)) kb_Mo_98 ⟨im_Mo_isWord, se_Mo_isWord⟩ rfl rfl rfl (Nat.le_of_ble_eq_true rfl) (by decide) rfl ?_
            refine ev_if_ne (tgt := 80) de_Mo_isRingWord_57 (by decide) (by omega) (fun h57 => ?_) (fun h57 => ?_)
            · skip
              refine ev_iconst de_Mo_isRingWord_80 ?_
              refine ev_goto (tgt := 85) de_Mo_isRingWord_81 (by decide) ?_
              exact ev_zreturn de_Mo_isRingWord_85 rfl (by decide) ⟨by first | (exfalso; omega) | (rw [if_pos (by omega)]; done) | (rw [if_neg (by omega)]; done), rfl⟩
            · skip
              refine ev_aload_n de_Mo_isRingWord_60 rfl rfl ?_
              refine ev_ldc2i (n := 1734440037) de_Mo_isRingWord_61 cn_Mo_241 (by decide) ?_
              refine ev_vv (ci := 11) de_Mo_isRingWord_64 (cs_Mo_isWord ht hn0 hn1 hsk (Int64.ofInt 1734440037)) kb_Mo_98 ⟨im_Mo_isWord, se_Mo_isWord⟩ rfl rfl rfl (Nat.le_of_ble_eq_true rfl) (by decide) rfl ?_
              refine ev_if_ne (tgt := 80) de_Mo_isRingWord_67 (by decide) (by omega) (fun h67 => ?_) (fun h67 => ?_)
              · skip
                refine ev_iconst de_Mo_isRingWord_80 ?_
                refine ev_goto (tgt := 85) de_Mo_isRingWord_81 (by decide) ?_
                exact ev_zreturn de_Mo_isRingWord_85 rfl (by decide) ⟨by first | (exfalso; omega) | (rw [if_pos (by omega)]; done) | (rw [if_neg (by omega)]; done), rfl⟩
              · skip
                refine ev_aload_n de_Mo_isRingWord_70 rfl rfl ?_
                refine ev_ldc2i (n := 1918989413) de_Mo_isRingWord_71 cn_Mo_125 (by decide) ?_
                refine ev_vv (ci := 11) de_Mo_isRingWord_74 (cs_Mo_isWord ht hn0 hn1 hsk (Int64.ofInt 1918989413)) kb_Mo_98 ⟨im_Mo_isWord, se_Mo_isWord⟩ rfl rfl rfl (Nat.le_of_ble_eq_true rfl) (by decide) rfl ?_
                refine ev_if_eq (tgt := 84) de_Mo_isRingWord_77 (by decide) (by omega) (fun h77 => ?_) (fun h77 => ?_)
                · skip
                  refine ev_iconst de_Mo_isRingWord_84 ?_
                  exact ev_zreturn de_Mo_isRingWord_85 rfl (by decide) ⟨by first | (exfalso; omega) | (rw [if_pos (by omega)]; done) | (rw [if_neg (by omega)]; done), rfl⟩
                · skip
                  refine ev_iconst de_Mo_isRingWord_80 ?_
                  refine ev_goto (tgt := 85) de_Mo_isRingWord_81 (by decide) ?_
                  exact ev_zreturn de_Mo_isRingWord_85 rfl (by decide) ⟨by first | (exfalso; omega) | (rw [if_pos (by omega)]; done) | (rw [if_neg (by omega)]; done), rfl⟩
        · skip
          refine ev_iconst de_Mo_isRingWord_40 ?_
          refine ev_goto (tgt := 45) de_Mo_isRingWord_41 (by decide) ?_
          refine ev_istore_n (l' := [_, _]) de_Mo_isRingWord_45 rfl (Nat.le_of_ble_eq_true rfl) rfl ?_
          refine ev_iload_n de_Mo_isRingWord_46 rfl rfl ?_
          refine ev_if_ne (tgt := 80) de_Mo_isRingWord_47 (by decide) (by omega) (fun h47 => ?_) (fun h47 => ?_)
          · skip
            refine ev_iconst de_Mo_isRingWord_80 ?_
            refine ev_goto (tgt := 85) de_Mo_isRingWord_81 (by decide) ?_
            exact ev_zreturn de_Mo_isRingWord_85 rfl (by decide) ⟨by first | (exfalso; omega) | (rw [if_pos (by omega)]; done) | (rw [if_neg (by omega)]; done), rfl⟩
          · skip
            refine ev_aload_n de_Mo_isRingWord_50 rfl rfl ?_
            refine ev_ldc2i (n := 30521761840260467) de_Mo_isRingWord_51 cn_Mo_239 (by decide) ?_
            refine ev_vv (ci := 11) de_Mo_isRingWord_54 (cs_Mo_isWord ht hn0 hn1 hsk (Int64.ofInt 30521761840260467)) kb_Mo_98 ⟨im_Mo_isWord, se_Mo_isWord⟩ rfl rfl rfl (Nat.le_of_ble_eq_true rfl) (by decide) rfl ?_
            refine ev_if_ne (tgt := 80) de_Mo_isRingWord_57 (by decide) (by omega) (fun h57 => ?_) (fun h57 => ?_)
            · skip
              refine ev_iconst de_Mo_isRingWord_80 ?_
              refine ev_goto (tgt := 85) de_Mo_isRingWord_81 (by decide) ?_
              exact ev_zreturn de_Mo_isRingWord_85 rfl (by decide) ⟨by first | (exfalso; omega) | (rw [if_pos (by omega)]; done) | (rw [if_neg (by omega)]; done), rfl⟩
            · skip
              refine ev_aload_n de_Mo_isRingWord_60 rfl rfl ?_
              refine ev_ldc2i (n := 1734440037) de_Mo_isRingWord_61 cn_Mo_241 (by decide) ?_
              refine ev_vv (ci := 11) de_Mo_isRingWord_64 (cs_Mo_isWord ht hn0 hn1 hsk (Int64.ofInt 1734440037)) kb_Mo_98 ⟨im_Mo_isWord, se_Mo_isWord⟩ rfl rfl rfl (Nat.le_of_ble_eq_true rfl) (by decide) rfl ?_
              refine ev_if_ne (tgt := 80) de_Mo_isRingWord_67 (by decide) (by omega) (fun h67 => ?_) (fun h67 => ?_)
              · skip
                refine ev_iconst de_Mo_isRingWord_80 ?_
                refine ev_goto (tgt := 85) de_Mo_isRingWord_81 (by decide) ?_
                exact ev_zreturn de_Mo_isRingWord_85 rfl (by decide) ⟨by first | (exfalso; omega) | (rw [if_pos (by omega)]; done) | (rw [if_neg (by omega)]; done), rfl⟩
              · skip
                refine ev_aload_n de_Mo_isRingWord_70 rfl rfl ?_
                refine ev_ldc2i (n := 1918989413) de_Mo_isRingWord_71 cn_Mo_125 (by decide) ?_
                refine ev_vv (ci := 11) de_Mo_isRingWord_74 (cs_Mo_isWord ht hn0 hn1 hsk (Int64.ofInt 1918989413)) kb_Mo_98 ⟨im_Mo_isWord, se_Mo_isWord⟩ rfl rfl rfl (Nat.le_of_ble_eq_true rfl) (by decide) rfl ?_
                refine ev_if_eq (tgt := 84) de_Mo_isRingWord_77 (by decide) (by omega) (fun h77 => ?_) (fun h77 => ?_)
                · skip
                  refine ev_iconst de_Mo_isRingWord_84 ?_
                  exact ev_zreturn de_Mo_isRingWord_85 rfl (by decide) ⟨by first | (exfalso; omega) | (rw [if_pos (by omega)]; done) | (rw [if_neg (by omega)]; done), rfl⟩
                · skip
                  refine ev_iconst de_Mo_isRingWord_80 ?_
                  refine ev_goto (tgt := 85) de_Mo_isRingWord_81 (by decide) ?_
                  exact ev_zreturn de_Mo_isRingWord_85 rfl (by decide) ⟨by first | (exfalso; omega) | (rw [if_pos (by omega)]; done) | (rw [if_neg (by omega)]; done), rfl⟩
def rs_line (tape : Int → Int) (taped nx at_ : Int) (rd : Int → Int) : Except Int (Int × (Int → Int)) := if tk_isI tape taped nx (Int64.ofInt 1919512167) = 1 then rs_ring tape taped nx at_ rd else if rd 0 = 0 then .error (1 + 8 * at_ + 4) else if tk_isI tape taped nx (Int64.ofInt 448546567013) = 1 then rs_house tape taped nx at_ rd else if tk_isI tape taped nx (Int64.ofInt 495689623668) = 1 then rs_sight tape taped nx at_ rd else if tk_isI tape taped nx (Int64.ofInt 465625113971) = 1 then rs_like tape taped nx 1 rd else if tk_isI tape taped nx (Int64.ofInt 30521761840260467) = 1 then rs_like tape taped nx (-1) rd else if tk_isI tape taped nx (Int64.ofInt 1734440037) = 1 then rs_gate tape taped nx rd else rs_rate tape taped nx rd
theorem de_Mo_ringLineHere_0 : decode prog_14_method_38_code 0 = .ok (.aload_n 0, 1) := by decide +kernel
theorem de_Mo_ringLineHere_1 : decode prog_14_method_38_code 1 = .ok (.ldc2_w 219, 3) := by decide +kernel
theorem de_Mo_ringLineHere_4 : decode prog_14_method_38_code 4 = .ok (.invokevirtual 98, 3) := by decide +kernel
theorem de_Mo_ringLineHere_7 : decode prog_14_method_38_code 7 = .ok (.ifCond .eq 9, 3) := by decide +kernel
theorem de_Mo_ringLineHere_10 : decode prog_14_method_38_code 10 = .ok (.aload_n 0, 1) := by decide +kernel
theorem de_Mo_ringLineHere_11 : decode prog_14_method_38_code 11 = .ok (.iload_n 1, 1) := by decide +kernel
theorem de_Mo_ringLineHere_12 : decode prog_14_method_38_code 12 = .ok (.invokevirtual 221, 3) := by decide +kernel
theorem de_Mo_ringLineHere_15 : decode prog_14_method_38_code 15 = .ok (.ireturn, 1) := by decide +kernel
theorem de_Mo_ringLineHere_16 : decode prog_14_method_38_code 16 = .ok (.aload_n 0, 1) := by decide +kernel
theorem de_Mo_ringLineHere_17 : decode prog_14_method_38_code 17 = .ok (.getfield 26, 3) := by decide +kernel
theorem de_Mo_ringLineHere_20 : decode prog_14_method_38_code 20 = .ok (.iconst 0, 1) := by decide +kernel
theorem de_Mo_ringLineHere_21 : decode prog_14_method_38_code 21 = .ok (.iaload, 1) := by decide +kernel
theorem de_Mo_ringLineHere_22 : decode prog_14_method_38_code 22 = .ok (.ifCond .ne 10, 3) := by decide +kernel
theorem de_Mo_ringLineHere_25 : decode prog_14_method_38_code 25 = .ok (.aload_n 0, 1) := by decide +kernel
theorem de_Mo_ringLineHere_26 : decode prog_14_method_38_code 26 = .ok (.iconst 4, 1) := by decide +kernel
theorem de_Mo_ringLineHere_27 : decode prog_14_method_38_code 27 = .ok (.iload_n 1, 1) := by decide +kernel
theorem de_Mo_ringLineHere_28 : decode prog_14_method_38_code 28 = .ok (.invokevirtual 108, 3) := by decide +kernel
theorem de_Mo_ringLineHere_31 : decode prog_14_method_38_code 31 = .ok (.ireturn, 1) := by decide +kernel
theorem de_Mo_ringLineHere_32 : decode prog_14_method_38_code 32 = .ok (.aload_n 0, 1) := by decide +kernel
theorem de_Mo_ringLineHere_33 : decode prog_14_method_38_code 33 = .ok (.ldc2_w 224, 3) := by decide +kernel
theorem de_Mo_ringLineHere_36 : decode prog_14_method_38_code 36 = .ok (.invokevirtual 98, 3) := by decide +kernel
theorem de_Mo_ringLineHere_39 : decode prog_14_method_38_code 39 = .ok (.ifCond .eq 9, 3) := by decide +kernel
theorem de_Mo_ringLineHere_42 : decode prog_14_method_38_code 42 = .ok (.aload_n 0, 1) := by decide +kernel
theorem de_Mo_ringLineHere_43 : decode prog_14_method_38_code 43 = .ok (.iload_n 1, 1) := by decide +kernel
theorem de_Mo_ringLineHere_44 : decode prog_14_method_38_code 44 = .ok (.invokevirtual 226, 3) := by decide +kernel
theorem de_Mo_ringLineHere_47 : decode prog_14_method_38_code 47 = .ok (.ireturn, 1) := by decide +kernel
theorem de_Mo_ringLineHere_48 : decode prog_14_method_38_code 48 = .ok (.aload_n 0, 1) := by decide +kernel
theorem de_Mo_ringLineHere_49 : decode prog_14_method_38_code 49 = .ok (.ldc2_w 229, 3) := by decide +kernel
theorem de_Mo_ringLineHere_52 : decode prog_14_method_38_code 52 = .ok (.invokevirtual 98, 3) := by decide +kernel
theorem de_Mo_ringLineHere_55 : decode prog_14_method_38_code 55 = .ok (.ifCond .eq 9, 3) := by decide +kernel
theorem de_Mo_ringLineHere_58 : decode prog_14_method_38_code 58 = .ok (.aload_n 0, 1) := by decide +kernel
theorem de_Mo_ringLineHere_59 : decode prog_14_method_38_code 59 = .ok (.iload_n 1, 1) := by decide +kernel
theorem de_Mo_ringLineHere_60 : decode prog_14_method_38_code 60 = .ok (.invokevirtual 231, 3) := by decide +kernel
theorem de_Mo_ringLineHere_63 : decode prog_14_method_38_code 63 = .ok (.ireturn, 1) := by decide +kernel
theorem de_Mo_ringLineHere_64 : decode prog_14_method_38_code 64 = .ok (.aload_n 0, 1) := by decide +kernel
theorem de_Mo_ringLineHere_65 : decode prog_14_method_38_code 65 = .ok (.ldc2_w 234, 3) := by decide +kernel
theorem de_Mo_ringLineHere_68 : decode prog_14_method_38_code 68 = .ok (.invokevirtual 98, 3) := by decide +kernel
theorem de_Mo_ringLineHere_71 : decode prog_14_method_38_code 71 = .ok (.ifCond .eq 9, 3) := by decide +kernel
theorem de_Mo_ringLineHere_74 : decode prog_14_method_38_code 74 = .ok (.aload_n 0, 1) := by decide +kernel
theorem de_Mo_ringLineHere_75 : decode prog_14_method_38_code 75 = .ok (.iconst 1, 1) := by decide +kernel
theorem de_Mo_ringLineHere_76 : decode prog_14_method_38_code 76 = .ok (.invokevirtual 236, 3) := by decide +kernel
theorem de_Mo_ringLineHere_79 : decode prog_14_method_38_code 79 = .ok (.ireturn, 1) := by decide +kernel
theorem de_Mo_ringLineHere_80 : decode prog_14_method_38_code 80 = .ok (.aload_n 0, 1) := by decide +kernel
theorem de_Mo_ringLineHere_81 : decode prog_14_method_38_code 81 = .ok (.ldc2_w 239, 3) := by decide +kernel
theorem de_Mo_ringLineHere_84 : decode prog_14_method_38_code 84 = .ok (.invokevirtual 98, 3) := by decide +kernel
theorem de_Mo_ringLineHere_87 : decode prog_14_method_38_code 87 = .ok (.ifCond .eq 9, 3) := by decide +kernel
theorem de_Mo_ringLineHere_90 : decode prog_14_method_38_code 90 = .ok (.aload_n 0, 1) := by decide +kernel
theorem de_Mo_ringLineHere_91 : decode prog_14_method_38_code 91 = .ok (.iconst (-1), 1) := by decide +kernel
theorem de_Mo_ringLineHere_92 : decode prog_14_method_38_code 92 = .ok (.invokevirtual 236, 3) := by decide +kernel
theorem de_Mo_ringLineHere_95 : decode prog_14_method_38_code 95 = .ok (.ireturn, 1) := by decide +kernel
theorem de_Mo_ringLineHere_96 : decode prog_14_method_38_code 96 = .ok (.aload_n 0, 1) := by decide +kernel
theorem de_Mo_ringLineHere_97 : decode prog_14_method_38_code 97 = .ok (.ldc2_w 241, 3) := by decide +kernel
theorem de_Mo_ringLineHere_100 : decode prog_14_method_38_code 100 = .ok (.invokevirtual 98, 3) := by decide +kernel
theorem de_Mo_ringLineHere_103 : decode prog_14_method_38_code 103 = .ok (.ifCond .eq 10, 3) := by decide +kernel
theorem de_Mo_ringLineHere_106 : decode prog_14_method_38_code 106 = .ok (.aload_n 0, 1) := by decide +kernel
theorem de_Mo_ringLineHere_107 : decode prog_14_method_38_code 107 = .ok (.invokevirtual 243, 3) := by decide +kernel
theorem de_Mo_ringLineHere_110 : decode prog_14_method_38_code 110 = .ok (.goto 7, 3) := by decide +kernel
theorem de_Mo_ringLineHere_113 : decode prog_14_method_38_code 113 = .ok (.aload_n 0, 1) := by decide +kernel
theorem de_Mo_ringLineHere_114 : decode prog_14_method_38_code 114 = .ok (.invokevirtual 246, 3) := by decide +kernel
theorem de_Mo_ringLineHere_117 : decode prog_14_method_38_code 117 = .ok (.ireturn, 1) := by decide +kernel
set_option maxRecDepth 10000 in
theorem co_Mo_ringLineHere (ht : tp_ok tape taped) (hn0 : 0 ≤ next) (hn1 : next ≤ taped) (hrd : rd_ok read) (hw : wrong = 0) (hnu : ab_in number) (at_ : Int) (ha0 : 0 ≤ at_) (ha1 : at_ ≤ taped) (hsk : tk_sk tape taped next = next) : ab_Mt g_G g_rs mt_Mo_ringLineHere 4 0 0 [ab_R 0, ab_I at_] (mo_W tape taped rules sign leng clause clauses read next wrong number text made deep lines opn opened stack top word said xx was undone kept sumOf faced slotAt dayAt row bestRow tMany tMost drawX images imageX isMade) (rq tape taped rules sign leng clause clauses text made deep lines opn opened stack top word said xx was undone kept sumOf faced slotAt dayAt row bestRow tMany tMost drawX images imageX isMade (rs_line tape taped next at_ read)) := by
  refine ab_Mt.of rfl (Nat.le_of_ble_eq_true rfl) ?_
  show ab_Ev g_G g_rs mt_Mo_ringLineHere _ _ _ 0 [some (ab_R 0), some (ab_I at_)] [] _ _
  subst hw
  have wRING := tk_isI_01 tape taped next (Int64.ofInt 1919512167)
  have wHOUSE := tk_isI_01 tape taped next (Int64.ofInt 448546567013)
  have wSIGHT := tk_isI_01 tape taped next (Int64.ofInt 495689623668)
  have wLIKES := tk_isI_01 tape taped next (Int64.ofInt 465625113971)
  have wLOATHES := tk_isI_01 tape taped next (Int64.ofInt 30521761840260467)
  have wGATE := tk_isI_01 tape taped next (Int64.ofInt 1734440037)
  have wRATE := tk_isI_01 tape taped next (Int64.ofInt 1918989413)
  refine ev_aload_n de_Mo_ringLineHere_0 rfl rfl ?_
  refine ev_ldc2i (n := 1919512167) de_Mo_ringLineHere_1 cn_Mo_219 (by decide) ?_
  refine ev_vv (ci := 11) de_Mo_ringLineHere_4 (cs_Mo_isWord ht hn0 hn1 hsk (Int64.ofInt 1919512167)) kb_Mo_98 ⟨im_Mo_isWord, se_Mo_isWord⟩ rfl rfl rfl (Nat.le_of_ble_eq_true rfl) (by decide) rfl ?_
  refine ev_if_eq (tgt := 16) de_Mo_ringLineHere_7 (by decide) (by omega) (fun h7 => ?_) (fun h7 => ?_)
  · skip
    refine ev_aload_n de_Mo_ringLineHere_16 rfl rfl ?_
    refine ev_getfield de_Mo_ringLineHere_17 rfl fl_Mo_26 rfl ?_
    refine ev_iconst de_Mo_ringLineHere_20 ?_
    refine ev_iaload de_Mo_ringLineHere_21 rfl (by omega) (by omega) (by omega) ?_
    have q0 : 0 ≤ read 0 ∧ read 0 ≤ 1 := hrd.1 0 (by decide) (by decide)
    refine ev_if_ne (tgt := 32) de_Mo_ringLineHere_22 (by decide) (by omega) (fun h22 => ?_) (fun h22 => ?_)
    · skip
      refine ev_aload_n de_Mo_ringLineHere_32 rfl rfl ?_
      refine ev_ldc2i (n := 448546567013) de_Mo_ringLineHere_33 cn_Mo_224 (by decide) ?_
      refine ev_vv (ci := 11) de_Mo_ringLineHere_36 (cs_Mo_isWord ht hn0 hn1 hsk (Int64.ofInt 448546567013)) kb_Mo_98 ⟨im_Mo_isWord, se_Mo_isWord⟩ rfl rfl rfl (Nat.le_of_ble_eq_true rfl) (by decide) rfl ?_
      refine ev_if_eq (tgt := 48) de_Mo_ringLineHere_39 (by decide) (by omega) (fun h39 => ?_) (fun h39 => ?_)
      · skip
        refine ev_aload_n de_Mo_ringLineHere_48 rfl rfl ?_
        refine ev_ldc2i (n := 495689623668) de_Mo_ringLineHere_49 cn_Mo_229 (by decide) ?_
        refine ev_vv (ci := 11) de_Mo_ringLineHere_52 (cs_Mo_isWord ht hn0 hn1 hsk (Int64.ofInt 495689623668)) kb_Mo_98 ⟨im_Mo_isWord, se_Mo_isWord⟩ rfl rfl rfl (Nat.le_of_ble_eq_true rfl) (by decide) rfl ?_
        refine ev_if_eq (tgt := 64) de_Mo_ringLineHere_55 (by decide) (by omega) (fun h55 => ?_) (fun h55 => ?_)
        · skip
          refine ev_aload_n de_Mo_ringLineHere_64 rfl rfl ?_
          refine ev_ldc2i (n := 465625113971) de_Mo_ringLineHere_65 cn_Mo_234 (by decide) ?_
          refine ev_vv (ci := 11) de_Mo_ringLineHere_68 (cs_Mo_isWord ht hn0 hn1 hsk (Int64.ofInt 465625113971)) kb_Mo_98 ⟨im_Mo_isWord, se_Mo_isWord⟩ rfl rfl rfl (Nat.le_of_ble_eq_true rfl) (by decide) rfl ?_
          refine ev_if_eq (tgt := 80) de_Mo_ringLineHere_71 (by decide) (by omega) (fun h71 => ?_) (fun h71 => ?_)
          · skip
            refine ev_aload_n de_Mo_ringLineHere_80 rfl rfl ?_
            refine ev_ldc2i (n := 30521761840260467) de_Mo_ringLineHere_81 cn_Mo_239 (by decide) ?_
            refine ev_vv (ci := 11) de_Mo_ringLineHere_84 (cs_Mo_isWord ht hn0 hn1 hsk (Int64.ofInt 30521761840260467)) kb_Mo_98 ⟨im_Mo_isWord, se_Mo_isWord⟩ rfl rfl rfl (Nat.le_of_ble_eq_true rfl) (by decide) rfl ?_
            refine ev_if_eq (tgt := 96) de_Mo_ringLineHere_87 (by decide) (by omega) (fun h87 => ?_) (fun h87 => ?_)
            · skip
              refine ev_aload_n de_Mo_ringLineHere_96 rfl rfl ?_
              refine ev_ldc2i (n := 1734440037) de_Mo_ringLineHere_97 cn_Mo_241 (by decide) ?_
              refine ev_vv (ci := 11) de_Mo_ringLineHere_100 (cs_Mo_isWord ht hn0 hn1 hsk (Int64.ofInt 1734440037)) kb_Mo_98 ⟨im_Mo_isWord, se_Mo_isWord⟩ rfl rfl rfl (Nat.le_of_ble_eq_true rfl) (by decide) rfl ?_
              refine ev_if_eq (tgt := 113) de_Mo_ringLineHere_103 (by decide) (by omega) (fun h103 => ?_) (fun h103 => ?_)
              · skip
                have eL : rs_line tape taped next at_ read = rs_rate tape taped next read := by unfold rs_line; rw [if_neg (by omega), if_neg (by omega), if_neg (by omega), if_neg (by omega), if_neg (by omega), if_neg (by omega), if_neg (by omega)]
                refine ev_aload_n de_Mo_ringLineHere_113 rfl rfl ?_
                refine ev_virtual (ci := 11) (mc := 0) (ms := 0) (bc := 0) (bs := 0) de_Mo_ringLineHere_114 (co_Mo_isRateHere ht hn0 hn1 hrd rfl hnu) kb_Mo_246 ⟨im_Mo_isRateHere, se_Mo_isRateHere⟩ rfl rfl rfl (Nat.le_of_ble_eq_true rfl) (by decide) (Or.inl (fun r w1 h => by obtain ⟨nx, nu, wr, rd, e, -⟩ := h; rw [e]; first | exact mo_Wn.trans mo_Wn.symm | rfl)) (fun r1 w1 hm1 => ?_)
                obtain ⟨nx1, nu1, wr1, rd1, rfl, hnx1, hrd1, hnu1, hc1⟩ := hm1; rcases hc1 with ⟨rfl, rfl, hX1⟩ | ⟨rfl, hwr1, hX1⟩
                · skip
                  exact ev_zreturn de_Mo_ringLineHere_117 rfl (by decide) (by first | exact ⟨_, _, _, _, rfl, hnx1, hrd1, hnu1, Or.inl ⟨rfl, rfl, by rw [eL]; exact hX1⟩⟩ | exact ⟨_, _, _, _, rfl, hnx1, hrd1, hnu1, Or.inr ⟨rfl, hwr1, by rw [eL]; exact hX1⟩⟩)
                · skip
                  exact ev_zreturn de_Mo_ringLineHere_117 rfl (by decide) (by first | exact ⟨_, _, _, _, rfl, hnx1, hrd1, hnu1, Or.inl ⟨rfl, rfl, by rw [eL]; exact hX1⟩⟩ | exact ⟨_, _, _, _, rfl, hnx1, hrd1, hnu1, Or.inr ⟨rfl, hwr1, by rw [eL]; exact hX1⟩⟩)
              · skip
                have eL : rs_line tape taped next at_ read = rs_gate tape taped next read := by unfold rs_line; rw [if_neg (by omega), if_neg (by omega), if_neg (by omega), if_neg (by omega), if_neg (by omega), if_neg (by omega), if_pos (by omega)]
                refine ev_aload_n de_Mo_ringLineHere_106 rfl rfl ?_
                refine ev_virtual (ci := 11) (mc := 0) (ms := 0) (bc := 0) (bs := 0) de_Mo_ringLineHere_107 (co_Mo_isGateHere ht hn0 hn1 hrd rfl hnu) kb_Mo_243 ⟨im_Mo_isGateHere, se_Mo_isGateHere⟩ rfl rfl rfl (Nat.le_of_ble_eq_true rfl) (by decide) (Or.inl (fun r w1 h => by obtain ⟨nx, nu, wr, rd, e, -⟩ := h; rw [e]; first | exact mo_Wn.trans mo_Wn.symm | rfl)) (fun r1 w1 hm1 => ?_)
                obtain ⟨nx1, nu1, wr1, rd1, rfl, hnx1, hrd1, hnu1, hc1⟩ := hm1; rcases hc1 with ⟨rfl, rfl, hX1⟩ | ⟨rfl, hwr1, hX1⟩
                · skip
                  refine ev_goto (tgt := 117) de_Mo_ringLineHere_110 (by decide) ?_
                  exact ev_zreturn de_Mo_ringLineHere_117 rfl (by decide) (by first | exact ⟨_, _, _, _, rfl, hnx1, hrd1, hnu1, Or.inl ⟨rfl, rfl, by rw [eL]; exact hX1⟩⟩ | exact ⟨_, _, _, _, rfl, hnx1, hrd1, hnu1, Or.inr ⟨rfl, hwr1, by rw [eL]; exact hX1⟩⟩)
                · skip
                  refine ev_goto (tgt := 117) de_Mo_ringLineHere_110 (by decide) ?_
                  exact ev_zreturn de_Mo_ringLineHere_117 rfl (by decide) (by first | exact ⟨_, _, _, _, rfl, hnx1, hrd1, hnu1, Or.inl ⟨rfl, rfl, by rw [eL]; exact hX1⟩⟩ | exact ⟨_, _, _, _, rfl, hnx1, hrd1, hnu1, Or.inr ⟨rfl, hwr1, by rw [eL]; exact hX1⟩⟩)
            · skip
              have eL : rs_line tape taped next at_ read = rs_like tape taped next (-1) read := by unfold rs_line; rw [if_neg (by omega), if_neg (by omega), if_neg (by omega), if_neg (by omega), if_neg (by omega), if_pos (by omega)]
              refine ev_aload_n de_Mo_ringLineHere_90 rfl rfl ?_
              refine ev_iconst de_Mo_ringLineHere_91 ?_
              refine ev_virtual (ci := 11) (mc := 0) (ms := 0) (bc := 0) (bs := 0) de_Mo_ringLineHere_92 (co_Mo_isLikeHere ht hn0 hn1 hrd rfl hnu (-1) (by decide)) kb_Mo_236 ⟨im_Mo_isLikeHere, se_Mo_isLikeHere⟩ rfl rfl rfl (Nat.le_of_ble_eq_true rfl) (by decide) (Or.inl (fun r w1 h => by obtain ⟨nx, nu, wr, rd, e, -⟩ := h; rw [e]; first | exact mo_Wn.trans mo_Wn.symm | rfl)) (fun r1 w1 hm1 => ?_)
              obtain ⟨nx1, nu1, wr1, rd1, rfl, hnx1, hrd1, hnu1, hc1⟩ := hm1; rcases hc1 with ⟨rfl, rfl, hX1⟩ | ⟨rfl, hwr1, hX1⟩
              · skip
                exact ev_zreturn de_Mo_ringLineHere_95 rfl (by decide) (by first | exact ⟨_, _, _, _, rfl, hnx1, hrd1, hnu1, Or.inl ⟨rfl, rfl, by rw [eL]; exact hX1⟩⟩ | exact ⟨_, _, _, _, rfl, hnx1, hrd1, hnu1, Or.inr ⟨rfl, hwr1, by rw [eL]; exact hX1⟩⟩)
              · skip
                exact ev_zreturn de_Mo_ringLineHere_95 rfl (by decide) (by first | exact ⟨_, _, _, _, rfl, hnx1, hrd1, hnu1, Or.inl ⟨rfl, rfl, by rw [eL]; exact hX1⟩⟩ | exact ⟨_, _, _, _, rfl, hnx1, hrd1, hnu1, Or.inr ⟨rfl, hwr1, by rw [eL]; exact hX1⟩⟩)
          · skip
            have eL : rs_line tape taped next at_ read = rs_like tape taped next 1 read := by unfold rs_line; rw [if_neg (by omega), if_neg (by omega), if_neg (by omega), if_neg (by omega), if_pos (by omega)]
            refine ev_aload_n de_Mo_ringLineHere_74 rfl rfl ?_
            refine ev_iconst de_Mo_ringLineHere_75 ?_
            refine ev_virtual (ci := 11) (mc := 0) (ms := 0) (bc := 0) (bs := 0) de_Mo_ringLineHere_76 (co_Mo_isLikeHere ht hn0 hn1 hrd rfl hnu 1 (by decide)) kb_Mo_236 ⟨im_Mo_isLikeHere, se_Mo_isLikeHere⟩ rfl rfl rfl (Nat.le_of_ble_eq_true rfl) (by decide) (Or.inl (fun r w1 h => by obtain ⟨nx, nu, wr, rd, e, -⟩ := h; rw [e]; first | exact mo_Wn.trans mo_Wn.symm | rfl)) (fun r1 w1 hm1 => ?_)
            obtain ⟨nx1, nu1, wr1, rd1, rfl, hnx1, hrd1, hnu1, hc1⟩ := hm1; rcases hc1 with ⟨rfl, rfl, hX1⟩ | ⟨rfl, hwr1, hX1⟩
            · skip
              exact ev_zreturn de_Mo_ringLineHere_79 rfl (by decide) (by first | exact ⟨_, _, _, _, rfl, hnx1, hrd1, hnu1, Or.inl ⟨rfl, rfl, by rw [eL]; exact hX1⟩⟩ | exact ⟨_, _, _, _, rfl, hnx1, hrd1, hnu1, Or.inr ⟨rfl, hwr1, by rw [eL]; exact hX1⟩⟩)
            · skip
              exact ev_zreturn de_Mo_ringLineHere_79 rfl (by decide) (by first | exact ⟨_, _, _, _, rfl, hnx1, hrd1, hnu1, Or.inl ⟨rfl, rfl, by rw [eL]; exact hX1⟩⟩ | exact ⟨_, _, _, _, rfl, hnx1, hrd1, hnu1, Or.inr ⟨rfl, hwr1, by rw [eL]; exact hX1⟩⟩)
        · skip
          have eL : rs_line tape taped next at_ read = rs_sight tape taped next at_ read := by unfold rs_line; rw [if_neg (by omega), if_neg (by omega), if_neg (by omega), if_pos (by omega)]
          refine ev_aload_n de_Mo_ringLineHere_58 rfl rfl ?_
          refine ev_iload_n de_Mo_ringLineHere_59 rfl rfl ?_
          refine ev_virtual (ci := 11) (mc := 0) (ms := 0) (bc := 0) (bs := 0) de_Mo_ringLineHere_60 (co_Mo_isSightHere ht hn0 hn1 hrd rfl hnu at_ ha0 ha1) kb_Mo_231 ⟨im_Mo_isSightHere, se_Mo_isSightHere⟩ rfl rfl rfl (Nat.le_of_ble_eq_true rfl) (by decide) (Or.inl (fun r w1 h => by obtain ⟨nx, nu, wr, rd, e, -⟩ := h; rw [e]; first | exact mo_Wn.trans mo_Wn.symm | rfl)) (fun r1 w1 hm1 => ?_)
          obtain ⟨nx1, nu1, wr1, rd1, rfl, hnx1, hrd1, hnu1, hc1⟩ := hm1; rcases hc1 with ⟨rfl, rfl, hX1⟩ | ⟨rfl, hwr1, hX1⟩
          · skip
            exact ev_zreturn de_Mo_ringLineHere_63 rfl (by decide) (by first | exact ⟨_, _, _, _, rfl, hnx1, hrd1, hnu1, Or.inl ⟨rfl, rfl, by rw [eL]; exact hX1⟩⟩ | exact ⟨_, _, _, _, rfl, hnx1, hrd1, hnu1, Or.inr ⟨rfl, hwr1, by rw [eL]; exact hX1⟩⟩)
          · skip
            exact ev_zreturn de_Mo_ringLineHere_63 rfl (by decide) (by first | exact ⟨_, _, _, _, rfl, hnx1, hrd1, hnu1, Or.inl ⟨rfl, rfl, by rw [eL]; exact hX1⟩⟩ | exact ⟨_, _, _, _, rfl, hnx1, hrd1, hnu1, Or.inr ⟨rfl, hwr1, by rw [eL]; exact hX1⟩⟩)
      · skip
        have eL : rs_line tape taped next at_ read = rs_house tape taped next at_ read := by unfold rs_line; rw [if_neg (by omega), if_neg (by omega), if_pos (by omega)]
        refine ev_aload_n de_Mo_ringLineHere_42 rfl rfl ?_
        refine ev_iload_n de_Mo_ringLineHere_43 rfl rfl ?_
        refine ev_virtual (ci := 11) (mc := 0) (ms := 0) (bc := 0) (bs := 0) de_Mo_ringLineHere_44 (co_Mo_isHouseHere ht hn0 hn1 hrd rfl hnu at_ ha0 ha1) kb_Mo_226 ⟨im_Mo_isHouseHere, se_Mo_isHouseHere⟩ rfl rfl rfl (Nat.le_of_ble_eq_true rfl) (by decide) (Or.inl (fun r w1 h => by obtain ⟨nx, nu, wr, rd, e, -⟩ := h; rw [e]; first | exact mo_Wn.trans mo_Wn.symm | rfl)) (fun r1 w1 hm1 => ?_)
        obtain ⟨nx1, nu1, wr1, rd1, rfl, hnx1, hrd1, hnu1, hc1⟩ := hm1; rcases hc1 with ⟨rfl, rfl, hX1⟩ | ⟨rfl, hwr1, hX1⟩
        · skip
          exact ev_zreturn de_Mo_ringLineHere_47 rfl (by decide) (by first | exact ⟨_, _, _, _, rfl, hnx1, hrd1, hnu1, Or.inl ⟨rfl, rfl, by rw [eL]; exact hX1⟩⟩ | exact ⟨_, _, _, _, rfl, hnx1, hrd1, hnu1, Or.inr ⟨rfl, hwr1, by rw [eL]; exact hX1⟩⟩)
        · skip
          exact ev_zreturn de_Mo_ringLineHere_47 rfl (by decide) (by first | exact ⟨_, _, _, _, rfl, hnx1, hrd1, hnu1, Or.inl ⟨rfl, rfl, by rw [eL]; exact hX1⟩⟩ | exact ⟨_, _, _, _, rfl, hnx1, hrd1, hnu1, Or.inr ⟨rfl, hwr1, by rw [eL]; exact hX1⟩⟩)
    · skip
      have p1 := ht.2.1
      have ef : tk_fl 0 4 (at_) = 1 + 8 * (at_) + 4 := rfl
      refine ev_aload_n de_Mo_ringLineHere_25 rfl rfl ?_
      refine ev_iconst de_Mo_ringLineHere_26 ?_
      refine ev_iload_n de_Mo_ringLineHere_27 rfl rfl ?_
      refine ev_vv (ci := 11) de_Mo_ringLineHere_28 (co_Mo_fails 4 at_ (by decide)) kb_Mo_108 ⟨im_Mo_fails, se_Mo_fails⟩ rfl rfl rfl (Nat.le_of_ble_eq_true rfl) (by decide) rfl ?_
      exact ev_zreturn de_Mo_ringLineHere_31 rfl (by decide) ⟨_, _, _, _, rfl, ⟨hn0, hn1⟩, hrd, hnu, Or.inr ⟨rfl, by rw [ef]; omega, by unfold rs_line; rw [if_neg (by omega), if_pos h22]; rfl⟩⟩
  · skip
    have eL : rs_line tape taped next at_ read = rs_ring tape taped next at_ read := by unfold rs_line; rw [if_pos (by omega)]
    refine ev_aload_n de_Mo_ringLineHere_10 rfl rfl ?_
    refine ev_iload_n de_Mo_ringLineHere_11 rfl rfl ?_
    refine ev_virtual (ci := 11) (mc := 0) (ms := 0) (bc := 0) (bs := 0) de_Mo_ringLineHere_12 (co_Mo_isRingHere ht hn0 hn1 hrd rfl hnu at_ ha0 ha1) kb_Mo_221 ⟨im_Mo_isRingHere, se_Mo_isRingHere⟩ rfl rfl rfl (Nat.le_of_ble_eq_true rfl) (by decide) (Or.inl (fun r w1 h => by obtain ⟨nx, nu, wr, rd, e, -⟩ := h; rw [e]; first | exact mo_Wn.trans mo_Wn.symm | rfl)) (fun r1 w1 hm1 => ?_)
    obtain ⟨nx1, nu1, wr1, rd1, rfl, hnx1, hrd1, hnu1, hc1⟩ := hm1; rcases hc1 with ⟨rfl, rfl, hX1⟩ | ⟨rfl, hwr1, hX1⟩
    · skip
      exact ev_zreturn de_Mo_ringLineHere_15 rfl (by decide) (by first | exact ⟨_, _, _, _, rfl, hnx1, hrd1, hnu1, Or.inl ⟨rfl, rfl, by rw [eL]; exact hX1⟩⟩ | exact ⟨_, _, _, _, rfl, hnx1, hrd1, hnu1, Or.inr ⟨rfl, hwr1, by rw [eL]; exact hX1⟩⟩)
    · skip
      exact ev_zreturn de_Mo_ringLineHere_15 rfl (by decide) (by first | exact ⟨_, _, _, _, rfl, hnx1, hrd1, hnu1, Or.inl ⟨rfl, rfl, by rw [eL]; exact hX1⟩⟩ | exact ⟨_, _, _, _, rfl, hnx1, hrd1, hnu1, Or.inr ⟨rfl, hwr1, by rw [eL]; exact hX1⟩⟩)
end MO
