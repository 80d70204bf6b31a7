section MO
variable {tape : Int → Int} {taped : Int} {rules : Int} {sign : Int → Int} {leng : Int → Int} {clause : Int → Int} {clauses : Int → Int} {read : Int → Int} {next : Int} {wrong : Int} {number : Int} {text : Int} {made : Int} {deep : Int} {lines : Int} {opn : Int → Int} {opened : Int} {stack : Int → Int64} {top : Int} {word : Int → Int64} {said : Int → Int} {xx : Int} {was : Int → Int} {undone : Int} {kept : Int → Int} {sumOf : Int → Int} {faced : Int → Int} {slotAt : Int → Int} {dayAt : Int → Int} {row : Int → Int} {bestRow : Int → Int} {tMany : Int} {tMost : Int} {drawX : Int64} {images : Int → Int} {imageX : Int → Int} {isMade : Int → Int}
theorem de_Mo_house_0 : decode prog_14_method_62_code 0 = .ok (.aload_n 0, 1) := by decide +kernel
theorem de_Mo_house_1 : decode prog_14_method_62_code 1 = .ok (.iload_n 1, 1) := by decide +kernel
theorem de_Mo_house_2 : decode prog_14_method_62_code 2 = .ok (.invokevirtual 316, 3) := by decide +kernel
theorem de_Mo_house_5 : decode prog_14_method_62_code 5 = .ok (.ifCond .ne 7, 3) := by decide +kernel
theorem de_Mo_house_8 : decode prog_14_method_62_code 8 = .ok (.sipush (-1000), 3) := by decide +kernel
theorem de_Mo_house_11 : decode prog_14_method_62_code 11 = .ok (.ireturn, 1) := by decide +kernel
theorem de_Mo_house_12 : decode prog_14_method_62_code 12 = .ok (.iload_n 2, 1) := by decide +kernel
theorem de_Mo_house_13 : decode prog_14_method_62_code 13 = .ok (.tableswitch 128 0 6 #[43, 53, 63, 69, 85, 91, 114], 43) := by decide +kernel
theorem de_Mo_house_56 : decode prog_14_method_62_code 56 = .ok (.aload_n 0, 1) := by decide +kernel
theorem de_Mo_house_57 : decode prog_14_method_62_code 57 = .ok (.getfield 39, 3) := by decide +kernel
theorem de_Mo_house_60 : decode prog_14_method_62_code 60 = .ok (.bipush 46, 2) := by decide +kernel
theorem de_Mo_house_62 : decode prog_14_method_62_code 62 = .ok (.iload_n 1, 1) := by decide +kernel
theorem de_Mo_house_63 : decode prog_14_method_62_code 63 = .ok (.iadd, 1) := by decide +kernel
theorem de_Mo_house_64 : decode prog_14_method_62_code 64 = .ok (.iaload, 1) := by decide +kernel
theorem de_Mo_house_65 : decode prog_14_method_62_code 65 = .ok (.ireturn, 1) := by decide +kernel
theorem de_Mo_house_66 : decode prog_14_method_62_code 66 = .ok (.aload_n 0, 1) := by decide +kernel
theorem de_Mo_house_67 : decode prog_14_method_62_code 67 = .ok (.getfield 39, 3) := by decide +kernel
theorem de_Mo_house_70 : decode prog_14_method_62_code 70 = .ok (.bipush 53, 2) := by decide +kernel
theorem de_Mo_house_72 : decode prog_14_method_62_code 72 = .ok (.iload_n 1, 1) := by decide +kernel
theorem de_Mo_house_73 : decode prog_14_method_62_code 73 = .ok (.iadd, 1) := by decide +kernel
theorem de_Mo_house_74 : decode prog_14_method_62_code 74 = .ok (.iaload, 1) := by decide +kernel
theorem de_Mo_house_75 : decode prog_14_method_62_code 75 = .ok (.ireturn, 1) := by decide +kernel
theorem de_Mo_house_76 : decode prog_14_method_62_code 76 = .ok (.aload_n 0, 1) := by decide +kernel
theorem de_Mo_house_77 : decode prog_14_method_62_code 77 = .ok (.iload_n 1, 1) := by decide +kernel
theorem de_Mo_house_78 : decode prog_14_method_62_code 78 = .ok (.invokevirtual 300, 3) := by decide +kernel
theorem de_Mo_house_81 : decode prog_14_method_62_code 81 = .ok (.ireturn, 1) := by decide +kernel
theorem de_Mo_house_82 : decode prog_14_method_62_code 82 = .ok (.aload_n 0, 1) := by decide +kernel
theorem de_Mo_house_83 : decode prog_14_method_62_code 83 = .ok (.aload_n 0, 1) := by decide +kernel
theorem de_Mo_house_84 : decode prog_14_method_62_code 84 = .ok (.iload_n 1, 1) := by decide +kernel
theorem de_Mo_house_85 : decode prog_14_method_62_code 85 = .ok (.invokevirtual 300, 3) := by decide +kernel
theorem de_Mo_house_88 : decode prog_14_method_62_code 88 = .ok (.aload_n 0, 1) := by decide +kernel
theorem de_Mo_house_89 : decode prog_14_method_62_code 89 = .ok (.getfield 39, 3) := by decide +kernel
theorem de_Mo_house_92 : decode prog_14_method_62_code 92 = .ok (.iconst 5, 1) := by decide +kernel
theorem de_Mo_house_93 : decode prog_14_method_62_code 93 = .ok (.iaload, 1) := by decide +kernel
theorem de_Mo_house_94 : decode prog_14_method_62_code 94 = .ok (.invokevirtual 290, 3) := by decide +kernel
theorem de_Mo_house_97 : decode prog_14_method_62_code 97 = .ok (.ireturn, 1) := by decide +kernel
theorem de_Mo_house_98 : decode prog_14_method_62_code 98 = .ok (.aload_n 0, 1) := by decide +kernel
theorem de_Mo_house_99 : decode prog_14_method_62_code 99 = .ok (.iload_n 1, 1) := by decide +kernel
theorem de_Mo_house_100 : decode prog_14_method_62_code 100 = .ok (.invokevirtual 307, 3) := by decide +kernel
theorem de_Mo_house_103 : decode prog_14_method_62_code 103 = .ok (.ireturn, 1) := by decide +kernel
theorem de_Mo_house_104 : decode prog_14_method_62_code 104 = .ok (.aload_n 0, 1) := by decide +kernel
theorem de_Mo_house_105 : decode prog_14_method_62_code 105 = .ok (.getfield 39, 3) := by decide +kernel
theorem de_Mo_house_108 : decode prog_14_method_62_code 108 = .ok (.iconst 3, 1) := by decide +kernel
theorem de_Mo_house_109 : decode prog_14_method_62_code 109 = .ok (.iaload, 1) := by decide +kernel
theorem de_Mo_house_110 : decode prog_14_method_62_code 110 = .ok (.aload_n 0, 1) := by decide +kernel
theorem de_Mo_house_111 : decode prog_14_method_62_code 111 = .ok (.iload_n 1, 1) := by decide +kernel
theorem de_Mo_house_112 : decode prog_14_method_62_code 112 = .ok (.invokevirtual 300, 3) := by decide +kernel
theorem de_Mo_house_115 : decode prog_14_method_62_code 115 = .ok (.invokestatic 294, 3) := by decide +kernel
theorem de_Mo_house_118 : decode prog_14_method_62_code 118 = .ok (.ifCond .eq 7, 3) := by decide +kernel
theorem de_Mo_house_121 : decode prog_14_method_62_code 121 = .ok (.iconst 1, 1) := by decide +kernel
theorem de_Mo_house_122 : decode prog_14_method_62_code 122 = .ok (.goto 4, 3) := by decide +kernel
theorem de_Mo_house_125 : decode prog_14_method_62_code 125 = .ok (.iconst 0, 1) := by decide +kernel
theorem de_Mo_house_126 : decode prog_14_method_62_code 126 = .ok (.ireturn, 1) := by decide +kernel
theorem de_Mo_house_127 : decode prog_14_method_62_code 127 = .ok (.aload_n 0, 1) := by decide +kernel
theorem de_Mo_house_128 : decode prog_14_method_62_code 128 = .ok (.iload_n 1, 1) := by decide +kernel
theorem de_Mo_house_129 : decode prog_14_method_62_code 129 = .ok (.invokevirtual 313, 3) := by decide +kernel
theorem de_Mo_house_132 : decode prog_14_method_62_code 132 = .ok (.ifCond .eq 7, 3) := by decide +kernel
theorem de_Mo_house_135 : decode prog_14_method_62_code 135 = .ok (.iconst 1, 1) := by decide +kernel
theorem de_Mo_house_136 : decode prog_14_method_62_code 136 = .ok (.goto 4, 3) := by decide +kernel
theorem de_Mo_house_139 : decode prog_14_method_62_code 139 = .ok (.iconst 0, 1) := by decide +kernel
theorem de_Mo_house_140 : decode prog_14_method_62_code 140 = .ok (.ireturn, 1) := by decide +kernel
theorem de_Mo_house_141 : decode prog_14_method_62_code 141 = .ok (.iload_n 2, 1) := by decide +kernel
theorem de_Mo_house_142 : decode prog_14_method_62_code 142 = .ok (.i2l, 1) := by decide +kernel
theorem de_Mo_house_143 : decode prog_14_method_62_code 143 = .ok (.ldc2_w 319, 3) := by decide +kernel
theorem de_Mo_house_146 : decode prog_14_method_62_code 146 = .ok (.ldc2_w 321, 3) := by decide +kernel
theorem de_Mo_house_149 : decode prog_14_method_62_code 149 = .ok (.invokestatic 115, 3) := by decide +kernel
theorem de_Mo_house_152 : decode prog_14_method_62_code 152 = .ok (.ifCond .eq 22, 3) := by decide +kernel
theorem de_Mo_house_155 : decode prog_14_method_62_code 155 = .ok (.aload_n 0, 1) := by decide +kernel
theorem de_Mo_house_156 : decode prog_14_method_62_code 156 = .ok (.getfield 39, 3) := by decide +kernel
theorem de_Mo_house_159 : decode prog_14_method_62_code 159 = .ok (.bipush 60, 2) := by decide +kernel
theorem de_Mo_house_161 : decode prog_14_method_62_code 161 = .ok (.iconst 5, 1) := by decide +kernel
theorem de_Mo_house_162 : decode prog_14_method_62_code 162 = .ok (.iload_n 1, 1) := by decide +kernel
theorem de_Mo_house_163 : decode prog_14_method_62_code 163 = .ok (.imul, 1) := by decide +kernel
theorem de_Mo_house_164 : decode prog_14_method_62_code 164 = .ok (.iadd, 1) := by decide +kernel
theorem de_Mo_house_165 : decode prog_14_method_62_code 165 = .ok (.iload_n 2, 1) := by decide +kernel
theorem de_Mo_house_166 : decode prog_14_method_62_code 166 = .ok (.iadd, 1) := by decide +kernel
theorem de_Mo_house_167 : decode prog_14_method_62_code 167 = .ok (.bipush 100, 2) := by decide +kernel
theorem de_Mo_house_169 : decode prog_14_method_62_code 169 = .ok (.isub, 1) := by decide +kernel
theorem de_Mo_house_170 : decode prog_14_method_62_code 170 = .ok (.iaload, 1) := by decide +kernel
theorem de_Mo_house_171 : decode prog_14_method_62_code 171 = .ok (.goto 6, 3) := by decide +kernel
theorem de_Mo_house_174 : decode prog_14_method_62_code 174 = .ok (.sipush (-1000), 3) := by decide +kernel
theorem de_Mo_house_177 : decode prog_14_method_62_code 177 = .ok (.ireturn, 1) := by decide +kernel
set_option maxRecDepth 10000 in
theorem co_Mo_house {B : Int} (hI : sg_ok B said) (h0 ww : Int) (hh : ab_in h0) (hw : ab_in ww) : ab_Mt g_G g_rs mt_Mo_house 4 0 0 [ab_R 0, ab_I h0, ab_I ww] (mo_W tape taped rules sign leng clause clauses read next wrong number text made deep lines opn opened stack top word said xx was undone kept sumOf faced slotAt dayAt row bestRow tMany tMost drawX images imageX isMade) (ab_is (some (ab_I (sp_house said h0 ww))) (mo_W tape taped rules sign leng clause clauses read next wrong number text made deep lines opn opened stack top word said xx was undone kept sumOf faced slotAt dayAt row bestRow tMany tMost drawX images imageX isMade)) := by
  refine ab_Mt.of rfl (Nat.le_of_ble_eq_true rfl) ?_
  show ab_Ev g_G g_rs mt_Mo_house _ _ _ 0 [some (ab_R 0), some (ab_I h0), some (ab_I ww)] [] _ _
  have hJ := hI; obtain ⟨i0, i1, i2, i3, i4, i5, i6, i7, i8, i9, i10, i11, i12, i13, i14, i15, i16, i17⟩ := sg_all hJ
  have qf := sp_facesOf_b said h0
  refine ev_aload_n de_Mo_house_0 rfl rfl ?_
  refine ev_iload_n de_Mo_house_1 rfl rfl ?_
  refine ev_vv (ci := 11) de_Mo_house_2 (co_Mo_isHouse hI h0 hh) kb_Mo_316 ⟨im_Mo_isHouse, se_Mo_isHouse⟩ rfl rfl rfl (Nat.le_of_ble_eq_true rfl) (by decide) rfl ?_
  refine ev_if_ne (tgt := 12) de_Mo_house_5 (by decide) (by split <;> decide) (fun h5 => ?_) (fun h5 => ?_)
  · skip
    have n5 : 0 ≤ h0 ∧ h0 < said 1 := Decidable.byContradiction (fun z => by rw [if_neg z] at h5; omega)
    refine ev_iload_n de_Mo_house_12 rfl rfl ?_
    rcases (by omega : ww < 0 ∨ 6 < ww ∨ ww = 0 ∨ ww = 1 ∨ ww = 2 ∨ ww = 3 ∨ ww = 4 ∨ ww = 5 ∨ ww = 6) with c | c | c | c | c | c | c | c | c
    · refine ev_tableOut (tgt := 141) de_Mo_house_13 (by omega) (by omega) (by decide) ?_
      refine ev_iload_n de_Mo_house_141 rfl rfl ?_
      refine ev_i2l de_Mo_house_142 (by omega) ?_
      refine ev_ldc2i (n := 100) de_Mo_house_143 cn_Mo_319 (by decide) ?_
      refine ev_ldc2i (n := 104) de_Mo_house_146 cn_Mo_321 (by decide) ?_
      refine ev_sv de_Mo_house_149 (co_Mo_in _ ww (100) (104) (by omega) (by decide) (by decide)) kb_Mo_115 sc_Mo_in rfl (Nat.le_of_ble_eq_true rfl) (by decide) rfl ?_
      refine ev_if_eq (tgt := 174) de_Mo_house_152 (by decide) (by split <;> decide) (fun h152 => ?_) (fun h152 => ?_)
      · skip
        have n152 : ¬ (100 ≤ ww ∧ ww ≤ 104) := fun z => by rw [if_pos z] at h152; omega
        refine ev_sipush de_Mo_house_174 rfl ?_
        exact ev_ireturn de_Mo_house_177 rfl ⟨by unfold sp_house; rw [if_pos n5, if_neg (by omega), if_neg (by omega), if_neg (by omega), if_neg (by omega), if_neg (by omega), if_neg (by omega), if_neg (by omega)]; first | rw [if_pos n152] | rw [if_neg n152], rfl⟩
      · skip
        have n152 : 100 ≤ ww ∧ ww ≤ 104 := Decidable.byContradiction (fun z => by rw [if_neg z] at h152; omega)
        refine ev_aload_n de_Mo_house_155 rfl rfl ?_
        refine ev_getfield de_Mo_house_156 rfl fl_Mo_39 rfl ?_
        refine ev_bipush de_Mo_house_159 rfl ?_
        refine ev_iconst de_Mo_house_161 ?_
        refine ev_iload_n de_Mo_house_162 rfl rfl ?_
        refine ev_imul de_Mo_house_163 ?_
        refine ev_iadd de_Mo_house_164 ?_
        refine ev_iload_n de_Mo_house_165 rfl rfl ?_
        refine ev_iadd de_Mo_house_166 ?_
        refine ev_bipush de_Mo_house_167 rfl ?_
        refine ev_isub de_Mo_house_169 ?_
        refine ev_iaload de_Mo_house_170 rfl (by omega) (by omega) (by omega) ?_
        refine ev_goto (tgt := 177) de_Mo_house_171 (by decide) ?_
        exact ev_ireturn de_Mo_house_177 rfl ⟨by unfold sp_house; rw [if_pos n5, if_neg (by omega), if_neg (by omega), if_neg (by omega), if_neg (by omega), if_neg (by omega), if_neg (by omega), if_neg (by omega)]; first | rw [if_pos n152] | rw [if_neg n152], rfl⟩
    · refine ev_tableOut (tgt := 141) de_Mo_house_13 (by omega) (by omega) (by decide) ?_
      refine ev_iload_n de_Mo_house_141 rfl rfl ?_
      refine ev_i2l de_Mo_house_142 (by omega) ?_
      refine ev_ldc2i (n := 100) de_Mo_house_143 cn_Mo_319 (by decide) ?_
      refine ev_ldc2i (n := 104) de_Mo_house_146 cn_Mo_321 (by decide) ?_
      refine ev_sv de_Mo_house_149 (co_Mo_in _ ww (100) (104) (by omega) (by decide) (by decide)) kb_Mo_115 sc_Mo_in rfl (Nat.le_of_ble_eq_true rfl) (by decide) rfl ?_
      refine ev_if_eq (tgt := 174) de_Mo_house_152 (by decide) (by split <;> decide) (fun h152 => ?_) (fun h152 => ?_)
      · skip
        have n152 : ¬ (100 ≤ ww ∧ ww ≤ 104) := fun z => by rw [if_pos z] at h152; omega
        refine ev_sipush de_Mo_house_174 rfl ?_
        exact ev_ireturn de_Mo_house_177 rfl ⟨by unfold sp_house; rw [if_pos n5, if_neg (by omega), if_neg (by omega), if_neg (by omega), if_neg (by omega), if_neg (by omega), if_neg (by omega), if_neg (by omega)]; first | rw [if_pos n152] | rw [if_neg n152], rfl⟩
      · skip
        have n152 : 100 ≤ ww ∧ ww ≤ 104 := Decidable.byContradiction (fun z => by rw [if_neg z] at h152; omega)
        refine ev_aload_n de_Mo_house_155 rfl rfl ?_
        refine ev_getfield de_Mo_house_156 rfl fl_Mo_39 rfl ?_
        refine ev_bipush de_Mo_house_159 rfl ?_
        refine ev_iconst de_Mo_house_161 ?_
        refine ev_iload_n de_Mo_house_162 rfl rfl ?_
        refine ev_imul de_Mo_house_163 ?_
        refine ev_iadd de_Mo_house_164 ?_
        refine ev_iload_n de_Mo_house_165 rfl rfl ?_
        refine ev_iadd de_Mo_house_166 ?_
        refine ev_bipush de_Mo_house_167 rfl ?_
        refine ev_isub de_Mo_house_169 ?_
        refine ev_iaload de_Mo_house_170 rfl (by omega) (by omega) (by omega) ?_
        refine ev_goto (tgt := 177) de_Mo_house_171 (by decide) ?_
        exact ev_ireturn de_Mo_house_177 rfl ⟨by unfold sp_house; rw [if_pos n5, if_neg (by omega), if_neg (by omega), if_neg (by omega), if_neg (by omega), if_neg (by omega), if_neg (by omega), if_neg (by omega)]; first | rw [if_pos n152] | rw [if_neg n152], rfl⟩
    · subst c
      refine ev_tableIn (off := 43) (tgt := 56) de_Mo_house_13 (by decide) (by decide) (by decide) rfl (by decide) ?_
      refine ev_aload_n de_Mo_house_56 rfl rfl ?_
      refine ev_getfield de_Mo_house_57 rfl fl_Mo_39 rfl ?_
      refine ev_bipush de_Mo_house_60 rfl ?_
      refine ev_iload_n de_Mo_house_62 rfl rfl ?_
      refine ev_iadd de_Mo_house_63 ?_
      refine ev_iaload de_Mo_house_64 rfl (by omega) (by omega) (by omega) ?_
      exact ev_ireturn de_Mo_house_65 rfl ⟨by unfold sp_house; rw [if_pos (by omega)]; rfl, rfl⟩
    · subst c
      refine ev_tableIn (off := 53) (tgt := 66) de_Mo_house_13 (by decide) (by decide) (by decide) rfl (by decide) ?_
      refine ev_aload_n de_Mo_house_66 rfl rfl ?_
      refine ev_getfield de_Mo_house_67 rfl fl_Mo_39 rfl ?_
      refine ev_bipush de_Mo_house_70 rfl ?_
      refine ev_iload_n de_Mo_house_72 rfl rfl ?_
      refine ev_iadd de_Mo_house_73 ?_
      refine ev_iaload de_Mo_house_74 rfl (by omega) (by omega) (by omega) ?_
      exact ev_ireturn de_Mo_house_75 rfl ⟨by unfold sp_house; rw [if_pos (by omega)]; rfl, rfl⟩
    · subst c
      refine ev_tableIn (off := 63) (tgt := 76) de_Mo_house_13 (by decide) (by decide) (by decide) rfl (by decide) ?_
      refine ev_aload_n de_Mo_house_76 rfl rfl ?_
      refine ev_iload_n de_Mo_house_77 rfl rfl ?_
      refine ev_vv (ci := 11) de_Mo_house_78 (co_Mo_facesOf hI h0 (by omega) (by omega)) kb_Mo_300 ⟨im_Mo_facesOf, se_Mo_facesOf⟩ rfl rfl rfl (Nat.le_of_ble_eq_true rfl) (by decide) rfl ?_
      exact ev_ireturn de_Mo_house_81 rfl ⟨by unfold sp_house; rw [if_pos (by omega)]; rfl, rfl⟩
    · subst c
      refine ev_tableIn (off := 69) (tgt := 82) de_Mo_house_13 (by decide) (by decide) (by decide) rfl (by decide) ?_
      refine ev_aload_n de_Mo_house_82 rfl rfl ?_
      refine ev_aload_n de_Mo_house_83 rfl rfl ?_
      refine ev_iload_n de_Mo_house_84 rfl rfl ?_
      refine ev_vv (ci := 11) de_Mo_house_85 (co_Mo_facesOf hI h0 (by omega) (by omega)) kb_Mo_300 ⟨im_Mo_facesOf, se_Mo_facesOf⟩ rfl rfl rfl (Nat.le_of_ble_eq_true rfl) (by decide) rfl ?_
      refine ev_aload_n de_Mo_house_88 rfl rfl ?_
      refine ev_getfield de_Mo_house_89 rfl fl_Mo_39 rfl ?_
      refine ev_iconst de_Mo_house_92 ?_
      refine ev_iaload de_Mo_house_93 rfl (by omega) (by omega) (by omega) ?_
      refine ev_vv (ci := 11) de_Mo_house_94 (co_Mo_sortsAt hI _ _ (by omega) (by omega)) kb_Mo_290 ⟨im_Mo_sortsAt, se_Mo_sortsAt⟩ rfl rfl rfl (Nat.le_of_ble_eq_true rfl) (by decide) rfl ?_
      exact ev_ireturn de_Mo_house_97 rfl ⟨by unfold sp_house; rw [if_pos (by omega)]; rfl, rfl⟩
    · subst c
      refine ev_tableIn (off := 85) (tgt := 98) de_Mo_house_13 (by decide) (by decide) (by decide) rfl (by decide) ?_
      refine ev_aload_n de_Mo_house_98 rfl rfl ?_
      refine ev_iload_n de_Mo_house_99 rfl rfl ?_
      refine ev_vv (ci := 11) de_Mo_house_100 (co_Mo_likesOf hI h0 (by omega) (by omega)) kb_Mo_307 ⟨im_Mo_likesOf, se_Mo_likesOf⟩ rfl rfl rfl (Nat.le_of_ble_eq_true rfl) (by decide) rfl ?_
      exact ev_ireturn de_Mo_house_103 rfl ⟨by unfold sp_house; rw [if_pos (by omega)]; rfl, rfl⟩
    · subst c
      refine ev_tableIn (off := 91) (tgt := 104) de_Mo_house_13 (by decide) (by decide) (by decide) rfl (by decide) ?_
      refine ev_aload_n de_Mo_house_104 rfl rfl ?_
      refine ev_getfield de_Mo_house_105 rfl fl_Mo_39 rfl ?_
      refine ev_iconst de_Mo_house_108 ?_
      refine ev_iaload de_Mo_house_109 rfl (by omega) (by omega) (by omega) ?_
      refine ev_aload_n de_Mo_house_110 rfl rfl ?_
      refine ev_iload_n de_Mo_house_111 rfl rfl ?_
      refine ev_vv (ci := 11) de_Mo_house_112 (co_Mo_facesOf hI h0 (by omega) (by omega)) kb_Mo_300 ⟨im_Mo_facesOf, se_Mo_facesOf⟩ rfl rfl rfl (Nat.le_of_ble_eq_true rfl) (by decide) rfl ?_
      refine ev_sv de_Mo_house_115 (co_Mo_isOf _ _ _ (by omega) (by omega) (by omega) (by omega)) kb_Mo_294 sc_Mo_isOf rfl (Nat.le_of_ble_eq_true rfl) (by decide) rfl ?_
      have qb := bit_01 (said 3).toNat (sp_facesOf said h0).toNat
      refine ev_if_eq (tgt := 125) de_Mo_house_118 (by decide) (by omega) (fun h118 => ?_) (fun h118 => ?_)
      · skip
        refine ev_iconst de_Mo_house_125 ?_
        exact ev_ireturn de_Mo_house_126 rfl ⟨by unfold sp_house; rw [if_pos (by omega)]; show _ = some (ab_I (bit_at (said 3).toNat (sp_facesOf said h0).toNat)); congr 2; omega, rfl⟩
      · skip
        refine ev_iconst de_Mo_house_121 ?_
        refine ev_goto (tgt := 126) de_Mo_house_122 (by decide) ?_
        exact ev_ireturn de_Mo_house_126 rfl ⟨by unfold sp_house; rw [if_pos (by omega)]; show _ = some (ab_I (bit_at (said 3).toNat (sp_facesOf said h0).toNat)); congr 2; omega, rfl⟩
    · subst c
      refine ev_tableIn (off := 114) (tgt := 127) de_Mo_house_13 (by decide) (by decide) (by decide) rfl (by decide) ?_
      refine ev_aload_n de_Mo_house_127 rfl rfl ?_
      refine ev_iload_n de_Mo_house_128 rfl rfl ?_
      refine ev_vv (ci := 11) de_Mo_house_129 (co_Mo_wantsStay hI h0 (by omega) (by omega)) kb_Mo_313 ⟨im_Mo_wantsStay, se_Mo_wantsStay⟩ rfl rfl rfl (Nat.le_of_ble_eq_true rfl) (by decide) rfl ?_
      have qb : sp_wantsI said h0 = 0 ∨ sp_wantsI said h0 = 1 := by unfold sp_wantsI; split <;> simp
      refine ev_if_eq (tgt := 139) de_Mo_house_132 (by decide) (by omega) (fun h132 => ?_) (fun h132 => ?_)
      · skip
        refine ev_iconst de_Mo_house_139 ?_
        exact ev_ireturn de_Mo_house_140 rfl ⟨by unfold sp_house; rw [if_pos (by omega)]; show _ = some (ab_I (sp_wantsI said h0)); congr 2; omega, rfl⟩
      · skip
        refine ev_iconst de_Mo_house_135 ?_
        refine ev_goto (tgt := 140) de_Mo_house_136 (by decide) ?_
        exact ev_ireturn de_Mo_house_140 rfl ⟨by unfold sp_house; rw [if_pos (by omega)]; show _ = some (ab_I (sp_wantsI said h0)); congr 2; omega, rfl⟩
  · skip
    have n5 : ¬ (0 ≤ h0 ∧ h0 < said 1) := fun z => by rw [if_pos z] at h5; omega
    refine ev_sipush de_Mo_house_8 rfl ?_
    exact ev_ireturn de_Mo_house_11 rfl ⟨by unfold sp_house; rw [if_neg n5], rfl⟩
theorem de_Mo_direction_0 : decode prog_14_method_63_code 0 = .ok (.aload_n 0, 1) := by decide +kernel
theorem de_Mo_direction_1 : decode prog_14_method_63_code 1 = .ok (.invokevirtual 323, 3) := by decide +kernel
theorem de_Mo_direction_4 : decode prog_14_method_63_code 4 = .ok (.ifCond .eq 27, 3) := by decide +kernel
theorem de_Mo_direction_7 : decode prog_14_method_63_code 7 = .ok (.iload_n 1, 1) := by decide +kernel
theorem de_Mo_direction_8 : decode prog_14_method_63_code 8 = .ok (.i2l, 1) := by decide +kernel
theorem de_Mo_direction_9 : decode prog_14_method_63_code 9 = .ok (.lconst 0, 1) := by decide +kernel
theorem de_Mo_direction_10 : decode prog_14_method_63_code 10 = .ok (.ldc2_w 326, 3) := by decide +kernel
theorem de_Mo_direction_13 : decode prog_14_method_63_code 13 = .ok (.invokestatic 115, 3) := by decide +kernel
theorem de_Mo_direction_16 : decode prog_14_method_63_code 16 = .ok (.ifCond .eq 15, 3) := by decide +kernel
theorem de_Mo_direction_19 : decode prog_14_method_63_code 19 = .ok (.iload_n 2, 1) := by decide +kernel
theorem de_Mo_direction_20 : decode prog_14_method_63_code 20 = .ok (.i2l, 1) := by decide +kernel
theorem de_Mo_direction_21 : decode prog_14_method_63_code 21 = .ok (.lconst 0, 1) := by decide +kernel
theorem de_Mo_direction_22 : decode prog_14_method_63_code 22 = .ok (.ldc2_w 328, 3) := by decide +kernel
theorem de_Mo_direction_25 : decode prog_14_method_63_code 25 = .ok (.invokestatic 115, 3) := by decide +kernel
theorem de_Mo_direction_28 : decode prog_14_method_63_code 28 = .ok (.ifCond .ne 6, 3) := by decide +kernel
theorem de_Mo_direction_31 : decode prog_14_method_63_code 31 = .ok (.bipush (-2), 2) := by decide +kernel
theorem de_Mo_direction_33 : decode prog_14_method_63_code 33 = .ok (.ireturn, 1) := by decide +kernel
theorem de_Mo_direction_34 : decode prog_14_method_63_code 34 = .ok (.iload_n 2, 1) := by decide +kernel
theorem de_Mo_direction_35 : decode prog_14_method_63_code 35 = .ok (.iconst 1, 1) := by decide +kernel
theorem de_Mo_direction_36 : decode prog_14_method_63_code 36 = .ok (.if_icmp .ne 14, 3) := by decide +kernel
theorem de_Mo_direction_39 : decode prog_14_method_63_code 39 = .ok (.aload_n 0, 1) := by decide +kernel
theorem de_Mo_direction_40 : decode prog_14_method_63_code 40 = .ok (.getfield 39, 3) := by decide +kernel
theorem de_Mo_direction_43 : decode prog_14_method_63_code 43 = .ok (.iconst 3, 1) := by decide +kernel
theorem de_Mo_direction_44 : decode prog_14_method_63_code 44 = .ok (.iaload, 1) := by decide +kernel
theorem de_Mo_direction_45 : decode prog_14_method_63_code 45 = .ok (.iload_n 1, 1) := by decide +kernel
theorem de_Mo_direction_46 : decode prog_14_method_63_code 46 = .ok (.ishr, 1) := by decide +kernel
theorem de_Mo_direction_47 : decode prog_14_method_63_code 47 = .ok (.iconst 1, 1) := by decide +kernel
theorem de_Mo_direction_48 : decode prog_14_method_63_code 48 = .ok (.iand, 1) := by decide +kernel
theorem de_Mo_direction_49 : decode prog_14_method_63_code 49 = .ok (.ireturn, 1) := by decide +kernel
theorem de_Mo_direction_50 : decode prog_14_method_63_code 50 = .ok (.iload_n 2, 1) := by decide +kernel
theorem de_Mo_direction_51 : decode prog_14_method_63_code 51 = .ok (.iconst 2, 1) := by decide +kernel
theorem de_Mo_direction_52 : decode prog_14_method_63_code 52 = .ok (.if_icmp .ne 15, 3) := by decide +kernel
theorem de_Mo_direction_55 : decode prog_14_method_63_code 55 = .ok (.aload_n 0, 1) := by decide +kernel
theorem de_Mo_direction_56 : decode prog_14_method_63_code 56 = .ok (.iload_n 1, 1) := by decide +kernel
theorem de_Mo_direction_57 : decode prog_14_method_63_code 57 = .ok (.aload_n 0, 1) := by decide +kernel
theorem de_Mo_direction_58 : decode prog_14_method_63_code 58 = .ok (.getfield 39, 3) := by decide +kernel
theorem de_Mo_direction_61 : decode prog_14_method_63_code 61 = .ok (.iconst 5, 1) := by decide +kernel
theorem de_Mo_direction_62 : decode prog_14_method_63_code 62 = .ok (.iaload, 1) := by decide +kernel
theorem de_Mo_direction_63 : decode prog_14_method_63_code 63 = .ok (.invokevirtual 290, 3) := by decide +kernel
theorem de_Mo_direction_66 : decode prog_14_method_63_code 66 = .ok (.ireturn, 1) := by decide +kernel
theorem de_Mo_direction_67 : decode prog_14_method_63_code 67 = .ok (.iconst 0, 1) := by decide +kernel
theorem de_Mo_direction_68 : decode prog_14_method_63_code 68 = .ok (.istore_n 3, 1) := by decide +kernel
theorem de_Mo_direction_69 : decode prog_14_method_63_code 69 = .ok (.iload_n 3, 1) := by decide +kernel
theorem de_Mo_direction_70 : decode prog_14_method_63_code 70 = .ok (.aload_n 0, 1) := by decide +kernel
theorem de_Mo_direction_71 : decode prog_14_method_63_code 71 = .ok (.getfield 39, 3) := by decide +kernel
theorem de_Mo_direction_74 : decode prog_14_method_63_code 74 = .ok (.iconst 1, 1) := by decide +kernel
theorem de_Mo_direction_75 : decode prog_14_method_63_code 75 = .ok (.iaload, 1) := by decide +kernel
theorem de_Mo_direction_76 : decode prog_14_method_63_code 76 = .ok (.if_icmp .ge 20, 3) := by decide +kernel
theorem de_Mo_direction_79 : decode prog_14_method_63_code 79 = .ok (.aload_n 0, 1) := by decide +kernel
theorem de_Mo_direction_80 : decode prog_14_method_63_code 80 = .ok (.iload_n 3, 1) := by decide +kernel
theorem de_Mo_direction_81 : decode prog_14_method_63_code 81 = .ok (.invokevirtual 300, 3) := by decide +kernel
theorem de_Mo_direction_84 : decode prog_14_method_63_code 84 = .ok (.iload_n 1, 1) := by decide +kernel
theorem de_Mo_direction_85 : decode prog_14_method_63_code 85 = .ok (.if_icmp .ne 5, 3) := by decide +kernel
theorem de_Mo_direction_88 : decode prog_14_method_63_code 88 = .ok (.iload_n 3, 1) := by decide +kernel
theorem de_Mo_direction_89 : decode prog_14_method_63_code 89 = .ok (.ireturn, 1) := by decide +kernel
theorem de_Mo_direction_90 : decode prog_14_method_63_code 90 = .ok (.iinc 3 1, 3) := by decide +kernel
theorem de_Mo_direction_93 : decode prog_14_method_63_code 93 = .ok (.goto (-24), 3) := by decide +kernel
theorem de_Mo_direction_96 : decode prog_14_method_63_code 96 = .ok (.iconst (-1), 1) := by decide +kernel
theorem de_Mo_direction_97 : decode prog_14_method_63_code 97 = .ok (.ireturn, 1) := by decide +kernel
set_option maxRecDepth 10000 in
theorem lo_Mo_direction {B : Int} (hI : sg_ok B said) (dd ww : Int) (hd : ab_in dd) : ∀ (n : Nat) (k : Nat), k ≤ (said 1).toNat → (said 1).toNat < k + n → ab_Ev g_G g_rs mt_Mo_direction 2 0 0 69 [some (ab_R 0), some (ab_I dd), some (ab_I ww), some (ab_I (k : Int))] [] (mo_W tape taped rules sign leng clause clauses read next wrong number text made deep lines opn opened stack top word said xx was undone kept sumOf faced slotAt dayAt row bestRow tMany tMost drawX images imageX isMade) (ab_is (some (ab_I (sp_find said dd ((said 1).toNat - k) (k : Int)))) (mo_W tape taped rules sign leng clause clauses read next wrong number text made deep lines opn opened stack top word said xx was undone kept sumOf faced slotAt dayAt row bestRow tMany tMost drawX images imageX isMade)) := by
  intro n
  induction n with
  | zero =>
    intro k
    intro h1 h2; omega
  | succ n ih =>
    intro k
    intro h1 h2
    have hJ := hI; obtain ⟨i0, i1, i2, i3, i4, i5, i6, i7, i8, i9, i10, i11, i12, i13, i14, i15, i16, i17⟩ := sg_all hJ
    have qf := sp_facesOf_b said (k : Int)
    refine ev_iload_n de_Mo_direction_69 rfl rfl ?_
    refine ev_aload_n de_Mo_direction_70 rfl rfl ?_
    refine ev_getfield de_Mo_direction_71 rfl fl_Mo_39 rfl ?_
    refine ev_iconst de_Mo_direction_74 ?_
    refine ev_iaload de_Mo_direction_75 rfl (by omega) (by omega) (by omega) ?_
    refine ev_icmp_ge (tgt := 96) de_Mo_direction_76 (by decide) (by omega) (by omega) (fun h76 => ?_) (fun h76 => ?_)
    · skip
      refine ev_iconst de_Mo_direction_96 ?_
      exact ev_ireturn de_Mo_direction_97 rfl ⟨by rw [show (said 1).toNat - k = 0 by omega]; rfl, rfl⟩
    · skip
      refine ev_aload_n de_Mo_direction_79 rfl rfl ?_
      refine ev_iload_n de_Mo_direction_80 rfl rfl ?_
      refine ev_vv (ci := 11) de_Mo_direction_81 (co_Mo_facesOf hI _ (by omega) (by omega)) kb_Mo_300 ⟨im_Mo_facesOf, se_Mo_facesOf⟩ rfl rfl rfl (Nat.le_of_ble_eq_true rfl) (by decide) rfl ?_
      refine ev_iload_n de_Mo_direction_84 rfl rfl ?_
      refine ev_icmp_ne (tgt := 90) de_Mo_direction_85 (by decide) (by omega) (by omega) (fun h85 => ?_) (fun h85 => ?_)
      · skip
        refine ev_iinc (l' := [_, _, _, _]) de_Mo_direction_90 rfl rfl ?_
        refine ev_goto (tgt := 69) de_Mo_direction_93 (by decide) ?_
        have e : sp_find said dd ((said 1).toNat - k) (k : Int) = sp_find said dd ((said 1).toNat - (k + 1)) ((k + 1 : Nat) : Int) := by
          rw [show (said 1).toNat - k = ((said 1).toNat - (k + 1)) + 1 by omega]
          show (if _ then _ else _) = _
          rw [if_neg h85]; rfl
        rw [e]
        exact ih (k + 1) (by omega) (by omega)
      · skip
        refine ev_iload_n de_Mo_direction_88 rfl rfl ?_
        exact ev_ireturn de_Mo_direction_89 rfl ⟨by rw [show (said 1).toNat - k = ((said 1).toNat - (k + 1)) + 1 by omega]; show _ = some (ab_I (if _ then _ else _)); rw [if_pos h85], rfl⟩
set_option maxRecDepth 10000 in
theorem co_Mo_direction {B : Int} (hI : sg_ok B said) (dd ww : Int) (hd : ab_in dd) (hw : ab_in ww) : ab_Mt g_G g_rs mt_Mo_direction 2 0 0 [ab_R 0, ab_I dd, ab_I ww] (mo_W tape taped rules sign leng clause clauses read next wrong number text made deep lines opn opened stack top word said xx was undone kept sumOf faced slotAt dayAt row bestRow tMany tMost drawX images imageX isMade) (ab_is (some (ab_I (sp_direction said dd ww))) (mo_W tape taped rules sign leng clause clauses read next wrong number text made deep lines opn opened stack top word said xx was undone kept sumOf faced slotAt dayAt row bestRow tMany tMost drawX images imageX isMade)) := by
  refine ab_Mt.of rfl (Nat.le_of_ble_eq_true rfl) ?_
  show ab_Ev g_G g_rs mt_Mo_direction _ _ _ 0 [some (ab_R 0), some (ab_I dd), some (ab_I ww), none] [] _ _
  have hJ := hI; obtain ⟨i0, i1, i2, i3, i4, i5, i6, i7, i8, i9, i10, i11, i12, i13, i14, i15, i16, i17⟩ := sg_all hJ
  refine ev_aload_n de_Mo_direction_0 rfl rfl ?_
  refine ev_vv (ci := 11) de_Mo_direction_1 (co_Mo_isRing hI) kb_Mo_323 ⟨im_Mo_isRing, se_Mo_isRing⟩ rfl rfl rfl (Nat.le_of_ble_eq_true rfl) (by decide) rfl ?_
  refine ev_if_eq (tgt := 31) de_Mo_direction_4 (by decide) (by omega) (fun h4 => ?_) (fun h4 => ?_)
  · skip
    refine ev_bipush de_Mo_direction_31 rfl ?_
    exact ev_ireturn de_Mo_direction_33 rfl ⟨by unfold sp_direction; rw [if_neg (by omega)], rfl⟩
  · skip
    refine ev_iload_n de_Mo_direction_7 rfl rfl ?_
    refine ev_i2l de_Mo_direction_8 (by omega) ?_
    refine ev_lconsti (n := 0) de_Mo_direction_9 (by decide) ?_
    refine ev_ldc2i (n := 11) de_Mo_direction_10 cn_Mo_326 (by decide) ?_
    refine ev_sv de_Mo_direction_13 (co_Mo_in _ dd (0) (11) (by omega) (by decide) (by decide)) kb_Mo_115 sc_Mo_in rfl (Nat.le_of_ble_eq_true rfl) (by decide) rfl ?_
    refine ev_if_eq (tgt := 31) de_Mo_direction_16 (by decide) (by split <;> decide) (fun h16 => ?_) (fun h16 => ?_)
    · skip
      have n16 : ¬ (0 ≤ dd ∧ dd ≤ 11) := fun z => by rw [if_pos z] at h16; omega
      refine ev_bipush de_Mo_direction_31 rfl ?_
      exact ev_ireturn de_Mo_direction_33 rfl ⟨by unfold sp_direction; rw [if_neg (by omega)], rfl⟩
    · skip
      have n16 : 0 ≤ dd ∧ dd ≤ 11 := Decidable.byContradiction (fun z => by rw [if_neg z] at h16; omega)
      refine ev_iload_n de_Mo_direction_19 rfl rfl ?_
      refine ev_i2l de_Mo_direction_20 (by omega) ?_
      refine ev_lconsti (n := 0) de_Mo_direction_21 (by decide) ?_
      refine ev_ldc2i (n := 2) de_Mo_direction_22 cn_Mo_328 (by decide) ?_
      refine ev_sv de_Mo_direction_25 (co_Mo_in _ ww (0) (2) (by omega) (by decide) (by decide)) kb_Mo_115 sc_Mo_in rfl (Nat.le_of_ble_eq_true rfl) (by decide) rfl ?_
      refine ev_if_ne (tgt := 34) de_Mo_direction_28 (by decide) (by split <;> decide) (fun h28 => ?_) (fun h28 => ?_)
      · skip
        have n28 : 0 ≤ ww ∧ ww ≤ 2 := Decidable.byContradiction (fun z => by rw [if_neg z] at h28; omega)
        refine ev_iload_n de_Mo_direction_34 rfl rfl ?_
        refine ev_iconst de_Mo_direction_35 ?_
        refine ev_icmp_ne (tgt := 50) de_Mo_direction_36 (by decide) (by omega) (by omega) (fun h36 => ?_) (fun h36 => ?_)
        · skip
          refine ev_iload_n de_Mo_direction_50 rfl rfl ?_
          refine ev_iconst de_Mo_direction_51 ?_
          refine ev_icmp_ne (tgt := 67) de_Mo_direction_52 (by decide) (by omega) (by omega) (fun h52 => ?_) (fun h52 => ?_)
          · skip
            refine ev_iconst de_Mo_direction_67 ?_
            refine ev_istore_n (l' := [_, _, _, _]) de_Mo_direction_68 rfl (Nat.le_of_ble_eq_true rfl) rfl ?_
            have e : sp_direction said dd ww = sp_find said dd ((said 1).toNat - 0) ((0 : Nat) : Int) := by unfold sp_direction; rw [if_pos (by omega), if_neg h36, if_neg h52]; rfl
            rw [e]
            exact lo_Mo_direction hI dd ww hd ((said 1).toNat + 1) 0 (by omega) (by omega)
          · skip
            refine ev_aload_n de_Mo_direction_55 rfl rfl ?_
            refine ev_iload_n de_Mo_direction_56 rfl rfl ?_
            refine ev_aload_n de_Mo_direction_57 rfl rfl ?_
            refine ev_getfield de_Mo_direction_58 rfl fl_Mo_39 rfl ?_
            refine ev_iconst de_Mo_direction_61 ?_
            refine ev_iaload de_Mo_direction_62 rfl (by omega) (by omega) (by omega) ?_
            refine ev_vv (ci := 11) de_Mo_direction_63 (co_Mo_sortsAt hI _ _ (by omega) (by omega)) kb_Mo_290 ⟨im_Mo_sortsAt, se_Mo_sortsAt⟩ rfl rfl rfl (Nat.le_of_ble_eq_true rfl) (by decide) rfl ?_
            exact ev_ireturn de_Mo_direction_66 rfl ⟨by unfold sp_direction; rw [if_pos (by omega), if_neg h36, if_pos h52], rfl⟩
        · skip
          refine ev_aload_n de_Mo_direction_39 rfl rfl ?_
          refine ev_getfield de_Mo_direction_40 rfl fl_Mo_39 rfl ?_
          refine ev_iconst de_Mo_direction_43 ?_
          refine ev_iaload de_Mo_direction_44 rfl (by omega) (by omega) (by omega) ?_
          refine ev_iload_n de_Mo_direction_45 rfl rfl ?_
          refine ev_ishr de_Mo_direction_46 (by omega) (by omega) (by omega) ?_
          refine ev_iconst de_Mo_direction_47 ?_
          refine ev_iand de_Mo_direction_48 ?_
          refine ev_top (congrArg Sum.inl (ab_bit (by omega) (by omega))) ?_
          exact ev_ireturn de_Mo_direction_49 rfl ⟨by unfold sp_direction; rw [if_pos (by omega), if_pos h36], rfl⟩
      · skip
        have n28 : ¬ (0 ≤ ww ∧ ww ≤ 2) := fun z => by rw [if_pos z] at h28; omega
        refine ev_bipush de_Mo_direction_31 rfl ?_
        exact ev_ireturn de_Mo_direction_33 rfl ⟨by unfold sp_direction; rw [if_neg (by omega)], rfl⟩
theorem de_Mo_rateOf_0 : decode prog_14_method_64_code 0 = .ok (.aload_n 0, 1) := by decide +kernel
theorem de_Mo_rateOf_1 : decode prog_14_method_64_code 1 = .ok (.invokevirtual 323, 3) := by decide +kernel
theorem de_Mo_rateOf_4 : decode prog_14_method_64_code 4 = .ok (.ifCond .eq 27, 3) := by decide +kernel
theorem de_Mo_rateOf_7 : decode prog_14_method_64_code 7 = .ok (.iload_n 1, 1) := by decide +kernel
theorem de_Mo_rateOf_8 : decode prog_14_method_64_code 8 = .ok (.i2l, 1) := by decide +kernel
theorem de_Mo_rateOf_9 : decode prog_14_method_64_code 9 = .ok (.lconst 0, 1) := by decide +kernel
theorem de_Mo_rateOf_10 : decode prog_14_method_64_code 10 = .ok (.ldc2_w 330, 3) := by decide +kernel
theorem de_Mo_rateOf_13 : decode prog_14_method_64_code 13 = .ok (.invokestatic 115, 3) := by decide +kernel
theorem de_Mo_rateOf_16 : decode prog_14_method_64_code 16 = .ok (.ifCond .eq 15, 3) := by decide +kernel
theorem de_Mo_rateOf_19 : decode prog_14_method_64_code 19 = .ok (.aload_n 0, 1) := by decide +kernel
theorem de_Mo_rateOf_20 : decode prog_14_method_64_code 20 = .ok (.getfield 39, 3) := by decide +kernel
theorem de_Mo_rateOf_23 : decode prog_14_method_64_code 23 = .ok (.bipush 10, 2) := by decide +kernel
theorem de_Mo_rateOf_25 : decode prog_14_method_64_code 25 = .ok (.iload_n 1, 1) := by decide +kernel
theorem de_Mo_rateOf_26 : decode prog_14_method_64_code 26 = .ok (.iadd, 1) := by decide +kernel
theorem de_Mo_rateOf_27 : decode prog_14_method_64_code 27 = .ok (.iaload, 1) := by decide +kernel
theorem de_Mo_rateOf_28 : decode prog_14_method_64_code 28 = .ok (.goto 6, 3) := by decide +kernel
theorem de_Mo_rateOf_31 : decode prog_14_method_64_code 31 = .ok (.sipush (-1000), 3) := by decide +kernel
theorem de_Mo_rateOf_34 : decode prog_14_method_64_code 34 = .ok (.ireturn, 1) := by decide +kernel
set_option maxRecDepth 10000 in
theorem co_Mo_rateOf {B : Int} (hI : sg_ok B said) (h0 : Int) (hh : ab_in h0) : ab_Mt g_G g_rs mt_Mo_rateOf 1 0 0 [ab_R 0, ab_I h0] (mo_W tape taped rules sign leng clause clauses read next wrong number text made deep lines opn opened stack top word said xx was undone kept sumOf faced slotAt dayAt row bestRow tMany tMost drawX images imageX isMade) (ab_is (some (ab_I (sp_rateOf said h0))) (mo_W tape taped rules sign leng clause clauses read next wrong number text made deep lines opn opened stack top word said xx was undone kept sumOf faced slotAt dayAt row bestRow tMany tMost drawX images imageX isMade)) := by
  refine ab_Mt.of rfl (Nat.le_of_ble_eq_true rfl) ?_
  show ab_Ev g_G g_rs mt_Mo_rateOf _ _ _ 0 [some (ab_R 0), some (ab_I h0)] [] _ _
  have hJ := hI; obtain ⟨i0, i1, i2, i3, i4, i5, i6, i7, i8, i9, i10, i11, i12, i13, i14, i15, i16, i17⟩ := sg_all hJ
  refine ev_aload_n de_Mo_rateOf_0 rfl rfl ?_
  refine ev_vv (ci := 11) de_Mo_rateOf_1 (co_Mo_isRing hI) kb_Mo_323 ⟨im_Mo_isRing, se_Mo_isRing⟩ rfl rfl rfl (Nat.le_of_ble_eq_true rfl) (by decide) rfl ?_
  refine ev_if_eq (tgt := 31) de_Mo_rateOf_4 (by decide) (by omega) (fun h4 => ?_) (fun h4 => ?_)
  · skip
    refine ev_sipush de_Mo_rateOf_31 rfl ?_
    exact ev_ireturn de_Mo_rateOf_34 rfl ⟨by unfold sp_rateOf; first | rw [if_pos (by omega)] | rw [if_neg (by omega)], rfl⟩
  · skip
    refine ev_iload_n de_Mo_rateOf_7 rfl rfl ?_
    refine ev_i2l de_Mo_rateOf_8 (by omega) ?_
    refine ev_lconsti (n := 0) de_Mo_rateOf_9 (by decide) ?_
    refine ev_ldc2i (n := 23) de_Mo_rateOf_10 cn_Mo_330 (by decide) ?_
    refine ev_sv de_Mo_rateOf_13 (co_Mo_in _ h0 (0) (23) (by omega) (by decide) (by decide)) kb_Mo_115 sc_Mo_in rfl (Nat.le_of_ble_eq_true rfl) (by decide) rfl ?_
    refine ev_if_eq (tgt := 31) de_Mo_rateOf_16 (by decide) (by split <;> decide) (fun h16 => ?_) (fun h16 => ?_)
    · skip
      have n16 : ¬ (0 ≤ h0 ∧ h0 ≤ 23) := fun z => by rw [if_pos z] at h16; omega
      refine ev_sipush de_Mo_rateOf_31 rfl ?_
      exact ev_ireturn de_Mo_rateOf_34 rfl ⟨by unfold sp_rateOf; first | rw [if_pos (by omega)] | rw [if_neg (by omega)], rfl⟩
    · skip
      have n16 : 0 ≤ h0 ∧ h0 ≤ 23 := Decidable.byContradiction (fun z => by rw [if_neg z] at h16; omega)
      refine ev_aload_n de_Mo_rateOf_19 rfl rfl ?_
      refine ev_getfield de_Mo_rateOf_20 rfl fl_Mo_39 rfl ?_
      refine ev_bipush de_Mo_rateOf_23 rfl ?_
      refine ev_iload_n de_Mo_rateOf_25 rfl rfl ?_
      refine ev_iadd de_Mo_rateOf_26 ?_
      refine ev_iaload de_Mo_rateOf_27 rfl (by omega) (by omega) (by omega) ?_
      refine ev_goto (tgt := 34) de_Mo_rateOf_28 (by decide) ?_
      exact ev_ireturn de_Mo_rateOf_34 rfl ⟨by unfold sp_rateOf; first | rw [if_pos (by omega)] | rw [if_neg (by omega)], rfl⟩
theorem de_Mo_worn_0 : decode prog_14_method_65_code 0 = .ok (.aload_n 0, 1) := by decide +kernel
theorem de_Mo_worn_1 : decode prog_14_method_65_code 1 = .ok (.invokevirtual 323, 3) := by decide +kernel
theorem de_Mo_worn_4 : decode prog_14_method_65_code 4 = .ok (.ifCond .eq 27, 3) := by decide +kernel
theorem de_Mo_worn_7 : decode prog_14_method_65_code 7 = .ok (.iload_n 1, 1) := by decide +kernel
theorem de_Mo_worn_8 : decode prog_14_method_65_code 8 = .ok (.i2l, 1) := by decide +kernel
theorem de_Mo_worn_9 : decode prog_14_method_65_code 9 = .ok (.lconst 0, 1) := by decide +kernel
theorem de_Mo_worn_10 : decode prog_14_method_65_code 10 = .ok (.ldc2_w 326, 3) := by decide +kernel
theorem de_Mo_worn_13 : decode prog_14_method_65_code 13 = .ok (.invokestatic 115, 3) := by decide +kernel
theorem de_Mo_worn_16 : decode prog_14_method_65_code 16 = .ok (.ifCond .eq 15, 3) := by decide +kernel
theorem de_Mo_worn_19 : decode prog_14_method_65_code 19 = .ok (.aload_n 0, 1) := by decide +kernel
theorem de_Mo_worn_20 : decode prog_14_method_65_code 20 = .ok (.getfield 39, 3) := by decide +kernel
theorem de_Mo_worn_23 : decode prog_14_method_65_code 23 = .ok (.bipush 34, 2) := by decide +kernel
theorem de_Mo_worn_25 : decode prog_14_method_65_code 25 = .ok (.iload_n 1, 1) := by decide +kernel
theorem de_Mo_worn_26 : decode prog_14_method_65_code 26 = .ok (.iadd, 1) := by decide +kernel
theorem de_Mo_worn_27 : decode prog_14_method_65_code 27 = .ok (.iaload, 1) := by decide +kernel
theorem de_Mo_worn_28 : decode prog_14_method_65_code 28 = .ok (.goto 4, 3) := by decide +kernel
theorem de_Mo_worn_31 : decode prog_14_method_65_code 31 = .ok (.iconst (-1), 1) := by decide +kernel
theorem de_Mo_worn_32 : decode prog_14_method_65_code 32 = .ok (.ireturn, 1) := by decide +kernel
set_option maxRecDepth 10000 in
theorem co_Mo_worn {B : Int} (hI : sg_ok B said) (h0 : Int) (hh : ab_in h0) : ab_Mt g_G g_rs mt_Mo_worn 1 0 0 [ab_R 0, ab_I h0] (mo_W tape taped rules sign leng clause clauses read next wrong number text made deep lines opn opened stack top word said xx was undone kept sumOf faced slotAt dayAt row bestRow tMany tMost drawX images imageX isMade) (ab_is (some (ab_I (sp_worn said h0))) (mo_W tape taped rules sign leng clause clauses read next wrong number text made deep lines opn opened stack top word said xx was undone kept sumOf faced slotAt dayAt row bestRow tMany tMost drawX images imageX isMade)) := by
  refine ab_Mt.of rfl (Nat.le_of_ble_eq_true rfl) ?_
  show ab_Ev g_G g_rs mt_Mo_worn _ _ _ 0 [some (ab_R 0), some (ab_I h0)] [] _ _
  have hJ := hI; obtain ⟨i0, i1, i2, i3, i4, i5, i6, i7, i8, i9, i10, i11, i12, i13, i14, i15, i16, i17⟩ := sg_all hJ
  refine ev_aload_n de_Mo_worn_0 rfl rfl ?_
  refine ev_vv (ci := 11) de_Mo_worn_1 (co_Mo_isRing hI) kb_Mo_323 ⟨im_Mo_isRing, se_Mo_isRing⟩ rfl rfl rfl (Nat.le_of_ble_eq_true rfl) (by decide) rfl ?_
  refine ev_if_eq (tgt := 31) de_Mo_worn_4 (by decide) (by omega) (fun h4 => ?_) (fun h4 => ?_)
  · skip
    refine ev_iconst de_Mo_worn_31 ?_
    exact ev_ireturn de_Mo_worn_32 rfl ⟨by unfold sp_worn; first | rw [if_pos (by omega)] | rw [if_neg (by omega)], rfl⟩
  · skip
    refine ev_iload_n de_Mo_worn_7 rfl rfl ?_
    refine ev_i2l de_Mo_worn_8 (by omega) ?_
    refine ev_lconsti (n := 0) de_Mo_worn_9 (by decide) ?_
    refine ev_ldc2i (n := 11) de_Mo_worn_10 cn_Mo_326 (by decide) ?_
    refine ev_sv de_Mo_worn_13 (co_Mo_in _ h0 (0) (11) (by omega) (by decide) (by decide)) kb_Mo_115 sc_Mo_in rfl (Nat.le_of_ble_eq_true rfl) (by decide) rfl ?_
    refine ev_if_eq (tgt := 31) de_Mo_worn_16 (by decide) (by split <;> decide) (fun h16 => ?_) (fun h16 => ?_)
    · skip
      have n16 : ¬ (0 ≤ h0 ∧ h0 ≤ 11) := fun z => by rw [if_pos z] at h16; omega
      refine ev_iconst de_Mo_worn_31 ?_
      exact ev_ireturn de_Mo_worn_32 rfl ⟨by unfold sp_worn; first | rw [if_pos (by omega)] | rw [if_neg (by omega)], rfl⟩
    · skip
      have n16 : 0 ≤ h0 ∧ h0 ≤ 11 := Decidable.byContradiction (fun z => by rw [if_neg z] at h16; omega)
      refine ev_aload_n de_Mo_worn_19 rfl rfl ?_
      refine ev_getfield de_Mo_worn_20 rfl fl_Mo_39 rfl ?_
      refine ev_bipush de_Mo_worn_23 rfl ?_
      refine ev_iload_n de_Mo_worn_25 rfl rfl ?_
      refine ev_iadd de_Mo_worn_26 ?_
      refine ev_iaload de_Mo_worn_27 rfl (by omega) (by omega) (by omega) ?_
      refine ev_goto (tgt := 32) de_Mo_worn_28 (by decide) ?_
      exact ev_ireturn de_Mo_worn_32 rfl ⟨by unfold sp_worn; first | rw [if_pos (by omega)] | rw [if_neg (by omega)], rfl⟩
end MO
