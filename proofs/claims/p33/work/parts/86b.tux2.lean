theorem bit_at_01 (n k : Nat) : bit_at n k = 0 ∨ bit_at n k = 1 := by unfold bit_at; split <;> omega
theorem de_Tu_house_0 : decode prog_1_method_6_code 0 = .ok (.aload_n 0, 1) := by decide +kernel
theorem de_Tu_house_1 : decode prog_1_method_6_code 1 = .ok (.iload_n 1, 1) := by decide +kernel
theorem de_Tu_house_2 : decode prog_1_method_6_code 2 = .ok (.invokevirtual 118, 3) := by decide +kernel
theorem de_Tu_house_5 : decode prog_1_method_6_code 5 = .ok (.ifCond .ne 7, 3) := by decide +kernel
theorem de_Tu_house_8 : decode prog_1_method_6_code 8 = .ok (.sipush (-1000), 3) := by decide +kernel
theorem de_Tu_house_11 : decode prog_1_method_6_code 11 = .ok (.ireturn, 1) := by decide +kernel
theorem de_Tu_house_12 : decode prog_1_method_6_code 12 = .ok (.iload_n 2, 1) := by decide +kernel
theorem de_Tu_house_13 : decode prog_1_method_6_code 13 = .ok (.bipush 100, 2) := by decide +kernel
theorem de_Tu_house_15 : decode prog_1_method_6_code 15 = .ok (.if_icmp .lt 26, 3) := by decide +kernel
theorem de_Tu_house_18 : decode prog_1_method_6_code 18 = .ok (.iload_n 2, 1) := by decide +kernel
theorem de_Tu_house_19 : decode prog_1_method_6_code 19 = .ok (.bipush 105, 2) := by decide +kernel
theorem de_Tu_house_21 : decode prog_1_method_6_code 21 = .ok (.if_icmp .ge 20, 3) := by decide +kernel
theorem de_Tu_house_24 : decode prog_1_method_6_code 24 = .ok (.aload_n 0, 1) := by decide +kernel
theorem de_Tu_house_25 : decode prog_1_method_6_code 25 = .ok (.getfield 19, 3) := by decide +kernel
theorem de_Tu_house_28 : decode prog_1_method_6_code 28 = .ok (.getfield 122, 3) := by decide +kernel
theorem de_Tu_house_31 : decode prog_1_method_6_code 31 = .ok (.iload_n 1, 1) := by decide +kernel
theorem de_Tu_house_32 : decode prog_1_method_6_code 32 = .ok (.iconst 5, 1) := by decide +kernel
theorem de_Tu_house_33 : decode prog_1_method_6_code 33 = .ok (.imul, 1) := by decide +kernel
theorem de_Tu_house_34 : decode prog_1_method_6_code 34 = .ok (.iload_n 2, 1) := by decide +kernel
theorem de_Tu_house_35 : decode prog_1_method_6_code 35 = .ok (.iadd, 1) := by decide +kernel
theorem de_Tu_house_36 : decode prog_1_method_6_code 36 = .ok (.bipush 100, 2) := by decide +kernel
theorem de_Tu_house_38 : decode prog_1_method_6_code 38 = .ok (.isub, 1) := by decide +kernel
theorem de_Tu_house_39 : decode prog_1_method_6_code 39 = .ok (.iaload, 1) := by decide +kernel
theorem de_Tu_house_40 : decode prog_1_method_6_code 40 = .ok (.ireturn, 1) := by decide +kernel
theorem de_Tu_house_41 : decode prog_1_method_6_code 41 = .ok (.iload_n 2, 1) := by decide +kernel
theorem de_Tu_house_42 : decode prog_1_method_6_code 42 = .ok (.tableswitch 144 0 6 #[42, 52, 62, 71, 94, 103, 127], 42) := by decide +kernel
theorem de_Tu_house_84 : decode prog_1_method_6_code 84 = .ok (.aload_n 0, 1) := by decide +kernel
theorem de_Tu_house_85 : decode prog_1_method_6_code 85 = .ok (.getfield 19, 3) := by decide +kernel
theorem de_Tu_house_88 : decode prog_1_method_6_code 88 = .ok (.getfield 126, 3) := by decide +kernel
theorem de_Tu_house_91 : decode prog_1_method_6_code 91 = .ok (.iload_n 1, 1) := by decide +kernel
theorem de_Tu_house_92 : decode prog_1_method_6_code 92 = .ok (.iaload, 1) := by decide +kernel
theorem de_Tu_house_93 : decode prog_1_method_6_code 93 = .ok (.ireturn, 1) := by decide +kernel
theorem de_Tu_house_94 : decode prog_1_method_6_code 94 = .ok (.aload_n 0, 1) := by decide +kernel
theorem de_Tu_house_95 : decode prog_1_method_6_code 95 = .ok (.getfield 19, 3) := by decide +kernel
theorem de_Tu_house_98 : decode prog_1_method_6_code 98 = .ok (.getfield 129, 3) := by decide +kernel
theorem de_Tu_house_101 : decode prog_1_method_6_code 101 = .ok (.iload_n 1, 1) := by decide +kernel
theorem de_Tu_house_102 : decode prog_1_method_6_code 102 = .ok (.iaload, 1) := by decide +kernel
theorem de_Tu_house_103 : decode prog_1_method_6_code 103 = .ok (.ireturn, 1) := by decide +kernel
theorem de_Tu_house_104 : decode prog_1_method_6_code 104 = .ok (.aload_n 0, 1) := by decide +kernel
theorem de_Tu_house_105 : decode prog_1_method_6_code 105 = .ok (.getfield 19, 3) := by decide +kernel
theorem de_Tu_house_108 : decode prog_1_method_6_code 108 = .ok (.iload_n 1, 1) := by decide +kernel
theorem de_Tu_house_109 : decode prog_1_method_6_code 109 = .ok (.invokevirtual 132, 3) := by decide +kernel
theorem de_Tu_house_112 : decode prog_1_method_6_code 112 = .ok (.ireturn, 1) := by decide +kernel
theorem de_Tu_house_113 : decode prog_1_method_6_code 113 = .ok (.aload_n 0, 1) := by decide +kernel
theorem de_Tu_house_114 : decode prog_1_method_6_code 114 = .ok (.getfield 19, 3) := by decide +kernel
theorem de_Tu_house_117 : decode prog_1_method_6_code 117 = .ok (.aload_n 0, 1) := by decide +kernel
theorem de_Tu_house_118 : decode prog_1_method_6_code 118 = .ok (.getfield 19, 3) := by decide +kernel
theorem de_Tu_house_121 : decode prog_1_method_6_code 121 = .ok (.iload_n 1, 1) := by decide +kernel
theorem de_Tu_house_122 : decode prog_1_method_6_code 122 = .ok (.invokevirtual 132, 3) := by decide +kernel
theorem de_Tu_house_125 : decode prog_1_method_6_code 125 = .ok (.aload_n 0, 1) := by decide +kernel
theorem de_Tu_house_126 : decode prog_1_method_6_code 126 = .ok (.getfield 19, 3) := by decide +kernel
theorem de_Tu_house_129 : decode prog_1_method_6_code 129 = .ok (.getfield 136, 3) := by decide +kernel
theorem de_Tu_house_132 : decode prog_1_method_6_code 132 = .ok (.invokevirtual 139, 3) := by decide +kernel
theorem de_Tu_house_135 : decode prog_1_method_6_code 135 = .ok (.ireturn, 1) := by decide +kernel
theorem de_Tu_house_136 : decode prog_1_method_6_code 136 = .ok (.aload_n 0, 1) := by decide +kernel
theorem de_Tu_house_137 : decode prog_1_method_6_code 137 = .ok (.getfield 19, 3) := by decide +kernel
theorem de_Tu_house_140 : decode prog_1_method_6_code 140 = .ok (.iload_n 1, 1) := by decide +kernel
theorem de_Tu_house_141 : decode prog_1_method_6_code 141 = .ok (.invokevirtual 143, 3) := by decide +kernel
theorem de_Tu_house_144 : decode prog_1_method_6_code 144 = .ok (.ireturn, 1) := by decide +kernel
theorem de_Tu_house_145 : decode prog_1_method_6_code 145 = .ok (.aload_n 0, 1) := by decide +kernel
theorem de_Tu_house_146 : decode prog_1_method_6_code 146 = .ok (.getfield 19, 3) := by decide +kernel
theorem de_Tu_house_149 : decode prog_1_method_6_code 149 = .ok (.aload_n 0, 1) := by decide +kernel
theorem de_Tu_house_150 : decode prog_1_method_6_code 150 = .ok (.getfield 19, 3) := by decide +kernel
theorem de_Tu_house_153 : decode prog_1_method_6_code 153 = .ok (.iload_n 1, 1) := by decide +kernel
theorem de_Tu_house_154 : decode prog_1_method_6_code 154 = .ok (.invokevirtual 132, 3) := by decide +kernel
theorem de_Tu_house_157 : decode prog_1_method_6_code 157 = .ok (.invokevirtual 146, 3) := by decide +kernel
theorem de_Tu_house_160 : decode prog_1_method_6_code 160 = .ok (.ifCond .eq 7, 3) := by decide +kernel
theorem de_Tu_house_163 : decode prog_1_method_6_code 163 = .ok (.iconst 1, 1) := by decide +kernel
theorem de_Tu_house_164 : decode prog_1_method_6_code 164 = .ok (.goto 4, 3) := by decide +kernel
theorem de_Tu_house_167 : decode prog_1_method_6_code 167 = .ok (.iconst 0, 1) := by decide +kernel
theorem de_Tu_house_168 : decode prog_1_method_6_code 168 = .ok (.ireturn, 1) := by decide +kernel
theorem de_Tu_house_169 : decode prog_1_method_6_code 169 = .ok (.aload_n 0, 1) := by decide +kernel
theorem de_Tu_house_170 : decode prog_1_method_6_code 170 = .ok (.getfield 19, 3) := by decide +kernel
theorem de_Tu_house_173 : decode prog_1_method_6_code 173 = .ok (.iload_n 1, 1) := by decide +kernel
theorem de_Tu_house_174 : decode prog_1_method_6_code 174 = .ok (.invokevirtual 149, 3) := by decide +kernel
theorem de_Tu_house_177 : decode prog_1_method_6_code 177 = .ok (.ifCond .eq 7, 3) := by decide +kernel
theorem de_Tu_house_180 : decode prog_1_method_6_code 180 = .ok (.iconst 1, 1) := by decide +kernel
theorem de_Tu_house_181 : decode prog_1_method_6_code 181 = .ok (.goto 4, 3) := by decide +kernel
theorem de_Tu_house_184 : decode prog_1_method_6_code 184 = .ok (.iconst 0, 1) := by decide +kernel
theorem de_Tu_house_185 : decode prog_1_method_6_code 185 = .ok (.ireturn, 1) := by decide +kernel
theorem de_Tu_house_186 : decode prog_1_method_6_code 186 = .ok (.sipush (-1000), 3) := by decide +kernel
theorem de_Tu_house_189 : decode prog_1_method_6_code 189 = .ok (.ireturn, 1) := by decide +kernel
set_option maxHeartbeats 4000000 in
set_option maxRecDepth 10000 in
theorem co_Tu_house {a b : Nat} {rc : Int} {f : Int → Int} {x B : Int} {w : ab_W} (hI : sg_ok B f) (t0 : tu_at a b rc w) (hR : ri_at_j a f x w) (y1 : Int) (hy1 : ab_in y1) (y2 : Int) (hy2 : ab_in y2) : ab_Mt g_G g_rs mt_Tu_house 3 0 0 [ab_R 0, ab_I y1, ab_I y2] w (ab_is (some (ab_I (sp_house f y1 y2))) w) := by
  have ht0 := t0
  have hR0 := hR
  have hI0 := hI
  unfold tu_at at t0
  obtain ⟨sl, fs, vo, li, ra, wo, dh, da, hzz⟩ := hR
  obtain ⟨ds, dn, vw, q0, q1, q2, q3, q4, hzz⟩ := hzz
  obtain ⟨q5, q6, q7, q8, q9, q10, q11, q12, hzz⟩ := hzz
  obtain ⟨e1, e2, e3, e4, e5, e6, e7, e8, e9⟩ := hzz
  obtain ⟨i0, i1, i2, i3, i4, i5, i6, i7, hzz⟩ := sg_all hI
  obtain ⟨i8, i9, i10, i11, i12, i13, i14, i15, hzz⟩ := hzz
  obtain ⟨i16, i17⟩ := hzz
  refine ab_Mt.of rfl (Nat.le_of_ble_eq_true rfl) ?_
  show ab_Ev g_G g_rs mt_Tu_house _ _ _ 0 [some (ab_R 0), some (ab_I y1), some (ab_I y2)] [] _ _
  refine ev_aload_n de_Tu_house_0 rfl rfl ?_
  refine ev_iload_n de_Tu_house_1 rfl rfl ?_
  refine ev_vv (ci := 10) de_Tu_house_2 (co_Tu_hasHouse hI0 ht0 hR0 _ (by assumption)) kb_Tu_118 ⟨im_Tu_hasHouse, se_Tu_hasHouse⟩ rfl t0 rfl (Nat.le_of_ble_eq_true rfl) (by decide) rfl ?_
  refine ev_if_ne (tgt := 12) de_Tu_house_5 (by decide) (by first | omega | (split <;> decide)) (fun h5 => ?_) (fun h5 => ?_)
  · skip
    have hh1 : 0 ≤ y1 ∧ y1 < f 1 := by split at h5 <;> omega
    have z2 := e2 y1 (by omega) (by omega)
    have fb := sp_facesOf_b f y1
    have bt := bit_at_01 (f 3).toNat (sp_facesOf f y1).toNat
    have wt := sp_wantsI_01 f y1
    refine ev_iload_n de_Tu_house_12 rfl rfl ?_
    refine ev_bipush de_Tu_house_13 rfl ?_
    refine ev_icmp_lt (tgt := 41) de_Tu_house_15 (by decide) (by first | omega | assumption) (by first | omega | assumption) (fun h15 => ?_) (fun h15 => ?_)
    · skip
      refine ev_iload_n de_Tu_house_41 rfl rfl ?_
      rcases (by omega : y2 < 0 ∨ 6 < y2 ∨ y2 = 0 ∨ y2 = 1 ∨ y2 = 2 ∨ y2 = 3 ∨ y2 = 4 ∨ y2 = 5 ∨ y2 = 6) with c | c | c | c | c | c | c | c | c
      · refine ev_tableOut (tgt := 186) de_Tu_house_42 (by first | omega | assumption) (by omega) (by decide) ?_
        refine ev_sipush de_Tu_house_186 rfl ?_
        exact ev_ireturn de_Tu_house_189 rfl ⟨congrArg (fun z => some (ab_I z)) (by unfold sp_house; first | (rw [if_neg (fun z => by rw [if_pos z] at h5; omega)]) | (rw [if_pos hh1, if_neg (by omega), if_neg (by omega), if_neg (by omega), if_neg (by omega), if_neg (by omega), if_neg (by omega), if_neg (by omega), if_neg (by omega)])), rfl⟩
      · refine ev_tableOut (tgt := 186) de_Tu_house_42 (by first | omega | assumption) (by omega) (by decide) ?_
        refine ev_sipush de_Tu_house_186 rfl ?_
        exact ev_ireturn de_Tu_house_189 rfl ⟨congrArg (fun z => some (ab_I z)) (by unfold sp_house; first | (rw [if_neg (fun z => by rw [if_pos z] at h5; omega)]) | (rw [if_pos hh1, if_neg (by omega), if_neg (by omega), if_neg (by omega), if_neg (by omega), if_neg (by omega), if_neg (by omega), if_neg (by omega), if_neg (by omega)])), rfl⟩
      · subst c
        refine ev_tableIn (off := 42) (tgt := 84) de_Tu_house_42 (by decide) (by decide) (by decide) rfl (by decide) ?_
        refine ev_aload_n de_Tu_house_84 rfl rfl ?_
        refine ev_getfield de_Tu_house_85 t0 fl_Tu_19 rfl ?_
        refine ev_getfield de_Tu_house_88 q0 fl_Tu_126 rfl ?_
        refine ev_iload_n de_Tu_house_91 rfl rfl ?_
        refine ev_iaload de_Tu_house_92 q1 (by first | omega | assumption) (by first | omega | assumption) (by first | omega | assumption) ?_
        exact ev_ireturn de_Tu_house_93 rfl ⟨congrArg (fun z => some (ab_I z)) (by rw [z2.1]; unfold sp_house; rw [if_pos hh1, if_pos rfl]), rfl⟩
      · subst c
        refine ev_tableIn (off := 52) (tgt := 94) de_Tu_house_42 (by decide) (by decide) (by decide) rfl (by decide) ?_
        refine ev_aload_n de_Tu_house_94 rfl rfl ?_
        refine ev_getfield de_Tu_house_95 t0 fl_Tu_19 rfl ?_
        refine ev_getfield de_Tu_house_98 q0 fl_Tu_129 rfl ?_
        refine ev_iload_n de_Tu_house_101 rfl rfl ?_
        refine ev_iaload de_Tu_house_102 q3 (by first | omega | assumption) (by first | omega | assumption) (by first | omega | assumption) ?_
        exact ev_ireturn de_Tu_house_103 rfl ⟨congrArg (fun z => some (ab_I z)) (by rw [z2.2.2]; unfold sp_house; rw [if_pos hh1]; rfl), rfl⟩
      · subst c
        refine ev_tableIn (off := 62) (tgt := 104) de_Tu_house_42 (by decide) (by decide) (by decide) rfl (by decide) ?_
        refine ev_aload_n de_Tu_house_104 rfl rfl ?_
        refine ev_getfield de_Tu_house_105 t0 fl_Tu_19 rfl ?_
        refine ev_iload_n de_Tu_house_108 rfl rfl ?_
        refine ev_vv (ci := 5) de_Tu_house_109 (co_Ri_facing_j hI0 hR0 _ (by omega) (by omega)) kb_Tu_132 ⟨im_Ri_facing, se_Ri_facing⟩ rfl q0 rfl (Nat.le_of_ble_eq_true rfl) (by decide) rfl ?_
        exact ev_ireturn de_Tu_house_112 rfl ⟨congrArg (fun z => some (ab_I z)) (by unfold sp_house; rw [if_pos hh1]; rfl), rfl⟩
      · subst c
        refine ev_tableIn (off := 71) (tgt := 113) de_Tu_house_42 (by decide) (by decide) (by decide) rfl (by decide) ?_
        refine ev_aload_n de_Tu_house_113 rfl rfl ?_
        refine ev_getfield de_Tu_house_114 t0 fl_Tu_19 rfl ?_
        refine ev_aload_n de_Tu_house_117 rfl rfl ?_
        refine ev_getfield de_Tu_house_118 t0 fl_Tu_19 rfl ?_
        refine ev_iload_n de_Tu_house_121 rfl rfl ?_
        refine ev_vv (ci := 5) de_Tu_house_122 (co_Ri_facing_j hI0 hR0 _ (by omega) (by omega)) kb_Tu_132 ⟨im_Ri_facing, se_Ri_facing⟩ rfl q0 rfl (Nat.le_of_ble_eq_true rfl) (by decide) rfl ?_
        refine ev_aload_n de_Tu_house_125 rfl rfl ?_
        refine ev_getfield de_Tu_house_126 t0 fl_Tu_19 rfl ?_
        refine ev_getfield de_Tu_house_129 q0 fl_Tu_136 rfl ?_
        refine ev_vv (ci := 5) de_Tu_house_132 (co_Ri_sortsAt_j hI0 hR0 _ _ (by omega) (by omega) (by omega) (by omega)) kb_Tu_139 ⟨im_Ri_sortsAt, se_Ri_sortsAt⟩ rfl q0 rfl (Nat.le_of_ble_eq_true rfl) (by decide) rfl ?_
        exact ev_ireturn de_Tu_house_135 rfl ⟨congrArg (fun z => some (ab_I z)) (by unfold sp_house; rw [if_pos hh1]; rfl), rfl⟩
      · subst c
        refine ev_tableIn (off := 94) (tgt := 136) de_Tu_house_42 (by decide) (by decide) (by decide) rfl (by decide) ?_
        refine ev_aload_n de_Tu_house_136 rfl rfl ?_
        refine ev_getfield de_Tu_house_137 t0 fl_Tu_19 rfl ?_
        refine ev_iload_n de_Tu_house_140 rfl rfl ?_
        refine ev_vv (ci := 5) de_Tu_house_141 (co_Ri_likesNow_j hI0 hR0 _ (by omega) (by omega)) kb_Tu_143 ⟨im_Ri_likesNow, se_Ri_likesNow⟩ rfl q0 rfl (Nat.le_of_ble_eq_true rfl) (by decide) rfl ?_
        exact ev_ireturn de_Tu_house_144 rfl ⟨congrArg (fun z => some (ab_I z)) (by unfold sp_house; rw [if_pos hh1]; rfl), rfl⟩
      · subst c
        refine ev_tableIn (off := 103) (tgt := 145) de_Tu_house_42 (by decide) (by decide) (by decide) rfl (by decide) ?_
        refine ev_aload_n de_Tu_house_145 rfl rfl ?_
        refine ev_getfield de_Tu_house_146 t0 fl_Tu_19 rfl ?_
        refine ev_aload_n de_Tu_house_149 rfl rfl ?_
        refine ev_getfield de_Tu_house_150 t0 fl_Tu_19 rfl ?_
        refine ev_iload_n de_Tu_house_153 rfl rfl ?_
        refine ev_vv (ci := 5) de_Tu_house_154 (co_Ri_facing_j hI0 hR0 _ (by omega) (by omega)) kb_Tu_132 ⟨im_Ri_facing, se_Ri_facing⟩ rfl q0 rfl (Nat.le_of_ble_eq_true rfl) (by decide) rfl ?_
        refine ev_vv (ci := 5) de_Tu_house_157 (co_Ri_isGate_j hI0 hR0 _ (by omega) (by omega)) kb_Tu_146 ⟨im_Ri_isGate, se_Ri_isGate⟩ rfl q0 rfl (Nat.le_of_ble_eq_true rfl) (by decide) rfl ?_
        refine ev_if_eq (tgt := 167) de_Tu_house_160 (by decide) (by first | omega | assumption) (fun h160 => ?_) (fun h160 => ?_)
        · skip
          refine ev_iconst de_Tu_house_167 ?_
          exact ev_ireturn de_Tu_house_168 rfl ⟨congrArg (fun z => some (ab_I z)) (by unfold sp_house; rw [if_pos hh1]; show _ = bit_at (f 3).toNat (sp_facesOf f y1).toNat; omega), rfl⟩
        · skip
          refine ev_iconst de_Tu_house_163 ?_
          refine ev_goto (tgt := 168) de_Tu_house_164 (by decide) ?_
          exact ev_ireturn de_Tu_house_168 rfl ⟨congrArg (fun z => some (ab_I z)) (by unfold sp_house; rw [if_pos hh1]; show _ = bit_at (f 3).toNat (sp_facesOf f y1).toNat; omega), rfl⟩
      · subst c
        refine ev_tableIn (off := 127) (tgt := 169) de_Tu_house_42 (by decide) (by decide) (by decide) rfl (by decide) ?_
        refine ev_aload_n de_Tu_house_169 rfl rfl ?_
        refine ev_getfield de_Tu_house_170 t0 fl_Tu_19 rfl ?_
        refine ev_iload_n de_Tu_house_173 rfl rfl ?_
        refine ev_vv (ci := 5) de_Tu_house_174 (co_Ri_wantsStay_j hI0 hR0 _ (by omega) (by omega)) kb_Tu_149 ⟨im_Ri_wantsStay, se_Ri_wantsStay⟩ rfl q0 rfl (Nat.le_of_ble_eq_true rfl) (by decide) rfl ?_
        refine ev_if_eq (tgt := 184) de_Tu_house_177 (by decide) (by first | omega | assumption) (fun h177 => ?_) (fun h177 => ?_)
        · skip
          refine ev_iconst de_Tu_house_184 ?_
          exact ev_ireturn de_Tu_house_185 rfl ⟨congrArg (fun z => some (ab_I z)) (by unfold sp_house; rw [if_pos hh1]; show _ = sp_wantsI f y1; omega), rfl⟩
        · skip
          refine ev_iconst de_Tu_house_180 ?_
          refine ev_goto (tgt := 185) de_Tu_house_181 (by decide) ?_
          exact ev_ireturn de_Tu_house_185 rfl ⟨congrArg (fun z => some (ab_I z)) (by unfold sp_house; rw [if_pos hh1]; show _ = sp_wantsI f y1; omega), rfl⟩
    · skip
      refine ev_iload_n de_Tu_house_18 rfl rfl ?_
      refine ev_bipush de_Tu_house_19 rfl ?_
      refine ev_icmp_ge (tgt := 41) de_Tu_house_21 (by decide) (by first | omega | assumption) (by first | omega | assumption) (fun h21 => ?_) (fun h21 => ?_)
      · skip
        refine ev_iload_n de_Tu_house_41 rfl rfl ?_
        rcases (by omega : y2 < 0 ∨ 6 < y2 ∨ y2 = 0 ∨ y2 = 1 ∨ y2 = 2 ∨ y2 = 3 ∨ y2 = 4 ∨ y2 = 5 ∨ y2 = 6) with c | c | c | c | c | c | c | c | c
        · refine ev_tableOut (tgt := 186) de_Tu_house_42 (by first | omega | assumption) (by omega) (by decide) ?_
          refine ev_sipush de_Tu_house_186 rfl ?_
          exact ev_ireturn de_Tu_house_189 rfl ⟨congrArg (fun z => some (ab_I z)) (by unfold sp_house; first | (rw [if_neg (fun z => by rw [if_pos z] at h5; omega)]) | (rw [if_pos hh1, if_neg (by omega), if_neg (by omega), if_neg (by omega), if_neg (by omega), if_neg (by omega), if_neg (by omega), if_neg (by omega), if_neg (by omega)])), rfl⟩
        · refine ev_tableOut (tgt := 186) de_Tu_house_42 (by first | omega | assumption) (by omega) (by decide) ?_
          refine ev_sipush de_Tu_house_186 rfl ?_
          exact ev_ireturn de_Tu_house_189 rfl ⟨congrArg (fun z => some (ab_I z)) (by unfold sp_house; first | (rw [if_neg (fun z => by rw [if_pos z] at h5; omega)]) | (rw [if_pos hh1, if_neg (by omega), if_neg (by omega), if_neg (by omega), if_neg (by omega), if_neg (by omega), if_neg (by omega), if_neg (by omega), if_neg (by omega)])), rfl⟩
        · subst c
          refine ev_tableIn (off := 42) (tgt := 84) de_Tu_house_42 (by decide) (by decide) (by decide) rfl (by decide) ?_
          refine ev_aload_n de_Tu_house_84 rfl rfl ?_
          refine ev_getfield de_Tu_house_85 t0 fl_Tu_19 rfl ?_
          refine ev_getfield de_Tu_house_88 q0 fl_Tu_126 rfl ?_
          refine ev_iload_n de_Tu_house_91 rfl rfl ?_
          refine ev_iaload de_Tu_house_92 q1 (by first | omega | assumption) (by first | omega | assumption) (by first | omega | assumption) ?_
          exact ev_ireturn de_Tu_house_93 rfl ⟨congrArg (fun z => some (ab_I z)) (by rw [z2.1]; unfold sp_house; rw [if_pos hh1, if_pos rfl]), rfl⟩
        · subst c
          refine ev_tableIn (off := 52) (tgt := 94) de_Tu_house_42 (by decide) (by decide) (by decide) rfl (by decide) ?_
          refine ev_aload_n de_Tu_house_94 rfl rfl ?_
          refine ev_getfield de_Tu_house_95 t0 fl_Tu_19 rfl ?_
          refine ev_getfield de_Tu_house_98 q0 fl_Tu_129 rfl ?_
          refine ev_iload_n de_Tu_house_101 rfl rfl ?_
          refine ev_iaload de_Tu_house_102 q3 (by first | omega | assumption) (by first | omega | assumption) (by first | omega | assumption) ?_
          exact ev_ireturn de_Tu_house_103 rfl ⟨congrArg (fun z => some (ab_I z)) (by rw [z2.2.2]; unfold sp_house; rw [if_pos hh1]; rfl), rfl⟩
        · subst c
          refine ev_tableIn (off := 62) (tgt := 104) de_Tu_house_42 (by decide) (by decide) (by decide) rfl (by decide) ?_
          refine ev_aload_n de_Tu_house_104 rfl rfl ?_
          refine ev_getfield de_Tu_house_105 t0 fl_Tu_19 rfl ?_
          refine ev_iload_n de_Tu_house_108 rfl rfl ?_
          refine ev_vv (ci := 5) de_Tu_house_109 (co_Ri_facing_j hI0 hR0 _ (by omega) (by omega)) kb_Tu_132 ⟨im_Ri_facing, se_Ri_facing⟩ rfl q0 rfl (Nat.le_of_ble_eq_true rfl) (by decide) rfl ?_
          exact ev_ireturn de_Tu_house_112 rfl ⟨congrArg (fun z => some (ab_I z)) (by unfold sp_house; rw [if_pos hh1]; rfl), rfl⟩
        · subst c
          refine ev_tableIn (off := 71) (tgt := 113) de_Tu_house_42 (by decide) (by decide) (by decide) rfl (by decide) ?_
          refine ev_aload_n de_Tu_house_113 rfl rfl ?_
          refine ev_getfield de_Tu_house_114 t0 fl_Tu_19 rfl ?_
          refine ev_aload_n de_Tu_house_117 rfl rfl ?_
          refine ev_getfield de_Tu_house_118 t0 fl_Tu_19 rfl ?_
          refine ev_iload_n de_Tu_house_121 rfl rfl ?_
          refine ev_vv (ci := 5) de_Tu_house_122 (co_Ri_facing_j hI0 hR0 _ (by omega) (by omega)) kb_Tu_132 ⟨im_Ri_facing, se_Ri_facing⟩ rfl q0 rfl (Nat.le_of_ble_eq_true rfl) (by decide) rfl ?_
          refine ev_aload_n de_Tu_house_125 rfl rfl ?_
          refine ev_getfield de_Tu_house_126 t0 fl_Tu_19 rfl ?_
          refine ev_getfield de_Tu_house_129 q0 fl_Tu_136 rfl ?_
          refine ev_vv (ci := 5) de_Tu_house_132 (co_Ri_sortsAt_j hI0 hR0 _ _ (by omega) (by omega) (by omega) (by omega)) kb_Tu_139 ⟨im_Ri_sortsAt, se_Ri_sortsAt⟩ rfl q0 rfl (Nat.le_of_ble_eq_true rfl) (by decide) rfl ?_
          exact ev_ireturn de_Tu_house_135 rfl ⟨congrArg (fun z => some (ab_I z)) (by unfold sp_house; rw [if_pos hh1]; rfl), rfl⟩
        · subst c
          refine ev_tableIn (off := 94) (tgt := 136) de_Tu_house_42 (by decide) (by decide) (by decide) rfl (by decide) ?_
          refine ev_aload_n de_Tu_house_136 rfl rfl ?_
          refine ev_getfield de_Tu_house_137 t0 fl_Tu_19 rfl ?_
          refine ev_iload_n de_Tu_house_140 rfl rfl ?_
          refine ev_vv (ci := 5) de_Tu_house_141 (co_Ri_likesNow_j hI0 hR0 _ (by omega) (by omega)) kb_Tu_143 ⟨im_Ri_likesNow, se_Ri_likesNow⟩ rfl q0 rfl (Nat.le_of_ble_eq_true rfl) (by decide) rfl ?_
          exact ev_ireturn de_Tu_house_144 rfl ⟨congrArg (fun z => some (ab_I z)) (by unfold sp_house; rw [if_pos hh1]; rfl), rfl⟩
        · subst c
          refine ev_tableIn (off := 103) (tgt := 145) de_Tu_house_42 (by decide) (by decide) (by decide) rfl (by decide) ?_
          refine ev_aload_n de_Tu_house_145 rfl rfl ?_
          refine ev_getfield de_Tu_house_146 t0 fl_Tu_19 rfl ?_
          refine ev_aload_n de_Tu_house_149 rfl rfl ?_
          refine ev_getfield de_Tu_house_150 t0 fl_Tu_19 rfl ?_
          refine ev_iload_n de_Tu_house_153 rfl rfl ?_
          refine ev_vv (ci := 5) de_Tu_house_154 (co_Ri_facing_j hI0 hR0 _ (by omega) (by omega)) kb_Tu_132 ⟨im_Ri_facing, se_Ri_facing⟩ rfl q0 rfl (Nat.le_of_ble_eq_true rfl) (by decide) rfl ?_
          refine ev_vv (ci := 5) de_Tu_house_157 (co_Ri_isGate_j hI0 hR0 _ (by omega) (by omega)) kb_Tu_146 ⟨im_Ri_isGate, se_Ri_isGate⟩ rfl q0 rfl (Nat.le_of_ble_eq_true rfl) (by decide) rfl ?_
          refine ev_if_eq (tgt := 167) de_Tu_house_160 (by decide) (by first | omega | assumption) (fun h160 => ?_) (fun h160 => ?_)
          · skip
            refine ev_iconst de_Tu_house_167 ?_
            exact ev_ireturn de_Tu_house_168 rfl ⟨congrArg (fun z => some (ab_I z)) (by unfold sp_house; rw [if_pos hh1]; show _ = bit_at (f 3).toNat (sp_facesOf f y1).toNat; omega), rfl⟩
          · skip
            refine ev_iconst de_Tu_house_163 ?_
            refine ev_goto (tgt := 168) de_Tu_house_164 (by decide) ?_
            exact ev_ireturn de_Tu_house_168 rfl ⟨congrArg (fun z => some (ab_I z)) (by unfold sp_house; rw [if_pos hh1]; show _ = bit_at (f 3).toNat (sp_facesOf f y1).toNat; omega), rfl⟩
        · subst c
          refine ev_tableIn (off := 127) (tgt := 169) de_Tu_house_42 (by decide) (by decide) (by decide) rfl (by decide) ?_
          refine ev_aload_n de_Tu_house_169 rfl rfl ?_
          refine ev_getfield de_Tu_house_170 t0 fl_Tu_19 rfl ?_
          refine ev_iload_n de_Tu_house_173 rfl rfl ?_
          refine ev_vv (ci := 5) de_Tu_house_174 (co_Ri_wantsStay_j hI0 hR0 _ (by omega) (by omega)) kb_Tu_149 ⟨im_Ri_wantsStay, se_Ri_wantsStay⟩ rfl q0 rfl (Nat.le_of_ble_eq_true rfl) (by decide) rfl ?_
          refine ev_if_eq (tgt := 184) de_Tu_house_177 (by decide) (by first | omega | assumption) (fun h177 => ?_) (fun h177 => ?_)
          · skip
            refine ev_iconst de_Tu_house_184 ?_
            exact ev_ireturn de_Tu_house_185 rfl ⟨congrArg (fun z => some (ab_I z)) (by unfold sp_house; rw [if_pos hh1]; show _ = sp_wantsI f y1; omega), rfl⟩
          · skip
            refine ev_iconst de_Tu_house_180 ?_
            refine ev_goto (tgt := 185) de_Tu_house_181 (by decide) ?_
            exact ev_ireturn de_Tu_house_185 rfl ⟨congrArg (fun z => some (ab_I z)) (by unfold sp_house; rw [if_pos hh1]; show _ = sp_wantsI f y1; omega), rfl⟩
      · skip
        have z4 := e4 (5 * y1 + y2 - 100) (by omega) (by omega)
        have ez : y1 * 5 + y2 - 100 = 5 * y1 + y2 - 100 := by omega
        have ez2 : 60 + (5 * y1 + y2 - 100) = 60 + 5 * y1 + y2 - 100 := by omega
        rw [ez2] at z4
        refine ev_aload_n de_Tu_house_24 rfl rfl ?_
        refine ev_getfield de_Tu_house_25 t0 fl_Tu_19 rfl ?_
        refine ev_getfield de_Tu_house_28 q0 fl_Tu_122 rfl ?_
        refine ev_iload_n de_Tu_house_31 rfl rfl ?_
        refine ev_iconst de_Tu_house_32 ?_
        refine ev_imul de_Tu_house_33 ?_
        refine ev_iload_n de_Tu_house_34 rfl rfl ?_
        refine ev_iadd de_Tu_house_35 ?_
        refine ev_bipush de_Tu_house_36 rfl ?_
        refine ev_isub de_Tu_house_38 ?_
        refine ev_iaload de_Tu_house_39 q4 (by first | omega | assumption) (by first | omega | assumption) (by first | omega | assumption) ?_
        exact ev_ireturn de_Tu_house_40 rfl ⟨congrArg (fun z => some (ab_I z)) (by rw [ez, z4]; unfold sp_house; rw [if_pos hh1, if_neg (by omega), if_neg (by omega), if_neg (by omega), if_neg (by omega), if_neg (by omega), if_neg (by omega), if_neg (by omega), if_pos (by omega)]), rfl⟩
  · skip
    refine ev_sipush de_Tu_house_8 rfl ?_
    exact ev_ireturn de_Tu_house_11 rfl ⟨congrArg (fun z => some (ab_I z)) (by unfold sp_house; first | (rw [if_neg (fun z => by rw [if_pos z] at h5; omega)]) | (rw [if_pos hh1, if_neg (by omega), if_neg (by omega), if_neg (by omega), if_neg (by omega), if_neg (by omega), if_neg (by omega), if_neg (by omega), if_neg (by omega)])), rfl⟩
theorem de_Tu_direction_0 : decode prog_1_method_7_code 0 = .ok (.aload_n 0, 1) := by decide +kernel
theorem de_Tu_direction_1 : decode prog_1_method_7_code 1 = .ok (.getfield 19, 3) := by decide +kernel
theorem de_Tu_direction_4 : decode prog_1_method_7_code 4 = .ok (.getfield 152, 3) := by decide +kernel
theorem de_Tu_direction_7 : decode prog_1_method_7_code 7 = .ok (.ifCond .eq 10, 3) := by decide +kernel
theorem de_Tu_direction_10 : decode prog_1_method_7_code 10 = .ok (.iload_n 1, 1) := by decide +kernel
theorem de_Tu_direction_11 : decode prog_1_method_7_code 11 = .ok (.invokestatic 156, 3) := by decide +kernel
theorem de_Tu_direction_14 : decode prog_1_method_7_code 14 = .ok (.ifCond .ne 6, 3) := by decide +kernel
theorem de_Tu_direction_17 : decode prog_1_method_7_code 17 = .ok (.bipush (-2), 2) := by decide +kernel
theorem de_Tu_direction_19 : decode prog_1_method_7_code 19 = .ok (.ireturn, 1) := by decide +kernel
theorem de_Tu_direction_20 : decode prog_1_method_7_code 20 = .ok (.iload_n 2, 1) := by decide +kernel
theorem de_Tu_direction_21 : decode prog_1_method_7_code 21 = .ok (.tableswitch 69 0 2 #[27, 36, 53], 27) := by decide +kernel
theorem de_Tu_direction_48 : decode prog_1_method_7_code 48 = .ok (.aload_n 0, 1) := by decide +kernel
theorem de_Tu_direction_49 : decode prog_1_method_7_code 49 = .ok (.getfield 19, 3) := by decide +kernel
theorem de_Tu_direction_52 : decode prog_1_method_7_code 52 = .ok (.iload_n 1, 1) := by decide +kernel
theorem de_Tu_direction_53 : decode prog_1_method_7_code 53 = .ok (.invokevirtual 159, 3) := by decide +kernel
theorem de_Tu_direction_56 : decode prog_1_method_7_code 56 = .ok (.ireturn, 1) := by decide +kernel
theorem de_Tu_direction_57 : decode prog_1_method_7_code 57 = .ok (.aload_n 0, 1) := by decide +kernel
theorem de_Tu_direction_58 : decode prog_1_method_7_code 58 = .ok (.getfield 19, 3) := by decide +kernel
theorem de_Tu_direction_61 : decode prog_1_method_7_code 61 = .ok (.iload_n 1, 1) := by decide +kernel
theorem de_Tu_direction_62 : decode prog_1_method_7_code 62 = .ok (.invokevirtual 146, 3) := by decide +kernel
theorem de_Tu_direction_65 : decode prog_1_method_7_code 65 = .ok (.ifCond .eq 7, 3) := by decide +kernel
theorem de_Tu_direction_68 : decode prog_1_method_7_code 68 = .ok (.iconst 1, 1) := by decide +kernel
theorem de_Tu_direction_69 : decode prog_1_method_7_code 69 = .ok (.goto 4, 3) := by decide +kernel
theorem de_Tu_direction_72 : decode prog_1_method_7_code 72 = .ok (.iconst 0, 1) := by decide +kernel
theorem de_Tu_direction_73 : decode prog_1_method_7_code 73 = .ok (.ireturn, 1) := by decide +kernel
theorem de_Tu_direction_74 : decode prog_1_method_7_code 74 = .ok (.aload_n 0, 1) := by decide +kernel
theorem de_Tu_direction_75 : decode prog_1_method_7_code 75 = .ok (.getfield 19, 3) := by decide +kernel
theorem de_Tu_direction_78 : decode prog_1_method_7_code 78 = .ok (.iload_n 1, 1) := by decide +kernel
theorem de_Tu_direction_79 : decode prog_1_method_7_code 79 = .ok (.aload_n 0, 1) := by decide +kernel
theorem de_Tu_direction_80 : decode prog_1_method_7_code 80 = .ok (.getfield 19, 3) := by decide +kernel
theorem de_Tu_direction_83 : decode prog_1_method_7_code 83 = .ok (.getfield 136, 3) := by decide +kernel
theorem de_Tu_direction_86 : decode prog_1_method_7_code 86 = .ok (.invokevirtual 139, 3) := by decide +kernel
theorem de_Tu_direction_89 : decode prog_1_method_7_code 89 = .ok (.ireturn, 1) := by decide +kernel
theorem de_Tu_direction_90 : decode prog_1_method_7_code 90 = .ok (.bipush (-2), 2) := by decide +kernel
theorem de_Tu_direction_92 : decode prog_1_method_7_code 92 = .ok (.ireturn, 1) := by decide +kernel
set_option maxHeartbeats 4000000 in
set_option maxRecDepth 10000 in
theorem co_Tu_direction {a b : Nat} {rc : Int} {f : Int → Int} {x B : Int} {w : ab_W} (hI : sg_ok B f) (t0 : tu_at a b rc w) (hR : ri_at_j a f x w) (y1 : Int) (hy1 : ab_in y1) (y2 : Int) (hy2 : ab_in y2) : ab_Mt g_G g_rs mt_Tu_direction 3 0 0 [ab_R 0, ab_I y1, ab_I y2] w (ab_is (some (ab_I (sp_direction f y1 y2))) w) := by
  have ht0 := t0
  have hR0 := hR
  have hI0 := hI
  unfold tu_at at t0
  obtain ⟨sl, fs, vo, li, ra, wo, dh, da, hzz⟩ := hR
  obtain ⟨ds, dn, vw, q0, q1, q2, q3, q4, hzz⟩ := hzz
  obtain ⟨q5, q6, q7, q8, q9, q10, q11, q12, hzz⟩ := hzz
  obtain ⟨e1, e2, e3, e4, e5, e6, e7, e8, e9⟩ := hzz
  obtain ⟨i0, i1, i2, i3, i4, i5, i6, i7, hzz⟩ := sg_all hI
  obtain ⟨i8, i9, i10, i11, i12, i13, i14, i15, hzz⟩ := hzz
  obtain ⟨i16, i17⟩ := hzz
  refine ab_Mt.of rfl (Nat.le_of_ble_eq_true rfl) ?_
  show ab_Ev g_G g_rs mt_Tu_direction _ _ _ 0 [some (ab_R 0), some (ab_I y1), some (ab_I y2)] [] _ _
  refine ev_aload_n de_Tu_direction_0 rfl rfl ?_
  refine ev_getfield de_Tu_direction_1 t0 fl_Tu_19 rfl ?_
  refine ev_getfield de_Tu_direction_4 q0 fl_Tu_152 rfl ?_
  refine ev_if_eq (tgt := 17) de_Tu_direction_7 (by decide) (by first | omega | assumption) (fun h7 => ?_) (fun h7 => ?_)
  · skip
    refine ev_bipush de_Tu_direction_17 rfl ?_
    exact ev_ireturn de_Tu_direction_19 rfl ⟨congrArg (fun z => some (ab_I z)) (by unfold sp_direction; first | (rw [if_neg (fun z => by omega)]) | (rw [if_neg (fun z => by rw [if_pos z.2.1] at h14; omega)])), rfl⟩
  · skip
    refine ev_iload_n de_Tu_direction_10 rfl rfl ?_
    refine ev_sv de_Tu_direction_11 (co_Tu_isDirection _ _ (by assumption)) kb_Tu_156 sc_Tu_isDirection rfl (Nat.le_of_ble_eq_true rfl) (by decide) rfl ?_
    refine ev_if_ne (tgt := 20) de_Tu_direction_14 (by decide) (by first | omega | (split <;> decide)) (fun h14 => ?_) (fun h14 => ?_)
    · skip
      have hh1 : 0 ≤ y1 ∧ y1 ≤ 11 := by split at h14 <;> omega
      have bt := bit_at_01 (f 3).toNat y1.toNat
      have h0 : f 0 = 1 := by omega
      refine ev_iload_n de_Tu_direction_20 rfl rfl ?_
      rcases (by omega : y2 < 0 ∨ 2 < y2 ∨ y2 = 0 ∨ y2 = 1 ∨ y2 = 2) with c | c | c | c | c
      · refine ev_tableOut (tgt := 90) de_Tu_direction_21 (by first | omega | assumption) (by omega) (by decide) ?_
        refine ev_bipush de_Tu_direction_90 rfl ?_
        exact ev_ireturn de_Tu_direction_92 rfl ⟨congrArg (fun z => some (ab_I z)) (by unfold sp_direction; first | (rw [if_neg (fun z => by omega)]) | (rw [if_neg (fun z => by rw [if_pos z.2.1] at h14; omega)])), rfl⟩
      · refine ev_tableOut (tgt := 90) de_Tu_direction_21 (by first | omega | assumption) (by omega) (by decide) ?_
        refine ev_bipush de_Tu_direction_90 rfl ?_
        exact ev_ireturn de_Tu_direction_92 rfl ⟨congrArg (fun z => some (ab_I z)) (by unfold sp_direction; first | (rw [if_neg (fun z => by omega)]) | (rw [if_neg (fun z => by rw [if_pos z.2.1] at h14; omega)])), rfl⟩
      · subst c
        refine ev_tableIn (off := 27) (tgt := 48) de_Tu_direction_21 (by decide) (by decide) (by decide) rfl (by decide) ?_
        refine ev_aload_n de_Tu_direction_48 rfl rfl ?_
        refine ev_getfield de_Tu_direction_49 t0 fl_Tu_19 rfl ?_
        refine ev_iload_n de_Tu_direction_52 rfl rfl ?_
        refine ev_vv (ci := 5) de_Tu_direction_53 (co_Ri_houseFacing_j hI0 hR0 _ (by assumption)) kb_Tu_159 ⟨im_Ri_houseFacing, se_Ri_houseFacing⟩ rfl q0 rfl (Nat.le_of_ble_eq_true rfl) (by decide) rfl ?_
        exact ev_ireturn de_Tu_direction_56 rfl ⟨congrArg (fun z => some (ab_I z)) (by unfold sp_direction; rw [if_pos ⟨h0, hh1, by decide⟩]; rfl), rfl⟩
      · subst c
        refine ev_tableIn (off := 36) (tgt := 57) de_Tu_direction_21 (by decide) (by decide) (by decide) rfl (by decide) ?_
        refine ev_aload_n de_Tu_direction_57 rfl rfl ?_
        refine ev_getfield de_Tu_direction_58 t0 fl_Tu_19 rfl ?_
        refine ev_iload_n de_Tu_direction_61 rfl rfl ?_
        refine ev_vv (ci := 5) de_Tu_direction_62 (co_Ri_isGate_j hI0 hR0 _ (by omega) (by omega)) kb_Tu_146 ⟨im_Ri_isGate, se_Ri_isGate⟩ rfl q0 rfl (Nat.le_of_ble_eq_true rfl) (by decide) rfl ?_
        refine ev_if_eq (tgt := 72) de_Tu_direction_65 (by decide) (by first | omega | assumption) (fun h65 => ?_) (fun h65 => ?_)
        · skip
          refine ev_iconst de_Tu_direction_72 ?_
          exact ev_ireturn de_Tu_direction_73 rfl ⟨congrArg (fun z => some (ab_I z)) (by unfold sp_direction; rw [if_pos ⟨h0, hh1, by decide⟩]; show _ = bit_at (f 3).toNat y1.toNat; omega), rfl⟩
        · skip
          refine ev_iconst de_Tu_direction_68 ?_
          refine ev_goto (tgt := 73) de_Tu_direction_69 (by decide) ?_
          exact ev_ireturn de_Tu_direction_73 rfl ⟨congrArg (fun z => some (ab_I z)) (by unfold sp_direction; rw [if_pos ⟨h0, hh1, by decide⟩]; show _ = bit_at (f 3).toNat y1.toNat; omega), rfl⟩
      · subst c
        refine ev_tableIn (off := 53) (tgt := 74) de_Tu_direction_21 (by decide) (by decide) (by decide) rfl (by decide) ?_
        refine ev_aload_n de_Tu_direction_74 rfl rfl ?_
        refine ev_getfield de_Tu_direction_75 t0 fl_Tu_19 rfl ?_
        refine ev_iload_n de_Tu_direction_78 rfl rfl ?_
        refine ev_aload_n de_Tu_direction_79 rfl rfl ?_
        refine ev_getfield de_Tu_direction_80 t0 fl_Tu_19 rfl ?_
        refine ev_getfield de_Tu_direction_83 q0 fl_Tu_136 rfl ?_
        refine ev_vv (ci := 5) de_Tu_direction_86 (co_Ri_sortsAt_j hI0 hR0 _ _ (by omega) (by omega) (by omega) (by omega)) kb_Tu_139 ⟨im_Ri_sortsAt, se_Ri_sortsAt⟩ rfl q0 rfl (Nat.le_of_ble_eq_true rfl) (by decide) rfl ?_
        exact ev_ireturn de_Tu_direction_89 rfl ⟨congrArg (fun z => some (ab_I z)) (by unfold sp_direction; rw [if_pos ⟨h0, hh1, by decide⟩]; rfl), rfl⟩
    · skip
      refine ev_bipush de_Tu_direction_17 rfl ?_
      exact ev_ireturn de_Tu_direction_19 rfl ⟨congrArg (fun z => some (ab_I z)) (by unfold sp_direction; first | (rw [if_neg (fun z => by omega)]) | (rw [if_neg (fun z => by rw [if_pos z.2.1] at h14; omega)])), rfl⟩
theorem de_Tu_count_0 : decode prog_1_method_10_code 0 = .ok (.iload_n 1, 1) := by decide +kernel
theorem de_Tu_count_1 : decode prog_1_method_10_code 1 = .ok (.tableswitch 217 0 14 #[75, 83, 91, 99, 104, 112, 120, 128, 150, 166, 174, 185, 193, 201, 209], 75) := by decide +kernel
theorem de_Tu_count_76 : decode prog_1_method_10_code 76 = .ok (.aload_n 0, 1) := by decide +kernel
theorem de_Tu_count_77 : decode prog_1_method_10_code 77 = .ok (.getfield 19, 3) := by decide +kernel
theorem de_Tu_count_80 : decode prog_1_method_10_code 80 = .ok (.getfield 102, 3) := by decide +kernel
theorem de_Tu_count_83 : decode prog_1_method_10_code 83 = .ok (.ireturn, 1) := by decide +kernel
theorem de_Tu_count_84 : decode prog_1_method_10_code 84 = .ok (.aload_n 0, 1) := by decide +kernel
theorem de_Tu_count_85 : decode prog_1_method_10_code 85 = .ok (.getfield 19, 3) := by decide +kernel
theorem de_Tu_count_88 : decode prog_1_method_10_code 88 = .ok (.getfield 171, 3) := by decide +kernel
theorem de_Tu_count_91 : decode prog_1_method_10_code 91 = .ok (.ireturn, 1) := by decide +kernel
theorem de_Tu_count_92 : decode prog_1_method_10_code 92 = .ok (.aload_n 0, 1) := by decide +kernel
theorem de_Tu_count_93 : decode prog_1_method_10_code 93 = .ok (.getfield 19, 3) := by decide +kernel
theorem de_Tu_count_96 : decode prog_1_method_10_code 96 = .ok (.getfield 174, 3) := by decide +kernel
theorem de_Tu_count_99 : decode prog_1_method_10_code 99 = .ok (.ireturn, 1) := by decide +kernel
theorem de_Tu_count_100 : decode prog_1_method_10_code 100 = .ok (.aload_n 0, 1) := by decide +kernel
theorem de_Tu_count_101 : decode prog_1_method_10_code 101 = .ok (.getfield 105, 3) := by decide +kernel
theorem de_Tu_count_104 : decode prog_1_method_10_code 104 = .ok (.ireturn, 1) := by decide +kernel
theorem de_Tu_count_105 : decode prog_1_method_10_code 105 = .ok (.aload_n 0, 1) := by decide +kernel
theorem de_Tu_count_106 : decode prog_1_method_10_code 106 = .ok (.getfield 19, 3) := by decide +kernel
theorem de_Tu_count_109 : decode prog_1_method_10_code 109 = .ok (.getfield 177, 3) := by decide +kernel
theorem de_Tu_count_112 : decode prog_1_method_10_code 112 = .ok (.ireturn, 1) := by decide +kernel
theorem de_Tu_count_113 : decode prog_1_method_10_code 113 = .ok (.aload_n 0, 1) := by decide +kernel
theorem de_Tu_count_114 : decode prog_1_method_10_code 114 = .ok (.getfield 19, 3) := by decide +kernel
theorem de_Tu_count_117 : decode prog_1_method_10_code 117 = .ok (.getfield 136, 3) := by decide +kernel
theorem de_Tu_count_120 : decode prog_1_method_10_code 120 = .ok (.ireturn, 1) := by decide +kernel
theorem de_Tu_count_121 : decode prog_1_method_10_code 121 = .ok (.aload_n 0, 1) := by decide +kernel
theorem de_Tu_count_122 : decode prog_1_method_10_code 122 = .ok (.getfield 19, 3) := by decide +kernel
theorem de_Tu_count_125 : decode prog_1_method_10_code 125 = .ok (.getfield 180, 3) := by decide +kernel
theorem de_Tu_count_128 : decode prog_1_method_10_code 128 = .ok (.ireturn, 1) := by decide +kernel
theorem de_Tu_count_129 : decode prog_1_method_10_code 129 = .ok (.aload_n 0, 1) := by decide +kernel
theorem de_Tu_count_130 : decode prog_1_method_10_code 130 = .ok (.getfield 19, 3) := by decide +kernel
theorem de_Tu_count_133 : decode prog_1_method_10_code 133 = .ok (.aload_n 0, 1) := by decide +kernel
theorem de_Tu_count_134 : decode prog_1_method_10_code 134 = .ok (.getfield 19, 3) := by decide +kernel
theorem de_Tu_count_137 : decode prog_1_method_10_code 137 = .ok (.getfield 177, 3) := by decide +kernel
theorem de_Tu_count_140 : decode prog_1_method_10_code 140 = .ok (.aload_n 0, 1) := by decide +kernel
theorem de_Tu_count_141 : decode prog_1_method_10_code 141 = .ok (.getfield 19, 3) := by decide +kernel
theorem de_Tu_count_144 : decode prog_1_method_10_code 144 = .ok (.getfield 136, 3) := by decide +kernel
theorem de_Tu_count_147 : decode prog_1_method_10_code 147 = .ok (.invokevirtual 183, 3) := by decide +kernel
theorem de_Tu_count_150 : decode prog_1_method_10_code 150 = .ok (.ireturn, 1) := by decide +kernel
theorem de_Tu_count_151 : decode prog_1_method_10_code 151 = .ok (.aload_n 0, 1) := by decide +kernel
theorem de_Tu_count_152 : decode prog_1_method_10_code 152 = .ok (.getfield 19, 3) := by decide +kernel
theorem de_Tu_count_155 : decode prog_1_method_10_code 155 = .ok (.getfield 186, 3) := by decide +kernel
theorem de_Tu_count_158 : decode prog_1_method_10_code 158 = .ok (.ifCond .eq 7, 3) := by decide +kernel
theorem de_Tu_count_161 : decode prog_1_method_10_code 161 = .ok (.iconst 1, 1) := by decide +kernel
theorem de_Tu_count_162 : decode prog_1_method_10_code 162 = .ok (.goto 4, 3) := by decide +kernel
theorem de_Tu_count_165 : decode prog_1_method_10_code 165 = .ok (.iconst 0, 1) := by decide +kernel
theorem de_Tu_count_166 : decode prog_1_method_10_code 166 = .ok (.ireturn, 1) := by decide +kernel
theorem de_Tu_count_167 : decode prog_1_method_10_code 167 = .ok (.aload_n 0, 1) := by decide +kernel
theorem de_Tu_count_168 : decode prog_1_method_10_code 168 = .ok (.getfield 19, 3) := by decide +kernel
theorem de_Tu_count_171 : decode prog_1_method_10_code 171 = .ok (.getfield 189, 3) := by decide +kernel
theorem de_Tu_count_174 : decode prog_1_method_10_code 174 = .ok (.ireturn, 1) := by decide +kernel
theorem de_Tu_count_175 : decode prog_1_method_10_code 175 = .ok (.aload_n 0, 1) := by decide +kernel
theorem de_Tu_count_176 : decode prog_1_method_10_code 176 = .ok (.getfield 19, 3) := by decide +kernel
theorem de_Tu_count_179 : decode prog_1_method_10_code 179 = .ok (.getfield 192, 3) := by decide +kernel
theorem de_Tu_count_182 : decode prog_1_method_10_code 182 = .ok (.getfield 196, 3) := by decide +kernel
theorem de_Tu_count_185 : decode prog_1_method_10_code 185 = .ok (.ireturn, 1) := by decide +kernel
theorem de_Tu_count_186 : decode prog_1_method_10_code 186 = .ok (.aload_n 0, 1) := by decide +kernel
theorem de_Tu_count_187 : decode prog_1_method_10_code 187 = .ok (.getfield 43, 3) := by decide +kernel
theorem de_Tu_count_190 : decode prog_1_method_10_code 190 = .ok (.getfield 201, 3) := by decide +kernel
theorem de_Tu_count_193 : decode prog_1_method_10_code 193 = .ok (.ireturn, 1) := by decide +kernel
theorem de_Tu_count_194 : decode prog_1_method_10_code 194 = .ok (.aload_n 0, 1) := by decide +kernel
theorem de_Tu_count_195 : decode prog_1_method_10_code 195 = .ok (.getfield 19, 3) := by decide +kernel
theorem de_Tu_count_198 : decode prog_1_method_10_code 198 = .ok (.getfield 96, 3) := by decide +kernel
theorem de_Tu_count_201 : decode prog_1_method_10_code 201 = .ok (.ireturn, 1) := by decide +kernel
theorem de_Tu_count_202 : decode prog_1_method_10_code 202 = .ok (.aload_n 0, 1) := by decide +kernel
theorem de_Tu_count_203 : decode prog_1_method_10_code 203 = .ok (.getfield 10, 3) := by decide +kernel
theorem de_Tu_count_206 : decode prog_1_method_10_code 206 = .ok (.getfield 82, 3) := by decide +kernel
theorem de_Tu_count_209 : decode prog_1_method_10_code 209 = .ok (.ireturn, 1) := by decide +kernel
theorem de_Tu_count_210 : decode prog_1_method_10_code 210 = .ok (.aload_n 0, 1) := by decide +kernel
theorem de_Tu_count_211 : decode prog_1_method_10_code 211 = .ok (.getfield 19, 3) := by decide +kernel
theorem de_Tu_count_214 : decode prog_1_method_10_code 214 = .ok (.invokevirtual 204, 3) := by decide +kernel
theorem de_Tu_count_217 : decode prog_1_method_10_code 217 = .ok (.ireturn, 1) := by decide +kernel
theorem de_Tu_count_218 : decode prog_1_method_10_code 218 = .ok (.ldc 208, 2) := by decide +kernel
theorem de_Tu_count_220 : decode prog_1_method_10_code 220 = .ok (.ireturn, 1) := by decide +kernel
set_option maxHeartbeats 4000000 in
set_option maxRecDepth 10000 in
theorem co_Tu_count {a b : Nat} {rc : Int} {f : Int → Int} {x B : Int} {w : ab_W} (hI : sg_ok B f) (t0 : tu_at a b rc w) (hR : ri_at_j a f x w) {ki f1 s1 : Int → Int} {sz nx tl : Int} {tt : List ab_V} (hac : acl 32 ki f1 s1 sz nx w) (tp0 : w[1]? = some (ab_ob 8 (ab_R 2 :: ab_I tl :: tt))) (y1 : Int) (hy1 : ab_in y1) : ab_Mt g_G g_rs mt_Tu_count 3 0 0 [ab_R 0, ab_I y1] w (ab_is (some (ab_I (sp_count f rc sz x tl y1))) w) := by
  have ht0 := t0
  have hR0 := hR
  have hI0 := hI
  unfold tu_at at t0
  obtain ⟨sl, fs, vo, li, ra, wo, dh, da, hzz⟩ := hR
  obtain ⟨ds, dn, vw, q0, q1, q2, q3, q4, hzz⟩ := hzz
  obtain ⟨q5, q6, q7, q8, q9, q10, q11, q12, hzz⟩ := hzz
  obtain ⟨e1, e2, e3, e4, e5, e6, e7, e8, e9⟩ := hzz
  obtain ⟨i0, i1, i2, i3, i4, i5, i6, i7, hzz⟩ := sg_all hI
  obtain ⟨i8, i9, i10, i11, i12, i13, i14, i15, hzz⟩ := hzz
  obtain ⟨i16, i17⟩ := hzz
  obtain ⟨c0, c1, c2, c3⟩ := hac
  refine ab_Mt.of rfl (Nat.le_of_ble_eq_true rfl) ?_
  show ab_Ev g_G g_rs mt_Tu_count _ _ _ 0 [some (ab_R 0), some (ab_I y1)] [] _ _
  refine ev_iload_n de_Tu_count_0 rfl rfl ?_
  rcases (by omega : y1 < 0 ∨ 14 < y1 ∨ y1 = 0 ∨ y1 = 1 ∨ y1 = 2 ∨ y1 = 3 ∨ y1 = 4 ∨ y1 = 5 ∨ y1 = 6 ∨ y1 = 7 ∨ y1 = 8 ∨ y1 = 9 ∨ y1 = 10 ∨ y1 = 11 ∨ y1 = 12 ∨ y1 = 13 ∨ y1 = 14) with c | c | c | c | c | c | c | c | c | c | c | c | c | c | c | c | c
  · refine ev_tableOut (tgt := 218) de_Tu_count_1 (by first | omega | assumption) (by omega) (by decide) ?_
    refine ev_ldc (n := -100000) de_Tu_count_218 cn_Tu_208 rfl ?_
    exact ev_ireturn de_Tu_count_220 rfl ⟨congrArg (fun z => some (ab_I z)) (by unfold sp_count; rw [if_neg (by omega), if_neg (by omega), if_neg (by omega), if_neg (by omega), if_neg (by omega), if_neg (by omega), if_neg (by omega), if_neg (by omega), if_neg (by omega), if_neg (by omega), if_neg (by omega), if_neg (by omega), if_neg (by omega), if_neg (by omega), if_neg (by omega)]), rfl⟩
  · refine ev_tableOut (tgt := 218) de_Tu_count_1 (by first | omega | assumption) (by omega) (by decide) ?_
    refine ev_ldc (n := -100000) de_Tu_count_218 cn_Tu_208 rfl ?_
    exact ev_ireturn de_Tu_count_220 rfl ⟨congrArg (fun z => some (ab_I z)) (by unfold sp_count; rw [if_neg (by omega), if_neg (by omega), if_neg (by omega), if_neg (by omega), if_neg (by omega), if_neg (by omega), if_neg (by omega), if_neg (by omega), if_neg (by omega), if_neg (by omega), if_neg (by omega), if_neg (by omega), if_neg (by omega), if_neg (by omega), if_neg (by omega)]), rfl⟩
  · subst c
    refine ev_tableIn (off := 75) (tgt := 76) de_Tu_count_1 (by decide) (by decide) (by decide) rfl (by decide) ?_
    refine ev_aload_n de_Tu_count_76 rfl rfl ?_
    refine ev_getfield de_Tu_count_77 t0 fl_Tu_19 rfl ?_
    refine ev_getfield de_Tu_count_80 q0 fl_Tu_102 rfl ?_
    exact ev_ireturn de_Tu_count_83 rfl ⟨congrArg (fun z => some (ab_I z)) (by rfl), rfl⟩
  · subst c
    refine ev_tableIn (off := 83) (tgt := 84) de_Tu_count_1 (by decide) (by decide) (by decide) rfl (by decide) ?_
    refine ev_aload_n de_Tu_count_84 rfl rfl ?_
    refine ev_getfield de_Tu_count_85 t0 fl_Tu_19 rfl ?_
    refine ev_getfield de_Tu_count_88 q0 fl_Tu_171 rfl ?_
    exact ev_ireturn de_Tu_count_91 rfl ⟨congrArg (fun z => some (ab_I z)) (by rfl), rfl⟩
  · subst c
    refine ev_tableIn (off := 91) (tgt := 92) de_Tu_count_1 (by decide) (by decide) (by decide) rfl (by decide) ?_
    refine ev_aload_n de_Tu_count_92 rfl rfl ?_
    refine ev_getfield de_Tu_count_93 t0 fl_Tu_19 rfl ?_
    refine ev_getfield de_Tu_count_96 q0 fl_Tu_174 rfl ?_
    exact ev_ireturn de_Tu_count_99 rfl ⟨congrArg (fun z => some (ab_I z)) (by rfl), rfl⟩
  · subst c
    refine ev_tableIn (off := 99) (tgt := 100) de_Tu_count_1 (by decide) (by decide) (by decide) rfl (by decide) ?_
    refine ev_aload_n de_Tu_count_100 rfl rfl ?_
    refine ev_getfield de_Tu_count_101 t0 fl_Tu_105 rfl ?_
    exact ev_ireturn de_Tu_count_104 rfl ⟨congrArg (fun z => some (ab_I z)) (by rfl), rfl⟩
  · subst c
    refine ev_tableIn (off := 104) (tgt := 105) de_Tu_count_1 (by decide) (by decide) (by decide) rfl (by decide) ?_
    refine ev_aload_n de_Tu_count_105 rfl rfl ?_
    refine ev_getfield de_Tu_count_106 t0 fl_Tu_19 rfl ?_
    refine ev_getfield de_Tu_count_109 q0 fl_Tu_177 rfl ?_
    exact ev_ireturn de_Tu_count_112 rfl ⟨congrArg (fun z => some (ab_I z)) (by rfl), rfl⟩
  · subst c
    refine ev_tableIn (off := 112) (tgt := 113) de_Tu_count_1 (by decide) (by decide) (by decide) rfl (by decide) ?_
    refine ev_aload_n de_Tu_count_113 rfl rfl ?_
    refine ev_getfield de_Tu_count_114 t0 fl_Tu_19 rfl ?_
    refine ev_getfield de_Tu_count_117 q0 fl_Tu_136 rfl ?_
    exact ev_ireturn de_Tu_count_120 rfl ⟨congrArg (fun z => some (ab_I z)) (by rfl), rfl⟩
  · subst c
    refine ev_tableIn (off := 120) (tgt := 121) de_Tu_count_1 (by decide) (by decide) (by decide) rfl (by decide) ?_
    refine ev_aload_n de_Tu_count_121 rfl rfl ?_
    refine ev_getfield de_Tu_count_122 t0 fl_Tu_19 rfl ?_
    refine ev_getfield de_Tu_count_125 q0 fl_Tu_180 rfl ?_
    exact ev_ireturn de_Tu_count_128 rfl ⟨congrArg (fun z => some (ab_I z)) (by rfl), rfl⟩
  · subst c
    refine ev_tableIn (off := 128) (tgt := 129) de_Tu_count_1 (by decide) (by decide) (by decide) rfl (by decide) ?_
    refine ev_aload_n de_Tu_count_129 rfl rfl ?_
    refine ev_getfield de_Tu_count_130 t0 fl_Tu_19 rfl ?_
    refine ev_aload_n de_Tu_count_133 rfl rfl ?_
    refine ev_getfield de_Tu_count_134 t0 fl_Tu_19 rfl ?_
    refine ev_getfield de_Tu_count_137 q0 fl_Tu_177 rfl ?_
    refine ev_aload_n de_Tu_count_140 rfl rfl ?_
    refine ev_getfield de_Tu_count_141 t0 fl_Tu_19 rfl ?_
    refine ev_getfield de_Tu_count_144 q0 fl_Tu_136 rfl ?_
    refine ev_vv (ci := 5) de_Tu_count_147 (co_Ri_allLike_j hI0 hR0 _ _ (by omega) (by omega) (by omega) (by omega)) kb_Tu_183 ⟨im_Ri_allLike, se_Ri_allLike⟩ rfl q0 rfl (Nat.le_of_ble_eq_true rfl) (by decide) rfl ?_
    exact ev_ireturn de_Tu_count_150 rfl ⟨congrArg (fun z => some (ab_I z)) (by rfl), rfl⟩
  · subst c
    refine ev_tableIn (off := 150) (tgt := 151) de_Tu_count_1 (by decide) (by decide) (by decide) rfl (by decide) ?_
    refine ev_aload_n de_Tu_count_151 rfl rfl ?_
    refine ev_getfield de_Tu_count_152 t0 fl_Tu_19 rfl ?_
    refine ev_getfield de_Tu_count_155 q0 fl_Tu_186 rfl ?_
    refine ev_if_eq (tgt := 165) de_Tu_count_158 (by decide) (by first | omega | assumption) (fun h158 => ?_) (fun h158 => ?_)
    · skip
      refine ev_iconst de_Tu_count_165 ?_
      exact ev_ireturn de_Tu_count_166 rfl ⟨congrArg (fun z => some (ab_I z)) (by show _ = f 7; omega), rfl⟩
    · skip
      refine ev_iconst de_Tu_count_161 ?_
      refine ev_goto (tgt := 166) de_Tu_count_162 (by decide) ?_
      exact ev_ireturn de_Tu_count_166 rfl ⟨congrArg (fun z => some (ab_I z)) (by show _ = f 7; omega), rfl⟩
  · subst c
    refine ev_tableIn (off := 166) (tgt := 167) de_Tu_count_1 (by decide) (by decide) (by decide) rfl (by decide) ?_
    refine ev_aload_n de_Tu_count_167 rfl rfl ?_
    refine ev_getfield de_Tu_count_168 t0 fl_Tu_19 rfl ?_
    refine ev_getfield de_Tu_count_171 q0 fl_Tu_189 rfl ?_
    exact ev_ireturn de_Tu_count_174 rfl ⟨congrArg (fun z => some (ab_I z)) (by rfl), rfl⟩
  · subst c
    refine ev_tableIn (off := 174) (tgt := 175) de_Tu_count_1 (by decide) (by decide) (by decide) rfl (by decide) ?_
    refine ev_aload_n de_Tu_count_175 rfl rfl ?_
    refine ev_getfield de_Tu_count_176 t0 fl_Tu_19 rfl ?_
    refine ev_getfield de_Tu_count_179 q0 fl_Tu_192 rfl ?_
    refine ev_getfield de_Tu_count_182 q8 fl_Tu_196 rfl ?_
    exact ev_ireturn de_Tu_count_185 rfl ⟨congrArg (fun z => some (ab_I z)) (by rfl), rfl⟩
  · subst c
    refine ev_tableIn (off := 185) (tgt := 186) de_Tu_count_1 (by decide) (by decide) (by decide) rfl (by decide) ?_
    refine ev_aload_n de_Tu_count_186 rfl rfl ?_
    refine ev_getfield de_Tu_count_187 t0 fl_Tu_43 rfl ?_
    refine ev_getfield de_Tu_count_190 c0 fl_Tu_201 rfl ?_
    exact ev_ireturn de_Tu_count_193 rfl ⟨congrArg (fun z => some (ab_I z)) (by rfl), rfl⟩
  · subst c
    refine ev_tableIn (off := 193) (tgt := 194) de_Tu_count_1 (by decide) (by decide) (by decide) rfl (by decide) ?_
    refine ev_aload_n de_Tu_count_194 rfl rfl ?_
    refine ev_getfield de_Tu_count_195 t0 fl_Tu_19 rfl ?_
    refine ev_getfield de_Tu_count_198 q0 fl_Tu_96 rfl ?_
    exact ev_ireturn de_Tu_count_201 rfl ⟨congrArg (fun z => some (ab_I z)) (by rfl), rfl⟩
  · subst c
    refine ev_tableIn (off := 201) (tgt := 202) de_Tu_count_1 (by decide) (by decide) (by decide) rfl (by decide) ?_
    refine ev_aload_n de_Tu_count_202 rfl rfl ?_
    refine ev_getfield de_Tu_count_203 t0 fl_Tu_10 rfl ?_
    refine ev_getfield de_Tu_count_206 tp0 fl_Tu_82 rfl ?_
    exact ev_ireturn de_Tu_count_209 rfl ⟨congrArg (fun z => some (ab_I z)) (by rfl), rfl⟩
  · subst c
    refine ev_tableIn (off := 209) (tgt := 210) de_Tu_count_1 (by decide) (by decide) (by decide) rfl (by decide) ?_
    refine ev_aload_n de_Tu_count_210 rfl rfl ?_
    refine ev_getfield de_Tu_count_211 t0 fl_Tu_19 rfl ?_
    refine ev_vv (ci := 5) de_Tu_count_214 (co_Ri_allVotes_j hI0 hR0) kb_Tu_204 ⟨im_Ri_allVotes, se_Ri_allVotes⟩ rfl q0 rfl (Nat.le_of_ble_eq_true rfl) (by decide) rfl ?_
    exact ev_ireturn de_Tu_count_217 rfl ⟨congrArg (fun z => some (ab_I z)) (by rfl), rfl⟩
theorem de_Tu_faces_0 : decode prog_1_method_20_code 0 = .ok (.aload_n 0, 1) := by decide +kernel
theorem de_Tu_faces_1 : decode prog_1_method_20_code 1 = .ok (.iload_n 1, 1) := by decide +kernel
theorem de_Tu_faces_2 : decode prog_1_method_20_code 2 = .ok (.invokevirtual 118, 3) := by decide +kernel
theorem de_Tu_faces_5 : decode prog_1_method_20_code 5 = .ok (.ifCond .eq 14, 3) := by decide +kernel
theorem de_Tu_faces_8 : decode prog_1_method_20_code 8 = .ok (.iload_n 2, 1) := by decide +kernel
theorem de_Tu_faces_9 : decode prog_1_method_20_code 9 = .ok (.ifCond .lt 10, 3) := by decide +kernel
theorem de_Tu_faces_12 : decode prog_1_method_20_code 12 = .ok (.iload_n 2, 1) := by decide +kernel
theorem de_Tu_faces_13 : decode prog_1_method_20_code 13 = .ok (.sipush 200, 3) := by decide +kernel
theorem de_Tu_faces_16 : decode prog_1_method_20_code 16 = .ok (.if_icmp .le 5, 3) := by decide +kernel
theorem de_Tu_faces_19 : decode prog_1_method_20_code 19 = .ok (.iconst (-1), 1) := by decide +kernel
theorem de_Tu_faces_20 : decode prog_1_method_20_code 20 = .ok (.ireturn, 1) := by decide +kernel
theorem de_Tu_faces_21 : decode prog_1_method_20_code 21 = .ok (.aload_n 0, 1) := by decide +kernel
theorem de_Tu_faces_22 : decode prog_1_method_20_code 22 = .ok (.getfield 19, 3) := by decide +kernel
theorem de_Tu_faces_25 : decode prog_1_method_20_code 25 = .ok (.getfield 126, 3) := by decide +kernel
theorem de_Tu_faces_28 : decode prog_1_method_20_code 28 = .ok (.iload_n 1, 1) := by decide +kernel
theorem de_Tu_faces_29 : decode prog_1_method_20_code 29 = .ok (.iaload, 1) := by decide +kernel
theorem de_Tu_faces_30 : decode prog_1_method_20_code 30 = .ok (.aload_n 0, 1) := by decide +kernel
theorem de_Tu_faces_31 : decode prog_1_method_20_code 31 = .ok (.getfield 19, 3) := by decide +kernel
theorem de_Tu_faces_34 : decode prog_1_method_20_code 34 = .ok (.iload_n 2, 1) := by decide +kernel
theorem de_Tu_faces_35 : decode prog_1_method_20_code 35 = .ok (.invokevirtual 241, 3) := by decide +kernel
theorem de_Tu_faces_38 : decode prog_1_method_20_code 38 = .ok (.invokestatic 244, 3) := by decide +kernel
theorem de_Tu_faces_41 : decode prog_1_method_20_code 41 = .ok (.ireturn, 1) := by decide +kernel
set_option maxHeartbeats 4000000 in
set_option maxRecDepth 10000 in
theorem co_Tu_faces {a b : Nat} {rc : Int} {f : Int → Int} {x B : Int} {w : ab_W} (hI : sg_ok B f) (t0 : tu_at a b rc w) (hR : ri_at_j a f x w) (y1 : Int) (hy1 : ab_in y1) (y2 : Int) (hy2 : ab_in y2) : ab_Mt g_G g_rs mt_Tu_faces 3 0 0 [ab_R 0, ab_I y1, ab_I y2] w (ab_is (some (ab_I (if (0 ≤ y1 ∧ y1 < f 1) ∧ 0 ≤ y2 ∧ y2 ≤ 200 then (f (46 + y1) + cs_ang f y2.toNat) % 12 else -1))) w) := by
  have ht0 := t0
  have hR0 := hR
  have hI0 := hI
  unfold tu_at at t0
  obtain ⟨sl, fs, vo, li, ra, wo, dh, da, hzz⟩ := hR
  obtain ⟨ds, dn, vw, q0, q1, q2, q3, q4, hzz⟩ := hzz
  obtain ⟨q5, q6, q7, q8, q9, q10, q11, q12, hzz⟩ := hzz
  obtain ⟨e1, e2, e3, e4, e5, e6, e7, e8, e9⟩ := hzz
  obtain ⟨i0, i1, i2, i3, i4, i5, i6, i7, hzz⟩ := sg_all hI
  obtain ⟨i8, i9, i10, i11, i12, i13, i14, i15, hzz⟩ := hzz
  obtain ⟨i16, i17⟩ := hzz
  refine ab_Mt.of rfl (Nat.le_of_ble_eq_true rfl) ?_
  show ab_Ev g_G g_rs mt_Tu_faces _ _ _ 0 [some (ab_R 0), some (ab_I y1), some (ab_I y2)] [] _ _
  refine ev_aload_n de_Tu_faces_0 rfl rfl ?_
  refine ev_iload_n de_Tu_faces_1 rfl rfl ?_
  refine ev_vv (ci := 10) de_Tu_faces_2 (co_Tu_hasHouse hI0 ht0 hR0 _ (by assumption)) kb_Tu_118 ⟨im_Tu_hasHouse, se_Tu_hasHouse⟩ rfl t0 rfl (Nat.le_of_ble_eq_true rfl) (by decide) rfl ?_
  refine ev_if_eq (tgt := 19) de_Tu_faces_5 (by decide) (by first | omega | (split <;> decide)) (fun h5 => ?_) (fun h5 => ?_)
  · skip
    refine ev_iconst de_Tu_faces_19 ?_
    exact ev_ireturn de_Tu_faces_20 rfl ⟨congrArg (fun z => some (ab_I z)) (by (try split at h5) <;> (repeat' split) <;> omega), rfl⟩
  · skip
    refine ev_iload_n de_Tu_faces_8 rfl rfl ?_
    refine ev_if_lt (tgt := 19) de_Tu_faces_9 (by decide) (by first | omega | assumption) (fun h9 => ?_) (fun h9 => ?_)
    · skip
      refine ev_iconst de_Tu_faces_19 ?_
      exact ev_ireturn de_Tu_faces_20 rfl ⟨congrArg (fun z => some (ab_I z)) (by (try split at h5) <;> (repeat' split) <;> omega), rfl⟩
    · skip
      refine ev_iload_n de_Tu_faces_12 rfl rfl ?_
      refine ev_sipush de_Tu_faces_13 rfl ?_
      refine ev_icmp_le (tgt := 21) de_Tu_faces_16 (by decide) (by first | omega | assumption) (by first | omega | assumption) (fun h16 => ?_) (fun h16 => ?_)
      · skip
        have hh1 : 0 ≤ y1 ∧ y1 < f 1 := by split at h5 <;> omega
        have z2 := (e2 y1 (by omega) (by omega)).1
        have z1 := e1 y1 (by omega) (by omega)
        have ab := cs_ang_b hI0 y2.toNat
        have m24 := Int.emod_nonneg (f 5 + y2) (show (24 : Int) ≠ 0 by decide)
        have m25 := Int.emod_lt_of_pos (f 5 + y2) (show (0 : Int) < 24 by decide)
        refine ev_aload_n de_Tu_faces_21 rfl rfl ?_
        refine ev_getfield de_Tu_faces_22 t0 fl_Tu_19 rfl ?_
        refine ev_getfield de_Tu_faces_25 q0 fl_Tu_126 rfl ?_
        refine ev_iload_n de_Tu_faces_28 rfl rfl ?_
        refine ev_iaload de_Tu_faces_29 q1 (by first | omega | assumption) (by first | omega | assumption) (by first | omega | assumption) ?_
        refine ev_aload_n de_Tu_faces_30 rfl rfl ?_
        refine ev_getfield de_Tu_faces_31 t0 fl_Tu_19 rfl ?_
        refine ev_iload_n de_Tu_faces_34 rfl rfl ?_
        refine ev_vv (ci := 5) de_Tu_faces_35 (co_Ri_angleOn_j hI0 hR0 _ (by omega) (by omega)) kb_Tu_241 ⟨im_Ri_angleOn, se_Ri_angleOn⟩ rfl q0 rfl (Nat.le_of_ble_eq_true rfl) (by decide) rfl ?_
        refine ev_sv de_Tu_faces_38 (co_Tu_facedBy _ _ _ (by omega) (by omega) (by omega) (by omega)) kb_Tu_244 sc_Tu_facedBy rfl (Nat.le_of_ble_eq_true rfl) (by decide) rfl ?_
        exact ev_ireturn de_Tu_faces_41 rfl ⟨congrArg (fun z => some (ab_I z)) (by (try split at h5) <;> (repeat' split) <;> omega), rfl⟩
      · skip
        refine ev_iconst de_Tu_faces_19 ?_
        exact ev_ireturn de_Tu_faces_20 rfl ⟨congrArg (fun z => some (ab_I z)) (by (try split at h5) <;> (repeat' split) <;> omega), rfl⟩
theorem de_Tu_sees_0 : decode prog_1_method_21_code 0 = .ok (.aload_n 0, 1) := by decide +kernel
theorem de_Tu_sees_1 : decode prog_1_method_21_code 1 = .ok (.iload_n 1, 1) := by decide +kernel
theorem de_Tu_sees_2 : decode prog_1_method_21_code 2 = .ok (.invokevirtual 118, 3) := by decide +kernel
theorem de_Tu_sees_5 : decode prog_1_method_21_code 5 = .ok (.ifCond .eq 14, 3) := by decide +kernel
theorem de_Tu_sees_8 : decode prog_1_method_21_code 8 = .ok (.iload_n 2, 1) := by decide +kernel
theorem de_Tu_sees_9 : decode prog_1_method_21_code 9 = .ok (.ifCond .lt 10, 3) := by decide +kernel
theorem de_Tu_sees_12 : decode prog_1_method_21_code 12 = .ok (.iload_n 2, 1) := by decide +kernel
theorem de_Tu_sees_13 : decode prog_1_method_21_code 13 = .ok (.sipush 200, 3) := by decide +kernel
theorem de_Tu_sees_16 : decode prog_1_method_21_code 16 = .ok (.if_icmp .le 5, 3) := by decide +kernel
theorem de_Tu_sees_19 : decode prog_1_method_21_code 19 = .ok (.iconst (-1), 1) := by decide +kernel
theorem de_Tu_sees_20 : decode prog_1_method_21_code 20 = .ok (.ireturn, 1) := by decide +kernel
theorem de_Tu_sees_21 : decode prog_1_method_21_code 21 = .ok (.aload_n 0, 1) := by decide +kernel
theorem de_Tu_sees_22 : decode prog_1_method_21_code 22 = .ok (.getfield 19, 3) := by decide +kernel
theorem de_Tu_sees_25 : decode prog_1_method_21_code 25 = .ok (.aload_n 0, 1) := by decide +kernel
theorem de_Tu_sees_26 : decode prog_1_method_21_code 26 = .ok (.getfield 19, 3) := by decide +kernel
theorem de_Tu_sees_29 : decode prog_1_method_21_code 29 = .ok (.getfield 126, 3) := by decide +kernel
theorem de_Tu_sees_32 : decode prog_1_method_21_code 32 = .ok (.iload_n 1, 1) := by decide +kernel
theorem de_Tu_sees_33 : decode prog_1_method_21_code 33 = .ok (.iaload, 1) := by decide +kernel
theorem de_Tu_sees_34 : decode prog_1_method_21_code 34 = .ok (.aload_n 0, 1) := by decide +kernel
theorem de_Tu_sees_35 : decode prog_1_method_21_code 35 = .ok (.getfield 19, 3) := by decide +kernel
theorem de_Tu_sees_38 : decode prog_1_method_21_code 38 = .ok (.iload_n 2, 1) := by decide +kernel
theorem de_Tu_sees_39 : decode prog_1_method_21_code 39 = .ok (.invokevirtual 241, 3) := by decide +kernel
theorem de_Tu_sees_42 : decode prog_1_method_21_code 42 = .ok (.invokestatic 244, 3) := by decide +kernel
theorem de_Tu_sees_45 : decode prog_1_method_21_code 45 = .ok (.aload_n 0, 1) := by decide +kernel
theorem de_Tu_sees_46 : decode prog_1_method_21_code 46 = .ok (.getfield 19, 3) := by decide +kernel
theorem de_Tu_sees_49 : decode prog_1_method_21_code 49 = .ok (.iload_n 2, 1) := by decide +kernel
theorem de_Tu_sees_50 : decode prog_1_method_21_code 50 = .ok (.invokevirtual 247, 3) := by decide +kernel
theorem de_Tu_sees_53 : decode prog_1_method_21_code 53 = .ok (.invokevirtual 139, 3) := by decide +kernel
theorem de_Tu_sees_56 : decode prog_1_method_21_code 56 = .ok (.ireturn, 1) := by decide +kernel
set_option maxHeartbeats 4000000 in
set_option maxRecDepth 10000 in
theorem co_Tu_sees {a b : Nat} {rc : Int} {f : Int → Int} {x B : Int} {w : ab_W} (hI : sg_ok B f) (t0 : tu_at a b rc w) (hR : ri_at_j a f x w) (y1 : Int) (hy1 : ab_in y1) (y2 : Int) (hy2 : ab_in y2) : ab_Mt g_G g_rs mt_Tu_sees 3 0 0 [ab_R 0, ab_I y1, ab_I y2] w (ab_is (some (ab_I (if (0 ≤ y1 ∧ y1 < f 1) ∧ 0 ≤ y2 ∧ y2 ≤ 200 then ((sp_sortsAt f ((f (46 + y1) + cs_ang f y2.toNat) % 12) ((f 5 + y2) % 24) : Nat) : Int) else -1))) w) := by
  have ht0 := t0
  have hR0 := hR
  have hI0 := hI
  unfold tu_at at t0
  obtain ⟨sl, fs, vo, li, ra, wo, dh, da, hzz⟩ := hR
  obtain ⟨ds, dn, vw, q0, q1, q2, q3, q4, hzz⟩ := hzz
  obtain ⟨q5, q6, q7, q8, q9, q10, q11, q12, hzz⟩ := hzz
  obtain ⟨e1, e2, e3, e4, e5, e6, e7, e8, e9⟩ := hzz
  obtain ⟨i0, i1, i2, i3, i4, i5, i6, i7, hzz⟩ := sg_all hI
  obtain ⟨i8, i9, i10, i11, i12, i13, i14, i15, hzz⟩ := hzz
  obtain ⟨i16, i17⟩ := hzz
  refine ab_Mt.of rfl (Nat.le_of_ble_eq_true rfl) ?_
  show ab_Ev g_G g_rs mt_Tu_sees _ _ _ 0 [some (ab_R 0), some (ab_I y1), some (ab_I y2)] [] _ _
  refine ev_aload_n de_Tu_sees_0 rfl rfl ?_
  refine ev_iload_n de_Tu_sees_1 rfl rfl ?_
  refine ev_vv (ci := 10) de_Tu_sees_2 (co_Tu_hasHouse hI0 ht0 hR0 _ (by assumption)) kb_Tu_118 ⟨im_Tu_hasHouse, se_Tu_hasHouse⟩ rfl t0 rfl (Nat.le_of_ble_eq_true rfl) (by decide) rfl ?_
  refine ev_if_eq (tgt := 19) de_Tu_sees_5 (by decide) (by first | omega | (split <;> decide)) (fun h5 => ?_) (fun h5 => ?_)
  · skip
    refine ev_iconst de_Tu_sees_19 ?_
    exact ev_ireturn de_Tu_sees_20 rfl ⟨congrArg (fun z => some (ab_I z)) (by (try split at h5) <;> (repeat' split) <;> omega), rfl⟩
  · skip
    refine ev_iload_n de_Tu_sees_8 rfl rfl ?_
    refine ev_if_lt (tgt := 19) de_Tu_sees_9 (by decide) (by first | omega | assumption) (fun h9 => ?_) (fun h9 => ?_)
    · skip
      refine ev_iconst de_Tu_sees_19 ?_
      exact ev_ireturn de_Tu_sees_20 rfl ⟨congrArg (fun z => some (ab_I z)) (by (try split at h5) <;> (repeat' split) <;> omega), rfl⟩
    · skip
      refine ev_iload_n de_Tu_sees_12 rfl rfl ?_
      refine ev_sipush de_Tu_sees_13 rfl ?_
      refine ev_icmp_le (tgt := 21) de_Tu_sees_16 (by decide) (by first | omega | assumption) (by first | omega | assumption) (fun h16 => ?_) (fun h16 => ?_)
      · skip
        have hh1 : 0 ≤ y1 ∧ y1 < f 1 := by split at h5 <;> omega
        have z2 := (e2 y1 (by omega) (by omega)).1
        have z1 := e1 y1 (by omega) (by omega)
        have ab := cs_ang_b hI0 y2.toNat
        have m24 := Int.emod_nonneg (f 5 + y2) (show (24 : Int) ≠ 0 by decide)
        have m25 := Int.emod_lt_of_pos (f 5 + y2) (show (0 : Int) < 24 by decide)
        refine ev_aload_n de_Tu_sees_21 rfl rfl ?_
        refine ev_getfield de_Tu_sees_22 t0 fl_Tu_19 rfl ?_
        refine ev_aload_n de_Tu_sees_25 rfl rfl ?_
        refine ev_getfield de_Tu_sees_26 t0 fl_Tu_19 rfl ?_
        refine ev_getfield de_Tu_sees_29 q0 fl_Tu_126 rfl ?_
        refine ev_iload_n de_Tu_sees_32 rfl rfl ?_
        refine ev_iaload de_Tu_sees_33 q1 (by first | omega | assumption) (by first | omega | assumption) (by first | omega | assumption) ?_
        refine ev_aload_n de_Tu_sees_34 rfl rfl ?_
        refine ev_getfield de_Tu_sees_35 t0 fl_Tu_19 rfl ?_
        refine ev_iload_n de_Tu_sees_38 rfl rfl ?_
        refine ev_vv (ci := 5) de_Tu_sees_39 (co_Ri_angleOn_j hI0 hR0 _ (by omega) (by omega)) kb_Tu_241 ⟨im_Ri_angleOn, se_Ri_angleOn⟩ rfl q0 rfl (Nat.le_of_ble_eq_true rfl) (by decide) rfl ?_
        refine ev_sv de_Tu_sees_42 (co_Tu_facedBy _ _ _ (by omega) (by omega) (by omega) (by omega)) kb_Tu_244 sc_Tu_facedBy rfl (Nat.le_of_ble_eq_true rfl) (by decide) rfl ?_
        refine ev_aload_n de_Tu_sees_45 rfl rfl ?_
        refine ev_getfield de_Tu_sees_46 t0 fl_Tu_19 rfl ?_
        refine ev_iload_n de_Tu_sees_49 rfl rfl ?_
        refine ev_vv (ci := 5) de_Tu_sees_50 (co_Ri_hourOn_j hI0 hR0 _ (by omega) (by omega)) kb_Tu_247 ⟨im_Ri_hourOn, se_Ri_hourOn⟩ rfl q0 rfl (Nat.le_of_ble_eq_true rfl) (by decide) rfl ?_
        refine ev_vv (ci := 5) de_Tu_sees_53 (co_Ri_sortsAt_j hI0 hR0 _ _ (by omega) (by omega) (by omega) (by omega)) kb_Tu_139 ⟨im_Ri_sortsAt, se_Ri_sortsAt⟩ rfl q0 rfl (Nat.le_of_ble_eq_true rfl) (by decide) rfl ?_
        exact ev_ireturn de_Tu_sees_56 rfl ⟨congrArg (fun z => some (ab_I z)) (by rw [if_pos ⟨hh1, by omega, by omega⟩, z2]), rfl⟩
      · skip
        refine ev_iconst de_Tu_sees_19 ?_
        exact ev_ireturn de_Tu_sees_20 rfl ⟨congrArg (fun z => some (ab_I z)) (by (try split at h5) <;> (repeat' split) <;> omega), rfl⟩
theorem de_Tu_day_0 : decode prog_1_method_22_code 0 = .ok (.aload_n 0, 1) := by decide +kernel
theorem de_Tu_day_1 : decode prog_1_method_22_code 1 = .ok (.iload_n 1, 1) := by decide +kernel
theorem de_Tu_day_2 : decode prog_1_method_22_code 2 = .ok (.invokevirtual 118, 3) := by decide +kernel
theorem de_Tu_day_5 : decode prog_1_method_22_code 5 = .ok (.ifCond .eq 23, 3) := by decide +kernel
theorem de_Tu_day_8 : decode prog_1_method_22_code 8 = .ok (.aload_n 0, 1) := by decide +kernel
theorem de_Tu_day_9 : decode prog_1_method_22_code 9 = .ok (.getfield 19, 3) := by decide +kernel
theorem de_Tu_day_12 : decode prog_1_method_22_code 12 = .ok (.iload_n 1, 1) := by decide +kernel
theorem de_Tu_day_13 : decode prog_1_method_22_code 13 = .ok (.aload_n 0, 1) := by decide +kernel
theorem de_Tu_day_14 : decode prog_1_method_22_code 14 = .ok (.getfield 19, 3) := by decide +kernel
theorem de_Tu_day_17 : decode prog_1_method_22_code 17 = .ok (.getfield 126, 3) := by decide +kernel
theorem de_Tu_day_20 : decode prog_1_method_22_code 20 = .ok (.iload_n 1, 1) := by decide +kernel
theorem de_Tu_day_21 : decode prog_1_method_22_code 21 = .ok (.iaload, 1) := by decide +kernel
theorem de_Tu_day_22 : decode prog_1_method_22_code 22 = .ok (.invokevirtual 250, 3) := by decide +kernel
theorem de_Tu_day_25 : decode prog_1_method_22_code 25 = .ok (.goto 5, 3) := by decide +kernel
theorem de_Tu_day_28 : decode prog_1_method_22_code 28 = .ok (.ldc 208, 2) := by decide +kernel
theorem de_Tu_day_30 : decode prog_1_method_22_code 30 = .ok (.ireturn, 1) := by decide +kernel
set_option maxHeartbeats 4000000 in
set_option maxRecDepth 10000 in
theorem co_Tu_day {a b : Nat} {rc : Int} {f : Int → Int} {x B : Int} {w : ab_W} (hI : sg_ok B f) (t0 : tu_at a b rc w) (hR : ri_at_j a f x w) (y1 : Int) (hy1 : ab_in y1) : ab_Mt g_G g_rs mt_Tu_day 3 0 0 [ab_R 0, ab_I y1] w (ab_is (some (ab_I (if 0 ≤ y1 ∧ y1 < f 1 then cs_day f y1 (f (46 + y1)) 24 else -100000))) w) := by
  have ht0 := t0
  have hR0 := hR
  have hI0 := hI
  unfold tu_at at t0
  obtain ⟨sl, fs, vo, li, ra, wo, dh, da, hzz⟩ := hR
  obtain ⟨ds, dn, vw, q0, q1, q2, q3, q4, hzz⟩ := hzz
  obtain ⟨q5, q6, q7, q8, q9, q10, q11, q12, hzz⟩ := hzz
  obtain ⟨e1, e2, e3, e4, e5, e6, e7, e8, e9⟩ := hzz
  obtain ⟨i0, i1, i2, i3, i4, i5, i6, i7, hzz⟩ := sg_all hI
  obtain ⟨i8, i9, i10, i11, i12, i13, i14, i15, hzz⟩ := hzz
  obtain ⟨i16, i17⟩ := hzz
  refine ab_Mt.of rfl (Nat.le_of_ble_eq_true rfl) ?_
  show ab_Ev g_G g_rs mt_Tu_day _ _ _ 0 [some (ab_R 0), some (ab_I y1)] [] _ _
  refine ev_aload_n de_Tu_day_0 rfl rfl ?_
  refine ev_iload_n de_Tu_day_1 rfl rfl ?_
  refine ev_vv (ci := 10) de_Tu_day_2 (co_Tu_hasHouse hI0 ht0 hR0 _ (by assumption)) kb_Tu_118 ⟨im_Tu_hasHouse, se_Tu_hasHouse⟩ rfl t0 rfl (Nat.le_of_ble_eq_true rfl) (by decide) rfl ?_
  refine ev_if_eq (tgt := 28) de_Tu_day_5 (by decide) (by first | omega | (split <;> decide)) (fun h5 => ?_) (fun h5 => ?_)
  · skip
    refine ev_ldc (n := -100000) de_Tu_day_28 cn_Tu_208 rfl ?_
    exact ev_ireturn de_Tu_day_30 rfl ⟨congrArg (fun z => some (ab_I z)) (by first | (rw [if_pos hh1, z2]) | ((try split at h5) <;> (repeat' split) <;> omega)), rfl⟩
  · skip
    have hh1 : 0 ≤ y1 ∧ y1 < f 1 := by split at h5 <;> omega
    have z2 := (e2 y1 (by omega) (by omega)).1
    have z1 := e1 y1 (by omega) (by omega)
    refine ev_aload_n de_Tu_day_8 rfl rfl ?_
    refine ev_getfield de_Tu_day_9 t0 fl_Tu_19 rfl ?_
    refine ev_iload_n de_Tu_day_12 rfl rfl ?_
    refine ev_aload_n de_Tu_day_13 rfl rfl ?_
    refine ev_getfield de_Tu_day_14 t0 fl_Tu_19 rfl ?_
    refine ev_getfield de_Tu_day_17 q0 fl_Tu_126 rfl ?_
    refine ev_iload_n de_Tu_day_20 rfl rfl ?_
    refine ev_iaload de_Tu_day_21 q1 (by first | omega | assumption) (by first | omega | assumption) (by first | omega | assumption) ?_
    refine ev_vv (ci := 5) de_Tu_day_22 (co_Ri_dayIn_j hI0 hR0 _ _ (by omega) (by omega) (by omega) (by omega)) kb_Tu_250 ⟨im_Ri_dayIn, se_Ri_dayIn⟩ rfl q0 rfl (Nat.le_of_ble_eq_true rfl) (by decide) rfl ?_
    refine ev_goto (tgt := 30) de_Tu_day_25 (by decide) ?_
    exact ev_ireturn de_Tu_day_30 rfl ⟨congrArg (fun z => some (ab_I z)) (by first | (rw [if_pos hh1, z2]) | ((try split at h5) <;> (repeat' split) <;> omega)), rfl⟩
