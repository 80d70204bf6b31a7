/-! the Machine's rate of a RULE -/
theorem mac_tp {m : Nat} {sk : Int → Int64} {tp tp2 : Int} {w : ab_W} (h : mac m sk tp w) (e : tp = tp2) : mac m sk tp2 w := e ▸ h
theorem co_Ma_push_j {m : Nat} {sk : Int → Int64} {st : List Int64} {w : ab_W} (hM : mac m sk (st.length : Int) w) (hs : sp_stk sk st) (hl : st.length < 32) (v : Int64) : ab_Mt g_G g_rs mt_Ma_push 0 0 0 [ab_R m, ab_J v] w (fun r w2 => r = none ∧ (∃ sk2, mac m sk2 ((v :: st).length : Int) w2 ∧ sp_stk sk2 (v :: st)) ∧ fr_at m 2 w w2) := by
  refine ab_Mt.conseq (fun r w2 h => ?_) (co_Ma_push hM (by omega) (by omega) v)
  obtain ⟨h1, h2, h3⟩ := h
  rw [if_pos (by omega), if_pos (by omega)] at h2
  exact ⟨h1, ⟨_, mac_tp h2 (by rw [List.length_cons]; omega), sp_stk_push hs v⟩, h3⟩
theorem co_Ma_pop_j {m : Nat} {sk : Int → Int64} {y : Int64} {st : List Int64} {w : ab_W} (hM : mac m sk ((y :: st).length : Int) w) (hs : sp_stk sk (y :: st)) (hl : (y :: st).length ≤ 32) : ab_Mt g_G g_rs mt_Ma_pop 0 0 0 [ab_R m] w (fun r w2 => r = some (ab_J y) ∧ (mac m sk (st.length : Int) w2 ∧ sp_stk sk st) ∧ fr_at m 2 w w2) := by
  have hp := sp_stk_pop hs
  rw [List.length_cons] at hl
  refine ab_Mt.conseq (fun r w2 h => ?_) (co_Ma_pop hM (by omega) (by rw [List.length_cons]; omega))
  obtain ⟨h1, h2, h3⟩ := h
  rw [if_neg (by rw [List.length_cons]; omega)] at h1 h2
  have e : (((y :: st).length : Nat) : Int) - 1 = (st.length : Int) := by rw [List.length_cons]; omega
  rw [e] at h1 h2
  rw [hp.2] at h1
  exact ⟨h1, ⟨h2, hp.1⟩, h3⟩
theorem cs_wd_in {B : Int} {f : Int → Int} (hI : sg_ok B f) {k : Int} (h0 : 0 ≤ k) (h1 : k ≤ 11) : ab_in (cs_wd f k) := by
  obtain ⟨i0, i1, i2, i3, i4, i5, i6, i7, hzz⟩ := sg_all hI
  obtain ⟨i8, i9, i10, i11, i12, i13, i14, i15, hzz⟩ := hzz
  obtain ⟨i16, i17⟩ := hzz
  have lb : ∀ j : Int, 0 ≤ j → j < ((f 1).toNat : Int) → -45 ≤ sp_likesOf f j ∧ sp_likesOf f j ≤ 45 := fun j a b => sp_likesAt_b hI a (by omega) _ _
  rcases (by omega : k = 0 ∨ k = 1 ∨ k = 2 ∨ k = 3 ∨ k = 4 ∨ k = 5 ∨ k = 6 ∨ k = 7 ∨ k = 8 ∨ k = 9 ∨ k = 10 ∨ k = 11) with rfl | rfl | rfl | rfl | rfl | rfl | rfl | rfl | rfl | rfl | rfl | rfl
  · show ab_in (f 5); omega
  · show ab_in (f 6); omega
  · show ab_in (f 4); omega
  · show ab_in (f (10 + f 5)); have := i9 (10 + f 5) (by omega) (by omega); omega
  · show ab_in (f (34 + f 4)); have := i10 (34 + f 4) (by omega) (by omega); omega
  · show ab_in (sp_sum (sp_likesOf f) (f 1).toNat); have := sp_sum_b (f 1).toNat lb; omega
  · show ab_in (sp_best (sp_likesOf f) (f 1).toNat); have := sp_best_b (g := sp_likesOf f) (f 1).toNat lb; omega
  · show ab_in (sp_lst (sp_likesOf f) (f 1).toNat); have := sp_lst_b (g := sp_likesOf f) (f 1).toNat lb; omega
  · show ab_in (sp_sum (fun h => if (sp_whoStay f).testBit h.toNat then f (53 + h) else 0) (f 1).toNat)
    have := sp_sum_b (g := fun h => if (sp_whoStay f).testBit h.toNat then f (53 + h) else 0) (a := 0) (b := 9) (f 1).toNat (fun j a b => by have := i12 (53 + j) (by omega) (by omega); (try dsimp only); split <;> omega)
    omega
  · show ab_in (sp_sum (fun h => if (sp_every f).testBit h.toNat then f (53 + h) else 0) (f 1).toNat)
    have := sp_sum_b (g := fun h => if (sp_every f).testBit h.toNat then f (53 + h) else 0) (a := 0) (b := 9) (f 1).toNat (fun j a b => by have := i12 (53 + j) (by omega) (by omega); (try dsimp only); split <;> omega)
    omega
  · show ab_in (sp_sum (fun h => bit_at (f 3).toNat (sp_facesOf f h).toNat) (f 1).toNat)
    have := sp_sum_b (g := fun h => bit_at (f 3).toNat (sp_facesOf f h).toNat) (a := 0) (b := 1) (f 1).toNat (fun j a b => by have := bit_at_01 (f 3).toNat (sp_facesOf f j).toNat; (try dsimp only); omega)
    omega
  · show ab_in (f 8); omega
theorem len_tl {y : Int64} {st : List Int64} (h : (y :: st).length ≤ 32) : st.length ≤ 32 := by rw [List.length_cons] at h; omega
theorem de_Ma_rateBy_0 : decode prog_5_method_2_code 0 = .ok (.aload_n 0, 1) := by decide +kernel
theorem de_Ma_rateBy_1 : decode prog_5_method_2_code 1 = .ok (.iconst 0, 1) := by decide +kernel
theorem de_Ma_rateBy_2 : decode prog_5_method_2_code 2 = .ok (.putfield 15, 3) := by decide +kernel
theorem de_Ma_rateBy_5 : decode prog_5_method_2_code 5 = .ok (.iconst 0, 1) := by decide +kernel
theorem de_Ma_rateBy_6 : decode prog_5_method_2_code 6 = .ok (.istore_n 3, 1) := by decide +kernel
theorem de_Ma_rateBy_7 : decode prog_5_method_2_code 7 = .ok (.iload_n 3, 1) := by decide +kernel
theorem de_Ma_rateBy_8 : decode prog_5_method_2_code 8 = .ok (.aload_n 1, 1) := by decide +kernel
theorem de_Ma_rateBy_9 : decode prog_5_method_2_code 9 = .ok (.getfield 19, 3) := by decide +kernel
theorem de_Ma_rateBy_12 : decode prog_5_method_2_code 12 = .ok (.arraylength, 1) := by decide +kernel
theorem de_Ma_rateBy_13 : decode prog_5_method_2_code 13 = .ok (.if_icmp .ge 169, 3) := by decide +kernel
theorem de_Ma_rateBy_16 : decode prog_5_method_2_code 16 = .ok (.aload_n 1, 1) := by decide +kernel
theorem de_Ma_rateBy_17 : decode prog_5_method_2_code 17 = .ok (.getfield 19, 3) := by decide +kernel
theorem de_Ma_rateBy_20 : decode prog_5_method_2_code 20 = .ok (.iload_n 3, 1) := by decide +kernel
theorem de_Ma_rateBy_21 : decode prog_5_method_2_code 21 = .ok (.iaload, 1) := by decide +kernel
theorem de_Ma_rateBy_22 : decode prog_5_method_2_code 22 = .ok (.istore 4, 2) := by decide +kernel
theorem de_Ma_rateBy_24 : decode prog_5_method_2_code 24 = .ok (.iload 4, 2) := by decide +kernel
theorem de_Ma_rateBy_26 : decode prog_5_method_2_code 26 = .ok (.ifCond .lt 13, 3) := by decide +kernel
theorem de_Ma_rateBy_29 : decode prog_5_method_2_code 29 = .ok (.aload_n 0, 1) := by decide +kernel
theorem de_Ma_rateBy_30 : decode prog_5_method_2_code 30 = .ok (.iload 4, 2) := by decide +kernel
theorem de_Ma_rateBy_32 : decode prog_5_method_2_code 32 = .ok (.i2l, 1) := by decide +kernel
theorem de_Ma_rateBy_33 : decode prog_5_method_2_code 33 = .ok (.invokevirtual 25, 3) := by decide +kernel
theorem de_Ma_rateBy_36 : decode prog_5_method_2_code 36 = .ok (.goto 140, 3) := by decide +kernel
theorem de_Ma_rateBy_39 : decode prog_5_method_2_code 39 = .ok (.iload 4, 2) := by decide +kernel
theorem de_Ma_rateBy_41 : decode prog_5_method_2_code 41 = .ok (.bipush (-12), 2) := by decide +kernel
theorem de_Ma_rateBy_43 : decode prog_5_method_2_code 43 = .ok (.if_icmp .lt 19, 3) := by decide +kernel
theorem de_Ma_rateBy_46 : decode prog_5_method_2_code 46 = .ok (.aload_n 0, 1) := by decide +kernel
theorem de_Ma_rateBy_47 : decode prog_5_method_2_code 47 = .ok (.iconst (-1), 1) := by decide +kernel
theorem de_Ma_rateBy_48 : decode prog_5_method_2_code 48 = .ok (.iload 4, 2) := by decide +kernel
theorem de_Ma_rateBy_50 : decode prog_5_method_2_code 50 = .ok (.isub, 1) := by decide +kernel
theorem de_Ma_rateBy_51 : decode prog_5_method_2_code 51 = .ok (.aload_n 2, 1) := by decide +kernel
theorem de_Ma_rateBy_52 : decode prog_5_method_2_code 52 = .ok (.invokestatic 29, 3) := by decide +kernel
theorem de_Ma_rateBy_55 : decode prog_5_method_2_code 55 = .ok (.i2l, 1) := by decide +kernel
theorem de_Ma_rateBy_56 : decode prog_5_method_2_code 56 = .ok (.invokevirtual 25, 3) := by decide +kernel
theorem de_Ma_rateBy_59 : decode prog_5_method_2_code 59 = .ok (.goto 117, 3) := by decide +kernel
theorem de_Ma_rateBy_62 : decode prog_5_method_2_code 62 = .ok (.iload 4, 2) := by decide +kernel
theorem de_Ma_rateBy_64 : decode prog_5_method_2_code 64 = .ok (.bipush (-33), 2) := by decide +kernel
theorem de_Ma_rateBy_66 : decode prog_5_method_2_code 66 = .ok (.if_icmp .ne 27, 3) := by decide +kernel
theorem de_Ma_rateBy_69 : decode prog_5_method_2_code 69 = .ok (.aload_n 0, 1) := by decide +kernel
theorem de_Ma_rateBy_70 : decode prog_5_method_2_code 70 = .ok (.aload_n 0, 1) := by decide +kernel
theorem de_Ma_rateBy_71 : decode prog_5_method_2_code 71 = .ok (.invokevirtual 33, 3) := by decide +kernel
theorem de_Ma_rateBy_74 : decode prog_5_method_2_code 74 = .ok (.lconst 0, 1) := by decide +kernel
theorem de_Ma_rateBy_75 : decode prog_5_method_2_code 75 = .ok (.lcmp, 1) := by decide +kernel
theorem de_Ma_rateBy_76 : decode prog_5_method_2_code 76 = .ok (.ifCond .ne 7, 3) := by decide +kernel
theorem de_Ma_rateBy_79 : decode prog_5_method_2_code 79 = .ok (.iconst 1, 1) := by decide +kernel
theorem de_Ma_rateBy_80 : decode prog_5_method_2_code 80 = .ok (.goto 4, 3) := by decide +kernel
theorem de_Ma_rateBy_83 : decode prog_5_method_2_code 83 = .ok (.iconst 0, 1) := by decide +kernel
theorem de_Ma_rateBy_84 : decode prog_5_method_2_code 84 = .ok (.invokestatic 37, 3) := by decide +kernel
theorem de_Ma_rateBy_87 : decode prog_5_method_2_code 87 = .ok (.invokevirtual 25, 3) := by decide +kernel
theorem de_Ma_rateBy_90 : decode prog_5_method_2_code 90 = .ok (.goto 86, 3) := by decide +kernel
theorem de_Ma_rateBy_93 : decode prog_5_method_2_code 93 = .ok (.iload 4, 2) := by decide +kernel
theorem de_Ma_rateBy_95 : decode prog_5_method_2_code 95 = .ok (.bipush (-34), 2) := by decide +kernel
theorem de_Ma_rateBy_97 : decode prog_5_method_2_code 97 = .ok (.if_icmp .ne 11, 3) := by decide +kernel
theorem de_Ma_rateBy_100 : decode prog_5_method_2_code 100 = .ok (.aload_n 0, 1) := by decide +kernel
theorem de_Ma_rateBy_101 : decode prog_5_method_2_code 101 = .ok (.invokevirtual 33, 3) := by decide +kernel
theorem de_Ma_rateBy_104 : decode prog_5_method_2_code 104 = .ok (.invokestatic 41, 3) := by decide +kernel
theorem de_Ma_rateBy_107 : decode prog_5_method_2_code 107 = .ok (.ireturn, 1) := by decide +kernel
theorem de_Ma_rateBy_108 : decode prog_5_method_2_code 108 = .ok (.iload 4, 2) := by decide +kernel
theorem de_Ma_rateBy_110 : decode prog_5_method_2_code 110 = .ok (.bipush (-35), 2) := by decide +kernel
theorem de_Ma_rateBy_112 : decode prog_5_method_2_code 112 = .ok (.if_icmp .ne 39, 3) := by decide +kernel
theorem de_Ma_rateBy_115 : decode prog_5_method_2_code 115 = .ok (.aload_n 0, 1) := by decide +kernel
theorem de_Ma_rateBy_116 : decode prog_5_method_2_code 116 = .ok (.invokevirtual 33, 3) := by decide +kernel
theorem de_Ma_rateBy_119 : decode prog_5_method_2_code 119 = .ok (.lconst 0, 1) := by decide +kernel
theorem de_Ma_rateBy_120 : decode prog_5_method_2_code 120 = .ok (.lcmp, 1) := by decide +kernel
theorem de_Ma_rateBy_121 : decode prog_5_method_2_code 121 = .ok (.ifCond .eq 7, 3) := by decide +kernel
theorem de_Ma_rateBy_124 : decode prog_5_method_2_code 124 = .ok (.iconst 1, 1) := by decide +kernel
theorem de_Ma_rateBy_125 : decode prog_5_method_2_code 125 = .ok (.goto 4, 3) := by decide +kernel
theorem de_Ma_rateBy_128 : decode prog_5_method_2_code 128 = .ok (.iconst 0, 1) := by decide +kernel
theorem de_Ma_rateBy_129 : decode prog_5_method_2_code 129 = .ok (.istore 5, 2) := by decide +kernel
theorem de_Ma_rateBy_131 : decode prog_5_method_2_code 131 = .ok (.aload_n 0, 1) := by decide +kernel
theorem de_Ma_rateBy_132 : decode prog_5_method_2_code 132 = .ok (.invokevirtual 33, 3) := by decide +kernel
theorem de_Ma_rateBy_135 : decode prog_5_method_2_code 135 = .ok (.lstore 6, 2) := by decide +kernel
theorem de_Ma_rateBy_137 : decode prog_5_method_2_code 137 = .ok (.iload 5, 2) := by decide +kernel
theorem de_Ma_rateBy_139 : decode prog_5_method_2_code 139 = .ok (.ifCond .eq 9, 3) := by decide +kernel
theorem de_Ma_rateBy_142 : decode prog_5_method_2_code 142 = .ok (.lload 6, 2) := by decide +kernel
theorem de_Ma_rateBy_144 : decode prog_5_method_2_code 144 = .ok (.invokestatic 41, 3) := by decide +kernel
theorem de_Ma_rateBy_147 : decode prog_5_method_2_code 147 = .ok (.ireturn, 1) := by decide +kernel
theorem de_Ma_rateBy_148 : decode prog_5_method_2_code 148 = .ok (.goto 28, 3) := by decide +kernel
theorem de_Ma_rateBy_151 : decode prog_5_method_2_code 151 = .ok (.aload_n 0, 1) := by decide +kernel
theorem de_Ma_rateBy_152 : decode prog_5_method_2_code 152 = .ok (.invokevirtual 33, 3) := by decide +kernel
theorem de_Ma_rateBy_155 : decode prog_5_method_2_code 155 = .ok (.lstore 5, 2) := by decide +kernel
theorem de_Ma_rateBy_157 : decode prog_5_method_2_code 157 = .ok (.aload_n 0, 1) := by decide +kernel
theorem de_Ma_rateBy_158 : decode prog_5_method_2_code 158 = .ok (.invokevirtual 33, 3) := by decide +kernel
theorem de_Ma_rateBy_161 : decode prog_5_method_2_code 161 = .ok (.lstore 7, 2) := by decide +kernel
theorem de_Ma_rateBy_163 : decode prog_5_method_2_code 163 = .ok (.aload_n 0, 1) := by decide +kernel
theorem de_Ma_rateBy_164 : decode prog_5_method_2_code 164 = .ok (.iload 4, 2) := by decide +kernel
theorem de_Ma_rateBy_166 : decode prog_5_method_2_code 166 = .ok (.lload 7, 2) := by decide +kernel
theorem de_Ma_rateBy_168 : decode prog_5_method_2_code 168 = .ok (.lload 5, 2) := by decide +kernel
theorem de_Ma_rateBy_170 : decode prog_5_method_2_code 170 = .ok (.invokestatic 45, 3) := by decide +kernel
theorem de_Ma_rateBy_173 : decode prog_5_method_2_code 173 = .ok (.invokevirtual 25, 3) := by decide +kernel
theorem de_Ma_rateBy_176 : decode prog_5_method_2_code 176 = .ok (.iinc 3 1, 3) := by decide +kernel
theorem de_Ma_rateBy_179 : decode prog_5_method_2_code 179 = .ok (.goto (-172), 3) := by decide +kernel
theorem de_Ma_rateBy_182 : decode prog_5_method_2_code 182 = .ok (.iconst 0, 1) := by decide +kernel
theorem de_Ma_rateBy_183 : decode prog_5_method_2_code 183 = .ok (.ireturn, 1) := by decide +kernel
set_option maxHeartbeats 4000000 in
set_option maxRecDepth 10000 in
theorem lo_Ma_rateBy {m p o n : Nat} {f cd : Int → Int} {x B z : Int} {ls : List Int} {w0 : ab_W} (hI : sg_ok B f) (hR : ri_at_j o f x w0) (r0 : w0[p]? = some (ab_ob 6 [ab_R (p + 1)])) (r1 : w0[p + 1]? = some (ab_ai 0 n cd)) (hn : ls.length = n) (hn2 : n ≤ 100000) (hcd : ∀ (k : Nat) (x : Int), ls[k]? = some x → cd (k : Int) = x) (hbd : ∀ x ∈ ls, -35 ≤ x ∧ x ≤ 99999 ∧ (x ≤ -21 ∨ -12 ≤ x)) (hdo : o + 13 ≤ m ∨ m + 2 ≤ o) (hdp : p + 2 ≤ m ∨ m + 2 ≤ p) : ∀ (nF : Nat) (k : Nat) (st : List Int64) (sk : Int → Int64) (w : ab_W) (x4 x5 x6 x7 x8 : Option ab_V), k ≤ ls.length → ls.length < k + nF → sp_stk sk st → st.length ≤ 32 → mac m sk (st.length : Int) w → fr_at m 2 w0 w → vm_go (sp_wf f) (ls.drop k) st = some z → ab_Ev g_G g_rs mt_Ma_rateBy 5 0 0 7 [some (ab_R m), some (ab_R p), some (ab_R o), some (ab_I (k : Int)), x4, x5, x6, x7, x8] [] w (fun r w2 => r = some (ab_I z) ∧ fr_at m 2 w0 w2 ∧ ∃ sk2 tp2, mac m sk2 tp2 w2) := by
  intro nF
  induction nF with
  | zero =>
    intro k st sk w x4 x5 x6 x7 x8
    intro g1 g2; omega
  | succ nF ih =>
    intro k st sk w x4 x5 x6 x7 x8
    intro g1 g2 hst hsl hM hf hgo
    have hI0 := hI
    have hR0 := rj_fr hR hf (by omega)
    have ro0 := (hf.2 p (by omega)).trans r0
    have ro1 := (hf.2 (p + 1) (by omega)).trans r1
    obtain ⟨m0, m1⟩ := id hM
    obtain ⟨sl, fs, vo, li, ra, wo, dh, da, hzz⟩ := hR
    obtain ⟨ds, dn, vw, q0, q1, q2, q3, q4, hzz⟩ := hzz
    obtain ⟨q5, q6, q7, q8, q9, q10, q11, q12, hzz⟩ := hzz
    obtain ⟨e1, e2, e3, e4, e5, e6, e7, e8, e9⟩ := hzz
    obtain ⟨i0, i1, i2, i3, i4, i5, i6, i7, hzz⟩ := sg_all hI
    obtain ⟨i8, i9, i10, i11, i12, i13, i14, i15, hzz⟩ := hzz
    obtain ⟨i16, i17⟩ := hzz
    refine ev_iload_n de_Ma_rateBy_7 rfl rfl ?_
    refine ev_aload_n de_Ma_rateBy_8 rfl rfl ?_
    refine ev_getfield de_Ma_rateBy_9 ro0 fl_Ma_19 rfl ?_
    refine ev_alen de_Ma_rateBy_12 ro1 (t := 0) (Or.inl ⟨0, cd, by decide, rfl⟩) ?_
    refine ev_icmp_ge (tgt := 182) de_Ma_rateBy_13 (by decide) (by omega) (by omega) (fun h13 => ?_) (fun h13 => ?_)
    · skip
      refine ev_iconst de_Ma_rateBy_182 ?_
      exact ev_ireturn de_Ma_rateBy_183 rfl ⟨congrArg (fun q => some (ab_I q)) (vg_end (by omega) hgo).symm, hf, _, _, hM⟩
    · skip
      obtain ⟨xo, hxo, hgo⟩ := vg_at (by omega) hgo
      have ecd := hcd k xo hxo
      have bx := hbd xo (List.mem_of_getElem? hxo)
      refine ev_aload_n de_Ma_rateBy_16 rfl rfl ?_
      refine ev_getfield de_Ma_rateBy_17 ro0 fl_Ma_19 rfl ?_
      refine ev_iload_n de_Ma_rateBy_20 rfl rfl ?_
      refine ev_iaload de_Ma_rateBy_21 ro1 (by omega) (by omega) (by omega) ?_
      refine ev_top (congrArg Sum.inl ecd) ?_
      refine ev_istore (l' := [_, _, _, _, _, _, _, _, _]) de_Ma_rateBy_22 (Nat.le_of_ble_eq_true rfl) rfl ?_
      refine ev_iload de_Ma_rateBy_24 rfl ?_
      refine ev_if_lt (tgt := 39) de_Ma_rateBy_26 (by decide) (by omega) (fun h26 => ?_) (fun h26 => ?_)
      · skip
        refine ev_iload de_Ma_rateBy_39 rfl ?_
        refine ev_bipush de_Ma_rateBy_41 rfl ?_
        refine ev_icmp_lt (tgt := 62) de_Ma_rateBy_43 (by decide) (by omega) (by omega) (fun h43 => ?_) (fun h43 => ?_)
        · skip
          refine ev_iload de_Ma_rateBy_62 rfl ?_
          refine ev_bipush de_Ma_rateBy_64 rfl ?_
          refine ev_icmp_ne (tgt := 93) de_Ma_rateBy_66 (by decide) (by omega) (by omega) (fun h66 => ?_) (fun h66 => ?_)
          · skip
            refine ev_iload de_Ma_rateBy_93 rfl ?_
            refine ev_bipush de_Ma_rateBy_95 rfl ?_
            refine ev_icmp_ne (tgt := 108) de_Ma_rateBy_97 (by decide) (by omega) (by omega) (fun h97 => ?_) (fun h97 => ?_)
            · skip
              refine ev_iload de_Ma_rateBy_108 rfl ?_
              refine ev_bipush de_Ma_rateBy_110 rfl ?_
              refine ev_icmp_ne (tgt := 151) de_Ma_rateBy_112 (by decide) (by omega) (by omega) (fun h112 => ?_) (fun h112 => ?_)
              · skip
                obtain ⟨y, q, r, est, hgo9⟩ := vg_bin (by omega) (by omega) (by omega) (by omega) hgo
                subst est
                have hsl0 := hsl
                refine ev_aload_n de_Ma_rateBy_151 rfl rfl ?_
                refine ev_virtual (ci := 3) (mc := 0) (ms := 0) (bc := 0) (bs := 0) de_Ma_rateBy_152 (co_Ma_pop_j hM hst hsl) kb_Ma_33 ⟨im_Ma_pop, se_Ma_pop⟩ rfl m0 rfl (Nat.le_of_ble_eq_true rfl) (by decide) (Or.inl (fun r w1 h => h.2.2.1)) (fun r1 w1 hm1 => ?_)
                obtain ⟨rfl, ⟨hM, hst⟩, hf1⟩ := hm1
                · skip
                  have hf := fr_tr hf hf1
                  have hsl := len_tl hsl
                  obtain ⟨m0, m1⟩ := id hM
                  refine ev_lstore (l' := [_, _, _, _, _, _, _, _, _]) de_Ma_rateBy_155 (Nat.le_of_ble_eq_true rfl) rfl ?_
                  refine ev_aload_n de_Ma_rateBy_157 rfl rfl ?_
                  refine ev_virtual (ci := 3) (mc := 0) (ms := 0) (bc := 0) (bs := 0) de_Ma_rateBy_158 (co_Ma_pop_j hM hst hsl) kb_Ma_33 ⟨im_Ma_pop, se_Ma_pop⟩ rfl m0 rfl (Nat.le_of_ble_eq_true rfl) (by decide) (Or.inl (fun r w1 h => h.2.2.1)) (fun r1 w1 hm1 => ?_)
                  obtain ⟨rfl, ⟨hM, hst⟩, hf1⟩ := hm1
                  · skip
                    have hf := fr_tr hf hf1
                    have hsl := len_tl hsl
                    obtain ⟨m0, m1⟩ := id hM
                    refine ev_lstore (l' := [_, _, _, _, _, _, _, _, _]) de_Ma_rateBy_161 (Nat.le_of_ble_eq_true rfl) rfl ?_
                    refine ev_aload_n de_Ma_rateBy_163 rfl rfl ?_
                    refine ev_iload de_Ma_rateBy_164 rfl ?_
                    refine ev_lload de_Ma_rateBy_166 rfl ?_
                    refine ev_lload de_Ma_rateBy_168 rfl ?_
                    refine ev_sv de_Ma_rateBy_170 (co_Ma_joined _ _ (by omega) (by omega) _ _) kb_Ma_45 sc_Ma_joined rfl (Nat.le_of_ble_eq_true rfl) (by decide) rfl ?_
                    have hl3 : r.length < 32 := by have := hsl0; rw [List.length_cons, List.length_cons] at this; omega
                    refine ev_virtual (ci := 3) (mc := 0) (ms := 0) (bc := 0) (bs := 0) de_Ma_rateBy_173 (co_Ma_push_j hM hst (by omega) (sp_one (cs_sg xo) q y)) kb_Ma_25 ⟨im_Ma_push, se_Ma_push⟩ rfl m0 rfl (Nat.le_of_ble_eq_true rfl) (by decide) (Or.inl (fun r w1 h => h.2.2.1)) (fun r1 w1 hm1 => ?_)
                    obtain ⟨rfl, ⟨sk9, hM9, hst9⟩, hf1⟩ := hm1
                    · skip
                      have hf9 := fr_tr hf hf1
                      have hsl9 : (sp_one (cs_sg xo) q y :: r).length ≤ 32 := by have := hsl0; rw [List.length_cons, List.length_cons] at this; rw [List.length_cons]; omega
                      refine ev_iinc (l' := [_, _, _, _, _, _, _, _, _]) de_Ma_rateBy_176 rfl rfl ?_
                      refine ev_goto (tgt := 7) de_Ma_rateBy_179 (by decide) ?_
                      exact ih (k + 1) _ _ _ _ _ _ _ _ (by omega) (by omega) hst9 hsl9 hM9 hf9 hgo9
              · skip
                rw [h112] at hgo
                obtain ⟨y, x9, r, est, hcase⟩ := vg_if hgo
                subst est
                refine ev_aload_n de_Ma_rateBy_115 rfl rfl ?_
                refine ev_virtual (ci := 3) (mc := 0) (ms := 0) (bc := 0) (bs := 0) de_Ma_rateBy_116 (co_Ma_pop_j hM hst hsl) kb_Ma_33 ⟨im_Ma_pop, se_Ma_pop⟩ rfl m0 rfl (Nat.le_of_ble_eq_true rfl) (by decide) (Or.inl (fun r w1 h => h.2.2.1)) (fun r1 w1 hm1 => ?_)
                obtain ⟨rfl, ⟨hM, hst⟩, hf1⟩ := hm1
                · skip
                  have hf := fr_tr hf hf1
                  have hsl := len_tl hsl
                  obtain ⟨m0, m1⟩ := id hM
                  refine ev_lconsti (n := 0) de_Ma_rateBy_119 (by decide) ?_
                  refine ev_lcmp de_Ma_rateBy_120 ?_
                  have cc := ab_cmp0 y (Int64.ofInt 0)
                  have ez0 : Int64.ofInt 0 = 0 := by decide
                  rw [ez0] at cc ⊢
                  refine ev_if_eq (tgt := 128) de_Ma_rateBy_121 (by decide) (ab_cmp_in _ _) (fun h121 => ?_) (fun h121 => ?_)
                  · skip
                    refine ev_iconst de_Ma_rateBy_128 ?_
                    refine ev_istore (l' := [_, _, _, _, _, _, _, _, _]) de_Ma_rateBy_129 (Nat.le_of_ble_eq_true rfl) rfl ?_
                    refine ev_aload_n de_Ma_rateBy_131 rfl rfl ?_
                    refine ev_virtual (ci := 3) (mc := 0) (ms := 0) (bc := 0) (bs := 0) de_Ma_rateBy_132 (co_Ma_pop_j hM hst hsl) kb_Ma_33 ⟨im_Ma_pop, se_Ma_pop⟩ rfl m0 rfl (Nat.le_of_ble_eq_true rfl) (by decide) (Or.inl (fun r w1 h => h.2.2.1)) (fun r1 w1 hm1 => ?_)
                    obtain ⟨rfl, ⟨hM, hst⟩, hf1⟩ := hm1
                    · skip
                      have hf := fr_tr hf hf1
                      have hsl := len_tl hsl
                      obtain ⟨m0, m1⟩ := id hM
                      refine ev_lstore (l' := [_, _, _, _, _, _, _, _, _]) de_Ma_rateBy_135 (Nat.le_of_ble_eq_true rfl) rfl ?_
                      refine ev_iload de_Ma_rateBy_137 rfl ?_
                      refine ev_if_eq (tgt := 148) de_Ma_rateBy_139 (by decide) (by decide) (fun h139 => ?_) (fun h139 => ?_)
                      · skip
                        have hgo9 : vm_go (sp_wf f) (ls.drop (k + 1)) r = some z := by first | (exfalso; omega) | exact (hcase.resolve_right (fun q => q.1 (cc.2.2.1.mp (by omega)))).2
                        have hst9 := hst
                        have hsl9 := hsl
                        have hM9 := hM
                        have hf9 := hf
                        refine ev_goto (tgt := 176) de_Ma_rateBy_148 (by decide) ?_
                        refine ev_iinc (l' := [_, _, _, _, _, _, _, _, _]) de_Ma_rateBy_176 rfl rfl ?_
                        refine ev_goto (tgt := 7) de_Ma_rateBy_179 (by decide) ?_
                        exact ih (k + 1) _ _ _ _ _ _ _ _ (by omega) (by omega) hst9 hsl9 hM9 hf9 hgo9
                      · skip
                        have hz : z = sp_clamp x9 := by first | (exfalso; omega) | exact (hcase.resolve_left (fun q => h121 (cc.2.2.1.mpr q.1))).2
                        refine ev_lload de_Ma_rateBy_142 rfl ?_
                        refine ev_sv de_Ma_rateBy_144 (co_Ma_held _ _) kb_Ma_41 sc_Ma_held rfl (Nat.le_of_ble_eq_true rfl) (by decide) rfl ?_
                        exact ev_ireturn de_Ma_rateBy_147 rfl ⟨by rw [hz], hf, _, _, hM⟩
                  · skip
                    refine ev_iconst de_Ma_rateBy_124 ?_
                    refine ev_goto (tgt := 129) de_Ma_rateBy_125 (by decide) ?_
                    refine ev_istore (l' := [_, _, _, _, _, _, _, _, _]) de_Ma_rateBy_129 (Nat.le_of_ble_eq_true rfl) rfl ?_
                    refine ev_aload_n de_Ma_rateBy_131 rfl rfl ?_
                    refine ev_virtual (ci := 3) (mc := 0) (ms := 0) (bc := 0) (bs := 0) de_Ma_rateBy_132 (co_Ma_pop_j hM hst hsl) kb_Ma_33 ⟨im_Ma_pop, se_Ma_pop⟩ rfl m0 rfl (Nat.le_of_ble_eq_true rfl) (by decide) (Or.inl (fun r w1 h => h.2.2.1)) (fun r1 w1 hm1 => ?_)
                    obtain ⟨rfl, ⟨hM, hst⟩, hf1⟩ := hm1
                    · skip
                      have hf := fr_tr hf hf1
                      have hsl := len_tl hsl
                      obtain ⟨m0, m1⟩ := id hM
                      refine ev_lstore (l' := [_, _, _, _, _, _, _, _, _]) de_Ma_rateBy_135 (Nat.le_of_ble_eq_true rfl) rfl ?_
                      refine ev_iload de_Ma_rateBy_137 rfl ?_
                      refine ev_if_eq (tgt := 148) de_Ma_rateBy_139 (by decide) (by decide) (fun h139 => ?_) (fun h139 => ?_)
                      · skip
                        have hgo9 : vm_go (sp_wf f) (ls.drop (k + 1)) r = some z := by first | (exfalso; omega) | exact (hcase.resolve_right (fun q => q.1 (cc.2.2.1.mp (by omega)))).2
                        have hst9 := hst
                        have hsl9 := hsl
                        have hM9 := hM
                        have hf9 := hf
                        refine ev_goto (tgt := 176) de_Ma_rateBy_148 (by decide) ?_
                        refine ev_iinc (l' := [_, _, _, _, _, _, _, _, _]) de_Ma_rateBy_176 rfl rfl ?_
                        refine ev_goto (tgt := 7) de_Ma_rateBy_179 (by decide) ?_
                        exact ih (k + 1) _ _ _ _ _ _ _ _ (by omega) (by omega) hst9 hsl9 hM9 hf9 hgo9
                      · skip
                        have hz : z = sp_clamp x9 := by first | (exfalso; omega) | exact (hcase.resolve_left (fun q => h121 (cc.2.2.1.mpr q.1))).2
                        refine ev_lload de_Ma_rateBy_142 rfl ?_
                        refine ev_sv de_Ma_rateBy_144 (co_Ma_held _ _) kb_Ma_41 sc_Ma_held rfl (Nat.le_of_ble_eq_true rfl) (by decide) rfl ?_
                        exact ev_ireturn de_Ma_rateBy_147 rfl ⟨by rw [hz], hf, _, _, hM⟩
            · skip
              rw [h97] at hgo
              obtain ⟨y, r, est, ez⟩ := vg_turn hgo
              subst est
              refine ev_aload_n de_Ma_rateBy_100 rfl rfl ?_
              refine ev_virtual (ci := 3) (mc := 0) (ms := 0) (bc := 0) (bs := 0) de_Ma_rateBy_101 (co_Ma_pop_j hM hst hsl) kb_Ma_33 ⟨im_Ma_pop, se_Ma_pop⟩ rfl m0 rfl (Nat.le_of_ble_eq_true rfl) (by decide) (Or.inl (fun r w1 h => h.2.2.1)) (fun r1 w1 hm1 => ?_)
              obtain ⟨rfl, ⟨hM, hst⟩, hf1⟩ := hm1
              · skip
                have hf := fr_tr hf hf1
                have hsl := len_tl hsl
                obtain ⟨m0, m1⟩ := id hM
                refine ev_sv de_Ma_rateBy_104 (co_Ma_held _ _) kb_Ma_41 sc_Ma_held rfl (Nat.le_of_ble_eq_true rfl) (by decide) rfl ?_
                exact ev_ireturn de_Ma_rateBy_107 rfl ⟨by rw [ez], hf, _, _, hM⟩
          · skip
            rw [h66] at hgo
            obtain ⟨y, r, est, hgo9⟩ := vg_not hgo
            subst est
            have hsl0 := hsl
            refine ev_aload_n de_Ma_rateBy_69 rfl rfl ?_
            refine ev_aload_n de_Ma_rateBy_70 rfl rfl ?_
            refine ev_virtual (ci := 3) (mc := 0) (ms := 0) (bc := 0) (bs := 0) de_Ma_rateBy_71 (co_Ma_pop_j hM hst hsl) kb_Ma_33 ⟨im_Ma_pop, se_Ma_pop⟩ rfl m0 rfl (Nat.le_of_ble_eq_true rfl) (by decide) (Or.inl (fun r w1 h => h.2.2.1)) (fun r1 w1 hm1 => ?_)
            obtain ⟨rfl, ⟨hM, hst⟩, hf1⟩ := hm1
            · skip
              have hf := fr_tr hf hf1
              have hsl := len_tl hsl
              obtain ⟨m0, m1⟩ := id hM
              refine ev_lconsti (n := 0) de_Ma_rateBy_74 (by decide) ?_
              refine ev_lcmp de_Ma_rateBy_75 ?_
              have cc := ab_cmp0 y (Int64.ofInt 0)
              have ez0 : Int64.ofInt 0 = 0 := by decide
              rw [ez0] at cc ⊢
              refine ev_if_ne (tgt := 83) de_Ma_rateBy_76 (by decide) (ab_cmp_in _ _) (fun h76 => ?_) (fun h76 => ?_)
              · skip
                refine ev_iconst de_Ma_rateBy_83 ?_
                refine ev_sv de_Ma_rateBy_84 (co_Ma_truth _ _ (by decide)) kb_Ma_37 sc_Ma_truth rfl (Nat.le_of_ble_eq_true rfl) (by decide) rfl ?_
                have hl3 : r.length < 32 := by have := hsl0; rw [List.length_cons] at this; omega
                refine ev_top (b := ab_J (if y = 0 then 1 else 0)) (congrArg (fun q => Sum.inr (Sum.inl q)) (by first | (rw [if_pos (cc.2.2.1.mp (by omega))]; rfl) | (rw [if_neg (fun q => h76 (cc.2.2.1.mpr q))]; rfl))) ?_
                refine ev_virtual (ci := 3) (mc := 0) (ms := 0) (bc := 0) (bs := 0) de_Ma_rateBy_87 (co_Ma_push_j hM hst (by omega) (if y = 0 then 1 else 0)) kb_Ma_25 ⟨im_Ma_push, se_Ma_push⟩ rfl m0 rfl (Nat.le_of_ble_eq_true rfl) (by decide) (Or.inl (fun r w1 h => h.2.2.1)) (fun r1 w1 hm1 => ?_)
                obtain ⟨rfl, ⟨sk9, hM9, hst9⟩, hf1⟩ := hm1
                · skip
                  have hf9 := fr_tr hf hf1
                  have hsl9 : ((if y = 0 then 1 else 0 : Int64) :: r).length ≤ 32 := by rw [List.length_cons]; omega
                  refine ev_goto (tgt := 176) de_Ma_rateBy_90 (by decide) ?_
                  refine ev_iinc (l' := [_, _, _, _, _, _, _, _, _]) de_Ma_rateBy_176 rfl rfl ?_
                  refine ev_goto (tgt := 7) de_Ma_rateBy_179 (by decide) ?_
                  exact ih (k + 1) _ _ _ _ _ _ _ _ (by omega) (by omega) hst9 hsl9 hM9 hf9 hgo9
              · skip
                refine ev_iconst de_Ma_rateBy_79 ?_
                refine ev_goto (tgt := 84) de_Ma_rateBy_80 (by decide) ?_
                refine ev_sv de_Ma_rateBy_84 (co_Ma_truth _ _ (by decide)) kb_Ma_37 sc_Ma_truth rfl (Nat.le_of_ble_eq_true rfl) (by decide) rfl ?_
                have hl3 : r.length < 32 := by have := hsl0; rw [List.length_cons] at this; omega
                refine ev_top (b := ab_J (if y = 0 then 1 else 0)) (congrArg (fun q => Sum.inr (Sum.inl q)) (by first | (rw [if_pos (cc.2.2.1.mp (by omega))]; rfl) | (rw [if_neg (fun q => h76 (cc.2.2.1.mpr q))]; rfl))) ?_
                refine ev_virtual (ci := 3) (mc := 0) (ms := 0) (bc := 0) (bs := 0) de_Ma_rateBy_87 (co_Ma_push_j hM hst (by omega) (if y = 0 then 1 else 0)) kb_Ma_25 ⟨im_Ma_push, se_Ma_push⟩ rfl m0 rfl (Nat.le_of_ble_eq_true rfl) (by decide) (Or.inl (fun r w1 h => h.2.2.1)) (fun r1 w1 hm1 => ?_)
                obtain ⟨rfl, ⟨sk9, hM9, hst9⟩, hf1⟩ := hm1
                · skip
                  have hf9 := fr_tr hf hf1
                  have hsl9 : ((if y = 0 then 1 else 0 : Int64) :: r).length ≤ 32 := by rw [List.length_cons]; omega
                  refine ev_goto (tgt := 176) de_Ma_rateBy_90 (by decide) ?_
                  refine ev_iinc (l' := [_, _, _, _, _, _, _, _, _]) de_Ma_rateBy_176 rfl rfl ?_
                  refine ev_goto (tgt := 7) de_Ma_rateBy_179 (by decide) ?_
                  exact ih (k + 1) _ _ _ _ _ _ _ _ (by omega) (by omega) hst9 hsl9 hM9 hf9 hgo9
        · skip
          obtain ⟨hl9, hgo9⟩ := vg_wd (by omega) (by omega) hgo
          refine ev_aload_n de_Ma_rateBy_46 rfl rfl ?_
          refine ev_iconst de_Ma_rateBy_47 ?_
          refine ev_iload de_Ma_rateBy_48 rfl ?_
          refine ev_isub de_Ma_rateBy_50 ?_
          refine ev_aload_n de_Ma_rateBy_51 rfl rfl ?_
          refine ev_sv de_Ma_rateBy_52 (co_Ma_wordOf hI0 hR0 _ (by omega) (by omega)) kb_Ma_29 sc_Ma_wordOf rfl (Nat.le_of_ble_eq_true rfl) (by decide) rfl ?_
          refine ev_i2l de_Ma_rateBy_55 (cs_wd_in hI0 (by omega) (by omega)) ?_
          refine ev_top (congrArg (fun q => Sum.inr (Sum.inl q)) (cs_wd_wf f (by omega) (by omega))) ?_
          refine ev_virtual (ci := 3) (mc := 0) (ms := 0) (bc := 0) (bs := 0) de_Ma_rateBy_56 (co_Ma_push_j hM hst (by omega) (sp_wf f (-1 - xo))) kb_Ma_25 ⟨im_Ma_push, se_Ma_push⟩ rfl m0 rfl (Nat.le_of_ble_eq_true rfl) (by decide) (Or.inl (fun r w1 h => h.2.2.1)) (fun r1 w1 hm1 => ?_)
          obtain ⟨rfl, ⟨sk9, hM9, hst9⟩, hf1⟩ := hm1
          · skip
            have hf9 := fr_tr hf hf1
            have hsl9 : ((sp_wf f (-1 - xo)) :: st).length ≤ 32 := by rw [List.length_cons]; omega
            refine ev_goto (tgt := 176) de_Ma_rateBy_59 (by decide) ?_
            refine ev_iinc (l' := [_, _, _, _, _, _, _, _, _]) de_Ma_rateBy_176 rfl rfl ?_
            refine ev_goto (tgt := 7) de_Ma_rateBy_179 (by decide) ?_
            exact ih (k + 1) _ _ _ _ _ _ _ _ (by omega) (by omega) hst9 hsl9 hM9 hf9 hgo9
      · skip
        obtain ⟨hl9, hgo9⟩ := vg_num (by omega) hgo
        refine ev_aload_n de_Ma_rateBy_29 rfl rfl ?_
        refine ev_iload de_Ma_rateBy_30 rfl ?_
        refine ev_i2l de_Ma_rateBy_32 (by omega) ?_
        refine ev_virtual (ci := 3) (mc := 0) (ms := 0) (bc := 0) (bs := 0) de_Ma_rateBy_33 (co_Ma_push_j hM hst (by omega) (Int64.ofInt xo)) kb_Ma_25 ⟨im_Ma_push, se_Ma_push⟩ rfl m0 rfl (Nat.le_of_ble_eq_true rfl) (by decide) (Or.inl (fun r w1 h => h.2.2.1)) (fun r1 w1 hm1 => ?_)
        obtain ⟨rfl, ⟨sk9, hM9, hst9⟩, hf1⟩ := hm1
        · skip
          have hf9 := fr_tr hf hf1
          have hsl9 : ((Int64.ofInt xo) :: st).length ≤ 32 := by rw [List.length_cons]; omega
          refine ev_goto (tgt := 176) de_Ma_rateBy_36 (by decide) ?_
          refine ev_iinc (l' := [_, _, _, _, _, _, _, _, _]) de_Ma_rateBy_176 rfl rfl ?_
          refine ev_goto (tgt := 7) de_Ma_rateBy_179 (by decide) ?_
          exact ih (k + 1) _ _ _ _ _ _ _ _ (by omega) (by omega) hst9 hsl9 hM9 hf9 hgo9
set_option maxHeartbeats 4000000 in
set_option maxRecDepth 10000 in
theorem co_Ma_rateBy {m p o n : Nat} {f cd : Int → Int} {x B z : Int} {ls : List Int} {w0 : ab_W} (hI : sg_ok B f) (hR : ri_at_j o f x w0) (r0 : w0[p]? = some (ab_ob 6 [ab_R (p + 1)])) (r1 : w0[p + 1]? = some (ab_ai 0 n cd)) (hn : ls.length = n) (hn2 : n ≤ 100000) (hcd : ∀ (k : Nat) (x : Int), ls[k]? = some x → cd (k : Int) = x) (hbd : ∀ x ∈ ls, -35 ≤ x ∧ x ≤ 99999 ∧ (x ≤ -21 ∨ -12 ≤ x)) (hdo : o + 13 ≤ m ∨ m + 2 ≤ o) (hdp : p + 2 ≤ m ∨ m + 2 ≤ p) {sk : Int → Int64} {tp : Int} (hM : mac m sk tp w0) (hgo : vm_go (sp_wf f) ls [] = some z) : ab_Mt g_G g_rs mt_Ma_rateBy 5 0 0 [ab_R m, ab_R p, ab_R o] w0 (fun r w2 => r = some (ab_I z) ∧ fr_at m 2 w0 w2 ∧ ∃ sk2 tp2, mac m sk2 tp2 w2) := by
  obtain ⟨m0, m1⟩ := id hM
  refine ab_Mt.of rfl (Nat.le_of_ble_eq_true rfl) ?_
  show ab_Ev g_G g_rs mt_Ma_rateBy _ _ _ 0 [some (ab_R m), some (ab_R p), some (ab_R o), none, none, none, none, none, none] [] _ _
  refine ev_aload_n de_Ma_rateBy_0 rfl rfl ?_
  refine ev_iconst de_Ma_rateBy_1 ?_
  refine ev_putfield de_Ma_rateBy_2 m0 (fp_Ma_15 _) (Nat.le_of_ble_eq_true rfl) trivial ?_
  refine ev_gen (P := fun w1 => mac m sk 0 w1 ∧ fr_at m 2 w0 w1) ⟨mac_o hM, fr_set fr_0 (by omega) (by omega)⟩ (fun w1 hCf => ?_)
  obtain ⟨hM, hf⟩ := hCf
  refine ev_iconst de_Ma_rateBy_5 ?_
  refine ev_istore_n (l' := [_, _, _, _, _, _, _, _, _]) de_Ma_rateBy_6 rfl (Nat.le_of_ble_eq_true rfl) rfl ?_
  exact lo_Ma_rateBy hI hR r0 r1 hn hn2 hcd hbd hdo hdp (ls.length + 1) 0 [] sk w1 _ _ _ _ _ (by omega) (by omega) (fun i q hq => by cases hq) (by decide) hM hf hgo
