/-! an ERRAND, days by draws: exactly -/
theorem de_Tu_wayBetween_0 : decode prog_1_method_24_code 0 = .ok (.iload_n 0, 1) := by decide +kernel
theorem de_Tu_wayBetween_1 : decode prog_1_method_24_code 1 = .ok (.iload_n 1, 1) := by decide +kernel
theorem de_Tu_wayBetween_2 : decode prog_1_method_24_code 2 = .ok (.isub, 1) := by decide +kernel
theorem de_Tu_wayBetween_3 : decode prog_1_method_24_code 3 = .ok (.invokestatic 259, 3) := by decide +kernel
theorem de_Tu_wayBetween_6 : decode prog_1_method_24_code 6 = .ok (.istore_n 2, 1) := by decide +kernel
theorem de_Tu_wayBetween_7 : decode prog_1_method_24_code 7 = .ok (.iload_n 2, 1) := by decide +kernel
theorem de_Tu_wayBetween_8 : decode prog_1_method_24_code 8 = .ok (.bipush 12, 2) := by decide +kernel
theorem de_Tu_wayBetween_10 : decode prog_1_method_24_code 10 = .ok (.iload_n 2, 1) := by decide +kernel
theorem de_Tu_wayBetween_11 : decode prog_1_method_24_code 11 = .ok (.isub, 1) := by decide +kernel
theorem de_Tu_wayBetween_12 : decode prog_1_method_24_code 12 = .ok (.invokestatic 264, 3) := by decide +kernel
theorem de_Tu_wayBetween_15 : decode prog_1_method_24_code 15 = .ok (.ireturn, 1) := by decide +kernel
set_option maxHeartbeats 4000000 in
set_option maxRecDepth 10000 in
theorem co_Tu_wayBetween (w : ab_W) (a c : Int) (ha : 0 ≤ a ∧ a ≤ 11) (hc : 0 ≤ c ∧ c ≤ 11) : ab_Mt g_G g_rs mt_Tu_wayBetween 1 0 0 [ab_I a, ab_I c] w (ab_is (some (ab_I (sp_way a c))) w) := by
  refine ab_Mt.of rfl (Nat.le_of_ble_eq_true rfl) ?_
  show ab_Ev g_G g_rs mt_Tu_wayBetween _ _ _ 0 [some (ab_I a), some (ab_I c), none] [] _ _
  refine ev_iload_n de_Tu_wayBetween_0 rfl rfl ?_
  refine ev_iload_n de_Tu_wayBetween_1 rfl rfl ?_
  refine ev_isub de_Tu_wayBetween_2 ?_
  refine ev_mabs (by first | omega | (split <;> omega)) de_Tu_wayBetween_3 mk_Tu_259 (Nat.le_of_ble_eq_true rfl) (by decide) ?_
  refine ev_istore_n (l' := [_, _, _]) de_Tu_wayBetween_6 rfl (Nat.le_of_ble_eq_true rfl) rfl ?_
  refine ev_iload_n de_Tu_wayBetween_7 rfl rfl ?_
  refine ev_bipush de_Tu_wayBetween_8 rfl ?_
  refine ev_iload_n de_Tu_wayBetween_10 rfl rfl ?_
  refine ev_isub de_Tu_wayBetween_11 ?_
  refine ev_mmin (by first | omega | (split <;> omega)) (by first | omega | (split <;> omega)) de_Tu_wayBetween_12 mk_Tu_264 (Nat.le_of_ble_eq_true rfl) (by decide) ?_
  exact ev_ireturn de_Tu_wayBetween_15 rfl ⟨congrArg (fun z => some (ab_I z)) (by unfold sp_way; (repeat' split) <;> omega), rfl⟩
/-- the direction faced t HOURS on -/
def ef (f : Int → Int) (h : Int) : Int → Int := fun t => (f (46 + h) + cs_ang f t.toNat) % 12
theorem ef_n (f : Int → Int) (h : Int) (k : Nat) : ef f h (k : Int) = (f (46 + h) + cs_ang f k) % 12 := rfl
def ce_b (f : Int → Int) (h g w : Int) (l : Int) : Int := sp_bk (ef f h) (f 3).toNat g (l + w) (97 - l).toNat l
def ce_a (f : Int → Int) (h g w what l : Int) : Int := if ce_b f h g w l < 0 then -2 else if what = 0 then l else ce_b f h g w l
def ce_e (f : Int → Int) (h g w what : Int) : Int := if 48 < sp_lv (ef f h) g 49 0 then -2 else ce_a f h g w what (sp_lv (ef f h) g 49 0)
theorem de_Tu_errand_0 : decode prog_1_method_23_code 0 = .ok (.aload_n 0, 1) := by decide +kernel
theorem de_Tu_errand_1 : decode prog_1_method_23_code 1 = .ok (.iload_n 1, 1) := by decide +kernel
theorem de_Tu_errand_2 : decode prog_1_method_23_code 2 = .ok (.invokevirtual 118, 3) := by decide +kernel
theorem de_Tu_errand_5 : decode prog_1_method_23_code 5 = .ok (.ifCond .eq 42, 3) := by decide +kernel
theorem de_Tu_errand_8 : decode prog_1_method_23_code 8 = .ok (.iload_n 2, 1) := by decide +kernel
theorem de_Tu_errand_9 : decode prog_1_method_23_code 9 = .ok (.invokestatic 156, 3) := by decide +kernel
theorem de_Tu_errand_12 : decode prog_1_method_23_code 12 = .ok (.ifCond .eq 35, 3) := by decide +kernel
theorem de_Tu_errand_15 : decode prog_1_method_23_code 15 = .ok (.aload_n 0, 1) := by decide +kernel
theorem de_Tu_errand_16 : decode prog_1_method_23_code 16 = .ok (.getfield 19, 3) := by decide +kernel
theorem de_Tu_errand_19 : decode prog_1_method_23_code 19 = .ok (.iload_n 2, 1) := by decide +kernel
theorem de_Tu_errand_20 : decode prog_1_method_23_code 20 = .ok (.invokevirtual 146, 3) := by decide +kernel
theorem de_Tu_errand_23 : decode prog_1_method_23_code 23 = .ok (.ifCond .eq 24, 3) := by decide +kernel
theorem de_Tu_errand_26 : decode prog_1_method_23_code 26 = .ok (.iload_n 3, 1) := by decide +kernel
theorem de_Tu_errand_27 : decode prog_1_method_23_code 27 = .ok (.ifCond .lt 20, 3) := by decide +kernel
theorem de_Tu_errand_30 : decode prog_1_method_23_code 30 = .ok (.iload_n 3, 1) := by decide +kernel
theorem de_Tu_errand_31 : decode prog_1_method_23_code 31 = .ok (.bipush 24, 2) := by decide +kernel
theorem de_Tu_errand_33 : decode prog_1_method_23_code 33 = .ok (.if_icmp .gt 14, 3) := by decide +kernel
theorem de_Tu_errand_36 : decode prog_1_method_23_code 36 = .ok (.iload 4, 2) := by decide +kernel
theorem de_Tu_errand_38 : decode prog_1_method_23_code 38 = .ok (.ifCond .lt 9, 3) := by decide +kernel
theorem de_Tu_errand_41 : decode prog_1_method_23_code 41 = .ok (.iload 4, 2) := by decide +kernel
theorem de_Tu_errand_43 : decode prog_1_method_23_code 43 = .ok (.iconst 1, 1) := by decide +kernel
theorem de_Tu_errand_44 : decode prog_1_method_23_code 44 = .ok (.if_icmp .le 5, 3) := by decide +kernel
theorem de_Tu_errand_47 : decode prog_1_method_23_code 47 = .ok (.iconst (-1), 1) := by decide +kernel
theorem de_Tu_errand_48 : decode prog_1_method_23_code 48 = .ok (.ireturn, 1) := by decide +kernel
theorem de_Tu_errand_49 : decode prog_1_method_23_code 49 = .ok (.aload_n 0, 1) := by decide +kernel
theorem de_Tu_errand_50 : decode prog_1_method_23_code 50 = .ok (.getfield 19, 3) := by decide +kernel
theorem de_Tu_errand_53 : decode prog_1_method_23_code 53 = .ok (.getfield 126, 3) := by decide +kernel
theorem de_Tu_errand_56 : decode prog_1_method_23_code 56 = .ok (.iload_n 1, 1) := by decide +kernel
theorem de_Tu_errand_57 : decode prog_1_method_23_code 57 = .ok (.iaload, 1) := by decide +kernel
theorem de_Tu_errand_58 : decode prog_1_method_23_code 58 = .ok (.istore 5, 2) := by decide +kernel
theorem de_Tu_errand_60 : decode prog_1_method_23_code 60 = .ok (.aload_n 0, 1) := by decide +kernel
theorem de_Tu_errand_61 : decode prog_1_method_23_code 61 = .ok (.getfield 19, 3) := by decide +kernel
theorem de_Tu_errand_64 : decode prog_1_method_23_code 64 = .ok (.getfield 177, 3) := by decide +kernel
theorem de_Tu_errand_67 : decode prog_1_method_23_code 67 = .ok (.istore 6, 2) := by decide +kernel
theorem de_Tu_errand_69 : decode prog_1_method_23_code 69 = .ok (.iconst (-1), 1) := by decide +kernel
theorem de_Tu_errand_70 : decode prog_1_method_23_code 70 = .ok (.istore 7, 2) := by decide +kernel
theorem de_Tu_errand_72 : decode prog_1_method_23_code 72 = .ok (.iconst 0, 1) := by decide +kernel
theorem de_Tu_errand_73 : decode prog_1_method_23_code 73 = .ok (.istore 8, 2) := by decide +kernel
theorem de_Tu_errand_75 : decode prog_1_method_23_code 75 = .ok (.iload 8, 2) := by decide +kernel
theorem de_Tu_errand_77 : decode prog_1_method_23_code 77 = .ok (.bipush 96, 2) := by decide +kernel
theorem de_Tu_errand_79 : decode prog_1_method_23_code 79 = .ok (.if_icmp .gt 104, 3) := by decide +kernel
theorem de_Tu_errand_82 : decode prog_1_method_23_code 82 = .ok (.iload 7, 2) := by decide +kernel
theorem de_Tu_errand_84 : decode prog_1_method_23_code 84 = .ok (.ifCond .ge 10, 3) := by decide +kernel
theorem de_Tu_errand_87 : decode prog_1_method_23_code 87 = .ok (.iload 8, 2) := by decide +kernel
theorem de_Tu_errand_89 : decode prog_1_method_23_code 89 = .ok (.bipush 48, 2) := by decide +kernel
theorem de_Tu_errand_91 : decode prog_1_method_23_code 91 = .ok (.if_icmp .gt 92, 3) := by decide +kernel
theorem de_Tu_errand_94 : decode prog_1_method_23_code 94 = .ok (.iload 5, 2) := by decide +kernel
theorem de_Tu_errand_96 : decode prog_1_method_23_code 96 = .ok (.iload 6, 2) := by decide +kernel
theorem de_Tu_errand_98 : decode prog_1_method_23_code 98 = .ok (.invokestatic 244, 3) := by decide +kernel
theorem de_Tu_errand_101 : decode prog_1_method_23_code 101 = .ok (.istore 9, 2) := by decide +kernel
theorem de_Tu_errand_103 : decode prog_1_method_23_code 103 = .ok (.iload 7, 2) := by decide +kernel
theorem de_Tu_errand_105 : decode prog_1_method_23_code 105 = .ok (.ifCond .ge 13, 3) := by decide +kernel
theorem de_Tu_errand_108 : decode prog_1_method_23_code 108 = .ok (.iload 9, 2) := by decide +kernel
theorem de_Tu_errand_110 : decode prog_1_method_23_code 110 = .ok (.iload_n 2, 1) := by decide +kernel
theorem de_Tu_errand_111 : decode prog_1_method_23_code 111 = .ok (.if_icmp .ne 7, 3) := by decide +kernel
theorem de_Tu_errand_114 : decode prog_1_method_23_code 114 = .ok (.iload 8, 2) := by decide +kernel
theorem de_Tu_errand_116 : decode prog_1_method_23_code 116 = .ok (.istore 7, 2) := by decide +kernel
theorem de_Tu_errand_118 : decode prog_1_method_23_code 118 = .ok (.iload 7, 2) := by decide +kernel
theorem de_Tu_errand_120 : decode prog_1_method_23_code 120 = .ok (.ifCond .lt 44, 3) := by decide +kernel
theorem de_Tu_errand_123 : decode prog_1_method_23_code 123 = .ok (.aload_n 0, 1) := by decide +kernel
theorem de_Tu_errand_124 : decode prog_1_method_23_code 124 = .ok (.getfield 19, 3) := by decide +kernel
theorem de_Tu_errand_127 : decode prog_1_method_23_code 127 = .ok (.iload 9, 2) := by decide +kernel
theorem de_Tu_errand_129 : decode prog_1_method_23_code 129 = .ok (.invokevirtual 146, 3) := by decide +kernel
theorem de_Tu_errand_132 : decode prog_1_method_23_code 132 = .ok (.ifCond .eq 32, 3) := by decide +kernel
theorem de_Tu_errand_135 : decode prog_1_method_23_code 135 = .ok (.iload 8, 2) := by decide +kernel
theorem de_Tu_errand_137 : decode prog_1_method_23_code 137 = .ok (.iload 7, 2) := by decide +kernel
theorem de_Tu_errand_139 : decode prog_1_method_23_code 139 = .ok (.iload_n 3, 1) := by decide +kernel
theorem de_Tu_errand_140 : decode prog_1_method_23_code 140 = .ok (.iadd, 1) := by decide +kernel
theorem de_Tu_errand_141 : decode prog_1_method_23_code 141 = .ok (.iload_n 2, 1) := by decide +kernel
theorem de_Tu_errand_142 : decode prog_1_method_23_code 142 = .ok (.iload 9, 2) := by decide +kernel
theorem de_Tu_errand_144 : decode prog_1_method_23_code 144 = .ok (.invokestatic 253, 3) := by decide +kernel
theorem de_Tu_errand_147 : decode prog_1_method_23_code 147 = .ok (.iadd, 1) := by decide +kernel
theorem de_Tu_errand_148 : decode prog_1_method_23_code 148 = .ok (.if_icmp .lt 16, 3) := by decide +kernel
theorem de_Tu_errand_151 : decode prog_1_method_23_code 151 = .ok (.iload 4, 2) := by decide +kernel
theorem de_Tu_errand_153 : decode prog_1_method_23_code 153 = .ok (.ifCond .ne 8, 3) := by decide +kernel
theorem de_Tu_errand_156 : decode prog_1_method_23_code 156 = .ok (.iload 7, 2) := by decide +kernel
theorem de_Tu_errand_158 : decode prog_1_method_23_code 158 = .ok (.goto 5, 3) := by decide +kernel
theorem de_Tu_errand_161 : decode prog_1_method_23_code 161 = .ok (.iload 8, 2) := by decide +kernel
theorem de_Tu_errand_163 : decode prog_1_method_23_code 163 = .ok (.ireturn, 1) := by decide +kernel
theorem de_Tu_errand_164 : decode prog_1_method_23_code 164 = .ok (.aload_n 0, 1) := by decide +kernel
theorem de_Tu_errand_165 : decode prog_1_method_23_code 165 = .ok (.getfield 19, 3) := by decide +kernel
theorem de_Tu_errand_168 : decode prog_1_method_23_code 168 = .ok (.iload 6, 2) := by decide +kernel
theorem de_Tu_errand_170 : decode prog_1_method_23_code 170 = .ok (.iload 8, 2) := by decide +kernel
theorem de_Tu_errand_172 : decode prog_1_method_23_code 172 = .ok (.invokevirtual 256, 3) := by decide +kernel
theorem de_Tu_errand_175 : decode prog_1_method_23_code 175 = .ok (.istore 6, 2) := by decide +kernel
theorem de_Tu_errand_177 : decode prog_1_method_23_code 177 = .ok (.iinc 8 1, 3) := by decide +kernel
theorem de_Tu_errand_180 : decode prog_1_method_23_code 180 = .ok (.goto (-105), 3) := by decide +kernel
theorem de_Tu_errand_183 : decode prog_1_method_23_code 183 = .ok (.bipush (-2), 2) := by decide +kernel
theorem de_Tu_errand_185 : decode prog_1_method_23_code 185 = .ok (.ireturn, 1) := by decide +kernel
set_option maxHeartbeats 4000000 in
set_option maxRecDepth 10000 in
theorem l2_Tu_errand {a b : Nat} {rc : Int} {f : Int → Int} {x B : Int} {w : ab_W} (hI : sg_ok B f) (t0 : tu_at a b rc w) (hR : ri_at_j a f x w) (y1 y2 y3 y4 : Int) (hh1 : 0 ≤ y1 ∧ y1 < f 1) (hh2 : 0 ≤ y2 ∧ y2 ≤ 11) (hh3 : 0 ≤ y3 ∧ y3 ≤ 24) (hh4 : 0 ≤ y4 ∧ y4 ≤ 1) (l : Int) (hl0 : 0 ≤ l) (hl1 : l ≤ 48) : ∀ (n : Nat) (k : Nat) (x9 : Option ab_V), l ≤ (k : Int) → k ≤ 97 → 97 < k + n → sp_bk (ef f y1) (f 3).toNat y2 (l + y3) (97 - k) (k : Int) = ce_b f y1 y2 y3 l → ab_Ev g_G g_rs mt_Tu_errand 2 0 0 75 [some (ab_R 0), some (ab_I y1), some (ab_I y2), some (ab_I y3), some (ab_I y4), some (ab_I (f (46 + y1))), some (ab_I (cs_ang f k)), some (ab_I l), some (ab_I (k : Int)), x9] [] w (ab_is (some (ab_I (ce_a f y1 y2 y3 y4 l))) w) := by
  intro n
  induction n with
  | zero =>
    intro k x9
    intro g1 g2 g3; omega
  | succ n ih =>
    intro k x9
    intro g1 g2 g3 g4
    have ht0 := t0
    have hR0 := hR
    have hI0 := hI
    unfold tu_at at t0
    obtain ⟨sl, fs, vo, li, ra, wo, dh, da, hzz⟩ := hR
    obtain ⟨ds, dn, vw, q0, q1, q2, q3, q4, hzz⟩ := hzz
    obtain ⟨q5, q6, q7, q8, q9, q10, q11, q12, hzz⟩ := hzz
    obtain ⟨e1, e2, e3, e4, e5, e6, e7, e8, e9⟩ := hzz
    obtain ⟨i0, i1, i2, i3, i4, i5, i6, i7, hzz⟩ := sg_all hI
    obtain ⟨i8, i9, i10, i11, i12, i13, i14, i15, hzz⟩ := hzz
    obtain ⟨i16, i17⟩ := hzz
    have ab := cs_ang_b hI0 k
    have z2 := (e2 y1 (by omega) (by omega)).1
    have z1 := (e1 y1 (by omega) (by omega)).1
    have fb : 0 ≤ (f (46 + y1) + cs_ang f k) % 12 ∧ (f (46 + y1) + cs_ang f k) % 12 ≤ 11 := by omega
    have en := ef_n f y1 k
    have qb := bit_at_01 (f 3).toNat ((f (46 + y1) + cs_ang f k) % 12).toNat
    have wb : 0 ≤ sp_way y2 ((f (46 + y1) + cs_ang f k) % 12) ∧ sp_way y2 ((f (46 + y1) + cs_ang f k) % 12) ≤ 6 := by unfold sp_way; split <;> omega
    refine ev_iload de_Tu_errand_75 rfl ?_
    refine ev_bipush de_Tu_errand_77 rfl ?_
    refine ev_icmp_gt (tgt := 183) de_Tu_errand_79 (by decide) (by omega) (by omega) (fun h79 => ?_) (fun h79 => ?_)
    · skip
      have ek : k = 97 := by omega
      subst ek
      have eb : ce_b f y1 y2 y3 l = -1 := g4.symm
      have ea : ce_a f y1 y2 y3 y4 l = -2 := by unfold ce_a; rw [if_pos (by omega)]
      rw [ea]
      refine ev_bipush de_Tu_errand_183 rfl ?_
      exact ev_ireturn de_Tu_errand_185 rfl ⟨rfl, rfl⟩
    · skip
      have em : 97 - k = (97 - (k + 1)) + 1 := by omega
      refine ev_iload de_Tu_errand_82 rfl ?_
      refine ev_if_ge (tgt := 94) de_Tu_errand_84 (by decide) (by omega) (fun h84 => ?_) (fun h84 => ?_)
      · skip
        refine ev_iload de_Tu_errand_94 rfl ?_
        refine ev_iload de_Tu_errand_96 rfl ?_
        refine ev_sv de_Tu_errand_98 (co_Tu_facedBy _ _ _ (by omega) (by omega) (by omega) (by omega)) kb_Tu_244 sc_Tu_facedBy rfl (Nat.le_of_ble_eq_true rfl) (by decide) rfl ?_
        refine ev_istore (l' := [_, _, _, _, _, _, _, _, _, _]) de_Tu_errand_101 (Nat.le_of_ble_eq_true rfl) rfl ?_
        refine ev_iload de_Tu_errand_103 rfl ?_
        refine ev_if_ge (tgt := 118) de_Tu_errand_105 (by decide) (by omega) (fun h105 => ?_) (fun h105 => ?_)
        · skip
          refine ev_iload de_Tu_errand_118 rfl ?_
          refine ev_if_lt (tgt := 164) de_Tu_errand_120 (by decide) (by omega) (fun h120 => ?_) (fun h120 => ?_)
          · skip
            exact absurd h120 (by omega)
          · skip
            refine ev_aload_n de_Tu_errand_123 rfl rfl ?_
            refine ev_getfield de_Tu_errand_124 t0 fl_Tu_19 rfl ?_
            refine ev_iload de_Tu_errand_127 rfl ?_
            refine ev_vv (ci := 5) de_Tu_errand_129 (co_Ri_isGate_j hI0 hR0 _ (by omega) (by omega)) kb_Tu_146 ⟨im_Ri_isGate, se_Ri_isGate⟩ rfl q0 rfl (Nat.le_of_ble_eq_true rfl) (by decide) rfl ?_
            refine ev_if_eq (tgt := 164) de_Tu_errand_132 (by decide) (by first | omega | (show ab_in (bit_at (f 3).toNat ((f (46 + y1) + cs_ang f k) % 12).toNat); omega)) (fun h132 => ?_) (fun h132 => ?_)
            · skip
              have tb : (f 3).toNat.testBit ((f (46 + y1) + cs_ang f k) % 12).toNat = false := bit_z.mp h132
              have eS : sp_bk (ef f y1) (f 3).toNat y2 (l + y3) (97 - k) (k : Int) = sp_bk (ef f y1) (f 3).toNat y2 (l + y3) (97 - (k + 1)) ((k + 1 : Nat) : Int) := by
                rw [em]
                show (if _ then _ else _) = _
                rw [if_neg (fun z => by rw [en] at z; rw [tb] at z; exact absurd z.1 (by decide))]
                rfl
              refine ev_aload_n de_Tu_errand_164 rfl rfl ?_
              refine ev_getfield de_Tu_errand_165 t0 fl_Tu_19 rfl ?_
              refine ev_iload de_Tu_errand_168 rfl ?_
              refine ev_iload de_Tu_errand_170 rfl ?_
              refine ev_vv (ci := 5) de_Tu_errand_172 (co_Ri_angleBehind_j hI0 hR0 _ _ (by omega) (by omega) (by omega) (by omega)) kb_Tu_256 ⟨im_Ri_angleBehind, se_Ri_angleBehind⟩ rfl q0 rfl (Nat.le_of_ble_eq_true rfl) (by decide) rfl ?_
              refine ev_istore (l' := [_, _, _, _, _, _, _, _, _, _]) de_Tu_errand_175 (Nat.le_of_ble_eq_true rfl) rfl ?_
              refine ev_iinc (l' := [_, _, _, _, _, _, _, _, _, _]) de_Tu_errand_177 rfl rfl ?_
              refine ev_goto (tgt := 75) de_Tu_errand_180 (by decide) ?_
              exact ih (k + 1) _ (by omega) (by omega) (by omega) (by rw [← eS]; exact g4)
            · skip
              have tb : (f 3).toNat.testBit ((f (46 + y1) + cs_ang f k) % 12).toNat = true := bit_nz.mp h132
              refine ev_iload de_Tu_errand_135 rfl ?_
              refine ev_iload de_Tu_errand_137 rfl ?_
              refine ev_iload_n de_Tu_errand_139 rfl rfl ?_
              refine ev_iadd de_Tu_errand_140 ?_
              refine ev_iload_n de_Tu_errand_141 rfl rfl ?_
              refine ev_iload de_Tu_errand_142 rfl ?_
              refine ev_sv de_Tu_errand_144 (co_Tu_wayBetween _ _ _ hh2 fb) kb_Tu_253 sc_Tu_wayBetween rfl (Nat.le_of_ble_eq_true rfl) (by decide) rfl ?_
              refine ev_iadd de_Tu_errand_147 ?_
              refine ev_icmp_lt (tgt := 164) de_Tu_errand_148 (by decide) (by omega) (by omega) (fun h148 => ?_) (fun h148 => ?_)
              · skip
                have eS : sp_bk (ef f y1) (f 3).toNat y2 (l + y3) (97 - k) (k : Int) = sp_bk (ef f y1) (f 3).toNat y2 (l + y3) (97 - (k + 1)) ((k + 1 : Nat) : Int) := by
                  rw [em]
                  show (if _ then _ else _) = _
                  rw [if_neg (fun z => by rw [en] at z; omega)]
                  rfl
                refine ev_aload_n de_Tu_errand_164 rfl rfl ?_
                refine ev_getfield de_Tu_errand_165 t0 fl_Tu_19 rfl ?_
                refine ev_iload de_Tu_errand_168 rfl ?_
                refine ev_iload de_Tu_errand_170 rfl ?_
                refine ev_vv (ci := 5) de_Tu_errand_172 (co_Ri_angleBehind_j hI0 hR0 _ _ (by omega) (by omega) (by omega) (by omega)) kb_Tu_256 ⟨im_Ri_angleBehind, se_Ri_angleBehind⟩ rfl q0 rfl (Nat.le_of_ble_eq_true rfl) (by decide) rfl ?_
                refine ev_istore (l' := [_, _, _, _, _, _, _, _, _, _]) de_Tu_errand_175 (Nat.le_of_ble_eq_true rfl) rfl ?_
                refine ev_iinc (l' := [_, _, _, _, _, _, _, _, _, _]) de_Tu_errand_177 rfl rfl ?_
                refine ev_goto (tgt := 75) de_Tu_errand_180 (by decide) ?_
                exact ih (k + 1) _ (by omega) (by omega) (by omega) (by rw [← eS]; exact g4)
              · skip
                have eb : ce_b f y1 y2 y3 l = (k : Int) := by
                  rw [← g4, em]
                  show (if _ then _ else _) = _
                  rw [if_pos (by rw [en]; exact ⟨tb, by omega⟩)]
                have ea : ce_a f y1 y2 y3 y4 l = if y4 = 0 then l else (k : Int) := by unfold ce_a; rw [if_neg (by omega), eb]
                rw [ea]
                refine ev_iload de_Tu_errand_151 rfl ?_
                refine ev_if_ne (tgt := 161) de_Tu_errand_153 (by decide) (by omega) (fun h153 => ?_) (fun h153 => ?_)
                · skip
                  rw [if_neg h153]
                  refine ev_iload de_Tu_errand_161 rfl ?_
                  exact ev_ireturn de_Tu_errand_163 rfl ⟨rfl, rfl⟩
                · skip
                  rw [if_pos (by omega)]
                  refine ev_iload de_Tu_errand_156 rfl ?_
                  refine ev_goto (tgt := 163) de_Tu_errand_158 (by decide) ?_
                  exact ev_ireturn de_Tu_errand_163 rfl ⟨rfl, rfl⟩
        · skip
          exact absurd h105 (by omega)
      · skip
        exact absurd h84 (by omega)
set_option maxHeartbeats 4000000 in
set_option maxRecDepth 10000 in
theorem l1_Tu_errand {a b : Nat} {rc : Int} {f : Int → Int} {x B : Int} {w : ab_W} (hI : sg_ok B f) (t0 : tu_at a b rc w) (hR : ri_at_j a f x w) (y1 y2 y3 y4 : Int) (hh1 : 0 ≤ y1 ∧ y1 < f 1) (hh2 : 0 ≤ y2 ∧ y2 ≤ 11) (hh3 : 0 ≤ y3 ∧ y3 ≤ 24) (hh4 : 0 ≤ y4 ∧ y4 ≤ 1) : ∀ (n : Nat) (k : Nat) (x9 : Option ab_V), k ≤ 49 → 49 < k + n → sp_lv (ef f y1) y2 (49 - k) (k : Int) = sp_lv (ef f y1) y2 49 0 → ab_Ev g_G g_rs mt_Tu_errand 2 0 0 75 [some (ab_R 0), some (ab_I y1), some (ab_I y2), some (ab_I y3), some (ab_I y4), some (ab_I (f (46 + y1))), some (ab_I (cs_ang f k)), some (ab_I (-1)), some (ab_I (k : Int)), x9] [] w (ab_is (some (ab_I (ce_e f y1 y2 y3 y4))) w) := by
  intro n
  induction n with
  | zero =>
    intro k x9
    intro g1 g2; omega
  | succ n ih =>
    intro k x9
    intro g1 g2 g4
    have ht0 := t0
    have hR0 := hR
    have hI0 := hI
    unfold tu_at at t0
    obtain ⟨sl, fs, vo, li, ra, wo, dh, da, hzz⟩ := hR
    obtain ⟨ds, dn, vw, q0, q1, q2, q3, q4, hzz⟩ := hzz
    obtain ⟨q5, q6, q7, q8, q9, q10, q11, q12, hzz⟩ := hzz
    obtain ⟨e1, e2, e3, e4, e5, e6, e7, e8, e9⟩ := hzz
    obtain ⟨i0, i1, i2, i3, i4, i5, i6, i7, hzz⟩ := sg_all hI
    obtain ⟨i8, i9, i10, i11, i12, i13, i14, i15, hzz⟩ := hzz
    obtain ⟨i16, i17⟩ := hzz
    have ab := cs_ang_b hI0 k
    have z2 := (e2 y1 (by omega) (by omega)).1
    have z1 := (e1 y1 (by omega) (by omega)).1
    have fb : 0 ≤ (f (46 + y1) + cs_ang f k) % 12 ∧ (f (46 + y1) + cs_ang f k) % 12 ≤ 11 := by omega
    have en := ef_n f y1 k
    have qb := bit_at_01 (f 3).toNat ((f (46 + y1) + cs_ang f k) % 12).toNat
    have wb : 0 ≤ sp_way y2 ((f (46 + y1) + cs_ang f k) % 12) ∧ sp_way y2 ((f (46 + y1) + cs_ang f k) % 12) ≤ 6 := by unfold sp_way; split <;> omega
    refine ev_iload de_Tu_errand_75 rfl ?_
    refine ev_bipush de_Tu_errand_77 rfl ?_
    refine ev_icmp_gt (tgt := 183) de_Tu_errand_79 (by decide) (by omega) (by omega) (fun h79 => ?_) (fun h79 => ?_)
    · skip
      exact absurd h79 (by omega)
    · skip
      refine ev_iload de_Tu_errand_82 rfl ?_
      refine ev_if_ge (tgt := 94) de_Tu_errand_84 (by decide) (by omega) (fun h84 => ?_) (fun h84 => ?_)
      · skip
        exact absurd h84 (by decide)
      · skip
        refine ev_iload de_Tu_errand_87 rfl ?_
        refine ev_bipush de_Tu_errand_89 rfl ?_
        refine ev_icmp_gt (tgt := 183) de_Tu_errand_91 (by decide) (by omega) (by omega) (fun h91 => ?_) (fun h91 => ?_)
        · skip
          have ek : k = 49 := by omega
          subst ek
          have ea : ce_e f y1 y2 y3 y4 = -2 := by unfold ce_e; rw [← g4]; exact if_pos (show (48 : Int) < ((49 : Nat) : Int) by decide)
          rw [ea]
          refine ev_bipush de_Tu_errand_183 rfl ?_
          exact ev_ireturn de_Tu_errand_185 rfl ⟨rfl, rfl⟩
        · skip
          have em : 49 - k = (49 - (k + 1)) + 1 := by omega
          refine ev_iload de_Tu_errand_94 rfl ?_
          refine ev_iload de_Tu_errand_96 rfl ?_
          refine ev_sv de_Tu_errand_98 (co_Tu_facedBy _ _ _ (by omega) (by omega) (by omega) (by omega)) kb_Tu_244 sc_Tu_facedBy rfl (Nat.le_of_ble_eq_true rfl) (by decide) rfl ?_
          refine ev_istore (l' := [_, _, _, _, _, _, _, _, _, _]) de_Tu_errand_101 (Nat.le_of_ble_eq_true rfl) rfl ?_
          refine ev_iload de_Tu_errand_103 rfl ?_
          refine ev_if_ge (tgt := 118) de_Tu_errand_105 (by decide) (by omega) (fun h105 => ?_) (fun h105 => ?_)
          · skip
            exact absurd h105 (by decide)
          · skip
            refine ev_iload de_Tu_errand_108 rfl ?_
            refine ev_iload_n de_Tu_errand_110 rfl rfl ?_
            refine ev_icmp_ne (tgt := 118) de_Tu_errand_111 (by decide) (by omega) (by omega) (fun h111 => ?_) (fun h111 => ?_)
            · skip
              have eL : sp_lv (ef f y1) y2 (49 - k) (k : Int) = sp_lv (ef f y1) y2 (49 - (k + 1)) ((k + 1 : Nat) : Int) := by
                rw [em]
                show (if _ then _ else _) = _
                rw [if_neg (by rw [en]; exact h111)]
                rfl
              refine ev_iload de_Tu_errand_118 rfl ?_
              refine ev_if_lt (tgt := 164) de_Tu_errand_120 (by decide) (by decide) (fun _ => ?_) (fun h => absurd h (by decide))
              refine ev_aload_n de_Tu_errand_164 rfl rfl ?_
              refine ev_getfield de_Tu_errand_165 t0 fl_Tu_19 rfl ?_
              refine ev_iload de_Tu_errand_168 rfl ?_
              refine ev_iload de_Tu_errand_170 rfl ?_
              refine ev_vv (ci := 5) de_Tu_errand_172 (co_Ri_angleBehind_j hI0 hR0 _ _ (by omega) (by omega) (by omega) (by omega)) kb_Tu_256 ⟨im_Ri_angleBehind, se_Ri_angleBehind⟩ rfl q0 rfl (Nat.le_of_ble_eq_true rfl) (by decide) rfl ?_
              refine ev_istore (l' := [_, _, _, _, _, _, _, _, _, _]) de_Tu_errand_175 (Nat.le_of_ble_eq_true rfl) rfl ?_
              refine ev_iinc (l' := [_, _, _, _, _, _, _, _, _, _]) de_Tu_errand_177 rfl rfl ?_
              refine ev_goto (tgt := 75) de_Tu_errand_180 (by decide) ?_
              first | exact ih (k + 1) _ (by omega) (by omega) (by rw [← eL]; exact g4) | exact l2_Tu_errand hI0 ht0 hR0 y1 y2 y3 y4 hh1 hh2 hh3 hh4 (k : Int) (by omega) (by omega) (98 - k) (k + 1) _ (by omega) (by omega) (by omega) eB
            · skip
              have eLv : sp_lv (ef f y1) y2 49 0 = (k : Int) := by
                rw [← g4, em]
                show (if _ then _ else _) = _
                rw [if_pos (by rw [en]; exact h111)]
              have eA : ce_e f y1 y2 y3 y4 = ce_a f y1 y2 y3 y4 (k : Int) := by unfold ce_e; rw [eLv, if_neg (by omega)]
              rw [eA]
              have emb : (97 - (k : Int)).toNat = (97 - (k + 1)) + 1 := by omega
              refine ev_iload de_Tu_errand_114 rfl ?_
              refine ev_istore (l' := [_, _, _, _, _, _, _, _, _, _]) de_Tu_errand_116 (Nat.le_of_ble_eq_true rfl) rfl ?_
              refine ev_iload de_Tu_errand_118 rfl ?_
              refine ev_if_lt (tgt := 164) de_Tu_errand_120 (by decide) (by omega) (fun h => absurd h (by omega)) (fun _ => ?_)
              refine ev_aload_n de_Tu_errand_123 rfl rfl ?_
              refine ev_getfield de_Tu_errand_124 t0 fl_Tu_19 rfl ?_
              refine ev_iload de_Tu_errand_127 rfl ?_
              refine ev_vv (ci := 5) de_Tu_errand_129 (co_Ri_isGate_j hI0 hR0 _ (by omega) (by omega)) kb_Tu_146 ⟨im_Ri_isGate, se_Ri_isGate⟩ rfl q0 rfl (Nat.le_of_ble_eq_true rfl) (by decide) rfl ?_
              refine ev_if_eq (tgt := 164) de_Tu_errand_132 (by decide) (by first | omega | (show ab_in (bit_at (f 3).toNat ((f (46 + y1) + cs_ang f k) % 12).toNat); omega)) (fun h132 => ?_) (fun h132 => ?_)
              · skip
                have tb : (f 3).toNat.testBit ((f (46 + y1) + cs_ang f k) % 12).toNat = false := bit_z.mp h132
                have eB : sp_bk (ef f y1) (f 3).toNat y2 ((k : Int) + y3) (97 - (k + 1)) ((k + 1 : Nat) : Int) = ce_b f y1 y2 y3 (k : Int) := by
                  unfold ce_b
                  rw [emb]
                  symm
                  show (if _ then _ else _) = _
                  rw [if_neg (fun z => by rw [en] at z; rw [tb] at z; exact absurd z.1 (by decide))]
                  rfl
                refine ev_aload_n de_Tu_errand_164 rfl rfl ?_
                refine ev_getfield de_Tu_errand_165 t0 fl_Tu_19 rfl ?_
                refine ev_iload de_Tu_errand_168 rfl ?_
                refine ev_iload de_Tu_errand_170 rfl ?_
                refine ev_vv (ci := 5) de_Tu_errand_172 (co_Ri_angleBehind_j hI0 hR0 _ _ (by omega) (by omega) (by omega) (by omega)) kb_Tu_256 ⟨im_Ri_angleBehind, se_Ri_angleBehind⟩ rfl q0 rfl (Nat.le_of_ble_eq_true rfl) (by decide) rfl ?_
                refine ev_istore (l' := [_, _, _, _, _, _, _, _, _, _]) de_Tu_errand_175 (Nat.le_of_ble_eq_true rfl) rfl ?_
                refine ev_iinc (l' := [_, _, _, _, _, _, _, _, _, _]) de_Tu_errand_177 rfl rfl ?_
                refine ev_goto (tgt := 75) de_Tu_errand_180 (by decide) ?_
                first | exact ih (k + 1) _ (by omega) (by omega) (by rw [← eL]; exact g4) | exact l2_Tu_errand hI0 ht0 hR0 y1 y2 y3 y4 hh1 hh2 hh3 hh4 (k : Int) (by omega) (by omega) (98 - k) (k + 1) _ (by omega) (by omega) (by omega) eB
              · skip
                have tb : (f 3).toNat.testBit ((f (46 + y1) + cs_ang f k) % 12).toNat = true := bit_nz.mp h132
                refine ev_iload de_Tu_errand_135 rfl ?_
                refine ev_iload de_Tu_errand_137 rfl ?_
                refine ev_iload_n de_Tu_errand_139 rfl rfl ?_
                refine ev_iadd de_Tu_errand_140 ?_
                refine ev_iload_n de_Tu_errand_141 rfl rfl ?_
                refine ev_iload de_Tu_errand_142 rfl ?_
                refine ev_sv de_Tu_errand_144 (co_Tu_wayBetween _ _ _ hh2 fb) kb_Tu_253 sc_Tu_wayBetween rfl (Nat.le_of_ble_eq_true rfl) (by decide) rfl ?_
                refine ev_iadd de_Tu_errand_147 ?_
                refine ev_icmp_lt (tgt := 164) de_Tu_errand_148 (by decide) (by omega) (by omega) (fun h148 => ?_) (fun h148 => ?_)
                · skip
                  have eB : sp_bk (ef f y1) (f 3).toNat y2 ((k : Int) + y3) (97 - (k + 1)) ((k + 1 : Nat) : Int) = ce_b f y1 y2 y3 (k : Int) := by
                    unfold ce_b
                    rw [emb]
                    symm
                    show (if _ then _ else _) = _
                    rw [if_neg (fun z => by rw [en] at z; omega)]
                    rfl
                  refine ev_aload_n de_Tu_errand_164 rfl rfl ?_
                  refine ev_getfield de_Tu_errand_165 t0 fl_Tu_19 rfl ?_
                  refine ev_iload de_Tu_errand_168 rfl ?_
                  refine ev_iload de_Tu_errand_170 rfl ?_
                  refine ev_vv (ci := 5) de_Tu_errand_172 (co_Ri_angleBehind_j hI0 hR0 _ _ (by omega) (by omega) (by omega) (by omega)) kb_Tu_256 ⟨im_Ri_angleBehind, se_Ri_angleBehind⟩ rfl q0 rfl (Nat.le_of_ble_eq_true rfl) (by decide) rfl ?_
                  refine ev_istore (l' := [_, _, _, _, _, _, _, _, _, _]) de_Tu_errand_175 (Nat.le_of_ble_eq_true rfl) rfl ?_
                  refine ev_iinc (l' := [_, _, _, _, _, _, _, _, _, _]) de_Tu_errand_177 rfl rfl ?_
                  refine ev_goto (tgt := 75) de_Tu_errand_180 (by decide) ?_
                  first | exact ih (k + 1) _ (by omega) (by omega) (by rw [← eL]; exact g4) | exact l2_Tu_errand hI0 ht0 hR0 y1 y2 y3 y4 hh1 hh2 hh3 hh4 (k : Int) (by omega) (by omega) (98 - k) (k + 1) _ (by omega) (by omega) (by omega) eB
                · skip
                  have eb : ce_b f y1 y2 y3 (k : Int) = (k : Int) := by
                    unfold ce_b
                    rw [emb]
                    show (if _ then _ else _) = _
                    rw [if_pos (by rw [en]; exact ⟨tb, by omega⟩)]
                  have ea : ce_a f y1 y2 y3 y4 (k : Int) = if y4 = 0 then (k : Int) else (k : Int) := by unfold ce_a; rw [if_neg (by omega), eb]
                  rw [ea]
                  refine ev_iload de_Tu_errand_151 rfl ?_
                  refine ev_if_ne (tgt := 161) de_Tu_errand_153 (by decide) (by omega) (fun h153 => ?_) (fun h153 => ?_)
                  · skip
                    rw [if_neg h153]
                    refine ev_iload de_Tu_errand_161 rfl ?_
                    exact ev_ireturn de_Tu_errand_163 rfl ⟨rfl, rfl⟩
                  · skip
                    rw [if_pos (by omega)]
                    refine ev_iload de_Tu_errand_156 rfl ?_
                    refine ev_goto (tgt := 163) de_Tu_errand_158 (by decide) ?_
                    exact ev_ireturn de_Tu_errand_163 rfl ⟨rfl, rfl⟩
set_option maxHeartbeats 4000000 in
set_option maxRecDepth 10000 in
theorem co_Tu_errand {a b : Nat} {rc : Int} {f : Int → Int} {x B : Int} {w : ab_W} (hI : sg_ok B f) (t0 : tu_at a b rc w) (hR : ri_at_j a f x w) (y1 : Int) (hy1 : ab_in y1) (y2 : Int) (hy2 : ab_in y2) (y3 : Int) (hy3 : ab_in y3) (y4 : Int) (hy4 : ab_in y4) : ab_Mt g_G g_rs mt_Tu_errand 2 0 0 [ab_R 0, ab_I y1, ab_I y2, ab_I y3, ab_I y4] w (ab_is (some (ab_I (if (0 ≤ y1 ∧ y1 < f 1) ∧ (0 ≤ y2 ∧ y2 ≤ 11) ∧ (f 3).toNat.testBit y2.toNat = true ∧ (0 ≤ y3 ∧ y3 ≤ 24) ∧ 0 ≤ y4 ∧ y4 ≤ 1 then ce_e f y1 y2 y3 y4 else -1))) w) := by
  have ht0 := t0
  have hR0 := hR
  have hI0 := hI
  unfold tu_at at t0
  obtain ⟨sl, fs, vo, li, ra, wo, dh, da, hzz⟩ := hR
  obtain ⟨ds, dn, vw, q0, q1, q2, q3, q4, hzz⟩ := hzz
  obtain ⟨q5, q6, q7, q8, q9, q10, q11, q12, hzz⟩ := hzz
  obtain ⟨e1, e2, e3, e4, e5, e6, e7, e8, e9⟩ := hzz
  obtain ⟨i0, i1, i2, i3, i4, i5, i6, i7, hzz⟩ := sg_all hI
  obtain ⟨i8, i9, i10, i11, i12, i13, i14, i15, hzz⟩ := hzz
  obtain ⟨i16, i17⟩ := hzz
  refine ab_Mt.of rfl (Nat.le_of_ble_eq_true rfl) ?_
  show ab_Ev g_G g_rs mt_Tu_errand _ _ _ 0 [some (ab_R 0), some (ab_I y1), some (ab_I y2), some (ab_I y3), some (ab_I y4), none, none, none, none, none] [] _ _
  refine ev_aload_n de_Tu_errand_0 rfl rfl ?_
  refine ev_iload_n de_Tu_errand_1 rfl rfl ?_
  refine ev_vv (ci := 10) de_Tu_errand_2 (co_Tu_hasHouse hI0 ht0 hR0 _ (by assumption)) kb_Tu_118 ⟨im_Tu_hasHouse, se_Tu_hasHouse⟩ rfl t0 rfl (Nat.le_of_ble_eq_true rfl) (by decide) rfl ?_
  refine ev_if_eq (tgt := 47) de_Tu_errand_5 (by decide) (by first | omega | (split <;> decide)) (fun h5 => ?_) (fun h5 => ?_)
  · skip
    refine ev_iconst de_Tu_errand_47 ?_
    exact ev_ireturn de_Tu_errand_48 rfl ⟨congrArg (fun z => some (ab_I z)) (by first | (rw [if_neg (fun z => by omega)]; done) | (rw [if_neg (fun z => by rw [if_pos z.1] at h5; omega)]; done) | (rw [if_neg (fun z => by rw [if_pos z.2.1] at h12; omega)]; done) | (rw [if_neg (fun z => by rw [tb] at z; exact absurd z.2.2.1 (by decide))]; done)), rfl⟩
  · skip
    refine ev_iload_n de_Tu_errand_8 rfl rfl ?_
    refine ev_sv de_Tu_errand_9 (co_Tu_isDirection _ _ (by assumption)) kb_Tu_156 sc_Tu_isDirection rfl (Nat.le_of_ble_eq_true rfl) (by decide) rfl ?_
    refine ev_if_eq (tgt := 47) de_Tu_errand_12 (by decide) (by first | omega | (split <;> decide)) (fun h12 => ?_) (fun h12 => ?_)
    · skip
      refine ev_iconst de_Tu_errand_47 ?_
      exact ev_ireturn de_Tu_errand_48 rfl ⟨congrArg (fun z => some (ab_I z)) (by first | (rw [if_neg (fun z => by omega)]; done) | (rw [if_neg (fun z => by rw [if_pos z.1] at h5; omega)]; done) | (rw [if_neg (fun z => by rw [if_pos z.2.1] at h12; omega)]; done) | (rw [if_neg (fun z => by rw [tb] at z; exact absurd z.2.2.1 (by decide))]; done)), rfl⟩
    · skip
      refine ev_aload_n de_Tu_errand_15 rfl rfl ?_
      refine ev_getfield de_Tu_errand_16 t0 fl_Tu_19 rfl ?_
      refine ev_iload_n de_Tu_errand_19 rfl rfl ?_
      have hq2 : 0 ≤ y2 ∧ y2 ≤ 11 := by split at h12 <;> omega
      have qb := bit_at_01 (f 3).toNat y2.toNat
      refine ev_vv (ci := 5) de_Tu_errand_20 (co_Ri_isGate_j hI0 hR0 _ (by omega) (by omega)) kb_Tu_146 ⟨im_Ri_isGate, se_Ri_isGate⟩ rfl q0 rfl (Nat.le_of_ble_eq_true rfl) (by decide) rfl ?_
      refine ev_if_eq (tgt := 47) de_Tu_errand_23 (by decide) (by first | omega | (show ab_in (bit_at (f 3).toNat y2.toNat); omega)) (fun h23 => ?_) (fun h23 => ?_)
      · skip
        have tb : (f 3).toNat.testBit y2.toNat = false := bit_z.mp h23
        refine ev_iconst de_Tu_errand_47 ?_
        exact ev_ireturn de_Tu_errand_48 rfl ⟨congrArg (fun z => some (ab_I z)) (by first | (rw [if_neg (fun z => by omega)]; done) | (rw [if_neg (fun z => by rw [if_pos z.1] at h5; omega)]; done) | (rw [if_neg (fun z => by rw [if_pos z.2.1] at h12; omega)]; done) | (rw [if_neg (fun z => by rw [tb] at z; exact absurd z.2.2.1 (by decide))]; done)), rfl⟩
      · skip
        have tb : (f 3).toNat.testBit y2.toNat = true := bit_nz.mp h23
        refine ev_iload_n de_Tu_errand_26 rfl rfl ?_
        refine ev_if_lt (tgt := 47) de_Tu_errand_27 (by decide) (by first | omega | assumption) (fun h27 => ?_) (fun h27 => ?_)
        · skip
          refine ev_iconst de_Tu_errand_47 ?_
          exact ev_ireturn de_Tu_errand_48 rfl ⟨congrArg (fun z => some (ab_I z)) (by first | (rw [if_neg (fun z => by omega)]; done) | (rw [if_neg (fun z => by rw [if_pos z.1] at h5; omega)]; done) | (rw [if_neg (fun z => by rw [if_pos z.2.1] at h12; omega)]; done) | (rw [if_neg (fun z => by rw [tb] at z; exact absurd z.2.2.1 (by decide))]; done)), rfl⟩
        · skip
          refine ev_iload_n de_Tu_errand_30 rfl rfl ?_
          refine ev_bipush de_Tu_errand_31 rfl ?_
          refine ev_icmp_gt (tgt := 47) de_Tu_errand_33 (by decide) (by first | omega | assumption) (by first | omega | assumption) (fun h33 => ?_) (fun h33 => ?_)
          · skip
            refine ev_iconst de_Tu_errand_47 ?_
            exact ev_ireturn de_Tu_errand_48 rfl ⟨congrArg (fun z => some (ab_I z)) (by first | (rw [if_neg (fun z => by omega)]; done) | (rw [if_neg (fun z => by rw [if_pos z.1] at h5; omega)]; done) | (rw [if_neg (fun z => by rw [if_pos z.2.1] at h12; omega)]; done) | (rw [if_neg (fun z => by rw [tb] at z; exact absurd z.2.2.1 (by decide))]; done)), rfl⟩
          · skip
            refine ev_iload de_Tu_errand_36 rfl ?_
            refine ev_if_lt (tgt := 47) de_Tu_errand_38 (by decide) (by first | omega | assumption) (fun h38 => ?_) (fun h38 => ?_)
            · skip
              refine ev_iconst de_Tu_errand_47 ?_
              exact ev_ireturn de_Tu_errand_48 rfl ⟨congrArg (fun z => some (ab_I z)) (by first | (rw [if_neg (fun z => by omega)]; done) | (rw [if_neg (fun z => by rw [if_pos z.1] at h5; omega)]; done) | (rw [if_neg (fun z => by rw [if_pos z.2.1] at h12; omega)]; done) | (rw [if_neg (fun z => by rw [tb] at z; exact absurd z.2.2.1 (by decide))]; done)), rfl⟩
            · skip
              refine ev_iload de_Tu_errand_41 rfl ?_
              refine ev_iconst de_Tu_errand_43 ?_
              refine ev_icmp_le (tgt := 49) de_Tu_errand_44 (by decide) (by first | omega | assumption) (by first | omega | assumption) (fun h44 => ?_) (fun h44 => ?_)
              · skip
                have hh1 : 0 ≤ y1 ∧ y1 < f 1 := by split at h5 <;> omega
                have hg : (0 ≤ y1 ∧ y1 < f 1) ∧ (0 ≤ y2 ∧ y2 ≤ 11) ∧ (f 3).toNat.testBit y2.toNat = true ∧ (0 ≤ y3 ∧ y3 ≤ 24) ∧ 0 ≤ y4 ∧ y4 ≤ 1 := ⟨hh1, hq2, tb, by omega, by omega⟩
                rw [if_pos hg]
                have z2 := (e2 y1 (by omega) (by omega)).1
                have z1 := (e1 y1 (by omega) (by omega)).1
                refine ev_aload_n de_Tu_errand_49 rfl rfl ?_
                refine ev_getfield de_Tu_errand_50 t0 fl_Tu_19 rfl ?_
                refine ev_getfield de_Tu_errand_53 q0 fl_Tu_126 rfl ?_
                refine ev_iload_n de_Tu_errand_56 rfl rfl ?_
                refine ev_iaload de_Tu_errand_57 q1 (by first | omega | assumption) (by first | omega | assumption) (by first | omega | assumption) ?_
                refine ev_top (congrArg Sum.inl z2) ?_
                refine ev_istore (l' := [_, _, _, _, _, _, _, _, _, _]) de_Tu_errand_58 (Nat.le_of_ble_eq_true rfl) rfl ?_
                refine ev_aload_n de_Tu_errand_60 rfl rfl ?_
                refine ev_getfield de_Tu_errand_61 t0 fl_Tu_19 rfl ?_
                refine ev_getfield de_Tu_errand_64 q0 fl_Tu_177 rfl ?_
                refine ev_istore (l' := [_, _, _, _, _, _, _, _, _, _]) de_Tu_errand_67 (Nat.le_of_ble_eq_true rfl) rfl ?_
                refine ev_iconst de_Tu_errand_69 ?_
                refine ev_istore (l' := [_, _, _, _, _, _, _, _, _, _]) de_Tu_errand_70 (Nat.le_of_ble_eq_true rfl) rfl ?_
                refine ev_iconst de_Tu_errand_72 ?_
                refine ev_istore (l' := [_, _, _, _, _, _, _, _, _, _]) de_Tu_errand_73 (Nat.le_of_ble_eq_true rfl) rfl ?_
                exact l1_Tu_errand hI0 ht0 hR0 y1 y2 y3 y4 hh1 hq2 (by omega) (by omega) 50 0 _ (by omega) (by omega) rfl
              · skip
                refine ev_iconst de_Tu_errand_47 ?_
                exact ev_ireturn de_Tu_errand_48 rfl ⟨congrArg (fun z => some (ab_I z)) (by first | (rw [if_neg (fun z => by omega)]; done) | (rw [if_neg (fun z => by rw [if_pos z.1] at h5; omega)]; done) | (rw [if_neg (fun z => by rw [if_pos z.2.1] at h12; omega)]; done) | (rw [if_neg (fun z => by rw [tb] at z; exact absurd z.2.2.1 (by decide))]; done)), rfl⟩