theorem de_Ac_undoLast_0 : decode prog_2_method_4_code 0 = .ok (.aload_n 0, 1) := by decide +kernel
theorem de_Ac_undoLast_1 : decode prog_2_method_4_code 1 = .ok (.getfield 19, 3) := by decide +kernel
theorem de_Ac_undoLast_4 : decode prog_2_method_4_code 4 = .ok (.ifCond .ne 5, 3) := by decide +kernel
theorem de_Ac_undoLast_7 : decode prog_2_method_4_code 7 = .ok (.iconst 0, 1) := by decide +kernel
theorem de_Ac_undoLast_8 : decode prog_2_method_4_code 8 = .ok (.ireturn, 1) := by decide +kernel
theorem de_Ac_undoLast_9 : decode prog_2_method_4_code 9 = .ok (.aload_n 0, 1) := by decide +kernel
theorem de_Ac_undoLast_10 : decode prog_2_method_4_code 10 = .ok (.dup, 1) := by decide +kernel
theorem de_Ac_undoLast_11 : decode prog_2_method_4_code 11 = .ok (.getfield 19, 3) := by decide +kernel
theorem de_Ac_undoLast_14 : decode prog_2_method_4_code 14 = .ok (.iconst 1, 1) := by decide +kernel
theorem de_Ac_undoLast_15 : decode prog_2_method_4_code 15 = .ok (.isub, 1) := by decide +kernel
theorem de_Ac_undoLast_16 : decode prog_2_method_4_code 16 = .ok (.putfield 19, 3) := by decide +kernel
theorem de_Ac_undoLast_19 : decode prog_2_method_4_code 19 = .ok (.aload_n 0, 1) := by decide +kernel
theorem de_Ac_undoLast_20 : decode prog_2_method_4_code 20 = .ok (.aload_n 0, 1) := by decide +kernel
theorem de_Ac_undoLast_21 : decode prog_2_method_4_code 21 = .ok (.getfield 23, 3) := by decide +kernel
theorem de_Ac_undoLast_24 : decode prog_2_method_4_code 24 = .ok (.bipush 20, 2) := by decide +kernel
theorem de_Ac_undoLast_26 : decode prog_2_method_4_code 26 = .ok (.iadd, 1) := by decide +kernel
theorem de_Ac_undoLast_27 : decode prog_2_method_4_code 27 = .ok (.iconst 1, 1) := by decide +kernel
theorem de_Ac_undoLast_28 : decode prog_2_method_4_code 28 = .ok (.isub, 1) := by decide +kernel
theorem de_Ac_undoLast_29 : decode prog_2_method_4_code 29 = .ok (.bipush 20, 2) := by decide +kernel
theorem de_Ac_undoLast_31 : decode prog_2_method_4_code 31 = .ok (.irem, 1) := by decide +kernel
theorem de_Ac_undoLast_32 : decode prog_2_method_4_code 32 = .ok (.putfield 23, 3) := by decide +kernel
theorem de_Ac_undoLast_35 : decode prog_2_method_4_code 35 = .ok (.aload_n 0, 1) := by decide +kernel
theorem de_Ac_undoLast_36 : decode prog_2_method_4_code 36 = .ok (.getfield 13, 3) := by decide +kernel
theorem de_Ac_undoLast_39 : decode prog_2_method_4_code 39 = .ok (.aload_n 0, 1) := by decide +kernel
theorem de_Ac_undoLast_40 : decode prog_2_method_4_code 40 = .ok (.getfield 23, 3) := by decide +kernel
theorem de_Ac_undoLast_43 : decode prog_2_method_4_code 43 = .ok (.iaload, 1) := by decide +kernel
theorem de_Ac_undoLast_44 : decode prog_2_method_4_code 44 = .ok (.istore_n 2, 1) := by decide +kernel
theorem de_Ac_undoLast_45 : decode prog_2_method_4_code 45 = .ok (.aload_n 0, 1) := by decide +kernel
theorem de_Ac_undoLast_46 : decode prog_2_method_4_code 46 = .ok (.getfield 16, 3) := by decide +kernel
theorem de_Ac_undoLast_49 : decode prog_2_method_4_code 49 = .ok (.aload_n 0, 1) := by decide +kernel
theorem de_Ac_undoLast_50 : decode prog_2_method_4_code 50 = .ok (.getfield 23, 3) := by decide +kernel
theorem de_Ac_undoLast_53 : decode prog_2_method_4_code 53 = .ok (.iaload, 1) := by decide +kernel
theorem de_Ac_undoLast_54 : decode prog_2_method_4_code 54 = .ok (.istore_n 3, 1) := by decide +kernel
theorem de_Ac_undoLast_55 : decode prog_2_method_4_code 55 = .ok (.aload_n 0, 1) := by decide +kernel
theorem de_Ac_undoLast_56 : decode prog_2_method_4_code 56 = .ok (.getfield 9, 3) := by decide +kernel
theorem de_Ac_undoLast_59 : decode prog_2_method_4_code 59 = .ok (.aload_n 0, 1) := by decide +kernel
theorem de_Ac_undoLast_60 : decode prog_2_method_4_code 60 = .ok (.getfield 23, 3) := by decide +kernel
theorem de_Ac_undoLast_63 : decode prog_2_method_4_code 63 = .ok (.iaload, 1) := by decide +kernel
theorem de_Ac_undoLast_64 : decode prog_2_method_4_code 64 = .ok (.tableswitch 64 0 2 #[28, 45, 55], 28) := by decide +kernel
theorem de_Ac_undoLast_92 : decode prog_2_method_4_code 92 = .ok (.aload_n 1, 1) := by decide +kernel
theorem de_Ac_undoLast_93 : decode prog_2_method_4_code 93 = .ok (.iload_n 2, 1) := by decide +kernel
theorem de_Ac_undoLast_94 : decode prog_2_method_4_code 94 = .ok (.iload_n 3, 1) := by decide +kernel
theorem de_Ac_undoLast_95 : decode prog_2_method_4_code 95 = .ok (.ifCond .eq 7, 3) := by decide +kernel
theorem de_Ac_undoLast_98 : decode prog_2_method_4_code 98 = .ok (.iconst 1, 1) := by decide +kernel
theorem de_Ac_undoLast_99 : decode prog_2_method_4_code 99 = .ok (.goto 4, 3) := by decide +kernel
theorem de_Ac_undoLast_102 : decode prog_2_method_4_code 102 = .ok (.iconst 0, 1) := by decide +kernel
theorem de_Ac_undoLast_103 : decode prog_2_method_4_code 103 = .ok (.invokevirtual 32, 3) := by decide +kernel
theorem de_Ac_undoLast_106 : decode prog_2_method_4_code 106 = .ok (.goto 37, 3) := by decide +kernel
theorem de_Ac_undoLast_109 : decode prog_2_method_4_code 109 = .ok (.aload_n 1, 1) := by decide +kernel
theorem de_Ac_undoLast_110 : decode prog_2_method_4_code 110 = .ok (.getfield 38, 3) := by decide +kernel
theorem de_Ac_undoLast_113 : decode prog_2_method_4_code 113 = .ok (.iload_n 2, 1) := by decide +kernel
theorem de_Ac_undoLast_114 : decode prog_2_method_4_code 114 = .ok (.iload_n 3, 1) := by decide +kernel
theorem de_Ac_undoLast_115 : decode prog_2_method_4_code 115 = .ok (.iastore, 1) := by decide +kernel
theorem de_Ac_undoLast_116 : decode prog_2_method_4_code 116 = .ok (.goto 27, 3) := by decide +kernel
theorem de_Ac_undoLast_119 : decode prog_2_method_4_code 119 = .ok (.aload_n 1, 1) := by decide +kernel
theorem de_Ac_undoLast_120 : decode prog_2_method_4_code 120 = .ok (.iload_n 2, 1) := by decide +kernel
theorem de_Ac_undoLast_121 : decode prog_2_method_4_code 121 = .ok (.iload_n 3, 1) := by decide +kernel
theorem de_Ac_undoLast_122 : decode prog_2_method_4_code 122 = .ok (.invokevirtual 41, 3) := by decide +kernel
theorem de_Ac_undoLast_125 : decode prog_2_method_4_code 125 = .ok (.goto 18, 3) := by decide +kernel
theorem de_Ac_undoLast_128 : decode prog_2_method_4_code 128 = .ok (.aload_n 1, 1) := by decide +kernel
theorem de_Ac_undoLast_129 : decode prog_2_method_4_code 129 = .ok (.iconst 0, 1) := by decide +kernel
theorem de_Ac_undoLast_130 : decode prog_2_method_4_code 130 = .ok (.putfield 45, 3) := by decide +kernel
theorem de_Ac_undoLast_133 : decode prog_2_method_4_code 133 = .ok (.aload_n 1, 1) := by decide +kernel
theorem de_Ac_undoLast_134 : decode prog_2_method_4_code 134 = .ok (.dup, 1) := by decide +kernel
theorem de_Ac_undoLast_135 : decode prog_2_method_4_code 135 = .ok (.getfield 49, 3) := by decide +kernel
theorem de_Ac_undoLast_138 : decode prog_2_method_4_code 138 = .ok (.iconst 1, 1) := by decide +kernel
theorem de_Ac_undoLast_139 : decode prog_2_method_4_code 139 = .ok (.isub, 1) := by decide +kernel
theorem de_Ac_undoLast_140 : decode prog_2_method_4_code 140 = .ok (.putfield 49, 3) := by decide +kernel
theorem de_Ac_undoLast_143 : decode prog_2_method_4_code 143 = .ok (.iconst 1, 1) := by decide +kernel
theorem de_Ac_undoLast_144 : decode prog_2_method_4_code 144 = .ok (.ireturn, 1) := by decide +kernel
set_option maxHeartbeats 4000000 in
set_option maxRecDepth 10000 in
theorem co_Ac_undoLast {o c : Nat} {f : Int → Int} {x B : Int} {w : ab_W} {ki f1 s1 : Int → Int} {sz nx : Int} (hI : sg_ok B f) (hR : ri_at_j o f x w) (hac : acl c ki f1 s1 sz nx w) (hd : o + 13 ≤ c ∨ c + 4 ≤ o) (hnx : 0 ≤ nx ∧ nx < 20) (hsz : 0 ≤ sz ∧ sz ≤ 20) (hv : 0 < sz → ac_v (f 1) (ki ((nx + 19) % 20)) (f1 ((nx + 19) % 20)) (s1 ((nx + 19) % 20))) : ab_Mt g_G g_rs mt_Ac_undoLast 2 0 0 [ab_R c, ab_R o] w (fun r w2 => w2.length = w.length ∧ ((0 < sz) ∧ r = some (ab_I 1) ∧ ri_at_j o (cs_ua (ki ((nx + 19) % 20)) (f1 ((nx + 19) % 20)) (s1 ((nx + 19) % 20)) f) x w2 ∧ acl c ki f1 s1 (sz - 1) ((nx + 19) % 20) w2 ∧ (∀ p, (p < o ∨ o + 13 ≤ p) → (p < c ∨ c + 4 ≤ p) → w2[p]? = w[p]?) ∨ ¬ (0 < sz) ∧ r = some (ab_I 0) ∧ w2 = w)) := by
  have hl : w.length = w.length := rfl
  have hR0 := hR
  have hI0 := hI
  have hfa : fr_at c 4 w w := fr_0
  obtain ⟨sl, fs, vo, li, ra, wo, dh, da, hzz⟩ := hR
  obtain ⟨ds, dn, vw, q0, q1, q2, q3, q4, hzz⟩ := hzz
  obtain ⟨q5, q6, q7, q8, q9, q10, q11, q12, hzz⟩ := hzz
  obtain ⟨e1, e2, e3, e4, e5, e6, e7, e8, e9⟩ := hzz
  obtain ⟨i0, i1, i2, i3, i4, i5, i6, i7, hzz⟩ := sg_all hI
  obtain ⟨i8, i9, i10, i11, i12, i13, i14, i15, hzz⟩ := hzz
  obtain ⟨i16, i17⟩ := hzz
  obtain ⟨c0, c1, c2, c3⟩ := id hac
  refine ab_Mt.of rfl (Nat.le_of_ble_eq_true rfl) ?_
  show ab_Ev g_G g_rs mt_Ac_undoLast _ _ _ 0 [some (ab_R c), some (ab_R o), none, none] [] _ _
  refine ev_aload_n de_Ac_undoLast_0 rfl rfl ?_
  refine ev_getfield de_Ac_undoLast_1 c0 fl_Ac_19 rfl ?_
  refine ev_if_ne (tgt := 9) de_Ac_undoLast_4 (by decide) (by first | omega | assumption) (fun h4 => ?_) (fun h4 => ?_)
  · skip
    have v0 := hv (by omega)
    obtain ⟨p0, ep0⟩ : ∃ z, ki ((nx + 19) % 20) = z := ⟨_, rfl⟩
    obtain ⟨p1, ep1⟩ : ∃ z, f1 ((nx + 19) % 20) = z := ⟨_, rfl⟩
    obtain ⟨p2, ep2⟩ : ∃ z, s1 ((nx + 19) % 20) = z := ⟨_, rfl⟩
    rw [ep0, ep1, ep2] at v0 ⊢
    unfold ac_v at v0
    refine ev_aload_n de_Ac_undoLast_9 rfl rfl ?_
    refine ev_dup de_Ac_undoLast_10 rfl ?_
    refine ev_getfield de_Ac_undoLast_11 c0 fl_Ac_19 rfl ?_
    refine ev_iconst de_Ac_undoLast_14 ?_
    refine ev_isub de_Ac_undoLast_15 ?_
    refine ev_putfield de_Ac_undoLast_16 c0 (fp_Ac_19 _) (Nat.le_of_ble_eq_true rfl) trivial ?_
    refine ev_gen (P := fun w1 => acl c ki f1 s1 (sz - 1) (nx) w1 ∧ fr_at c 4 w w1) ⟨acl_o hac, fr_set hfa (by omega) (by omega)⟩ (fun w1 hCf => ?_)
    obtain ⟨hac, hfa⟩ := hCf
    obtain ⟨c0, c1, c2, c3⟩ := id hac
    refine ev_aload_n de_Ac_undoLast_19 rfl rfl ?_
    refine ev_aload_n de_Ac_undoLast_20 rfl rfl ?_
    refine ev_getfield de_Ac_undoLast_21 c0 fl_Ac_23 rfl ?_
    refine ev_bipush de_Ac_undoLast_24 rfl ?_
    refine ev_iadd de_Ac_undoLast_26 ?_
    refine ev_iconst de_Ac_undoLast_27 ?_
    refine ev_isub de_Ac_undoLast_28 ?_
    refine ev_bipush de_Ac_undoLast_29 rfl ?_
    refine ev_irem de_Ac_undoLast_31 (by first | omega | assumption) (by first | omega | assumption) (by first | omega | assumption) ?_
    refine ev_top (congrArg Sum.inl (show (nx + 20 - 1).tmod 20 = ((nx + 19) % 20) from ((ab_tme (nx + 20 - 1) 20 (by decide)).1 (by omega)).trans (by rw [show nx + 20 - 1 = nx + 19 by omega]))) ?_
    refine ev_putfield de_Ac_undoLast_32 c0 (fp_Ac_23 _) (Nat.le_of_ble_eq_true rfl) trivial ?_
    refine ev_gen (P := fun w1 => acl c ki f1 s1 (sz - 1) (((nx + 19) % 20)) w1 ∧ fr_at c 4 w w1) ⟨acl_o hac, fr_set hfa (by omega) (by omega)⟩ (fun w1 hCf => ?_)
    obtain ⟨hac, hfa⟩ := hCf
    obtain ⟨c0, c1, c2, c3⟩ := id hac
    have hR0 := rj_fr hR0 hfa (by omega)
    have hR := hR0
    obtain ⟨sl, fs, vo, li, ra, wo, dh, da, hzz⟩ := hR
    obtain ⟨ds, dn, vw, q0, q1, q2, q3, q4, hzz⟩ := hzz
    obtain ⟨q5, q6, q7, q8, q9, q10, q11, q12, hzz⟩ := hzz
    obtain ⟨e1, e2, e3, e4, e5, e6, e7, e8, e9⟩ := hzz
    refine ev_gen (P := fun w9 => w9 = w1) rfl (fun w9 e9 => ?_)
    subst e9
    refine ev_aload_n de_Ac_undoLast_35 rfl rfl ?_
    refine ev_getfield de_Ac_undoLast_36 c0 fl_Ac_13 rfl ?_
    refine ev_aload_n de_Ac_undoLast_39 rfl rfl ?_
    refine ev_getfield de_Ac_undoLast_40 c0 fl_Ac_23 rfl ?_
    refine ev_iaload de_Ac_undoLast_43 c2 (by first | omega | assumption) (by first | omega | assumption) (by first | omega | assumption) ?_
    refine ev_top (congrArg Sum.inl ep1) ?_
    refine ev_istore_n (l' := [_, _, _, _]) de_Ac_undoLast_44 rfl (Nat.le_of_ble_eq_true rfl) rfl ?_
    refine ev_aload_n de_Ac_undoLast_45 rfl rfl ?_
    refine ev_getfield de_Ac_undoLast_46 c0 fl_Ac_16 rfl ?_
    refine ev_aload_n de_Ac_undoLast_49 rfl rfl ?_
    refine ev_getfield de_Ac_undoLast_50 c0 fl_Ac_23 rfl ?_
    refine ev_iaload de_Ac_undoLast_53 c3 (by first | omega | assumption) (by first | omega | assumption) (by first | omega | assumption) ?_
    refine ev_top (congrArg Sum.inl ep2) ?_
    refine ev_istore_n (l' := [_, _, _, _]) de_Ac_undoLast_54 rfl (Nat.le_of_ble_eq_true rfl) rfl ?_
    refine ev_aload_n de_Ac_undoLast_55 rfl rfl ?_
    refine ev_getfield de_Ac_undoLast_56 c0 fl_Ac_9 rfl ?_
    refine ev_aload_n de_Ac_undoLast_59 rfl rfl ?_
    refine ev_getfield de_Ac_undoLast_60 c0 fl_Ac_23 rfl ?_
    refine ev_iaload de_Ac_undoLast_63 c1 (by first | omega | assumption) (by first | omega | assumption) (by first | omega | assumption) ?_
    refine ev_top (congrArg Sum.inl ep0) ?_
    rcases (by omega : p0 < 0 ∨ 2 < p0 ∨ p0 = 0 ∨ p0 = 1 ∨ p0 = 2) with c | c | c | c | c
    · refine ev_tableOut (tgt := 128) de_Ac_undoLast_64 (by first | omega | assumption) (by omega) (by decide) ?_
      refine ev_aload_n de_Ac_undoLast_128 rfl rfl ?_
      refine ev_iconst de_Ac_undoLast_129 ?_
      refine ev_putfield de_Ac_undoLast_130 q0 (fp_Ac_45 _) (Nat.le_of_ble_eq_true rfl) (Or.inl rfl) ?_
      refine ev_gen (P := fun w1 => w1 = w9.set o (ab_ob 5 [ab_I (f 0), ab_I (f 4), ab_I (f 5), ab_I (f 6), ab_I 0, ab_I (f 8), ab_I x, ab_I (f 1), ab_I (f 2), ab_I (f 3), ab_R (o + 1), ab_R (o + 2), ab_R (o + 3), ab_R (o + 4), ab_R (o + 5), ab_R (o + 6), ab_R (o + 7), ab_R (o + 8)])) rfl (fun w1 hm1 => ?_)
      have q0 := (congrArg (fun z : ab_W => z[o]?) hm1).trans (ab_gs q0)
      refine ev_aload_n de_Ac_undoLast_133 rfl rfl ?_
      refine ev_dup de_Ac_undoLast_134 rfl ?_
      refine ev_getfield de_Ac_undoLast_135 q0 fl_Ac_49 rfl ?_
      refine ev_iconst de_Ac_undoLast_138 ?_
      refine ev_isub de_Ac_undoLast_139 ?_
      refine ev_putfield de_Ac_undoLast_140 q0 (fp_Ac_49 _) (Nat.le_of_ble_eq_true rfl) trivial ?_
      refine ev_gen (P := fun w1 => ri_at_j o (ab_up (ab_up f 7 0) 8 (f 8 - 1)) x w1 ∧ fr_at o 13 w9 w1) ⟨by rw [hm1, List.set_set]; exact rj_stp hR0 (by omega) (by omega) 0 _, by rw [hm1, List.set_set]; exact fr_set fr_0 (by omega) (by omega)⟩ (fun w1 hm1 => ?_)
      obtain ⟨hR9, hf9⟩ := hm1
      have hac9 := acl_fr hac hf9 (by omega)
      have hl1 := hf9.1
      refine ev_iconst de_Ac_undoLast_143 ?_
      exact ev_zreturn de_Ac_undoLast_144 rfl (by decide) ⟨hl1.trans hfa.1, Or.inl ⟨by omega, rfl, (by unfold cs_ua; first | (rw [if_pos (by omega)]; (first | exact hR9 | (rw [show p2 = 1 by omega]; exact hR9) | (rw [show p2 = 0 by omega]; exact hR9))) | (rw [if_neg (by omega), if_pos (by omega)]; (first | exact hR9 | (rw [show p2 = 1 by omega]; exact hR9) | (rw [show p2 = 0 by omega]; exact hR9))) | (rw [if_neg (by omega), if_neg (by omega), if_pos (by omega)]; (first | exact hR9 | (rw [show p2 = 1 by omega]; exact hR9) | (rw [show p2 = 0 by omega]; exact hR9))) | (rw [if_neg (by omega), if_neg (by omega), if_neg (by omega)]; (first | exact hR9 | (rw [show p2 = 1 by omega]; exact hR9) | (rw [show p2 = 0 by omega]; exact hR9)))), hac9, fun p hp1 hp2 => (hf9.2 p hp1).trans (hfa.2 p hp2)⟩⟩
    · refine ev_tableOut (tgt := 128) de_Ac_undoLast_64 (by first | omega | assumption) (by omega) (by decide) ?_
      refine ev_aload_n de_Ac_undoLast_128 rfl rfl ?_
      refine ev_iconst de_Ac_undoLast_129 ?_
      refine ev_putfield de_Ac_undoLast_130 q0 (fp_Ac_45 _) (Nat.le_of_ble_eq_true rfl) (Or.inl rfl) ?_
      refine ev_gen (P := fun w1 => w1 = w9.set o (ab_ob 5 [ab_I (f 0), ab_I (f 4), ab_I (f 5), ab_I (f 6), ab_I 0, ab_I (f 8), ab_I x, ab_I (f 1), ab_I (f 2), ab_I (f 3), ab_R (o + 1), ab_R (o + 2), ab_R (o + 3), ab_R (o + 4), ab_R (o + 5), ab_R (o + 6), ab_R (o + 7), ab_R (o + 8)])) rfl (fun w1 hm1 => ?_)
      have q0 := (congrArg (fun z : ab_W => z[o]?) hm1).trans (ab_gs q0)
      refine ev_aload_n de_Ac_undoLast_133 rfl rfl ?_
      refine ev_dup de_Ac_undoLast_134 rfl ?_
      refine ev_getfield de_Ac_undoLast_135 q0 fl_Ac_49 rfl ?_
      refine ev_iconst de_Ac_undoLast_138 ?_
      refine ev_isub de_Ac_undoLast_139 ?_
      refine ev_putfield de_Ac_undoLast_140 q0 (fp_Ac_49 _) (Nat.le_of_ble_eq_true rfl) trivial ?_
      refine ev_gen (P := fun w1 => ri_at_j o (ab_up (ab_up f 7 0) 8 (f 8 - 1)) x w1 ∧ fr_at o 13 w9 w1) ⟨by rw [hm1, List.set_set]; exact rj_stp hR0 (by omega) (by omega) 0 _, by rw [hm1, List.set_set]; exact fr_set fr_0 (by omega) (by omega)⟩ (fun w1 hm1 => ?_)
      obtain ⟨hR9, hf9⟩ := hm1
      have hac9 := acl_fr hac hf9 (by omega)
      have hl1 := hf9.1
      refine ev_iconst de_Ac_undoLast_143 ?_
      exact ev_zreturn de_Ac_undoLast_144 rfl (by decide) ⟨hl1.trans hfa.1, Or.inl ⟨by omega, rfl, (by unfold cs_ua; first | (rw [if_pos (by omega)]; (first | exact hR9 | (rw [show p2 = 1 by omega]; exact hR9) | (rw [show p2 = 0 by omega]; exact hR9))) | (rw [if_neg (by omega), if_pos (by omega)]; (first | exact hR9 | (rw [show p2 = 1 by omega]; exact hR9) | (rw [show p2 = 0 by omega]; exact hR9))) | (rw [if_neg (by omega), if_neg (by omega), if_pos (by omega)]; (first | exact hR9 | (rw [show p2 = 1 by omega]; exact hR9) | (rw [show p2 = 0 by omega]; exact hR9))) | (rw [if_neg (by omega), if_neg (by omega), if_neg (by omega)]; (first | exact hR9 | (rw [show p2 = 1 by omega]; exact hR9) | (rw [show p2 = 0 by omega]; exact hR9)))), hac9, fun p hp1 hp2 => (hf9.2 p hp1).trans (hfa.2 p hp2)⟩⟩
    · subst c
      refine ev_tableIn (off := 28) (tgt := 92) de_Ac_undoLast_64 (by decide) (by decide) (by decide) rfl (by decide) ?_
      refine ev_aload_n de_Ac_undoLast_92 rfl rfl ?_
      refine ev_iload_n de_Ac_undoLast_93 rfl rfl ?_
      refine ev_iload_n de_Ac_undoLast_94 rfl rfl ?_
      refine ev_if_eq (tgt := 102) de_Ac_undoLast_95 (by decide) (by first | omega | assumption) (fun h95 => ?_) (fun h95 => ?_)
      · skip
        refine ev_iconst de_Ac_undoLast_102 ?_
        refine ev_virtual (ci := 5) (mc := 0) (ms := 0) (bc := 0) (bs := 0) de_Ac_undoLast_103 (co_Ri_takeHourBack_j hI0 hR0 _ _ (by first | exact Or.inl rfl | exact Or.inr rfl) (by omega) (by omega)) kb_Ac_32 ⟨im_Ri_takeHourBack, se_Ri_takeHourBack⟩ rfl q0 rfl (Nat.le_of_ble_eq_true rfl) (by decide) (Or.inl (fun r w1 h => h.2.2.1)) (fun r1 w1 hm1 => ?_)
        obtain ⟨rfl, hR9, hf9⟩ := hm1
        · skip
          have hac9 := acl_fr hac hf9 (by omega)
          have hl1 := hf9.1
          refine ev_goto (tgt := 143) de_Ac_undoLast_106 (by decide) ?_
          refine ev_iconst de_Ac_undoLast_143 ?_
          exact ev_zreturn de_Ac_undoLast_144 rfl (by decide) ⟨hl1.trans hfa.1, Or.inl ⟨by omega, rfl, (by unfold cs_ua; first | (rw [if_pos (by omega)]; (first | exact hR9 | (rw [show p2 = 1 by omega]; exact hR9) | (rw [show p2 = 0 by omega]; exact hR9))) | (rw [if_neg (by omega), if_pos (by omega)]; (first | exact hR9 | (rw [show p2 = 1 by omega]; exact hR9) | (rw [show p2 = 0 by omega]; exact hR9))) | (rw [if_neg (by omega), if_neg (by omega), if_pos (by omega)]; (first | exact hR9 | (rw [show p2 = 1 by omega]; exact hR9) | (rw [show p2 = 0 by omega]; exact hR9))) | (rw [if_neg (by omega), if_neg (by omega), if_neg (by omega)]; (first | exact hR9 | (rw [show p2 = 1 by omega]; exact hR9) | (rw [show p2 = 0 by omega]; exact hR9)))), hac9, fun p hp1 hp2 => (hf9.2 p hp1).trans (hfa.2 p hp2)⟩⟩
      · skip
        refine ev_iconst de_Ac_undoLast_98 ?_
        refine ev_goto (tgt := 103) de_Ac_undoLast_99 (by decide) ?_
        refine ev_virtual (ci := 5) (mc := 0) (ms := 0) (bc := 0) (bs := 0) de_Ac_undoLast_103 (co_Ri_takeHourBack_j hI0 hR0 _ _ (by first | exact Or.inl rfl | exact Or.inr rfl) (by omega) (by omega)) kb_Ac_32 ⟨im_Ri_takeHourBack, se_Ri_takeHourBack⟩ rfl q0 rfl (Nat.le_of_ble_eq_true rfl) (by decide) (Or.inl (fun r w1 h => h.2.2.1)) (fun r1 w1 hm1 => ?_)
        obtain ⟨rfl, hR9, hf9⟩ := hm1
        · skip
          have hac9 := acl_fr hac hf9 (by omega)
          have hl1 := hf9.1
          refine ev_goto (tgt := 143) de_Ac_undoLast_106 (by decide) ?_
          refine ev_iconst de_Ac_undoLast_143 ?_
          exact ev_zreturn de_Ac_undoLast_144 rfl (by decide) ⟨hl1.trans hfa.1, Or.inl ⟨by omega, rfl, (by unfold cs_ua; first | (rw [if_pos (by omega)]; (first | exact hR9 | (rw [show p2 = 1 by omega]; exact hR9) | (rw [show p2 = 0 by omega]; exact hR9))) | (rw [if_neg (by omega), if_pos (by omega)]; (first | exact hR9 | (rw [show p2 = 1 by omega]; exact hR9) | (rw [show p2 = 0 by omega]; exact hR9))) | (rw [if_neg (by omega), if_neg (by omega), if_pos (by omega)]; (first | exact hR9 | (rw [show p2 = 1 by omega]; exact hR9) | (rw [show p2 = 0 by omega]; exact hR9))) | (rw [if_neg (by omega), if_neg (by omega), if_neg (by omega)]; (first | exact hR9 | (rw [show p2 = 1 by omega]; exact hR9) | (rw [show p2 = 0 by omega]; exact hR9)))), hac9, fun p hp1 hp2 => (hf9.2 p hp1).trans (hfa.2 p hp2)⟩⟩
    · subst c
      refine ev_tableIn (off := 45) (tgt := 109) de_Ac_undoLast_64 (by decide) (by decide) (by decide) rfl (by decide) ?_
      refine ev_aload_n de_Ac_undoLast_109 rfl rfl ?_
      refine ev_getfield de_Ac_undoLast_110 q0 fl_Ac_38 rfl ?_
      refine ev_iload_n de_Ac_undoLast_113 rfl rfl ?_
      refine ev_iload_n de_Ac_undoLast_114 rfl rfl ?_
      refine ev_iastore de_Ac_undoLast_115 q6 (by first | omega | assumption) (by first | omega | assumption) (by first | omega | assumption) ?_
      refine ev_gen (P := fun w1 => ri_at_j o (ab_up f (10 + p1) p2) x w1 ∧ fr_at o 13 w9 w1) ⟨rj_rate hR0 (by omega) (by omega) q6 (by omega) (by omega), fr_set fr_0 (by omega) (by omega)⟩ (fun w1 hm1 => ?_)
      obtain ⟨hR9, hf9⟩ := hm1
      have hac9 := acl_fr hac hf9 (by omega)
      have hl1 := hf9.1
      refine ev_goto (tgt := 143) de_Ac_undoLast_116 (by decide) ?_
      refine ev_iconst de_Ac_undoLast_143 ?_
      exact ev_zreturn de_Ac_undoLast_144 rfl (by decide) ⟨hl1.trans hfa.1, Or.inl ⟨by omega, rfl, (by unfold cs_ua; first | (rw [if_pos (by omega)]; (first | exact hR9 | (rw [show p2 = 1 by omega]; exact hR9) | (rw [show p2 = 0 by omega]; exact hR9))) | (rw [if_neg (by omega), if_pos (by omega)]; (first | exact hR9 | (rw [show p2 = 1 by omega]; exact hR9) | (rw [show p2 = 0 by omega]; exact hR9))) | (rw [if_neg (by omega), if_neg (by omega), if_pos (by omega)]; (first | exact hR9 | (rw [show p2 = 1 by omega]; exact hR9) | (rw [show p2 = 0 by omega]; exact hR9))) | (rw [if_neg (by omega), if_neg (by omega), if_neg (by omega)]; (first | exact hR9 | (rw [show p2 = 1 by omega]; exact hR9) | (rw [show p2 = 0 by omega]; exact hR9)))), hac9, fun p hp1 hp2 => (hf9.2 p hp1).trans (hfa.2 p hp2)⟩⟩
    · subst c
      refine ev_tableIn (off := 55) (tgt := 119) de_Ac_undoLast_64 (by decide) (by decide) (by decide) rfl (by decide) ?_
      refine ev_aload_n de_Ac_undoLast_119 rfl rfl ?_
      refine ev_iload_n de_Ac_undoLast_120 rfl rfl ?_
      refine ev_iload_n de_Ac_undoLast_121 rfl rfl ?_
      refine ev_virtual (ci := 5) (mc := 0) (ms := 0) (bc := 0) (bs := 0) de_Ac_undoLast_122 (co_Ri_swapSlots_j hI0 hR0 _ _ (by omega) (by omega) (by omega) (by omega)) kb_Ac_41 ⟨im_Ri_swapSlots, se_Ri_swapSlots⟩ rfl q0 rfl (Nat.le_of_ble_eq_true rfl) (by decide) (Or.inl (fun r w1 h => h.2.2.1)) (fun r1 w1 hm1 => ?_)
      obtain ⟨rfl, hR9, hf9⟩ := hm1
      · skip
        have hac9 := acl_fr hac hf9 (by omega)
        have hl1 := hf9.1
        refine ev_goto (tgt := 143) de_Ac_undoLast_125 (by decide) ?_
        refine ev_iconst de_Ac_undoLast_143 ?_
        exact ev_zreturn de_Ac_undoLast_144 rfl (by decide) ⟨hl1.trans hfa.1, Or.inl ⟨by omega, rfl, (by unfold cs_ua; first | (rw [if_pos (by omega)]; (first | exact hR9 | (rw [show p2 = 1 by omega]; exact hR9) | (rw [show p2 = 0 by omega]; exact hR9))) | (rw [if_neg (by omega), if_pos (by omega)]; (first | exact hR9 | (rw [show p2 = 1 by omega]; exact hR9) | (rw [show p2 = 0 by omega]; exact hR9))) | (rw [if_neg (by omega), if_neg (by omega), if_pos (by omega)]; (first | exact hR9 | (rw [show p2 = 1 by omega]; exact hR9) | (rw [show p2 = 0 by omega]; exact hR9))) | (rw [if_neg (by omega), if_neg (by omega), if_neg (by omega)]; (first | exact hR9 | (rw [show p2 = 1 by omega]; exact hR9) | (rw [show p2 = 0 by omega]; exact hR9)))), hac9, fun p hp1 hp2 => (hf9.2 p hp1).trans (hfa.2 p hp2)⟩⟩
  · skip
    refine ev_iconst de_Ac_undoLast_7 ?_
    exact ev_zreturn de_Ac_undoLast_8 rfl (by decide) ⟨rfl, Or.inr ⟨by omega, rfl, rfl⟩⟩
