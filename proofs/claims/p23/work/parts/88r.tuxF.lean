/-! the class's trade: exactly -/
theorem cs_tk_0 (f : Int → Int) (s : Int) : ∀ (n : Nat) (h : Int), (∀ j : Nat, j < n → f (46 + (h + (j : Int))) ≠ s) → cs_tk f s n h = 0
  | 0, _, _ => rfl
  | n + 1, h, e => by
    have ih := cs_tk_0 f s n (h + 1) (fun j hj => by rw [show h + 1 + (j : Int) = h + ((j + 1 : Nat) : Int) by omega]; exact e (j + 1) (by omega))
    have q := e 0 (by omega)
    rw [show h + ((0 : Nat) : Int) = h by omega] at q
    unfold cs_tk
    rw [if_neg q]
    exact ih
theorem cs_tk_1 (f : Int → Int) (s : Int) : ∀ (n : Nat) (h : Int) (j : Nat), j < n → f (46 + (h + (j : Int))) = s → cs_tk f s n h = 1
  | 0, _, j, hj, _ => by omega
  | n + 1, h, j, hj, e => by
    unfold cs_tk
    by_cases c : f (46 + h) = s
    · rw [if_pos c]
    · rw [if_neg c]
      rcases j with _ | j
      · exact absurd (by rw [show h = h + ((0 : Nat) : Int) by omega]; exact e) c
      · exact cs_tk_1 f s n (h + 1) j (by omega) (by rw [show h + 1 + (j : Int) = h + ((j + 1 : Nat) : Int) by omega]; exact e)
theorem cs_tk_tz (f : Int → Int) (s : Int) (n : Nat) : cs_tk f s n 0 = if tz_tk f s n = true then 1 else 0 := by
  by_cases c : tz_tk f s n = true
  · rw [if_pos c]
    obtain ⟨k, k0, k1⟩ := tz_tk_t c
    exact cs_tk_1 f s n 0 k k0 (by rw [Int.zero_add]; exact k1)
  · rw [if_neg c]
    exact cs_tk_0 f s n 0 (fun j hj e => c (tz_tk_i (by rw [Int.zero_add] at e; exact e) hj))
def tra (p : Nat) (t1 t2 t3 t4 t5 : Int → Int) (w : ab_W) : Prop := w[p]? = some (ab_ob 9 [ab_R (p + 1), ab_R (p + 2), ab_R (p + 3), ab_R (p + 4), ab_R (p + 5)]) ∧ w[p + 1]? = some (ab_ai 0 7 t1) ∧ w[p + 2]? = some (ab_ai 0 49 t2) ∧ w[p + 3]? = some (ab_ai 0 7 t3) ∧ w[p + 4]? = some (ab_ai 0 128 t4) ∧ w[p + 5]? = some (ab_ai 0 128 t5)
section TRA
variable {p : Nat} {t1 t2 t3 t4 t5 g : Int → Int} {w : ab_W}
theorem tra_1 (h : tra p t1 t2 t3 t4 t5 w) : tra p g t2 t3 t4 t5 (w.set (p + 1) (ab_ai 0 7 g)) := ⟨ab_gn h.1 (by omega), ab_gs h.2.1, ab_gn h.2.2.1 (by omega), ab_gn h.2.2.2.1 (by omega), ab_gn h.2.2.2.2.1 (by omega), ab_gn h.2.2.2.2.2 (by omega)⟩
theorem tra_2 (h : tra p t1 t2 t3 t4 t5 w) : tra p t1 g t3 t4 t5 (w.set (p + 2) (ab_ai 0 49 g)) := ⟨ab_gn h.1 (by omega), ab_gn h.2.1 (by omega), ab_gs h.2.2.1, ab_gn h.2.2.2.1 (by omega), ab_gn h.2.2.2.2.1 (by omega), ab_gn h.2.2.2.2.2 (by omega)⟩
theorem tra_3 (h : tra p t1 t2 t3 t4 t5 w) : tra p t1 t2 g t4 t5 (w.set (p + 3) (ab_ai 0 7 g)) := ⟨ab_gn h.1 (by omega), ab_gn h.2.1 (by omega), ab_gn h.2.2.1 (by omega), ab_gs h.2.2.2.1, ab_gn h.2.2.2.2.1 (by omega), ab_gn h.2.2.2.2.2 (by omega)⟩
theorem tra_4 (h : tra p t1 t2 t3 t4 t5 w) : tra p t1 t2 t3 g t5 (w.set (p + 4) (ab_ai 0 128 g)) := ⟨ab_gn h.1 (by omega), ab_gn h.2.1 (by omega), ab_gn h.2.2.1 (by omega), ab_gn h.2.2.2.1 (by omega), ab_gs h.2.2.2.2.1, ab_gn h.2.2.2.2.2 (by omega)⟩
theorem tra_5 (h : tra p t1 t2 t3 t4 t5 w) : tra p t1 t2 t3 t4 g (w.set (p + 5) (ab_ai 0 128 g)) := ⟨ab_gn h.1 (by omega), ab_gn h.2.1 (by omega), ab_gn h.2.2.1 (by omega), ab_gn h.2.2.2.1 (by omega), ab_gn h.2.2.2.2.1 (by omega), ab_gs h.2.2.2.2.2⟩
end TRA
/-- of the set t: in how many ways it goes on, and the most -/
def wmo (f t4 t5 : Int → Int) (t : Nat) : Prop := t4 (t : Int) = (tz_p (tz_D f) (tz_N f) (f 1).toNat ((f 1).toNat - tz_pc t) t).1 ∧ (0 < t4 (t : Int) → t5 (t : Int) = (tz_p (tz_D f) (tz_N f) (f 1).toNat ((f 1).toNat - tz_pc t) t).2.1)
def tz_nx (f t3 : Int → Int) : Prop := ∀ h, 0 ≤ h → h < f 1 → t3 h = tz_N f h
theorem or_c {u k : Nat} (hu : u < 128) (hk : k < 7) : ab_ior (u : Int) (1 * 2 ^ ((k : Int)).toNat) = ((u ||| 2 ^ k : Nat) : Int) := by
  rw [Int.toNat_natCast]
  exact ab_ior_pow (Nat.lt_trans hu (by decide)) (by omega)
theorem bit_c {u k : Nat} (hu : u < 128) : ab_iand ((u : Int) / 2 ^ ((k : Int)).toNat) 1 = bit_at u k := by
  rw [ab_bit (by omega) (by omega), Int.toNat_natCast, Int.toNat_natCast]
theorem tz_orb {u k : Nat} (hu : u < 128) (hk : k < 7) : u ||| 2 ^ k < 128 := Nat.or_lt_two_pow (n := 7) hu (Nat.pow_lt_pow_right (by decide) hk)
set_option maxRecDepth 10000 in
theorem co_In_bitCount (w : ab_W) (a : Int) (l_a : 0 ≤ a) (u_a : a ≤ 126) : ab_Mt g_G g_rs mt_In_bitCount 0 0 0 [ab_I a] w (ab_is (some (ab_I (bc_F a))) w) := by
  refine ab_Mt.of rfl (Nat.le_of_ble_eq_true rfl) ?_
  show ab_Ev g_G g_rs mt_In_bitCount _ _ _ 0 [some (ab_I a)] [] _ _
  refine ev_iload_n dt_In_bitCount_0 rfl rfl ?_
  refine ev_iload_n dt_In_bitCount_1 rfl rfl ?_
  refine ev_iconst dt_In_bitCount_2 ?_
  refine ev_iushr dt_In_bitCount_3 (by first | omega | exact ab_toin _ | exact (tm_iand_b _ _).1) (by decide) (by decide) ?_
  refine tm_n32 ?_
  refine ev_ldcw (n := 1431655765) dt_In_bitCount_4 cn_In_265 rfl ?_
  refine ev_iand dt_In_bitCount_7 ?_
  refine ev_isub dt_In_bitCount_8 ?_
  refine tm_n32 ?_
  refine ev_istore_n (l' := [_]) dt_In_bitCount_9 rfl (Nat.le_of_ble_eq_true rfl) rfl ?_
  refine ev_iload_n dt_In_bitCount_10 rfl rfl ?_
  refine ev_ldcw (n := 858993459) dt_In_bitCount_11 cn_In_266 rfl ?_
  refine ev_iand dt_In_bitCount_14 ?_
  refine ev_iload_n dt_In_bitCount_15 rfl rfl ?_
  refine ev_iconst dt_In_bitCount_16 ?_
  refine ev_iushr dt_In_bitCount_17 (by first | omega | exact ab_toin _ | exact (tm_iand_b _ _).1) (by decide) (by decide) ?_
  refine tm_n32 ?_
  refine ev_ldcw (n := 858993459) dt_In_bitCount_18 cn_In_266 rfl ?_
  refine ev_iand dt_In_bitCount_21 ?_
  refine ev_iadd dt_In_bitCount_22 ?_
  refine tm_n32 ?_
  refine ev_istore_n (l' := [_]) dt_In_bitCount_23 rfl (Nat.le_of_ble_eq_true rfl) rfl ?_
  refine ev_iload_n dt_In_bitCount_24 rfl rfl ?_
  refine ev_iload_n dt_In_bitCount_25 rfl rfl ?_
  refine ev_iconst dt_In_bitCount_26 ?_
  refine ev_iushr dt_In_bitCount_27 (by first | omega | exact ab_toin _ | exact (tm_iand_b _ _).1) (by decide) (by decide) ?_
  refine tm_n32 ?_
  refine ev_iadd dt_In_bitCount_28 ?_
  refine tm_n32 ?_
  refine ev_ldcw (n := 252645135) dt_In_bitCount_29 cn_In_267 rfl ?_
  refine ev_iand dt_In_bitCount_32 ?_
  refine ev_istore_n (l' := [_]) dt_In_bitCount_33 rfl (Nat.le_of_ble_eq_true rfl) rfl ?_
  refine ev_iload_n dt_In_bitCount_34 rfl rfl ?_
  refine ev_iload_n dt_In_bitCount_35 rfl rfl ?_
  refine ev_bipush dt_In_bitCount_36 rfl ?_
  refine ev_iushr dt_In_bitCount_38 (by first | omega | exact ab_toin _ | exact (tm_iand_b _ _).1) (by decide) (by decide) ?_
  refine tm_n32 ?_
  refine ev_iadd dt_In_bitCount_39 ?_
  refine tm_n32 ?_
  refine ev_istore_n (l' := [_]) dt_In_bitCount_40 rfl (Nat.le_of_ble_eq_true rfl) rfl ?_
  refine ev_iload_n dt_In_bitCount_41 rfl rfl ?_
  refine ev_iload_n dt_In_bitCount_42 rfl rfl ?_
  refine ev_bipush dt_In_bitCount_43 rfl ?_
  refine ev_iushr dt_In_bitCount_45 (by first | omega | exact ab_toin _ | exact (tm_iand_b _ _).1) (by decide) (by decide) ?_
  refine tm_n32 ?_
  refine ev_iadd dt_In_bitCount_46 ?_
  refine tm_n32 ?_
  refine ev_istore_n (l' := [_]) dt_In_bitCount_47 rfl (Nat.le_of_ble_eq_true rfl) rfl ?_
  refine ev_iload_n dt_In_bitCount_48 rfl rfl ?_
  refine ev_bipush dt_In_bitCount_49 rfl ?_
  refine ev_iand dt_In_bitCount_51 ?_
  exact ev_ireturn dt_In_bitCount_52 rfl ⟨rfl, rfl⟩
theorem de_Tr_sortSlots_0 : decode prog_12_method_3_code 0 = .ok (.iconst 0, 1) := by decide +kernel
theorem de_Tr_sortSlots_1 : decode prog_12_method_3_code 1 = .ok (.istore_n 2, 1) := by decide +kernel
theorem de_Tr_sortSlots_2 : decode prog_12_method_3_code 2 = .ok (.iconst 0, 1) := by decide +kernel
theorem de_Tr_sortSlots_3 : decode prog_12_method_3_code 3 = .ok (.istore_n 3, 1) := by decide +kernel
theorem de_Tr_sortSlots_4 : decode prog_12_method_3_code 4 = .ok (.iload_n 3, 1) := by decide +kernel
theorem de_Tr_sortSlots_5 : decode prog_12_method_3_code 5 = .ok (.bipush 12, 2) := by decide +kernel
theorem de_Tr_sortSlots_7 : decode prog_12_method_3_code 7 = .ok (.if_icmp .ge 33, 3) := by decide +kernel
theorem de_Tr_sortSlots_10 : decode prog_12_method_3_code 10 = .ok (.aload_n 1, 1) := by decide +kernel
theorem de_Tr_sortSlots_11 : decode prog_12_method_3_code 11 = .ok (.iload_n 3, 1) := by decide +kernel
theorem de_Tr_sortSlots_12 : decode prog_12_method_3_code 12 = .ok (.invokevirtual 46, 3) := by decide +kernel
theorem de_Tr_sortSlots_15 : decode prog_12_method_3_code 15 = .ok (.ifCond .eq 19, 3) := by decide +kernel
theorem de_Tr_sortSlots_18 : decode prog_12_method_3_code 18 = .ok (.iload_n 2, 1) := by decide +kernel
theorem de_Tr_sortSlots_19 : decode prog_12_method_3_code 19 = .ok (.bipush 7, 2) := by decide +kernel
theorem de_Tr_sortSlots_21 : decode prog_12_method_3_code 21 = .ok (.if_icmp .ge 13, 3) := by decide +kernel
theorem de_Tr_sortSlots_24 : decode prog_12_method_3_code 24 = .ok (.aload_n 0, 1) := by decide +kernel
theorem de_Tr_sortSlots_25 : decode prog_12_method_3_code 25 = .ok (.getfield 9, 3) := by decide +kernel
theorem de_Tr_sortSlots_28 : decode prog_12_method_3_code 28 = .ok (.iload_n 2, 1) := by decide +kernel
theorem de_Tr_sortSlots_29 : decode prog_12_method_3_code 29 = .ok (.iload_n 3, 1) := by decide +kernel
theorem de_Tr_sortSlots_30 : decode prog_12_method_3_code 30 = .ok (.iastore, 1) := by decide +kernel
theorem de_Tr_sortSlots_31 : decode prog_12_method_3_code 31 = .ok (.iinc 2 1, 3) := by decide +kernel
theorem de_Tr_sortSlots_34 : decode prog_12_method_3_code 34 = .ok (.iinc 3 1, 3) := by decide +kernel
theorem de_Tr_sortSlots_37 : decode prog_12_method_3_code 37 = .ok (.goto (-33), 3) := by decide +kernel
theorem de_Tr_sortSlots_40 : decode prog_12_method_3_code 40 = .ok (.return_, 1) := by decide +kernel
set_option maxHeartbeats 4000000 in
set_option maxRecDepth 10000 in
theorem lo_Tr_sortSlots {o p : Nat} {f : Int → Int} {x B : Int} {w0 : ab_W} (hI : sg_ok B f) (hs : tz_hs f) (hRb : ri_at_j o f x w0) (hdj : o + 13 ≤ p ∨ p + 6 ≤ o) (t2 t3 t4 t5 : Int → Int) : ∀ (n : Nat) (s : Nat) (t1 : Int → Int) (w : ab_W), s ≤ 12 → 12 < s + n → tra p t1 t2 t3 t4 t5 w → tz_at (tz_gs f (f 1).toNat s) t1 → fr_at p 6 w0 w → ab_Ev g_G g_rs mt_Tr_sortSlots 1 0 0 4 [some (ab_R p), some (ab_R o), some (ab_I ((tz_gs f (f 1).toNat (s)).length : Int)), some (ab_I ((s : Nat) : Int))] [] w (fun r w2 => r = none ∧ (∃ t1 : Int → Int, tra p t1 t2 t3 t4 t5 w2 ∧ tz_sx f t1) ∧ fr_at p 6 w0 w2) := by
  intro n
  induction n with
  | zero =>
    intro s t1 w
    intro y1 y2 hG hA hf; omega
  | succ n ih =>
    intro s t1 w
    intro y1 y2 hG hA hf
    have hRw := rj_fr hRb hf (by omega)
    have hR := hRw
    obtain ⟨sl, fs, vo, li, ra, wo, dh, da, hzz⟩ := hR
    obtain ⟨ds, dn, vw, q0, q1, q2, q3, q4, hzz⟩ := hzz
    obtain ⟨q5, q6, q7, q8, q9, q10, q11, q12, hzz⟩ := hzz
    obtain ⟨e1, e2, e3, e4, e5, e6, e7, e8, e9⟩ := hzz
    obtain ⟨tr0, tr1, tr2, tr3, tr4, tr5⟩ := id hG
    obtain ⟨i0, i1, i2, i3, i4, i5, i6, i7, hzz⟩ := sg_all hI
    obtain ⟨i8, i9, i10, i11, i12, i13, i14, i15, hzz⟩ := hzz
    obtain ⟨i16, i17⟩ := hzz
    have gS : tz_gs f (f 1).toNat (s + 1) = tz_gs f (f 1).toNat s ++ (if tz_tk f (s : Int) (f 1).toNat = true then [(s : Int)] else []) := rfl
    have lS := tz_len hs.1 (fun j a b => (hs.2.2 (46 + j) (by omega) (by omega)).1) (n := (f 1).toNat) (by omega) (by omega) (s + 1)
    have lb := td_c_b f ((s + 1 : Nat) : Int) 0 (f 1).toNat
    refine ev_iload_n de_Tr_sortSlots_4 rfl rfl ?_
    refine ev_bipush de_Tr_sortSlots_5 rfl ?_
    refine ev_icmp_ge (tgt := 40) de_Tr_sortSlots_7 (by decide) (by omega) (by omega) (fun h7 => ?_) (fun h7 => ?_)
    · skip
      have es : s = 12 := by omega
      subst es
      exact ev_return de_Tr_sortSlots_40 rfl ⟨rfl, ⟨_, hG, fun k a b => tz_sl_at hs hA a b⟩, hf⟩
    · skip
      refine ev_aload_n de_Tr_sortSlots_10 rfl rfl ?_
      refine ev_iload_n de_Tr_sortSlots_11 rfl rfl ?_
      refine ev_vv (ci := 5) de_Tr_sortSlots_12 (co_Ri_slotTaken_j hI hRw (s : Int) (by omega)) kb_Tr_46 ⟨im_Ri_slotTaken, se_Ri_slotTaken⟩ rfl q0 rfl (Nat.le_of_ble_eq_true rfl) (by decide) rfl ?_
      refine ev_top (congrArg Sum.inl (cs_tk_tz f (s : Int) (f 1).toNat)) ?_
      refine ev_if_eq (tgt := 34) de_Tr_sortSlots_15 (by decide) (by first | omega | (split <;> decide)) (fun h15 => ?_) (fun h15 => ?_)
      · skip
        have c : ¬ tz_tk f (s : Int) (f 1).toNat = true := fun z => by rw [if_pos z] at h15; omega
        rw [if_neg c] at gS
        have gA : tz_at (tz_gs f (f 1).toNat (s + 1)) t1 := by rw [gS, List.append_nil]; exact hA
        refine ev_iinc (l' := [_, _, _, _]) de_Tr_sortSlots_34 rfl rfl ?_
        refine ev_goto (tgt := 4) de_Tr_sortSlots_37 (by decide) ?_
        refine ev_loc (l2 := [some (ab_R p), some (ab_R o), some (ab_I ((tz_gs f (f 1).toNat (s + 1)).length : Int)), some (ab_I ((s + 1 : Nat) : Int))]) (by rw [gS, List.length_append]; rfl) ?_
        exact ih (s + 1) _ _ (by omega) (by omega) hG gA hf
      · skip
        have c : tz_tk f (s : Int) (f 1).toNat = true := Decidable.byContradiction (fun z => by rw [if_neg z] at h15; exact h15 rfl)
        rw [if_pos c] at gS
        rw [gS, List.length_append, List.length_singleton] at lS
        refine ev_iload_n de_Tr_sortSlots_18 rfl rfl ?_
        refine ev_bipush de_Tr_sortSlots_19 rfl ?_
        refine ev_icmp_ge (tgt := 34) de_Tr_sortSlots_21 (by decide) (by omega) (by omega) (fun h21 => ?_) (fun h21 => ?_)
        · exact absurd h21 (by omega)
        · skip
          refine ev_aload_n de_Tr_sortSlots_24 rfl rfl ?_
          refine ev_getfield de_Tr_sortSlots_25 tr0 fl_Tr_9 rfl ?_
          refine ev_iload_n de_Tr_sortSlots_28 rfl rfl ?_
          refine ev_iload_n de_Tr_sortSlots_29 rfl rfl ?_
          refine ev_iastore de_Tr_sortSlots_30 tr1 (by omega) (by omega) (by omega) ?_
          refine ev_gen (P := fun w1 => tra p (ab_up t1 ((tz_gs f (f 1).toNat s).length : Int) (s : Int)) t2 t3 t4 t5 w1 ∧ fr_at p 6 w0 w1) ⟨tra_1 hG, fr_set hf (by omega) (by omega)⟩ (fun w1 hm1 => ?_)
          obtain ⟨hG, hf⟩ := hm1
          have hRw := rj_fr hRb hf (by omega)
          have hR := hRw
          obtain ⟨sl, fs, vo, li, ra, wo, dh, da, hzz⟩ := hR
          obtain ⟨ds, dn, vw, q0, q1, q2, q3, q4, hzz⟩ := hzz
          obtain ⟨q5, q6, q7, q8, q9, q10, q11, q12, hzz⟩ := hzz
          obtain ⟨e1, e2, e3, e4, e5, e6, e7, e8, e9⟩ := hzz
          obtain ⟨tr0, tr1, tr2, tr3, tr4, tr5⟩ := id hG
          have gA : tz_at (tz_gs f (f 1).toNat (s + 1)) (ab_up t1 ((tz_gs f (f 1).toNat s).length : Int) (s : Int)) := by
            intro j y hy
            rw [gS] at hy
            rcases Nat.lt_or_ge j (tz_gs f (f 1).toNat s).length with z | z
            · rw [List.getElem?_append_left z] at hy
              rw [ab_upn _ _ (by omega)]
              exact hA j y hy
            · have ez : j = (tz_gs f (f 1).toNat s).length := by
                have := (List.getElem?_eq_some_iff.mp hy).1
                rw [List.length_append, List.length_singleton] at this
                omega
              rw [ez, List.getElem?_append_right (Nat.le_refl _), Nat.sub_self] at hy
              rw [ez, ab_upe]
              exact Option.some.inj hy
          refine ev_iinc (l' := [_, _, _, _]) de_Tr_sortSlots_31 rfl rfl ?_
          refine ev_iinc (l' := [_, _, _, _]) de_Tr_sortSlots_34 rfl rfl ?_
          refine ev_goto (tgt := 4) de_Tr_sortSlots_37 (by decide) ?_
          refine ev_loc (l2 := [some (ab_R p), some (ab_R o), some (ab_I ((tz_gs f (f 1).toNat (s + 1)).length : Int)), some (ab_I ((s + 1 : Nat) : Int))]) (by rw [gS, List.length_append]; rfl) ?_
          exact ih (s + 1) _ _ (by omega) (by omega) hG gA hf
set_option maxHeartbeats 4000000 in
set_option maxRecDepth 10000 in
theorem co_Tr_sortSlots {o p : Nat} {f : Int → Int} {x B : Int} {w0 : ab_W} (hI : sg_ok B f) (hs : tz_hs f) (hRb : ri_at_j o f x w0) (hdj : o + 13 ≤ p ∨ p + 6 ≤ o) {t1 t2 t3 t4 t5 : Int → Int} (hG : tra p t1 t2 t3 t4 t5 w0) : ab_Mt g_G g_rs mt_Tr_sortSlots 1 0 0 [ab_R p, ab_R o] w0 (fun r w2 => r = none ∧ (∃ t1 : Int → Int, tra p t1 t2 t3 t4 t5 w2 ∧ tz_sx f t1) ∧ fr_at p 6 w0 w2) := by
  refine ab_Mt.of rfl (Nat.le_of_ble_eq_true rfl) ?_
  show ab_Ev g_G g_rs mt_Tr_sortSlots _ _ _ 0 [some (ab_R p), some (ab_R o), none, none] [] _ _
  refine ev_iconst de_Tr_sortSlots_0 ?_
  refine ev_istore_n (l' := [_, _, _, _]) de_Tr_sortSlots_1 rfl (Nat.le_of_ble_eq_true rfl) rfl ?_
  refine ev_iconst de_Tr_sortSlots_2 ?_
  refine ev_istore_n (l' := [_, _, _, _]) de_Tr_sortSlots_3 rfl (Nat.le_of_ble_eq_true rfl) rfl ?_
  exact lo_Tr_sortSlots hI hs hRb hdj t2 t3 t4 t5 13 0 t1 w0 (by omega) (by omega) hG (fun j y hy => by have hy : ([] : List Int)[j]? = some y := hy; exact absurd hy (by simp)) fr_0
theorem de_Tr_mayTake_0 : decode prog_12_method_4_code 0 = .ok (.iload_n 3, 1) := by decide +kernel
theorem de_Tr_mayTake_1 : decode prog_12_method_4_code 1 = .ok (.iload_n 2, 1) := by decide +kernel
theorem de_Tr_mayTake_2 : decode prog_12_method_4_code 2 = .ok (.ishr, 1) := by decide +kernel
theorem de_Tr_mayTake_3 : decode prog_12_method_4_code 3 = .ok (.iconst 1, 1) := by decide +kernel
theorem de_Tr_mayTake_4 : decode prog_12_method_4_code 4 = .ok (.iand, 1) := by decide +kernel
theorem de_Tr_mayTake_5 : decode prog_12_method_4_code 5 = .ok (.ifCond .ne 40, 3) := by decide +kernel
theorem de_Tr_mayTake_8 : decode prog_12_method_4_code 8 = .ok (.aload_n 0, 1) := by decide +kernel
theorem de_Tr_mayTake_9 : decode prog_12_method_4_code 9 = .ok (.getfield 21, 3) := by decide +kernel
theorem de_Tr_mayTake_12 : decode prog_12_method_4_code 12 = .ok (.iload_n 3, 1) := by decide +kernel
theorem de_Tr_mayTake_13 : decode prog_12_method_4_code 13 = .ok (.iconst 1, 1) := by decide +kernel
theorem de_Tr_mayTake_14 : decode prog_12_method_4_code 14 = .ok (.iload_n 2, 1) := by decide +kernel
theorem de_Tr_mayTake_15 : decode prog_12_method_4_code 15 = .ok (.ishl, 1) := by decide +kernel
theorem de_Tr_mayTake_16 : decode prog_12_method_4_code 16 = .ok (.ior, 1) := by decide +kernel
theorem de_Tr_mayTake_17 : decode prog_12_method_4_code 17 = .ok (.iaload, 1) := by decide +kernel
theorem de_Tr_mayTake_18 : decode prog_12_method_4_code 18 = .ok (.ifCond .le 27, 3) := by decide +kernel
theorem de_Tr_mayTake_21 : decode prog_12_method_4_code 21 = .ok (.aload_n 0, 1) := by decide +kernel
theorem de_Tr_mayTake_22 : decode prog_12_method_4_code 22 = .ok (.getfield 15, 3) := by decide +kernel
theorem de_Tr_mayTake_25 : decode prog_12_method_4_code 25 = .ok (.iload_n 1, 1) := by decide +kernel
theorem de_Tr_mayTake_26 : decode prog_12_method_4_code 26 = .ok (.bipush 7, 2) := by decide +kernel
theorem de_Tr_mayTake_28 : decode prog_12_method_4_code 28 = .ok (.imul, 1) := by decide +kernel
theorem de_Tr_mayTake_29 : decode prog_12_method_4_code 29 = .ok (.iload_n 2, 1) := by decide +kernel
theorem de_Tr_mayTake_30 : decode prog_12_method_4_code 30 = .ok (.iadd, 1) := by decide +kernel
theorem de_Tr_mayTake_31 : decode prog_12_method_4_code 31 = .ok (.iaload, 1) := by decide +kernel
theorem de_Tr_mayTake_32 : decode prog_12_method_4_code 32 = .ok (.aload_n 0, 1) := by decide +kernel
theorem de_Tr_mayTake_33 : decode prog_12_method_4_code 33 = .ok (.getfield 18, 3) := by decide +kernel
theorem de_Tr_mayTake_36 : decode prog_12_method_4_code 36 = .ok (.iload_n 1, 1) := by decide +kernel
theorem de_Tr_mayTake_37 : decode prog_12_method_4_code 37 = .ok (.iaload, 1) := by decide +kernel
theorem de_Tr_mayTake_38 : decode prog_12_method_4_code 38 = .ok (.if_icmp .lt 7, 3) := by decide +kernel
theorem de_Tr_mayTake_41 : decode prog_12_method_4_code 41 = .ok (.iconst 1, 1) := by decide +kernel
theorem de_Tr_mayTake_42 : decode prog_12_method_4_code 42 = .ok (.goto 4, 3) := by decide +kernel
theorem de_Tr_mayTake_45 : decode prog_12_method_4_code 45 = .ok (.iconst 0, 1) := by decide +kernel
theorem de_Tr_mayTake_46 : decode prog_12_method_4_code 46 = .ok (.ireturn, 1) := by decide +kernel
set_option maxHeartbeats 4000000 in
set_option maxRecDepth 10000 in
theorem co_Tr_mayTake {p : Nat} {f : Int → Int} {t1 t2 t3 t4 t5 : Int → Int} {w : ab_W} (hG : tra p t1 t2 t3 t4 t5 w) (h : Int) (hh0 : 0 ≤ h) (hh1 : h < 7) (k : Nat) (hk : k < 7) (u : Nat) (hu : u < 128) (hD : t2 (7 * h + (k : Int)) = tz_D f (7 * h + (k : Int))) (hN : t3 h = tz_N f h) (bD : -2000 ≤ tz_D f (7 * h + (k : Int)) ∧ tz_D f (7 * h + (k : Int)) ≤ 2000) (bN : -2000 ≤ tz_N f h ∧ tz_N f h ≤ 2000) (b4 : u.testBit k = false → ab_in (t4 ((u ||| 2 ^ k : Nat) : Int))) : ab_Mt g_G g_rs mt_Tr_mayTake 0 0 0 [ab_R p, ab_I h, ab_I (k : Int), ab_I (u : Int)] w (ab_is (some (ab_I (if tz_ok (tz_D f) (tz_N f) h u k = true ∧ 0 < t4 ((u ||| 2 ^ k : Nat) : Int) then 1 else 0))) w) := by
  obtain ⟨tr0, tr1, tr2, tr3, tr4, tr5⟩ := id hG
  refine ab_Mt.of rfl (Nat.le_of_ble_eq_true rfl) ?_
  show ab_Ev g_G g_rs mt_Tr_mayTake _ _ _ 0 [some (ab_R p), some (ab_I h), some (ab_I (k : Int)), some (ab_I (u : Int))] [] _ _
  refine ev_iload_n de_Tr_mayTake_0 rfl rfl ?_
  refine ev_iload_n de_Tr_mayTake_1 rfl rfl ?_
  refine ev_ishr de_Tr_mayTake_2 (by omega) (by omega) (by omega) ?_
  refine ev_iconst de_Tr_mayTake_3 ?_
  refine ev_iand de_Tr_mayTake_4 ?_
  refine ev_top (congrArg Sum.inl (bit_c hu)) ?_
  have qb := bit_01 u k
  refine ev_if_ne (tgt := 45) de_Tr_mayTake_5 (by decide) (by omega) (fun h5 => ?_) (fun h5 => ?_)
  · skip
    have hb : u.testBit k = true := bit_nz.mp (by omega)
    refine ev_iconst de_Tr_mayTake_45 ?_
    exact ev_zreturn de_Tr_mayTake_46 rfl (by decide) ⟨congrArg (fun z => some (ab_I z)) (by first | exact (if_pos ⟨tz_ok_i.mpr ⟨hb, by omega⟩, by omega⟩).symm | exact (if_neg (fun z => by have q := (tz_ok_i.mp z.1).1; have q1 := (tz_ok_i.mp z.1).2; have q2 := z.2; first | omega | (rw [hb] at q; exact absurd q (by decide)))).symm), rfl⟩
  · skip
    have hb : u.testBit k = false := bit_z.mp (by omega)
    have b4 := b4 hb
    have ob := tz_orb hu hk
    refine ev_aload_n de_Tr_mayTake_8 rfl rfl ?_
    refine ev_getfield de_Tr_mayTake_9 tr0 fl_Tr_21 rfl ?_
    refine ev_iload_n de_Tr_mayTake_12 rfl rfl ?_
    refine ev_iconst de_Tr_mayTake_13 ?_
    refine ev_iload_n de_Tr_mayTake_14 rfl rfl ?_
    refine ev_ishl de_Tr_mayTake_15 (by omega) (by omega) ?_
    refine ev_ior de_Tr_mayTake_16 ?_
    refine ev_top (congrArg Sum.inl (or_c hu hk)) ?_
    refine ev_iaload de_Tr_mayTake_17 tr4 (by omega) (by omega) (by omega) ?_
    refine ev_if_le (tgt := 45) de_Tr_mayTake_18 (by decide) (by omega) (fun h18 => ?_) (fun h18 => ?_)
    · skip
      refine ev_iconst de_Tr_mayTake_45 ?_
      exact ev_zreturn de_Tr_mayTake_46 rfl (by decide) ⟨congrArg (fun z => some (ab_I z)) (by first | exact (if_pos ⟨tz_ok_i.mpr ⟨hb, by omega⟩, by omega⟩).symm | exact (if_neg (fun z => by have q := (tz_ok_i.mp z.1).1; have q1 := (tz_ok_i.mp z.1).2; have q2 := z.2; first | omega | (rw [hb] at q; exact absurd q (by decide)))).symm), rfl⟩
    · skip
      refine ev_aload_n de_Tr_mayTake_21 rfl rfl ?_
      refine ev_getfield de_Tr_mayTake_22 tr0 fl_Tr_15 rfl ?_
      refine ev_iload_n de_Tr_mayTake_25 rfl rfl ?_
      refine ev_bipush de_Tr_mayTake_26 rfl ?_
      refine ev_imul de_Tr_mayTake_28 ?_
      refine ev_iload_n de_Tr_mayTake_29 rfl rfl ?_
      refine ev_iadd de_Tr_mayTake_30 ?_
      refine ev_top (congrArg Sum.inl (show _ = 7 * h + (k : Int) by omega)) ?_
      refine ev_iaload de_Tr_mayTake_31 tr2 (by omega) (by omega) (by omega) ?_
      refine ev_top (congrArg Sum.inl hD) ?_
      refine ev_aload_n de_Tr_mayTake_32 rfl rfl ?_
      refine ev_getfield de_Tr_mayTake_33 tr0 fl_Tr_18 rfl ?_
      refine ev_iload_n de_Tr_mayTake_36 rfl rfl ?_
      refine ev_iaload de_Tr_mayTake_37 tr3 (by omega) (by omega) (by omega) ?_
      refine ev_top (congrArg Sum.inl hN) ?_
      refine ev_icmp_lt (tgt := 45) de_Tr_mayTake_38 (by decide) (by omega) (by omega) (fun h38 => ?_) (fun h38 => ?_)
      · skip
        refine ev_iconst de_Tr_mayTake_45 ?_
        exact ev_zreturn de_Tr_mayTake_46 rfl (by decide) ⟨congrArg (fun z => some (ab_I z)) (by first | exact (if_pos ⟨tz_ok_i.mpr ⟨hb, by omega⟩, by omega⟩).symm | exact (if_neg (fun z => by have q := (tz_ok_i.mp z.1).1; have q1 := (tz_ok_i.mp z.1).2; have q2 := z.2; first | omega | (rw [hb] at q; exact absurd q (by decide)))).symm), rfl⟩
      · skip
        refine ev_iconst de_Tr_mayTake_41 ?_
        refine ev_goto (tgt := 46) de_Tr_mayTake_42 (by decide) ?_
        exact ev_zreturn de_Tr_mayTake_46 rfl (by decide) ⟨congrArg (fun z => some (ab_I z)) (by first | exact (if_pos ⟨tz_ok_i.mpr ⟨hb, by omega⟩, by omega⟩).symm | exact (if_neg (fun z => by have q := (tz_ok_i.mp z.1).1; have q1 := (tz_ok_i.mp z.1).2; have q2 := z.2; first | omega | (rw [hb] at q; exact absurd q (by decide)))).symm), rfl⟩
theorem de_Tr_sumWith_0 : decode prog_12_method_5_code 0 = .ok (.aload_n 0, 1) := by decide +kernel
theorem de_Tr_sumWith_1 : decode prog_12_method_5_code 1 = .ok (.getfield 15, 3) := by decide +kernel
theorem de_Tr_sumWith_4 : decode prog_12_method_5_code 4 = .ok (.iload_n 1, 1) := by decide +kernel
theorem de_Tr_sumWith_5 : decode prog_12_method_5_code 5 = .ok (.bipush 7, 2) := by decide +kernel
theorem de_Tr_sumWith_7 : decode prog_12_method_5_code 7 = .ok (.imul, 1) := by decide +kernel
theorem de_Tr_sumWith_8 : decode prog_12_method_5_code 8 = .ok (.iload_n 2, 1) := by decide +kernel
theorem de_Tr_sumWith_9 : decode prog_12_method_5_code 9 = .ok (.iadd, 1) := by decide +kernel
theorem de_Tr_sumWith_10 : decode prog_12_method_5_code 10 = .ok (.iaload, 1) := by decide +kernel
theorem de_Tr_sumWith_11 : decode prog_12_method_5_code 11 = .ok (.aload_n 0, 1) := by decide +kernel
theorem de_Tr_sumWith_12 : decode prog_12_method_5_code 12 = .ok (.getfield 24, 3) := by decide +kernel
theorem de_Tr_sumWith_15 : decode prog_12_method_5_code 15 = .ok (.iload_n 3, 1) := by decide +kernel
theorem de_Tr_sumWith_16 : decode prog_12_method_5_code 16 = .ok (.iconst 1, 1) := by decide +kernel
theorem de_Tr_sumWith_17 : decode prog_12_method_5_code 17 = .ok (.iload_n 2, 1) := by decide +kernel
theorem de_Tr_sumWith_18 : decode prog_12_method_5_code 18 = .ok (.ishl, 1) := by decide +kernel
theorem de_Tr_sumWith_19 : decode prog_12_method_5_code 19 = .ok (.ior, 1) := by decide +kernel
theorem de_Tr_sumWith_20 : decode prog_12_method_5_code 20 = .ok (.iaload, 1) := by decide +kernel
theorem de_Tr_sumWith_21 : decode prog_12_method_5_code 21 = .ok (.iadd, 1) := by decide +kernel
theorem de_Tr_sumWith_22 : decode prog_12_method_5_code 22 = .ok (.ireturn, 1) := by decide +kernel
set_option maxHeartbeats 4000000 in
set_option maxRecDepth 10000 in
theorem co_Tr_sumWith {p : Nat} {f : Int → Int} {t1 t2 t3 t4 t5 : Int → Int} {w : ab_W} (hG : tra p t1 t2 t3 t4 t5 w) (h : Int) (hh0 : 0 ≤ h) (hh1 : h < 7) (k : Nat) (hk : k < 7) (u : Nat) (hu : u < 128) (hD : t2 (7 * h + (k : Int)) = tz_D f (7 * h + (k : Int))) : ab_Mt g_G g_rs mt_Tr_sumWith 0 0 0 [ab_R p, ab_I h, ab_I (k : Int), ab_I (u : Int)] w (ab_is (some (ab_I (tz_D f (7 * h + (k : Int)) + t5 ((u ||| 2 ^ k : Nat) : Int)))) w) := by
  obtain ⟨tr0, tr1, tr2, tr3, tr4, tr5⟩ := id hG
  refine ab_Mt.of rfl (Nat.le_of_ble_eq_true rfl) ?_
  show ab_Ev g_G g_rs mt_Tr_sumWith _ _ _ 0 [some (ab_R p), some (ab_I h), some (ab_I (k : Int)), some (ab_I (u : Int))] [] _ _
  have ob := tz_orb hu hk
  refine ev_aload_n de_Tr_sumWith_0 rfl rfl ?_
  refine ev_getfield de_Tr_sumWith_1 tr0 fl_Tr_15 rfl ?_
  refine ev_iload_n de_Tr_sumWith_4 rfl rfl ?_
  refine ev_bipush de_Tr_sumWith_5 rfl ?_
  refine ev_imul de_Tr_sumWith_7 ?_
  refine ev_iload_n de_Tr_sumWith_8 rfl rfl ?_
  refine ev_iadd de_Tr_sumWith_9 ?_
  refine ev_top (congrArg Sum.inl (show _ = 7 * h + (k : Int) by omega)) ?_
  refine ev_iaload de_Tr_sumWith_10 tr2 (by omega) (by omega) (by omega) ?_
  refine ev_top (congrArg Sum.inl hD) ?_
  refine ev_aload_n de_Tr_sumWith_11 rfl rfl ?_
  refine ev_getfield de_Tr_sumWith_12 tr0 fl_Tr_24 rfl ?_
  refine ev_iload_n de_Tr_sumWith_15 rfl rfl ?_
  refine ev_iconst de_Tr_sumWith_16 ?_
  refine ev_iload_n de_Tr_sumWith_17 rfl rfl ?_
  refine ev_ishl de_Tr_sumWith_18 (by omega) (by omega) ?_
  refine ev_ior de_Tr_sumWith_19 ?_
  refine ev_top (congrArg Sum.inl (or_c hu hk)) ?_
  refine ev_iaload de_Tr_sumWith_20 tr5 (by omega) (by omega) (by omega) ?_
  refine ev_iadd de_Tr_sumWith_21 ?_
  exact ev_ireturn de_Tr_sumWith_22 rfl ⟨rfl, rfl⟩
theorem tz_2n {n : Nat} (h : n ≤ 7) : 2 ^ n ≤ 128 := Nat.le_trans (Nat.pow_le_pow_right (by decide) h) (by decide)
theorem wm_v {f t4 t5 : Int → Int} {n m u k : Nat} (hn : n = (f 1).toNat) (hn7 : n ≤ 7) (hm : tz_pc u + (m + 1) = n) (hu : u < 2 ^ n) (hk : k < n) (hb : u.testBit k = false) (h : ∀ t : Nat, u < t → t < 2 ^ n → wmo f t4 t5 t) : t4 ((u ||| 2 ^ k : Nat) : Int) = (tz_p (tz_D f) (tz_N f) n m (u ||| 2 ^ k)).1 ∧ (0 < t4 ((u ||| 2 ^ k : Nat) : Int) → t5 ((u ||| 2 ^ k : Nat) : Int) = (tz_p (tz_D f) (tz_N f) n m (u ||| 2 ^ k)).2.1) := by
  have l := tz_2n hn7
  have q := pc_or u (by omega) k (by omega) hb
  have r := h (u ||| 2 ^ k) q.2 (tz_or_lt hu hk)
  unfold wmo at r
  rw [← hn, q.1, show n - (tz_pc u + 1) = m by omega] at r
  exact r
theorem de_Tr_weighSet_0 : decode prog_12_method_6_code 0 = .ok (.iload_n 1, 1) := by decide +kernel
theorem de_Tr_weighSet_1 : decode prog_12_method_6_code 1 = .ok (.invokestatic 50, 3) := by decide +kernel
theorem de_Tr_weighSet_4 : decode prog_12_method_6_code 4 = .ok (.istore_n 3, 1) := by decide +kernel
theorem de_Tr_weighSet_5 : decode prog_12_method_6_code 5 = .ok (.aload_n 0, 1) := by decide +kernel
theorem de_Tr_weighSet_6 : decode prog_12_method_6_code 6 = .ok (.getfield 21, 3) := by decide +kernel
theorem de_Tr_weighSet_9 : decode prog_12_method_6_code 9 = .ok (.iload_n 1, 1) := by decide +kernel
theorem de_Tr_weighSet_10 : decode prog_12_method_6_code 10 = .ok (.iconst 0, 1) := by decide +kernel
theorem de_Tr_weighSet_11 : decode prog_12_method_6_code 11 = .ok (.iastore, 1) := by decide +kernel
theorem de_Tr_weighSet_12 : decode prog_12_method_6_code 12 = .ok (.iconst 0, 1) := by decide +kernel
theorem de_Tr_weighSet_13 : decode prog_12_method_6_code 13 = .ok (.istore 4, 2) := by decide +kernel
theorem de_Tr_weighSet_15 : decode prog_12_method_6_code 15 = .ok (.iload 4, 2) := by decide +kernel
theorem de_Tr_weighSet_17 : decode prog_12_method_6_code 17 = .ok (.iload_n 2, 1) := by decide +kernel
theorem de_Tr_weighSet_18 : decode prog_12_method_6_code 18 = .ok (.if_icmp .ge 81, 3) := by decide +kernel
theorem de_Tr_weighSet_21 : decode prog_12_method_6_code 21 = .ok (.aload_n 0, 1) := by decide +kernel
theorem de_Tr_weighSet_22 : decode prog_12_method_6_code 22 = .ok (.iload_n 3, 1) := by decide +kernel
theorem de_Tr_weighSet_23 : decode prog_12_method_6_code 23 = .ok (.iload 4, 2) := by decide +kernel
theorem de_Tr_weighSet_25 : decode prog_12_method_6_code 25 = .ok (.iload_n 1, 1) := by decide +kernel
theorem de_Tr_weighSet_26 : decode prog_12_method_6_code 26 = .ok (.invokevirtual 56, 3) := by decide +kernel
theorem de_Tr_weighSet_29 : decode prog_12_method_6_code 29 = .ok (.ifCond .eq 64, 3) := by decide +kernel
theorem de_Tr_weighSet_32 : decode prog_12_method_6_code 32 = .ok (.aload_n 0, 1) := by decide +kernel
theorem de_Tr_weighSet_33 : decode prog_12_method_6_code 33 = .ok (.iload_n 3, 1) := by decide +kernel
theorem de_Tr_weighSet_34 : decode prog_12_method_6_code 34 = .ok (.iload 4, 2) := by decide +kernel
theorem de_Tr_weighSet_36 : decode prog_12_method_6_code 36 = .ok (.iload_n 1, 1) := by decide +kernel
theorem de_Tr_weighSet_37 : decode prog_12_method_6_code 37 = .ok (.invokevirtual 60, 3) := by decide +kernel
theorem de_Tr_weighSet_40 : decode prog_12_method_6_code 40 = .ok (.istore 5, 2) := by decide +kernel
theorem de_Tr_weighSet_42 : decode prog_12_method_6_code 42 = .ok (.aload_n 0, 1) := by decide +kernel
theorem de_Tr_weighSet_43 : decode prog_12_method_6_code 43 = .ok (.getfield 24, 3) := by decide +kernel
theorem de_Tr_weighSet_46 : decode prog_12_method_6_code 46 = .ok (.iload_n 1, 1) := by decide +kernel
theorem de_Tr_weighSet_47 : decode prog_12_method_6_code 47 = .ok (.aload_n 0, 1) := by decide +kernel
theorem de_Tr_weighSet_48 : decode prog_12_method_6_code 48 = .ok (.getfield 21, 3) := by decide +kernel
theorem de_Tr_weighSet_51 : decode prog_12_method_6_code 51 = .ok (.iload_n 1, 1) := by decide +kernel
theorem de_Tr_weighSet_52 : decode prog_12_method_6_code 52 = .ok (.iaload, 1) := by decide +kernel
theorem de_Tr_weighSet_53 : decode prog_12_method_6_code 53 = .ok (.ifCond .ne 8, 3) := by decide +kernel
theorem de_Tr_weighSet_56 : decode prog_12_method_6_code 56 = .ok (.iload 5, 2) := by decide +kernel
theorem de_Tr_weighSet_58 : decode prog_12_method_6_code 58 = .ok (.goto 14, 3) := by decide +kernel
theorem de_Tr_weighSet_61 : decode prog_12_method_6_code 61 = .ok (.aload_n 0, 1) := by decide +kernel
theorem de_Tr_weighSet_62 : decode prog_12_method_6_code 62 = .ok (.getfield 24, 3) := by decide +kernel
theorem de_Tr_weighSet_65 : decode prog_12_method_6_code 65 = .ok (.iload_n 1, 1) := by decide +kernel
theorem de_Tr_weighSet_66 : decode prog_12_method_6_code 66 = .ok (.iaload, 1) := by decide +kernel
theorem de_Tr_weighSet_67 : decode prog_12_method_6_code 67 = .ok (.iload 5, 2) := by decide +kernel
theorem de_Tr_weighSet_69 : decode prog_12_method_6_code 69 = .ok (.invokestatic 64, 3) := by decide +kernel
theorem de_Tr_weighSet_72 : decode prog_12_method_6_code 72 = .ok (.iastore, 1) := by decide +kernel
theorem de_Tr_weighSet_73 : decode prog_12_method_6_code 73 = .ok (.aload_n 0, 1) := by decide +kernel
theorem de_Tr_weighSet_74 : decode prog_12_method_6_code 74 = .ok (.getfield 21, 3) := by decide +kernel
theorem de_Tr_weighSet_77 : decode prog_12_method_6_code 77 = .ok (.iload_n 1, 1) := by decide +kernel
theorem de_Tr_weighSet_78 : decode prog_12_method_6_code 78 = .ok (.dup2, 1) := by decide +kernel
theorem de_Tr_weighSet_79 : decode prog_12_method_6_code 79 = .ok (.iaload, 1) := by decide +kernel
theorem de_Tr_weighSet_80 : decode prog_12_method_6_code 80 = .ok (.aload_n 0, 1) := by decide +kernel
theorem de_Tr_weighSet_81 : decode prog_12_method_6_code 81 = .ok (.getfield 21, 3) := by decide +kernel
theorem de_Tr_weighSet_84 : decode prog_12_method_6_code 84 = .ok (.iload_n 1, 1) := by decide +kernel
theorem de_Tr_weighSet_85 : decode prog_12_method_6_code 85 = .ok (.iconst 1, 1) := by decide +kernel
theorem de_Tr_weighSet_86 : decode prog_12_method_6_code 86 = .ok (.iload 4, 2) := by decide +kernel
theorem de_Tr_weighSet_88 : decode prog_12_method_6_code 88 = .ok (.ishl, 1) := by decide +kernel
theorem de_Tr_weighSet_89 : decode prog_12_method_6_code 89 = .ok (.ior, 1) := by decide +kernel
theorem de_Tr_weighSet_90 : decode prog_12_method_6_code 90 = .ok (.iaload, 1) := by decide +kernel
theorem de_Tr_weighSet_91 : decode prog_12_method_6_code 91 = .ok (.iadd, 1) := by decide +kernel
theorem de_Tr_weighSet_92 : decode prog_12_method_6_code 92 = .ok (.iastore, 1) := by decide +kernel
theorem de_Tr_weighSet_93 : decode prog_12_method_6_code 93 = .ok (.iinc 4 1, 3) := by decide +kernel
theorem de_Tr_weighSet_96 : decode prog_12_method_6_code 96 = .ok (.goto (-81), 3) := by decide +kernel
theorem de_Tr_weighSet_99 : decode prog_12_method_6_code 99 = .ok (.return_, 1) := by decide +kernel
set_option maxHeartbeats 4000000 in
set_option maxRecDepth 10000 in
theorem lo_Tr_weighSet {o p : Nat} {f : Int → Int} {x B : Int} {w0 : ab_W} (hI : sg_ok B f) (hs : tz_hs f) (hRb : ri_at_j o f x w0) (hdj : o + 13 ≤ p ∨ p + 6 ≤ o) (hB : B ≤ 29000) (n : Nat) (hn : (n : Int) = f 1) (t1 t2 t3 : Int → Int) (hD : tz_dx f t2) (hN : tz_nx f t3) (u m : Nat) (hm : tz_pc u + (m + 1) = n) (hu : u < 2 ^ n) : ∀ (n0 : Nat) (k : Nat) (t4 t5 : Int → Int) (x5 : Option ab_V) (w : ab_W), k ≤ n → n < k + n0 → tra p t1 t2 t3 t4 t5 w → (∀ t : Nat, u < t → t < 2 ^ n → wmo f t4 t5 t) → (t4 (u : Int) = (tz_fo (tz_D f) (tz_N f) (tz_pc u : Int) u (tz_p (tz_D f) (tz_N f) n m) (k)).1 ∧ (0 < t4 (u : Int) → t5 (u : Int) = (tz_fo (tz_D f) (tz_N f) (tz_pc u : Int) u (tz_p (tz_D f) (tz_N f) n m) (k)).2.1)) → fr_at p 6 w0 w → ab_Ev g_G g_rs mt_Tr_weighSet 1 0 0 15 [some (ab_R p), some (ab_I (u : Int)), some (ab_I (f 1)), some (ab_I (tz_pc u : Int)), some (ab_I ((k : Nat) : Int)), x5] [] w (fun r w2 => r = none ∧ (∃ t4 t5 : Int → Int, tra p t1 t2 t3 t4 t5 w2 ∧ ∀ t : Nat, u ≤ t → t < 2 ^ n → wmo f t4 t5 t) ∧ fr_at p 6 w0 w2) := by
  intro n0
  induction n0 with
  | zero =>
    intro k t4 t5 x5 w
    intro y1 y2 hG hA hU hf; omega
  | succ n0 ih =>
    intro k t4 t5 x5 w
    intro y1 y2 hG hA hU hf
    have hRw := rj_fr hRb hf (by omega)
    have hR := hRw
    obtain ⟨sl, fs, vo, li, ra, wo, dh, da, hzz⟩ := hR
    obtain ⟨ds, dn, vw, q0, q1, q2, q3, q4, hzz⟩ := hzz
    obtain ⟨q5, q6, q7, q8, q9, q10, q11, q12, hzz⟩ := hzz
    obtain ⟨e1, e2, e3, e4, e5, e6, e7, e8, e9⟩ := hzz
    obtain ⟨tr0, tr1, tr2, tr3, tr4, tr5⟩ := id hG
    have hb1 := hs.2.1
    have l2 := tz_2n (n := n) (by omega)
    have e1n : n = (f 1).toNat := by omega
    have pbm := tz_p_b (D := tz_D f) (N := tz_N f) (n := n) (by omega) (tz_D_b hI hB) m (by omega)
    have p7 : 7 ^ m ≤ 7 ^ 7 := Nat.pow_le_pow_right (by decide) (by omega)
    have p7b : (7 : Nat) ^ 7 = 823543 := rfl
    have fb := tz_fo_b (D := tz_D f) (N := tz_N f) (tz_pc u : Int) u (tz_p (tz_D f) (tz_N f) n m) (7 ^ m) (2000 * m) (by omega) (by omega) (n := n) (by omega) (tz_D_b hI hB) pbm k (by omega)
    have f0 := (tz_fi (tz_D f) (tz_N f) (tz_pc u : Int) u (tz_p (tz_D f) (tz_N f) n m) k).1
    have kp : k * 7 ^ m ≤ 7 * 7 ^ m := Nat.mul_le_mul_right _ (by omega)
    refine ev_iload de_Tr_weighSet_15 rfl ?_
    refine ev_iload_n de_Tr_weighSet_17 rfl rfl ?_
    refine ev_icmp_ge (tgt := 99) de_Tr_weighSet_18 (by decide) (by omega) (by omega) (fun h18 => ?_) (fun h18 => ?_)
    · skip
      have ek : k = n := by omega
      subst ek
      exact ev_return de_Tr_weighSet_99 rfl ⟨rfl, ⟨_, _, hG, fun t a b => (by by_cases e : t = u; (subst e; unfold wmo; rw [← e1n, show k - tz_pc t = m + 1 by omega]; show t4 (t : Int) = (tz_fo (tz_D f) (tz_N f) ((k : Int) - ((m + 1 : Nat) : Int)) t (tz_p (tz_D f) (tz_N f) k m) k).1 ∧ (0 < t4 (t : Int) → t5 (t : Int) = (tz_fo (tz_D f) (tz_N f) ((k : Int) - ((m + 1 : Nat) : Int)) t (tz_p (tz_D f) (tz_N f) k m) k).2.1); rw [show (k : Int) - ((m + 1 : Nat) : Int) = (tz_pc t : Int) by omega]; exact hU); exact hA t (by omega) b)⟩, hf⟩
    · skip
      have d1 := hD (tz_pc u : Int) (k : Int) (by omega) (by omega) (by omega) (by omega)
      have d2 := hN (tz_pc u : Int) (by omega) (by omega)
      have d3 := tz_D_b hI hB (7 * (tz_pc u : Int) + (k : Int)) (by omega) (by omega)
      have d4 := tz_N_b hI hB (h := (tz_pc u : Int)) (by omega) (by omega)
      have vb : u.testBit k = false → _ := fun z => wm_v e1n (by omega) hm hu (show k < n by omega) z hA
      have pv := pbm (u ||| 2 ^ k)
      have eF : (tz_fo (tz_D f) (tz_N f) (tz_pc u : Int) u (tz_p (tz_D f) (tz_N f) n m) (k + 1)) = tz_st (tz_D f) (tz_N f) (tz_pc u : Int) u (tz_p (tz_D f) (tz_N f) n m) k (tz_fo (tz_D f) (tz_N f) (tz_pc u : Int) u (tz_p (tz_D f) (tz_N f) n m) (k)) := rfl
      refine ev_aload_n de_Tr_weighSet_21 rfl rfl ?_
      refine ev_iload_n de_Tr_weighSet_22 rfl rfl ?_
      refine ev_iload de_Tr_weighSet_23 rfl ?_
      refine ev_iload_n de_Tr_weighSet_25 rfl rfl ?_
      refine ev_vv (ci := 9) de_Tr_weighSet_26 (co_Tr_mayTake hG (tz_pc u : Int) (by omega) (by omega) k (by omega) u (by omega) d1 d2 d3 d4 (fun z => by rw [(vb z).1]; constructor <;> omega)) kb_Tr_56 ⟨im_Tr_mayTake, se_Tr_mayTake⟩ rfl tr0 rfl (Nat.le_of_ble_eq_true rfl) (by decide) rfl ?_
      refine ev_if_eq (tgt := 93) de_Tr_weighSet_29 (by decide) (by first | omega | (split <;> decide)) (fun h29 => ?_) (fun h29 => ?_)
      · skip
        have nv : ¬ (tz_ok (tz_D f) (tz_N f) (tz_pc u : Int) u k = true ∧ 0 < t4 ((u ||| 2 ^ k : Nat) : Int)) := fun z => by rw [if_pos z] at h29; omega
        have eF2 : (tz_fo (tz_D f) (tz_N f) (tz_pc u : Int) u (tz_p (tz_D f) (tz_N f) n m) (k + 1)) = (tz_fo (tz_D f) (tz_N f) (tz_pc u : Int) u (tz_p (tz_D f) (tz_N f) n m) (k)) := by
          rw [eF]
          unfold tz_st
          rw [if_neg (fun z => nv ⟨z.1, by rw [(vb (tz_ok_i.mp z.1).1).1]; exact z.2⟩)]
        have gU : (t4 (u : Int) = (tz_fo (tz_D f) (tz_N f) (tz_pc u : Int) u (tz_p (tz_D f) (tz_N f) n m) (k + 1)).1 ∧ (0 < t4 (u : Int) → t5 (u : Int) = (tz_fo (tz_D f) (tz_N f) (tz_pc u : Int) u (tz_p (tz_D f) (tz_N f) n m) (k + 1)).2.1)) := by rw [eF2]; exact hU
        have gA := hA
        refine ev_iinc (l' := [_, _, _, _, _, _]) de_Tr_weighSet_93 rfl rfl ?_
        refine ev_goto (tgt := 15) de_Tr_weighSet_96 (by decide) ?_
        exact ih (k + 1) _ _ _ _ (by omega) (by omega) hG gA gU hf
      · skip
        have yv : tz_ok (tz_D f) (tz_N f) (tz_pc u : Int) u k = true ∧ 0 < t4 ((u ||| 2 ^ k : Nat) : Int) := Decidable.byContradiction (fun z => by rw [if_neg z] at h29; exact h29 rfl)
        have vb := vb (tz_ok_i.mp yv.1).1
        have v5 := vb.2 yv.2
        have eF2 : (tz_fo (tz_D f) (tz_N f) (tz_pc u : Int) u (tz_p (tz_D f) (tz_N f) n m) (k + 1)) = ((tz_fo (tz_D f) (tz_N f) (tz_pc u : Int) u (tz_p (tz_D f) (tz_N f) n m) (k)).1 + (tz_p (tz_D f) (tz_N f) n m (u ||| 2 ^ k)).1, if (tz_fo (tz_D f) (tz_N f) (tz_pc u : Int) u (tz_p (tz_D f) (tz_N f) n m) (k)).1 = 0 ∨ (tz_fo (tz_D f) (tz_N f) (tz_pc u : Int) u (tz_p (tz_D f) (tz_N f) n m) (k)).2.1 < tz_D f (7 * (tz_pc u : Int) + (k : Int)) + (tz_p (tz_D f) (tz_N f) n m (u ||| 2 ^ k)).2.1 then (tz_D f (7 * (tz_pc u : Int) + (k : Int)) + (tz_p (tz_D f) (tz_N f) n m (u ||| 2 ^ k)).2.1, k) else (tz_fo (tz_D f) (tz_N f) (tz_pc u : Int) u (tz_p (tz_D f) (tz_N f) n m) (k)).2) := by
          rw [eF]
          unfold tz_st
          rw [if_pos ⟨yv.1, by rw [← vb.1]; exact yv.2⟩]
        have gt := (pc_or u (by omega) k (by omega) (tz_ok_i.mp yv.1).1).2
        refine ev_aload_n de_Tr_weighSet_32 rfl rfl ?_
        refine ev_iload_n de_Tr_weighSet_33 rfl rfl ?_
        refine ev_iload de_Tr_weighSet_34 rfl ?_
        refine ev_iload_n de_Tr_weighSet_36 rfl rfl ?_
        refine ev_vv (ci := 9) de_Tr_weighSet_37 (co_Tr_sumWith (f := f) hG (tz_pc u : Int) (by omega) (by omega) k (by omega) u (by omega) d1) kb_Tr_60 ⟨im_Tr_sumWith, se_Tr_sumWith⟩ rfl tr0 rfl (Nat.le_of_ble_eq_true rfl) (by decide) rfl ?_
        refine ev_top (congrArg Sum.inl (show _ = tz_D f (7 * (tz_pc u : Int) + (k : Int)) + (tz_p (tz_D f) (tz_N f) n m (u ||| 2 ^ k)).2.1 from by rw [v5])) ?_
        refine ev_istore (l' := [_, _, _, _, _, _]) de_Tr_weighSet_40 (Nat.le_of_ble_eq_true rfl) rfl ?_
        refine ev_aload_n de_Tr_weighSet_42 rfl rfl ?_
        refine ev_getfield de_Tr_weighSet_43 tr0 fl_Tr_24 rfl ?_
        refine ev_iload_n de_Tr_weighSet_46 rfl rfl ?_
        refine ev_aload_n de_Tr_weighSet_47 rfl rfl ?_
        refine ev_getfield de_Tr_weighSet_48 tr0 fl_Tr_21 rfl ?_
        refine ev_iload_n de_Tr_weighSet_51 rfl rfl ?_
        refine ev_iaload de_Tr_weighSet_52 tr4 (by omega) (by omega) (by omega) ?_
        refine ev_top (congrArg Sum.inl hU.1) ?_
        refine ev_if_ne (tgt := 61) de_Tr_weighSet_53 (by decide) (by omega) (fun h53 => ?_) (fun h53 => ?_)
        · skip
          have hc : ¬ (tz_fo (tz_D f) (tz_N f) (tz_pc u : Int) u (tz_p (tz_D f) (tz_N f) n m) (k)).1 = 0 := h53
          have u5 := hU.2 (by rw [hU.1]; omega)
          refine ev_aload_n de_Tr_weighSet_61 rfl rfl ?_
          refine ev_getfield de_Tr_weighSet_62 tr0 fl_Tr_24 rfl ?_
          refine ev_iload_n de_Tr_weighSet_65 rfl rfl ?_
          refine ev_iaload de_Tr_weighSet_66 tr5 (by omega) (by omega) (by omega) ?_
          refine ev_top (congrArg Sum.inl u5) ?_
          refine ev_iload de_Tr_weighSet_67 rfl ?_
          refine ev_mmax (by omega) (by omega) de_Tr_weighSet_69 mk_Tr_64 (Nat.le_of_ble_eq_true rfl) (by decide) ?_
          refine ev_top (congrArg Sum.inl (show _ = (tz_fo (tz_D f) (tz_N f) (tz_pc u : Int) u (tz_p (tz_D f) (tz_N f) n m) (k + 1)).2.1 from by rw [eF2]; first | (rw [if_pos (Or.inl hc)]; done) | (show (if _ then _ else _) = (if _ then _ else _ : Int × Nat).1; (repeat' split) <;> first | rfl | omega))) ?_
          refine ev_iastore de_Tr_weighSet_72 tr5 (by omega) (by omega) (by omega) ?_
          refine ev_gen (P := fun w1 => tra p t1 t2 t3 t4 (ab_up t5 (u : Int) (tz_fo (tz_D f) (tz_N f) (tz_pc u : Int) u (tz_p (tz_D f) (tz_N f) n m) (k + 1)).2.1) w1 ∧ fr_at p 6 w0 w1) ⟨tra_5 hG, fr_set hf (by omega) (by omega)⟩ (fun w1 hm1 => ?_)
          obtain ⟨hG, hf⟩ := hm1
          have hRw := rj_fr hRb hf (by omega)
          have hR := hRw
          obtain ⟨sl, fs, vo, li, ra, wo, dh, da, hzz⟩ := hR
          obtain ⟨ds, dn, vw, q0, q1, q2, q3, q4, hzz⟩ := hzz
          obtain ⟨q5, q6, q7, q8, q9, q10, q11, q12, hzz⟩ := hzz
          obtain ⟨e1, e2, e3, e4, e5, e6, e7, e8, e9⟩ := hzz
          obtain ⟨tr0, tr1, tr2, tr3, tr4, tr5⟩ := id hG
          refine ev_aload_n de_Tr_weighSet_73 rfl rfl ?_
          refine ev_getfield de_Tr_weighSet_74 tr0 fl_Tr_21 rfl ?_
          refine ev_iload_n de_Tr_weighSet_77 rfl rfl ?_
          refine ev_dup2 de_Tr_weighSet_78 rfl rfl ?_
          refine ev_iaload de_Tr_weighSet_79 tr4 (by omega) (by omega) (by omega) ?_
          refine ev_top (congrArg Sum.inl hU.1) ?_
          refine ev_aload_n de_Tr_weighSet_80 rfl rfl ?_
          refine ev_getfield de_Tr_weighSet_81 tr0 fl_Tr_21 rfl ?_
          refine ev_iload_n de_Tr_weighSet_84 rfl rfl ?_
          refine ev_iconst de_Tr_weighSet_85 ?_
          refine ev_iload de_Tr_weighSet_86 rfl ?_
          refine ev_ishl de_Tr_weighSet_88 (by omega) (by omega) ?_
          refine ev_ior de_Tr_weighSet_89 ?_
          refine ev_top (congrArg Sum.inl (or_c (show u < 128 by omega) (show k < 7 by omega))) ?_
          refine ev_iaload de_Tr_weighSet_90 tr4 (by have := tz_orb (show u < 128 by omega) (show k < 7 by omega); omega) (by have := tz_orb (show u < 128 by omega) (show k < 7 by omega); omega) (by have := tz_orb (show u < 128 by omega) (show k < 7 by omega); omega) ?_
          refine ev_top (congrArg Sum.inl vb.1) ?_
          refine ev_iadd de_Tr_weighSet_91 ?_
          refine ev_top (congrArg Sum.inl (show _ = (tz_fo (tz_D f) (tz_N f) (tz_pc u : Int) u (tz_p (tz_D f) (tz_N f) n m) (k + 1)).1 from by rw [eF2])) ?_
          refine ev_iastore de_Tr_weighSet_92 tr4 (by omega) (by omega) (by omega) ?_
          refine ev_gen (P := fun w1 => tra p t1 t2 t3 (ab_up t4 (u : Int) (tz_fo (tz_D f) (tz_N f) (tz_pc u : Int) u (tz_p (tz_D f) (tz_N f) n m) (k + 1)).1) (ab_up t5 (u : Int) (tz_fo (tz_D f) (tz_N f) (tz_pc u : Int) u (tz_p (tz_D f) (tz_N f) n m) (k + 1)).2.1) w1 ∧ fr_at p 6 w0 w1) ⟨tra_4 hG, fr_set hf (by omega) (by omega)⟩ (fun w1 hm1 => ?_)
          obtain ⟨hG, hf⟩ := hm1
          have hRw := rj_fr hRb hf (by omega)
          have hR := hRw
          obtain ⟨sl, fs, vo, li, ra, wo, dh, da, hzz⟩ := hR
          obtain ⟨ds, dn, vw, q0, q1, q2, q3, q4, hzz⟩ := hzz
          obtain ⟨q5, q6, q7, q8, q9, q10, q11, q12, hzz⟩ := hzz
          obtain ⟨e1, e2, e3, e4, e5, e6, e7, e8, e9⟩ := hzz
          obtain ⟨tr0, tr1, tr2, tr3, tr4, tr5⟩ := id hG
          have gU : ab_up t4 (u : Int) (tz_fo (tz_D f) (tz_N f) (tz_pc u : Int) u (tz_p (tz_D f) (tz_N f) n m) (k + 1)).1 (u : Int) = (tz_fo (tz_D f) (tz_N f) (tz_pc u : Int) u (tz_p (tz_D f) (tz_N f) n m) (k + 1)).1 ∧ (0 < ab_up t4 (u : Int) (tz_fo (tz_D f) (tz_N f) (tz_pc u : Int) u (tz_p (tz_D f) (tz_N f) n m) (k + 1)).1 (u : Int) → ab_up t5 (u : Int) (tz_fo (tz_D f) (tz_N f) (tz_pc u : Int) u (tz_p (tz_D f) (tz_N f) n m) (k + 1)).2.1 (u : Int) = (tz_fo (tz_D f) (tz_N f) (tz_pc u : Int) u (tz_p (tz_D f) (tz_N f) n m) (k + 1)).2.1) := ⟨ab_upe _ _ _, fun _ => ab_upe _ _ _⟩
          have gA : ∀ t : Nat, u < t → t < 2 ^ n → wmo f (ab_up t4 (u : Int) (tz_fo (tz_D f) (tz_N f) (tz_pc u : Int) u (tz_p (tz_D f) (tz_N f) n m) (k + 1)).1) (ab_up t5 (u : Int) (tz_fo (tz_D f) (tz_N f) (tz_pc u : Int) u (tz_p (tz_D f) (tz_N f) n m) (k + 1)).2.1) t := fun t a b => by
            unfold wmo
            rw [ab_upn _ _ (by omega), ab_upn _ _ (by omega)]
            exact hA t a b
          refine ev_iinc (l' := [_, _, _, _, _, _]) de_Tr_weighSet_93 rfl rfl ?_
          refine ev_goto (tgt := 15) de_Tr_weighSet_96 (by decide) ?_
          exact ih (k + 1) _ _ _ _ (by omega) (by omega) hG gA gU hf
        · skip
          have hc : (tz_fo (tz_D f) (tz_N f) (tz_pc u : Int) u (tz_p (tz_D f) (tz_N f) n m) (k)).1 = 0 := by omega
          refine ev_iload de_Tr_weighSet_56 rfl ?_
          refine ev_goto (tgt := 72) de_Tr_weighSet_58 (by decide) ?_
          refine ev_top (congrArg Sum.inl (show _ = (tz_fo (tz_D f) (tz_N f) (tz_pc u : Int) u (tz_p (tz_D f) (tz_N f) n m) (k + 1)).2.1 from by rw [eF2]; first | (rw [if_pos (Or.inl hc)]; done) | (show (if _ then _ else _) = (if _ then _ else _ : Int × Nat).1; (repeat' split) <;> first | rfl | omega))) ?_
          refine ev_iastore de_Tr_weighSet_72 tr5 (by omega) (by omega) (by omega) ?_
          refine ev_gen (P := fun w1 => tra p t1 t2 t3 t4 (ab_up t5 (u : Int) (tz_fo (tz_D f) (tz_N f) (tz_pc u : Int) u (tz_p (tz_D f) (tz_N f) n m) (k + 1)).2.1) w1 ∧ fr_at p 6 w0 w1) ⟨tra_5 hG, fr_set hf (by omega) (by omega)⟩ (fun w1 hm1 => ?_)
          obtain ⟨hG, hf⟩ := hm1
          have hRw := rj_fr hRb hf (by omega)
          have hR := hRw
          obtain ⟨sl, fs, vo, li, ra, wo, dh, da, hzz⟩ := hR
          obtain ⟨ds, dn, vw, q0, q1, q2, q3, q4, hzz⟩ := hzz
          obtain ⟨q5, q6, q7, q8, q9, q10, q11, q12, hzz⟩ := hzz
          obtain ⟨e1, e2, e3, e4, e5, e6, e7, e8, e9⟩ := hzz
          obtain ⟨tr0, tr1, tr2, tr3, tr4, tr5⟩ := id hG
          refine ev_aload_n de_Tr_weighSet_73 rfl rfl ?_
          refine ev_getfield de_Tr_weighSet_74 tr0 fl_Tr_21 rfl ?_
          refine ev_iload_n de_Tr_weighSet_77 rfl rfl ?_
          refine ev_dup2 de_Tr_weighSet_78 rfl rfl ?_
          refine ev_iaload de_Tr_weighSet_79 tr4 (by omega) (by omega) (by omega) ?_
          refine ev_top (congrArg Sum.inl hU.1) ?_
          refine ev_aload_n de_Tr_weighSet_80 rfl rfl ?_
          refine ev_getfield de_Tr_weighSet_81 tr0 fl_Tr_21 rfl ?_
          refine ev_iload_n de_Tr_weighSet_84 rfl rfl ?_
          refine ev_iconst de_Tr_weighSet_85 ?_
          refine ev_iload de_Tr_weighSet_86 rfl ?_
          refine ev_ishl de_Tr_weighSet_88 (by omega) (by omega) ?_
          refine ev_ior de_Tr_weighSet_89 ?_
          refine ev_top (congrArg Sum.inl (or_c (show u < 128 by omega) (show k < 7 by omega))) ?_
          refine ev_iaload de_Tr_weighSet_90 tr4 (by have := tz_orb (show u < 128 by omega) (show k < 7 by omega); omega) (by have := tz_orb (show u < 128 by omega) (show k < 7 by omega); omega) (by have := tz_orb (show u < 128 by omega) (show k < 7 by omega); omega) ?_
          refine ev_top (congrArg Sum.inl vb.1) ?_
          refine ev_iadd de_Tr_weighSet_91 ?_
          refine ev_top (congrArg Sum.inl (show _ = (tz_fo (tz_D f) (tz_N f) (tz_pc u : Int) u (tz_p (tz_D f) (tz_N f) n m) (k + 1)).1 from by rw [eF2])) ?_
          refine ev_iastore de_Tr_weighSet_92 tr4 (by omega) (by omega) (by omega) ?_
          refine ev_gen (P := fun w1 => tra p t1 t2 t3 (ab_up t4 (u : Int) (tz_fo (tz_D f) (tz_N f) (tz_pc u : Int) u (tz_p (tz_D f) (tz_N f) n m) (k + 1)).1) (ab_up t5 (u : Int) (tz_fo (tz_D f) (tz_N f) (tz_pc u : Int) u (tz_p (tz_D f) (tz_N f) n m) (k + 1)).2.1) w1 ∧ fr_at p 6 w0 w1) ⟨tra_4 hG, fr_set hf (by omega) (by omega)⟩ (fun w1 hm1 => ?_)
          obtain ⟨hG, hf⟩ := hm1
          have hRw := rj_fr hRb hf (by omega)
          have hR := hRw
          obtain ⟨sl, fs, vo, li, ra, wo, dh, da, hzz⟩ := hR
          obtain ⟨ds, dn, vw, q0, q1, q2, q3, q4, hzz⟩ := hzz
          obtain ⟨q5, q6, q7, q8, q9, q10, q11, q12, hzz⟩ := hzz
          obtain ⟨e1, e2, e3, e4, e5, e6, e7, e8, e9⟩ := hzz
          obtain ⟨tr0, tr1, tr2, tr3, tr4, tr5⟩ := id hG
          have gU : ab_up t4 (u : Int) (tz_fo (tz_D f) (tz_N f) (tz_pc u : Int) u (tz_p (tz_D f) (tz_N f) n m) (k + 1)).1 (u : Int) = (tz_fo (tz_D f) (tz_N f) (tz_pc u : Int) u (tz_p (tz_D f) (tz_N f) n m) (k + 1)).1 ∧ (0 < ab_up t4 (u : Int) (tz_fo (tz_D f) (tz_N f) (tz_pc u : Int) u (tz_p (tz_D f) (tz_N f) n m) (k + 1)).1 (u : Int) → ab_up t5 (u : Int) (tz_fo (tz_D f) (tz_N f) (tz_pc u : Int) u (tz_p (tz_D f) (tz_N f) n m) (k + 1)).2.1 (u : Int) = (tz_fo (tz_D f) (tz_N f) (tz_pc u : Int) u (tz_p (tz_D f) (tz_N f) n m) (k + 1)).2.1) := ⟨ab_upe _ _ _, fun _ => ab_upe _ _ _⟩
          have gA : ∀ t : Nat, u < t → t < 2 ^ n → wmo f (ab_up t4 (u : Int) (tz_fo (tz_D f) (tz_N f) (tz_pc u : Int) u (tz_p (tz_D f) (tz_N f) n m) (k + 1)).1) (ab_up t5 (u : Int) (tz_fo (tz_D f) (tz_N f) (tz_pc u : Int) u (tz_p (tz_D f) (tz_N f) n m) (k + 1)).2.1) t := fun t a b => by
            unfold wmo
            rw [ab_upn _ _ (by omega), ab_upn _ _ (by omega)]
            exact hA t a b
          refine ev_iinc (l' := [_, _, _, _, _, _]) de_Tr_weighSet_93 rfl rfl ?_
          refine ev_goto (tgt := 15) de_Tr_weighSet_96 (by decide) ?_
          exact ih (k + 1) _ _ _ _ (by omega) (by omega) hG gA gU hf
set_option maxHeartbeats 4000000 in
set_option maxRecDepth 10000 in
theorem co_Tr_weighSet {o p : Nat} {f : Int → Int} {x B : Int} {w0 : ab_W} (hI : sg_ok B f) (hs : tz_hs f) (hRb : ri_at_j o f x w0) (hdj : o + 13 ≤ p ∨ p + 6 ≤ o) (hB : B ≤ 29000) (n : Nat) (hn : (n : Int) = f 1) (t1 t2 t3 : Int → Int) (hD : tz_dx f t2) (hN : tz_nx f t3) (u m : Nat) (hm : tz_pc u + (m + 1) = n) (hu : u < 2 ^ n) (hu1 : u < 2 ^ n - 1) {t4 t5 : Int → Int} (hG : tra p t1 t2 t3 t4 t5 w0) (hA : (∀ t : Nat, u < t → t < 2 ^ n → wmo f t4 t5 t)) : ab_Mt g_G g_rs mt_Tr_weighSet 1 0 0 [ab_R p, ab_I (u : Int), ab_I (f 1)] w0 (fun r w2 => r = none ∧ (∃ t4 t5 : Int → Int, tra p t1 t2 t3 t4 t5 w2 ∧ ∀ t : Nat, u ≤ t → t < 2 ^ n → wmo f t4 t5 t) ∧ fr_at p 6 w0 w2) := by
  obtain ⟨tr0, tr1, tr2, tr3, tr4, tr5⟩ := id hG
  have hb1 := hs.2.1
  have l2 := tz_2n (n := n) (by omega)
  refine ab_Mt.of rfl (Nat.le_of_ble_eq_true rfl) ?_
  show ab_Ev g_G g_rs mt_Tr_weighSet _ _ _ 0 [some (ab_R p), some (ab_I (u : Int)), some (ab_I (f 1)), none, none, none] [] _ _
  refine ev_iload_n de_Tr_weighSet_0 rfl rfl ?_
  refine ev_sv de_Tr_weighSet_1 (co_In_bitCount _ (u : Int) (by omega) (by omega)) kb_Tr_50 sc_In_bitCount rfl (Nat.le_of_ble_eq_true rfl) (by decide) rfl ?_
  refine ev_top (congrArg Sum.inl (pc_bc u (by omega))) ?_
  refine ev_istore_n (l' := [_, _, _, _, _, _]) de_Tr_weighSet_4 rfl (Nat.le_of_ble_eq_true rfl) rfl ?_
  refine ev_aload_n de_Tr_weighSet_5 rfl rfl ?_
  refine ev_getfield de_Tr_weighSet_6 tr0 fl_Tr_21 rfl ?_
  refine ev_iload_n de_Tr_weighSet_9 rfl rfl ?_
  refine ev_iconst de_Tr_weighSet_10 ?_
  refine ev_iastore de_Tr_weighSet_11 tr4 (by omega) (by omega) (by omega) ?_
  have hf : fr_at p 6 w0 w0 := fr_0
  refine ev_gen (P := fun w1 => tra p t1 t2 t3 (ab_up t4 (u : Int) 0) t5 w1 ∧ fr_at p 6 w0 w1) ⟨tra_4 hG, fr_set hf (by omega) (by omega)⟩ (fun w1 hm1 => ?_)
  obtain ⟨hG, hf⟩ := hm1
  have hRw := rj_fr hRb hf (by omega)
  have hR := hRw
  obtain ⟨sl, fs, vo, li, ra, wo, dh, da, hzz⟩ := hR
  obtain ⟨ds, dn, vw, q0, q1, q2, q3, q4, hzz⟩ := hzz
  obtain ⟨q5, q6, q7, q8, q9, q10, q11, q12, hzz⟩ := hzz
  obtain ⟨e1, e2, e3, e4, e5, e6, e7, e8, e9⟩ := hzz
  obtain ⟨tr0, tr1, tr2, tr3, tr4, tr5⟩ := id hG
  refine ev_iconst de_Tr_weighSet_12 ?_
  refine ev_istore (l' := [_, _, _, _, _, _]) de_Tr_weighSet_13 (Nat.le_of_ble_eq_true rfl) rfl ?_
  exact lo_Tr_weighSet hI hs hRb hdj hB n hn t1 t2 t3 hD hN u m hm hu 9 0 _ _ _ w1 (by omega) (by omega) hG (fun t a b => by unfold wmo; rw [ab_upn _ _ (by omega)]; exact hA t a b) ⟨ab_upe _ _ _, fun z => absurd z (by rw [ab_upe]; decide)⟩ hf
theorem de_Tr_findRows_0 : decode prog_12_method_2_code 0 = .ok (.aload_n 0, 1) := by decide +kernel
theorem de_Tr_findRows_1 : decode prog_12_method_2_code 1 = .ok (.aload_n 1, 1) := by decide +kernel
theorem de_Tr_findRows_2 : decode prog_12_method_2_code 2 = .ok (.invokevirtual 27, 3) := by decide +kernel
theorem de_Tr_findRows_5 : decode prog_12_method_2_code 5 = .ok (.iconst 0, 1) := by decide +kernel
theorem de_Tr_findRows_6 : decode prog_12_method_2_code 6 = .ok (.istore_n 2, 1) := by decide +kernel
theorem de_Tr_findRows_7 : decode prog_12_method_2_code 7 = .ok (.iload_n 2, 1) := by decide +kernel
theorem de_Tr_findRows_8 : decode prog_12_method_2_code 8 = .ok (.aload_n 1, 1) := by decide +kernel
theorem de_Tr_findRows_9 : decode prog_12_method_2_code 9 = .ok (.getfield 31, 3) := by decide +kernel
theorem de_Tr_findRows_12 : decode prog_12_method_2_code 12 = .ok (.if_icmp .ge 74, 3) := by decide +kernel
theorem de_Tr_findRows_15 : decode prog_12_method_2_code 15 = .ok (.iconst 0, 1) := by decide +kernel
theorem de_Tr_findRows_16 : decode prog_12_method_2_code 16 = .ok (.istore_n 3, 1) := by decide +kernel
theorem de_Tr_findRows_17 : decode prog_12_method_2_code 17 = .ok (.iload_n 3, 1) := by decide +kernel
theorem de_Tr_findRows_18 : decode prog_12_method_2_code 18 = .ok (.aload_n 1, 1) := by decide +kernel
theorem de_Tr_findRows_19 : decode prog_12_method_2_code 19 = .ok (.getfield 31, 3) := by decide +kernel
theorem de_Tr_findRows_22 : decode prog_12_method_2_code 22 = .ok (.if_icmp .ge 58, 3) := by decide +kernel
theorem de_Tr_findRows_25 : decode prog_12_method_2_code 25 = .ok (.aload_n 1, 1) := by decide +kernel
theorem de_Tr_findRows_26 : decode prog_12_method_2_code 26 = .ok (.iload_n 2, 1) := by decide +kernel
theorem de_Tr_findRows_27 : decode prog_12_method_2_code 27 = .ok (.aload_n 0, 1) := by decide +kernel
theorem de_Tr_findRows_28 : decode prog_12_method_2_code 28 = .ok (.getfield 9, 3) := by decide +kernel
theorem de_Tr_findRows_31 : decode prog_12_method_2_code 31 = .ok (.iload_n 3, 1) := by decide +kernel
theorem de_Tr_findRows_32 : decode prog_12_method_2_code 32 = .ok (.iaload, 1) := by decide +kernel
theorem de_Tr_findRows_33 : decode prog_12_method_2_code 33 = .ok (.invokevirtual 37, 3) := by decide +kernel
theorem de_Tr_findRows_36 : decode prog_12_method_2_code 36 = .ok (.istore 4, 2) := by decide +kernel
theorem de_Tr_findRows_38 : decode prog_12_method_2_code 38 = .ok (.aload_n 0, 1) := by decide +kernel
theorem de_Tr_findRows_39 : decode prog_12_method_2_code 39 = .ok (.getfield 15, 3) := by decide +kernel
theorem de_Tr_findRows_42 : decode prog_12_method_2_code 42 = .ok (.iload_n 2, 1) := by decide +kernel
theorem de_Tr_findRows_43 : decode prog_12_method_2_code 43 = .ok (.bipush 7, 2) := by decide +kernel
theorem de_Tr_findRows_45 : decode prog_12_method_2_code 45 = .ok (.imul, 1) := by decide +kernel
theorem de_Tr_findRows_46 : decode prog_12_method_2_code 46 = .ok (.iload_n 3, 1) := by decide +kernel
theorem de_Tr_findRows_47 : decode prog_12_method_2_code 47 = .ok (.iadd, 1) := by decide +kernel
theorem de_Tr_findRows_48 : decode prog_12_method_2_code 48 = .ok (.iload 4, 2) := by decide +kernel
theorem de_Tr_findRows_50 : decode prog_12_method_2_code 50 = .ok (.iastore, 1) := by decide +kernel
theorem de_Tr_findRows_51 : decode prog_12_method_2_code 51 = .ok (.aload_n 0, 1) := by decide +kernel
theorem de_Tr_findRows_52 : decode prog_12_method_2_code 52 = .ok (.getfield 9, 3) := by decide +kernel
theorem de_Tr_findRows_55 : decode prog_12_method_2_code 55 = .ok (.iload_n 3, 1) := by decide +kernel
theorem de_Tr_findRows_56 : decode prog_12_method_2_code 56 = .ok (.iaload, 1) := by decide +kernel
theorem de_Tr_findRows_57 : decode prog_12_method_2_code 57 = .ok (.aload_n 1, 1) := by decide +kernel
theorem de_Tr_findRows_58 : decode prog_12_method_2_code 58 = .ok (.getfield 41, 3) := by decide +kernel
theorem de_Tr_findRows_61 : decode prog_12_method_2_code 61 = .ok (.iload_n 2, 1) := by decide +kernel
theorem de_Tr_findRows_62 : decode prog_12_method_2_code 62 = .ok (.iaload, 1) := by decide +kernel
theorem de_Tr_findRows_63 : decode prog_12_method_2_code 63 = .ok (.if_icmp .ne 11, 3) := by decide +kernel
theorem de_Tr_findRows_66 : decode prog_12_method_2_code 66 = .ok (.aload_n 0, 1) := by decide +kernel
theorem de_Tr_findRows_67 : decode prog_12_method_2_code 67 = .ok (.getfield 18, 3) := by decide +kernel
theorem de_Tr_findRows_70 : decode prog_12_method_2_code 70 = .ok (.iload_n 2, 1) := by decide +kernel
theorem de_Tr_findRows_71 : decode prog_12_method_2_code 71 = .ok (.iload 4, 2) := by decide +kernel
theorem de_Tr_findRows_73 : decode prog_12_method_2_code 73 = .ok (.iastore, 1) := by decide +kernel
theorem de_Tr_findRows_74 : decode prog_12_method_2_code 74 = .ok (.iinc 3 1, 3) := by decide +kernel
theorem de_Tr_findRows_77 : decode prog_12_method_2_code 77 = .ok (.goto (-60), 3) := by decide +kernel
theorem de_Tr_findRows_80 : decode prog_12_method_2_code 80 = .ok (.iinc 2 1, 3) := by decide +kernel
theorem de_Tr_findRows_83 : decode prog_12_method_2_code 83 = .ok (.goto (-76), 3) := by decide +kernel
theorem de_Tr_findRows_86 : decode prog_12_method_2_code 86 = .ok (.iconst 1, 1) := by decide +kernel
theorem de_Tr_findRows_87 : decode prog_12_method_2_code 87 = .ok (.aload_n 1, 1) := by decide +kernel
theorem de_Tr_findRows_88 : decode prog_12_method_2_code 88 = .ok (.getfield 31, 3) := by decide +kernel
theorem de_Tr_findRows_91 : decode prog_12_method_2_code 91 = .ok (.ishl, 1) := by decide +kernel
theorem de_Tr_findRows_92 : decode prog_12_method_2_code 92 = .ok (.iconst 1, 1) := by decide +kernel
theorem de_Tr_findRows_93 : decode prog_12_method_2_code 93 = .ok (.isub, 1) := by decide +kernel
theorem de_Tr_findRows_94 : decode prog_12_method_2_code 94 = .ok (.istore_n 2, 1) := by decide +kernel
theorem de_Tr_findRows_95 : decode prog_12_method_2_code 95 = .ok (.aload_n 0, 1) := by decide +kernel
theorem de_Tr_findRows_96 : decode prog_12_method_2_code 96 = .ok (.getfield 21, 3) := by decide +kernel
theorem de_Tr_findRows_99 : decode prog_12_method_2_code 99 = .ok (.iload_n 2, 1) := by decide +kernel
theorem de_Tr_findRows_100 : decode prog_12_method_2_code 100 = .ok (.iconst 1, 1) := by decide +kernel
theorem de_Tr_findRows_101 : decode prog_12_method_2_code 101 = .ok (.iastore, 1) := by decide +kernel
theorem de_Tr_findRows_102 : decode prog_12_method_2_code 102 = .ok (.aload_n 0, 1) := by decide +kernel
theorem de_Tr_findRows_103 : decode prog_12_method_2_code 103 = .ok (.getfield 24, 3) := by decide +kernel
theorem de_Tr_findRows_106 : decode prog_12_method_2_code 106 = .ok (.iload_n 2, 1) := by decide +kernel
theorem de_Tr_findRows_107 : decode prog_12_method_2_code 107 = .ok (.iconst 0, 1) := by decide +kernel
theorem de_Tr_findRows_108 : decode prog_12_method_2_code 108 = .ok (.iastore, 1) := by decide +kernel
theorem de_Tr_findRows_109 : decode prog_12_method_2_code 109 = .ok (.iload_n 2, 1) := by decide +kernel
theorem de_Tr_findRows_110 : decode prog_12_method_2_code 110 = .ok (.iconst 1, 1) := by decide +kernel
theorem de_Tr_findRows_111 : decode prog_12_method_2_code 111 = .ok (.isub, 1) := by decide +kernel
theorem de_Tr_findRows_112 : decode prog_12_method_2_code 112 = .ok (.istore_n 3, 1) := by decide +kernel
theorem de_Tr_findRows_113 : decode prog_12_method_2_code 113 = .ok (.iload_n 3, 1) := by decide +kernel
theorem de_Tr_findRows_114 : decode prog_12_method_2_code 114 = .ok (.ifCond .lt 18, 3) := by decide +kernel
theorem de_Tr_findRows_117 : decode prog_12_method_2_code 117 = .ok (.aload_n 0, 1) := by decide +kernel
theorem de_Tr_findRows_118 : decode prog_12_method_2_code 118 = .ok (.iload_n 3, 1) := by decide +kernel
theorem de_Tr_findRows_119 : decode prog_12_method_2_code 119 = .ok (.aload_n 1, 1) := by decide +kernel
theorem de_Tr_findRows_120 : decode prog_12_method_2_code 120 = .ok (.getfield 31, 3) := by decide +kernel
theorem de_Tr_findRows_123 : decode prog_12_method_2_code 123 = .ok (.invokevirtual 42, 3) := by decide +kernel
theorem de_Tr_findRows_126 : decode prog_12_method_2_code 126 = .ok (.iinc 3 (-1), 3) := by decide +kernel
theorem de_Tr_findRows_129 : decode prog_12_method_2_code 129 = .ok (.goto (-16), 3) := by decide +kernel
theorem de_Tr_findRows_132 : decode prog_12_method_2_code 132 = .ok (.return_, 1) := by decide +kernel
set_option maxHeartbeats 4000000 in
set_option maxRecDepth 10000 in
theorem li_Tr_findRows {o p : Nat} {f : Int → Int} {x B : Int} {w0 : ab_W} (hI : sg_ok B f) (hs : tz_hs f) (hRb : ri_at_j o f x w0) (hdj : o + 13 ≤ p ∨ p + 6 ≤ o) (hB : B ≤ 29000) (t1 t4 t5 : Int → Int) (hsx : tz_sx f t1) (Q : Option ab_V → ab_W → Prop) (h : Nat) (hh1 : (h : Int) < f 1) (hq : ∀ (t2 t3 : Int → Int) (x3 x4 : Option ab_V) (w : ab_W), tra p t1 t2 t3 t4 t5 w → (∀ h' j : Int, 0 ≤ h' → 0 ≤ j → j < f 1 → (h' < ((h : Int) + 1 : Int) ∨ (h' = ((h : Int) + 1 : Int) ∧ j < (0 : Int))) → t2 (7 * h' + j) = tz_D f (7 * h' + j)) → (∀ h' : Int, 0 ≤ h' → h' < ((h : Int) + 1 : Int) → t3 h' = tz_N f h') → fr_at p 6 w0 w → ab_Ev g_G g_rs mt_Tr_findRows 3 0 0 80 [some (ab_R p), some (ab_R o), some (ab_I (h : Int)), x3, x4] [] w Q) : ∀ (n : Nat) (k : Nat) (t2 t3 : Int → Int) (x4 : Option ab_V) (w : ab_W), (k : Int) ≤ f 1 → f 1 < k + n → tra p t1 t2 t3 t4 t5 w → (∀ h' j : Int, 0 ≤ h' → 0 ≤ j → j < f 1 → (h' < (h : Int) ∨ (h' = (h : Int) ∧ j < (k : Int))) → t2 (7 * h' + j) = tz_D f (7 * h' + j)) → (∀ h' : Int, 0 ≤ h' → h' < (h : Int) → t3 h' = tz_N f h') → ((∃ j : Nat, j < k ∧ tz_sl f (j : Int) = f (46 + (h : Int))) → t3 (h : Int) = tz_N f (h : Int)) → fr_at p 6 w0 w → ab_Ev g_G g_rs mt_Tr_findRows 3 0 0 17 [some (ab_R p), some (ab_R o), some (ab_I (h : Int)), some (ab_I (k : Int)), x4] [] w Q := by
  intro n
  induction n with
  | zero =>
    intro k t2 t3 x4 w
    intro y1 y2 hG gD gN gI hf; omega
  | succ n ih =>
    intro k t2 t3 x4 w
    intro y1 y2 hG gD gN gI hf
    have hRw := rj_fr hRb hf (by omega)
    have hR := hRw
    obtain ⟨sl, fs, vo, li, ra, wo, dh, da, hzz⟩ := hR
    obtain ⟨ds, dn, vw, q0, q1, q2, q3, q4, hzz⟩ := hzz
    obtain ⟨q5, q6, q7, q8, q9, q10, q11, q12, hzz⟩ := hzz
    obtain ⟨e1, e2, e3, e4, e5, e6, e7, e8, e9⟩ := hzz
    obtain ⟨tr0, tr1, tr2, tr3, tr4, tr5⟩ := id hG
    have hb1 := hs.2.1
    refine ev_iload_n de_Tr_findRows_17 rfl rfl ?_
    refine ev_aload_n de_Tr_findRows_18 rfl rfl ?_
    refine ev_getfield de_Tr_findRows_19 q0 fl_Tr_31 rfl ?_
    refine ev_icmp_ge (tgt := 80) de_Tr_findRows_22 (by decide) (by omega) (by omega) (fun h22 => ?_) (fun h22 => ?_)
    · skip
      exact hq _ _ _ _ _ hG (fun a b c d e g => gD a b c d e (by omega)) (fun a b c => by by_cases e : a = (h : Int); (rw [e]; obtain ⟨j, j0, j1⟩ := tz_sl_h hs (x := (h : Int)) (by omega) hh1; exact gI ⟨j, by omega, j1⟩); exact gN a b (by omega)) hf
    · skip
      have sx := hsx (k : Int) (by omega) (by omega)
      have sb := tz_sl_b hs (k := (k : Int)) (by omega) (by omega)
      have z1 := (e1 (h : Int) (by omega) hh1).1
      have z2 := (e2 (h : Int) (by omega) hh1).1
      have z3 := hs.2.2 (46 + (h : Int)) (by omega) (by omega)
      have d3 := tz_D_b hI hB (7 * (h : Int) + (k : Int)) (by omega) (by omega)
      refine ev_aload_n de_Tr_findRows_25 rfl rfl ?_
      refine ev_iload_n de_Tr_findRows_26 rfl rfl ?_
      refine ev_aload_n de_Tr_findRows_27 rfl rfl ?_
      refine ev_getfield de_Tr_findRows_28 tr0 fl_Tr_9 rfl ?_
      refine ev_iload_n de_Tr_findRows_31 rfl rfl ?_
      refine ev_iaload de_Tr_findRows_32 tr1 (by omega) (by omega) (by omega) ?_
      refine ev_top (congrArg Sum.inl sx) ?_
      refine ev_vv (ci := 5) de_Tr_findRows_33 (co_Ri_dayIn_j hI hRw (h : Int) (tz_sl f (k : Int)) (by omega) hh1 sb.1 sb.2) kb_Tr_37 ⟨im_Ri_dayIn, se_Ri_dayIn⟩ rfl q0 rfl (Nat.le_of_ble_eq_true rfl) (by decide) rfl ?_
      refine ev_top (congrArg Sum.inl (show _ = tz_D f (7 * (h : Int) + (k : Int)) from by rw [tz_D_e f (by omega) (by omega)]; exact (pn_day hI (by omega) (by omega) _ 24).symm)) ?_
      refine ev_istore (l' := [_, _, _, _, _]) de_Tr_findRows_36 (Nat.le_of_ble_eq_true rfl) rfl ?_
      refine ev_aload_n de_Tr_findRows_38 rfl rfl ?_
      refine ev_getfield de_Tr_findRows_39 tr0 fl_Tr_15 rfl ?_
      refine ev_iload_n de_Tr_findRows_42 rfl rfl ?_
      refine ev_bipush de_Tr_findRows_43 rfl ?_
      refine ev_imul de_Tr_findRows_45 ?_
      refine ev_iload_n de_Tr_findRows_46 rfl rfl ?_
      refine ev_iadd de_Tr_findRows_47 ?_
      refine ev_top (congrArg Sum.inl (show _ = 7 * (h : Int) + (k : Int) by omega)) ?_
      refine ev_iload de_Tr_findRows_48 rfl ?_
      refine ev_iastore de_Tr_findRows_50 tr2 (by omega) (by omega) (by omega) ?_
      refine ev_gen (P := fun w1 => tra p t1 (ab_up t2 (7 * (h : Int) + (k : Int)) (tz_D f (7 * (h : Int) + (k : Int)))) t3 t4 t5 w1 ∧ fr_at p 6 w0 w1) ⟨tra_2 hG, fr_set hf (by omega) (by omega)⟩ (fun w1 hm1 => ?_)
      obtain ⟨hG, hf⟩ := hm1
      have hRw := rj_fr hRb hf (by omega)
      have hR := hRw
      obtain ⟨sl, fs, vo, li, ra, wo, dh, da, hzz⟩ := hR
      obtain ⟨ds, dn, vw, q0, q1, q2, q3, q4, hzz⟩ := hzz
      obtain ⟨q5, q6, q7, q8, q9, q10, q11, q12, hzz⟩ := hzz
      obtain ⟨e1, e2, e3, e4, e5, e6, e7, e8, e9⟩ := hzz
      obtain ⟨tr0, tr1, tr2, tr3, tr4, tr5⟩ := id hG
      have gD : (∀ h' j : Int, 0 ≤ h' → 0 ≤ j → j < f 1 → (h' < ((h : Int) : Int) ∨ (h' = ((h : Int) : Int) ∧ j < ((k : Int) + 1 : Int))) → (ab_up t2 (7 * (h : Int) + (k : Int)) (tz_D f (7 * (h : Int) + (k : Int)))) (7 * h' + j) = tz_D f (7 * h' + j)) := fun a b c d e g => by
        by_cases z : 7 * a + b = 7 * (h : Int) + (k : Int)
        · rw [z, ab_upe]
        · rw [ab_upn _ _ z]; exact gD a b c d e (by omega)
      have z1 := (e1 (h : Int) (by omega) hh1).1
      have z2 := (e2 (h : Int) (by omega) hh1).1
      refine ev_aload_n de_Tr_findRows_51 rfl rfl ?_
      refine ev_getfield de_Tr_findRows_52 tr0 fl_Tr_9 rfl ?_
      refine ev_iload_n de_Tr_findRows_55 rfl rfl ?_
      refine ev_iaload de_Tr_findRows_56 tr1 (by omega) (by omega) (by omega) ?_
      refine ev_top (congrArg Sum.inl sx) ?_
      refine ev_aload_n de_Tr_findRows_57 rfl rfl ?_
      refine ev_getfield de_Tr_findRows_58 q0 fl_Tr_41 rfl ?_
      refine ev_iload_n de_Tr_findRows_61 rfl rfl ?_
      refine ev_iaload de_Tr_findRows_62 q1 (by omega) (by omega) (by omega) ?_
      refine ev_icmp_ne (tgt := 74) de_Tr_findRows_63 (by decide) (by omega) (by omega) (fun h63 => ?_) (fun h63 => ?_)
      · skip
        have gI : ((∃ j : Nat, j < k + 1 ∧ tz_sl f (j : Int) = f (46 + (h : Int))) → t3 (h : Int) = tz_N f (h : Int)) := fun ⟨j, j0, j1⟩ => by
          by_cases z : j = k
          · exact absurd (by rw [← z]; exact j1) (fun y : tz_sl f (k : Int) = f (46 + (h : Int)) => h63 (by omega))
          · exact gI ⟨j, by omega, j1⟩
        refine ev_iinc (l' := [_, _, _, _, _]) de_Tr_findRows_74 rfl rfl ?_
        refine ev_goto (tgt := 17) de_Tr_findRows_77 (by decide) ?_
        exact ih (k + 1) _ _ _ _ (by omega) (by omega) hG gD gN gI hf
      · skip
        have eq9 : tz_sl f (k : Int) = f (46 + (h : Int)) := by omega
        have eN : tz_D f (7 * (h : Int) + (k : Int)) = tz_N f (h : Int) := by
          rw [tz_D_e f (by omega) (by omega), eq9]
          rfl
        refine ev_aload_n de_Tr_findRows_66 rfl rfl ?_
        refine ev_getfield de_Tr_findRows_67 tr0 fl_Tr_18 rfl ?_
        refine ev_iload_n de_Tr_findRows_70 rfl rfl ?_
        refine ev_iload de_Tr_findRows_71 rfl ?_
        refine ev_iastore de_Tr_findRows_73 tr3 (by omega) (by omega) (by omega) ?_
        refine ev_gen (P := fun w1 => tra p t1 (ab_up t2 (7 * (h : Int) + (k : Int)) (tz_D f (7 * (h : Int) + (k : Int)))) (ab_up t3 (h : Int) (tz_D f (7 * (h : Int) + (k : Int)))) t4 t5 w1 ∧ fr_at p 6 w0 w1) ⟨tra_3 hG, fr_set hf (by omega) (by omega)⟩ (fun w1 hm1 => ?_)
        obtain ⟨hG, hf⟩ := hm1
        have hRw := rj_fr hRb hf (by omega)
        have hR := hRw
        obtain ⟨sl, fs, vo, li, ra, wo, dh, da, hzz⟩ := hR
        obtain ⟨ds, dn, vw, q0, q1, q2, q3, q4, hzz⟩ := hzz
        obtain ⟨q5, q6, q7, q8, q9, q10, q11, q12, hzz⟩ := hzz
        obtain ⟨e1, e2, e3, e4, e5, e6, e7, e8, e9⟩ := hzz
        obtain ⟨tr0, tr1, tr2, tr3, tr4, tr5⟩ := id hG
        have gN : (∀ h' : Int, 0 ≤ h' → h' < (h : Int) → (ab_up t3 (h : Int) (tz_D f (7 * (h : Int) + (k : Int)))) h' = tz_N f h') := fun a b c => by rw [ab_upn _ _ (by omega)]; exact gN a b c
        have gI : ((∃ j : Nat, j < k + 1 ∧ tz_sl f (j : Int) = f (46 + (h : Int))) → (ab_up t3 (h : Int) (tz_D f (7 * (h : Int) + (k : Int)))) (h : Int) = tz_N f (h : Int)) := fun _ => (ab_upe _ _ _).trans eN
        refine ev_iinc (l' := [_, _, _, _, _]) de_Tr_findRows_74 rfl rfl ?_
        refine ev_goto (tgt := 17) de_Tr_findRows_77 (by decide) ?_
        exact ih (k + 1) _ _ _ _ (by omega) (by omega) hG gD gN gI hf
set_option maxHeartbeats 4000000 in
set_option maxRecDepth 10000 in
theorem lh_Tr_findRows {o p : Nat} {f : Int → Int} {x B : Int} {w0 : ab_W} (hI : sg_ok B f) (hs : tz_hs f) (hRb : ri_at_j o f x w0) (hdj : o + 13 ≤ p ∨ p + 6 ≤ o) (hB : B ≤ 29000) (t1 t4 t5 : Int → Int) (hsx : tz_sx f t1) (Q : Option ab_V → ab_W → Prop) (hq : ∀ (t2 t3 : Int → Int) (x2 x3 x4 : Option ab_V) (w : ab_W), tra p t1 t2 t3 t4 t5 w → tz_dx f t2 → tz_nx f t3 → fr_at p 6 w0 w → ab_Ev g_G g_rs mt_Tr_findRows 3 0 0 86 [some (ab_R p), some (ab_R o), x2, x3, x4] [] w Q) : ∀ (n : Nat) (h : Nat) (t2 t3 : Int → Int) (x3 x4 : Option ab_V) (w : ab_W), (h : Int) ≤ f 1 → f 1 < h + n → tra p t1 t2 t3 t4 t5 w → (∀ h' j : Int, 0 ≤ h' → 0 ≤ j → j < f 1 → (h' < (h : Int) ∨ (h' = (h : Int) ∧ j < (0 : Int))) → t2 (7 * h' + j) = tz_D f (7 * h' + j)) → (∀ h' : Int, 0 ≤ h' → h' < (h : Int) → t3 h' = tz_N f h') → fr_at p 6 w0 w → ab_Ev g_G g_rs mt_Tr_findRows 3 0 0 7 [some (ab_R p), some (ab_R o), some (ab_I (h : Int)), x3, x4] [] w Q := by
  intro n
  induction n with
  | zero =>
    intro h t2 t3 x3 x4 w
    intro y1 y2 hG gD gN hf; omega
  | succ n ih =>
    intro h t2 t3 x3 x4 w
    intro y1 y2 hG gD gN hf
    have hRw := rj_fr hRb hf (by omega)
    have hR := hRw
    obtain ⟨sl, fs, vo, li, ra, wo, dh, da, hzz⟩ := hR
    obtain ⟨ds, dn, vw, q0, q1, q2, q3, q4, hzz⟩ := hzz
    obtain ⟨q5, q6, q7, q8, q9, q10, q11, q12, hzz⟩ := hzz
    obtain ⟨e1, e2, e3, e4, e5, e6, e7, e8, e9⟩ := hzz
    obtain ⟨tr0, tr1, tr2, tr3, tr4, tr5⟩ := id hG
    have hb1 := hs.2.1
    refine ev_iload_n de_Tr_findRows_7 rfl rfl ?_
    refine ev_aload_n de_Tr_findRows_8 rfl rfl ?_
    refine ev_getfield de_Tr_findRows_9 q0 fl_Tr_31 rfl ?_
    refine ev_icmp_ge (tgt := 86) de_Tr_findRows_12 (by decide) (by omega) (by omega) (fun h12 => ?_) (fun h12 => ?_)
    · skip
      exact hq _ _ _ _ _ _ hG (fun a b c d e g => gD a b c e g (by omega)) (fun a b c => gN a b (by omega)) hf
    · skip
      refine ev_iconst de_Tr_findRows_15 ?_
      refine ev_istore_n (l' := [_, _, _, _, _]) de_Tr_findRows_16 rfl (Nat.le_of_ble_eq_true rfl) rfl ?_
      refine li_Tr_findRows hI hs hRb hdj hB t1 t4 t5 hsx Q h (by omega) (fun t2 t3 x3 x4 w hG gD gN hf => ?_) 9 0 t2 t3 x4 w (by omega) (by omega) hG gD gN (fun ⟨j, j0, _⟩ => absurd j0 (by omega)) hf
      refine ev_iinc (l' := [_, _, _, _, _]) de_Tr_findRows_80 rfl rfl ?_
      refine ev_goto (tgt := 7) de_Tr_findRows_83 (by decide) ?_
      exact ih (h + 1) _ _ _ _ _ (by omega) (by omega) hG gD gN hf
set_option maxHeartbeats 4000000 in
set_option maxRecDepth 10000 in
theorem lc_Tr_findRows {o p : Nat} {f : Int → Int} {x B : Int} {w0 : ab_W} (hI : sg_ok B f) (hs : tz_hs f) (hRb : ri_at_j o f x w0) (hdj : o + 13 ≤ p ∨ p + 6 ≤ o) (hB : B ≤ 29000) (n : Nat) (hn : (n : Int) = f 1) (t1 t2 t3 : Int → Int) (hsx : tz_sx f t1) (hD : tz_dx f t2) (hN : tz_nx f t3) (a2 : Int) (x4 : Option ab_V) : ∀ (n0 : Nat) (c : Nat) (t4 t5 : Int → Int) (w : ab_W), c < 2 ^ n → c < n0 → tra p t1 t2 t3 t4 t5 w → (∀ t : Nat, c ≤ t → t < 2 ^ n → wmo f t4 t5 t) → fr_at p 6 w0 w → ab_Ev g_G g_rs mt_Tr_findRows 3 0 0 113 [some (ab_R p), some (ab_R o), some (ab_I a2), some (ab_I ((c : Int) - 1)), x4] [] w (fun r w2 => r = none ∧ (∃ t1 t2 t3 t4 t5 : Int → Int, tra p t1 t2 t3 t4 t5 w2 ∧ tz_sx f t1 ∧ tz_dx f t2 ∧ tz_nx f t3 ∧ ∀ t : Nat, t < 2 ^ n → wmo f t4 t5 t) ∧ fr_at p 6 w0 w2) := by
  intro n0
  induction n0 with
  | zero =>
    intro c t4 t5 w
    intro y1 y2 hG hA hf; omega
  | succ n0 ih =>
    intro c t4 t5 w
    intro y1 y2 hG hA hf
    have hRw := rj_fr hRb hf (by omega)
    have hR := hRw
    obtain ⟨sl, fs, vo, li, ra, wo, dh, da, hzz⟩ := hR
    obtain ⟨ds, dn, vw, q0, q1, q2, q3, q4, hzz⟩ := hzz
    obtain ⟨q5, q6, q7, q8, q9, q10, q11, q12, hzz⟩ := hzz
    obtain ⟨e1, e2, e3, e4, e5, e6, e7, e8, e9⟩ := hzz
    obtain ⟨tr0, tr1, tr2, tr3, tr4, tr5⟩ := id hG
    have hb1 := hs.2.1
    have l2 := tz_2n (n := n) (by omega)
    refine ev_iload_n de_Tr_findRows_113 rfl rfl ?_
    refine ev_if_lt (tgt := 132) de_Tr_findRows_114 (by decide) (by omega) (fun h114 => ?_) (fun h114 => ?_)
    · skip
      have ec : c = 0 := by omega
      subst ec
      exact ev_return de_Tr_findRows_132 rfl ⟨rfl, ⟨_, _, _, _, _, hG, hsx, hD, hN, fun t a => hA t (Nat.zero_le _) a⟩, hf⟩
    · skip
      obtain ⟨d, rfl⟩ : ∃ d : Nat, c = d + 1 := ⟨c - 1, by omega⟩
      refine ev_loc (l2 := [some (ab_R p), some (ab_R o), some (ab_I a2), some (ab_I (d : Int)), x4]) (by rw [show ((d + 1 : Nat) : Int) - 1 = (d : Int) by omega]) ?_
      have pl := pc_lt n (by omega) d (by omega)
      refine ev_aload_n de_Tr_findRows_117 rfl rfl ?_
      refine ev_iload_n de_Tr_findRows_118 rfl rfl ?_
      refine ev_aload_n de_Tr_findRows_119 rfl rfl ?_
      refine ev_getfield de_Tr_findRows_120 q0 fl_Tr_31 rfl ?_
      refine ev_virtual (ci := 9) (mc := 0) (ms := 0) (bc := 0) (bs := 0) de_Tr_findRows_123 (co_Tr_weighSet hI hs hRw hdj hB n hn t1 t2 t3 hD hN d (n - tz_pc d - 1) (by omega) (by omega) (by omega) hG (fun t a b => hA t (by omega) b)) kb_Tr_42 ⟨im_Tr_weighSet, se_Tr_weighSet⟩ rfl tr0 rfl (Nat.le_of_ble_eq_true rfl) (by decide) (Or.inl (fun r w1 h => h.2.2.1)) (fun r1 w1 hm1 => ?_)
      obtain ⟨rfl, ⟨t4n, t5n, hG, hA⟩, hf1⟩ := hm1
      · skip
        have hf := fr_tr hf hf1
        refine ev_iinc (l' := [_, _, _, _, _]) de_Tr_findRows_126 rfl rfl ?_
        refine ev_goto (tgt := 113) de_Tr_findRows_129 (by decide) ?_
        refine ev_loc (l2 := [some (ab_R p), some (ab_R o), some (ab_I a2), some (ab_I ((d : Int) - 1)), x4]) (by rw [show (d : Int) + -1 = (d : Int) - 1 by omega]) ?_
        exact ih d _ _ _ (by omega) (by omega) hG hA hf
set_option maxHeartbeats 4000000 in
set_option maxRecDepth 10000 in
theorem co_Tr_findRows {o p : Nat} {f : Int → Int} {x B : Int} {w0 : ab_W} (hI : sg_ok B f) (hs : tz_hs f) (hRb : ri_at_j o f x w0) (hdj : o + 13 ≤ p ∨ p + 6 ≤ o) (hB : B ≤ 29000) (n : Nat) (hn : (n : Int) = f 1) {t1 t2 t3 t4 t5 : Int → Int} (hG : tra p t1 t2 t3 t4 t5 w0) : ab_Mt g_G g_rs mt_Tr_findRows 3 0 0 [ab_R p, ab_R o] w0 (fun r w2 => r = none ∧ (∃ t1 t2 t3 t4 t5 : Int → Int, tra p t1 t2 t3 t4 t5 w2 ∧ tz_sx f t1 ∧ tz_dx f t2 ∧ tz_nx f t3 ∧ ∀ t : Nat, t < 2 ^ n → wmo f t4 t5 t) ∧ fr_at p 6 w0 w2) := by
  have hb1 := hs.2.1
  have l2 := tz_2n (n := n) (by omega)
  obtain ⟨tr0, tr1, tr2, tr3, tr4, tr5⟩ := id hG
  have hR := hRb
  obtain ⟨sl, fs, vo, li, ra, wo, dh, da, hzz⟩ := hR
  obtain ⟨ds, dn, vw, q0, q1, q2, q3, q4, hzz⟩ := hzz
  obtain ⟨q5, q6, q7, q8, q9, q10, q11, q12, hzz⟩ := hzz
  obtain ⟨e1, e2, e3, e4, e5, e6, e7, e8, e9⟩ := hzz
  refine ab_Mt.of rfl (Nat.le_of_ble_eq_true rfl) ?_
  show ab_Ev g_G g_rs mt_Tr_findRows _ _ _ 0 [some (ab_R p), some (ab_R o), none, none, none] [] _ _
  refine ev_aload_n de_Tr_findRows_0 rfl rfl ?_
  refine ev_aload_n de_Tr_findRows_1 rfl rfl ?_
  refine ev_virtual (ci := 9) (mc := 0) (ms := 0) (bc := 0) (bs := 0) de_Tr_findRows_2 (co_Tr_sortSlots hI hs hRb hdj hG) kb_Tr_27 ⟨im_Tr_sortSlots, se_Tr_sortSlots⟩ rfl tr0 rfl (Nat.le_of_ble_eq_true rfl) (by decide) (Or.inl (fun r w1 h => h.2.2.1)) (fun r1 w1 hm1 => ?_)
  obtain ⟨rfl, ⟨t1n, hG, hsx⟩, hf⟩ := hm1
  · skip
    refine ev_iconst de_Tr_findRows_5 ?_
    refine ev_istore_n (l' := [_, _, _, _, _]) de_Tr_findRows_6 rfl (Nat.le_of_ble_eq_true rfl) rfl ?_
    refine lh_Tr_findRows hI hs hRb hdj hB t1n t4 t5 hsx _ (fun t2 t3 x2 x3 x4 w hG hD hN hf => ?_) 9 0 t2 t3 _ _ _ (by omega) (by omega) hG (fun a b c d e g => by omega) (fun a b c => by omega) hf
    have hRw := rj_fr hRb hf (by omega)
    have hR := hRw
    obtain ⟨sl, fs, vo, li, ra, wo, dh, da, hzz⟩ := hR
    obtain ⟨ds, dn, vw, q0, q1, q2, q3, q4, hzz⟩ := hzz
    obtain ⟨q5, q6, q7, q8, q9, q10, q11, q12, hzz⟩ := hzz
    obtain ⟨e1, e2, e3, e4, e5, e6, e7, e8, e9⟩ := hzz
    obtain ⟨tr0, tr1, tr2, tr3, tr4, tr5⟩ := id hG
    refine ev_iconst de_Tr_findRows_86 ?_
    refine ev_aload_n de_Tr_findRows_87 rfl rfl ?_
    refine ev_getfield de_Tr_findRows_88 q0 fl_Tr_31 rfl ?_
    refine ev_ishl de_Tr_findRows_91 (by omega) (by omega) ?_
    have ep : (1 * 2 ^ (f 1).toNat : Int) = ((2 ^ n : Nat) : Int) := by rw [ab_pw, show (f 1).toNat = n by omega]
    refine ev_top (congrArg Sum.inl ep) ?_
    have pp : 0 < 2 ^ n := Nat.pow_pos (by decide)
    refine ev_iconst de_Tr_findRows_92 ?_
    refine ev_isub de_Tr_findRows_93 ?_
    refine ev_istore_n (l' := [_, _, _, _, _]) de_Tr_findRows_94 rfl (Nat.le_of_ble_eq_true rfl) rfl ?_
    refine ev_aload_n de_Tr_findRows_95 rfl rfl ?_
    refine ev_getfield de_Tr_findRows_96 tr0 fl_Tr_21 rfl ?_
    refine ev_iload_n de_Tr_findRows_99 rfl rfl ?_
    refine ev_iconst de_Tr_findRows_100 ?_
    refine ev_iastore de_Tr_findRows_101 tr4 (by omega) (by omega) (by omega) ?_
    refine ev_gen (P := fun w1 => tra p t1n t2 t3 (ab_up t4 (((2 ^ n : Nat) : Int) - 1) 1) t5 w1 ∧ fr_at p 6 w0 w1) ⟨tra_4 hG, fr_set hf (by omega) (by omega)⟩ (fun w1 hm1 => ?_)
    obtain ⟨hG, hf⟩ := hm1
    have hRw := rj_fr hRb hf (by omega)
    have hR := hRw
    obtain ⟨sl, fs, vo, li, ra, wo, dh, da, hzz⟩ := hR
    obtain ⟨ds, dn, vw, q0, q1, q2, q3, q4, hzz⟩ := hzz
    obtain ⟨q5, q6, q7, q8, q9, q10, q11, q12, hzz⟩ := hzz
    obtain ⟨e1, e2, e3, e4, e5, e6, e7, e8, e9⟩ := hzz
    obtain ⟨tr0, tr1, tr2, tr3, tr4, tr5⟩ := id hG
    refine ev_aload_n de_Tr_findRows_102 rfl rfl ?_
    refine ev_getfield de_Tr_findRows_103 tr0 fl_Tr_24 rfl ?_
    refine ev_iload_n de_Tr_findRows_106 rfl rfl ?_
    refine ev_iconst de_Tr_findRows_107 ?_
    refine ev_iastore de_Tr_findRows_108 tr5 (by omega) (by omega) (by omega) ?_
    refine ev_gen (P := fun w1 => tra p t1n t2 t3 (ab_up t4 (((2 ^ n : Nat) : Int) - 1) 1) (ab_up t5 (((2 ^ n : Nat) : Int) - 1) 0) w1 ∧ fr_at p 6 w0 w1) ⟨tra_5 hG, fr_set hf (by omega) (by omega)⟩ (fun w1 hm1 => ?_)
    obtain ⟨hG, hf⟩ := hm1
    have hRw := rj_fr hRb hf (by omega)
    have hR := hRw
    obtain ⟨sl, fs, vo, li, ra, wo, dh, da, hzz⟩ := hR
    obtain ⟨ds, dn, vw, q0, q1, q2, q3, q4, hzz⟩ := hzz
    obtain ⟨q5, q6, q7, q8, q9, q10, q11, q12, hzz⟩ := hzz
    obtain ⟨e1, e2, e3, e4, e5, e6, e7, e8, e9⟩ := hzz
    obtain ⟨tr0, tr1, tr2, tr3, tr4, tr5⟩ := id hG
    refine ev_iload_n de_Tr_findRows_109 rfl rfl ?_
    refine ev_iconst de_Tr_findRows_110 ?_
    refine ev_isub de_Tr_findRows_111 ?_
    refine ev_istore_n (l' := [_, _, _, _, _]) de_Tr_findRows_112 rfl (Nat.le_of_ble_eq_true rfl) rfl ?_
    refine ev_loc (l2 := [some (ab_R p), some (ab_R o), some (ab_I (((2 ^ n : Nat) : Int) - 1)), some (ab_I (((2 ^ n - 1 : Nat) : Int) - 1)), x4]) (by rw [show ((2 ^ n - 1 : Nat) : Int) - 1 = ((2 ^ n : Nat) : Int) - 1 - 1 by omega]) ?_
    refine lc_Tr_findRows hI hs hRb hdj hB n hn t1n t2 t3 hsx hD hN _ _ (2 ^ n) (2 ^ n - 1) _ _ _ (by omega) (by omega) hG (fun t a b => ?_) hf
    have et : t = 2 ^ n - 1 := by omega
    subst et
    unfold wmo
    rw [pc_al n (by omega), show (f 1).toNat = n by omega, Nat.sub_self, show ((2 ^ n - 1 : Nat) : Int) = ((2 ^ n : Nat) : Int) - 1 by omega, ab_upe, ab_upe]
    exact ⟨rfl, fun _ => rfl⟩
theorem de_Tr_firstChoice_0 : decode prog_12_method_8_code 0 = .ok (.iconst 0, 1) := by decide +kernel
theorem de_Tr_firstChoice_1 : decode prog_12_method_8_code 1 = .ok (.istore 4, 2) := by decide +kernel
theorem de_Tr_firstChoice_3 : decode prog_12_method_8_code 3 = .ok (.iload 4, 2) := by decide +kernel
theorem de_Tr_firstChoice_5 : decode prog_12_method_8_code 5 = .ok (.iload_n 3, 1) := by decide +kernel
theorem de_Tr_firstChoice_6 : decode prog_12_method_8_code 6 = .ok (.if_icmp .ge 40, 3) := by decide +kernel
theorem de_Tr_firstChoice_9 : decode prog_12_method_8_code 9 = .ok (.aload_n 0, 1) := by decide +kernel
theorem de_Tr_firstChoice_10 : decode prog_12_method_8_code 10 = .ok (.iload_n 1, 1) := by decide +kernel
theorem de_Tr_firstChoice_11 : decode prog_12_method_8_code 11 = .ok (.iload 4, 2) := by decide +kernel
theorem de_Tr_firstChoice_13 : decode prog_12_method_8_code 13 = .ok (.iload_n 2, 1) := by decide +kernel
theorem de_Tr_firstChoice_14 : decode prog_12_method_8_code 14 = .ok (.invokevirtual 56, 3) := by decide +kernel
theorem de_Tr_firstChoice_17 : decode prog_12_method_8_code 17 = .ok (.ifCond .eq 23, 3) := by decide +kernel
theorem de_Tr_firstChoice_20 : decode prog_12_method_8_code 20 = .ok (.aload_n 0, 1) := by decide +kernel
theorem de_Tr_firstChoice_21 : decode prog_12_method_8_code 21 = .ok (.iload_n 1, 1) := by decide +kernel
theorem de_Tr_firstChoice_22 : decode prog_12_method_8_code 22 = .ok (.iload 4, 2) := by decide +kernel
theorem de_Tr_firstChoice_24 : decode prog_12_method_8_code 24 = .ok (.iload_n 2, 1) := by decide +kernel
theorem de_Tr_firstChoice_25 : decode prog_12_method_8_code 25 = .ok (.invokevirtual 60, 3) := by decide +kernel
theorem de_Tr_firstChoice_28 : decode prog_12_method_8_code 28 = .ok (.aload_n 0, 1) := by decide +kernel
theorem de_Tr_firstChoice_29 : decode prog_12_method_8_code 29 = .ok (.getfield 24, 3) := by decide +kernel
theorem de_Tr_firstChoice_32 : decode prog_12_method_8_code 32 = .ok (.iload_n 2, 1) := by decide +kernel
theorem de_Tr_firstChoice_33 : decode prog_12_method_8_code 33 = .ok (.iaload, 1) := by decide +kernel
theorem de_Tr_firstChoice_34 : decode prog_12_method_8_code 34 = .ok (.if_icmp .ne 6, 3) := by decide +kernel
theorem de_Tr_firstChoice_37 : decode prog_12_method_8_code 37 = .ok (.iload 4, 2) := by decide +kernel
theorem de_Tr_firstChoice_39 : decode prog_12_method_8_code 39 = .ok (.ireturn, 1) := by decide +kernel
theorem de_Tr_firstChoice_40 : decode prog_12_method_8_code 40 = .ok (.iinc 4 1, 3) := by decide +kernel
theorem de_Tr_firstChoice_43 : decode prog_12_method_8_code 43 = .ok (.goto (-40), 3) := by decide +kernel
set_option maxHeartbeats 4000000 in
set_option maxRecDepth 10000 in
theorem lo_Tr_firstChoice {p : Nat} {f : Int → Int} {B : Int} {w : ab_W} (hI : sg_ok B f) (hs : tz_hs f) (hB : B ≤ 29000) (n : Nat) (hn : (n : Int) = f 1) {t1 t2 t3 t4 t5 : Int → Int} (hsx : tz_sx f t1) (hD : tz_dx f t2) (hN : tz_nx f t3) (hA : ∀ t : Nat, t < 2 ^ n → wmo f t4 t5 t) (hG : tra p t1 t2 t3 t4 t5 w) (u m : Nat) (hm : tz_pc u + (m + 1) = n) (hu : u < 2 ^ n) (hpos : 0 < (tz_p (tz_D f) (tz_N f) n (m + 1) u).1) : ∀ (n0 : Nat) (k : Nat), k ≤ (tz_p (tz_D f) (tz_N f) n (m + 1) u).2.2 → (tz_p (tz_D f) (tz_N f) n (m + 1) u).2.2 < k + n0 → ab_Ev g_G g_rs mt_Tr_firstChoice 1 0 0 3 [some (ab_R p), some (ab_I (tz_pc u : Int)), some (ab_I (u : Int)), some (ab_I (f 1)), some (ab_I (k : Int))] [] w (ab_is (some (ab_I (((tz_p (tz_D f) (tz_N f) n (m + 1) u).2.2 : Int)))) w) := by
  intro n0
  induction n0 with
  | zero =>
    intro k
    intro y1 y2; omega
  | succ n0 ih =>
    intro k
    intro y1 y2
    obtain ⟨tr0, tr1, tr2, tr3, tr4, tr5⟩ := id hG
    have hb1 := hs.2.1
    have l2 := tz_2n (n := n) (by omega)
    have e1n : n = (f 1).toNat := by omega
    have pbm := tz_p_b (D := tz_D f) (N := tz_N f) (n := n) (by omega) (tz_D_b hI hB) m (by omega)
    have pbu := tz_p_b (D := tz_D f) (N := tz_N f) (n := n) (by omega) (tz_D_b hI hB) (m + 1) (by omega) u
    have p7 : 7 ^ m ≤ 7 ^ 7 := Nat.pow_le_pow_right (by decide) (by omega)
    have p7b : (7 : Nat) ^ 7 = 823543 := rfl
    have fi : (tz_p (tz_D f) (tz_N f) n (m + 1) u).2.2 < n ∧ tz_v (tz_D f) (tz_N f) (tz_pc u : Int) u (tz_p (tz_D f) (tz_N f) n m) (tz_p (tz_D f) (tz_N f) n (m + 1) u).2.2 ∧ tz_w (tz_D f) (tz_pc u : Int) u (tz_p (tz_D f) (tz_N f) n m) (tz_p (tz_D f) (tz_N f) n (m + 1) u).2.2 = (tz_p (tz_D f) (tz_N f) n (m + 1) u).2.1 ∧ (∀ j : Nat, j < (tz_p (tz_D f) (tz_N f) n (m + 1) u).2.2 → tz_v (tz_D f) (tz_N f) (tz_pc u : Int) u (tz_p (tz_D f) (tz_N f) n m) j → tz_w (tz_D f) (tz_pc u : Int) u (tz_p (tz_D f) (tz_N f) n m) j < (tz_p (tz_D f) (tz_N f) n (m + 1) u).2.1) := by
      have q := (tz_fi (tz_D f) (tz_N f) ((n : Int) - ((m + 1 : Nat) : Int)) u (tz_p (tz_D f) (tz_N f) n m) n).2.2 hpos
      rw [show (n : Int) - ((m + 1 : Nat) : Int) = (tz_pc u : Int) by omega] at q
      have e : tz_fo (tz_D f) (tz_N f) (tz_pc u : Int) u (tz_p (tz_D f) (tz_N f) n m) n = tz_p (tz_D f) (tz_N f) n (m + 1) u := by
        show _ = tz_fo (tz_D f) (tz_N f) ((n : Int) - ((m + 1 : Nat) : Int)) u (tz_p (tz_D f) (tz_N f) n m) n
        rw [show (n : Int) - ((m + 1 : Nat) : Int) = (tz_pc u : Int) by omega]
      rw [e] at q
      exact ⟨q.1, q.2.1, q.2.2.1, q.2.2.2.1⟩
    have am := hA u hu
    unfold wmo at am
    rw [← e1n, show n - tz_pc u = m + 1 by omega] at am
    have am5 := am.2 (by rw [am.1]; exact hpos)
    refine ev_iload de_Tr_firstChoice_3 rfl ?_
    refine ev_iload_n de_Tr_firstChoice_5 rfl rfl ?_
    refine ev_icmp_ge (tgt := 46) de_Tr_firstChoice_6 (by decide) (by omega) (by omega) (fun h6 => ?_) (fun h6 => ?_)
    · exact absurd h6 (by have := fi.1; omega)
    · skip
      have d1 := hD (tz_pc u : Int) (k : Int) (by omega) (by omega) (by omega) (by omega)
      have d2 := hN (tz_pc u : Int) (by omega) (by omega)
      have d3 := tz_D_b hI hB (7 * (tz_pc u : Int) + (k : Int)) (by omega) (by omega)
      have d4 := tz_N_b hI hB (h := (tz_pc u : Int)) (by omega) (by omega)
      have vb : u.testBit k = false → _ := fun z => wm_v e1n (by omega) hm hu (show k < n by omega) z (fun t a b => hA t b)
      have pv := pbm (u ||| 2 ^ k)
      refine ev_aload_n de_Tr_firstChoice_9 rfl rfl ?_
      refine ev_iload_n de_Tr_firstChoice_10 rfl rfl ?_
      refine ev_iload de_Tr_firstChoice_11 rfl ?_
      refine ev_iload_n de_Tr_firstChoice_13 rfl rfl ?_
      refine ev_vv (ci := 9) de_Tr_firstChoice_14 (co_Tr_mayTake hG (tz_pc u : Int) (by omega) (by omega) k (by omega) u (by omega) d1 d2 d3 d4 (fun z => by rw [(vb z).1]; constructor <;> omega)) kb_Tr_56 ⟨im_Tr_mayTake, se_Tr_mayTake⟩ rfl tr0 rfl (Nat.le_of_ble_eq_true rfl) (by decide) rfl ?_
      refine ev_if_eq (tgt := 40) de_Tr_firstChoice_17 (by decide) (by first | omega | (split <;> decide)) (fun h17 => ?_) (fun h17 => ?_)
      · skip
        have nv : ¬ (tz_ok (tz_D f) (tz_N f) (tz_pc u : Int) u k = true ∧ 0 < t4 ((u ||| 2 ^ k : Nat) : Int)) := fun z => by rw [if_pos z] at h17; omega
        have nk : ¬ k = (tz_p (tz_D f) (tz_N f) n (m + 1) u).2.2 := fun z => nv (by have v := fi.2.1; rw [← z] at v; exact ⟨v.1, by rw [(vb (tz_ok_i.mp v.1).1).1]; exact v.2⟩)
        refine ev_iinc (l' := [_, _, _, _, _]) de_Tr_firstChoice_40 rfl rfl ?_
        refine ev_goto (tgt := 3) de_Tr_firstChoice_43 (by decide) ?_
        exact ih (k + 1) (by omega) (by omega)
      · skip
        have yv : tz_ok (tz_D f) (tz_N f) (tz_pc u : Int) u k = true ∧ 0 < t4 ((u ||| 2 ^ k : Nat) : Int) := Decidable.byContradiction (fun z => by rw [if_neg z] at h17; exact h17 rfl)
        have vb := vb (tz_ok_i.mp yv.1).1
        have v5 := vb.2 yv.2
        have vv : tz_v (tz_D f) (tz_N f) (tz_pc u : Int) u (tz_p (tz_D f) (tz_N f) n m) k := ⟨yv.1, by rw [← vb.1]; exact yv.2⟩
        refine ev_aload_n de_Tr_firstChoice_20 rfl rfl ?_
        refine ev_iload_n de_Tr_firstChoice_21 rfl rfl ?_
        refine ev_iload de_Tr_firstChoice_22 rfl ?_
        refine ev_iload_n de_Tr_firstChoice_24 rfl rfl ?_
        refine ev_vv (ci := 9) de_Tr_firstChoice_25 (co_Tr_sumWith (f := f) hG (tz_pc u : Int) (by omega) (by omega) k (by omega) u (by omega) d1) kb_Tr_60 ⟨im_Tr_sumWith, se_Tr_sumWith⟩ rfl tr0 rfl (Nat.le_of_ble_eq_true rfl) (by decide) rfl ?_
        refine ev_top (congrArg Sum.inl (show _ = tz_w (tz_D f) (tz_pc u : Int) u (tz_p (tz_D f) (tz_N f) n m) k from by rw [v5]; rfl)) ?_
        have wb : -100000 ≤ tz_w (tz_D f) (tz_pc u : Int) u (tz_p (tz_D f) (tz_N f) n m) k ∧ tz_w (tz_D f) (tz_pc u : Int) u (tz_p (tz_D f) (tz_N f) n m) k ≤ 100000 := by unfold tz_w; omega
        refine ev_aload_n de_Tr_firstChoice_28 rfl rfl ?_
        refine ev_getfield de_Tr_firstChoice_29 tr0 fl_Tr_24 rfl ?_
        refine ev_iload_n de_Tr_firstChoice_32 rfl rfl ?_
        refine ev_iaload de_Tr_firstChoice_33 tr5 (by omega) (by omega) (by omega) ?_
        refine ev_top (congrArg Sum.inl am5) ?_
        refine ev_icmp_ne (tgt := 40) de_Tr_firstChoice_34 (by decide) (by omega) (by omega) (fun h34 => ?_) (fun h34 => ?_)
        · skip
          have nk : ¬ k = (tz_p (tz_D f) (tz_N f) n (m + 1) u).2.2 := fun z => h34 (by rw [z]; exact fi.2.2.1)
          refine ev_iinc (l' := [_, _, _, _, _]) de_Tr_firstChoice_40 rfl rfl ?_
          refine ev_goto (tgt := 3) de_Tr_firstChoice_43 (by decide) ?_
          exact ih (k + 1) (by omega) (by omega)
        · skip
          have ek : k = (tz_p (tz_D f) (tz_N f) n (m + 1) u).2.2 := by
            rcases Nat.lt_or_ge k (tz_p (tz_D f) (tz_N f) n (m + 1) u).2.2 with z | z
            · have := fi.2.2.2 k z vv
              omega
            · omega
          refine ev_iload de_Tr_firstChoice_37 rfl ?_
          exact ev_ireturn de_Tr_firstChoice_39 rfl ⟨congrArg (fun z => some (ab_I z)) (by rw [← ek]), rfl⟩
set_option maxHeartbeats 4000000 in
set_option maxRecDepth 10000 in
theorem co_Tr_firstChoice {p : Nat} {f : Int → Int} {B : Int} {w : ab_W} (hI : sg_ok B f) (hs : tz_hs f) (hB : B ≤ 29000) (n : Nat) (hn : (n : Int) = f 1) {t1 t2 t3 t4 t5 : Int → Int} (hsx : tz_sx f t1) (hD : tz_dx f t2) (hN : tz_nx f t3) (hA : ∀ t : Nat, t < 2 ^ n → wmo f t4 t5 t) (hG : tra p t1 t2 t3 t4 t5 w) (u m : Nat) (hm : tz_pc u + (m + 1) = n) (hu : u < 2 ^ n) (hpos : 0 < (tz_p (tz_D f) (tz_N f) n (m + 1) u).1) : ab_Mt g_G g_rs mt_Tr_firstChoice 1 0 0 [ab_R p, ab_I (tz_pc u : Int), ab_I (u : Int), ab_I (f 1)] w (ab_is (some (ab_I (((tz_p (tz_D f) (tz_N f) n (m + 1) u).2.2 : Int)))) w) := by
  refine ab_Mt.of rfl (Nat.le_of_ble_eq_true rfl) ?_
  show ab_Ev g_G g_rs mt_Tr_firstChoice _ _ _ 0 [some (ab_R p), some (ab_I (tz_pc u : Int)), some (ab_I (u : Int)), some (ab_I (f 1)), none] [] _ _
  refine ev_iconst de_Tr_firstChoice_0 ?_
  refine ev_istore (l' := [_, _, _, _, _]) de_Tr_firstChoice_1 (Nat.le_of_ble_eq_true rfl) rfl ?_
  exact lo_Tr_firstChoice hI hs hB n hn hsx hD hN hA hG u m hm hu hpos ((tz_p (tz_D f) (tz_N f) n (m + 1) u).2.2 + 1) 0 (Nat.zero_le _) (by omega)
theorem de_Tr_firstSlotOf_0 : decode prog_12_method_7_code 0 = .ok (.iconst 0, 1) := by decide +kernel
theorem de_Tr_firstSlotOf_1 : decode prog_12_method_7_code 1 = .ok (.istore_n 3, 1) := by decide +kernel
theorem de_Tr_firstSlotOf_2 : decode prog_12_method_7_code 2 = .ok (.iconst (-1), 1) := by decide +kernel
theorem de_Tr_firstSlotOf_3 : decode prog_12_method_7_code 3 = .ok (.istore 4, 2) := by decide +kernel
theorem de_Tr_firstSlotOf_5 : decode prog_12_method_7_code 5 = .ok (.iconst 0, 1) := by decide +kernel
theorem de_Tr_firstSlotOf_6 : decode prog_12_method_7_code 6 = .ok (.istore 5, 2) := by decide +kernel
theorem de_Tr_firstSlotOf_8 : decode prog_12_method_7_code 8 = .ok (.iload 5, 2) := by decide +kernel
theorem de_Tr_firstSlotOf_10 : decode prog_12_method_7_code 10 = .ok (.iload_n 2, 1) := by decide +kernel
theorem de_Tr_firstSlotOf_11 : decode prog_12_method_7_code 11 = .ok (.if_icmp .gt 38, 3) := by decide +kernel
theorem de_Tr_firstSlotOf_14 : decode prog_12_method_7_code 14 = .ok (.aload_n 0, 1) := by decide +kernel
theorem de_Tr_firstSlotOf_15 : decode prog_12_method_7_code 15 = .ok (.iload 5, 2) := by decide +kernel
theorem de_Tr_firstSlotOf_17 : decode prog_12_method_7_code 17 = .ok (.iload_n 3, 1) := by decide +kernel
theorem de_Tr_firstSlotOf_18 : decode prog_12_method_7_code 18 = .ok (.aload_n 1, 1) := by decide +kernel
theorem de_Tr_firstSlotOf_19 : decode prog_12_method_7_code 19 = .ok (.getfield 31, 3) := by decide +kernel
theorem de_Tr_firstSlotOf_22 : decode prog_12_method_7_code 22 = .ok (.invokevirtual 69, 3) := by decide +kernel
theorem de_Tr_firstSlotOf_25 : decode prog_12_method_7_code 25 = .ok (.istore 6, 2) := by decide +kernel
theorem de_Tr_firstSlotOf_27 : decode prog_12_method_7_code 27 = .ok (.aload_n 0, 1) := by decide +kernel
theorem de_Tr_firstSlotOf_28 : decode prog_12_method_7_code 28 = .ok (.getfield 9, 3) := by decide +kernel
theorem de_Tr_firstSlotOf_31 : decode prog_12_method_7_code 31 = .ok (.iload 6, 2) := by decide +kernel
theorem de_Tr_firstSlotOf_33 : decode prog_12_method_7_code 33 = .ok (.iaload, 1) := by decide +kernel
theorem de_Tr_firstSlotOf_34 : decode prog_12_method_7_code 34 = .ok (.istore 4, 2) := by decide +kernel
theorem de_Tr_firstSlotOf_36 : decode prog_12_method_7_code 36 = .ok (.iload_n 3, 1) := by decide +kernel
theorem de_Tr_firstSlotOf_37 : decode prog_12_method_7_code 37 = .ok (.iconst 1, 1) := by decide +kernel
theorem de_Tr_firstSlotOf_38 : decode prog_12_method_7_code 38 = .ok (.iload 6, 2) := by decide +kernel
theorem de_Tr_firstSlotOf_40 : decode prog_12_method_7_code 40 = .ok (.ishl, 1) := by decide +kernel
theorem de_Tr_firstSlotOf_41 : decode prog_12_method_7_code 41 = .ok (.ior, 1) := by decide +kernel
theorem de_Tr_firstSlotOf_42 : decode prog_12_method_7_code 42 = .ok (.istore_n 3, 1) := by decide +kernel
theorem de_Tr_firstSlotOf_43 : decode prog_12_method_7_code 43 = .ok (.iinc 5 1, 3) := by decide +kernel
theorem de_Tr_firstSlotOf_46 : decode prog_12_method_7_code 46 = .ok (.goto (-38), 3) := by decide +kernel
theorem de_Tr_firstSlotOf_49 : decode prog_12_method_7_code 49 = .ok (.iload 4, 2) := by decide +kernel
theorem de_Tr_firstSlotOf_51 : decode prog_12_method_7_code 51 = .ok (.ireturn, 1) := by decide +kernel
set_option maxHeartbeats 4000000 in
set_option maxRecDepth 10000 in
theorem lo_Tr_firstSlotOf {o p : Nat} {f : Int → Int} {x B : Int} {w : ab_W} (hI : sg_ok B f) (hs : tz_hs f) (hB : B ≤ 29000) (n : Nat) (hn : (n : Int) = f 1) {t1 t2 t3 t4 t5 : Int → Int} (hsx : tz_sx f t1) (hD : tz_dx f t2) (hN : tz_nx f t3) (hA : ∀ t : Nat, t < 2 ^ n → wmo f t4 t5 t) (hG : tra p t1 t2 t3 t4 t5 w) (hR : ri_at_j o f x w) (ww : Int) (hw0 : 0 ≤ ww) (hw1 : ww < f 1) : ∀ (n0 : Nat) (h u : Nat) (sv : Int) (x6 : Option ab_V), (h : Int) ≤ ww + 1 → ww + 1 < (h : Int) + (n0 : Int) → tz_pc u = h → u < 2 ^ n → 0 < (tz_p (tz_D f) (tz_N f) n (n - h) u).1 → (∀ j : Nat, (tz_f (tz_D f) (tz_N f) n (n - h) u)[j]? = (tz_f (tz_D f) (tz_N f) n n 0)[h + j]?) → (1 ≤ h → sv = tz_sl f (tz_r (tz_f (tz_D f) (tz_N f) n n 0) ((h : Int) - 1))) → ab_Ev g_G g_rs mt_Tr_firstSlotOf 2 0 0 8 [some (ab_R p), some (ab_R o), some (ab_I ww), some (ab_I (u : Int)), some (ab_I sv), some (ab_I (h : Int)), x6] [] w (ab_is (some (ab_I (tz_sl f (tz_r (tz_f (tz_D f) (tz_N f) n n 0) ww)))) w) := by
  intro n0
  induction n0 with
  | zero =>
    intro h u sv x6
    intro y1 y2 y3 y4 y5 y6 y7; omega
  | succ n0 ih =>
    intro h u sv x6
    intro y1 y2 y3 y4 y5 y6 y7
    obtain ⟨tr0, tr1, tr2, tr3, tr4, tr5⟩ := id hG
    have hR0 := hR
    obtain ⟨sl, fs, vo, li, ra, wo, dh, da, hzz⟩ := hR
    obtain ⟨ds, dn, vw, q0, q1, q2, q3, q4, hzz⟩ := hzz
    obtain ⟨q5, q6, q7, q8, q9, q10, q11, q12, hzz⟩ := hzz
    obtain ⟨e1, e2, e3, e4, e5, e6, e7, e8, e9⟩ := hzz
    have hb1 := hs.2.1
    have l2 := tz_2n (n := n) (by omega)
    refine ev_iload de_Tr_firstSlotOf_8 rfl ?_
    refine ev_iload_n de_Tr_firstSlotOf_10 rfl rfl ?_
    refine ev_icmp_gt (tgt := 49) de_Tr_firstSlotOf_11 (by decide) (by omega) (by omega) (fun h11 => ?_) (fun h11 => ?_)
    · skip
      have ev := y7 (by omega)
      rw [show (h : Int) - 1 = ww by omega] at ev
      refine ev_iload de_Tr_firstSlotOf_49 rfl ?_
      exact ev_ireturn de_Tr_firstSlotOf_51 rfl ⟨congrArg (fun z => some (ab_I z)) ev, rfl⟩
    · skip
      have em : n - h = (n - (h + 1)) + 1 := by omega
      rw [em] at y5 y6
      have fi := (tz_fi (tz_D f) (tz_N f) ((n : Int) - ((n - (h + 1) + 1 : Nat) : Int)) u (tz_p (tz_D f) (tz_N f) n (n - (h + 1))) n).2.2 y5
      obtain ⟨j0, ej⟩ : ∃ j0, (tz_p (tz_D f) (tz_N f) n (n - (h + 1) + 1) u).2.2 = j0 := ⟨_, rfl⟩
      have fj : j0 < n := by rw [← ej]; exact fi.1
      have fv := fi.2.1
      have hjb : u.testBit j0 = false := by rw [← ej]; exact (tz_ok_i.mp fv.1).1
      have po := pc_or u (by omega) j0 (by omega) hjb
      refine ev_aload_n de_Tr_firstSlotOf_14 rfl rfl ?_
      refine ev_iload de_Tr_firstSlotOf_15 rfl ?_
      refine ev_iload_n de_Tr_firstSlotOf_17 rfl rfl ?_
      refine ev_aload_n de_Tr_firstSlotOf_18 rfl rfl ?_
      refine ev_getfield de_Tr_firstSlotOf_19 q0 fl_Tr_31 rfl ?_
      have hfc := co_Tr_firstChoice hI hs hB n hn hsx hD hN hA hG u (n - (h + 1)) (by omega) y4 y5
      rw [y3] at hfc
      refine ev_vv (ci := 9) de_Tr_firstSlotOf_22 hfc kb_Tr_69 ⟨im_Tr_firstChoice, se_Tr_firstChoice⟩ rfl tr0 rfl (Nat.le_of_ble_eq_true rfl) (by decide) rfl ?_
      refine ev_top (congrArg Sum.inl (show _ = (j0 : Int) from by rw [ej])) ?_
      refine ev_istore (l' := [_, _, _, _, _, _, _]) de_Tr_firstSlotOf_25 (Nat.le_of_ble_eq_true rfl) rfl ?_
      refine ev_aload_n de_Tr_firstSlotOf_27 rfl rfl ?_
      refine ev_getfield de_Tr_firstSlotOf_28 tr0 fl_Tr_9 rfl ?_
      refine ev_iload de_Tr_firstSlotOf_31 rfl ?_
      refine ev_iaload de_Tr_firstSlotOf_33 tr1 (by omega) (by omega) (by omega) ?_
      have sx := hsx (j0 : Int) (by omega) (by omega)
      refine ev_top (congrArg Sum.inl sx) ?_
      refine ev_istore (l' := [_, _, _, _, _, _, _]) de_Tr_firstSlotOf_34 (Nat.le_of_ble_eq_true rfl) rfl ?_
      refine ev_iload_n de_Tr_firstSlotOf_36 rfl rfl ?_
      refine ev_iconst de_Tr_firstSlotOf_37 ?_
      refine ev_iload de_Tr_firstSlotOf_38 rfl ?_
      refine ev_ishl de_Tr_firstSlotOf_40 (by omega) (by omega) ?_
      refine ev_ior de_Tr_firstSlotOf_41 ?_
      refine ev_top (congrArg Sum.inl (or_c (show u < 128 by omega) (show j0 < 7 by omega))) ?_
      have z1 : tz_pc (u ||| 2 ^ j0) = h + 1 := by omega
      have z2 : u ||| 2 ^ j0 < 2 ^ n := tz_or_lt y4 fj
      have z3 : 0 < (tz_p (tz_D f) (tz_N f) n (n - (h + 1)) (u ||| 2 ^ j0)).1 := by rw [← ej]; exact fv.2
      have eL : tz_f (tz_D f) (tz_N f) n (n - (h + 1) + 1) u = j0 :: tz_f (tz_D f) (tz_N f) n (n - (h + 1)) (u ||| 2 ^ j0) := by rw [← ej]; rfl
      rw [eL] at y6
      have z4 : ∀ j : Nat, (tz_f (tz_D f) (tz_N f) n (n - (h + 1)) (u ||| 2 ^ j0))[j]? = (tz_f (tz_D f) (tz_N f) n n 0)[h + 1 + j]? := fun j => by
        rw [show h + 1 + j = h + (j + 1) by omega]
        exact y6 (j + 1)
      have zr : tz_r (tz_f (tz_D f) (tz_N f) n n 0) (h : Int) = (j0 : Int) := by
        have q := y6 0
        unfold tz_r
        rw [Int.toNat_natCast, show h = h + 0 from rfl, ← q]
        rfl
      have zs : tz_sl f (j0 : Int) = tz_sl f (j0 : Int) := rfl
      refine ev_istore_n (l' := [_, _, _, _, _, _, _]) de_Tr_firstSlotOf_42 rfl (Nat.le_of_ble_eq_true rfl) rfl ?_
      refine ev_iinc (l' := [_, _, _, _, _, _, _]) de_Tr_firstSlotOf_43 rfl rfl ?_
      refine ev_goto (tgt := 8) de_Tr_firstSlotOf_46 (by decide) ?_
      exact ih (h + 1) _ _ _ (by omega) (by omega) z1 z2 z3 z4 (fun _ => by rw [zs]; rw [show ((h + 1 : Nat) : Int) - 1 = (h : Int) by omega, zr])
set_option maxHeartbeats 4000000 in
set_option maxRecDepth 10000 in
theorem co_Tr_firstSlotOf {o p : Nat} {f : Int → Int} {x B : Int} {w : ab_W} (hI : sg_ok B f) (hs : tz_hs f) (hB : B ≤ 29000) (n : Nat) (hn : (n : Int) = f 1) {t1 t2 t3 t4 t5 : Int → Int} (hsx : tz_sx f t1) (hD : tz_dx f t2) (hN : tz_nx f t3) (hA : ∀ t : Nat, t < 2 ^ n → wmo f t4 t5 t) (hG : tra p t1 t2 t3 t4 t5 w) (hR : ri_at_j o f x w) (ww : Int) (hw0 : 0 ≤ ww) (hw1 : ww < f 1) (hp0 : 0 < (tz_p (tz_D f) (tz_N f) n n 0).1) : ab_Mt g_G g_rs mt_Tr_firstSlotOf 2 0 0 [ab_R p, ab_R o, ab_I ww] w (ab_is (some (ab_I (tz_sl f (tz_r (tz_f (tz_D f) (tz_N f) n n 0) ww)))) w) := by
  refine ab_Mt.of rfl (Nat.le_of_ble_eq_true rfl) ?_
  show ab_Ev g_G g_rs mt_Tr_firstSlotOf _ _ _ 0 [some (ab_R p), some (ab_R o), some (ab_I ww), none, none, none, none] [] _ _
  refine ev_iconst de_Tr_firstSlotOf_0 ?_
  refine ev_istore_n (l' := [_, _, _, _, _, _, _]) de_Tr_firstSlotOf_1 rfl (Nat.le_of_ble_eq_true rfl) rfl ?_
  refine ev_iconst de_Tr_firstSlotOf_2 ?_
  refine ev_istore (l' := [_, _, _, _, _, _, _]) de_Tr_firstSlotOf_3 (Nat.le_of_ble_eq_true rfl) rfl ?_
  refine ev_iconst de_Tr_firstSlotOf_5 ?_
  refine ev_istore (l' := [_, _, _, _, _, _, _]) de_Tr_firstSlotOf_6 (Nat.le_of_ble_eq_true rfl) rfl ?_
  exact lo_Tr_firstSlotOf hI hs hB n hn hsx hD hN hA hG hR ww hw0 hw1 (ww.toNat + 2) 0 0 (-1) none (by omega) (by omega) rfl (Nat.pow_pos (by decide)) hp0 (fun j => by rw [Nat.zero_add]; rfl) (fun z => absurd z (by decide))
theorem de_Tu_trade_0 : decode prog_1_method_28_code 0 = .ok (.aload_n 0, 1) := by decide +kernel
theorem de_Tu_trade_1 : decode prog_1_method_28_code 1 = .ok (.getfield 19, 3) := by decide +kernel
theorem de_Tu_trade_4 : decode prog_1_method_28_code 4 = .ok (.getfield 152, 3) := by decide +kernel
theorem de_Tu_trade_7 : decode prog_1_method_28_code 7 = .ok (.ifCond .eq 13, 3) := by decide +kernel
theorem de_Tu_trade_10 : decode prog_1_method_28_code 10 = .ok (.iload_n 1, 1) := by decide +kernel
theorem de_Tu_trade_11 : decode prog_1_method_28_code 11 = .ok (.ifCond .lt 9, 3) := by decide +kernel
theorem de_Tu_trade_14 : decode prog_1_method_28_code 14 = .ok (.iload_n 1, 1) := by decide +kernel
theorem de_Tu_trade_15 : decode prog_1_method_28_code 15 = .ok (.bipush 8, 2) := by decide +kernel
theorem de_Tu_trade_17 : decode prog_1_method_28_code 17 = .ok (.if_icmp .le 6, 3) := by decide +kernel
theorem de_Tu_trade_20 : decode prog_1_method_28_code 20 = .ok (.ldc 208, 2) := by decide +kernel
theorem de_Tu_trade_22 : decode prog_1_method_28_code 22 = .ok (.ireturn, 1) := by decide +kernel
theorem de_Tu_trade_23 : decode prog_1_method_28_code 23 = .ok (.iload_n 1, 1) := by decide +kernel
theorem de_Tu_trade_24 : decode prog_1_method_28_code 24 = .ok (.iconst 2, 1) := by decide +kernel
theorem de_Tu_trade_25 : decode prog_1_method_28_code 25 = .ok (.isub, 1) := by decide +kernel
theorem de_Tu_trade_26 : decode prog_1_method_28_code 26 = .ok (.aload_n 0, 1) := by decide +kernel
theorem de_Tu_trade_27 : decode prog_1_method_28_code 27 = .ok (.getfield 19, 3) := by decide +kernel
theorem de_Tu_trade_30 : decode prog_1_method_28_code 30 = .ok (.getfield 102, 3) := by decide +kernel
theorem de_Tu_trade_33 : decode prog_1_method_28_code 33 = .ok (.if_icmp .lt 6, 3) := by decide +kernel
theorem de_Tu_trade_36 : decode prog_1_method_28_code 36 = .ok (.bipush (-2), 2) := by decide +kernel
theorem de_Tu_trade_38 : decode prog_1_method_28_code 38 = .ok (.ireturn, 1) := by decide +kernel
theorem de_Tu_trade_39 : decode prog_1_method_28_code 39 = .ok (.aload_n 0, 1) := by decide +kernel
theorem de_Tu_trade_40 : decode prog_1_method_28_code 40 = .ok (.getfield 71, 3) := by decide +kernel
theorem de_Tu_trade_43 : decode prog_1_method_28_code 43 = .ok (.aload_n 0, 1) := by decide +kernel
theorem de_Tu_trade_44 : decode prog_1_method_28_code 44 = .ok (.getfield 19, 3) := by decide +kernel
theorem de_Tu_trade_47 : decode prog_1_method_28_code 47 = .ok (.invokevirtual 283, 3) := by decide +kernel
theorem de_Tu_trade_50 : decode prog_1_method_28_code 50 = .ok (.iload_n 1, 1) := by decide +kernel
theorem de_Tu_trade_51 : decode prog_1_method_28_code 51 = .ok (.ifCond .ne 13, 3) := by decide +kernel
theorem de_Tu_trade_54 : decode prog_1_method_28_code 54 = .ok (.aload_n 0, 1) := by decide +kernel
theorem de_Tu_trade_55 : decode prog_1_method_28_code 55 = .ok (.getfield 71, 3) := by decide +kernel
theorem de_Tu_trade_58 : decode prog_1_method_28_code 58 = .ok (.getfield 286, 3) := by decide +kernel
theorem de_Tu_trade_61 : decode prog_1_method_28_code 61 = .ok (.iconst 0, 1) := by decide +kernel
theorem de_Tu_trade_62 : decode prog_1_method_28_code 62 = .ok (.iaload, 1) := by decide +kernel
theorem de_Tu_trade_63 : decode prog_1_method_28_code 63 = .ok (.ireturn, 1) := by decide +kernel
theorem de_Tu_trade_64 : decode prog_1_method_28_code 64 = .ok (.iload_n 1, 1) := by decide +kernel
theorem de_Tu_trade_65 : decode prog_1_method_28_code 65 = .ok (.iconst 1, 1) := by decide +kernel
theorem de_Tu_trade_66 : decode prog_1_method_28_code 66 = .ok (.if_icmp .ne 15, 3) := by decide +kernel
theorem de_Tu_trade_69 : decode prog_1_method_28_code 69 = .ok (.aload_n 0, 1) := by decide +kernel
theorem de_Tu_trade_70 : decode prog_1_method_28_code 70 = .ok (.getfield 71, 3) := by decide +kernel
theorem de_Tu_trade_73 : decode prog_1_method_28_code 73 = .ok (.getfield 289, 3) := by decide +kernel
theorem de_Tu_trade_76 : decode prog_1_method_28_code 76 = .ok (.iconst 0, 1) := by decide +kernel
theorem de_Tu_trade_77 : decode prog_1_method_28_code 77 = .ok (.iaload, 1) := by decide +kernel
theorem de_Tu_trade_78 : decode prog_1_method_28_code 78 = .ok (.goto 17, 3) := by decide +kernel
theorem de_Tu_trade_81 : decode prog_1_method_28_code 81 = .ok (.aload_n 0, 1) := by decide +kernel
theorem de_Tu_trade_82 : decode prog_1_method_28_code 82 = .ok (.getfield 71, 3) := by decide +kernel
theorem de_Tu_trade_85 : decode prog_1_method_28_code 85 = .ok (.aload_n 0, 1) := by decide +kernel
theorem de_Tu_trade_86 : decode prog_1_method_28_code 86 = .ok (.getfield 19, 3) := by decide +kernel
theorem de_Tu_trade_89 : decode prog_1_method_28_code 89 = .ok (.iload_n 1, 1) := by decide +kernel
theorem de_Tu_trade_90 : decode prog_1_method_28_code 90 = .ok (.iconst 2, 1) := by decide +kernel
theorem de_Tu_trade_91 : decode prog_1_method_28_code 91 = .ok (.isub, 1) := by decide +kernel
theorem de_Tu_trade_92 : decode prog_1_method_28_code 92 = .ok (.invokevirtual 292, 3) := by decide +kernel
theorem de_Tu_trade_95 : decode prog_1_method_28_code 95 = .ok (.ireturn, 1) := by decide +kernel
set_option maxHeartbeats 4000000 in
set_option maxRecDepth 10000 in
theorem co_Tu_trade {a b : Nat} {rc : Int} {f : Int → Int} {x B : Int} {w : ab_W} (hI : sg_ok B f) (t0 : tu_at a b rc w) (hR : ri_at_j a f x w) (hB : B ≤ 29000) (hds : tz_ds f) (hab : a = 3 ∨ a = 16) {t1 t2 t3 t4 t5 : Int → Int} (hT : tra 45 t1 t2 t3 t4 t5 w) (y1 : Int) (hy1 : ab_in y1) : ab_Mt g_G g_rs mt_Tu_trade 4 0 0 [ab_R 0, ab_I y1] w (fun r w2 => w2.length = w.length ∧ r = some (ab_I (if f 0 = 1 ∧ 0 ≤ y1 ∧ y1 ≤ 8 then sp_trade f y1 else -100000))) := by
  have ht0 := t0
  have hR0 := hR
  have hI0 := hI
  unfold tu_at at t0
  obtain ⟨sl, fs, vo, li, ra, wo, dh, da, hzz⟩ := hR
  obtain ⟨ds, dn, vw, q0, q1, q2, q3, q4, hzz⟩ := hzz
  obtain ⟨q5, q6, q7, q8, q9, q10, q11, q12, hzz⟩ := hzz
  obtain ⟨e1, e2, e3, e4, e5, e6, e7, e8, e9⟩ := hzz
  obtain ⟨i0, i1, i2, i3, i4, i5, i6, i7, hzz⟩ := sg_all hI
  obtain ⟨i8, i9, i10, i11, i12, i13, i14, i15, hzz⟩ := hzz
  obtain ⟨i16, i17⟩ := hzz
  have hs := tz_hs_of hI0 hds
  have hT0 := hT.1
  refine ab_Mt.of rfl (Nat.le_of_ble_eq_true rfl) ?_
  show ab_Ev g_G g_rs mt_Tu_trade _ _ _ 0 [some (ab_R 0), some (ab_I y1)] [] _ _
  refine ev_aload_n de_Tu_trade_0 rfl rfl ?_
  refine ev_getfield de_Tu_trade_1 t0 fl_Tu_19 rfl ?_
  refine ev_getfield de_Tu_trade_4 q0 fl_Tu_152 rfl ?_
  refine ev_if_eq (tgt := 20) de_Tu_trade_7 (by decide) (by first | omega | assumption) (fun h7 => ?_) (fun h7 => ?_)
  · skip
    refine ev_ldc (n := -100000) de_Tu_trade_20 cn_Tu_208 rfl ?_
    exact ev_ireturn de_Tu_trade_22 rfl ⟨rfl, congrArg (fun z => some (ab_I z)) (by rw [if_neg (fun z => by omega)])⟩
  · skip
    refine ev_iload_n de_Tu_trade_10 rfl rfl ?_
    refine ev_if_lt (tgt := 20) de_Tu_trade_11 (by decide) (by first | omega | assumption) (fun h11 => ?_) (fun h11 => ?_)
    · skip
      refine ev_ldc (n := -100000) de_Tu_trade_20 cn_Tu_208 rfl ?_
      exact ev_ireturn de_Tu_trade_22 rfl ⟨rfl, congrArg (fun z => some (ab_I z)) (by rw [if_neg (fun z => by omega)])⟩
    · skip
      refine ev_iload_n de_Tu_trade_14 rfl rfl ?_
      refine ev_bipush de_Tu_trade_15 rfl ?_
      refine ev_icmp_le (tgt := 23) de_Tu_trade_17 (by decide) (by first | omega | assumption) (by first | omega | assumption) (fun h17 => ?_) (fun h17 => ?_)
      · skip
        have hg : f 0 = 1 ∧ 0 ≤ y1 ∧ y1 ≤ 8 := by omega
        rw [if_pos hg]
        refine ev_iload_n de_Tu_trade_23 rfl rfl ?_
        refine ev_iconst de_Tu_trade_24 ?_
        refine ev_isub de_Tu_trade_25 ?_
        refine ev_aload_n de_Tu_trade_26 rfl rfl ?_
        refine ev_getfield de_Tu_trade_27 t0 fl_Tu_19 rfl ?_
        refine ev_getfield de_Tu_trade_30 q0 fl_Tu_102 rfl ?_
        refine ev_icmp_lt (tgt := 39) de_Tu_trade_33 (by decide) (by first | omega | assumption) (by first | omega | assumption) (fun h33 => ?_) (fun h33 => ?_)
        · skip
          refine ev_aload_n de_Tu_trade_39 rfl rfl ?_
          refine ev_getfield de_Tu_trade_40 t0 fl_Tu_71 rfl ?_
          refine ev_aload_n de_Tu_trade_43 rfl rfl ?_
          refine ev_getfield de_Tu_trade_44 t0 fl_Tu_19 rfl ?_
          refine ev_virtual (ci := 9) (mc := 0) (ms := 0) (bc := 0) (bs := 0) de_Tu_trade_47 (co_Tr_findRows hI0 hs hR0 (by omega) hB (f 1).toNat (by omega) hT) kb_Tu_283 ⟨im_Tr_findRows, se_Tr_findRows⟩ rfl hT0 rfl (Nat.le_of_ble_eq_true rfl) (by decide) (Or.inl (fun r w1 h => h.2.2.1)) (fun r1 w1 hm1 => ?_)
          obtain ⟨rfl, ⟨s1, s2, s3, s4, s5, hG, hsx, hD, hN, hA⟩, hf1⟩ := hm1
          · skip
            have t0 := (hf1.2 0 (by omega)).trans t0
            obtain ⟨tr0, tr1, tr2, tr3, tr4, tr5⟩ := id hG
            have hRw := rj_fr hR0 hf1 (by omega)
            have hp0 := tz_many hs (f 1).toNat (Nat.le_refl _) 0 (fun k hk => absurd hk (by rw [Nat.zero_testBit]; decide))
            have am := hA 0 (Nat.pow_pos (by decide))
            unfold wmo at am
            rw [show tz_pc 0 = 0 from rfl, Nat.sub_zero] at am
            have am5 := am.2 (by rw [am.1]; exact hp0)
            have eT : sp_trade f y1 = if y1 = 0 then (tz_p (tz_D f) (tz_N f) (f 1).toNat (f 1).toNat 0).1 else if y1 = 1 then (tz_p (tz_D f) (tz_N f) (f 1).toNat (f 1).toNat 0).2.1 else tz_sl f (tz_r (tz_f (tz_D f) (tz_N f) (f 1).toNat (f 1).toNat 0) (y1 - 2)) := by
              unfold sp_trade
              rw [if_neg (by omega)]
              rfl
            refine ev_iload_n de_Tu_trade_50 rfl rfl ?_
            refine ev_if_ne (tgt := 64) de_Tu_trade_51 (by decide) (by first | omega | assumption) (fun h51 => ?_) (fun h51 => ?_)
            · skip
              refine ev_iload_n de_Tu_trade_64 rfl rfl ?_
              refine ev_iconst de_Tu_trade_65 ?_
              refine ev_icmp_ne (tgt := 81) de_Tu_trade_66 (by decide) (by first | omega | assumption) (by first | omega | assumption) (fun h66 => ?_) (fun h66 => ?_)
              · skip
                refine ev_aload_n de_Tu_trade_81 rfl rfl ?_
                refine ev_getfield de_Tu_trade_82 t0 fl_Tu_71 rfl ?_
                refine ev_aload_n de_Tu_trade_85 rfl rfl ?_
                refine ev_getfield de_Tu_trade_86 t0 fl_Tu_19 rfl ?_
                refine ev_iload_n de_Tu_trade_89 rfl rfl ?_
                refine ev_iconst de_Tu_trade_90 ?_
                refine ev_isub de_Tu_trade_91 ?_
                refine ev_vv (ci := 9) de_Tu_trade_92 (co_Tr_firstSlotOf hI0 hs hB (f 1).toNat (by omega) hsx hD hN hA hG hRw (y1 - 2) (by omega) (by omega) hp0) kb_Tu_292 ⟨im_Tr_firstSlotOf, se_Tr_firstSlotOf⟩ rfl tr0 rfl (Nat.le_of_ble_eq_true rfl) (by decide) rfl ?_
                exact ev_ireturn de_Tu_trade_95 rfl ⟨hf1.1, congrArg (fun z => some (ab_I z)) (by rw [eT, if_neg (by omega)]; first | (rw [if_pos (show y1 = 1 by omega)]; exact am5) | (rw [if_neg (show ¬ y1 = 1 by omega)]))⟩
              · skip
                refine ev_aload_n de_Tu_trade_69 rfl rfl ?_
                refine ev_getfield de_Tu_trade_70 t0 fl_Tu_71 rfl ?_
                refine ev_getfield de_Tu_trade_73 tr0 fl_Tu_289 rfl ?_
                refine ev_iconst de_Tu_trade_76 ?_
                refine ev_iaload de_Tu_trade_77 tr5 (by first | omega | assumption) (by first | omega | assumption) (by first | omega | assumption) ?_
                refine ev_goto (tgt := 95) de_Tu_trade_78 (by decide) ?_
                exact ev_ireturn de_Tu_trade_95 rfl ⟨hf1.1, congrArg (fun z => some (ab_I z)) (by rw [eT, if_neg (by omega)]; first | (rw [if_pos (show y1 = 1 by omega)]; exact am5) | (rw [if_neg (show ¬ y1 = 1 by omega)]))⟩
            · skip
              refine ev_aload_n de_Tu_trade_54 rfl rfl ?_
              refine ev_getfield de_Tu_trade_55 t0 fl_Tu_71 rfl ?_
              refine ev_getfield de_Tu_trade_58 tr0 fl_Tu_286 rfl ?_
              refine ev_iconst de_Tu_trade_61 ?_
              refine ev_iaload de_Tu_trade_62 tr4 (by first | omega | assumption) (by first | omega | assumption) (by first | omega | assumption) ?_
              exact ev_ireturn de_Tu_trade_63 rfl ⟨hf1.1, congrArg (fun z => some (ab_I z)) (by rw [eT, if_pos (by omega)]; exact am.1)⟩
        · skip
          refine ev_bipush de_Tu_trade_36 rfl ?_
          exact ev_ireturn de_Tu_trade_38 rfl ⟨rfl, congrArg (fun z => some (ab_I z)) (by unfold sp_trade; rw [if_pos (by omega)])⟩
      · skip
        refine ev_ldc (n := -100000) de_Tu_trade_20 cn_Tu_208 rfl ?_
        exact ev_ireturn de_Tu_trade_22 rfl ⟨rfl, congrArg (fun z => some (ab_I z)) (by rw [if_neg (fun z => by omega)])⟩
