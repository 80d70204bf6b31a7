/-! how it turned by what was seen, what to look at next: exactly -/
def cs_see (f : Int → Int) (h n a r : Int) : Nat := sp_sortsAt f ((f (143 + h) + a + r * n) % 12) (n % 24)
theorem rn_b {n r : Int} (n0 : 0 ≤ n) (n1 : n ≤ 99) (r0 : -3 ≤ r) (r1 : r ≤ 3) : -300 ≤ n * r ∧ n * r ≤ 300 := by
  rcases (by omega : r = -3 ∨ r = -2 ∨ r = -1 ∨ r = 0 ∨ r = 1 ∨ r = 2 ∨ r = 3) with e | e | e | e | e | e | e <;> subst e <;> omega
theorem see_lt {B : Int} {f : Int → Int} (hI : sg_ok B f) (h n a r : Int) : cs_see f h n a r < 32 := sp_sortsAt_lt hI _ _
/-- the codes that fit, ahead of k -/
def gl (f : Int → Int) : Nat → List Int
  | 0 => []
  | k + 1 => if sp_fits f (k : Int) = 0 then gl f k else gl f k ++ [(k : Int)]
theorem gl_len (f : Int → Int) : ∀ k : Nat, ((gl f k).length : Int) = sp_many f k ∧ (gl f k).length ≤ k
  | 0 => ⟨rfl, Nat.le_refl _⟩
  | k + 1 => by
    have ih := gl_len f k
    unfold gl sp_many
    split
    · exact ⟨ih.1, by omega⟩
    · rw [List.length_append]
      exact ⟨by have := ih.1; show (((gl f k).length + 1 : Nat) : Int) = _; omega, by have := ih.2; show (gl f k).length + 1 ≤ k + 1; omega⟩
theorem gl_b (f : Int → Int) : ∀ (k : Nat) (c : Int), c ∈ gl f k → 0 ≤ c ∧ c < k ∧ ¬ sp_fits f c = 0
  | 0, c, h => by unfold gl at h; cases h
  | k + 1, c, h => by
    unfold gl at h
    split at h
    · have := gl_b f k c h
      exact ⟨this.1, by omega, this.2.2⟩
    · rename_i z
      rcases List.mem_append.mp h with h | h
      · have := gl_b f k c h
        exact ⟨this.1, by omega, this.2.2⟩
      · rw [List.mem_singleton] at h
        subst h
        exact ⟨by omega, by omega, z⟩
def en_ (L : List Int) (an ra : Int → Int) : Prop := ∀ (i : Nat) (c : Int), L[i]? = some c → an (i : Int) = c / 7 ∧ ra (i : Int) = c % 7 - 3
theorem en_0 (an ra : Int → Int) : en_ [] an ra := fun i c h => by cases h
theorem en_app {L : List Int} {an ra : Int → Int} (h : en_ L an ra) {c n a r : Int} (hn : n = (L.length : Int)) (ha : a = c / 7) (hr : r = c % 7 - 3) : en_ (L ++ [c]) (ab_up an n a) (ab_up ra n r) := by
  intro i d hi
  subst hn
  rcases Nat.lt_trichotomy i L.length with z | z | z
  · rw [List.getElem?_append_left z] at hi
    rw [ab_upn _ _ (by omega), ab_upn _ _ (by omega)]
    exact h i d hi
  · subst z
    rw [List.getElem?_append_right (Nat.le_refl _), Nat.sub_self] at hi
    injection hi with hi
    subst hi
    rw [ab_upe, ab_upe]
    exact ⟨ha, hr⟩
  · rw [List.getElem?_append_right (by omega), List.getElem?_eq_none (by simp; omega)] at hi
    cases hi
def gua (g : Nat) (an ra : Int → Int) (tu : Int) (sn : Int → Int) (la gp : Int) (w : ab_W) : Prop := w[g]? = some (ab_ob 2 [ab_R (g + 1), ab_R (g + 2), ab_I tu, ab_R (g + 3), ab_I la, ab_I gp]) ∧ w[g + 1]? = some (ab_ai 0 84 an) ∧ w[g + 2]? = some (ab_ai 0 84 ra) ∧ w[g + 3]? = some (ab_ai 0 35 sn)
theorem gua_o {g : Nat} {an ra : Int → Int} {tu : Int} {sn : Int → Int} {la gp tu2 la2 gp2 : Int} {w : ab_W} (h : gua g an ra tu sn la gp w) : gua g an ra tu2 sn la2 gp2 (w.set g (ab_ob 2 [ab_R (g + 1), ab_R (g + 2), ab_I tu2, ab_R (g + 3), ab_I la2, ab_I gp2])) := ⟨ab_gs h.1, ab_gn h.2.1 (by omega), ab_gn h.2.2.1 (by omega), ab_gn h.2.2.2 (by omega)⟩
theorem gua_1 {g : Nat} {an ra an2 : Int → Int} {tu : Int} {sn : Int → Int} {la gp : Int} {w : ab_W} (h : gua g an ra tu sn la gp w) : gua g an2 ra tu sn la gp (w.set (g + 1) (ab_ai 0 84 an2)) := ⟨ab_gn h.1 (by omega), ab_gs h.2.1, ab_gn h.2.2.1 (by omega), ab_gn h.2.2.2 (by omega)⟩
theorem gua_2 {g : Nat} {an ra ra2 : Int → Int} {tu : Int} {sn : Int → Int} {la gp : Int} {w : ab_W} (h : gua g an ra tu sn la gp w) : gua g an ra2 tu sn la gp (w.set (g + 2) (ab_ai 0 84 ra2)) := ⟨ab_gn h.1 (by omega), ab_gn h.2.1 (by omega), ab_gs h.2.2.1, ab_gn h.2.2.2 (by omega)⟩
theorem gua_3 {g : Nat} {an ra : Int → Int} {tu : Int} {sn sn2 : Int → Int} {la gp : Int} {w : ab_W} (h : gua g an ra tu sn la gp w) : gua g an ra tu sn2 la gp (w.set (g + 3) (ab_ai 0 35 sn2)) := ⟨ab_gn h.1 (by omega), ab_gn h.2.1 (by omega), ab_gn h.2.2.1 (by omega), ab_gs h.2.2.2⟩
theorem de_Gu_sortsSeen_0 : decode prog_4_method_3_code 0 = .ok (.aload_n 0, 1) := by decide +kernel
theorem de_Gu_sortsSeen_1 : decode prog_4_method_3_code 1 = .ok (.getfield 29, 3) := by decide +kernel
theorem de_Gu_sortsSeen_4 : decode prog_4_method_3_code 4 = .ok (.iload_n 1, 1) := by decide +kernel
theorem de_Gu_sortsSeen_5 : decode prog_4_method_3_code 5 = .ok (.iaload, 1) := by decide +kernel
theorem de_Gu_sortsSeen_6 : decode prog_4_method_3_code 6 = .ok (.iload_n 3, 1) := by decide +kernel
theorem de_Gu_sortsSeen_7 : decode prog_4_method_3_code 7 = .ok (.iload_n 2, 1) := by decide +kernel
theorem de_Gu_sortsSeen_8 : decode prog_4_method_3_code 8 = .ok (.iload 4, 2) := by decide +kernel
theorem de_Gu_sortsSeen_10 : decode prog_4_method_3_code 10 = .ok (.imul, 1) := by decide +kernel
theorem de_Gu_sortsSeen_11 : decode prog_4_method_3_code 11 = .ok (.iadd, 1) := by decide +kernel
theorem de_Gu_sortsSeen_12 : decode prog_4_method_3_code 12 = .ok (.invokestatic 34, 3) := by decide +kernel
theorem de_Gu_sortsSeen_15 : decode prog_4_method_3_code 15 = .ok (.invokestatic 38, 3) := by decide +kernel
theorem de_Gu_sortsSeen_18 : decode prog_4_method_3_code 18 = .ok (.istore 5, 2) := by decide +kernel
theorem de_Gu_sortsSeen_20 : decode prog_4_method_3_code 20 = .ok (.aload_n 0, 1) := by decide +kernel
theorem de_Gu_sortsSeen_21 : decode prog_4_method_3_code 21 = .ok (.iload 5, 2) := by decide +kernel
theorem de_Gu_sortsSeen_23 : decode prog_4_method_3_code 23 = .ok (.iload_n 2, 1) := by decide +kernel
theorem de_Gu_sortsSeen_24 : decode prog_4_method_3_code 24 = .ok (.bipush 24, 2) := by decide +kernel
theorem de_Gu_sortsSeen_26 : decode prog_4_method_3_code 26 = .ok (.irem, 1) := by decide +kernel
theorem de_Gu_sortsSeen_27 : decode prog_4_method_3_code 27 = .ok (.invokevirtual 42, 3) := by decide +kernel
theorem de_Gu_sortsSeen_30 : decode prog_4_method_3_code 30 = .ok (.ireturn, 1) := by decide +kernel
set_option maxHeartbeats 4000000 in
set_option maxRecDepth 10000 in
theorem co_Gu_sortsSeen {o : Nat} {f : Int → Int} {x B : Int} {w : ab_W} (hI : sg_ok B f) (hR : ri_at_j o f x w) (h0 n0 a0 r0 : Int) (hh0 : 0 ≤ h0) (hh1 : h0 < f 1) (hn0 : 0 ≤ n0) (hn1 : n0 ≤ 99) (ha0 : 0 ≤ a0) (ha1 : a0 ≤ 11) (hr0 : -3 ≤ r0) (hr1 : r0 ≤ 3) : ab_Mt g_G g_rs mt_Gu_sortsSeen 1 0 0 [ab_R o, ab_I h0, ab_I n0, ab_I a0, ab_I r0] w (ab_is (some (ab_I (((cs_see f h0 n0 a0 r0 : Nat) : Int)))) w) := by
  have hR0 := hR
  have hI0 := hI
  obtain ⟨sl, fs, vo, li, ra, wo, dh, da, hzz⟩ := hR
  obtain ⟨ds, dn, vw, q0, q1, q2, q3, q4, hzz⟩ := hzz
  obtain ⟨q5, q6, q7, q8, q9, q10, q11, q12, hzz⟩ := hzz
  obtain ⟨e1, e2, e3, e4, e5, e6, e7, e8, e9⟩ := hzz
  obtain ⟨i0, i1, i2, i3, i4, i5, i6, i7, hzz⟩ := sg_all hI
  obtain ⟨i8, i9, i10, i11, i12, i13, i14, i15, hzz⟩ := hzz
  obtain ⟨i16, i17⟩ := hzz
  have z2 := (e2 h0 hh0 hh1).2.1
  have z1 := (e1 h0 hh0 hh1).2.1
  have hm := rn_b hn0 hn1 hr0 hr1
  have eM : (f (143 + h0) + (a0 + n0 * r0) % 12) % 12 = (f (143 + h0) + a0 + r0 * n0) % 12 := by rw [Int.mul_comm r0 n0]; omega
  refine ab_Mt.of rfl (Nat.le_of_ble_eq_true rfl) ?_
  show ab_Ev g_G g_rs mt_Gu_sortsSeen _ _ _ 0 [some (ab_R o), some (ab_I h0), some (ab_I n0), some (ab_I a0), some (ab_I r0), none] [] _ _
  refine ev_aload_n de_Gu_sortsSeen_0 rfl rfl ?_
  refine ev_getfield de_Gu_sortsSeen_1 q0 fl_Gu_29 rfl ?_
  refine ev_iload_n de_Gu_sortsSeen_4 rfl rfl ?_
  refine ev_iaload de_Gu_sortsSeen_5 q2 (by omega) (by omega) (by omega) ?_
  refine ev_iload_n de_Gu_sortsSeen_6 rfl rfl ?_
  refine ev_iload_n de_Gu_sortsSeen_7 rfl rfl ?_
  refine ev_iload de_Gu_sortsSeen_8 rfl ?_
  refine ev_imul de_Gu_sortsSeen_10 ?_
  refine ev_iadd de_Gu_sortsSeen_11 ?_
  refine ev_sv de_Gu_sortsSeen_12 (co_Tu_wrapped _ _ (by omega)) kb_Gu_34 sc_Tu_wrapped rfl (Nat.le_of_ble_eq_true rfl) (by decide) rfl ?_
  refine ev_sv de_Gu_sortsSeen_15 (co_Tu_facedBy _ _ _ (by omega) (by omega) (by omega) (by omega)) kb_Gu_38 sc_Tu_facedBy rfl (Nat.le_of_ble_eq_true rfl) (by decide) rfl ?_
  refine ev_istore (l' := [_, _, _, _, _, _]) de_Gu_sortsSeen_18 (Nat.le_of_ble_eq_true rfl) rfl ?_
  refine ev_aload_n de_Gu_sortsSeen_20 rfl rfl ?_
  refine ev_iload de_Gu_sortsSeen_21 rfl ?_
  refine ev_iload_n de_Gu_sortsSeen_23 rfl rfl ?_
  refine ev_bipush de_Gu_sortsSeen_24 rfl ?_
  refine ev_irem de_Gu_sortsSeen_26 (by omega) (by omega) (by omega) ?_
  refine ev_top (congrArg Sum.inl ((ab_tme n0 24 (by decide)).1 hn0)) ?_
  refine ev_vv (ci := 5) de_Gu_sortsSeen_27 (co_Ri_sortsAt_j hI0 hR0 _ _ (by omega) (by omega) (by omega) (by omega)) kb_Gu_42 ⟨im_Ri_sortsAt, se_Ri_sortsAt⟩ rfl q0 rfl (Nat.le_of_ble_eq_true rfl) (by decide) rfl ?_
  exact ev_ireturn de_Gu_sortsSeen_30 rfl ⟨congrArg (fun z => some (ab_I z)) (by rw [z2, eM]; rfl), rfl⟩
theorem de_Gu_fitsDiary_0 : decode prog_4_method_4_code 0 = .ok (.aload_n 0, 1) := by decide +kernel
theorem de_Gu_fitsDiary_1 : decode prog_4_method_4_code 1 = .ok (.getfield 45, 3) := by decide +kernel
theorem de_Gu_fitsDiary_4 : decode prog_4_method_4_code 4 = .ok (.astore_n 3, 1) := by decide +kernel
theorem de_Gu_fitsDiary_5 : decode prog_4_method_4_code 5 = .ok (.iconst 0, 1) := by decide +kernel
theorem de_Gu_fitsDiary_6 : decode prog_4_method_4_code 6 = .ok (.istore 4, 2) := by decide +kernel
theorem de_Gu_fitsDiary_8 : decode prog_4_method_4_code 8 = .ok (.iload 4, 2) := by decide +kernel
theorem de_Gu_fitsDiary_10 : decode prog_4_method_4_code 10 = .ok (.aload_n 3, 1) := by decide +kernel
theorem de_Gu_fitsDiary_11 : decode prog_4_method_4_code 11 = .ok (.getfield 49, 3) := by decide +kernel
theorem de_Gu_fitsDiary_14 : decode prog_4_method_4_code 14 = .ok (.if_icmp .ge 55, 3) := by decide +kernel
theorem de_Gu_fitsDiary_17 : decode prog_4_method_4_code 17 = .ok (.aload_n 0, 1) := by decide +kernel
theorem de_Gu_fitsDiary_18 : decode prog_4_method_4_code 18 = .ok (.aload_n 3, 1) := by decide +kernel
theorem de_Gu_fitsDiary_19 : decode prog_4_method_4_code 19 = .ok (.getfield 54, 3) := by decide +kernel
theorem de_Gu_fitsDiary_22 : decode prog_4_method_4_code 22 = .ok (.iload 4, 2) := by decide +kernel
theorem de_Gu_fitsDiary_24 : decode prog_4_method_4_code 24 = .ok (.iaload, 1) := by decide +kernel
theorem de_Gu_fitsDiary_25 : decode prog_4_method_4_code 25 = .ok (.aload_n 3, 1) := by decide +kernel
theorem de_Gu_fitsDiary_26 : decode prog_4_method_4_code 26 = .ok (.getfield 57, 3) := by decide +kernel
theorem de_Gu_fitsDiary_29 : decode prog_4_method_4_code 29 = .ok (.iload 4, 2) := by decide +kernel
theorem de_Gu_fitsDiary_31 : decode prog_4_method_4_code 31 = .ok (.iaload, 1) := by decide +kernel
theorem de_Gu_fitsDiary_32 : decode prog_4_method_4_code 32 = .ok (.iload_n 1, 1) := by decide +kernel
theorem de_Gu_fitsDiary_33 : decode prog_4_method_4_code 33 = .ok (.iload_n 2, 1) := by decide +kernel
theorem de_Gu_fitsDiary_34 : decode prog_4_method_4_code 34 = .ok (.invokestatic 60, 3) := by decide +kernel
theorem de_Gu_fitsDiary_37 : decode prog_4_method_4_code 37 = .ok (.istore 5, 2) := by decide +kernel
theorem de_Gu_fitsDiary_39 : decode prog_4_method_4_code 39 = .ok (.iload 5, 2) := by decide +kernel
theorem de_Gu_fitsDiary_41 : decode prog_4_method_4_code 41 = .ok (.aload_n 3, 1) := by decide +kernel
theorem de_Gu_fitsDiary_42 : decode prog_4_method_4_code 42 = .ok (.getfield 64, 3) := by decide +kernel
theorem de_Gu_fitsDiary_45 : decode prog_4_method_4_code 45 = .ok (.iload 4, 2) := by decide +kernel
theorem de_Gu_fitsDiary_47 : decode prog_4_method_4_code 47 = .ok (.iaload, 1) := by decide +kernel
theorem de_Gu_fitsDiary_48 : decode prog_4_method_4_code 48 = .ok (.ishr, 1) := by decide +kernel
theorem de_Gu_fitsDiary_49 : decode prog_4_method_4_code 49 = .ok (.iconst 1, 1) := by decide +kernel
theorem de_Gu_fitsDiary_50 : decode prog_4_method_4_code 50 = .ok (.iand, 1) := by decide +kernel
theorem de_Gu_fitsDiary_51 : decode prog_4_method_4_code 51 = .ok (.aload_n 3, 1) := by decide +kernel
theorem de_Gu_fitsDiary_52 : decode prog_4_method_4_code 52 = .ok (.getfield 67, 3) := by decide +kernel
theorem de_Gu_fitsDiary_55 : decode prog_4_method_4_code 55 = .ok (.iload 4, 2) := by decide +kernel
theorem de_Gu_fitsDiary_57 : decode prog_4_method_4_code 57 = .ok (.iaload, 1) := by decide +kernel
theorem de_Gu_fitsDiary_58 : decode prog_4_method_4_code 58 = .ok (.if_icmp .eq 5, 3) := by decide +kernel
theorem de_Gu_fitsDiary_61 : decode prog_4_method_4_code 61 = .ok (.iconst 0, 1) := by decide +kernel
theorem de_Gu_fitsDiary_62 : decode prog_4_method_4_code 62 = .ok (.ireturn, 1) := by decide +kernel
theorem de_Gu_fitsDiary_63 : decode prog_4_method_4_code 63 = .ok (.iinc 4 1, 3) := by decide +kernel
theorem de_Gu_fitsDiary_66 : decode prog_4_method_4_code 66 = .ok (.goto (-58), 3) := by decide +kernel
theorem de_Gu_fitsDiary_69 : decode prog_4_method_4_code 69 = .ok (.iconst 1, 1) := by decide +kernel
theorem de_Gu_fitsDiary_70 : decode prog_4_method_4_code 70 = .ok (.ireturn, 1) := by decide +kernel
set_option maxHeartbeats 4000000 in
set_option maxRecDepth 10000 in
theorem lo_Gu_fitsDiary {o : Nat} {f : Int → Int} {x B : Int} {w : ab_W} (hI : sg_ok B f) (hR : ri_at_j o f x w) (hd : ∀ k, 0 ≤ k → k < f 190 → f (150 + 4 * k) < f 1) (cc a0 r0 : Int) (hc0 : 0 ≤ cc) (hc1 : cc < 84) (ha : a0 = cc / 7) (hr : r0 = cc % 7 - 3) : ∀ (n : Nat) (k : Nat) (x5 : Option ab_V), (k : Int) ≤ f 190 → f 190 < k + n → sp_fit f cc ((f 190).toNat - k) (k : Int) = sp_fits f cc → ab_Ev g_G g_rs mt_Gu_fitsDiary 2 0 0 8 [some (ab_R o), some (ab_I a0), some (ab_I r0), some (ab_R (o + 8)), some (ab_I (k : Int)), x5] [] w (ab_is (some (ab_I (sp_fits f cc))) w) := by
  intro n
  induction n with
  | zero =>
    intro k x5
    intro g1 g2 g3; omega
  | succ n ih =>
    intro k x5
    intro g1 g2 g3
    have hR0 := hR
    have hI0 := hI
    obtain ⟨sl, fs, vo, li, ra, wo, dh, da, hzz⟩ := hR
    obtain ⟨ds, dn, vw, q0, q1, q2, q3, q4, hzz⟩ := hzz
    obtain ⟨q5, q6, q7, q8, q9, q10, q11, q12, hzz⟩ := hzz
    obtain ⟨e1, e2, e3, e4, e5, e6, e7, e8, e9⟩ := hzz
    obtain ⟨i0, i1, i2, i3, i4, i5, i6, i7, hzz⟩ := sg_all hI
    obtain ⟨i8, i9, i10, i11, i12, i13, i14, i15, hzz⟩ := hzz
    obtain ⟨i16, i17⟩ := hzz
    refine ev_iload de_Gu_fitsDiary_8 rfl ?_
    refine ev_aload_n de_Gu_fitsDiary_10 rfl rfl ?_
    refine ev_getfield de_Gu_fitsDiary_11 q8 fl_Gu_49 rfl ?_
    refine ev_icmp_ge (tgt := 69) de_Gu_fitsDiary_14 (by decide) (by omega) (by omega) (fun h14 => ?_) (fun h14 => ?_)
    · skip
      have ez : (f 190).toNat - k = 0 := by omega
      rw [ez] at g3
      have g3 : (1 : Int) = sp_fits f cc := g3
      rw [← g3]
      refine ev_iconst de_Gu_fitsDiary_69 ?_
      exact ev_zreturn de_Gu_fitsDiary_70 rfl (by decide) ⟨rfl, rfl⟩
    · skip
      have em : (f 190).toNat - k = ((f 190).toNat - (k + 1)) + 1 := by omega
      obtain ⟨b1, b2, b3, b4⟩ := e8 (k : Int) (by omega) (by omega)
      obtain ⟨z1, z2, z3, z4⟩ := e9 (k : Int) (by omega) (by omega)
      have hd1 := hd (k : Int) (by omega) (by omega)
      have es : sp_saw f cc (f (150 + 4 * (k : Int))) (f (150 + 4 * (k : Int) + 1)) (f (150 + 4 * (k : Int) + 2)) = bit_at (cs_see f (dh (k : Int)) (da (k : Int)) a0 r0) (ds (k : Int)).toNat := by rw [← z1, ← z2, ← z3, ha, hr]; rfl
      have sl := see_lt hI0 (dh (k : Int)) (da (k : Int)) a0 r0
      have qb := bit_at_01 (cs_see f (dh (k : Int)) (da (k : Int)) a0 r0) (ds (k : Int)).toNat
      refine ev_aload_n de_Gu_fitsDiary_17 rfl rfl ?_
      refine ev_aload_n de_Gu_fitsDiary_18 rfl rfl ?_
      refine ev_getfield de_Gu_fitsDiary_19 q8 fl_Gu_54 rfl ?_
      refine ev_iload de_Gu_fitsDiary_22 rfl ?_
      refine ev_iaload de_Gu_fitsDiary_24 q9 (by omega) (by omega) (by omega) ?_
      refine ev_aload_n de_Gu_fitsDiary_25 rfl rfl ?_
      refine ev_getfield de_Gu_fitsDiary_26 q8 fl_Gu_57 rfl ?_
      refine ev_iload de_Gu_fitsDiary_29 rfl ?_
      refine ev_iaload de_Gu_fitsDiary_31 q10 (by omega) (by omega) (by omega) ?_
      refine ev_iload_n de_Gu_fitsDiary_32 rfl rfl ?_
      refine ev_iload_n de_Gu_fitsDiary_33 rfl rfl ?_
      refine ev_sv de_Gu_fitsDiary_34 (co_Gu_sortsSeen hI0 hR0 _ _ _ _ (by omega) (by omega) (by omega) (by omega) (by omega) (by omega) (by omega) (by omega)) kb_Gu_60 sc_Gu_sortsSeen rfl (Nat.le_of_ble_eq_true rfl) (by decide) rfl ?_
      refine ev_istore (l' := [_, _, _, _, _, _]) de_Gu_fitsDiary_37 (Nat.le_of_ble_eq_true rfl) rfl ?_
      refine ev_iload de_Gu_fitsDiary_39 rfl ?_
      refine ev_aload_n de_Gu_fitsDiary_41 rfl rfl ?_
      refine ev_getfield de_Gu_fitsDiary_42 q8 fl_Gu_64 rfl ?_
      refine ev_iload de_Gu_fitsDiary_45 rfl ?_
      refine ev_iaload de_Gu_fitsDiary_47 q11 (by omega) (by omega) (by omega) ?_
      refine ev_ishr de_Gu_fitsDiary_48 (by omega) (by omega) (by omega) ?_
      refine ev_iconst de_Gu_fitsDiary_49 ?_
      refine ev_iand de_Gu_fitsDiary_50 ?_
      refine ev_top (congrArg Sum.inl (show _ = bit_at (cs_see f (dh (k : Int)) (da (k : Int)) a0 r0) (ds (k : Int)).toNat from ab_bit (by omega) (by omega))) ?_
      refine ev_aload_n de_Gu_fitsDiary_51 rfl rfl ?_
      refine ev_getfield de_Gu_fitsDiary_52 q8 fl_Gu_67 rfl ?_
      refine ev_iload de_Gu_fitsDiary_55 rfl ?_
      refine ev_iaload de_Gu_fitsDiary_57 q12 (by omega) (by omega) (by omega) ?_
      refine ev_icmp_eq (tgt := 63) de_Gu_fitsDiary_58 (by decide) (by first | omega | (show ab_in (bit_at (cs_see f (dh (k : Int)) (da (k : Int)) a0 r0) (ds (k : Int)).toNat); omega)) (by first | omega | (show ab_in (bit_at (cs_see f (dh (k : Int)) (da (k : Int)) a0 r0) (ds (k : Int)).toNat); omega)) (fun h58 => ?_) (fun h58 => ?_)
      · skip
        refine ev_iinc (l' := [_, _, _, _, _, _]) de_Gu_fitsDiary_63 rfl rfl ?_
        refine ev_goto (tgt := 8) de_Gu_fitsDiary_66 (by decide) ?_
        exact ih (k + 1) _ (by omega) (by omega) (by rw [← g3, em]; show _ = (if _ then _ else _); rw [if_pos (by rw [es, ← z4]; exact h58)]; rfl)
      · skip
        have ef : sp_fits f cc = 0 := by rw [← g3, em]; show (if _ then _ else _) = _; rw [if_neg (by rw [es, ← z4]; exact h58)]
        rw [ef]
        refine ev_iconst de_Gu_fitsDiary_61 ?_
        exact ev_zreturn de_Gu_fitsDiary_62 rfl (by decide) ⟨rfl, rfl⟩
set_option maxHeartbeats 4000000 in
set_option maxRecDepth 10000 in
theorem co_Gu_fitsDiary {o : Nat} {f : Int → Int} {x B : Int} {w : ab_W} (hI : sg_ok B f) (hR : ri_at_j o f x w) (hd : ∀ k, 0 ≤ k → k < f 190 → f (150 + 4 * k) < f 1) (cc a0 r0 : Int) (hc0 : 0 ≤ cc) (hc1 : cc < 84) (ha : a0 = cc / 7) (hr : r0 = cc % 7 - 3) : ab_Mt g_G g_rs mt_Gu_fitsDiary 2 0 0 [ab_R o, ab_I a0, ab_I r0] w (ab_is (some (ab_I (sp_fits f cc))) w) := by
  have hR0 := hR
  have hI0 := hI
  obtain ⟨sl, fs, vo, li, ra, wo, dh, da, hzz⟩ := hR
  obtain ⟨ds, dn, vw, q0, q1, q2, q3, q4, hzz⟩ := hzz
  obtain ⟨q5, q6, q7, q8, q9, q10, q11, q12, hzz⟩ := hzz
  obtain ⟨e1, e2, e3, e4, e5, e6, e7, e8, e9⟩ := hzz
  obtain ⟨i0, i1, i2, i3, i4, i5, i6, i7, hzz⟩ := sg_all hI
  obtain ⟨i8, i9, i10, i11, i12, i13, i14, i15, hzz⟩ := hzz
  obtain ⟨i16, i17⟩ := hzz
  refine ab_Mt.of rfl (Nat.le_of_ble_eq_true rfl) ?_
  show ab_Ev g_G g_rs mt_Gu_fitsDiary _ _ _ 0 [some (ab_R o), some (ab_I a0), some (ab_I r0), none, none, none] [] _ _
  refine ev_aload_n de_Gu_fitsDiary_0 rfl rfl ?_
  refine ev_getfield de_Gu_fitsDiary_1 q0 fl_Gu_45 rfl ?_
  refine ev_astore_n (l' := [_, _, _, _, _, _]) de_Gu_fitsDiary_4 rfl (Nat.le_of_ble_eq_true rfl) rfl ?_
  refine ev_iconst de_Gu_fitsDiary_5 ?_
  refine ev_istore (l' := [_, _, _, _, _, _]) de_Gu_fitsDiary_6 (Nat.le_of_ble_eq_true rfl) rfl ?_
  exact lo_Gu_fitsDiary hI0 hR0 hd cc a0 r0 hc0 hc1 ha hr ((f 190).toNat + 1) 0 _ (by omega) (by omega) (by rw [Nat.sub_zero]; rfl)
theorem de_Gu_findTurns_0 : decode prog_4_method_2_code 0 = .ok (.aload_n 0, 1) := by decide +kernel
theorem de_Gu_findTurns_1 : decode prog_4_method_2_code 1 = .ok (.iconst 0, 1) := by decide +kernel
theorem de_Gu_findTurns_2 : decode prog_4_method_2_code 2 = .ok (.putfield 21, 3) := by decide +kernel
theorem de_Gu_findTurns_5 : decode prog_4_method_2_code 5 = .ok (.iconst 0, 1) := by decide +kernel
theorem de_Gu_findTurns_6 : decode prog_4_method_2_code 6 = .ok (.istore_n 2, 1) := by decide +kernel
theorem de_Gu_findTurns_7 : decode prog_4_method_2_code 7 = .ok (.iload_n 2, 1) := by decide +kernel
theorem de_Gu_findTurns_8 : decode prog_4_method_2_code 8 = .ok (.bipush 12, 2) := by decide +kernel
theorem de_Gu_findTurns_10 : decode prog_4_method_2_code 10 = .ok (.if_icmp .ge 62, 3) := by decide +kernel
theorem de_Gu_findTurns_13 : decode prog_4_method_2_code 13 = .ok (.bipush (-3), 2) := by decide +kernel
theorem de_Gu_findTurns_15 : decode prog_4_method_2_code 15 = .ok (.istore_n 3, 1) := by decide +kernel
theorem de_Gu_findTurns_16 : decode prog_4_method_2_code 16 = .ok (.iload_n 3, 1) := by decide +kernel
theorem de_Gu_findTurns_17 : decode prog_4_method_2_code 17 = .ok (.iconst 3, 1) := by decide +kernel
theorem de_Gu_findTurns_18 : decode prog_4_method_2_code 18 = .ok (.if_icmp .gt 48, 3) := by decide +kernel
theorem de_Gu_findTurns_21 : decode prog_4_method_2_code 21 = .ok (.aload_n 1, 1) := by decide +kernel
theorem de_Gu_findTurns_22 : decode prog_4_method_2_code 22 = .ok (.iload_n 2, 1) := by decide +kernel
theorem de_Gu_findTurns_23 : decode prog_4_method_2_code 23 = .ok (.iload_n 3, 1) := by decide +kernel
theorem de_Gu_findTurns_24 : decode prog_4_method_2_code 24 = .ok (.invokestatic 25, 3) := by decide +kernel
theorem de_Gu_findTurns_27 : decode prog_4_method_2_code 27 = .ok (.ifCond .eq 33, 3) := by decide +kernel
theorem de_Gu_findTurns_30 : decode prog_4_method_2_code 30 = .ok (.aload_n 0, 1) := by decide +kernel
theorem de_Gu_findTurns_31 : decode prog_4_method_2_code 31 = .ok (.getfield 11, 3) := by decide +kernel
theorem de_Gu_findTurns_34 : decode prog_4_method_2_code 34 = .ok (.aload_n 0, 1) := by decide +kernel
theorem de_Gu_findTurns_35 : decode prog_4_method_2_code 35 = .ok (.getfield 21, 3) := by decide +kernel
theorem de_Gu_findTurns_38 : decode prog_4_method_2_code 38 = .ok (.iload_n 2, 1) := by decide +kernel
theorem de_Gu_findTurns_39 : decode prog_4_method_2_code 39 = .ok (.iastore, 1) := by decide +kernel
theorem de_Gu_findTurns_40 : decode prog_4_method_2_code 40 = .ok (.aload_n 0, 1) := by decide +kernel
theorem de_Gu_findTurns_41 : decode prog_4_method_2_code 41 = .ok (.getfield 15, 3) := by decide +kernel
theorem de_Gu_findTurns_44 : decode prog_4_method_2_code 44 = .ok (.aload_n 0, 1) := by decide +kernel
theorem de_Gu_findTurns_45 : decode prog_4_method_2_code 45 = .ok (.getfield 21, 3) := by decide +kernel
theorem de_Gu_findTurns_48 : decode prog_4_method_2_code 48 = .ok (.iload_n 3, 1) := by decide +kernel
theorem de_Gu_findTurns_49 : decode prog_4_method_2_code 49 = .ok (.iastore, 1) := by decide +kernel
theorem de_Gu_findTurns_50 : decode prog_4_method_2_code 50 = .ok (.aload_n 0, 1) := by decide +kernel
theorem de_Gu_findTurns_51 : decode prog_4_method_2_code 51 = .ok (.dup, 1) := by decide +kernel
theorem de_Gu_findTurns_52 : decode prog_4_method_2_code 52 = .ok (.getfield 21, 3) := by decide +kernel
theorem de_Gu_findTurns_55 : decode prog_4_method_2_code 55 = .ok (.iconst 1, 1) := by decide +kernel
theorem de_Gu_findTurns_56 : decode prog_4_method_2_code 56 = .ok (.iadd, 1) := by decide +kernel
theorem de_Gu_findTurns_57 : decode prog_4_method_2_code 57 = .ok (.putfield 21, 3) := by decide +kernel
theorem de_Gu_findTurns_60 : decode prog_4_method_2_code 60 = .ok (.iinc 3 1, 3) := by decide +kernel
theorem de_Gu_findTurns_63 : decode prog_4_method_2_code 63 = .ok (.goto (-47), 3) := by decide +kernel
theorem de_Gu_findTurns_66 : decode prog_4_method_2_code 66 = .ok (.iinc 2 1, 3) := by decide +kernel
theorem de_Gu_findTurns_69 : decode prog_4_method_2_code 69 = .ok (.goto (-62), 3) := by decide +kernel
theorem de_Gu_findTurns_72 : decode prog_4_method_2_code 72 = .ok (.return_, 1) := by decide +kernel
set_option maxHeartbeats 4000000 in
set_option maxRecDepth 10000 in
theorem li_Gu_findTurns {o g : Nat} {f : Int → Int} {x B : Int} {w0 : ab_W} (hI : sg_ok B f) (hR : ri_at_j o f x w0) (hd : ∀ k, 0 ≤ k → k < f 190 → f (150 + 4 * k) < f 1) (hdj : o + 13 ≤ g ∨ g + 4 ≤ o) (sn : Int → Int) (la gp : Int) (a : Nat) (ha : a ≤ 11) (Q : Option ab_V → ab_W → Prop) (hq : ∀ (an ra : Int → Int) (w : ab_W), gua g an ra (sp_many f (7 * (a + 1))) sn la gp w → en_ (gl f (7 * (a + 1))) an ra → fr_at g 4 w0 w → ab_Ev g_G g_rs mt_Gu_findTurns 3 0 0 66 [some (ab_R g), some (ab_R o), some (ab_I (a : Int)), some (ab_I 4)] [] w Q) : ∀ (n : Nat) (j : Nat) (an ra : Int → Int) (w : ab_W), j ≤ 7 → 7 < j + n → gua g an ra (sp_many f (7 * a + j)) sn la gp w → en_ (gl f (7 * a + j)) an ra → fr_at g 4 w0 w → ab_Ev g_G g_rs mt_Gu_findTurns 3 0 0 16 [some (ab_R g), some (ab_R o), some (ab_I (a : Int)), some (ab_I ((j : Int) - 3))] [] w Q := by
  intro n
  induction n with
  | zero =>
    intro j an ra w
    intro e1 e2 hG hE hf; omega
  | succ n ih =>
    intro j an ra w
    intro e1 e2 hG hE hf
    obtain ⟨g0, g1, g2, g3⟩ := id hG
    have hl := gl_len f (7 * a + j)
    obtain ⟨i0, i1, i2, i3, i4, i5, i6, i7, hzz⟩ := sg_all hI
    obtain ⟨i8, i9, i10, i11, i12, i13, i14, i15, hzz⟩ := hzz
    obtain ⟨i16, i17⟩ := hzz
    have hRw := rj_fr hR hf (by omega)
    refine ev_iload_n de_Gu_findTurns_16 rfl rfl ?_
    refine ev_iconst de_Gu_findTurns_17 ?_
    refine ev_icmp_gt (tgt := 66) de_Gu_findTurns_18 (by decide) (by omega) (by omega) (fun h18 => ?_) (fun h18 => ?_)
    · skip
      have ej : j = 7 := by omega
      subst ej
      exact hq _ _ _ hG hE hf
    · skip
      have ec : ((7 * a + j : Nat) : Int) = 7 * (a : Int) + (j : Int) := by omega
      refine ev_aload_n de_Gu_findTurns_21 rfl rfl ?_
      refine ev_iload_n de_Gu_findTurns_22 rfl rfl ?_
      refine ev_iload_n de_Gu_findTurns_23 rfl rfl ?_
      refine ev_sv de_Gu_findTurns_24 (co_Gu_fitsDiary hI hRw hd (((7 * a + j) : Nat) : Int) _ _ (by omega) (by omega) (by omega) (by omega)) kb_Gu_25 sc_Gu_fitsDiary rfl (Nat.le_of_ble_eq_true rfl) (by decide) rfl ?_
      refine ev_if_eq (tgt := 60) de_Gu_findTurns_27 (by decide) (by have := sp_fit_01 f (((7 * a + j) : Nat) : Int) (f 190).toNat 0; show ab_in (sp_fit f (((7 * a + j) : Nat) : Int) (f 190).toNat 0); omega) (fun h27 => ?_) (fun h27 => ?_)
      · skip
        have hG9 : gua g an ra (sp_many f (7 * a + (j + 1))) sn la gp w := by
          show gua g an ra (if sp_fits f ((7 * a + j : Nat) : Int) = 0 then sp_many f (7 * a + j) else _) sn la gp w
          rw [if_pos h27]
          exact hG
        have hE9 : en_ (gl f (7 * a + (j + 1))) an ra := by
          show en_ (if sp_fits f ((7 * a + j : Nat) : Int) = 0 then gl f (7 * a + j) else _) an ra
          rw [if_pos h27]
          exact hE
        refine ev_iinc (l' := [_, _, _, _]) de_Gu_findTurns_60 rfl rfl ?_
        refine ev_goto (tgt := 16) de_Gu_findTurns_63 (by decide) ?_
        refine ev_loc (l2 := [some (ab_R g), some (ab_R o), some (ab_I (a : Int)), some (ab_I (((j + 1 : Nat) : Int) - 3))]) (by rw [show (((j + 1 : Nat) : Int) - 3) = (j : Int) - 3 + 1 by omega]) ?_
        exact ih (j + 1) _ _ _ (by omega) (by omega) hG9 hE9 hf
      · skip
        have e7 : (a : Int) = ((7 * a + j : Nat) : Int) / 7 := by omega
        have e8 : (j : Int) - 3 = ((7 * a + j : Nat) : Int) % 7 - 3 := by omega
        have e9 := en_app hE hl.1.symm e7 e8
        refine ev_aload_n de_Gu_findTurns_30 rfl rfl ?_
        refine ev_getfield de_Gu_findTurns_31 g0 fl_Gu_11 rfl ?_
        refine ev_aload_n de_Gu_findTurns_34 rfl rfl ?_
        refine ev_getfield de_Gu_findTurns_35 g0 fl_Gu_21 rfl ?_
        refine ev_iload_n de_Gu_findTurns_38 rfl rfl ?_
        refine ev_iastore de_Gu_findTurns_39 g1 (by omega) (by omega) (by omega) ?_
        refine ev_gen (P := fun w1 => gua g (ab_up an (sp_many f (7 * a + j)) (a : Int)) ra (sp_many f (7 * a + j)) sn la gp w1 ∧ fr_at g 4 w0 w1) ⟨gua_1 hG, fr_set hf (by omega) (by omega)⟩ (fun w1 hm1 => ?_)
        obtain ⟨hG, hf⟩ := hm1
        obtain ⟨g0, g1, g2, g3⟩ := id hG
        refine ev_aload_n de_Gu_findTurns_40 rfl rfl ?_
        refine ev_getfield de_Gu_findTurns_41 g0 fl_Gu_15 rfl ?_
        refine ev_aload_n de_Gu_findTurns_44 rfl rfl ?_
        refine ev_getfield de_Gu_findTurns_45 g0 fl_Gu_21 rfl ?_
        refine ev_iload_n de_Gu_findTurns_48 rfl rfl ?_
        refine ev_iastore de_Gu_findTurns_49 g2 (by omega) (by omega) (by omega) ?_
        refine ev_gen (P := fun w1 => gua g (ab_up an (sp_many f (7 * a + j)) (a : Int)) (ab_up ra (sp_many f (7 * a + j)) ((j : Int) - 3)) (sp_many f (7 * a + j)) sn la gp w1 ∧ fr_at g 4 w0 w1) ⟨gua_2 hG, fr_set hf (by omega) (by omega)⟩ (fun w1 hm1 => ?_)
        obtain ⟨hG, hf⟩ := hm1
        obtain ⟨g0, g1, g2, g3⟩ := id hG
        refine ev_aload_n de_Gu_findTurns_50 rfl rfl ?_
        refine ev_dup de_Gu_findTurns_51 rfl ?_
        refine ev_getfield de_Gu_findTurns_52 g0 fl_Gu_21 rfl ?_
        refine ev_iconst de_Gu_findTurns_55 ?_
        refine ev_iadd de_Gu_findTurns_56 ?_
        refine ev_putfield de_Gu_findTurns_57 g0 (fp_Gu_21 _) (Nat.le_of_ble_eq_true rfl) trivial ?_
        refine ev_gen (P := fun w1 => gua g (ab_up an (sp_many f (7 * a + j)) (a : Int)) (ab_up ra (sp_many f (7 * a + j)) ((j : Int) - 3)) (sp_many f (7 * a + j) + 1) sn la gp w1 ∧ fr_at g 4 w0 w1) ⟨gua_o hG, fr_set hf (by omega) (by omega)⟩ (fun w1 hm1 => ?_)
        obtain ⟨hG, hf⟩ := hm1
        obtain ⟨g0, g1, g2, g3⟩ := id hG
        have hG9 : gua g (ab_up an (sp_many f (7 * a + j)) (a : Int)) (ab_up ra (sp_many f (7 * a + j)) ((j : Int) - 3)) (sp_many f (7 * a + (j + 1))) sn la gp w1 := by
          show gua g _ _ (if sp_fits f ((7 * a + j : Nat) : Int) = 0 then _ else sp_many f (7 * a + j) + 1) sn la gp w1
          rw [if_neg h27]
          exact hG
        have hE9 : en_ (gl f (7 * a + (j + 1))) (ab_up an (sp_many f (7 * a + j)) (a : Int)) (ab_up ra (sp_many f (7 * a + j)) ((j : Int) - 3)) := by
          show en_ (if sp_fits f ((7 * a + j : Nat) : Int) = 0 then _ else gl f (7 * a + j) ++ [((7 * a + j : Nat) : Int)]) _ _
          rw [if_neg h27]
          exact e9
        refine ev_iinc (l' := [_, _, _, _]) de_Gu_findTurns_60 rfl rfl ?_
        refine ev_goto (tgt := 16) de_Gu_findTurns_63 (by decide) ?_
        refine ev_loc (l2 := [some (ab_R g), some (ab_R o), some (ab_I (a : Int)), some (ab_I (((j + 1 : Nat) : Int) - 3))]) (by rw [show (((j + 1 : Nat) : Int) - 3) = (j : Int) - 3 + 1 by omega]) ?_
        exact ih (j + 1) _ _ _ (by omega) (by omega) hG9 hE9 hf
set_option maxHeartbeats 4000000 in
set_option maxRecDepth 10000 in
theorem lo_Gu_findTurns {o g : Nat} {f : Int → Int} {x B : Int} {w0 : ab_W} (hI : sg_ok B f) (hR : ri_at_j o f x w0) (hd : ∀ k, 0 ≤ k → k < f 190 → f (150 + 4 * k) < f 1) (hdj : o + 13 ≤ g ∨ g + 4 ≤ o) (sn : Int → Int) (la gp : Int) : ∀ (n : Nat) (a : Nat) (x3 : Option ab_V) (an ra : Int → Int) (w : ab_W), a ≤ 12 → 12 < a + n → gua g an ra (sp_many f (7 * a)) sn la gp w → en_ (gl f (7 * a)) an ra → fr_at g 4 w0 w → ab_Ev g_G g_rs mt_Gu_findTurns 3 0 0 7 [some (ab_R g), some (ab_R o), some (ab_I (a : Int)), x3] [] w (fun r w2 => r = none ∧ (∃ an ra : Int → Int, gua g an ra (sp_many f 84) sn la gp w2 ∧ en_ (gl f 84) an ra) ∧ fr_at g 4 w0 w2) := by
  intro n
  induction n with
  | zero =>
    intro a x3 an ra w
    intro e1 e2 hG hE hf; omega
  | succ n ih =>
    intro a x3 an ra w
    intro e1 e2 hG hE hf
    obtain ⟨g0, g1, g2, g3⟩ := id hG
    refine ev_iload_n de_Gu_findTurns_7 rfl rfl ?_
    refine ev_bipush de_Gu_findTurns_8 rfl ?_
    refine ev_icmp_ge (tgt := 72) de_Gu_findTurns_10 (by decide) (by omega) (by omega) (fun h10 => ?_) (fun h10 => ?_)
    · skip
      have ea : a = 12 := by omega
      subst ea
      exact ev_return de_Gu_findTurns_72 rfl ⟨rfl, ⟨_, _, hG, hE⟩, hf⟩
    · skip
      refine ev_bipush de_Gu_findTurns_13 rfl ?_
      refine ev_istore_n (l' := [_, _, _, _]) de_Gu_findTurns_15 rfl (Nat.le_of_ble_eq_true rfl) rfl ?_
      refine li_Gu_findTurns hI hR hd hdj sn la gp a (by omega) _ (fun an ra w hG hE hf => ?_) 8 0 an ra w (by decide) (by decide) hG hE hf
      refine ev_iinc (l' := [_, _, _, _]) de_Gu_findTurns_66 rfl rfl ?_
      refine ev_goto (tgt := 7) de_Gu_findTurns_69 (by decide) ?_
      exact ih (a + 1) _ _ _ _ (by omega) (by omega) hG hE hf
set_option maxHeartbeats 4000000 in
set_option maxRecDepth 10000 in
theorem co_Gu_findTurns {o g : Nat} {f : Int → Int} {x B : Int} {w0 : ab_W} (hI : sg_ok B f) (hR : ri_at_j o f x w0) (hd : ∀ k, 0 ≤ k → k < f 190 → f (150 + 4 * k) < f 1) (hdj : o + 13 ≤ g ∨ g + 4 ≤ o) (sn : Int → Int) (la gp : Int) {an ra : Int → Int} {tu : Int} (hG : gua g an ra tu sn la gp w0) : ab_Mt g_G g_rs mt_Gu_findTurns 3 0 0 [ab_R g, ab_R o] w0 (fun r w2 => r = none ∧ (∃ an ra : Int → Int, gua g an ra (sp_many f 84) sn la gp w2 ∧ en_ (gl f 84) an ra) ∧ fr_at g 4 w0 w2) := by
  obtain ⟨g0, g1, g2, g3⟩ := id hG
  refine ab_Mt.of rfl (Nat.le_of_ble_eq_true rfl) ?_
  show ab_Ev g_G g_rs mt_Gu_findTurns _ _ _ 0 [some (ab_R g), some (ab_R o), none, none] [] _ _
  refine ev_aload_n de_Gu_findTurns_0 rfl rfl ?_
  refine ev_iconst de_Gu_findTurns_1 ?_
  refine ev_putfield de_Gu_findTurns_2 g0 (fp_Gu_21 _) (Nat.le_of_ble_eq_true rfl) trivial ?_
  refine ev_gen (P := fun w1 => gua g an ra 0 sn la gp w1 ∧ fr_at g 4 w0 w1) ⟨gua_o hG, fr_set fr_0 (by omega) (by omega)⟩ (fun w1 hm1 => ?_)
  obtain ⟨hG, hf⟩ := hm1
  refine ev_iconst de_Gu_findTurns_5 ?_
  refine ev_istore_n (l' := [_, _, _, _]) de_Gu_findTurns_6 rfl (Nat.le_of_ble_eq_true rfl) rfl ?_
  exact lo_Gu_findTurns hI hR hd hdj sn la gp 13 0 _ an ra w1 (by decide) (by decide) hG (en_0 _ _) hf