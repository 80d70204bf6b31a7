set_option maxHeartbeats 4000000 in
set_option maxRecDepth 10000 in
theorem gt_Ta_takeNumber {N : Nat} {T : Nat → tm_S} {w : ab_W} {f : Int → Int} {K : Nat} {L : Int} {G : a_S} {tp : Nat} (hW : tm_W N T w) (h_tp : is_Ta T tp) (a : Int) (l_a : (-2147483648) ≤ a) (u_a : a ≤ 2147483647) (b : Int) (l_b : (-2147483648) ≤ b) (u_b : b ≤ 2147483647) (hK : K < g_ln.length) (hG : a_T f K L tp w G) : ab_Mt g_G g_rs mt_Ta_takeNumber 6 0 0 [ab_R tp, ab_I a, ab_I b] w (tm_Qi N T (fun v w2 => (∀ (p : Nat) (j : Int), ¬ ((p = tp ∧ (j = 2 ∨ j = 5 ∨ j = 6 ∨ j = 7 ∨ j = 8 ∨ j = 4))) → tm_g w2 p j = tm_g w p j) ∧ ((-2147483648) ≤ v ∧ v ≤ 2147483647 ∧ (v = b_tkv f L a b G ∧ a_T f K L tp w2 (b_tkg f L a b G))))) := by
  obtain ⟨tpt0, tpt1⟩ := id h_tp
  have hF0 : ∀ (p : Nat) (j : Int), ¬ ((p = tp ∧ (j = 2 ∨ j = 5 ∨ j = 6 ∨ j = 7 ∨ j = 8 ∨ j = 4))) → tm_g w p j = tm_g w p j := fun _ _ _ => rfl
  refine ab_Mt.of rfl (Nat.le_of_ble_eq_true rfl) ?_
  show ab_Ev g_G g_rs mt_Ta_takeNumber _ _ _ 0 [some (ab_R tp), some (ab_I a), some (ab_I b), none] [] _ _
  refine ev_aload_n dt_Ta_takeNumber_0 rfl rfl ?_
  refine tm_getK (K := 7) dt_Ta_takeNumber_1 hW tpt0 fl_Ta_40 rfl (a_T_nb hG) ?_
  have gb1 := tm_kb (k := 7) (K := 7) hW tpt0 rfl rfl (a_T_nb hG)
  refine ev_istore_n (l' := [_, _, _, _]) dt_Ta_takeNumber_4 rfl (Nat.le_of_ble_eq_true rfl) rfl ?_
  refine ev_aload_n dt_Ta_takeNumber_5 rfl rfl ?_
  refine tm_getK (K := 6) dt_Ta_takeNumber_6 hW tpt0 fl_Ta_37 rfl (a_T_sg hG) ?_
  have gb2 := tm_kb (k := 6) (K := 6) hW tpt0 rfl rfl (a_T_sg hG)
  refine ev_bipush dt_Ta_takeNumber_9 rfl ?_
  refine ev_icmp_eq (tgt := 22) dt_Ta_takeNumber_11 (by decide) (by omega) (by omega) (fun h3 => ?_) (fun h3 => ?_)
  · skip
    refine ev_iload_n dt_Ta_takeNumber_22 rfl rfl ?_
    refine ev_iload_n dt_Ta_takeNumber_23 rfl rfl ?_
    refine ev_icmp_lt (tgt := 37) dt_Ta_takeNumber_24 (by decide) (by omega) (by omega) (fun h4 => ?_) (fun h4 => ?_)
    · skip
      refine ev_aload_n dt_Ta_takeNumber_37 rfl rfl ?_
      refine ev_iconst dt_Ta_takeNumber_38 ?_
      refine tm_vv dt_Ta_takeNumber_39 (gt_fail hW h_tp (1) (by omega) (by omega) hK hG) kb_Ta_64 ⟨im_Ta_fail, se_Ta_fail⟩ rfl hW tpt0 rfl (Nat.le_of_ble_eq_true rfl) (by decide) (fun w5 hWw5 hRw5 => ?_)
      obtain ⟨hfw5, hpw5⟩ := hRw5
      have hFw5 : ∀ (p : Nat) (j : Int), ¬ ((p = tp ∧ (j = 2 ∨ j = 5 ∨ j = 6 ∨ j = 7 ∨ j = 8 ∨ j = 4))) → tm_g w5 p j = tm_g w p j := fun p j h => (hfw5 p j (by omega)).trans (hF0 p j h)
      refine ev_goto (tgt := 51) dt_Ta_takeNumber_42 (by decide) ?_
      refine ev_iconst dt_Ta_takeNumber_51 ?_
      exact ev_ireturn dt_Ta_takeNumber_52 rfl ⟨hWw5, _, rfl, ⟨hFw5, ⟨by omega, by omega, (by unfold b_tkv; (repeat' split) <;> omega), (a_T_eq hpw5 (by unfold b_tkg; (repeat' split) <;> first | rfl | (exfalso; omega)))⟩⟩⟩
    · skip
      refine ev_iload_n dt_Ta_takeNumber_27 rfl rfl ?_
      refine ev_iload_n dt_Ta_takeNumber_28 rfl rfl ?_
      refine ev_icmp_gt (tgt := 37) dt_Ta_takeNumber_29 (by decide) (by omega) (by omega) (fun h6 => ?_) (fun h6 => ?_)
      · skip
        refine ev_aload_n dt_Ta_takeNumber_37 rfl rfl ?_
        refine ev_iconst dt_Ta_takeNumber_38 ?_
        refine tm_vv dt_Ta_takeNumber_39 (gt_fail hW h_tp (1) (by omega) (by omega) hK hG) kb_Ta_64 ⟨im_Ta_fail, se_Ta_fail⟩ rfl hW tpt0 rfl (Nat.le_of_ble_eq_true rfl) (by decide) (fun w7 hWw7 hRw7 => ?_)
        obtain ⟨hfw7, hpw7⟩ := hRw7
        have hFw7 : ∀ (p : Nat) (j : Int), ¬ ((p = tp ∧ (j = 2 ∨ j = 5 ∨ j = 6 ∨ j = 7 ∨ j = 8 ∨ j = 4))) → tm_g w7 p j = tm_g w p j := fun p j h => (hfw7 p j (by omega)).trans (hF0 p j h)
        refine ev_goto (tgt := 51) dt_Ta_takeNumber_42 (by decide) ?_
        refine ev_iconst dt_Ta_takeNumber_51 ?_
        exact ev_ireturn dt_Ta_takeNumber_52 rfl ⟨hWw7, _, rfl, ⟨hFw7, ⟨by omega, by omega, (by unfold b_tkv; (repeat' split) <;> omega), (a_T_eq hpw7 (by unfold b_tkg; (repeat' split) <;> first | rfl | (exfalso; omega)))⟩⟩⟩
      · skip
        refine ev_iload_n dt_Ta_takeNumber_32 rfl rfl ?_
        refine ev_iconst dt_Ta_takeNumber_33 ?_
        refine ev_icmp_ne (tgt := 45) dt_Ta_takeNumber_34 (by decide) (by omega) (by omega) (fun h8 => ?_) (fun h8 => ?_)
        · skip
          refine ev_aload_n dt_Ta_takeNumber_45 rfl rfl ?_
          refine tm_vv dt_Ta_takeNumber_46 (gt_advance hW h_tp hK hG) kb_Ta_31 ⟨im_Ta_advance, se_Ta_advance⟩ rfl hW tpt0 rfl (Nat.le_of_ble_eq_true rfl) (by decide) (fun w9 hWw9 hRw9 => ?_)
          obtain ⟨hfw9, hpw9⟩ := hRw9
          have hFw9 : ∀ (p : Nat) (j : Int), ¬ ((p = tp ∧ (j = 2 ∨ j = 5 ∨ j = 6 ∨ j = 7 ∨ j = 8 ∨ j = 4))) → tm_g w9 p j = tm_g w p j := fun p j h => (hfw9 p j (by omega)).trans (hF0 p j h)
          refine ev_iload_n dt_Ta_takeNumber_49 rfl rfl ?_
          exact ev_ireturn dt_Ta_takeNumber_50 rfl ⟨hWw9, _, rfl, ⟨hFw9, ⟨by omega, by omega, (by unfold b_tkv; (repeat' split) <;> omega), (a_T_eq hpw9 (by unfold b_tkg; (repeat' split) <;> first | rfl | (exfalso; omega)))⟩⟩⟩
        · skip
          refine ev_aload_n dt_Ta_takeNumber_37 rfl rfl ?_
          refine ev_iconst dt_Ta_takeNumber_38 ?_
          refine tm_vv dt_Ta_takeNumber_39 (gt_fail hW h_tp (1) (by omega) (by omega) hK hG) kb_Ta_64 ⟨im_Ta_fail, se_Ta_fail⟩ rfl hW tpt0 rfl (Nat.le_of_ble_eq_true rfl) (by decide) (fun w10 hWw10 hRw10 => ?_)
          obtain ⟨hfw10, hpw10⟩ := hRw10
          have hFw10 : ∀ (p : Nat) (j : Int), ¬ ((p = tp ∧ (j = 2 ∨ j = 5 ∨ j = 6 ∨ j = 7 ∨ j = 8 ∨ j = 4))) → tm_g w10 p j = tm_g w p j := fun p j h => (hfw10 p j (by omega)).trans (hF0 p j h)
          refine ev_goto (tgt := 51) dt_Ta_takeNumber_42 (by decide) ?_
          refine ev_iconst dt_Ta_takeNumber_51 ?_
          exact ev_ireturn dt_Ta_takeNumber_52 rfl ⟨hWw10, _, rfl, ⟨hFw10, ⟨by omega, by omega, (by unfold b_tkv; (repeat' split) <;> omega), (a_T_eq hpw10 (by unfold b_tkg; (repeat' split) <;> first | rfl | (exfalso; omega)))⟩⟩⟩
  · skip
    refine ev_aload_n dt_Ta_takeNumber_14 rfl rfl ?_
    refine ev_iconst dt_Ta_takeNumber_15 ?_
    refine tm_vv dt_Ta_takeNumber_16 (gt_fail hW h_tp (0) (by omega) (by omega) hK hG) kb_Ta_64 ⟨im_Ta_fail, se_Ta_fail⟩ rfl hW tpt0 rfl (Nat.le_of_ble_eq_true rfl) (by decide) (fun w11 hWw11 hRw11 => ?_)
    obtain ⟨hfw11, hpw11⟩ := hRw11
    have hFw11 : ∀ (p : Nat) (j : Int), ¬ ((p = tp ∧ (j = 2 ∨ j = 5 ∨ j = 6 ∨ j = 7 ∨ j = 8 ∨ j = 4))) → tm_g w11 p j = tm_g w p j := fun p j h => (hfw11 p j (by omega)).trans (hF0 p j h)
    refine ev_goto (tgt := 51) dt_Ta_takeNumber_19 (by decide) ?_
    refine ev_iconst dt_Ta_takeNumber_51 ?_
    exact ev_ireturn dt_Ta_takeNumber_52 rfl ⟨hWw11, _, rfl, ⟨hFw11, ⟨by omega, by omega, (by unfold b_tkv; (repeat' split) <;> omega), (a_T_eq hpw11 (by unfold b_tkg; (repeat' split) <;> first | rfl | (exfalso; omega)))⟩⟩⟩
section RT
variable {N : Nat} {T : Nat → tm_S} {w : ab_W} {f : Int → Int} {K : Nat} {L : Int} {tp : Nat} {c : Int × List Int}
theorem gr_take (hW : tm_W N T w) (h_tp : is_Ta T tp) (hK : K < g_ln.length) {n : Int} (h0 : 0 ≤ n) (h1 : n ≤ L) (hG : a_T f K L tp w (0, tk_sk f L n, c)) (lo hi : Int) (hl : 0 ≤ lo) (hl2 : lo ≤ 2147483647) (hh : -2147483648 ≤ hi) (hh2 : hi ≤ 2147483647) : ab_Mt g_G g_rs mt_Ta_takeNumber 6 0 0 [ab_R tp, ab_I lo, ab_I hi] w (tm_Qi N T (fun v w2 => (∀ (p : Nat) (j : Int), ¬ ((p = tp ∧ (j = 2 ∨ j = 5 ∨ j = 6 ∨ j = 7 ∨ j = 8 ∨ j = 4))) → tm_g w2 p j = tm_g w p j) ∧ b_nr f K L tp c w2 lo hi v (rs_num f L lo hi n))) :=
  (gt_Ta_takeNumber hW h_tp lo (by omega) hl2 hi hh hh2 hK hG).conseq (fun r w2 q => by
    obtain ⟨q1, v, q2, q3, q4, q5, q6, q7⟩ := q
    exact ⟨q1, v, q2, q3, by rw [q6]; exact b_nr_of (a_L hW h_tp hG).2 h0 h1 hl q7⟩)
theorem gd_take (hW : tm_W N T w) (h_tp : is_Ta T tp) (hK : K < g_ln.length) {e p : Int} (he : ¬ e = 0) (hG : a_T f K L tp w (e, p, c)) (lo hi : Int) (hl : -2147483648 ≤ lo) (hl2 : lo ≤ 2147483647) (hh : -2147483648 ≤ hi) (hh2 : hi ≤ 2147483647) : ab_Mt g_G g_rs mt_Ta_takeNumber 6 0 0 [ab_R tp, ab_I lo, ab_I hi] w (tm_Qi N T (fun v w2 => (∀ (p : Nat) (j : Int), ¬ ((p = tp ∧ (j = 2 ∨ j = 5 ∨ j = 6 ∨ j = 7 ∨ j = 8 ∨ j = 4))) → tm_g w2 p j = tm_g w p j) ∧ v = -1 ∧ a_T f K L tp w2 (e, p, c))) :=
  (gt_Ta_takeNumber hW h_tp lo hl hl2 hi hh hh2 hK hG).conseq (fun r w2 q => by
    obtain ⟨q1, v, q2, q3, q4, q5, q6, q7⟩ := q
    obtain ⟨e1, e2⟩ := b_tk_dead (f := f) (L := L) (p := p) (lo := lo) (hi := hi) (c := c) he
    rw [e2] at q7
    exact ⟨q1, v, q2, q3, q6.trans e1, q7⟩)
end RT
theorem tm_ab {N : Nat} {T : Nat → tm_S} {w : ab_W} {o t n : Nat} {K lo hi a : Int} (hW : tm_W N T w) (hS : T o = tm_ai t n lo hi) (hg : tm_g w o K = some (ab_I a)) : lo ≤ a ∧ a ≤ hi := by
  obtain ⟨b, e, h0, h1⟩ := tm_peekA (K := K) hW hS
  rw [hg] at e
  injection e with e
  injection e with e
  omega
theorem b_rates_s {o : Nat} {rd : Int → Int} {w w2 : ab_W} {a i v : Int} (h : b_rel o (rs_fill rd (10 + a) v (i - a).toNat) w) (h0 : 0 ≤ a) (h1 : a ≤ i) (h2 : i < 24) (kv : tm_g w2 (o + 6) i = some (ab_I v)) (e : ∀ (p : Nat) (j : Int), (o ≤ p ∧ p ≤ o + 8) → ¬ (p = o + 6 ∧ j = i) → tm_g w2 p j = tm_g w p j) : b_rel o (rs_fill rd (10 + a) v (i + 1 - a).toNat) w2 := by
  rw [show (i + 1 - a).toNat = (i - a).toNat + 1 by omega]
  show b_rel o (ab_up (rs_fill rd (10 + a) v (i - a).toNat) (10 + a + ((i - a).toNat : Int)) v) w2
  rw [show 10 + a + ((i - a).toNat : Int) = 10 + i by omega]
  exact b_rates h (by omega) h2 kv e
def b_may (h s w c : Int) : Int := if (w = 1 ∧ h = 7) ∨ (w = 2 ∧ s = 12) then 0 else if (w = 0 ∧ c = 0) ∨ (¬ w = 0 ∧ ¬ c = 0) then 1 else 0
