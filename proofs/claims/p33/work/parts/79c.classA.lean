/-! the Machine at a place m -/
def mac (m : Nat) (sk : Int → Int64) (tp : Int) (w : ab_W) : Prop := w[m]? = some (ab_ob 3 [ab_R (m + 1), ab_I tp]) ∧ w[m + 1]? = some (ab_al 32 sk)
theorem mac_o {m : Nat} {sk : Int → Int64} {tp tp2 : Int} {w : ab_W} (h : mac m sk tp w) : mac m sk tp2 (w.set m (ab_ob 3 [ab_R (m + 1), ab_I tp2])) := ⟨ab_gs h.1, ab_gn h.2 (by omega)⟩
theorem mac_1 {m : Nat} {sk sk2 : Int → Int64} {tp : Int} {w : ab_W} (h : mac m sk tp w) : mac m sk2 tp (w.set (m + 1) (ab_al 32 sk2)) := ⟨ab_gn h.1 (by omega), ab_gs h.2⟩
def cs_sg (o : Int) : Int := if o = -21 then 2 else if o = -22 then 3 else if o = -23 then 4 else if o = -24 then 5 else if o = -25 then 14 else if o = -26 then 6 else if o = -27 then 7 else if o = -28 then 8 else if o = -29 then 9 else if o = -30 then 10 else if o = -31 then 12 else 13
theorem de_Ma_push_0 : decode prog_5_method_4_code 0 = .ok (.aload_n 0, 1) := by decide +kernel
theorem de_Ma_push_1 : decode prog_5_method_4_code 1 = .ok (.getfield 15, 3) := by decide +kernel
theorem de_Ma_push_4 : decode prog_5_method_4_code 4 = .ok (.bipush 32, 2) := by decide +kernel
theorem de_Ma_push_6 : decode prog_5_method_4_code 6 = .ok (.if_icmp .ge 23, 3) := by decide +kernel
theorem de_Ma_push_9 : decode prog_5_method_4_code 9 = .ok (.aload_n 0, 1) := by decide +kernel
theorem de_Ma_push_10 : decode prog_5_method_4_code 10 = .ok (.getfield 11, 3) := by decide +kernel
theorem de_Ma_push_13 : decode prog_5_method_4_code 13 = .ok (.aload_n 0, 1) := by decide +kernel
theorem de_Ma_push_14 : decode prog_5_method_4_code 14 = .ok (.getfield 15, 3) := by decide +kernel
theorem de_Ma_push_17 : decode prog_5_method_4_code 17 = .ok (.lload_n 1, 1) := by decide +kernel
theorem de_Ma_push_18 : decode prog_5_method_4_code 18 = .ok (.lastore, 1) := by decide +kernel
theorem de_Ma_push_19 : decode prog_5_method_4_code 19 = .ok (.aload_n 0, 1) := by decide +kernel
theorem de_Ma_push_20 : decode prog_5_method_4_code 20 = .ok (.dup, 1) := by decide +kernel
theorem de_Ma_push_21 : decode prog_5_method_4_code 21 = .ok (.getfield 15, 3) := by decide +kernel
theorem de_Ma_push_24 : decode prog_5_method_4_code 24 = .ok (.iconst 1, 1) := by decide +kernel
theorem de_Ma_push_25 : decode prog_5_method_4_code 25 = .ok (.iadd, 1) := by decide +kernel
theorem de_Ma_push_26 : decode prog_5_method_4_code 26 = .ok (.putfield 15, 3) := by decide +kernel
theorem de_Ma_push_29 : decode prog_5_method_4_code 29 = .ok (.return_, 1) := by decide +kernel
set_option maxHeartbeats 4000000 in
set_option maxRecDepth 10000 in
theorem co_Ma_push {m : Nat} {sk : Int → Int64} {tp : Int} {w : ab_W} (hM : mac m sk tp w) (h0 : 0 ≤ tp) (h1 : tp ≤ 32) (v : Int64) : ab_Mt g_G g_rs mt_Ma_push 0 0 0 [ab_R m, ab_J v] w (fun r w2 => r = none ∧ mac m (if tp < 32 then ab_up sk tp v else sk) (if tp < 32 then tp + 1 else tp) w2 ∧ fr_at m 2 w w2) := by
  have hf : fr_at m 2 w w := fr_0
  obtain ⟨m0, m1⟩ := id hM
  refine ab_Mt.of rfl (Nat.le_of_ble_eq_true rfl) ?_
  show ab_Ev g_G g_rs mt_Ma_push _ _ _ 0 [some (ab_R m), some (ab_J v), none] [] _ _
  refine ev_aload_n de_Ma_push_0 rfl rfl ?_
  refine ev_getfield de_Ma_push_1 m0 fl_Ma_15 rfl ?_
  refine ev_bipush de_Ma_push_4 rfl ?_
  refine ev_icmp_ge (tgt := 29) de_Ma_push_6 (by decide) (by omega) (by omega) (fun h6 => ?_) (fun h6 => ?_)
  · skip
    have e : tp = 32 := by omega
    exact ev_return de_Ma_push_29 rfl ⟨rfl, by first | (rw [if_pos (by omega), if_pos (by omega)]; exact hM) | (rw [if_neg (by omega), if_neg (by omega)]; exact hM), hf⟩
  · skip
    refine ev_aload_n de_Ma_push_9 rfl rfl ?_
    refine ev_getfield de_Ma_push_10 m0 fl_Ma_11 rfl ?_
    refine ev_aload_n de_Ma_push_13 rfl rfl ?_
    refine ev_getfield de_Ma_push_14 m0 fl_Ma_15 rfl ?_
    refine ev_lload_n de_Ma_push_17 rfl rfl ?_
    refine ev_lastore de_Ma_push_18 m1 (by omega) (by omega) (by omega) ?_
    refine ev_gen (P := fun w1 => mac m (ab_up sk tp v) (tp) w1 ∧ fr_at m 2 w w1) ⟨mac_1 hM, fr_set hf (by omega) (by omega)⟩ (fun w1 hCf => ?_)
    obtain ⟨hM, hf⟩ := hCf
    obtain ⟨m0, m1⟩ := id hM
    refine ev_aload_n de_Ma_push_19 rfl rfl ?_
    refine ev_dup de_Ma_push_20 rfl ?_
    refine ev_getfield de_Ma_push_21 m0 fl_Ma_15 rfl ?_
    refine ev_iconst de_Ma_push_24 ?_
    refine ev_iadd de_Ma_push_25 ?_
    refine ev_putfield de_Ma_push_26 m0 (fp_Ma_15 _) (Nat.le_of_ble_eq_true rfl) trivial ?_
    refine ev_gen (P := fun w1 => mac m (ab_up sk tp v) (tp + 1) w1 ∧ fr_at m 2 w w1) ⟨mac_o hM, fr_set hf (by omega) (by omega)⟩ (fun w1 hCf => ?_)
    obtain ⟨hM, hf⟩ := hCf
    obtain ⟨m0, m1⟩ := id hM
    exact ev_return de_Ma_push_29 rfl ⟨rfl, by first | (rw [if_pos (by omega), if_pos (by omega)]; exact hM) | (rw [if_neg (by omega), if_neg (by omega)]; exact hM), hf⟩
theorem de_Ma_pop_0 : decode prog_5_method_5_code 0 = .ok (.aload_n 0, 1) := by decide +kernel
theorem de_Ma_pop_1 : decode prog_5_method_5_code 1 = .ok (.getfield 15, 3) := by decide +kernel
theorem de_Ma_pop_4 : decode prog_5_method_5_code 4 = .ok (.ifCond .ne 5, 3) := by decide +kernel
theorem de_Ma_pop_7 : decode prog_5_method_5_code 7 = .ok (.lconst 0, 1) := by decide +kernel
theorem de_Ma_pop_8 : decode prog_5_method_5_code 8 = .ok (.lreturn, 1) := by decide +kernel
theorem de_Ma_pop_9 : decode prog_5_method_5_code 9 = .ok (.aload_n 0, 1) := by decide +kernel
theorem de_Ma_pop_10 : decode prog_5_method_5_code 10 = .ok (.dup, 1) := by decide +kernel
theorem de_Ma_pop_11 : decode prog_5_method_5_code 11 = .ok (.getfield 15, 3) := by decide +kernel
theorem de_Ma_pop_14 : decode prog_5_method_5_code 14 = .ok (.iconst 1, 1) := by decide +kernel
theorem de_Ma_pop_15 : decode prog_5_method_5_code 15 = .ok (.isub, 1) := by decide +kernel
theorem de_Ma_pop_16 : decode prog_5_method_5_code 16 = .ok (.putfield 15, 3) := by decide +kernel
theorem de_Ma_pop_19 : decode prog_5_method_5_code 19 = .ok (.aload_n 0, 1) := by decide +kernel
theorem de_Ma_pop_20 : decode prog_5_method_5_code 20 = .ok (.getfield 11, 3) := by decide +kernel
theorem de_Ma_pop_23 : decode prog_5_method_5_code 23 = .ok (.aload_n 0, 1) := by decide +kernel
theorem de_Ma_pop_24 : decode prog_5_method_5_code 24 = .ok (.getfield 15, 3) := by decide +kernel
theorem de_Ma_pop_27 : decode prog_5_method_5_code 27 = .ok (.laload, 1) := by decide +kernel
theorem de_Ma_pop_28 : decode prog_5_method_5_code 28 = .ok (.lreturn, 1) := by decide +kernel
set_option maxHeartbeats 4000000 in
set_option maxRecDepth 10000 in
theorem co_Ma_pop {m : Nat} {sk : Int → Int64} {tp : Int} {w : ab_W} (hM : mac m sk tp w) (h0 : 0 ≤ tp) (h1 : tp ≤ 32) : ab_Mt g_G g_rs mt_Ma_pop 0 0 0 [ab_R m] w (fun r w2 => r = some (ab_J (if tp = 0 then 0 else sk (tp - 1))) ∧ mac m sk (if tp = 0 then 0 else tp - 1) w2 ∧ fr_at m 2 w w2) := by
  have hf : fr_at m 2 w w := fr_0
  obtain ⟨m0, m1⟩ := id hM
  refine ab_Mt.of rfl (Nat.le_of_ble_eq_true rfl) ?_
  show ab_Ev g_G g_rs mt_Ma_pop _ _ _ 0 [some (ab_R m)] [] _ _
  refine ev_aload_n de_Ma_pop_0 rfl rfl ?_
  refine ev_getfield de_Ma_pop_1 m0 fl_Ma_15 rfl ?_
  refine ev_if_ne (tgt := 9) de_Ma_pop_4 (by decide) (by omega) (fun h4 => ?_) (fun h4 => ?_)
  · skip
    refine ev_aload_n de_Ma_pop_9 rfl rfl ?_
    refine ev_dup de_Ma_pop_10 rfl ?_
    refine ev_getfield de_Ma_pop_11 m0 fl_Ma_15 rfl ?_
    refine ev_iconst de_Ma_pop_14 ?_
    refine ev_isub de_Ma_pop_15 ?_
    refine ev_putfield de_Ma_pop_16 m0 (fp_Ma_15 _) (Nat.le_of_ble_eq_true rfl) trivial ?_
    refine ev_gen (P := fun w1 => mac m (sk) (tp - 1) w1 ∧ fr_at m 2 w w1) ⟨mac_o hM, fr_set hf (by omega) (by omega)⟩ (fun w1 hCf => ?_)
    obtain ⟨hM, hf⟩ := hCf
    obtain ⟨m0, m1⟩ := id hM
    refine ev_aload_n de_Ma_pop_19 rfl rfl ?_
    refine ev_getfield de_Ma_pop_20 m0 fl_Ma_11 rfl ?_
    refine ev_aload_n de_Ma_pop_23 rfl rfl ?_
    refine ev_getfield de_Ma_pop_24 m0 fl_Ma_15 rfl ?_
    refine ev_laload de_Ma_pop_27 m1 (by omega) (by omega) (by omega) ?_
    exact ev_lreturn de_Ma_pop_28 rfl ⟨by rw [if_neg (by omega)], by rw [if_neg (by omega)]; exact hM, hf⟩
  · skip
    refine ev_lconsti (n := 0) de_Ma_pop_7 (by decide) ?_
    exact ev_lreturn de_Ma_pop_8 rfl ⟨by rw [if_pos (by omega)]; rfl, by rw [if_pos (by omega)]; rw [show tp = 0 by omega] at hM; exact hM, hf⟩
theorem de_Ma_truth_0 : decode prog_5_method_6_code 0 = .ok (.iload_n 0, 1) := by decide +kernel
theorem de_Ma_truth_1 : decode prog_5_method_6_code 1 = .ok (.ifCond .eq 7, 3) := by decide +kernel
theorem de_Ma_truth_4 : decode prog_5_method_6_code 4 = .ok (.lconst 1, 1) := by decide +kernel
theorem de_Ma_truth_5 : decode prog_5_method_6_code 5 = .ok (.goto 4, 3) := by decide +kernel
theorem de_Ma_truth_8 : decode prog_5_method_6_code 8 = .ok (.lconst 0, 1) := by decide +kernel
theorem de_Ma_truth_9 : decode prog_5_method_6_code 9 = .ok (.lreturn, 1) := by decide +kernel
set_option maxHeartbeats 4000000 in
set_option maxRecDepth 10000 in
theorem co_Ma_truth (w : ab_W) (z : Int) (hz : ab_in z) : ab_Mt g_G g_rs mt_Ma_truth 0 0 0 [ab_I z] w (ab_is (some (ab_J (if z = 0 then 0 else 1))) w) := by
  refine ab_Mt.of rfl (Nat.le_of_ble_eq_true rfl) ?_
  show ab_Ev g_G g_rs mt_Ma_truth _ _ _ 0 [some (ab_I z)] [] _ _
  refine ev_iload_n de_Ma_truth_0 rfl rfl ?_
  refine ev_if_eq (tgt := 8) de_Ma_truth_1 (by decide) (by omega) (fun h1 => ?_) (fun h1 => ?_)
  · skip
    refine ev_lconsti (n := 0) de_Ma_truth_8 (by decide) ?_
    exact ev_lreturn de_Ma_truth_9 rfl ⟨by first | (rw [if_pos (by omega)]; rfl) | (rw [if_neg (by omega)]; rfl), rfl⟩
  · skip
    refine ev_lconsti (n := 1) de_Ma_truth_4 (by decide) ?_
    refine ev_goto (tgt := 9) de_Ma_truth_5 (by decide) ?_
    exact ev_lreturn de_Ma_truth_9 rfl ⟨by first | (rw [if_pos (by omega)]; rfl) | (rw [if_neg (by omega)]; rfl), rfl⟩
