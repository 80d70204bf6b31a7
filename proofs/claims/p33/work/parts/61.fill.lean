theorem de_Ar_fill_AIIV_0 : decode prog_22_method_103_code 0 = .ok (.iconst 0, 1) := by decide +kernel
theorem de_Ar_fill_AIIV_1 : decode prog_22_method_103_code 1 = .ok (.istore_n 2, 1) := by decide +kernel
theorem de_Ar_fill_AIIV_2 : decode prog_22_method_103_code 2 = .ok (.aload_n 0, 1) := by decide +kernel
theorem de_Ar_fill_AIIV_3 : decode prog_22_method_103_code 3 = .ok (.arraylength, 1) := by decide +kernel
theorem de_Ar_fill_AIIV_4 : decode prog_22_method_103_code 4 = .ok (.istore_n 3, 1) := by decide +kernel
theorem de_Ar_fill_AIIV_5 : decode prog_22_method_103_code 5 = .ok (.iload_n 2, 1) := by decide +kernel
theorem de_Ar_fill_AIIV_6 : decode prog_22_method_103_code 6 = .ok (.iload_n 3, 1) := by decide +kernel
theorem de_Ar_fill_AIIV_7 : decode prog_22_method_103_code 7 = .ok (.if_icmp .ge 13, 3) := by decide +kernel
theorem de_Ar_fill_AIIV_10 : decode prog_22_method_103_code 10 = .ok (.aload_n 0, 1) := by decide +kernel
theorem de_Ar_fill_AIIV_11 : decode prog_22_method_103_code 11 = .ok (.iload_n 2, 1) := by decide +kernel
theorem de_Ar_fill_AIIV_12 : decode prog_22_method_103_code 12 = .ok (.iload_n 1, 1) := by decide +kernel
theorem de_Ar_fill_AIIV_13 : decode prog_22_method_103_code 13 = .ok (.iastore, 1) := by decide +kernel
theorem de_Ar_fill_AIIV_14 : decode prog_22_method_103_code 14 = .ok (.iinc 2 1, 3) := by decide +kernel
theorem de_Ar_fill_AIIV_17 : decode prog_22_method_103_code 17 = .ok (.goto (-12), 3) := by decide +kernel
theorem de_Ar_fill_AIIV_20 : decode prog_22_method_103_code 20 = .ok (.return_, 1) := by decide +kernel
set_option maxRecDepth 10000 in
theorem lp_Ar_fill_AIIV (w : ab_W) (o n : Nat) (f : Int → Int) (v : Int) (hw : w[o]? = some (ab_ai 0 n f)) (hn : n ≤ 100000) : ∀ (m : Nat) (i : Nat), i ≤ n → n < i + m → ab_Ev g_G g_rs mt_Ar_fill_AIIV 0 0 0 5 [some (ab_R o), some (ab_I v), some (ab_I (i : Int)), some (ab_I (n : Int))] [] (w.set o (ab_ai 0 n (ab_fv f v (i : Int)))) (ab_is none (w.set o (ab_ai 0 n (ab_fv f v (n : Int))))) := by
  intro m
  induction m with
  | zero =>
    intro i
    intro h1 h2; omega
  | succ m ih =>
    intro i
    intro h1 h2
    refine ev_iload_n de_Ar_fill_AIIV_5 rfl rfl ?_
    refine ev_iload_n de_Ar_fill_AIIV_6 rfl rfl ?_
    refine ev_icmp_ge (tgt := 20) de_Ar_fill_AIIV_7 (by decide) (by omega) (by omega) (fun h7 => ?_) (fun h7 => ?_)
    · skip
      have e : i = n := by omega
      subst e
      exact ev_return de_Ar_fill_AIIV_20 rfl ⟨rfl, rfl⟩
    · skip
      refine ev_aload_n de_Ar_fill_AIIV_10 rfl rfl ?_
      refine ev_iload_n de_Ar_fill_AIIV_11 rfl rfl ?_
      refine ev_iload_n de_Ar_fill_AIIV_12 rfl rfl ?_
      refine ev_iastore de_Ar_fill_AIIV_13 (ab_gs hw) (by omega) (by omega) (by omega) ?_
      refine ev_world (w' := w.set o (ab_ai 0 n (ab_fv f v ((i + 1 : Nat) : Int)))) (by rw [List.set_set, ab_fvS f v (by omega)]; rfl) ?_
      refine ev_iinc (l' := [_, _, _, _]) de_Ar_fill_AIIV_14 rfl rfl ?_
      refine ev_goto (tgt := 5) de_Ar_fill_AIIV_17 (by decide) ?_
      exact ih (i + 1) (by omega) (by omega)
set_option maxRecDepth 10000 in
theorem co_Ar_fill_AIIV (w : ab_W) (o n : Nat) (f : Int → Int) (v : Int) (hw : w[o]? = some (ab_ai 0 n f)) (hn : n ≤ 100000) : ab_Mt g_G g_rs mt_Ar_fill_AIIV 0 0 0 [ab_R o, ab_I v] w (ab_is none (w.set o (ab_ai 0 n (ab_fv f v (n : Int))))) := by
  refine ab_Mt.of rfl (Nat.le_of_ble_eq_true rfl) ?_
  show ab_Ev g_G g_rs mt_Ar_fill_AIIV _ _ _ 0 [some (ab_R o), some (ab_I v), none, none] [] _ _
  refine ev_iconst de_Ar_fill_AIIV_0 ?_
  refine ev_istore_n (l' := [_, _, _, _]) de_Ar_fill_AIIV_1 rfl (Nat.le_of_ble_eq_true rfl) rfl ?_
  refine ev_aload_n de_Ar_fill_AIIV_2 rfl rfl ?_
  refine ev_alen de_Ar_fill_AIIV_3 hw (t := 0) (n := n) (Or.inl ⟨_, _, by decide, rfl⟩) ?_
  refine ev_istore_n (l' := [_, _, _, _]) de_Ar_fill_AIIV_4 rfl (Nat.le_of_ble_eq_true rfl) rfl ?_
  refine ev_world (w' := w.set o (ab_ai 0 n (ab_fv f v ((0 : Nat) : Int)))) (by rw [show (((0 : Nat) : Int)) = 0 from rfl, ab_fv0, ab_s0 hw]) ?_
  exact lp_Ar_fill_AIIV w o n f v hw hn (n + 1) 0 (by omega) (by omega)
theorem de_Ar_fill_AJJV_0 : decode prog_22_method_101_code 0 = .ok (.iconst 0, 1) := by decide +kernel
theorem de_Ar_fill_AJJV_1 : decode prog_22_method_101_code 1 = .ok (.istore_n 3, 1) := by decide +kernel
theorem de_Ar_fill_AJJV_2 : decode prog_22_method_101_code 2 = .ok (.aload_n 0, 1) := by decide +kernel
theorem de_Ar_fill_AJJV_3 : decode prog_22_method_101_code 3 = .ok (.arraylength, 1) := by decide +kernel
theorem de_Ar_fill_AJJV_4 : decode prog_22_method_101_code 4 = .ok (.istore 4, 2) := by decide +kernel
theorem de_Ar_fill_AJJV_6 : decode prog_22_method_101_code 6 = .ok (.iload_n 3, 1) := by decide +kernel
theorem de_Ar_fill_AJJV_7 : decode prog_22_method_101_code 7 = .ok (.iload 4, 2) := by decide +kernel
theorem de_Ar_fill_AJJV_9 : decode prog_22_method_101_code 9 = .ok (.if_icmp .ge 13, 3) := by decide +kernel
theorem de_Ar_fill_AJJV_12 : decode prog_22_method_101_code 12 = .ok (.aload_n 0, 1) := by decide +kernel
theorem de_Ar_fill_AJJV_13 : decode prog_22_method_101_code 13 = .ok (.iload_n 3, 1) := by decide +kernel
theorem de_Ar_fill_AJJV_14 : decode prog_22_method_101_code 14 = .ok (.lload_n 1, 1) := by decide +kernel
theorem de_Ar_fill_AJJV_15 : decode prog_22_method_101_code 15 = .ok (.lastore, 1) := by decide +kernel
theorem de_Ar_fill_AJJV_16 : decode prog_22_method_101_code 16 = .ok (.iinc 3 1, 3) := by decide +kernel
theorem de_Ar_fill_AJJV_19 : decode prog_22_method_101_code 19 = .ok (.goto (-13), 3) := by decide +kernel
theorem de_Ar_fill_AJJV_22 : decode prog_22_method_101_code 22 = .ok (.return_, 1) := by decide +kernel
set_option maxRecDepth 10000 in
theorem lp_Ar_fill_AJJV (w : ab_W) (o n : Nat) (f : Int → Int64) (v : Int64) (hw : w[o]? = some (ab_al n f)) (hn : n ≤ 100000) : ∀ (m : Nat) (i : Nat), i ≤ n → n < i + m → ab_Ev g_G g_rs mt_Ar_fill_AJJV 0 0 0 6 [some (ab_R o), some (ab_J v), none, some (ab_I (i : Int)), some (ab_I (n : Int))] [] (w.set o (ab_al n (ab_fv f v (i : Int)))) (ab_is none (w.set o (ab_al n (ab_fv f v (n : Int))))) := by
  intro m
  induction m with
  | zero =>
    intro i
    intro h1 h2; omega
  | succ m ih =>
    intro i
    intro h1 h2
    refine ev_iload_n de_Ar_fill_AJJV_6 rfl rfl ?_
    refine ev_iload de_Ar_fill_AJJV_7 rfl ?_
    refine ev_icmp_ge (tgt := 22) de_Ar_fill_AJJV_9 (by decide) (by omega) (by omega) (fun h9 => ?_) (fun h9 => ?_)
    · skip
      have e : i = n := by omega
      subst e
      exact ev_return de_Ar_fill_AJJV_22 rfl ⟨rfl, rfl⟩
    · skip
      refine ev_aload_n de_Ar_fill_AJJV_12 rfl rfl ?_
      refine ev_iload_n de_Ar_fill_AJJV_13 rfl rfl ?_
      refine ev_lload_n de_Ar_fill_AJJV_14 rfl rfl ?_
      refine ev_lastore de_Ar_fill_AJJV_15 (ab_gs hw) (by omega) (by omega) (by omega) ?_
      refine ev_world (w' := w.set o (ab_al n (ab_fv f v ((i + 1 : Nat) : Int)))) (by rw [List.set_set, ab_fvS f v (by omega)]; rfl) ?_
      refine ev_iinc (l' := [_, _, _, _, _]) de_Ar_fill_AJJV_16 rfl rfl ?_
      refine ev_goto (tgt := 6) de_Ar_fill_AJJV_19 (by decide) ?_
      exact ih (i + 1) (by omega) (by omega)
set_option maxRecDepth 10000 in
theorem co_Ar_fill_AJJV (w : ab_W) (o n : Nat) (f : Int → Int64) (v : Int64) (hw : w[o]? = some (ab_al n f)) (hn : n ≤ 100000) : ab_Mt g_G g_rs mt_Ar_fill_AJJV 0 0 0 [ab_R o, ab_J v] w (ab_is none (w.set o (ab_al n (ab_fv f v (n : Int))))) := by
  refine ab_Mt.of rfl (Nat.le_of_ble_eq_true rfl) ?_
  show ab_Ev g_G g_rs mt_Ar_fill_AJJV _ _ _ 0 [some (ab_R o), some (ab_J v), none, none, none] [] _ _
  refine ev_iconst de_Ar_fill_AJJV_0 ?_
  refine ev_istore_n (l' := [_, _, _, _, _]) de_Ar_fill_AJJV_1 rfl (Nat.le_of_ble_eq_true rfl) rfl ?_
  refine ev_aload_n de_Ar_fill_AJJV_2 rfl rfl ?_
  refine ev_alen de_Ar_fill_AJJV_3 hw (t := 0) (n := n) (Or.inr (Or.inl ⟨_, rfl⟩)) ?_
  refine ev_istore (l' := [_, _, _, _, _]) de_Ar_fill_AJJV_4 (Nat.le_of_ble_eq_true rfl) rfl ?_
  refine ev_world (w' := w.set o (ab_al n (ab_fv f v ((0 : Nat) : Int)))) (by rw [show (((0 : Nat) : Int)) = 0 from rfl, ab_fv0, ab_s0 hw]) ?_
  exact lp_Ar_fill_AJJV w o n f v hw hn (n + 1) 0 (by omega) (by omega)
