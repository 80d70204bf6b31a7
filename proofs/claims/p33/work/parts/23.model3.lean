section MO
variable {tape : Int → Int} {taped : Int} {rules : Int} {sign : Int → Int} {leng : Int → Int} {clause : Int → Int} {clauses : Int → Int} {read : Int → Int} {next : Int} {wrong : Int} {number : Int} {text : Int} {made : Int} {deep : Int} {lines : Int} {opn : Int → Int} {opened : Int} {stack : Int → Int64} {top : Int} {word : Int → Int64} {said : Int → Int} {xx : Int} {was : Int → Int} {undone : Int} {kept : Int → Int} {sumOf : Int → Int} {faced : Int → Int} {slotAt : Int → Int} {dayAt : Int → Int} {row : Int → Int} {bestRow : Int → Int} {tMany : Int} {tMost : Int} {drawX : Int64} {images : Int → Int} {imageX : Int → Int} {isMade : Int → Int}
def sp_cp (f g : Int → Int) (n : Nat) : Int → Int := fun j => if 0 ≤ j ∧ j < n then f j else g j
theorem sp_cp_s (f g : Int → Int) (n : Nat) : ab_up (sp_cp f g n) (n : Int) (f (n : Int)) = sp_cp f g (n + 1) := by
  funext j
  unfold ab_up sp_cp
  by_cases h : j = (n : Int)
  · rw [if_pos h, if_pos (by omega), h]
  · rw [if_neg h]
    by_cases h2 : 0 ≤ j ∧ j < n
    · rw [if_pos h2, if_pos (by omega)]
    · rw [if_neg h2, if_neg (by omega)]
theorem sp_cp_0 (f g : Int → Int) : sp_cp f g 0 = g := by
  funext j
  unfold sp_cp
  rw [if_neg (by omega)]
theorem de_Mo_turns_0 : decode prog_14_method_66_code 0 = .ok (.iload_n 1, 1) := by decide +kernel
theorem de_Mo_turns_1 : decode prog_14_method_66_code 1 = .ok (.ifCond .ge 7, 3) := by decide +kernel
theorem de_Mo_turns_4 : decode prog_14_method_66_code 4 = .ok (.iconst (-1), 1) := by decide +kernel
theorem de_Mo_turns_5 : decode prog_14_method_66_code 5 = .ok (.goto 4, 3) := by decide +kernel
theorem de_Mo_turns_8 : decode prog_14_method_66_code 8 = .ok (.iconst 1, 1) := by decide +kernel
theorem de_Mo_turns_9 : decode prog_14_method_66_code 9 = .ok (.istore_n 2, 1) := by decide +kernel
theorem de_Mo_turns_10 : decode prog_14_method_66_code 10 = .ok (.iconst 0, 1) := by decide +kernel
theorem de_Mo_turns_11 : decode prog_14_method_66_code 11 = .ok (.istore_n 3, 1) := by decide +kernel
theorem de_Mo_turns_12 : decode prog_14_method_66_code 12 = .ok (.iload_n 3, 1) := by decide +kernel
theorem de_Mo_turns_13 : decode prog_14_method_66_code 13 = .ok (.iload_n 2, 1) := by decide +kernel
theorem de_Mo_turns_14 : decode prog_14_method_66_code 14 = .ok (.iload_n 1, 1) := by decide +kernel
theorem de_Mo_turns_15 : decode prog_14_method_66_code 15 = .ok (.imul, 1) := by decide +kernel
theorem de_Mo_turns_16 : decode prog_14_method_66_code 16 = .ok (.if_icmp .ge 44, 3) := by decide +kernel
theorem de_Mo_turns_19 : decode prog_14_method_66_code 19 = .ok (.aload_n 0, 1) := by decide +kernel
theorem de_Mo_turns_20 : decode prog_14_method_66_code 20 = .ok (.getfield 39, 3) := by decide +kernel
theorem de_Mo_turns_23 : decode prog_14_method_66_code 23 = .ok (.bipush 34, 2) := by decide +kernel
theorem de_Mo_turns_25 : decode prog_14_method_66_code 25 = .ok (.aload_n 0, 1) := by decide +kernel
theorem de_Mo_turns_26 : decode prog_14_method_66_code 26 = .ok (.getfield 39, 3) := by decide +kernel
theorem de_Mo_turns_29 : decode prog_14_method_66_code 29 = .ok (.iconst 4, 1) := by decide +kernel
theorem de_Mo_turns_30 : decode prog_14_method_66_code 30 = .ok (.iaload, 1) := by decide +kernel
theorem de_Mo_turns_31 : decode prog_14_method_66_code 31 = .ok (.iadd, 1) := by decide +kernel
theorem de_Mo_turns_32 : decode prog_14_method_66_code 32 = .ok (.dup2, 1) := by decide +kernel
theorem de_Mo_turns_33 : decode prog_14_method_66_code 33 = .ok (.iaload, 1) := by decide +kernel
theorem de_Mo_turns_34 : decode prog_14_method_66_code 34 = .ok (.iconst 1, 1) := by decide +kernel
theorem de_Mo_turns_35 : decode prog_14_method_66_code 35 = .ok (.iadd, 1) := by decide +kernel
theorem de_Mo_turns_36 : decode prog_14_method_66_code 36 = .ok (.iastore, 1) := by decide +kernel
theorem de_Mo_turns_37 : decode prog_14_method_66_code 37 = .ok (.aload_n 0, 1) := by decide +kernel
theorem de_Mo_turns_38 : decode prog_14_method_66_code 38 = .ok (.getfield 39, 3) := by decide +kernel
theorem de_Mo_turns_41 : decode prog_14_method_66_code 41 = .ok (.iconst 4, 1) := by decide +kernel
theorem de_Mo_turns_42 : decode prog_14_method_66_code 42 = .ok (.aload_n 0, 1) := by decide +kernel
theorem de_Mo_turns_43 : decode prog_14_method_66_code 43 = .ok (.getfield 39, 3) := by decide +kernel
theorem de_Mo_turns_46 : decode prog_14_method_66_code 46 = .ok (.iconst 4, 1) := by decide +kernel
theorem de_Mo_turns_47 : decode prog_14_method_66_code 47 = .ok (.iaload, 1) := by decide +kernel
theorem de_Mo_turns_48 : decode prog_14_method_66_code 48 = .ok (.iload_n 2, 1) := by decide +kernel
theorem de_Mo_turns_49 : decode prog_14_method_66_code 49 = .ok (.iadd, 1) := by decide +kernel
theorem de_Mo_turns_50 : decode prog_14_method_66_code 50 = .ok (.invokestatic 297, 3) := by decide +kernel
theorem de_Mo_turns_53 : decode prog_14_method_66_code 53 = .ok (.iastore, 1) := by decide +kernel
theorem de_Mo_turns_54 : decode prog_14_method_66_code 54 = .ok (.iinc 3 1, 3) := by decide +kernel
theorem de_Mo_turns_57 : decode prog_14_method_66_code 57 = .ok (.goto (-45), 3) := by decide +kernel
theorem de_Mo_turns_60 : decode prog_14_method_66_code 60 = .ok (.return_, 1) := by decide +kernel
set_option maxRecDepth 10000 in
theorem lo_Mo_turns {B b r : Int} (hm : sg_mid B 0 said) (hb : b = sp_by r) (hr : r.natAbs ≤ 3) : ∀ (n : Nat) (k : Nat), k ≤ r.natAbs → r.natAbs < k + n → ab_Ev g_G g_rs mt_Mo_turns 1 0 0 12 [some (ab_R 0), some (ab_I r), some (ab_I b), some (ab_I (k : Int))] [] (mo_W tape taped rules sign leng clause clauses read next wrong number text made deep lines opn opened stack top word (sp_turns b said k) xx was undone kept sumOf faced slotAt dayAt row bestRow tMany tMost drawX images imageX isMade) (ab_is none (mo_W tape taped rules sign leng clause clauses read next wrong number text made deep lines opn opened stack top word (sp_turns b said r.natAbs) xx was undone kept sumOf faced slotAt dayAt row bestRow tMany tMost drawX images imageX isMade)) := by
  intro n
  induction n with
  | zero =>
    intro k
    intro h1 h2; omega
  | succ n ih =>
    intro k
    intro h1 h2
    have hk := sg_turns (b := b) hm k (by omega)
    have q4 : 0 ≤ sp_turns b said k 4 ∧ sp_turns b said k 4 ≤ 11 := hk.1 4 (by decide) (by decide)
    have hbr : b * r = (r.natAbs : Int) := by rw [hb]; unfold sp_by; split <;> omega
    have hb3 : b = -1 ∨ b = 1 := by rw [hb]; unfold sp_by; split <;> simp
    refine ev_iload_n de_Mo_turns_12 rfl rfl ?_
    refine ev_iload_n de_Mo_turns_13 rfl rfl ?_
    refine ev_iload_n de_Mo_turns_14 rfl rfl ?_
    refine ev_imul de_Mo_turns_15 ?_
    refine ev_icmp_ge (tgt := 60) de_Mo_turns_16 (by decide) (by omega) (by omega) (fun h16 => ?_) (fun h16 => ?_)
    · skip
      have e : k = r.natAbs := by omega
      subst e
      exact ev_return de_Mo_turns_60 rfl ⟨rfl, rfl⟩
    · skip
      refine ev_aload_n de_Mo_turns_19 rfl rfl ?_
      refine ev_getfield de_Mo_turns_20 rfl fl_Mo_39 rfl ?_
      refine ev_bipush de_Mo_turns_23 rfl ?_
      refine ev_aload_n de_Mo_turns_25 rfl rfl ?_
      refine ev_getfield de_Mo_turns_26 rfl fl_Mo_39 rfl ?_
      refine ev_iconst de_Mo_turns_29 ?_
      refine ev_iaload de_Mo_turns_30 rfl (by omega) (by omega) (by omega) ?_
      refine ev_iadd de_Mo_turns_31 ?_
      refine ev_dup2 de_Mo_turns_32 rfl rfl ?_
      have qw := hk.2.2 (34 + sp_turns b said k 4) (by omega) (by omega)
      refine ev_iaload de_Mo_turns_33 rfl (by omega) (by omega) (by omega) ?_
      refine ev_iconst de_Mo_turns_34 ?_
      refine ev_iadd de_Mo_turns_35 ?_
      refine ev_iastore de_Mo_turns_36 rfl (by omega) (by omega) (by omega) ?_
      refine ev_world (w' := mo_W _ _ _ _ _ _ _ _ _ _ _ _ _ _ _ _ _ _ _ _ _ _ _ _ _ _ _ _ _ _ _ _ _ _ _ _ _) rfl ?_
      refine ev_aload_n de_Mo_turns_37 rfl rfl ?_
      refine ev_getfield de_Mo_turns_38 rfl fl_Mo_39 rfl ?_
      refine ev_iconst de_Mo_turns_41 ?_
      refine ev_aload_n de_Mo_turns_42 rfl rfl ?_
      refine ev_getfield de_Mo_turns_43 rfl fl_Mo_39 rfl ?_
      refine ev_iconst de_Mo_turns_46 ?_
      refine ev_iaload de_Mo_turns_47 rfl (by omega) (by omega) (by omega) ?_
      refine ev_top (congrArg Sum.inl (ab_upn _ _ (by omega) : ab_up (sp_turns b said k) (34 + sp_turns b said k 4) (sp_turns b said k (34 + sp_turns b said k 4) + 1) 4 = sp_turns b said k 4)) ?_
      refine ev_iload_n de_Mo_turns_48 rfl rfl ?_
      refine ev_iadd de_Mo_turns_49 ?_
      refine ev_sv de_Mo_turns_50 (co_Mo_round _ _ (by omega)) kb_Mo_297 sc_Mo_round rfl (Nat.le_of_ble_eq_true rfl) (by decide) rfl ?_
      refine ev_iastore de_Mo_turns_53 rfl (by omega) (by omega) (by omega) ?_
      refine ev_world (w' := mo_W _ _ _ _ _ _ _ _ _ _ _ _ _ _ _ _ _ _ _ _ _ _ _ _ _ _ _ _ _ _ _ _ _ _ _ _ _) rfl ?_
      refine ev_iinc (l' := [_, _, _, _]) de_Mo_turns_54 rfl rfl ?_
      refine ev_goto (tgt := 12) de_Mo_turns_57 (by decide) ?_
      exact ih (k + 1) (by omega) (by omega)
set_option maxRecDepth 10000 in
theorem co_Mo_turns {B r : Int} (hm : sg_mid B 0 said) (hr : r.natAbs ≤ 3) : ab_Mt g_G g_rs mt_Mo_turns 1 0 0 [ab_R 0, ab_I r] (mo_W tape taped rules sign leng clause clauses read next wrong number text made deep lines opn opened stack top word said xx was undone kept sumOf faced slotAt dayAt row bestRow tMany tMost drawX images imageX isMade) (ab_is none (mo_W tape taped rules sign leng clause clauses read next wrong number text made deep lines opn opened stack top word (sp_turns (sp_by r) said r.natAbs) xx was undone kept sumOf faced slotAt dayAt row bestRow tMany tMost drawX images imageX isMade)) := by
  refine ab_Mt.of rfl (Nat.le_of_ble_eq_true rfl) ?_
  show ab_Ev g_G g_rs mt_Mo_turns _ _ _ 0 [some (ab_R 0), some (ab_I r), none, none] [] _ _
  refine ev_iload_n de_Mo_turns_0 rfl rfl ?_
  refine ev_if_ge (tgt := 8) de_Mo_turns_1 (by decide) (by omega) (fun h1 => ?_) (fun h1 => ?_)
  · skip
    have eb : sp_by r = 1 := if_neg (by omega)
    refine ev_iconst de_Mo_turns_8 ?_
    refine ev_istore_n (l' := [_, _, _, _]) de_Mo_turns_9 rfl (Nat.le_of_ble_eq_true rfl) rfl ?_
    refine ev_iconst de_Mo_turns_10 ?_
    refine ev_istore_n (l' := [_, _, _, _]) de_Mo_turns_11 rfl (Nat.le_of_ble_eq_true rfl) rfl ?_
    rw [eb]
    exact lo_Mo_turns hm eb.symm hr (r.natAbs + 1) 0 (by omega) (by omega)
  · skip
    have eb : sp_by r = -1 := if_pos (by omega)
    refine ev_iconst de_Mo_turns_4 ?_
    refine ev_goto (tgt := 9) de_Mo_turns_5 (by decide) ?_
    refine ev_istore_n (l' := [_, _, _, _]) de_Mo_turns_9 rfl (Nat.le_of_ble_eq_true rfl) rfl ?_
    refine ev_iconst de_Mo_turns_10 ?_
    refine ev_istore_n (l' := [_, _, _, _]) de_Mo_turns_11 rfl (Nat.le_of_ble_eq_true rfl) rfl ?_
    rw [eb]
    exact lo_Mo_turns hm eb.symm hr (r.natAbs + 1) 0 (by omega) (by omega)
theorem de_Mo_goesOn_0 : decode prog_14_method_67_code 0 = .ok (.aload_n 0, 1) := by decide +kernel
theorem de_Mo_goesOn_1 : decode prog_14_method_67_code 1 = .ok (.getfield 39, 3) := by decide +kernel
theorem de_Mo_goesOn_4 : decode prog_14_method_67_code 4 = .ok (.iconst 5, 1) := by decide +kernel
theorem de_Mo_goesOn_5 : decode prog_14_method_67_code 5 = .ok (.dup2, 1) := by decide +kernel
theorem de_Mo_goesOn_6 : decode prog_14_method_67_code 6 = .ok (.iaload, 1) := by decide +kernel
theorem de_Mo_goesOn_7 : decode prog_14_method_67_code 7 = .ok (.iconst 1, 1) := by decide +kernel
theorem de_Mo_goesOn_8 : decode prog_14_method_67_code 8 = .ok (.iadd, 1) := by decide +kernel
theorem de_Mo_goesOn_9 : decode prog_14_method_67_code 9 = .ok (.iastore, 1) := by decide +kernel
theorem de_Mo_goesOn_10 : decode prog_14_method_67_code 10 = .ok (.aload_n 0, 1) := by decide +kernel
theorem de_Mo_goesOn_11 : decode prog_14_method_67_code 11 = .ok (.getfield 39, 3) := by decide +kernel
theorem de_Mo_goesOn_14 : decode prog_14_method_67_code 14 = .ok (.iconst 5, 1) := by decide +kernel
theorem de_Mo_goesOn_15 : decode prog_14_method_67_code 15 = .ok (.iaload, 1) := by decide +kernel
theorem de_Mo_goesOn_16 : decode prog_14_method_67_code 16 = .ok (.bipush 24, 2) := by decide +kernel
theorem de_Mo_goesOn_18 : decode prog_14_method_67_code 18 = .ok (.if_icmp .ge 4, 3) := by decide +kernel
theorem de_Mo_goesOn_21 : decode prog_14_method_67_code 21 = .ok (.return_, 1) := by decide +kernel
theorem de_Mo_goesOn_22 : decode prog_14_method_67_code 22 = .ok (.aload_n 0, 1) := by decide +kernel
theorem de_Mo_goesOn_23 : decode prog_14_method_67_code 23 = .ok (.getfield 39, 3) := by decide +kernel
theorem de_Mo_goesOn_26 : decode prog_14_method_67_code 26 = .ok (.iconst 5, 1) := by decide +kernel
theorem de_Mo_goesOn_27 : decode prog_14_method_67_code 27 = .ok (.iconst 0, 1) := by decide +kernel
theorem de_Mo_goesOn_28 : decode prog_14_method_67_code 28 = .ok (.iastore, 1) := by decide +kernel
theorem de_Mo_goesOn_29 : decode prog_14_method_67_code 29 = .ok (.aload_n 0, 1) := by decide +kernel
theorem de_Mo_goesOn_30 : decode prog_14_method_67_code 30 = .ok (.getfield 39, 3) := by decide +kernel
theorem de_Mo_goesOn_33 : decode prog_14_method_67_code 33 = .ok (.bipush 6, 2) := by decide +kernel
theorem de_Mo_goesOn_35 : decode prog_14_method_67_code 35 = .ok (.dup2, 1) := by decide +kernel
theorem de_Mo_goesOn_36 : decode prog_14_method_67_code 36 = .ok (.iaload, 1) := by decide +kernel
theorem de_Mo_goesOn_37 : decode prog_14_method_67_code 37 = .ok (.iconst 1, 1) := by decide +kernel
theorem de_Mo_goesOn_38 : decode prog_14_method_67_code 38 = .ok (.iadd, 1) := by decide +kernel
theorem de_Mo_goesOn_39 : decode prog_14_method_67_code 39 = .ok (.iastore, 1) := by decide +kernel
theorem de_Mo_goesOn_40 : decode prog_14_method_67_code 40 = .ok (.return_, 1) := by decide +kernel
set_option maxRecDepth 10000 in
theorem co_Mo_goesOn (h5 : 0 ≤ said 5 ∧ said 5 ≤ 23) : ab_Mt g_G g_rs mt_Mo_goesOn 0 0 0 [ab_R 0] (mo_W tape taped rules sign leng clause clauses read next wrong number text made deep lines opn opened stack top word said xx was undone kept sumOf faced slotAt dayAt row bestRow tMany tMost drawX images imageX isMade) (ab_is none (mo_W tape taped rules sign leng clause clauses read next wrong number text made deep lines opn opened stack top word (sp_goesOn said) xx was undone kept sumOf faced slotAt dayAt row bestRow tMany tMost drawX images imageX isMade)) := by
  refine ab_Mt.of rfl (Nat.le_of_ble_eq_true rfl) ?_
  show ab_Ev g_G g_rs mt_Mo_goesOn _ _ _ 0 [some (ab_R 0)] [] _ _
  refine ev_aload_n de_Mo_goesOn_0 rfl rfl ?_
  refine ev_getfield de_Mo_goesOn_1 rfl fl_Mo_39 rfl ?_
  refine ev_iconst de_Mo_goesOn_4 ?_
  refine ev_dup2 de_Mo_goesOn_5 rfl rfl ?_
  refine ev_iaload de_Mo_goesOn_6 rfl (by omega) (by omega) (by omega) ?_
  refine ev_iconst de_Mo_goesOn_7 ?_
  refine ev_iadd de_Mo_goesOn_8 ?_
  refine ev_iastore de_Mo_goesOn_9 rfl (by omega) (by omega) (by omega) ?_
  refine ev_world (w' := mo_W _ _ _ _ _ _ _ _ _ _ _ _ _ _ _ _ _ _ _ _ _ _ _ _ _ _ _ _ _ _ _ _ _ _ _ _ _) rfl ?_
  refine ev_aload_n de_Mo_goesOn_10 rfl rfl ?_
  refine ev_getfield de_Mo_goesOn_11 rfl fl_Mo_39 rfl ?_
  refine ev_iconst de_Mo_goesOn_14 ?_
  refine ev_iaload de_Mo_goesOn_15 rfl (by omega) (by omega) (by omega) ?_
  refine ev_top (show _ = ab_I (said 5 + 1) from rfl) ?_
  refine ev_bipush de_Mo_goesOn_16 rfl ?_
  refine ev_icmp_ge (tgt := 22) de_Mo_goesOn_18 (by decide) (by omega) (by omega) (fun h18 => ?_) (fun h18 => ?_)
  · skip
    refine ev_aload_n de_Mo_goesOn_22 rfl rfl ?_
    refine ev_getfield de_Mo_goesOn_23 rfl fl_Mo_39 rfl ?_
    refine ev_iconst de_Mo_goesOn_26 ?_
    refine ev_iconst de_Mo_goesOn_27 ?_
    refine ev_iastore de_Mo_goesOn_28 rfl (by omega) (by omega) (by omega) ?_
    refine ev_world (w' := mo_W _ _ _ _ _ _ _ _ _ _ _ _ _ _ _ _ _ _ _ _ _ _ _ _ _ _ _ _ _ _ _ _ _ _ _ _ _) rfl ?_
    refine ev_aload_n de_Mo_goesOn_29 rfl rfl ?_
    refine ev_getfield de_Mo_goesOn_30 rfl fl_Mo_39 rfl ?_
    refine ev_bipush de_Mo_goesOn_33 rfl ?_
    refine ev_dup2 de_Mo_goesOn_35 rfl rfl ?_
    refine ev_iaload de_Mo_goesOn_36 rfl (by omega) (by omega) (by omega) ?_
    refine ev_iconst de_Mo_goesOn_37 ?_
    refine ev_iadd de_Mo_goesOn_38 ?_
    refine ev_iastore de_Mo_goesOn_39 rfl (by omega) (by omega) (by omega) ?_
    refine ev_world (w' := mo_W _ _ _ _ _ _ _ _ _ _ _ _ _ _ _ _ _ _ _ _ _ _ _ _ _ _ _ _ _ _ _ _ _ _ _ _ _) rfl ?_
    exact ev_return de_Mo_goesOn_40 rfl ⟨rfl, by unfold sp_goesOn; rw [if_neg (by omega)]; rfl⟩
  · skip
    exact ev_return de_Mo_goesOn_21 rfl ⟨rfl, by unfold sp_goesOn; rw [if_pos (by omega)]⟩
theorem de_Mo_passesAt_0 : decode prog_14_method_68_code 0 = .ok (.aload_n 0, 1) := by decide +kernel
theorem de_Mo_passesAt_1 : decode prog_14_method_68_code 1 = .ok (.getfield 39, 3) := by decide +kernel
theorem de_Mo_passesAt_4 : decode prog_14_method_68_code 4 = .ok (.bipush 7, 2) := by decide +kernel
theorem de_Mo_passesAt_6 : decode prog_14_method_68_code 6 = .ok (.iaload, 1) := by decide +kernel
theorem de_Mo_passesAt_7 : decode prog_14_method_68_code 7 = .ok (.iconst 1, 1) := by decide +kernel
theorem de_Mo_passesAt_8 : decode prog_14_method_68_code 8 = .ok (.if_icmp .ne 7, 3) := by decide +kernel
theorem de_Mo_passesAt_11 : decode prog_14_method_68_code 11 = .ok (.iconst 0, 1) := by decide +kernel
theorem de_Mo_passesAt_12 : decode prog_14_method_68_code 12 = .ok (.goto 4, 3) := by decide +kernel
theorem de_Mo_passesAt_15 : decode prog_14_method_68_code 15 = .ok (.iload_n 1, 1) := by decide +kernel
theorem de_Mo_passesAt_16 : decode prog_14_method_68_code 16 = .ok (.istore_n 2, 1) := by decide +kernel
theorem de_Mo_passesAt_17 : decode prog_14_method_68_code 17 = .ok (.aload_n 0, 1) := by decide +kernel
theorem de_Mo_passesAt_18 : decode prog_14_method_68_code 18 = .ok (.getfield 39, 3) := by decide +kernel
theorem de_Mo_passesAt_21 : decode prog_14_method_68_code 21 = .ok (.bipush 7, 2) := by decide +kernel
theorem de_Mo_passesAt_23 : decode prog_14_method_68_code 23 = .ok (.iconst 0, 1) := by decide +kernel
theorem de_Mo_passesAt_24 : decode prog_14_method_68_code 24 = .ok (.iastore, 1) := by decide +kernel
theorem de_Mo_passesAt_25 : decode prog_14_method_68_code 25 = .ok (.aload_n 0, 1) := by decide +kernel
theorem de_Mo_passesAt_26 : decode prog_14_method_68_code 26 = .ok (.iload_n 2, 1) := by decide +kernel
theorem de_Mo_passesAt_27 : decode prog_14_method_68_code 27 = .ok (.invokevirtual 332, 3) := by decide +kernel
theorem de_Mo_passesAt_30 : decode prog_14_method_68_code 30 = .ok (.aload_n 0, 1) := by decide +kernel
theorem de_Mo_passesAt_31 : decode prog_14_method_68_code 31 = .ok (.invokevirtual 335, 3) := by decide +kernel
theorem de_Mo_passesAt_34 : decode prog_14_method_68_code 34 = .ok (.iload_n 2, 1) := by decide +kernel
theorem de_Mo_passesAt_35 : decode prog_14_method_68_code 35 = .ok (.ifCond .ge 8, 3) := by decide +kernel
theorem de_Mo_passesAt_38 : decode prog_14_method_68_code 38 = .ok (.iload_n 2, 1) := by decide +kernel
theorem de_Mo_passesAt_39 : decode prog_14_method_68_code 39 = .ok (.ineg, 1) := by decide +kernel
theorem de_Mo_passesAt_40 : decode prog_14_method_68_code 40 = .ok (.goto 4, 3) := by decide +kernel
theorem de_Mo_passesAt_43 : decode prog_14_method_68_code 43 = .ok (.iload_n 2, 1) := by decide +kernel
theorem de_Mo_passesAt_44 : decode prog_14_method_68_code 44 = .ok (.ireturn, 1) := by decide +kernel
set_option maxRecDepth 10000 in
theorem co_Mo_passesAt {B : Int} (hI : sg_ok B said) (r : Int) (hr : -3 ≤ r) (hr3 : r ≤ 3) : ab_Mt g_G g_rs mt_Mo_passesAt 2 0 0 [ab_R 0, ab_I r] (mo_W tape taped rules sign leng clause clauses read next wrong number text made deep lines opn opened stack top word said xx was undone kept sumOf faced slotAt dayAt row bestRow tMany tMost drawX images imageX isMade) (ab_is (some (ab_I (((sp_n said r).natAbs : Int)))) (mo_W tape taped rules sign leng clause clauses read next wrong number text made deep lines opn opened stack top word (sp_passAt r said) xx was undone kept sumOf faced slotAt dayAt row bestRow tMany tMost drawX images imageX isMade)) := by
  refine ab_Mt.of rfl (Nat.le_of_ble_eq_true rfl) ?_
  show ab_Ev g_G g_rs mt_Mo_passesAt _ _ _ 0 [some (ab_R 0), some (ab_I r), none] [] _ _
  have hJ := hI; obtain ⟨i0, i1, i2, i3, i4, i5, i6, i7, i8, i9, i10, i11, i12, i13, i14, i15, i16, i17⟩ := sg_all hJ
  have hn3 : (sp_n said r).natAbs ≤ 3 := by unfold sp_n; split <;> omega
  have hm := sg_mid0 hI
  have hm2 := sg_turns (b := sp_by (sp_n said r)) hm _ hn3
  have h5 : 0 ≤ sp_turns (sp_by (sp_n said r)) (ab_up said 7 0) (sp_n said r).natAbs 5 ∧ sp_turns (sp_by (sp_n said r)) (ab_up said 7 0) (sp_n said r).natAbs 5 ≤ 23 := hm2.1 5 (by decide) (by decide)
  refine ev_aload_n de_Mo_passesAt_0 rfl rfl ?_
  refine ev_getfield de_Mo_passesAt_1 rfl fl_Mo_39 rfl ?_
  refine ev_bipush de_Mo_passesAt_4 rfl ?_
  refine ev_iaload de_Mo_passesAt_6 rfl (by omega) (by omega) (by omega) ?_
  refine ev_iconst de_Mo_passesAt_7 ?_
  refine ev_icmp_ne (tgt := 15) de_Mo_passesAt_8 (by decide) (by omega) (by omega) (fun h8 => ?_) (fun h8 => ?_)
  · skip
    have en : r = sp_n said r := (if_neg h8).symm
    refine ev_iload_n de_Mo_passesAt_15 rfl rfl ?_
    refine ev_top (congrArg Sum.inl en) ?_
    refine ev_istore_n (l' := [_, _, _]) de_Mo_passesAt_16 rfl (Nat.le_of_ble_eq_true rfl) rfl ?_
    refine ev_aload_n de_Mo_passesAt_17 rfl rfl ?_
    refine ev_getfield de_Mo_passesAt_18 rfl fl_Mo_39 rfl ?_
    refine ev_bipush de_Mo_passesAt_21 rfl ?_
    refine ev_iconst de_Mo_passesAt_23 ?_
    refine ev_iastore de_Mo_passesAt_24 rfl (by omega) (by omega) (by omega) ?_
    refine ev_world (w' := mo_W _ _ _ _ _ _ _ _ _ _ _ _ _ _ _ _ _ _ _ _ _ _ _ _ _ _ _ _ _ _ _ _ _ _ _ _ _) rfl ?_
    refine ev_aload_n de_Mo_passesAt_25 rfl rfl ?_
    refine ev_iload_n de_Mo_passesAt_26 rfl rfl ?_
    refine ev_vn (ci := 11) de_Mo_passesAt_27 (co_Mo_turns hm hn3) kb_Mo_332 ⟨im_Mo_turns, se_Mo_turns⟩ rfl rfl rfl (Nat.le_of_ble_eq_true rfl) (by decide) rfl ?_
    refine ev_aload_n de_Mo_passesAt_30 rfl rfl ?_
    refine ev_vn (ci := 11) de_Mo_passesAt_31 (co_Mo_goesOn h5) kb_Mo_335 ⟨im_Mo_goesOn, se_Mo_goesOn⟩ rfl rfl rfl (Nat.le_of_ble_eq_true rfl) (by decide) rfl ?_
    refine ev_iload_n de_Mo_passesAt_34 rfl rfl ?_
    refine ev_if_ge (tgt := 43) de_Mo_passesAt_35 (by decide) (by omega) (fun h35 => ?_) (fun h35 => ?_)
    · skip
      refine ev_iload_n de_Mo_passesAt_43 rfl rfl ?_
      exact ev_ireturn de_Mo_passesAt_44 rfl ⟨by congr 2; omega, rfl⟩
    · skip
      refine ev_iload_n de_Mo_passesAt_38 rfl rfl ?_
      refine ev_ineg de_Mo_passesAt_39 ?_
      refine ev_goto (tgt := 44) de_Mo_passesAt_40 (by decide) ?_
      exact ev_ireturn de_Mo_passesAt_44 rfl ⟨by congr 2; omega, rfl⟩
  · skip
    have en : (0 : Int) = sp_n said r := (if_pos h8).symm
    refine ev_iconst de_Mo_passesAt_11 ?_
    refine ev_goto (tgt := 16) de_Mo_passesAt_12 (by decide) ?_
    refine ev_top (congrArg Sum.inl en) ?_
    refine ev_istore_n (l' := [_, _, _]) de_Mo_passesAt_16 rfl (Nat.le_of_ble_eq_true rfl) rfl ?_
    refine ev_aload_n de_Mo_passesAt_17 rfl rfl ?_
    refine ev_getfield de_Mo_passesAt_18 rfl fl_Mo_39 rfl ?_
    refine ev_bipush de_Mo_passesAt_21 rfl ?_
    refine ev_iconst de_Mo_passesAt_23 ?_
    refine ev_iastore de_Mo_passesAt_24 rfl (by omega) (by omega) (by omega) ?_
    refine ev_world (w' := mo_W _ _ _ _ _ _ _ _ _ _ _ _ _ _ _ _ _ _ _ _ _ _ _ _ _ _ _ _ _ _ _ _ _ _ _ _ _) rfl ?_
    refine ev_aload_n de_Mo_passesAt_25 rfl rfl ?_
    refine ev_iload_n de_Mo_passesAt_26 rfl rfl ?_
    refine ev_vn (ci := 11) de_Mo_passesAt_27 (co_Mo_turns hm hn3) kb_Mo_332 ⟨im_Mo_turns, se_Mo_turns⟩ rfl rfl rfl (Nat.le_of_ble_eq_true rfl) (by decide) rfl ?_
    refine ev_aload_n de_Mo_passesAt_30 rfl rfl ?_
    refine ev_vn (ci := 11) de_Mo_passesAt_31 (co_Mo_goesOn h5) kb_Mo_335 ⟨im_Mo_goesOn, se_Mo_goesOn⟩ rfl rfl rfl (Nat.le_of_ble_eq_true rfl) (by decide) rfl ?_
    refine ev_iload_n de_Mo_passesAt_34 rfl rfl ?_
    refine ev_if_ge (tgt := 43) de_Mo_passesAt_35 (by decide) (by omega) (fun h35 => ?_) (fun h35 => ?_)
    · skip
      refine ev_iload_n de_Mo_passesAt_43 rfl rfl ?_
      exact ev_ireturn de_Mo_passesAt_44 rfl ⟨by congr 2; omega, rfl⟩
    · skip
      refine ev_iload_n de_Mo_passesAt_38 rfl rfl ?_
      refine ev_ineg de_Mo_passesAt_39 ?_
      refine ev_goto (tgt := 44) de_Mo_passesAt_40 (by decide) ?_
      exact ev_ireturn de_Mo_passesAt_44 rfl ⟨by congr 2; omega, rfl⟩
theorem de_Mo_passes_0 : decode prog_14_method_69_code 0 = .ok (.aload_n 0, 1) := by decide +kernel
theorem de_Mo_passes_1 : decode prog_14_method_69_code 1 = .ok (.aload_n 0, 1) := by decide +kernel
theorem de_Mo_passes_2 : decode prog_14_method_69_code 2 = .ok (.invokevirtual 310, 3) := by decide +kernel
theorem de_Mo_passes_5 : decode prog_14_method_69_code 5 = .ok (.invokevirtual 338, 3) := by decide +kernel
theorem de_Mo_passes_8 : decode prog_14_method_69_code 8 = .ok (.ireturn, 1) := by decide +kernel
set_option maxRecDepth 10000 in
theorem co_Mo_passes {B : Int} (hI : sg_ok B said) : ab_Mt g_G g_rs mt_Mo_passes 3 0 0 [ab_R 0] (mo_W tape taped rules sign leng clause clauses read next wrong number text made deep lines opn opened stack top word said xx was undone kept sumOf faced slotAt dayAt row bestRow tMany tMost drawX images imageX isMade) (ab_is (some (ab_I (((sp_n said (sp_rateNow said)).natAbs : Int)))) (mo_W tape taped rules sign leng clause clauses read next wrong number text made deep lines opn opened stack top word (sp_pass said) xx was undone kept sumOf faced slotAt dayAt row bestRow tMany tMost drawX images imageX isMade)) := by
  refine ab_Mt.of rfl (Nat.le_of_ble_eq_true rfl) ?_
  show ab_Ev g_G g_rs mt_Mo_passes _ _ _ 0 [some (ab_R 0)] [] _ _
  refine ev_aload_n de_Mo_passes_0 rfl rfl ?_
  refine ev_aload_n de_Mo_passes_1 rfl rfl ?_
  refine ev_vv (ci := 11) de_Mo_passes_2 (co_Mo_rateNow hI) kb_Mo_310 ⟨im_Mo_rateNow, se_Mo_rateNow⟩ rfl rfl rfl (Nat.le_of_ble_eq_true rfl) (by decide) rfl ?_
  refine ev_vv (ci := 11) de_Mo_passes_5 (co_Mo_passesAt hI _ (sg_rate hI).1 (sg_rate hI).2) kb_Mo_338 ⟨im_Mo_passesAt, se_Mo_passesAt⟩ rfl rfl rfl (Nat.le_of_ble_eq_true rfl) (by decide) rfl ?_
  exact ev_ireturn de_Mo_passes_8 rfl ⟨rfl, rfl⟩
theorem de_Mo_keeps_0 : decode prog_14_method_81_code 0 = .ok (.iconst 0, 1) := by decide +kernel
theorem de_Mo_keeps_1 : decode prog_14_method_81_code 1 = .ok (.istore_n 1, 1) := by decide +kernel
theorem de_Mo_keeps_2 : decode prog_14_method_81_code 2 = .ok (.iload_n 1, 1) := by decide +kernel
theorem de_Mo_keeps_3 : decode prog_14_method_81_code 3 = .ok (.bipush 53, 2) := by decide +kernel
theorem de_Mo_keeps_5 : decode prog_14_method_81_code 5 = .ok (.if_icmp .ge 21, 3) := by decide +kernel
theorem de_Mo_keeps_8 : decode prog_14_method_81_code 8 = .ok (.aload_n 0, 1) := by decide +kernel
theorem de_Mo_keeps_9 : decode prog_14_method_81_code 9 = .ok (.getfield 45, 3) := by decide +kernel
theorem de_Mo_keeps_12 : decode prog_14_method_81_code 12 = .ok (.iload_n 1, 1) := by decide +kernel
theorem de_Mo_keeps_13 : decode prog_14_method_81_code 13 = .ok (.aload_n 0, 1) := by decide +kernel
theorem de_Mo_keeps_14 : decode prog_14_method_81_code 14 = .ok (.getfield 39, 3) := by decide +kernel
theorem de_Mo_keeps_17 : decode prog_14_method_81_code 17 = .ok (.iload_n 1, 1) := by decide +kernel
theorem de_Mo_keeps_18 : decode prog_14_method_81_code 18 = .ok (.iaload, 1) := by decide +kernel
theorem de_Mo_keeps_19 : decode prog_14_method_81_code 19 = .ok (.iastore, 1) := by decide +kernel
theorem de_Mo_keeps_20 : decode prog_14_method_81_code 20 = .ok (.iinc 1 1, 3) := by decide +kernel
theorem de_Mo_keeps_23 : decode prog_14_method_81_code 23 = .ok (.goto (-21), 3) := by decide +kernel
theorem de_Mo_keeps_26 : decode prog_14_method_81_code 26 = .ok (.return_, 1) := by decide +kernel
set_option maxRecDepth 10000 in
theorem lo_Mo_keeps  : ∀ (n : Nat) (k : Nat), k ≤ 53 → 53 < k + n → ab_Ev g_G g_rs mt_Mo_keeps 0 0 0 2 [some (ab_R 0), some (ab_I (k : Int))] [] (mo_W tape taped rules sign leng clause clauses read next wrong number text made deep lines opn opened stack top word said xx was undone (sp_cp said kept k) sumOf faced slotAt dayAt row bestRow tMany tMost drawX images imageX isMade) (ab_is none (mo_W tape taped rules sign leng clause clauses read next wrong number text made deep lines opn opened stack top word said xx was undone (sp_cp said kept 53) sumOf faced slotAt dayAt row bestRow tMany tMost drawX images imageX isMade)) := by
  intro n
  induction n with
  | zero =>
    intro k
    intro h1 h2; omega
  | succ n ih =>
    intro k
    intro h1 h2
    refine ev_iload_n de_Mo_keeps_2 rfl rfl ?_
    refine ev_bipush de_Mo_keeps_3 rfl ?_
    refine ev_icmp_ge (tgt := 26) de_Mo_keeps_5 (by decide) (by omega) (by omega) (fun h5 => ?_) (fun h5 => ?_)
    · skip
      have e : k = 53 := by omega
      subst e
      exact ev_return de_Mo_keeps_26 rfl ⟨rfl, rfl⟩
    · skip
      refine ev_aload_n de_Mo_keeps_8 rfl rfl ?_
      refine ev_getfield de_Mo_keeps_9 rfl fl_Mo_45 rfl ?_
      refine ev_iload_n de_Mo_keeps_12 rfl rfl ?_
      refine ev_aload_n de_Mo_keeps_13 rfl rfl ?_
      refine ev_getfield de_Mo_keeps_14 rfl fl_Mo_39 rfl ?_
      refine ev_iload_n de_Mo_keeps_17 rfl rfl ?_
      refine ev_iaload de_Mo_keeps_18 rfl (by omega) (by omega) (by omega) ?_
      refine ev_iastore de_Mo_keeps_19 rfl (by omega) (by omega) (by omega) ?_
      refine ev_world (w' := mo_W _ _ _ _ _ _ _ _ _ _ _ _ _ _ _ _ _ _ _ _ _ _ _ _ _ _ _ _ _ _ _ _ _ _ _ _ _) rfl ?_
      refine ev_world (w' := (mo_W tape taped rules sign leng clause clauses read next wrong number text made deep lines opn opened stack top word said xx was undone (sp_cp said kept (k + 1)) sumOf faced slotAt dayAt row bestRow tMany tMost drawX images imageX isMade)) (by rw [sp_cp_s]) ?_
      refine ev_iinc (l' := [_, _]) de_Mo_keeps_20 rfl rfl ?_
      refine ev_goto (tgt := 2) de_Mo_keeps_23 (by decide) ?_
      exact ih (k + 1) (by omega) (by omega)
set_option maxRecDepth 10000 in
theorem co_Mo_keeps  : ab_Mt g_G g_rs mt_Mo_keeps 0 0 0 [ab_R 0] (mo_W tape taped rules sign leng clause clauses read next wrong number text made deep lines opn opened stack top word said xx was undone kept sumOf faced slotAt dayAt row bestRow tMany tMost drawX images imageX isMade) (ab_is none (mo_W tape taped rules sign leng clause clauses read next wrong number text made deep lines opn opened stack top word said xx was undone (sp_cp said kept 53) sumOf faced slotAt dayAt row bestRow tMany tMost drawX images imageX isMade)) := by
  refine ab_Mt.of rfl (Nat.le_of_ble_eq_true rfl) ?_
  show ab_Ev g_G g_rs mt_Mo_keeps _ _ _ 0 [some (ab_R 0), none] [] _ _
  refine ev_iconst de_Mo_keeps_0 ?_
  refine ev_istore_n (l' := [_, _]) de_Mo_keeps_1 rfl (Nat.le_of_ble_eq_true rfl) rfl ?_
  refine ev_world (w' := (mo_W tape taped rules sign leng clause clauses read next wrong number text made deep lines opn opened stack top word said xx was undone (sp_cp said kept 0) sumOf faced slotAt dayAt row bestRow tMany tMost drawX images imageX isMade)) (by rw [sp_cp_0]) ?_
  exact lo_Mo_keeps 54 0 (by omega) (by omega)
theorem de_Mo_laysBack_0 : decode prog_14_method_82_code 0 = .ok (.iconst 0, 1) := by decide +kernel
theorem de_Mo_laysBack_1 : decode prog_14_method_82_code 1 = .ok (.istore_n 1, 1) := by decide +kernel
theorem de_Mo_laysBack_2 : decode prog_14_method_82_code 2 = .ok (.iload_n 1, 1) := by decide +kernel
theorem de_Mo_laysBack_3 : decode prog_14_method_82_code 3 = .ok (.bipush 53, 2) := by decide +kernel
theorem de_Mo_laysBack_5 : decode prog_14_method_82_code 5 = .ok (.if_icmp .ge 21, 3) := by decide +kernel
theorem de_Mo_laysBack_8 : decode prog_14_method_82_code 8 = .ok (.aload_n 0, 1) := by decide +kernel
theorem de_Mo_laysBack_9 : decode prog_14_method_82_code 9 = .ok (.getfield 39, 3) := by decide +kernel
theorem de_Mo_laysBack_12 : decode prog_14_method_82_code 12 = .ok (.iload_n 1, 1) := by decide +kernel
theorem de_Mo_laysBack_13 : decode prog_14_method_82_code 13 = .ok (.aload_n 0, 1) := by decide +kernel
theorem de_Mo_laysBack_14 : decode prog_14_method_82_code 14 = .ok (.getfield 45, 3) := by decide +kernel
theorem de_Mo_laysBack_17 : decode prog_14_method_82_code 17 = .ok (.iload_n 1, 1) := by decide +kernel
theorem de_Mo_laysBack_18 : decode prog_14_method_82_code 18 = .ok (.iaload, 1) := by decide +kernel
theorem de_Mo_laysBack_19 : decode prog_14_method_82_code 19 = .ok (.iastore, 1) := by decide +kernel
theorem de_Mo_laysBack_20 : decode prog_14_method_82_code 20 = .ok (.iinc 1 1, 3) := by decide +kernel
theorem de_Mo_laysBack_23 : decode prog_14_method_82_code 23 = .ok (.goto (-21), 3) := by decide +kernel
theorem de_Mo_laysBack_26 : decode prog_14_method_82_code 26 = .ok (.return_, 1) := by decide +kernel
set_option maxRecDepth 10000 in
theorem lo_Mo_laysBack  : ∀ (n : Nat) (k : Nat), k ≤ 53 → 53 < k + n → ab_Ev g_G g_rs mt_Mo_laysBack 0 0 0 2 [some (ab_R 0), some (ab_I (k : Int))] [] (mo_W tape taped rules sign leng clause clauses read next wrong number text made deep lines opn opened stack top word (sp_cp kept said k) xx was undone kept sumOf faced slotAt dayAt row bestRow tMany tMost drawX images imageX isMade) (ab_is none (mo_W tape taped rules sign leng clause clauses read next wrong number text made deep lines opn opened stack top word (sp_cp kept said 53) xx was undone kept sumOf faced slotAt dayAt row bestRow tMany tMost drawX images imageX isMade)) := by
  intro n
  induction n with
  | zero =>
    intro k
    intro h1 h2; omega
  | succ n ih =>
    intro k
    intro h1 h2
    refine ev_iload_n de_Mo_laysBack_2 rfl rfl ?_
    refine ev_bipush de_Mo_laysBack_3 rfl ?_
    refine ev_icmp_ge (tgt := 26) de_Mo_laysBack_5 (by decide) (by omega) (by omega) (fun h5 => ?_) (fun h5 => ?_)
    · skip
      have e : k = 53 := by omega
      subst e
      exact ev_return de_Mo_laysBack_26 rfl ⟨rfl, rfl⟩
    · skip
      refine ev_aload_n de_Mo_laysBack_8 rfl rfl ?_
      refine ev_getfield de_Mo_laysBack_9 rfl fl_Mo_39 rfl ?_
      refine ev_iload_n de_Mo_laysBack_12 rfl rfl ?_
      refine ev_aload_n de_Mo_laysBack_13 rfl rfl ?_
      refine ev_getfield de_Mo_laysBack_14 rfl fl_Mo_45 rfl ?_
      refine ev_iload_n de_Mo_laysBack_17 rfl rfl ?_
      refine ev_iaload de_Mo_laysBack_18 rfl (by omega) (by omega) (by omega) ?_
      refine ev_iastore de_Mo_laysBack_19 rfl (by omega) (by omega) (by omega) ?_
      refine ev_world (w' := mo_W _ _ _ _ _ _ _ _ _ _ _ _ _ _ _ _ _ _ _ _ _ _ _ _ _ _ _ _ _ _ _ _ _ _ _ _ _) rfl ?_
      refine ev_world (w' := (mo_W tape taped rules sign leng clause clauses read next wrong number text made deep lines opn opened stack top word (sp_cp kept said (k + 1)) xx was undone kept sumOf faced slotAt dayAt row bestRow tMany tMost drawX images imageX isMade)) (by rw [sp_cp_s]) ?_
      refine ev_iinc (l' := [_, _]) de_Mo_laysBack_20 rfl rfl ?_
      refine ev_goto (tgt := 2) de_Mo_laysBack_23 (by decide) ?_
      exact ih (k + 1) (by omega) (by omega)
set_option maxRecDepth 10000 in
theorem co_Mo_laysBack  : ab_Mt g_G g_rs mt_Mo_laysBack 0 0 0 [ab_R 0] (mo_W tape taped rules sign leng clause clauses read next wrong number text made deep lines opn opened stack top word said xx was undone kept sumOf faced slotAt dayAt row bestRow tMany tMost drawX images imageX isMade) (ab_is none (mo_W tape taped rules sign leng clause clauses read next wrong number text made deep lines opn opened stack top word (sp_cp kept said 53) xx was undone kept sumOf faced slotAt dayAt row bestRow tMany tMost drawX images imageX isMade)) := by
  refine ab_Mt.of rfl (Nat.le_of_ble_eq_true rfl) ?_
  show ab_Ev g_G g_rs mt_Mo_laysBack _ _ _ 0 [some (ab_R 0), none] [] _ _
  refine ev_iconst de_Mo_laysBack_0 ?_
  refine ev_istore_n (l' := [_, _]) de_Mo_laysBack_1 rfl (Nat.le_of_ble_eq_true rfl) rfl ?_
  refine ev_world (w' := (mo_W tape taped rules sign leng clause clauses read next wrong number text made deep lines opn opened stack top word (sp_cp kept said 0) xx was undone kept sumOf faced slotAt dayAt row bestRow tMany tMost drawX images imageX isMade)) (by rw [sp_cp_0]) ?_
  exact lo_Mo_laysBack 54 0 (by omega) (by omega)
theorem de_Mo_canGo_0 : decode prog_14_method_72_code 0 = .ok (.bipush 24, 2) := by decide +kernel
theorem de_Mo_canGo_2 : decode prog_14_method_72_code 2 = .ok (.aload_n 0, 1) := by decide +kernel
theorem de_Mo_canGo_3 : decode prog_14_method_72_code 3 = .ok (.getfield 39, 3) := by decide +kernel
theorem de_Mo_canGo_6 : decode prog_14_method_72_code 6 = .ok (.bipush 6, 2) := by decide +kernel
theorem de_Mo_canGo_8 : decode prog_14_method_72_code 8 = .ok (.iaload, 1) := by decide +kernel
theorem de_Mo_canGo_9 : decode prog_14_method_72_code 9 = .ok (.imul, 1) := by decide +kernel
theorem de_Mo_canGo_10 : decode prog_14_method_72_code 10 = .ok (.aload_n 0, 1) := by decide +kernel
theorem de_Mo_canGo_11 : decode prog_14_method_72_code 11 = .ok (.getfield 39, 3) := by decide +kernel
theorem de_Mo_canGo_14 : decode prog_14_method_72_code 14 = .ok (.iconst 5, 1) := by decide +kernel
theorem de_Mo_canGo_15 : decode prog_14_method_72_code 15 = .ok (.iaload, 1) := by decide +kernel
theorem de_Mo_canGo_16 : decode prog_14_method_72_code 16 = .ok (.iadd, 1) := by decide +kernel
theorem de_Mo_canGo_17 : decode prog_14_method_72_code 17 = .ok (.iload_n 1, 1) := by decide +kernel
theorem de_Mo_canGo_18 : decode prog_14_method_72_code 18 = .ok (.iadd, 1) := by decide +kernel
theorem de_Mo_canGo_19 : decode prog_14_method_72_code 19 = .ok (.sipush 24000, 3) := by decide +kernel
theorem de_Mo_canGo_22 : decode prog_14_method_72_code 22 = .ok (.if_icmp .ge 7, 3) := by decide +kernel
theorem de_Mo_canGo_25 : decode prog_14_method_72_code 25 = .ok (.iconst 1, 1) := by decide +kernel
theorem de_Mo_canGo_26 : decode prog_14_method_72_code 26 = .ok (.goto 4, 3) := by decide +kernel
theorem de_Mo_canGo_29 : decode prog_14_method_72_code 29 = .ok (.iconst 0, 1) := by decide +kernel
theorem de_Mo_canGo_30 : decode prog_14_method_72_code 30 = .ok (.ireturn, 1) := by decide +kernel
set_option maxRecDepth 10000 in
theorem co_Mo_canGo {B : Int} (hI : sg_ok B said) (n : Int) (hn : -100000 ≤ n ∧ n ≤ 100000) : ab_Mt g_G g_rs mt_Mo_canGo 0 0 0 [ab_R 0, ab_I n] (mo_W tape taped rules sign leng clause clauses read next wrong number text made deep lines opn opened stack top word said xx was undone kept sumOf faced slotAt dayAt row bestRow tMany tMost drawX images imageX isMade) (ab_is (some (ab_I (if 24 * said 6 + said 5 + n < 24000 then 1 else 0))) (mo_W tape taped rules sign leng clause clauses read next wrong number text made deep lines opn opened stack top word said xx was undone kept sumOf faced slotAt dayAt row bestRow tMany tMost drawX images imageX isMade)) := by
  refine ab_Mt.of rfl (Nat.le_of_ble_eq_true rfl) ?_
  show ab_Ev g_G g_rs mt_Mo_canGo _ _ _ 0 [some (ab_R 0), some (ab_I n)] [] _ _
  have hJ := hI; obtain ⟨i0, i1, i2, i3, i4, i5, i6, i7, i8, i9, i10, i11, i12, i13, i14, i15, i16, i17⟩ := sg_all hJ
  refine ev_bipush de_Mo_canGo_0 rfl ?_
  refine ev_aload_n de_Mo_canGo_2 rfl rfl ?_
  refine ev_getfield de_Mo_canGo_3 rfl fl_Mo_39 rfl ?_
  refine ev_bipush de_Mo_canGo_6 rfl ?_
  refine ev_iaload de_Mo_canGo_8 rfl (by omega) (by omega) (by omega) ?_
  refine ev_imul de_Mo_canGo_9 ?_
  refine ev_aload_n de_Mo_canGo_10 rfl rfl ?_
  refine ev_getfield de_Mo_canGo_11 rfl fl_Mo_39 rfl ?_
  refine ev_iconst de_Mo_canGo_14 ?_
  refine ev_iaload de_Mo_canGo_15 rfl (by omega) (by omega) (by omega) ?_
  refine ev_iadd de_Mo_canGo_16 ?_
  refine ev_iload_n de_Mo_canGo_17 rfl rfl ?_
  refine ev_iadd de_Mo_canGo_18 ?_
  refine ev_sipush de_Mo_canGo_19 rfl ?_
  refine ev_icmp_ge (tgt := 29) de_Mo_canGo_22 (by decide) (by omega) (by omega) (fun h22 => ?_) (fun h22 => ?_)
  · skip
    refine ev_iconst de_Mo_canGo_29 ?_
    exact ev_zreturn de_Mo_canGo_30 rfl (by omega) ⟨by first | rw [if_pos (by omega)] | rw [if_neg (by omega)], rfl⟩
  · skip
    refine ev_iconst de_Mo_canGo_25 ?_
    refine ev_goto (tgt := 30) de_Mo_canGo_26 (by decide) ?_
    exact ev_zreturn de_Mo_canGo_30 rfl (by omega) ⟨by first | rw [if_pos (by omega)] | rw [if_neg (by omega)], rfl⟩
end MO
