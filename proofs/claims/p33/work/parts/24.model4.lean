section MO
variable {tape : Int → Int} {taped : Int} {rules : Int} {sign : Int → Int} {leng : Int → Int} {clause : Int → Int} {clauses : Int → Int} {read : Int → Int} {next : Int} {wrong : Int} {number : Int} {text : Int} {made : Int} {deep : Int} {lines : Int} {opn : Int → Int} {opened : Int} {stack : Int → Int64} {top : Int} {word : Int → Int64} {said : Int → Int} {xx : Int} {was : Int → Int} {undone : Int} {kept : Int → Int} {sumOf : Int → Int} {faced : Int → Int} {slotAt : Int → Int} {dayAt : Int → Int} {row : Int → Int} {bestRow : Int → Int} {tMany : Int} {tMost : Int} {drawX : Int64} {images : Int → Int} {imageX : Int → Int} {isMade : Int → Int}
def sp_sh (was : Int → Int) (n : Int) : Int → Int := fun j => if 0 ≤ j ∧ j < n then was (j + 53) else was j
theorem sp_sh_s (was : Int → Int) (n : Int) (hn : 0 ≤ n) : ab_up (sp_sh was n) n (sp_sh was n (n + 53)) = sp_sh was (n + 1) := by
  funext j
  unfold ab_up sp_sh
  by_cases h : j = n
  · rw [if_pos h, if_neg (by omega), if_pos (by omega), h]
  · rw [if_neg h]
    by_cases h2 : 0 ≤ j ∧ j < n
    · rw [if_pos h2, if_pos (by omega)]
    · rw [if_neg h2, if_neg (by omega)]
theorem sp_sh_0 (was : Int → Int) : sp_sh was 0 = was := by
  funext j
  unfold sp_sh
  rw [if_neg (by omega)]
def sp_kp (said was : Int → Int) (u : Int) (n : Nat) : Int → Int := fun j => if 53 * u ≤ j ∧ j < 53 * u + n then said (j - 53 * u) else was j
theorem sp_kp_s (said was : Int → Int) (u : Int) (n : Nat) : ab_up (sp_kp said was u n) (53 * u + (n : Int)) (said (n : Int)) = sp_kp said was u (n + 1) := by
  funext j
  unfold ab_up sp_kp
  by_cases h : j = 53 * u + (n : Int)
  · rw [if_pos h, if_pos (by omega), h, show 53 * u + (n : Int) - 53 * u = (n : Int) by omega]
  · rw [if_neg h]
    by_cases h2 : 53 * u ≤ j ∧ j < 53 * u + n
    · rw [if_pos h2, if_pos (by omega)]
    · rw [if_neg h2, if_neg (by omega)]
theorem sp_kp_0 (said was : Int → Int) (u : Int) : sp_kp said was u 0 = was := by
  funext j
  unfold sp_kp
  rw [if_neg (by omega)]
/-- where an ACT is kept, and the row behind it -/
def sp_ku (u : Int) : Int := if u = 20 then 19 else u
def sp_kw (said was : Int → Int) (u : Int) : Int → Int := sp_kp said (if u = 20 then sp_sh was 1007 else was) (sp_ku u) 53
def sp_snap (was : Int → Int) (u : Int) : Int → Int := fun k => was (53 * u + k)
theorem de_Mo_keepsAct_0 : decode prog_14_method_70_code 0 = .ok (.aload_n 0, 1) := by decide +kernel
theorem de_Mo_keepsAct_1 : decode prog_14_method_70_code 1 = .ok (.getfield 272, 3) := by decide +kernel
theorem de_Mo_keepsAct_4 : decode prog_14_method_70_code 4 = .ok (.bipush 20, 2) := by decide +kernel
theorem de_Mo_keepsAct_6 : decode prog_14_method_70_code 6 = .ok (.if_icmp .ne 44, 3) := by decide +kernel
theorem de_Mo_keepsAct_9 : decode prog_14_method_70_code 9 = .ok (.bipush 53, 2) := by decide +kernel
theorem de_Mo_keepsAct_11 : decode prog_14_method_70_code 11 = .ok (.istore_n 1, 1) := by decide +kernel
theorem de_Mo_keepsAct_12 : decode prog_14_method_70_code 12 = .ok (.iload_n 1, 1) := by decide +kernel
theorem de_Mo_keepsAct_13 : decode prog_14_method_70_code 13 = .ok (.sipush 1060, 3) := by decide +kernel
theorem de_Mo_keepsAct_16 : decode prog_14_method_70_code 16 = .ok (.if_icmp .ge 24, 3) := by decide +kernel
theorem de_Mo_keepsAct_19 : decode prog_14_method_70_code 19 = .ok (.aload_n 0, 1) := by decide +kernel
theorem de_Mo_keepsAct_20 : decode prog_14_method_70_code 20 = .ok (.getfield 42, 3) := by decide +kernel
theorem de_Mo_keepsAct_23 : decode prog_14_method_70_code 23 = .ok (.iload_n 1, 1) := by decide +kernel
theorem de_Mo_keepsAct_24 : decode prog_14_method_70_code 24 = .ok (.bipush 53, 2) := by decide +kernel
theorem de_Mo_keepsAct_26 : decode prog_14_method_70_code 26 = .ok (.isub, 1) := by decide +kernel
theorem de_Mo_keepsAct_27 : decode prog_14_method_70_code 27 = .ok (.aload_n 0, 1) := by decide +kernel
theorem de_Mo_keepsAct_28 : decode prog_14_method_70_code 28 = .ok (.getfield 42, 3) := by decide +kernel
theorem de_Mo_keepsAct_31 : decode prog_14_method_70_code 31 = .ok (.iload_n 1, 1) := by decide +kernel
theorem de_Mo_keepsAct_32 : decode prog_14_method_70_code 32 = .ok (.iaload, 1) := by decide +kernel
theorem de_Mo_keepsAct_33 : decode prog_14_method_70_code 33 = .ok (.iastore, 1) := by decide +kernel
theorem de_Mo_keepsAct_34 : decode prog_14_method_70_code 34 = .ok (.iinc 1 1, 3) := by decide +kernel
theorem de_Mo_keepsAct_37 : decode prog_14_method_70_code 37 = .ok (.goto (-25), 3) := by decide +kernel
theorem de_Mo_keepsAct_40 : decode prog_14_method_70_code 40 = .ok (.aload_n 0, 1) := by decide +kernel
theorem de_Mo_keepsAct_41 : decode prog_14_method_70_code 41 = .ok (.dup, 1) := by decide +kernel
theorem de_Mo_keepsAct_42 : decode prog_14_method_70_code 42 = .ok (.getfield 272, 3) := by decide +kernel
theorem de_Mo_keepsAct_45 : decode prog_14_method_70_code 45 = .ok (.iconst 1, 1) := by decide +kernel
theorem de_Mo_keepsAct_46 : decode prog_14_method_70_code 46 = .ok (.isub, 1) := by decide +kernel
theorem de_Mo_keepsAct_47 : decode prog_14_method_70_code 47 = .ok (.putfield 272, 3) := by decide +kernel
theorem de_Mo_keepsAct_50 : decode prog_14_method_70_code 50 = .ok (.iconst 0, 1) := by decide +kernel
theorem de_Mo_keepsAct_51 : decode prog_14_method_70_code 51 = .ok (.istore_n 1, 1) := by decide +kernel
theorem de_Mo_keepsAct_52 : decode prog_14_method_70_code 52 = .ok (.iload_n 1, 1) := by decide +kernel
theorem de_Mo_keepsAct_53 : decode prog_14_method_70_code 53 = .ok (.bipush 53, 2) := by decide +kernel
theorem de_Mo_keepsAct_55 : decode prog_14_method_70_code 55 = .ok (.if_icmp .ge 29, 3) := by decide +kernel
theorem de_Mo_keepsAct_58 : decode prog_14_method_70_code 58 = .ok (.aload_n 0, 1) := by decide +kernel
theorem de_Mo_keepsAct_59 : decode prog_14_method_70_code 59 = .ok (.getfield 42, 3) := by decide +kernel
theorem de_Mo_keepsAct_62 : decode prog_14_method_70_code 62 = .ok (.bipush 53, 2) := by decide +kernel
theorem de_Mo_keepsAct_64 : decode prog_14_method_70_code 64 = .ok (.aload_n 0, 1) := by decide +kernel
theorem de_Mo_keepsAct_65 : decode prog_14_method_70_code 65 = .ok (.getfield 272, 3) := by decide +kernel
theorem de_Mo_keepsAct_68 : decode prog_14_method_70_code 68 = .ok (.imul, 1) := by decide +kernel
theorem de_Mo_keepsAct_69 : decode prog_14_method_70_code 69 = .ok (.iload_n 1, 1) := by decide +kernel
theorem de_Mo_keepsAct_70 : decode prog_14_method_70_code 70 = .ok (.iadd, 1) := by decide +kernel
theorem de_Mo_keepsAct_71 : decode prog_14_method_70_code 71 = .ok (.aload_n 0, 1) := by decide +kernel
theorem de_Mo_keepsAct_72 : decode prog_14_method_70_code 72 = .ok (.getfield 39, 3) := by decide +kernel
theorem de_Mo_keepsAct_75 : decode prog_14_method_70_code 75 = .ok (.iload_n 1, 1) := by decide +kernel
theorem de_Mo_keepsAct_76 : decode prog_14_method_70_code 76 = .ok (.iaload, 1) := by decide +kernel
theorem de_Mo_keepsAct_77 : decode prog_14_method_70_code 77 = .ok (.iastore, 1) := by decide +kernel
theorem de_Mo_keepsAct_78 : decode prog_14_method_70_code 78 = .ok (.iinc 1 1, 3) := by decide +kernel
theorem de_Mo_keepsAct_81 : decode prog_14_method_70_code 81 = .ok (.goto (-29), 3) := by decide +kernel
theorem de_Mo_keepsAct_84 : decode prog_14_method_70_code 84 = .ok (.aload_n 0, 1) := by decide +kernel
theorem de_Mo_keepsAct_85 : decode prog_14_method_70_code 85 = .ok (.dup, 1) := by decide +kernel
theorem de_Mo_keepsAct_86 : decode prog_14_method_70_code 86 = .ok (.getfield 272, 3) := by decide +kernel
theorem de_Mo_keepsAct_89 : decode prog_14_method_70_code 89 = .ok (.iconst 1, 1) := by decide +kernel
theorem de_Mo_keepsAct_90 : decode prog_14_method_70_code 90 = .ok (.iadd, 1) := by decide +kernel
theorem de_Mo_keepsAct_91 : decode prog_14_method_70_code 91 = .ok (.putfield 272, 3) := by decide +kernel
theorem de_Mo_keepsAct_94 : decode prog_14_method_70_code 94 = .ok (.return_, 1) := by decide +kernel
set_option maxRecDepth 10000 in
theorem lo_Mo_keepsAct1 (said2 : Int → Int) (hsd : said2 = said) (hu : undone = 20) (Q : Option ab_V → ab_W → Prop) (hq : ab_Ev g_G g_rs mt_Mo_keepsAct 0 0 0 40 [some (ab_R 0), some (ab_I 1060)] [] (mo_W tape taped rules sign leng clause clauses read next wrong number text made deep lines opn opened stack top word said xx (sp_sh was 1007) undone kept sumOf faced slotAt dayAt row bestRow tMany tMost drawX images imageX isMade) Q) : ∀ (n : Nat) (k : Nat), 53 ≤ k → k ≤ 1060 → 1060 < k + n → ab_Ev g_G g_rs mt_Mo_keepsAct 0 0 0 12 [some (ab_R 0), some (ab_I (k : Int))] [] (mo_W tape taped rules sign leng clause clauses read next wrong number text made deep lines opn opened stack top word said xx (sp_sh was ((k : Int) - 53)) undone kept sumOf faced slotAt dayAt row bestRow tMany tMost drawX images imageX isMade) Q := by
  intro n
  induction n with
  | zero =>
    intro k
    intro h0 h1 h2; omega
  | succ n ih =>
    intro k
    intro h0 h1 h2
    refine ev_iload_n de_Mo_keepsAct_12 rfl rfl ?_
    refine ev_sipush de_Mo_keepsAct_13 rfl ?_
    refine ev_icmp_ge (tgt := 40) de_Mo_keepsAct_16 (by decide) (by omega) (by omega) (fun h16 => ?_) (fun h16 => ?_)
    · skip
      have e : k = 1060 := by omega
      subst e
      exact hq
    · skip
      refine ev_aload_n de_Mo_keepsAct_19 rfl rfl ?_
      refine ev_getfield de_Mo_keepsAct_20 rfl fl_Mo_42 rfl ?_
      refine ev_iload_n de_Mo_keepsAct_23 rfl rfl ?_
      refine ev_bipush de_Mo_keepsAct_24 rfl ?_
      refine ev_isub de_Mo_keepsAct_26 ?_
      refine ev_aload_n de_Mo_keepsAct_27 rfl rfl ?_
      refine ev_getfield de_Mo_keepsAct_28 rfl fl_Mo_42 rfl ?_
      refine ev_iload_n de_Mo_keepsAct_31 rfl rfl ?_
      refine ev_iaload de_Mo_keepsAct_32 rfl (by omega) (by omega) (by omega) ?_
      refine ev_iastore de_Mo_keepsAct_33 rfl (by omega) (by omega) (by omega) ?_
      refine ev_world (w' := mo_W _ _ _ _ _ _ _ _ _ _ _ _ _ _ _ _ _ _ _ _ _ _ _ _ _ _ _ _ _ _ _ _ _ _ _ _ _) rfl ?_
      refine ev_world (w' := (mo_W tape taped rules sign leng clause clauses read next wrong number text made deep lines opn opened stack top word said xx (sp_sh was (((k + 1 : Nat) : Int) - 53)) undone kept sumOf faced slotAt dayAt row bestRow tMany tMost drawX images imageX isMade)) (by rw [show (((k + 1 : Nat) : Int) - 53) = ((k : Int) - 53) + 1 by omega, ← sp_sh_s was ((k : Int) - 53) (by omega), show (k : Int) - 53 + 53 = (k : Int) by omega]) ?_
      refine ev_iinc (l' := [_, _]) de_Mo_keepsAct_34 rfl rfl ?_
      refine ev_goto (tgt := 12) de_Mo_keepsAct_37 (by decide) ?_
      exact ih (k + 1) (by omega) (by omega) (by omega)
set_option maxRecDepth 10000 in
theorem lo_Mo_keepsAct2 (hu0 : 0 ≤ undone) (hu : undone ≤ 19) : ∀ (n : Nat) (k : Nat), k ≤ 53 → 53 < k + n → ab_Ev g_G g_rs mt_Mo_keepsAct 0 0 0 52 [some (ab_R 0), some (ab_I (k : Int))] [] (mo_W tape taped rules sign leng clause clauses read next wrong number text made deep lines opn opened stack top word said xx (sp_kp said was undone k) undone kept sumOf faced slotAt dayAt row bestRow tMany tMost drawX images imageX isMade) (ab_is none (mo_W tape taped rules sign leng clause clauses read next wrong number text made deep lines opn opened stack top word said xx (sp_kp said was undone 53) (undone + 1) kept sumOf faced slotAt dayAt row bestRow tMany tMost drawX images imageX isMade)) := by
  intro n
  induction n with
  | zero =>
    intro k
    intro h1 h2; omega
  | succ n ih =>
    intro k
    intro h1 h2
    refine ev_iload_n de_Mo_keepsAct_52 rfl rfl ?_
    refine ev_bipush de_Mo_keepsAct_53 rfl ?_
    refine ev_icmp_ge (tgt := 84) de_Mo_keepsAct_55 (by decide) (by omega) (by omega) (fun h55 => ?_) (fun h55 => ?_)
    · skip
      have e : k = 53 := by omega
      subst e
      refine ev_aload_n de_Mo_keepsAct_84 rfl rfl ?_
      refine ev_dup de_Mo_keepsAct_85 rfl ?_
      refine ev_getfield de_Mo_keepsAct_86 rfl fl_Mo_272 rfl ?_
      refine ev_iconst de_Mo_keepsAct_89 ?_
      refine ev_iadd de_Mo_keepsAct_90 ?_
      refine ev_putfield de_Mo_keepsAct_91 rfl (fp_Mo_272 _) (Nat.le_of_ble_eq_true rfl) trivial ?_
      refine ev_world (w' := mo_W _ _ _ _ _ _ _ _ _ _ _ _ _ _ _ _ _ _ _ _ _ _ _ _ _ _ _ _ _ _ _ _ _ _ _ _ _) rfl ?_
      exact ev_return de_Mo_keepsAct_94 rfl ⟨rfl, rfl⟩
    · skip
      refine ev_aload_n de_Mo_keepsAct_58 rfl rfl ?_
      refine ev_getfield de_Mo_keepsAct_59 rfl fl_Mo_42 rfl ?_
      refine ev_bipush de_Mo_keepsAct_62 rfl ?_
      refine ev_aload_n de_Mo_keepsAct_64 rfl rfl ?_
      refine ev_getfield de_Mo_keepsAct_65 rfl fl_Mo_272 rfl ?_
      refine ev_imul de_Mo_keepsAct_68 ?_
      refine ev_iload_n de_Mo_keepsAct_69 rfl rfl ?_
      refine ev_iadd de_Mo_keepsAct_70 ?_
      refine ev_aload_n de_Mo_keepsAct_71 rfl rfl ?_
      refine ev_getfield de_Mo_keepsAct_72 rfl fl_Mo_39 rfl ?_
      refine ev_iload_n de_Mo_keepsAct_75 rfl rfl ?_
      refine ev_iaload de_Mo_keepsAct_76 rfl (by omega) (by omega) (by omega) ?_
      refine ev_iastore de_Mo_keepsAct_77 rfl (by omega) (by omega) (by omega) ?_
      refine ev_world (w' := mo_W _ _ _ _ _ _ _ _ _ _ _ _ _ _ _ _ _ _ _ _ _ _ _ _ _ _ _ _ _ _ _ _ _ _ _ _ _) rfl ?_
      refine ev_world (w' := (mo_W tape taped rules sign leng clause clauses read next wrong number text made deep lines opn opened stack top word said xx (sp_kp said was undone (k + 1)) undone kept sumOf faced slotAt dayAt row bestRow tMany tMost drawX images imageX isMade)) (by rw [sp_kp_s]) ?_
      refine ev_iinc (l' := [_, _]) de_Mo_keepsAct_78 rfl rfl ?_
      refine ev_goto (tgt := 52) de_Mo_keepsAct_81 (by decide) ?_
      exact ih (k + 1) (by omega) (by omega)
set_option maxRecDepth 10000 in
theorem co_Mo_keepsAct (hu0 : 0 ≤ undone) (hu : undone ≤ 20) : ab_Mt g_G g_rs mt_Mo_keepsAct 0 0 0 [ab_R 0] (mo_W tape taped rules sign leng clause clauses read next wrong number text made deep lines opn opened stack top word said xx was undone kept sumOf faced slotAt dayAt row bestRow tMany tMost drawX images imageX isMade) (ab_is none (mo_W tape taped rules sign leng clause clauses read next wrong number text made deep lines opn opened stack top word said xx (sp_kw said was undone) (sp_ku undone + 1) kept sumOf faced slotAt dayAt row bestRow tMany tMost drawX images imageX isMade)) := by
  refine ab_Mt.of rfl (Nat.le_of_ble_eq_true rfl) ?_
  show ab_Ev g_G g_rs mt_Mo_keepsAct _ _ _ 0 [some (ab_R 0), none] [] _ _
  refine ev_aload_n de_Mo_keepsAct_0 rfl rfl ?_
  refine ev_getfield de_Mo_keepsAct_1 rfl fl_Mo_272 rfl ?_
  refine ev_bipush de_Mo_keepsAct_4 rfl ?_
  refine ev_icmp_ne (tgt := 50) de_Mo_keepsAct_6 (by decide) (by omega) (by omega) (fun h6 => ?_) (fun h6 => ?_)
  · skip
    have eu : sp_ku undone = undone := if_neg h6
    have ew : sp_kw said was undone = sp_kp said was undone 53 := by unfold sp_kw; rw [if_neg h6, eu]
    rw [eu, ew]
    refine ev_iconst de_Mo_keepsAct_50 ?_
    refine ev_istore_n (l' := [_, _]) de_Mo_keepsAct_51 rfl (Nat.le_of_ble_eq_true rfl) rfl ?_
    refine ev_world (w' := (mo_W tape taped rules sign leng clause clauses read next wrong number text made deep lines opn opened stack top word said xx (sp_kp said was undone 0) undone kept sumOf faced slotAt dayAt row bestRow tMany tMost drawX images imageX isMade)) (by rw [sp_kp_0]) ?_
    exact lo_Mo_keepsAct2 hu0 (by omega) 54 0 (by omega) (by omega)
  · skip
    have eu : sp_ku undone = undone - 1 := by unfold sp_ku; rw [if_pos h6]; omega
    have ew : sp_kw said was undone = sp_kp said (sp_sh was 1007) (undone - 1) 53 := by unfold sp_kw; rw [if_pos h6, eu]
    rw [eu, ew]
    refine ev_bipush de_Mo_keepsAct_9 rfl ?_
    refine ev_istore_n (l' := [_, _]) de_Mo_keepsAct_11 rfl (Nat.le_of_ble_eq_true rfl) rfl ?_
    refine ev_world (w' := (mo_W tape taped rules sign leng clause clauses read next wrong number text made deep lines opn opened stack top word said xx (sp_sh was (((53 : Nat) : Int) - 53)) undone kept sumOf faced slotAt dayAt row bestRow tMany tMost drawX images imageX isMade)) (by rw [show (((53 : Nat) : Int) - 53) = 0 by decide, sp_sh_0]) ?_
    refine lo_Mo_keepsAct1 said rfl h6 _ ?_ 1100 53 (by omega) (by omega) (by omega)
    refine ev_aload_n de_Mo_keepsAct_40 rfl rfl ?_
    refine ev_dup de_Mo_keepsAct_41 rfl ?_
    refine ev_getfield de_Mo_keepsAct_42 rfl fl_Mo_272 rfl ?_
    refine ev_iconst de_Mo_keepsAct_45 ?_
    refine ev_isub de_Mo_keepsAct_46 ?_
    refine ev_putfield de_Mo_keepsAct_47 rfl (fp_Mo_272 _) (Nat.le_of_ble_eq_true rfl) trivial ?_
    refine ev_world (w' := mo_W _ _ _ _ _ _ _ _ _ _ _ _ _ _ _ _ _ _ _ _ _ _ _ _ _ _ _ _ _ _ _ _ _ _ _ _ _) rfl ?_
    refine ev_iconst de_Mo_keepsAct_50 ?_
    refine ev_istore_n (l' := [_, _]) de_Mo_keepsAct_51 rfl (Nat.le_of_ble_eq_true rfl) rfl ?_
    refine ev_world (w' := (mo_W tape taped rules sign leng clause clauses read next wrong number text made deep lines opn opened stack top word said xx (sp_kp said (sp_sh was 1007) (undone - 1) 0) (undone - 1) kept sumOf faced slotAt dayAt row bestRow tMany tMost drawX images imageX isMade)) (by rw [sp_kp_0]) ?_
    exact lo_Mo_keepsAct2 (by omega) (by omega) 54 0 (by omega) (by omega)
theorem de_Mo_undo_0 : decode prog_14_method_71_code 0 = .ok (.aload_n 0, 1) := by decide +kernel
theorem de_Mo_undo_1 : decode prog_14_method_71_code 1 = .ok (.getfield 272, 3) := by decide +kernel
theorem de_Mo_undo_4 : decode prog_14_method_71_code 4 = .ok (.ifCond .ne 5, 3) := by decide +kernel
theorem de_Mo_undo_7 : decode prog_14_method_71_code 7 = .ok (.iconst (-1), 1) := by decide +kernel
theorem de_Mo_undo_8 : decode prog_14_method_71_code 8 = .ok (.ireturn, 1) := by decide +kernel
theorem de_Mo_undo_9 : decode prog_14_method_71_code 9 = .ok (.aload_n 0, 1) := by decide +kernel
theorem de_Mo_undo_10 : decode prog_14_method_71_code 10 = .ok (.dup, 1) := by decide +kernel
theorem de_Mo_undo_11 : decode prog_14_method_71_code 11 = .ok (.getfield 272, 3) := by decide +kernel
theorem de_Mo_undo_14 : decode prog_14_method_71_code 14 = .ok (.iconst 1, 1) := by decide +kernel
theorem de_Mo_undo_15 : decode prog_14_method_71_code 15 = .ok (.isub, 1) := by decide +kernel
theorem de_Mo_undo_16 : decode prog_14_method_71_code 16 = .ok (.putfield 272, 3) := by decide +kernel
theorem de_Mo_undo_19 : decode prog_14_method_71_code 19 = .ok (.iconst 0, 1) := by decide +kernel
theorem de_Mo_undo_20 : decode prog_14_method_71_code 20 = .ok (.istore_n 1, 1) := by decide +kernel
theorem de_Mo_undo_21 : decode prog_14_method_71_code 21 = .ok (.iload_n 1, 1) := by decide +kernel
theorem de_Mo_undo_22 : decode prog_14_method_71_code 22 = .ok (.bipush 53, 2) := by decide +kernel
theorem de_Mo_undo_24 : decode prog_14_method_71_code 24 = .ok (.if_icmp .ge 29, 3) := by decide +kernel
theorem de_Mo_undo_27 : decode prog_14_method_71_code 27 = .ok (.aload_n 0, 1) := by decide +kernel
theorem de_Mo_undo_28 : decode prog_14_method_71_code 28 = .ok (.getfield 39, 3) := by decide +kernel
theorem de_Mo_undo_31 : decode prog_14_method_71_code 31 = .ok (.iload_n 1, 1) := by decide +kernel
theorem de_Mo_undo_32 : decode prog_14_method_71_code 32 = .ok (.aload_n 0, 1) := by decide +kernel
theorem de_Mo_undo_33 : decode prog_14_method_71_code 33 = .ok (.getfield 42, 3) := by decide +kernel
theorem de_Mo_undo_36 : decode prog_14_method_71_code 36 = .ok (.bipush 53, 2) := by decide +kernel
theorem de_Mo_undo_38 : decode prog_14_method_71_code 38 = .ok (.aload_n 0, 1) := by decide +kernel
theorem de_Mo_undo_39 : decode prog_14_method_71_code 39 = .ok (.getfield 272, 3) := by decide +kernel
theorem de_Mo_undo_42 : decode prog_14_method_71_code 42 = .ok (.imul, 1) := by decide +kernel
theorem de_Mo_undo_43 : decode prog_14_method_71_code 43 = .ok (.iload_n 1, 1) := by decide +kernel
theorem de_Mo_undo_44 : decode prog_14_method_71_code 44 = .ok (.iadd, 1) := by decide +kernel
theorem de_Mo_undo_45 : decode prog_14_method_71_code 45 = .ok (.iaload, 1) := by decide +kernel
theorem de_Mo_undo_46 : decode prog_14_method_71_code 46 = .ok (.iastore, 1) := by decide +kernel
theorem de_Mo_undo_47 : decode prog_14_method_71_code 47 = .ok (.iinc 1 1, 3) := by decide +kernel
theorem de_Mo_undo_50 : decode prog_14_method_71_code 50 = .ok (.goto (-29), 3) := by decide +kernel
theorem de_Mo_undo_53 : decode prog_14_method_71_code 53 = .ok (.aload_n 0, 1) := by decide +kernel
theorem de_Mo_undo_54 : decode prog_14_method_71_code 54 = .ok (.getfield 272, 3) := by decide +kernel
theorem de_Mo_undo_57 : decode prog_14_method_71_code 57 = .ok (.ireturn, 1) := by decide +kernel
set_option maxRecDepth 10000 in
theorem lo_Mo_undo (hu0 : 0 ≤ undone) (hu : undone ≤ 19) : ∀ (n : Nat) (k : Nat), k ≤ 53 → 53 < k + n → ab_Ev g_G g_rs mt_Mo_undo 0 0 0 21 [some (ab_R 0), some (ab_I (k : Int))] [] (mo_W tape taped rules sign leng clause clauses read next wrong number text made deep lines opn opened stack top word (sp_cp (sp_snap was undone) said k) xx was undone kept sumOf faced slotAt dayAt row bestRow tMany tMost drawX images imageX isMade) (ab_is (some (ab_I (undone))) (mo_W tape taped rules sign leng clause clauses read next wrong number text made deep lines opn opened stack top word (sp_cp (sp_snap was undone) said 53) xx was undone kept sumOf faced slotAt dayAt row bestRow tMany tMost drawX images imageX isMade)) := by
  intro n
  induction n with
  | zero =>
    intro k
    intro h1 h2; omega
  | succ n ih =>
    intro k
    intro h1 h2
    refine ev_iload_n de_Mo_undo_21 rfl rfl ?_
    refine ev_bipush de_Mo_undo_22 rfl ?_
    refine ev_icmp_ge (tgt := 53) de_Mo_undo_24 (by decide) (by omega) (by omega) (fun h24 => ?_) (fun h24 => ?_)
    · skip
      have e : k = 53 := by omega
      subst e
      refine ev_aload_n de_Mo_undo_53 rfl rfl ?_
      refine ev_getfield de_Mo_undo_54 rfl fl_Mo_272 rfl ?_
      exact ev_ireturn de_Mo_undo_57 rfl ⟨rfl, rfl⟩
    · skip
      refine ev_aload_n de_Mo_undo_27 rfl rfl ?_
      refine ev_getfield de_Mo_undo_28 rfl fl_Mo_39 rfl ?_
      refine ev_iload_n de_Mo_undo_31 rfl rfl ?_
      refine ev_aload_n de_Mo_undo_32 rfl rfl ?_
      refine ev_getfield de_Mo_undo_33 rfl fl_Mo_42 rfl ?_
      refine ev_bipush de_Mo_undo_36 rfl ?_
      refine ev_aload_n de_Mo_undo_38 rfl rfl ?_
      refine ev_getfield de_Mo_undo_39 rfl fl_Mo_272 rfl ?_
      refine ev_imul de_Mo_undo_42 ?_
      refine ev_iload_n de_Mo_undo_43 rfl rfl ?_
      refine ev_iadd de_Mo_undo_44 ?_
      refine ev_iaload de_Mo_undo_45 rfl (by omega) (by omega) (by omega) ?_
      refine ev_iastore de_Mo_undo_46 rfl (by omega) (by omega) (by omega) ?_
      refine ev_world (w' := mo_W _ _ _ _ _ _ _ _ _ _ _ _ _ _ _ _ _ _ _ _ _ _ _ _ _ _ _ _ _ _ _ _ _ _ _ _ _) rfl ?_
      refine ev_world (w' := (mo_W tape taped rules sign leng clause clauses read next wrong number text made deep lines opn opened stack top word (sp_cp (sp_snap was undone) said (k + 1)) xx was undone kept sumOf faced slotAt dayAt row bestRow tMany tMost drawX images imageX isMade)) (by rw [← sp_cp_s]; rfl) ?_
      refine ev_iinc (l' := [_, _]) de_Mo_undo_47 rfl rfl ?_
      refine ev_goto (tgt := 21) de_Mo_undo_50 (by decide) ?_
      exact ih (k + 1) (by omega) (by omega)
set_option maxRecDepth 10000 in
theorem co_Mo_undo (hu0 : 0 ≤ undone) (hu : undone ≤ 20) : ab_Mt g_G g_rs mt_Mo_undo 0 0 0 [ab_R 0] (mo_W tape taped rules sign leng clause clauses read next wrong number text made deep lines opn opened stack top word said xx was undone kept sumOf faced slotAt dayAt row bestRow tMany tMost drawX images imageX isMade) (ab_is (some (ab_I (if undone = 0 then -1 else undone - 1))) (mo_W tape taped rules sign leng clause clauses read next wrong number text made deep lines opn opened stack top word (if undone = 0 then said else sp_cp (sp_snap was (undone - 1)) said 53) xx was (if undone = 0 then 0 else undone - 1) kept sumOf faced slotAt dayAt row bestRow tMany tMost drawX images imageX isMade)) := by
  refine ab_Mt.of rfl (Nat.le_of_ble_eq_true rfl) ?_
  show ab_Ev g_G g_rs mt_Mo_undo _ _ _ 0 [some (ab_R 0), none] [] _ _
  refine ev_aload_n de_Mo_undo_0 rfl rfl ?_
  refine ev_getfield de_Mo_undo_1 rfl fl_Mo_272 rfl ?_
  refine ev_if_ne (tgt := 9) de_Mo_undo_4 (by decide) (by omega) (fun h4 => ?_) (fun h4 => ?_)
  · skip
    rw [if_neg h4, if_neg h4, if_neg h4]
    refine ev_aload_n de_Mo_undo_9 rfl rfl ?_
    refine ev_dup de_Mo_undo_10 rfl ?_
    refine ev_getfield de_Mo_undo_11 rfl fl_Mo_272 rfl ?_
    refine ev_iconst de_Mo_undo_14 ?_
    refine ev_isub de_Mo_undo_15 ?_
    refine ev_putfield de_Mo_undo_16 rfl (fp_Mo_272 _) (Nat.le_of_ble_eq_true rfl) trivial ?_
    refine ev_world (w' := mo_W _ _ _ _ _ _ _ _ _ _ _ _ _ _ _ _ _ _ _ _ _ _ _ _ _ _ _ _ _ _ _ _ _ _ _ _ _) rfl ?_
    refine ev_iconst de_Mo_undo_19 ?_
    refine ev_istore_n (l' := [_, _]) de_Mo_undo_20 rfl (Nat.le_of_ble_eq_true rfl) rfl ?_
    refine ev_world (w' := (mo_W tape taped rules sign leng clause clauses read next wrong number text made deep lines opn opened stack top word (sp_cp (sp_snap was (undone - 1)) said 0) xx was (undone - 1) kept sumOf faced slotAt dayAt row bestRow tMany tMost drawX images imageX isMade)) (by rw [sp_cp_0]) ?_
    exact lo_Mo_undo (by omega) (by omega) 54 0 (by omega) (by omega)
  · skip
    rw [if_pos h4, if_pos h4, if_pos h4]
    subst h4
    refine ev_iconst de_Mo_undo_7 ?_
    exact ev_ireturn de_Mo_undo_8 rfl ⟨rfl, rfl⟩
theorem de_Mo_hour_0 : decode prog_14_method_73_code 0 = .ok (.aload_n 0, 1) := by decide +kernel
theorem de_Mo_hour_1 : decode prog_14_method_73_code 1 = .ok (.invokevirtual 323, 3) := by decide +kernel
theorem de_Mo_hour_4 : decode prog_14_method_73_code 4 = .ok (.ifCond .eq 11, 3) := by decide +kernel
theorem de_Mo_hour_7 : decode prog_14_method_73_code 7 = .ok (.aload_n 0, 1) := by decide +kernel
theorem de_Mo_hour_8 : decode prog_14_method_73_code 8 = .ok (.iconst 1, 1) := by decide +kernel
theorem de_Mo_hour_9 : decode prog_14_method_73_code 9 = .ok (.invokevirtual 341, 3) := by decide +kernel
theorem de_Mo_hour_12 : decode prog_14_method_73_code 12 = .ok (.ifCond .ne 5, 3) := by decide +kernel
theorem de_Mo_hour_15 : decode prog_14_method_73_code 15 = .ok (.iconst (-1), 1) := by decide +kernel
theorem de_Mo_hour_16 : decode prog_14_method_73_code 16 = .ok (.ireturn, 1) := by decide +kernel
theorem de_Mo_hour_17 : decode prog_14_method_73_code 17 = .ok (.aload_n 0, 1) := by decide +kernel
theorem de_Mo_hour_18 : decode prog_14_method_73_code 18 = .ok (.invokevirtual 344, 3) := by decide +kernel
theorem de_Mo_hour_21 : decode prog_14_method_73_code 21 = .ok (.aload_n 0, 1) := by decide +kernel
theorem de_Mo_hour_22 : decode prog_14_method_73_code 22 = .ok (.invokevirtual 347, 3) := by decide +kernel
theorem de_Mo_hour_25 : decode prog_14_method_73_code 25 = .ok (.pop, 1) := by decide +kernel
theorem de_Mo_hour_26 : decode prog_14_method_73_code 26 = .ok (.aload_n 0, 1) := by decide +kernel
theorem de_Mo_hour_27 : decode prog_14_method_73_code 27 = .ok (.getfield 39, 3) := by decide +kernel
theorem de_Mo_hour_30 : decode prog_14_method_73_code 30 = .ok (.iconst 4, 1) := by decide +kernel
theorem de_Mo_hour_31 : decode prog_14_method_73_code 31 = .ok (.iaload, 1) := by decide +kernel
theorem de_Mo_hour_32 : decode prog_14_method_73_code 32 = .ok (.ireturn, 1) := by decide +kernel
set_option maxRecDepth 10000 in
theorem co_Mo_hour {B : Int} (hI : sg_ok B said) (hu0 : 0 ≤ undone) (hu : undone ≤ 20) : ab_Mt g_G g_rs mt_Mo_hour 4 0 0 [ab_R 0] (mo_W tape taped rules sign leng clause clauses read next wrong number text made deep lines opn opened stack top word said xx was undone kept sumOf faced slotAt dayAt row bestRow tMany tMost drawX images imageX isMade) (ab_is (some (ab_I (if said 0 = 1 ∧ 24 * said 6 + said 5 + 1 < 24000 then sp_pass said 4 else -1))) (mo_W tape taped rules sign leng clause clauses read next wrong number text made deep lines opn opened stack top word (if said 0 = 1 ∧ 24 * said 6 + said 5 + 1 < 24000 then sp_pass said else said) xx (if said 0 = 1 ∧ 24 * said 6 + said 5 + 1 < 24000 then sp_kw said was undone else was) (if said 0 = 1 ∧ 24 * said 6 + said 5 + 1 < 24000 then sp_ku undone + 1 else undone) kept sumOf faced slotAt dayAt row bestRow tMany tMost drawX images imageX isMade)) := by
  refine ab_Mt.of rfl (Nat.le_of_ble_eq_true rfl) ?_
  show ab_Ev g_G g_rs mt_Mo_hour _ _ _ 0 [some (ab_R 0)] [] _ _
  have hJ := hI; obtain ⟨i0, i1, i2, i3, i4, i5, i6, i7, i8, i9, i10, i11, i12, i13, i14, i15, i16, i17⟩ := sg_all hJ
  refine ev_aload_n de_Mo_hour_0 rfl rfl ?_
  refine ev_vv (ci := 11) de_Mo_hour_1 (co_Mo_isRing hI) kb_Mo_323 ⟨im_Mo_isRing, se_Mo_isRing⟩ rfl rfl rfl (Nat.le_of_ble_eq_true rfl) (by decide) rfl ?_
  refine ev_if_eq (tgt := 15) de_Mo_hour_4 (by decide) (by omega) (fun h4 => ?_) (fun h4 => ?_)
  · skip
    rw [if_neg (by omega), if_neg (by omega), if_neg (by omega), if_neg (by omega)]
    refine ev_iconst de_Mo_hour_15 ?_
    exact ev_ireturn de_Mo_hour_16 rfl ⟨rfl, rfl⟩
  · skip
    refine ev_aload_n de_Mo_hour_7 rfl rfl ?_
    refine ev_iconst de_Mo_hour_8 ?_
    refine ev_vv (ci := 11) de_Mo_hour_9 (co_Mo_canGo hI 1 (by decide)) kb_Mo_341 ⟨im_Mo_canGo, se_Mo_canGo⟩ rfl rfl rfl (Nat.le_of_ble_eq_true rfl) (by decide) rfl ?_
    refine ev_if_ne (tgt := 17) de_Mo_hour_12 (by decide) (by split <;> decide) (fun h12 => ?_) (fun h12 => ?_)
    · skip
      have n12 : 24 * said 6 + said 5 + 1 < 24000 := Decidable.byContradiction (fun z => by rw [if_neg z] at h12; omega)
      rw [if_pos (by omega), if_pos (by omega), if_pos (by omega), if_pos (by omega)]
      refine ev_aload_n de_Mo_hour_17 rfl rfl ?_
      refine ev_vn (ci := 11) de_Mo_hour_18 (co_Mo_keepsAct hu0 hu) kb_Mo_344 ⟨im_Mo_keepsAct, se_Mo_keepsAct⟩ rfl rfl rfl (Nat.le_of_ble_eq_true rfl) (by decide) rfl ?_
      refine ev_aload_n de_Mo_hour_21 rfl rfl ?_
      refine ev_vv (ci := 11) de_Mo_hour_22 (co_Mo_passes hI) kb_Mo_347 ⟨im_Mo_passes, se_Mo_passes⟩ rfl rfl rfl (Nat.le_of_ble_eq_true rfl) (by decide) rfl ?_
      refine ev_pop de_Mo_hour_25 rfl ?_
      refine ev_aload_n de_Mo_hour_26 rfl rfl ?_
      refine ev_getfield de_Mo_hour_27 rfl fl_Mo_39 rfl ?_
      refine ev_iconst de_Mo_hour_30 ?_
      refine ev_iaload de_Mo_hour_31 rfl (by omega) (by omega) (by omega) ?_
      exact ev_ireturn de_Mo_hour_32 rfl ⟨rfl, rfl⟩
    · skip
      have n12 : ¬ (24 * said 6 + said 5 + 1 < 24000) := fun z => by rw [if_pos z] at h12; omega
      rw [if_neg (by omega), if_neg (by omega), if_neg (by omega), if_neg (by omega)]
      refine ev_iconst de_Mo_hour_15 ?_
      exact ev_ireturn de_Mo_hour_16 rfl ⟨rfl, rfl⟩
theorem de_Mo_rate_0 : decode prog_14_method_74_code 0 = .ok (.aload_n 0, 1) := by decide +kernel
theorem de_Mo_rate_1 : decode prog_14_method_74_code 1 = .ok (.invokevirtual 323, 3) := by decide +kernel
theorem de_Mo_rate_4 : decode prog_14_method_74_code 4 = .ok (.ifCond .eq 29, 3) := by decide +kernel
theorem de_Mo_rate_7 : decode prog_14_method_74_code 7 = .ok (.iload_n 1, 1) := by decide +kernel
theorem de_Mo_rate_8 : decode prog_14_method_74_code 8 = .ok (.i2l, 1) := by decide +kernel
theorem de_Mo_rate_9 : decode prog_14_method_74_code 9 = .ok (.lconst 0, 1) := by decide +kernel
theorem de_Mo_rate_10 : decode prog_14_method_74_code 10 = .ok (.ldc2_w 330, 3) := by decide +kernel
theorem de_Mo_rate_13 : decode prog_14_method_74_code 13 = .ok (.invokestatic 115, 3) := by decide +kernel
theorem de_Mo_rate_16 : decode prog_14_method_74_code 16 = .ok (.ifCond .eq 17, 3) := by decide +kernel
theorem de_Mo_rate_19 : decode prog_14_method_74_code 19 = .ok (.iload_n 2, 1) := by decide +kernel
theorem de_Mo_rate_20 : decode prog_14_method_74_code 20 = .ok (.i2l, 1) := by decide +kernel
theorem de_Mo_rate_21 : decode prog_14_method_74_code 21 = .ok (.ldc2_w 350, 3) := by decide +kernel
theorem de_Mo_rate_24 : decode prog_14_method_74_code 24 = .ok (.ldc2_w 352, 3) := by decide +kernel
theorem de_Mo_rate_27 : decode prog_14_method_74_code 27 = .ok (.invokestatic 115, 3) := by decide +kernel
theorem de_Mo_rate_30 : decode prog_14_method_74_code 30 = .ok (.ifCond .ne 7, 3) := by decide +kernel
theorem de_Mo_rate_33 : decode prog_14_method_74_code 33 = .ok (.sipush (-1000), 3) := by decide +kernel
theorem de_Mo_rate_36 : decode prog_14_method_74_code 36 = .ok (.ireturn, 1) := by decide +kernel
theorem de_Mo_rate_37 : decode prog_14_method_74_code 37 = .ok (.aload_n 0, 1) := by decide +kernel
theorem de_Mo_rate_38 : decode prog_14_method_74_code 38 = .ok (.invokevirtual 344, 3) := by decide +kernel
theorem de_Mo_rate_41 : decode prog_14_method_74_code 41 = .ok (.aload_n 0, 1) := by decide +kernel
theorem de_Mo_rate_42 : decode prog_14_method_74_code 42 = .ok (.getfield 39, 3) := by decide +kernel
theorem de_Mo_rate_45 : decode prog_14_method_74_code 45 = .ok (.bipush 10, 2) := by decide +kernel
theorem de_Mo_rate_47 : decode prog_14_method_74_code 47 = .ok (.iload_n 1, 1) := by decide +kernel
theorem de_Mo_rate_48 : decode prog_14_method_74_code 48 = .ok (.iadd, 1) := by decide +kernel
theorem de_Mo_rate_49 : decode prog_14_method_74_code 49 = .ok (.iaload, 1) := by decide +kernel
theorem de_Mo_rate_50 : decode prog_14_method_74_code 50 = .ok (.istore_n 3, 1) := by decide +kernel
theorem de_Mo_rate_51 : decode prog_14_method_74_code 51 = .ok (.aload_n 0, 1) := by decide +kernel
theorem de_Mo_rate_52 : decode prog_14_method_74_code 52 = .ok (.getfield 39, 3) := by decide +kernel
theorem de_Mo_rate_55 : decode prog_14_method_74_code 55 = .ok (.bipush 10, 2) := by decide +kernel
theorem de_Mo_rate_57 : decode prog_14_method_74_code 57 = .ok (.iload_n 1, 1) := by decide +kernel
theorem de_Mo_rate_58 : decode prog_14_method_74_code 58 = .ok (.iadd, 1) := by decide +kernel
theorem de_Mo_rate_59 : decode prog_14_method_74_code 59 = .ok (.iload_n 2, 1) := by decide +kernel
theorem de_Mo_rate_60 : decode prog_14_method_74_code 60 = .ok (.iastore, 1) := by decide +kernel
theorem de_Mo_rate_61 : decode prog_14_method_74_code 61 = .ok (.iload_n 3, 1) := by decide +kernel
theorem de_Mo_rate_62 : decode prog_14_method_74_code 62 = .ok (.ireturn, 1) := by decide +kernel
set_option maxRecDepth 10000 in
theorem co_Mo_rate {B : Int} (hI : sg_ok B said) (hu0 : 0 ≤ undone) (hu : undone ≤ 20) (hh rr : Int) (h1 : ab_in hh) (h2 : ab_in rr) : ab_Mt g_G g_rs mt_Mo_rate 1 0 0 [ab_R 0, ab_I hh, ab_I rr] (mo_W tape taped rules sign leng clause clauses read next wrong number text made deep lines opn opened stack top word said xx was undone kept sumOf faced slotAt dayAt row bestRow tMany tMost drawX images imageX isMade) (ab_is (some (ab_I (if said 0 = 1 ∧ (0 ≤ hh ∧ hh ≤ 23) ∧ -3 ≤ rr ∧ rr ≤ 3 then said (10 + hh) else -1000))) (mo_W tape taped rules sign leng clause clauses read next wrong number text made deep lines opn opened stack top word (if said 0 = 1 ∧ (0 ≤ hh ∧ hh ≤ 23) ∧ -3 ≤ rr ∧ rr ≤ 3 then ab_up said (10 + hh) rr else said) xx (if said 0 = 1 ∧ (0 ≤ hh ∧ hh ≤ 23) ∧ -3 ≤ rr ∧ rr ≤ 3 then sp_kw said was undone else was) (if said 0 = 1 ∧ (0 ≤ hh ∧ hh ≤ 23) ∧ -3 ≤ rr ∧ rr ≤ 3 then sp_ku undone + 1 else undone) kept sumOf faced slotAt dayAt row bestRow tMany tMost drawX images imageX isMade)) := by
  refine ab_Mt.of rfl (Nat.le_of_ble_eq_true rfl) ?_
  show ab_Ev g_G g_rs mt_Mo_rate _ _ _ 0 [some (ab_R 0), some (ab_I hh), some (ab_I rr), none] [] _ _
  have hJ := hI; obtain ⟨i0, i1, i2, i3, i4, i5, i6, i7, i8, i9, i10, i11, i12, i13, i14, i15, i16, i17⟩ := sg_all hJ
  refine ev_aload_n de_Mo_rate_0 rfl rfl ?_
  refine ev_vv (ci := 11) de_Mo_rate_1 (co_Mo_isRing hI) kb_Mo_323 ⟨im_Mo_isRing, se_Mo_isRing⟩ rfl rfl rfl (Nat.le_of_ble_eq_true rfl) (by decide) rfl ?_
  refine ev_if_eq (tgt := 33) de_Mo_rate_4 (by decide) (by omega) (fun h4 => ?_) (fun h4 => ?_)
  · skip
    rw [if_neg (by omega), if_neg (by omega), if_neg (by omega), if_neg (by omega)]
    refine ev_sipush de_Mo_rate_33 rfl ?_
    exact ev_ireturn de_Mo_rate_36 rfl ⟨rfl, rfl⟩
  · skip
    refine ev_iload_n de_Mo_rate_7 rfl rfl ?_
    refine ev_i2l de_Mo_rate_8 (by omega) ?_
    refine ev_lconsti (n := 0) de_Mo_rate_9 (by decide) ?_
    refine ev_ldc2i (n := 23) de_Mo_rate_10 cn_Mo_330 (by decide) ?_
    refine ev_sv de_Mo_rate_13 (co_Mo_in _ hh (0) (23) (by omega) (by decide) (by decide)) kb_Mo_115 sc_Mo_in rfl (Nat.le_of_ble_eq_true rfl) (by decide) rfl ?_
    refine ev_if_eq (tgt := 33) de_Mo_rate_16 (by decide) (by split <;> decide) (fun h16 => ?_) (fun h16 => ?_)
    · skip
      have n16 : ¬ (0 ≤ hh ∧ hh ≤ 23) := fun z => by rw [if_pos z] at h16; omega
      rw [if_neg (by omega), if_neg (by omega), if_neg (by omega), if_neg (by omega)]
      refine ev_sipush de_Mo_rate_33 rfl ?_
      exact ev_ireturn de_Mo_rate_36 rfl ⟨rfl, rfl⟩
    · skip
      have n16 : 0 ≤ hh ∧ hh ≤ 23 := Decidable.byContradiction (fun z => by rw [if_neg z] at h16; omega)
      refine ev_iload_n de_Mo_rate_19 rfl rfl ?_
      refine ev_i2l de_Mo_rate_20 (by omega) ?_
      refine ev_ldc2i (n := -3) de_Mo_rate_21 cn_Mo_350 (by decide) ?_
      refine ev_ldc2i (n := 3) de_Mo_rate_24 cn_Mo_352 (by decide) ?_
      refine ev_sv de_Mo_rate_27 (co_Mo_in _ rr (-3) (3) (by omega) (by decide) (by decide)) kb_Mo_115 sc_Mo_in rfl (Nat.le_of_ble_eq_true rfl) (by decide) rfl ?_
      refine ev_if_ne (tgt := 37) de_Mo_rate_30 (by decide) (by split <;> decide) (fun h30 => ?_) (fun h30 => ?_)
      · skip
        have n30 : -3 ≤ rr ∧ rr ≤ 3 := Decidable.byContradiction (fun z => by rw [if_neg z] at h30; omega)
        rw [if_pos (by omega), if_pos (by omega), if_pos (by omega), if_pos (by omega)]
        refine ev_aload_n de_Mo_rate_37 rfl rfl ?_
        refine ev_vn (ci := 11) de_Mo_rate_38 (co_Mo_keepsAct hu0 hu) kb_Mo_344 ⟨im_Mo_keepsAct, se_Mo_keepsAct⟩ rfl rfl rfl (Nat.le_of_ble_eq_true rfl) (by decide) rfl ?_
        refine ev_aload_n de_Mo_rate_41 rfl rfl ?_
        refine ev_getfield de_Mo_rate_42 rfl fl_Mo_39 rfl ?_
        refine ev_bipush de_Mo_rate_45 rfl ?_
        refine ev_iload_n de_Mo_rate_47 rfl rfl ?_
        refine ev_iadd de_Mo_rate_48 ?_
        refine ev_iaload de_Mo_rate_49 rfl (by omega) (by omega) (by omega) ?_
        refine ev_istore_n (l' := [_, _, _, _]) de_Mo_rate_50 rfl (Nat.le_of_ble_eq_true rfl) rfl ?_
        refine ev_aload_n de_Mo_rate_51 rfl rfl ?_
        refine ev_getfield de_Mo_rate_52 rfl fl_Mo_39 rfl ?_
        refine ev_bipush de_Mo_rate_55 rfl ?_
        refine ev_iload_n de_Mo_rate_57 rfl rfl ?_
        refine ev_iadd de_Mo_rate_58 ?_
        refine ev_iload_n de_Mo_rate_59 rfl rfl ?_
        refine ev_iastore de_Mo_rate_60 rfl (by omega) (by omega) (by omega) ?_
        refine ev_world (w' := mo_W _ _ _ _ _ _ _ _ _ _ _ _ _ _ _ _ _ _ _ _ _ _ _ _ _ _ _ _ _ _ _ _ _ _ _ _ _) rfl ?_
        refine ev_iload_n de_Mo_rate_61 rfl rfl ?_
        exact ev_ireturn de_Mo_rate_62 rfl ⟨rfl, rfl⟩
      · skip
        have n30 : ¬ (-3 ≤ rr ∧ rr ≤ 3) := fun z => by rw [if_pos z] at h30; omega
        rw [if_neg (by omega), if_neg (by omega), if_neg (by omega), if_neg (by omega)]
        refine ev_sipush de_Mo_rate_33 rfl ?_
        exact ev_ireturn de_Mo_rate_36 rfl ⟨rfl, rfl⟩
theorem de_Mo_swap_0 : decode prog_14_method_75_code 0 = .ok (.aload_n 0, 1) := by decide +kernel
theorem de_Mo_swap_1 : decode prog_14_method_75_code 1 = .ok (.iload_n 1, 1) := by decide +kernel
theorem de_Mo_swap_2 : decode prog_14_method_75_code 2 = .ok (.invokevirtual 316, 3) := by decide +kernel
theorem de_Mo_swap_5 : decode prog_14_method_75_code 5 = .ok (.ifCond .eq 16, 3) := by decide +kernel
theorem de_Mo_swap_8 : decode prog_14_method_75_code 8 = .ok (.aload_n 0, 1) := by decide +kernel
theorem de_Mo_swap_9 : decode prog_14_method_75_code 9 = .ok (.iload_n 2, 1) := by decide +kernel
theorem de_Mo_swap_10 : decode prog_14_method_75_code 10 = .ok (.invokevirtual 316, 3) := by decide +kernel
theorem de_Mo_swap_13 : decode prog_14_method_75_code 13 = .ok (.ifCond .eq 8, 3) := by decide +kernel
theorem de_Mo_swap_16 : decode prog_14_method_75_code 16 = .ok (.iload_n 1, 1) := by decide +kernel
theorem de_Mo_swap_17 : decode prog_14_method_75_code 17 = .ok (.iload_n 2, 1) := by decide +kernel
theorem de_Mo_swap_18 : decode prog_14_method_75_code 18 = .ok (.if_icmp .ne 5, 3) := by decide +kernel
theorem de_Mo_swap_21 : decode prog_14_method_75_code 21 = .ok (.iconst 0, 1) := by decide +kernel
theorem de_Mo_swap_22 : decode prog_14_method_75_code 22 = .ok (.ireturn, 1) := by decide +kernel
theorem de_Mo_swap_23 : decode prog_14_method_75_code 23 = .ok (.aload_n 0, 1) := by decide +kernel
theorem de_Mo_swap_24 : decode prog_14_method_75_code 24 = .ok (.invokevirtual 344, 3) := by decide +kernel
theorem de_Mo_swap_27 : decode prog_14_method_75_code 27 = .ok (.aload_n 0, 1) := by decide +kernel
theorem de_Mo_swap_28 : decode prog_14_method_75_code 28 = .ok (.getfield 39, 3) := by decide +kernel
theorem de_Mo_swap_31 : decode prog_14_method_75_code 31 = .ok (.bipush 46, 2) := by decide +kernel
theorem de_Mo_swap_33 : decode prog_14_method_75_code 33 = .ok (.iload_n 1, 1) := by decide +kernel
theorem de_Mo_swap_34 : decode prog_14_method_75_code 34 = .ok (.iadd, 1) := by decide +kernel
theorem de_Mo_swap_35 : decode prog_14_method_75_code 35 = .ok (.iaload, 1) := by decide +kernel
theorem de_Mo_swap_36 : decode prog_14_method_75_code 36 = .ok (.istore_n 3, 1) := by decide +kernel
theorem de_Mo_swap_37 : decode prog_14_method_75_code 37 = .ok (.aload_n 0, 1) := by decide +kernel
theorem de_Mo_swap_38 : decode prog_14_method_75_code 38 = .ok (.getfield 39, 3) := by decide +kernel
theorem de_Mo_swap_41 : decode prog_14_method_75_code 41 = .ok (.bipush 46, 2) := by decide +kernel
theorem de_Mo_swap_43 : decode prog_14_method_75_code 43 = .ok (.iload_n 1, 1) := by decide +kernel
theorem de_Mo_swap_44 : decode prog_14_method_75_code 44 = .ok (.iadd, 1) := by decide +kernel
theorem de_Mo_swap_45 : decode prog_14_method_75_code 45 = .ok (.aload_n 0, 1) := by decide +kernel
theorem de_Mo_swap_46 : decode prog_14_method_75_code 46 = .ok (.getfield 39, 3) := by decide +kernel
theorem de_Mo_swap_49 : decode prog_14_method_75_code 49 = .ok (.bipush 46, 2) := by decide +kernel
theorem de_Mo_swap_51 : decode prog_14_method_75_code 51 = .ok (.iload_n 2, 1) := by decide +kernel
theorem de_Mo_swap_52 : decode prog_14_method_75_code 52 = .ok (.iadd, 1) := by decide +kernel
theorem de_Mo_swap_53 : decode prog_14_method_75_code 53 = .ok (.iaload, 1) := by decide +kernel
theorem de_Mo_swap_54 : decode prog_14_method_75_code 54 = .ok (.iastore, 1) := by decide +kernel
theorem de_Mo_swap_55 : decode prog_14_method_75_code 55 = .ok (.aload_n 0, 1) := by decide +kernel
theorem de_Mo_swap_56 : decode prog_14_method_75_code 56 = .ok (.getfield 39, 3) := by decide +kernel
theorem de_Mo_swap_59 : decode prog_14_method_75_code 59 = .ok (.bipush 46, 2) := by decide +kernel
theorem de_Mo_swap_61 : decode prog_14_method_75_code 61 = .ok (.iload_n 2, 1) := by decide +kernel
theorem de_Mo_swap_62 : decode prog_14_method_75_code 62 = .ok (.iadd, 1) := by decide +kernel
theorem de_Mo_swap_63 : decode prog_14_method_75_code 63 = .ok (.iload_n 3, 1) := by decide +kernel
theorem de_Mo_swap_64 : decode prog_14_method_75_code 64 = .ok (.iastore, 1) := by decide +kernel
theorem de_Mo_swap_65 : decode prog_14_method_75_code 65 = .ok (.iconst 1, 1) := by decide +kernel
theorem de_Mo_swap_66 : decode prog_14_method_75_code 66 = .ok (.ireturn, 1) := by decide +kernel
set_option maxRecDepth 10000 in
theorem co_Mo_swap {B : Int} (hI : sg_ok B said) (hu0 : 0 ≤ undone) (hu : undone ≤ 20) (a b : Int) (h1 : ab_in a) (h2 : ab_in b) : ab_Mt g_G g_rs mt_Mo_swap 1 0 0 [ab_R 0, ab_I a, ab_I b] (mo_W tape taped rules sign leng clause clauses read next wrong number text made deep lines opn opened stack top word said xx was undone kept sumOf faced slotAt dayAt row bestRow tMany tMost drawX images imageX isMade) (ab_is (some (ab_I (if (0 ≤ a ∧ a < said 1) ∧ (0 ≤ b ∧ b < said 1) ∧ ¬ a = b then 1 else 0))) (mo_W tape taped rules sign leng clause clauses read next wrong number text made deep lines opn opened stack top word (if (0 ≤ a ∧ a < said 1) ∧ (0 ≤ b ∧ b < said 1) ∧ ¬ a = b then ab_up (ab_up said (46 + a) (said (46 + b))) (46 + b) (said (46 + a)) else said) xx (if (0 ≤ a ∧ a < said 1) ∧ (0 ≤ b ∧ b < said 1) ∧ ¬ a = b then sp_kw said was undone else was) (if (0 ≤ a ∧ a < said 1) ∧ (0 ≤ b ∧ b < said 1) ∧ ¬ a = b then sp_ku undone + 1 else undone) kept sumOf faced slotAt dayAt row bestRow tMany tMost drawX images imageX isMade)) := by
  refine ab_Mt.of rfl (Nat.le_of_ble_eq_true rfl) ?_
  show ab_Ev g_G g_rs mt_Mo_swap _ _ _ 0 [some (ab_R 0), some (ab_I a), some (ab_I b), none] [] _ _
  have hJ := hI; obtain ⟨i0, i1, i2, i3, i4, i5, i6, i7, i8, i9, i10, i11, i12, i13, i14, i15, i16, i17⟩ := sg_all hJ
  refine ev_aload_n de_Mo_swap_0 rfl rfl ?_
  refine ev_iload_n de_Mo_swap_1 rfl rfl ?_
  refine ev_vv (ci := 11) de_Mo_swap_2 (co_Mo_isHouse hI a h1) kb_Mo_316 ⟨im_Mo_isHouse, se_Mo_isHouse⟩ rfl rfl rfl (Nat.le_of_ble_eq_true rfl) (by decide) rfl ?_
  refine ev_if_eq (tgt := 21) de_Mo_swap_5 (by decide) (by split <;> decide) (fun h5 => ?_) (fun h5 => ?_)
  · skip
    have n5 : ¬ (0 ≤ a ∧ a < said 1) := fun z => by rw [if_pos z] at h5; omega
    rw [if_neg (by omega), if_neg (by omega), if_neg (by omega), if_neg (by omega)]
    refine ev_iconst de_Mo_swap_21 ?_
    exact ev_zreturn de_Mo_swap_22 rfl (by decide) ⟨rfl, rfl⟩
  · skip
    have n5 : 0 ≤ a ∧ a < said 1 := Decidable.byContradiction (fun z => by rw [if_neg z] at h5; omega)
    refine ev_aload_n de_Mo_swap_8 rfl rfl ?_
    refine ev_iload_n de_Mo_swap_9 rfl rfl ?_
    refine ev_vv (ci := 11) de_Mo_swap_10 (co_Mo_isHouse hI b h2) kb_Mo_316 ⟨im_Mo_isHouse, se_Mo_isHouse⟩ rfl rfl rfl (Nat.le_of_ble_eq_true rfl) (by decide) rfl ?_
    refine ev_if_eq (tgt := 21) de_Mo_swap_13 (by decide) (by split <;> decide) (fun h13 => ?_) (fun h13 => ?_)
    · skip
      have n13 : ¬ (0 ≤ b ∧ b < said 1) := fun z => by rw [if_pos z] at h13; omega
      rw [if_neg (by omega), if_neg (by omega), if_neg (by omega), if_neg (by omega)]
      refine ev_iconst de_Mo_swap_21 ?_
      exact ev_zreturn de_Mo_swap_22 rfl (by decide) ⟨rfl, rfl⟩
    · skip
      have n13 : 0 ≤ b ∧ b < said 1 := Decidable.byContradiction (fun z => by rw [if_neg z] at h13; omega)
      refine ev_iload_n de_Mo_swap_16 rfl rfl ?_
      refine ev_iload_n de_Mo_swap_17 rfl rfl ?_
      refine ev_icmp_ne (tgt := 23) de_Mo_swap_18 (by decide) (by omega) (by omega) (fun h18 => ?_) (fun h18 => ?_)
      · skip
        rw [if_pos (by omega), if_pos (by omega), if_pos (by omega), if_pos (by omega)]
        refine ev_aload_n de_Mo_swap_23 rfl rfl ?_
        refine ev_vn (ci := 11) de_Mo_swap_24 (co_Mo_keepsAct hu0 hu) kb_Mo_344 ⟨im_Mo_keepsAct, se_Mo_keepsAct⟩ rfl rfl rfl (Nat.le_of_ble_eq_true rfl) (by decide) rfl ?_
        refine ev_aload_n de_Mo_swap_27 rfl rfl ?_
        refine ev_getfield de_Mo_swap_28 rfl fl_Mo_39 rfl ?_
        refine ev_bipush de_Mo_swap_31 rfl ?_
        refine ev_iload_n de_Mo_swap_33 rfl rfl ?_
        refine ev_iadd de_Mo_swap_34 ?_
        refine ev_iaload de_Mo_swap_35 rfl (by omega) (by omega) (by omega) ?_
        refine ev_istore_n (l' := [_, _, _, _]) de_Mo_swap_36 rfl (Nat.le_of_ble_eq_true rfl) rfl ?_
        refine ev_aload_n de_Mo_swap_37 rfl rfl ?_
        refine ev_getfield de_Mo_swap_38 rfl fl_Mo_39 rfl ?_
        refine ev_bipush de_Mo_swap_41 rfl ?_
        refine ev_iload_n de_Mo_swap_43 rfl rfl ?_
        refine ev_iadd de_Mo_swap_44 ?_
        refine ev_aload_n de_Mo_swap_45 rfl rfl ?_
        refine ev_getfield de_Mo_swap_46 rfl fl_Mo_39 rfl ?_
        refine ev_bipush de_Mo_swap_49 rfl ?_
        refine ev_iload_n de_Mo_swap_51 rfl rfl ?_
        refine ev_iadd de_Mo_swap_52 ?_
        refine ev_iaload de_Mo_swap_53 rfl (by omega) (by omega) (by omega) ?_
        refine ev_iastore de_Mo_swap_54 rfl (by omega) (by omega) (by omega) ?_
        refine ev_world (w' := mo_W _ _ _ _ _ _ _ _ _ _ _ _ _ _ _ _ _ _ _ _ _ _ _ _ _ _ _ _ _ _ _ _ _ _ _ _ _) rfl ?_
        refine ev_aload_n de_Mo_swap_55 rfl rfl ?_
        refine ev_getfield de_Mo_swap_56 rfl fl_Mo_39 rfl ?_
        refine ev_bipush de_Mo_swap_59 rfl ?_
        refine ev_iload_n de_Mo_swap_61 rfl rfl ?_
        refine ev_iadd de_Mo_swap_62 ?_
        refine ev_iload_n de_Mo_swap_63 rfl rfl ?_
        refine ev_iastore de_Mo_swap_64 rfl (by omega) (by omega) (by omega) ?_
        refine ev_world (w' := mo_W _ _ _ _ _ _ _ _ _ _ _ _ _ _ _ _ _ _ _ _ _ _ _ _ _ _ _ _ _ _ _ _ _ _ _ _ _) rfl ?_
        refine ev_iconst de_Mo_swap_65 ?_
        exact ev_zreturn de_Mo_swap_66 rfl (by decide) ⟨rfl, rfl⟩
      · skip
        rw [if_neg (by omega), if_neg (by omega), if_neg (by omega), if_neg (by omega)]
        refine ev_iconst de_Mo_swap_21 ?_
        exact ev_zreturn de_Mo_swap_22 rfl (by decide) ⟨rfl, rfl⟩
theorem de_Mo_stop_0 : decode prog_14_method_76_code 0 = .ok (.aload_n 0, 1) := by decide +kernel
theorem de_Mo_stop_1 : decode prog_14_method_76_code 1 = .ok (.invokevirtual 323, 3) := by decide +kernel
theorem de_Mo_stop_4 : decode prog_14_method_76_code 4 = .ok (.ifCond .eq 14, 3) := by decide +kernel
theorem de_Mo_stop_7 : decode prog_14_method_76_code 7 = .ok (.aload_n 0, 1) := by decide +kernel
theorem de_Mo_stop_8 : decode prog_14_method_76_code 8 = .ok (.getfield 39, 3) := by decide +kernel
theorem de_Mo_stop_11 : decode prog_14_method_76_code 11 = .ok (.bipush 7, 2) := by decide +kernel
theorem de_Mo_stop_13 : decode prog_14_method_76_code 13 = .ok (.iaload, 1) := by decide +kernel
theorem de_Mo_stop_14 : decode prog_14_method_76_code 14 = .ok (.iconst 1, 1) := by decide +kernel
theorem de_Mo_stop_15 : decode prog_14_method_76_code 15 = .ok (.if_icmp .ne 5, 3) := by decide +kernel
theorem de_Mo_stop_18 : decode prog_14_method_76_code 18 = .ok (.iconst 0, 1) := by decide +kernel
theorem de_Mo_stop_19 : decode prog_14_method_76_code 19 = .ok (.ireturn, 1) := by decide +kernel
theorem de_Mo_stop_20 : decode prog_14_method_76_code 20 = .ok (.aload_n 0, 1) := by decide +kernel
theorem de_Mo_stop_21 : decode prog_14_method_76_code 21 = .ok (.invokevirtual 344, 3) := by decide +kernel
theorem de_Mo_stop_24 : decode prog_14_method_76_code 24 = .ok (.aload_n 0, 1) := by decide +kernel
theorem de_Mo_stop_25 : decode prog_14_method_76_code 25 = .ok (.getfield 39, 3) := by decide +kernel
theorem de_Mo_stop_28 : decode prog_14_method_76_code 28 = .ok (.bipush 7, 2) := by decide +kernel
theorem de_Mo_stop_30 : decode prog_14_method_76_code 30 = .ok (.iconst 1, 1) := by decide +kernel
theorem de_Mo_stop_31 : decode prog_14_method_76_code 31 = .ok (.iastore, 1) := by decide +kernel
theorem de_Mo_stop_32 : decode prog_14_method_76_code 32 = .ok (.aload_n 0, 1) := by decide +kernel
theorem de_Mo_stop_33 : decode prog_14_method_76_code 33 = .ok (.getfield 39, 3) := by decide +kernel
theorem de_Mo_stop_36 : decode prog_14_method_76_code 36 = .ok (.bipush 8, 2) := by decide +kernel
theorem de_Mo_stop_38 : decode prog_14_method_76_code 38 = .ok (.dup2, 1) := by decide +kernel
theorem de_Mo_stop_39 : decode prog_14_method_76_code 39 = .ok (.iaload, 1) := by decide +kernel
theorem de_Mo_stop_40 : decode prog_14_method_76_code 40 = .ok (.iconst 1, 1) := by decide +kernel
theorem de_Mo_stop_41 : decode prog_14_method_76_code 41 = .ok (.iadd, 1) := by decide +kernel
theorem de_Mo_stop_42 : decode prog_14_method_76_code 42 = .ok (.iastore, 1) := by decide +kernel
theorem de_Mo_stop_43 : decode prog_14_method_76_code 43 = .ok (.iconst 1, 1) := by decide +kernel
theorem de_Mo_stop_44 : decode prog_14_method_76_code 44 = .ok (.ireturn, 1) := by decide +kernel
set_option maxRecDepth 10000 in
theorem co_Mo_stop {B : Int} (hI : sg_ok B said) (hu0 : 0 ≤ undone) (hu : undone ≤ 20) : ab_Mt g_G g_rs mt_Mo_stop 1 0 0 [ab_R 0] (mo_W tape taped rules sign leng clause clauses read next wrong number text made deep lines opn opened stack top word said xx was undone kept sumOf faced slotAt dayAt row bestRow tMany tMost drawX images imageX isMade) (ab_is (some (ab_I (if said 0 = 1 ∧ said 7 = 0 then 1 else 0))) (mo_W tape taped rules sign leng clause clauses read next wrong number text made deep lines opn opened stack top word (if said 0 = 1 ∧ said 7 = 0 then ab_up (ab_up said 7 1) 8 (said 8 + 1) else said) xx (if said 0 = 1 ∧ said 7 = 0 then sp_kw said was undone else was) (if said 0 = 1 ∧ said 7 = 0 then sp_ku undone + 1 else undone) kept sumOf faced slotAt dayAt row bestRow tMany tMost drawX images imageX isMade)) := by
  refine ab_Mt.of rfl (Nat.le_of_ble_eq_true rfl) ?_
  show ab_Ev g_G g_rs mt_Mo_stop _ _ _ 0 [some (ab_R 0)] [] _ _
  have hJ := hI; obtain ⟨i0, i1, i2, i3, i4, i5, i6, i7, i8, i9, i10, i11, i12, i13, i14, i15, i16, i17⟩ := sg_all hJ
  refine ev_aload_n de_Mo_stop_0 rfl rfl ?_
  refine ev_vv (ci := 11) de_Mo_stop_1 (co_Mo_isRing hI) kb_Mo_323 ⟨im_Mo_isRing, se_Mo_isRing⟩ rfl rfl rfl (Nat.le_of_ble_eq_true rfl) (by decide) rfl ?_
  refine ev_if_eq (tgt := 18) de_Mo_stop_4 (by decide) (by omega) (fun h4 => ?_) (fun h4 => ?_)
  · skip
    rw [if_neg (by omega), if_neg (by omega), if_neg (by omega), if_neg (by omega)]
    refine ev_iconst de_Mo_stop_18 ?_
    exact ev_zreturn de_Mo_stop_19 rfl (by decide) ⟨rfl, rfl⟩
  · skip
    refine ev_aload_n de_Mo_stop_7 rfl rfl ?_
    refine ev_getfield de_Mo_stop_8 rfl fl_Mo_39 rfl ?_
    refine ev_bipush de_Mo_stop_11 rfl ?_
    refine ev_iaload de_Mo_stop_13 rfl (by omega) (by omega) (by omega) ?_
    refine ev_iconst de_Mo_stop_14 ?_
    refine ev_icmp_ne (tgt := 20) de_Mo_stop_15 (by decide) (by omega) (by omega) (fun h15 => ?_) (fun h15 => ?_)
    · skip
      rw [if_pos (by omega), if_pos (by omega), if_pos (by omega), if_pos (by omega)]
      refine ev_aload_n de_Mo_stop_20 rfl rfl ?_
      refine ev_vn (ci := 11) de_Mo_stop_21 (co_Mo_keepsAct hu0 hu) kb_Mo_344 ⟨im_Mo_keepsAct, se_Mo_keepsAct⟩ rfl rfl rfl (Nat.le_of_ble_eq_true rfl) (by decide) rfl ?_
      refine ev_aload_n de_Mo_stop_24 rfl rfl ?_
      refine ev_getfield de_Mo_stop_25 rfl fl_Mo_39 rfl ?_
      refine ev_bipush de_Mo_stop_28 rfl ?_
      refine ev_iconst de_Mo_stop_30 ?_
      refine ev_iastore de_Mo_stop_31 rfl (by omega) (by omega) (by omega) ?_
      refine ev_world (w' := mo_W _ _ _ _ _ _ _ _ _ _ _ _ _ _ _ _ _ _ _ _ _ _ _ _ _ _ _ _ _ _ _ _ _ _ _ _ _) rfl ?_
      refine ev_aload_n de_Mo_stop_32 rfl rfl ?_
      refine ev_getfield de_Mo_stop_33 rfl fl_Mo_39 rfl ?_
      refine ev_bipush de_Mo_stop_36 rfl ?_
      refine ev_dup2 de_Mo_stop_38 rfl rfl ?_
      refine ev_iaload de_Mo_stop_39 rfl (by omega) (by omega) (by omega) ?_
      refine ev_iconst de_Mo_stop_40 ?_
      refine ev_iadd de_Mo_stop_41 ?_
      refine ev_iastore de_Mo_stop_42 rfl (by omega) (by omega) (by omega) ?_
      refine ev_world (w' := mo_W _ _ _ _ _ _ _ _ _ _ _ _ _ _ _ _ _ _ _ _ _ _ _ _ _ _ _ _ _ _ _ _ _ _ _ _ _) rfl ?_
      refine ev_iconst de_Mo_stop_43 ?_
      exact ev_zreturn de_Mo_stop_44 rfl (by decide) ⟨rfl, rfl⟩
    · skip
      rw [if_neg (by omega), if_neg (by omega), if_neg (by omega), if_neg (by omega)]
      refine ev_iconst de_Mo_stop_18 ?_
      exact ev_zreturn de_Mo_stop_19 rfl (by decide) ⟨rfl, rfl⟩
end MO
