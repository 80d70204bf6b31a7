section MO
variable {tape : Int → Int} {taped : Int} {rules : Int} {sign : Int → Int} {leng : Int → Int} {clause : Int → Int} {clauses : Int → Int} {read : Int → Int} {next : Int} {wrong : Int} {number : Int} {text : Int} {made : Int} {deep : Int} {lines : Int} {opn : Int → Int} {opened : Int} {stack : Int → Int64} {top : Int} {word : Int → Int64} {said : Int → Int} {xx : Int} {was : Int → Int} {undone : Int} {kept : Int → Int} {sumOf : Int → Int} {faced : Int → Int} {slotAt : Int → Int} {dayAt : Int → Int} {row : Int → Int} {bestRow : Int → Int} {tMany : Int} {tMost : Int} {drawX : Int64} {images : Int → Int} {imageX : Int → Int} {isMade : Int → Int}
/-! ring -/
def rs_ini (rd : Int → Int) (j : Int) : Int → Int := fun k => if 0 ≤ k ∧ k < j then (if 10 ≤ k ∧ k < 34 then 1 else 0) else rd k
theorem rs_ini_s (rd : Int → Int) {j : Int} (h : 0 ≤ j) {v : Int} (e : v = if 10 ≤ j ∧ j < 34 then 1 else 0) : ab_up (rs_ini rd j) j v = rs_ini rd (j + 1) := by
  funext k
  by_cases c : k = j
  · subst c
    rw [ab_upe]
    unfold rs_ini
    rw [if_pos (by omega), e]
  · rw [ab_upn _ _ c]
    unfold rs_ini
    by_cases c2 : 0 ≤ k ∧ k < j
    · rw [if_pos c2, if_pos (show 0 ≤ k ∧ k < j + 1 by omega)]
    · rw [if_neg c2, if_neg (show ¬ (0 ≤ k ∧ k < j + 1) by omega)]
theorem rs_ini_0 (rd : Int → Int) : rs_ini rd 0 = rd := by funext k; unfold rs_ini; rw [if_neg (by omega)]
theorem rd_ini {rd : Int → Int} (h : rd_ok rd) : rd_ok (rs_ini rd 46) := by
  refine ⟨fun k h0 h1 => ?_, fun k hk => ?_⟩
  · unfold rs_ini
    by_cases c : k < 46
    · rw [if_pos ⟨h0, c⟩]
      unfold sg_lo sg_hi
      repeat' split
      all_goals omega
    · rw [if_neg (by omega)]; exact h.1 k h0 h1
  · unfold rs_ini
    rw [if_pos (by omega), if_neg (by omega)]
def rs_said (rd sd : Int → Int) (j : Int) : Int → Int := fun k => if 0 ≤ k ∧ k < j then (if k < 150 then rd k else 0) else sd k
theorem rs_said_s (rd sd : Int → Int) {j : Int} (h : 0 ≤ j) {v : Int} (e : v = if j < 150 then rd j else 0) : ab_up (rs_said rd sd j) j v = rs_said rd sd (j + 1) := by
  funext k
  by_cases c : k = j
  · subst c
    rw [ab_upe]
    unfold rs_said
    rw [if_pos (by omega), e]
  · rw [ab_upn _ _ c]
    unfold rs_said
    by_cases c2 : 0 ≤ k ∧ k < j
    · rw [if_pos c2, if_pos (show 0 ≤ k ∧ k < j + 1 by omega)]
    · rw [if_neg c2, if_neg (show ¬ (0 ≤ k ∧ k < j + 1) by omega)]
theorem rs_said_0 (rd sd : Int → Int) : rs_said rd sd 0 = sd := by funext k; unfold rs_said; rw [if_neg (by omega)]
theorem de_Mo_ring_0 : decode prog_14_method_43_code 0 = .ok (.aload_n 0, 1) := by decide +kernel
theorem de_Mo_ring_1 : decode prog_14_method_43_code 1 = .ok (.bipush 6, 2) := by decide +kernel
theorem de_Mo_ring_3 : decode prog_14_method_43_code 3 = .ok (.putfield 143, 3) := by decide +kernel
theorem de_Mo_ring_6 : decode prog_14_method_43_code 6 = .ok (.iconst 0, 1) := by decide +kernel
theorem de_Mo_ring_7 : decode prog_14_method_43_code 7 = .ok (.istore_n 1, 1) := by decide +kernel
theorem de_Mo_ring_8 : decode prog_14_method_43_code 8 = .ok (.iload_n 1, 1) := by decide +kernel
theorem de_Mo_ring_9 : decode prog_14_method_43_code 9 = .ok (.bipush 46, 2) := by decide +kernel
theorem de_Mo_ring_11 : decode prog_14_method_43_code 11 = .ok (.if_icmp .ge 32, 3) := by decide +kernel
theorem de_Mo_ring_14 : decode prog_14_method_43_code 14 = .ok (.aload_n 0, 1) := by decide +kernel
theorem de_Mo_ring_15 : decode prog_14_method_43_code 15 = .ok (.getfield 26, 3) := by decide +kernel
theorem de_Mo_ring_18 : decode prog_14_method_43_code 18 = .ok (.iload_n 1, 1) := by decide +kernel
theorem de_Mo_ring_19 : decode prog_14_method_43_code 19 = .ok (.iload_n 1, 1) := by decide +kernel
theorem de_Mo_ring_20 : decode prog_14_method_43_code 20 = .ok (.bipush 10, 2) := by decide +kernel
theorem de_Mo_ring_22 : decode prog_14_method_43_code 22 = .ok (.if_icmp .lt 13, 3) := by decide +kernel
theorem de_Mo_ring_25 : decode prog_14_method_43_code 25 = .ok (.iload_n 1, 1) := by decide +kernel
theorem de_Mo_ring_26 : decode prog_14_method_43_code 26 = .ok (.bipush 34, 2) := by decide +kernel
theorem de_Mo_ring_28 : decode prog_14_method_43_code 28 = .ok (.if_icmp .ge 7, 3) := by decide +kernel
theorem de_Mo_ring_31 : decode prog_14_method_43_code 31 = .ok (.iconst 1, 1) := by decide +kernel
theorem de_Mo_ring_32 : decode prog_14_method_43_code 32 = .ok (.goto 4, 3) := by decide +kernel
theorem de_Mo_ring_35 : decode prog_14_method_43_code 35 = .ok (.iconst 0, 1) := by decide +kernel
theorem de_Mo_ring_36 : decode prog_14_method_43_code 36 = .ok (.iastore, 1) := by decide +kernel
theorem de_Mo_ring_37 : decode prog_14_method_43_code 37 = .ok (.iinc 1 1, 3) := by decide +kernel
theorem de_Mo_ring_40 : decode prog_14_method_43_code 40 = .ok (.goto (-32), 3) := by decide +kernel
theorem de_Mo_ring_43 : decode prog_14_method_43_code 43 = .ok (.aload_n 0, 1) := by decide +kernel
theorem de_Mo_ring_44 : decode prog_14_method_43_code 44 = .ok (.invokevirtual 269, 3) := by decide +kernel
theorem de_Mo_ring_47 : decode prog_14_method_43_code 47 = .ok (.ifCond .ne 11, 3) := by decide +kernel
theorem de_Mo_ring_50 : decode prog_14_method_43_code 50 = .ok (.bipush (-2), 2) := by decide +kernel
theorem de_Mo_ring_52 : decode prog_14_method_43_code 52 = .ok (.aload_n 0, 1) := by decide +kernel
theorem de_Mo_ring_53 : decode prog_14_method_43_code 53 = .ok (.getfield 84, 3) := by decide +kernel
theorem de_Mo_ring_56 : decode prog_14_method_43_code 56 = .ok (.isub, 1) := by decide +kernel
theorem de_Mo_ring_57 : decode prog_14_method_43_code 57 = .ok (.ireturn, 1) := by decide +kernel
theorem de_Mo_ring_58 : decode prog_14_method_43_code 58 = .ok (.iconst 0, 1) := by decide +kernel
theorem de_Mo_ring_59 : decode prog_14_method_43_code 59 = .ok (.istore_n 1, 1) := by decide +kernel
theorem de_Mo_ring_60 : decode prog_14_method_43_code 60 = .ok (.iload_n 1, 1) := by decide +kernel
theorem de_Mo_ring_61 : decode prog_14_method_43_code 61 = .ok (.sipush 191, 3) := by decide +kernel
theorem de_Mo_ring_64 : decode prog_14_method_43_code 64 = .ok (.if_icmp .ge 32, 3) := by decide +kernel
theorem de_Mo_ring_67 : decode prog_14_method_43_code 67 = .ok (.aload_n 0, 1) := by decide +kernel
theorem de_Mo_ring_68 : decode prog_14_method_43_code 68 = .ok (.getfield 39, 3) := by decide +kernel
theorem de_Mo_ring_71 : decode prog_14_method_43_code 71 = .ok (.iload_n 1, 1) := by decide +kernel
theorem de_Mo_ring_72 : decode prog_14_method_43_code 72 = .ok (.iload_n 1, 1) := by decide +kernel
theorem de_Mo_ring_73 : decode prog_14_method_43_code 73 = .ok (.sipush 150, 3) := by decide +kernel
theorem de_Mo_ring_76 : decode prog_14_method_43_code 76 = .ok (.if_icmp .ge 12, 3) := by decide +kernel
theorem de_Mo_ring_79 : decode prog_14_method_43_code 79 = .ok (.aload_n 0, 1) := by decide +kernel
theorem de_Mo_ring_80 : decode prog_14_method_43_code 80 = .ok (.getfield 26, 3) := by decide +kernel
theorem de_Mo_ring_83 : decode prog_14_method_43_code 83 = .ok (.iload_n 1, 1) := by decide +kernel
theorem de_Mo_ring_84 : decode prog_14_method_43_code 84 = .ok (.iaload, 1) := by decide +kernel
theorem de_Mo_ring_85 : decode prog_14_method_43_code 85 = .ok (.goto 4, 3) := by decide +kernel
theorem de_Mo_ring_88 : decode prog_14_method_43_code 88 = .ok (.iconst 0, 1) := by decide +kernel
theorem de_Mo_ring_89 : decode prog_14_method_43_code 89 = .ok (.iastore, 1) := by decide +kernel
theorem de_Mo_ring_90 : decode prog_14_method_43_code 90 = .ok (.iinc 1 1, 3) := by decide +kernel
theorem de_Mo_ring_93 : decode prog_14_method_43_code 93 = .ok (.goto (-33), 3) := by decide +kernel
theorem de_Mo_ring_96 : decode prog_14_method_43_code 96 = .ok (.aload_n 0, 1) := by decide +kernel
theorem de_Mo_ring_97 : decode prog_14_method_43_code 97 = .ok (.iconst 0, 1) := by decide +kernel
theorem de_Mo_ring_98 : decode prog_14_method_43_code 98 = .ok (.putfield 272, 3) := by decide +kernel
theorem de_Mo_ring_101 : decode prog_14_method_43_code 101 = .ok (.aload_n 0, 1) := by decide +kernel
theorem de_Mo_ring_102 : decode prog_14_method_43_code 102 = .ok (.getfield 39, 3) := by decide +kernel
theorem de_Mo_ring_105 : decode prog_14_method_43_code 105 = .ok (.iconst 1, 1) := by decide +kernel
theorem de_Mo_ring_106 : decode prog_14_method_43_code 106 = .ok (.iaload, 1) := by decide +kernel
theorem de_Mo_ring_107 : decode prog_14_method_43_code 107 = .ok (.ireturn, 1) := by decide +kernel
set_option maxRecDepth 10000 in
theorem l2_Mo_ring  : ∀ (n : Nat) (j : Int), 0 ≤ j → j ≤ 191 → 191 < j + n → ab_Ev g_G g_rs mt_Mo_ring 11 0 0 60 [some (ab_R 0), some (ab_I j)] [] (mo_W tape taped rules sign leng clause clauses read next wrong number text made deep lines opn opened stack top word (rs_said read said j) xx was undone kept sumOf faced slotAt dayAt row bestRow tMany tMost drawX images imageX isMade) (ab_is (some (ab_I (read 1))) (mo_W tape taped rules sign leng clause clauses read next wrong number text made deep lines opn opened stack top word (rs_said read said 191) xx was (0) kept sumOf faced slotAt dayAt row bestRow tMany tMost drawX images imageX isMade)) := by
  intro n
  induction n with
  | zero =>
    intro j
    intro g0 g1 g2; omega
  | succ n ih =>
    intro j
    intro g0 g1 g2
    refine ev_iload_n de_Mo_ring_60 rfl rfl ?_
    refine ev_sipush de_Mo_ring_61 rfl ?_
    refine ev_icmp_ge (tgt := 96) de_Mo_ring_64 (by decide) (by omega) (by omega) (fun h64 => ?_) (fun h64 => ?_)
    · skip
      have ej : j = 191 := by omega
      subst ej
      have e1 : rs_said read said 191 1 = read 1 := rfl
      refine ev_aload_n de_Mo_ring_96 rfl rfl ?_
      refine ev_iconst de_Mo_ring_97 ?_
      refine ev_putfield de_Mo_ring_98 rfl (fp_Mo_272 _) (Nat.le_of_ble_eq_true rfl) trivial ?_
      refine ev_world (w' := mo_W _ _ _ _ _ _ _ _ _ _ _ _ _ _ _ _ _ _ _ _ _ _ _ _ _ _ _ _ _ _ _ _ _ _ _ _ _) rfl ?_
      refine ev_aload_n de_Mo_ring_101 rfl rfl ?_
      refine ev_getfield de_Mo_ring_102 rfl fl_Mo_39 rfl ?_
      refine ev_iconst de_Mo_ring_105 ?_
      refine ev_iaload de_Mo_ring_106 rfl (by omega) (by omega) (by omega) ?_
      exact ev_ireturn de_Mo_ring_107 rfl ⟨rfl, rfl⟩
    · skip
      refine ev_aload_n de_Mo_ring_67 rfl rfl ?_
      refine ev_getfield de_Mo_ring_68 rfl fl_Mo_39 rfl ?_
      refine ev_iload_n de_Mo_ring_71 rfl rfl ?_
      refine ev_iload_n de_Mo_ring_72 rfl rfl ?_
      refine ev_sipush de_Mo_ring_73 rfl ?_
      refine ev_icmp_ge (tgt := 88) de_Mo_ring_76 (by decide) (by omega) (by omega) (fun h76 => ?_) (fun h76 => ?_)
      · skip
        have ev : (0 : Int) = if j < 150 then read j else 0 := by rw [if_neg (by omega)]
        refine ev_iconst de_Mo_ring_88 ?_
        refine ev_iastore de_Mo_ring_89 rfl (by omega) (by omega) (by omega) ?_
        refine ev_world (w' := mo_W _ _ _ _ _ _ _ _ _ _ _ _ _ _ _ _ _ _ _ _ _ _ _ _ _ _ _ _ _ _ _ _ _ _ _ _ _) rfl ?_
        refine ev_iinc (l' := [_, _]) de_Mo_ring_90 rfl rfl ?_
        refine ev_goto (tgt := 60) de_Mo_ring_93 (by decide) ?_
        refine ev_world (w' := (mo_W tape taped rules sign leng clause clauses read next wrong number text made deep lines opn opened stack top word (rs_said read said (j + 1)) xx was undone kept sumOf faced slotAt dayAt row bestRow tMany tMost drawX images imageX isMade)) (by rw [rs_said_s read said g0 ev]) ?_
        exact ih (j + 1) (by omega) (by omega) (by omega)
      · skip
        have ev : read j = if j < 150 then read j else 0 := by rw [if_pos (by omega)]
        refine ev_aload_n de_Mo_ring_79 rfl rfl ?_
        refine ev_getfield de_Mo_ring_80 rfl fl_Mo_26 rfl ?_
        refine ev_iload_n de_Mo_ring_83 rfl rfl ?_
        refine ev_iaload de_Mo_ring_84 rfl (by omega) (by omega) (by omega) ?_
        refine ev_goto (tgt := 89) de_Mo_ring_85 (by decide) ?_
        refine ev_iastore de_Mo_ring_89 rfl (by omega) (by omega) (by omega) ?_
        refine ev_world (w' := mo_W _ _ _ _ _ _ _ _ _ _ _ _ _ _ _ _ _ _ _ _ _ _ _ _ _ _ _ _ _ _ _ _ _ _ _ _ _) rfl ?_
        refine ev_iinc (l' := [_, _]) de_Mo_ring_90 rfl rfl ?_
        refine ev_goto (tgt := 60) de_Mo_ring_93 (by decide) ?_
        refine ev_world (w' := (mo_W tape taped rules sign leng clause clauses read next wrong number text made deep lines opn opened stack top word (rs_said read said (j + 1)) xx was undone kept sumOf faced slotAt dayAt row bestRow tMany tMost drawX images imageX isMade)) (by rw [rs_said_s read said g0 ev]) ?_
        exact ih (j + 1) (by omega) (by omega) (by omega)
def rr (tape : Int → Int) (rules : Int) (sign : Int → Int) (leng : Int → Int) (clause : Int → Int) (clauses : Int → Int) (deep : Int) (opn : Int → Int) (opened : Int) (stack : Int → Int64) (top : Int) (word : Int → Int64) (said : Int → Int) (xx : Int) (was : Int → Int) (undone : Int) (kept : Int → Int) (sumOf : Int → Int) (faced : Int → Int) (slotAt : Int → Int) (dayAt : Int → Int) (row : Int → Int) (bestRow : Int → Int) (tMany : Int) (tMost : Int) (drawX : Int64) (images : Int → Int) (imageX : Int → Int) (isMade : Int → Int) (X : Except Int (Int → Int)) : Option ab_V → ab_W → Prop := fun r w2 => ∃ (nx nu wr ln : Int) (rd : Int → Int), (0 ≤ nx ∧ nx ≤ 400) ∧ rd_ok rd ∧ ab_in nu ∧ (0 ≤ ln ∧ ln ≤ 40) ∧ ((r = some (ab_I (rd 1)) ∧ w2 = (mo_W tape (0) rules sign (ab_up leng 6 0) clause clauses (rd) (nx) (0) (nu) (6) (0) deep (ln) opn opened stack top word (rs_said rd said 191) xx was (0) kept sumOf faced slotAt dayAt row bestRow tMany tMost drawX images imageX isMade) ∧ X = .ok rd) ∨ (r = some (ab_I (-2 - wr)) ∧ (1 ≤ wr ∧ wr ≤ 10000) ∧ w2 = (mo_W tape (0) rules sign (ab_up leng 6 0) clause clauses (rd) (nx) (wr) (nu) (6) (0) deep (ln) opn opened stack top word said xx was undone kept sumOf faced slotAt dayAt row bestRow tMany tMost drawX images imageX isMade) ∧ X = .error wr))
set_option maxRecDepth 10000 in
theorem l1_Mo_ring (ht : tp_ok tape taped) (hrd : rd_ok read) (hnu : ab_in number) : ∀ (n : Nat) (j : Int), 0 ≤ j → j ≤ 46 → 46 < j + n → ab_Ev g_G g_rs mt_Mo_ring 11 0 0 8 [some (ab_R 0), some (ab_I j)] [] (mo_W tape taped rules sign leng clause clauses (rs_ini read j) next wrong number (6) made deep lines opn opened stack top word said xx was undone kept sumOf faced slotAt dayAt row bestRow tMany tMost drawX images imageX isMade) (rr tape rules sign leng clause clauses deep opn opened stack top word said xx was undone kept sumOf faced slotAt dayAt row bestRow tMany tMost drawX images imageX isMade (rs_all tape taped (rs_ini read 46))) := by
  intro n
  induction n with
  | zero =>
    intro j
    intro g0 g1 g2; omega
  | succ n ih =>
    intro j
    intro g0 g1 g2
    refine ev_iload_n de_Mo_ring_8 rfl rfl ?_
    refine ev_bipush de_Mo_ring_9 rfl ?_
    refine ev_icmp_ge (tgt := 43) de_Mo_ring_11 (by decide) (by omega) (by omega) (fun h11 => ?_) (fun h11 => ?_)
    · skip
      have ej : j = 46 := by omega
      subst ej
      refine ev_aload_n de_Mo_ring_43 rfl rfl ?_
      refine ev_virtual (ci := 11) (mc := 0) (ms := 0) (bc := 0) (bs := 0) de_Mo_ring_44 (cr_Mo_readsAll ht (rd_ini hrd) hnu) kb_Mo_269 ⟨im_Mo_readsAll, se_Mo_readsAll⟩ rfl rfl rfl (Nat.le_of_ble_eq_true rfl) (by decide) (Or.inl (fun r w1 h => by obtain ⟨nx, nu, wr, ln, rd, e, -⟩ := h; rw [e]; first | exact mo_Wn.trans mo_Wn.symm | rfl)) (fun r1 w1 hm1 => ?_)
      obtain ⟨nx1, nu1, wr1, ln1, rd1, rfl, hnx1, hrd1, hnu1, hln1, hc1⟩ := hm1; rcases hc1 with ⟨rfl, rfl, hX1⟩ | ⟨rfl, hwr1, hX1⟩
      · skip
        refine ev_if_ne_t (tgt := 58) de_Mo_ring_47 (by decide) (by decide) (by decide) ?_
        refine ev_iconst de_Mo_ring_58 ?_
        refine ev_istore_n (l' := [_, _]) de_Mo_ring_59 rfl (Nat.le_of_ble_eq_true rfl) rfl ?_
        refine ev_world (w' := (mo_W tape (0) rules sign (ab_up leng 6 0) clause clauses (rd1) (nx1) (0) (nu1) (6) (0) deep (ln1) opn opened stack top word (rs_said rd1 said 0) xx was undone kept sumOf faced slotAt dayAt row bestRow tMany tMost drawX images imageX isMade)) (by rw [rs_said_0]) ?_
        refine ev_conseq (fun r w2 h => ?_) (l2_Mo_ring (read := rd1) 192 0 (by decide) (by decide) (by decide))
        obtain ⟨rfl, rfl⟩ := h
        exact ⟨nx1, nu1, 0, ln1, rd1, hnx1, hrd1, hnu1, hln1, Or.inl ⟨rfl, rfl, hX1⟩⟩
      · skip
        refine ev_if_ne_f (tgt := 58) de_Mo_ring_47 (by decide) (by decide) (by decide) ?_
        refine ev_bipush de_Mo_ring_50 rfl ?_
        refine ev_aload_n de_Mo_ring_52 rfl rfl ?_
        refine ev_getfield de_Mo_ring_53 rfl fl_Mo_84 rfl ?_
        refine ev_isub de_Mo_ring_56 ?_
        exact ev_ireturn de_Mo_ring_57 rfl ⟨nx1, nu1, wr1, ln1, rd1, hnx1, hrd1, hnu1, hln1, Or.inr ⟨rfl, hwr1, rfl, hX1⟩⟩
    · skip
      refine ev_aload_n de_Mo_ring_14 rfl rfl ?_
      refine ev_getfield de_Mo_ring_15 rfl fl_Mo_26 rfl ?_
      refine ev_iload_n de_Mo_ring_18 rfl rfl ?_
      refine ev_iload_n de_Mo_ring_19 rfl rfl ?_
      refine ev_bipush de_Mo_ring_20 rfl ?_
      refine ev_icmp_lt (tgt := 35) de_Mo_ring_22 (by decide) (by omega) (by omega) (fun h22 => ?_) (fun h22 => ?_)
      · skip
        have ev : (0 : Int) = if 10 ≤ j ∧ j < 34 then 1 else 0 := by rw [if_neg (by omega)]
        refine ev_iconst de_Mo_ring_35 ?_
        refine ev_iastore de_Mo_ring_36 rfl (by omega) (by omega) (by omega) ?_
        refine ev_world (w' := mo_W _ _ _ _ _ _ _ _ _ _ _ _ _ _ _ _ _ _ _ _ _ _ _ _ _ _ _ _ _ _ _ _ _ _ _ _ _) rfl ?_
        refine ev_iinc (l' := [_, _]) de_Mo_ring_37 rfl rfl ?_
        refine ev_goto (tgt := 8) de_Mo_ring_40 (by decide) ?_
        refine ev_world (w' := (mo_W tape taped rules sign leng clause clauses (rs_ini read (j + 1)) next wrong number (6) made deep lines opn opened stack top word said xx was undone kept sumOf faced slotAt dayAt row bestRow tMany tMost drawX images imageX isMade)) (by rw [rs_ini_s read g0 ev]) ?_
        exact ih (j + 1) (by omega) (by omega) (by omega)
      · skip
        refine ev_iload_n de_Mo_ring_25 rfl rfl ?_
        refine ev_bipush de_Mo_ring_26 rfl ?_
        refine ev_icmp_ge (tgt := 35) de_Mo_ring_28 (by decide) (by omega) (by omega) (fun h28 => ?_) (fun h28 => ?_)
        · skip
          have ev : (0 : Int) = if 10 ≤ j ∧ j < 34 then 1 else 0 := by rw [if_neg (by omega)]
          refine ev_iconst de_Mo_ring_35 ?_
          refine ev_iastore de_Mo_ring_36 rfl (by omega) (by omega) (by omega) ?_
          refine ev_world (w' := mo_W _ _ _ _ _ _ _ _ _ _ _ _ _ _ _ _ _ _ _ _ _ _ _ _ _ _ _ _ _ _ _ _ _ _ _ _ _) rfl ?_
          refine ev_iinc (l' := [_, _]) de_Mo_ring_37 rfl rfl ?_
          refine ev_goto (tgt := 8) de_Mo_ring_40 (by decide) ?_
          refine ev_world (w' := (mo_W tape taped rules sign leng clause clauses (rs_ini read (j + 1)) next wrong number (6) made deep lines opn opened stack top word said xx was undone kept sumOf faced slotAt dayAt row bestRow tMany tMost drawX images imageX isMade)) (by rw [rs_ini_s read g0 ev]) ?_
          exact ih (j + 1) (by omega) (by omega) (by omega)
        · skip
          have ev : (1 : Int) = if 10 ≤ j ∧ j < 34 then 1 else 0 := by rw [if_pos (by omega)]
          refine ev_iconst de_Mo_ring_31 ?_
          refine ev_goto (tgt := 36) de_Mo_ring_32 (by decide) ?_
          refine ev_iastore de_Mo_ring_36 rfl (by omega) (by omega) (by omega) ?_
          refine ev_world (w' := mo_W _ _ _ _ _ _ _ _ _ _ _ _ _ _ _ _ _ _ _ _ _ _ _ _ _ _ _ _ _ _ _ _ _ _ _ _ _) rfl ?_
          refine ev_iinc (l' := [_, _]) de_Mo_ring_37 rfl rfl ?_
          refine ev_goto (tgt := 8) de_Mo_ring_40 (by decide) ?_
          refine ev_world (w' := (mo_W tape taped rules sign leng clause clauses (rs_ini read (j + 1)) next wrong number (6) made deep lines opn opened stack top word said xx was undone kept sumOf faced slotAt dayAt row bestRow tMany tMost drawX images imageX isMade)) (by rw [rs_ini_s read g0 ev]) ?_
          exact ih (j + 1) (by omega) (by omega) (by omega)
set_option maxRecDepth 10000 in
theorem co_Mo_ring (ht : tp_ok tape taped) (hrd : rd_ok read) (hnu : ab_in number) : ab_Mt g_G g_rs mt_Mo_ring 11 0 0 [ab_R 0] (mo_W tape taped rules sign leng clause clauses read next wrong number text made deep lines opn opened stack top word said xx was undone kept sumOf faced slotAt dayAt row bestRow tMany tMost drawX images imageX isMade) (rr tape rules sign leng clause clauses deep opn opened stack top word said xx was undone kept sumOf faced slotAt dayAt row bestRow tMany tMost drawX images imageX isMade (rs_all tape taped (rs_ini read 46))) := by
  refine ab_Mt.of rfl (Nat.le_of_ble_eq_true rfl) ?_
  show ab_Ev g_G g_rs mt_Mo_ring _ _ _ 0 [some (ab_R 0), none] [] _ _
  refine ev_aload_n de_Mo_ring_0 rfl rfl ?_
  refine ev_bipush de_Mo_ring_1 rfl ?_
  refine ev_putfield de_Mo_ring_3 rfl (fp_Mo_143 _) (Nat.le_of_ble_eq_true rfl) trivial ?_
  refine ev_world (w' := mo_W _ _ _ _ _ _ _ _ _ _ _ _ _ _ _ _ _ _ _ _ _ _ _ _ _ _ _ _ _ _ _ _ _ _ _ _ _) rfl ?_
  refine ev_iconst de_Mo_ring_6 ?_
  refine ev_istore_n (l' := [_, _]) de_Mo_ring_7 rfl (Nat.le_of_ble_eq_true rfl) rfl ?_
  refine ev_world (w' := (mo_W tape taped rules sign leng clause clauses (rs_ini read 0) next wrong number (6) made deep lines opn opened stack top word said xx was undone kept sumOf faced slotAt dayAt row bestRow tMany tMost drawX images imageX isMade)) (by rw [rs_ini_0]) ?_
  exact l1_Mo_ring ht hrd hnu 47 0 (by decide) (by decide) (by decide)
end MO
