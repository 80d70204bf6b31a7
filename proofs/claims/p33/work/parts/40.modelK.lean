section MO
variable {tape : Int → Int} {taped : Int} {rules : Int} {sign : Int → Int} {leng : Int → Int} {clause : Int → Int} {clauses : Int → Int} {read : Int → Int} {next : Int} {wrong : Int} {number : Int} {text : Int} {made : Int} {deep : Int} {lines : Int} {opn : Int → Int} {opened : Int} {stack : Int → Int64} {top : Int} {word : Int → Int64} {said : Int → Int} {xx : Int} {was : Int → Int} {undone : Int} {kept : Int → Int} {sumOf : Int → Int} {faced : Int → Int} {slotAt : Int → Int} {dayAt : Int → Int} {row : Int → Int} {bestRow : Int → Int} {tMany : Int} {tMost : Int} {drawX : Int64} {images : Int → Int} {imageX : Int → Int} {isMade : Int → Int}
/-! a whole RING's text -/
def rs_clause (tape : Int → Int) (taped nx lines : Int) (rd : Int → Int) : Except Int (Int × (Int → Int)) := if tk_isI tape taped (tk_sk tape taped nx) (Int64.ofInt 1919512167) = 1 ∨ tk_isI tape taped (tk_sk tape taped nx) (Int64.ofInt 448546567013) = 1 ∨ tk_isI tape taped (tk_sk tape taped nx) (Int64.ofInt 495689623668) = 1 ∨ tk_isI tape taped (tk_sk tape taped nx) (Int64.ofInt 465625113971) = 1 ∨ tk_isI tape taped (tk_sk tape taped nx) (Int64.ofInt 30521761840260467) = 1 ∨ tk_isI tape taped (tk_sk tape taped nx) (Int64.ofInt 1734440037) = 1 ∨ tk_isI tape taped (tk_sk tape taped nx) (Int64.ofInt 1918989413) = 1 then (if lines = 40 then .error (1 + 8 * tk_sk tape taped nx + 4) else rs_line tape taped (tk_sk tape taped nx) (tk_sk tape taped nx) rd) else .error (1 + 8 * tk_sk tape taped nx + 0)
theorem rs_clause_40 {tape : Int → Int} {taped nx : Int} {rd : Int → Int} {x : Int × (Int → Int)} : rs_clause tape taped nx 40 rd ≠ .ok x := by
  unfold rs_clause
  split
  · rw [if_pos rfl]; exact fun z => nomatch z
  · exact fun z => nomatch z
def rl (tape : Int → Int) (taped : Int) (rules : Int) (sign : Int → Int) (leng : Int → Int) (clause : Int → Int) (clauses : Int → Int) (text : Int) (made : Int) (deep : Int) (opn : Int → Int) (opened : Int) (stack : Int → Int64) (top : Int) (word : Int → Int64) (said : Int → Int) (xx : Int) (was : Int → Int) (undone : Int) (kept : Int → Int) (sumOf : Int → Int) (faced : Int → Int) (slotAt : Int → Int) (dayAt : Int → Int) (row : Int → Int) (bestRow : Int → Int) (tMany : Int) (tMost : Int) (drawX : Int64) (images : Int → Int) (imageX : Int → Int) (isMade : Int → Int) (ln0 : Int) (X : Except Int (Int × (Int → Int))) : Option ab_V → ab_W → Prop := fun r w2 => ∃ (nx nu wr ln : Int) (rd : Int → Int), w2 = (mo_W tape taped rules sign leng clause clauses (rd) (nx) (wr) (nu) text made deep (ln) opn opened stack top word said xx was undone kept sumOf faced slotAt dayAt row bestRow tMany tMost drawX images imageX isMade) ∧ (0 ≤ nx ∧ nx ≤ taped) ∧ rd_ok rd ∧ ab_in nu ∧ (0 ≤ ln ∧ ln ≤ 40) ∧ ((r = some (ab_I 1) ∧ wr = 0 ∧ ln = ln0 + 1 ∧ X = .ok (nx, rd)) ∨ (r = some (ab_I 0) ∧ (1 ≤ wr ∧ wr ≤ 10000) ∧ X = .error wr))
theorem de_Mo_clauseHere_0 : decode prog_14_method_40_code 0 = .ok (.aload_n 0, 1) := by decide +kernel
theorem de_Mo_clauseHere_1 : decode prog_14_method_40_code 1 = .ok (.invokevirtual 90, 3) := by decide +kernel
theorem de_Mo_clauseHere_4 : decode prog_14_method_40_code 4 = .ok (.pop, 1) := by decide +kernel
theorem de_Mo_clauseHere_5 : decode prog_14_method_40_code 5 = .ok (.aload_n 0, 1) := by decide +kernel
theorem de_Mo_clauseHere_6 : decode prog_14_method_40_code 6 = .ok (.getfield 87, 3) := by decide +kernel
theorem de_Mo_clauseHere_9 : decode prog_14_method_40_code 9 = .ok (.istore_n 1, 1) := by decide +kernel
theorem de_Mo_clauseHere_10 : decode prog_14_method_40_code 10 = .ok (.aload_n 0, 1) := by decide +kernel
theorem de_Mo_clauseHere_11 : decode prog_14_method_40_code 11 = .ok (.getfield 143, 3) := by decide +kernel
theorem de_Mo_clauseHere_14 : decode prog_14_method_40_code 14 = .ok (.bipush 6, 2) := by decide +kernel
theorem de_Mo_clauseHere_16 : decode prog_14_method_40_code 16 = .ok (.if_icmp .ne 7, 3) := by decide +kernel
theorem de_Mo_clauseHere_19 : decode prog_14_method_40_code 19 = .ok (.iconst 1, 1) := by decide +kernel
theorem de_Mo_clauseHere_20 : decode prog_14_method_40_code 20 = .ok (.goto 4, 3) := by decide +kernel
theorem de_Mo_clauseHere_23 : decode prog_14_method_40_code 23 = .ok (.iconst 0, 1) := by decide +kernel
theorem de_Mo_clauseHere_24 : decode prog_14_method_40_code 24 = .ok (.istore_n 2, 1) := by decide +kernel
theorem de_Mo_clauseHere_25 : decode prog_14_method_40_code 25 = .ok (.iload_n 2, 1) := by decide +kernel
theorem de_Mo_clauseHere_26 : decode prog_14_method_40_code 26 = .ok (.ifCond .eq 13, 3) := by decide +kernel
theorem de_Mo_clauseHere_29 : decode prog_14_method_40_code 29 = .ok (.aload_n 0, 1) := by decide +kernel
theorem de_Mo_clauseHere_30 : decode prog_14_method_40_code 30 = .ok (.invokevirtual 249, 3) := by decide +kernel
theorem de_Mo_clauseHere_33 : decode prog_14_method_40_code 33 = .ok (.ifCond .ne 23, 3) := by decide +kernel
theorem de_Mo_clauseHere_36 : decode prog_14_method_40_code 36 = .ok (.goto 13, 3) := by decide +kernel
theorem de_Mo_clauseHere_39 : decode prog_14_method_40_code 39 = .ok (.aload_n 0, 1) := by decide +kernel
theorem de_Mo_clauseHere_40 : decode prog_14_method_40_code 40 = .ok (.ldc2_w 252, 3) := by decide +kernel
theorem de_Mo_clauseHere_43 : decode prog_14_method_40_code 43 = .ok (.invokevirtual 98, 3) := by decide +kernel
theorem de_Mo_clauseHere_46 : decode prog_14_method_40_code 46 = .ok (.ifCond .ne 10, 3) := by decide +kernel
theorem de_Mo_clauseHere_49 : decode prog_14_method_40_code 49 = .ok (.aload_n 0, 1) := by decide +kernel
theorem de_Mo_clauseHere_50 : decode prog_14_method_40_code 50 = .ok (.iconst 0, 1) := by decide +kernel
theorem de_Mo_clauseHere_51 : decode prog_14_method_40_code 51 = .ok (.iload_n 1, 1) := by decide +kernel
theorem de_Mo_clauseHere_52 : decode prog_14_method_40_code 52 = .ok (.invokevirtual 108, 3) := by decide +kernel
theorem de_Mo_clauseHere_55 : decode prog_14_method_40_code 55 = .ok (.ireturn, 1) := by decide +kernel
theorem de_Mo_clauseHere_56 : decode prog_14_method_40_code 56 = .ok (.aload_n 0, 1) := by decide +kernel
theorem de_Mo_clauseHere_57 : decode prog_14_method_40_code 57 = .ok (.getfield 254, 3) := by decide +kernel
theorem de_Mo_clauseHere_60 : decode prog_14_method_40_code 60 = .ok (.iload_n 2, 1) := by decide +kernel
theorem de_Mo_clauseHere_61 : decode prog_14_method_40_code 61 = .ok (.ifCond .eq 8, 3) := by decide +kernel
theorem de_Mo_clauseHere_64 : decode prog_14_method_40_code 64 = .ok (.bipush 40, 2) := by decide +kernel
theorem de_Mo_clauseHere_66 : decode prog_14_method_40_code 66 = .ok (.goto 5, 3) := by decide +kernel
theorem de_Mo_clauseHere_69 : decode prog_14_method_40_code 69 = .ok (.bipush 12, 2) := by decide +kernel
theorem de_Mo_clauseHere_71 : decode prog_14_method_40_code 71 = .ok (.if_icmp .ne 10, 3) := by decide +kernel
theorem de_Mo_clauseHere_74 : decode prog_14_method_40_code 74 = .ok (.aload_n 0, 1) := by decide +kernel
theorem de_Mo_clauseHere_75 : decode prog_14_method_40_code 75 = .ok (.iconst 4, 1) := by decide +kernel
theorem de_Mo_clauseHere_76 : decode prog_14_method_40_code 76 = .ok (.iload_n 1, 1) := by decide +kernel
theorem de_Mo_clauseHere_77 : decode prog_14_method_40_code 77 = .ok (.invokevirtual 108, 3) := by decide +kernel
theorem de_Mo_clauseHere_80 : decode prog_14_method_40_code 80 = .ok (.ireturn, 1) := by decide +kernel
theorem de_Mo_clauseHere_81 : decode prog_14_method_40_code 81 = .ok (.aload_n 0, 1) := by decide +kernel
theorem de_Mo_clauseHere_82 : decode prog_14_method_40_code 82 = .ok (.dup, 1) := by decide +kernel
theorem de_Mo_clauseHere_83 : decode prog_14_method_40_code 83 = .ok (.getfield 254, 3) := by decide +kernel
theorem de_Mo_clauseHere_86 : decode prog_14_method_40_code 86 = .ok (.iconst 1, 1) := by decide +kernel
theorem de_Mo_clauseHere_87 : decode prog_14_method_40_code 87 = .ok (.iadd, 1) := by decide +kernel
theorem de_Mo_clauseHere_88 : decode prog_14_method_40_code 88 = .ok (.putfield 254, 3) := by decide +kernel
theorem de_Mo_clauseHere_91 : decode prog_14_method_40_code 91 = .ok (.iload_n 2, 1) := by decide +kernel
theorem de_Mo_clauseHere_92 : decode prog_14_method_40_code 92 = .ok (.ifCond .eq 11, 3) := by decide +kernel
theorem de_Mo_clauseHere_95 : decode prog_14_method_40_code 95 = .ok (.aload_n 0, 1) := by decide +kernel
theorem de_Mo_clauseHere_96 : decode prog_14_method_40_code 96 = .ok (.iload_n 1, 1) := by decide +kernel
theorem de_Mo_clauseHere_97 : decode prog_14_method_40_code 97 = .ok (.invokevirtual 257, 3) := by decide +kernel
theorem de_Mo_clauseHere_100 : decode prog_14_method_40_code 100 = .ok (.goto 7, 3) := by decide +kernel
theorem de_Mo_clauseHere_103 : decode prog_14_method_40_code 103 = .ok (.aload_n 0, 1) := by decide +kernel
theorem de_Mo_clauseHere_104 : decode prog_14_method_40_code 104 = .ok (.invokevirtual 260, 3) := by decide +kernel
theorem de_Mo_clauseHere_107 : decode prog_14_method_40_code 107 = .ok (.ireturn, 1) := by decide +kernel
set_option maxRecDepth 10000 in
theorem cr_Mo_clauseHere (ht : tp_ok tape taped) (hn0 : 0 ≤ next) (hn1 : next ≤ taped) (hrd : rd_ok read) (hw : wrong = 0) (hnu : ab_in number) (hl0 : 0 ≤ lines) (hl1 : lines ≤ 40) : ab_Mt g_G g_rs mt_Mo_clauseHere 5 0 0 [ab_R 0] (mo_W tape taped rules sign leng clause clauses read next wrong number (6) made deep lines opn opened stack top word said xx was undone kept sumOf faced slotAt dayAt row bestRow tMany tMost drawX images imageX isMade) (rl tape taped rules sign (leng) clause clauses 6 (made) deep opn opened stack top word said xx was undone kept sumOf faced slotAt dayAt row bestRow tMany tMost drawX images imageX isMade (lines) (rs_clause tape taped next lines read)) := by
  refine ab_Mt.of rfl (Nat.le_of_ble_eq_true rfl) ?_
  show ab_Ev g_G g_rs mt_Mo_clauseHere _ _ _ 0 [some (ab_R 0), none, none] [] _ _
  subst hw
  have hb := tk_sk_b tape hn1
  have hsk := tk_sk_sk tape taped next hn1
  refine ev_aload_n de_Mo_clauseHere_0 rfl rfl ?_
  refine ev_vv (ci := 11) de_Mo_clauseHere_1 (co_Mo_see ht hn0 hn1) kb_Mo_90 ⟨im_Mo_see, se_Mo_see⟩ rfl rfl rfl (Nat.le_of_ble_eq_true rfl) (by decide) rfl ?_
  refine ev_pop de_Mo_clauseHere_4 rfl ?_
  refine ev_aload_n de_Mo_clauseHere_5 rfl rfl ?_
  refine ev_getfield de_Mo_clauseHere_6 rfl fl_Mo_87 rfl ?_
  refine ev_istore_n (l' := [_, _, _]) de_Mo_clauseHere_9 rfl (Nat.le_of_ble_eq_true rfl) rfl ?_
  refine ev_aload_n de_Mo_clauseHere_10 rfl rfl ?_
  refine ev_getfield de_Mo_clauseHere_11 rfl fl_Mo_143 rfl ?_
  refine ev_bipush de_Mo_clauseHere_14 rfl ?_
  refine ev_icmp_ne (tgt := 23) de_Mo_clauseHere_16 (by decide) (by omega) (by omega) (fun h16 => ?_) (fun h16 => ?_)
  · exact absurd rfl h16
  · skip
    refine ev_iconst de_Mo_clauseHere_19 ?_
    refine ev_goto (tgt := 24) de_Mo_clauseHere_20 (by decide) ?_
    refine ev_istore_n (l' := [_, _, _]) de_Mo_clauseHere_24 rfl (Nat.le_of_ble_eq_true rfl) rfl ?_
    refine ev_iload_n de_Mo_clauseHere_25 rfl rfl ?_
    refine ev_if_eq (tgt := 39) de_Mo_clauseHere_26 (by decide) (by omega) (fun h26 => ?_) (fun h26 => ?_)
    · exact absurd h26 (by decide)
    · skip
      refine ev_aload_n de_Mo_clauseHere_29 rfl rfl ?_
      refine ev_vv (ci := 11) de_Mo_clauseHere_30 (co_Mo_isRingWord ht (by omega) hb.2 hsk) kb_Mo_249 ⟨im_Mo_isRingWord, se_Mo_isRingWord⟩ rfl rfl rfl (Nat.le_of_ble_eq_true rfl) (by decide) rfl ?_
      refine ev_if_ne (tgt := 56) de_Mo_clauseHere_33 (by decide) (by split <;> decide) (fun h33 => ?_) (fun h33 => ?_)
      · skip
        have nR : tk_isI tape taped (tk_sk tape taped next) (Int64.ofInt 1919512167) = 1 ∨ tk_isI tape taped (tk_sk tape taped next) (Int64.ofInt 448546567013) = 1 ∨ tk_isI tape taped (tk_sk tape taped next) (Int64.ofInt 495689623668) = 1 ∨ tk_isI tape taped (tk_sk tape taped next) (Int64.ofInt 465625113971) = 1 ∨ tk_isI tape taped (tk_sk tape taped next) (Int64.ofInt 30521761840260467) = 1 ∨ tk_isI tape taped (tk_sk tape taped next) (Int64.ofInt 1734440037) = 1 ∨ tk_isI tape taped (tk_sk tape taped next) (Int64.ofInt 1918989413) = 1 := Decidable.byContradiction (fun z => by rw [if_neg z] at h33; exact h33 rfl)
        refine ev_aload_n de_Mo_clauseHere_56 rfl rfl ?_
        refine ev_getfield de_Mo_clauseHere_57 rfl fl_Mo_254 rfl ?_
        refine ev_iload_n de_Mo_clauseHere_60 rfl rfl ?_
        refine ev_if_eq (tgt := 69) de_Mo_clauseHere_61 (by decide) (by omega) (fun h61 => ?_) (fun h61 => ?_)
        · exact absurd h61 (by decide)
        · skip
          refine ev_bipush de_Mo_clauseHere_64 rfl ?_
          refine ev_goto (tgt := 71) de_Mo_clauseHere_66 (by decide) ?_
          refine ev_icmp_ne (tgt := 81) de_Mo_clauseHere_71 (by decide) (by omega) (by omega) (fun h71 => ?_) (fun h71 => ?_)
          · skip
            refine ev_aload_n de_Mo_clauseHere_81 rfl rfl ?_
            refine ev_dup de_Mo_clauseHere_82 rfl ?_
            refine ev_getfield de_Mo_clauseHere_83 rfl fl_Mo_254 rfl ?_
            refine ev_iconst de_Mo_clauseHere_86 ?_
            refine ev_iadd de_Mo_clauseHere_87 ?_
            refine ev_putfield de_Mo_clauseHere_88 rfl (fp_Mo_254 _) (Nat.le_of_ble_eq_true rfl) trivial ?_
            refine ev_world (w' := mo_W _ _ _ _ _ _ _ _ _ _ _ _ _ _ _ _ _ _ _ _ _ _ _ _ _ _ _ _ _ _ _ _ _ _ _ _ _) rfl ?_
            refine ev_iload_n de_Mo_clauseHere_91 rfl rfl ?_
            refine ev_if_eq (tgt := 103) de_Mo_clauseHere_92 (by decide) (by omega) (fun h92 => ?_) (fun h92 => ?_)
            · exact absurd h92 (by decide)
            · skip
              refine ev_aload_n de_Mo_clauseHere_95 rfl rfl ?_
              refine ev_iload_n de_Mo_clauseHere_96 rfl rfl ?_
              refine ev_virtual (ci := 11) (mc := 0) (ms := 0) (bc := 0) (bs := 0) de_Mo_clauseHere_97 (co_Mo_ringLineHere ht (by omega) hb.2 hrd rfl hnu (tk_sk tape taped next) (by omega) hb.2 hsk) kb_Mo_257 ⟨im_Mo_ringLineHere, se_Mo_ringLineHere⟩ rfl rfl rfl (Nat.le_of_ble_eq_true rfl) (by decide) (Or.inl (fun r w1 h => by obtain ⟨nx, nu, wr, rd, e, -⟩ := h; rw [e]; first | exact mo_Wn.trans mo_Wn.symm | rfl)) (fun r1 w1 hm1 => ?_)
              obtain ⟨nx1, nu1, wr1, rd1, rfl, hnx1, hrd1, hnu1, hc1⟩ := hm1; rcases hc1 with ⟨rfl, rfl, hX1⟩ | ⟨rfl, hwr1, hX1⟩
              · skip
                refine ev_goto (tgt := 107) de_Mo_clauseHere_100 (by decide) ?_
                exact ev_zreturn de_Mo_clauseHere_107 rfl (by decide) (by first | exact ⟨_, _, _, _, _, rfl, hnx1, hrd1, hnu1, by omega, Or.inl ⟨rfl, rfl, rfl, by unfold rs_clause; rw [if_pos nR, if_neg h71]; exact hX1⟩⟩ | exact ⟨_, _, _, _, _, rfl, hnx1, hrd1, hnu1, by omega, Or.inr ⟨rfl, hwr1, by unfold rs_clause; rw [if_pos nR, if_neg h71]; exact hX1⟩⟩)
              · skip
                refine ev_goto (tgt := 107) de_Mo_clauseHere_100 (by decide) ?_
                exact ev_zreturn de_Mo_clauseHere_107 rfl (by decide) (by first | exact ⟨_, _, _, _, _, rfl, hnx1, hrd1, hnu1, by omega, Or.inl ⟨rfl, rfl, rfl, by unfold rs_clause; rw [if_pos nR, if_neg h71]; exact hX1⟩⟩ | exact ⟨_, _, _, _, _, rfl, hnx1, hrd1, hnu1, by omega, Or.inr ⟨rfl, hwr1, by unfold rs_clause; rw [if_pos nR, if_neg h71]; exact hX1⟩⟩)
          · skip
            have p1 := ht.2.1
            have ef : tk_fl 0 4 (tk_sk tape taped next) = 1 + 8 * (tk_sk tape taped next) + 4 := rfl
            refine ev_aload_n de_Mo_clauseHere_74 rfl rfl ?_
            refine ev_iconst de_Mo_clauseHere_75 ?_
            refine ev_iload_n de_Mo_clauseHere_76 rfl rfl ?_
            refine ev_vv (ci := 11) de_Mo_clauseHere_77 (co_Mo_fails 4 (tk_sk tape taped next) (by decide)) kb_Mo_108 ⟨im_Mo_fails, se_Mo_fails⟩ rfl rfl rfl (Nat.le_of_ble_eq_true rfl) (by decide) rfl ?_
            exact ev_zreturn de_Mo_clauseHere_80 rfl (by decide) ⟨_, _, _, _, _, rfl, ⟨by omega, hb.2⟩, hrd, hnu, ⟨hl0, hl1⟩, Or.inr ⟨rfl, by rw [ef]; omega, by unfold rs_clause; rw [if_pos nR, if_pos h71]; rfl⟩⟩
      · skip
        have nR : ¬ (tk_isI tape taped (tk_sk tape taped next) (Int64.ofInt 1919512167) = 1 ∨ tk_isI tape taped (tk_sk tape taped next) (Int64.ofInt 448546567013) = 1 ∨ tk_isI tape taped (tk_sk tape taped next) (Int64.ofInt 495689623668) = 1 ∨ tk_isI tape taped (tk_sk tape taped next) (Int64.ofInt 465625113971) = 1 ∨ tk_isI tape taped (tk_sk tape taped next) (Int64.ofInt 30521761840260467) = 1 ∨ tk_isI tape taped (tk_sk tape taped next) (Int64.ofInt 1734440037) = 1 ∨ tk_isI tape taped (tk_sk tape taped next) (Int64.ofInt 1918989413) = 1) := fun z => by rw [if_pos z] at h33; exact absurd h33 (by decide)
        have p1 := ht.2.1
        have ef : tk_fl 0 0 (tk_sk tape taped next) = 1 + 8 * (tk_sk tape taped next) + 0 := rfl
        refine ev_goto (tgt := 49) de_Mo_clauseHere_36 (by decide) ?_
        refine ev_aload_n de_Mo_clauseHere_49 rfl rfl ?_
        refine ev_iconst de_Mo_clauseHere_50 ?_
        refine ev_iload_n de_Mo_clauseHere_51 rfl rfl ?_
        refine ev_vv (ci := 11) de_Mo_clauseHere_52 (co_Mo_fails 0 (tk_sk tape taped next) (by decide)) kb_Mo_108 ⟨im_Mo_fails, se_Mo_fails⟩ rfl rfl rfl (Nat.le_of_ble_eq_true rfl) (by decide) rfl ?_
        exact ev_zreturn de_Mo_clauseHere_55 rfl (by decide) ⟨_, _, _, _, _, rfl, ⟨by omega, hb.2⟩, hrd, hnu, ⟨hl0, hl1⟩, Or.inr ⟨rfl, by rw [ef]; omega, by unfold rs_clause; rw [if_neg nR]; rfl⟩⟩
theorem de_Mo_readsAll_0 : decode prog_14_method_41_code 0 = .ok (.aload_n 0, 1) := by decide +kernel
theorem de_Mo_readsAll_1 : decode prog_14_method_41_code 1 = .ok (.getfield 17, 3) := by decide +kernel
theorem de_Mo_readsAll_4 : decode prog_14_method_41_code 4 = .ok (.aload_n 0, 1) := by decide +kernel
theorem de_Mo_readsAll_5 : decode prog_14_method_41_code 5 = .ok (.getfield 143, 3) := by decide +kernel
theorem de_Mo_readsAll_8 : decode prog_14_method_41_code 8 = .ok (.iconst 0, 1) := by decide +kernel
theorem de_Mo_readsAll_9 : decode prog_14_method_41_code 9 = .ok (.iastore, 1) := by decide +kernel
theorem de_Mo_readsAll_10 : decode prog_14_method_41_code 10 = .ok (.aload_n 0, 1) := by decide +kernel
theorem de_Mo_readsAll_11 : decode prog_14_method_41_code 11 = .ok (.iconst 0, 1) := by decide +kernel
theorem de_Mo_readsAll_12 : decode prog_14_method_41_code 12 = .ok (.putfield 254, 3) := by decide +kernel
theorem de_Mo_readsAll_15 : decode prog_14_method_41_code 15 = .ok (.aload_n 0, 1) := by decide +kernel
theorem de_Mo_readsAll_16 : decode prog_14_method_41_code 16 = .ok (.iconst 0, 1) := by decide +kernel
theorem de_Mo_readsAll_17 : decode prog_14_method_41_code 17 = .ok (.putfield 87, 3) := by decide +kernel
theorem de_Mo_readsAll_20 : decode prog_14_method_41_code 20 = .ok (.aload_n 0, 1) := by decide +kernel
theorem de_Mo_readsAll_21 : decode prog_14_method_41_code 21 = .ok (.iconst 0, 1) := by decide +kernel
theorem de_Mo_readsAll_22 : decode prog_14_method_41_code 22 = .ok (.putfield 84, 3) := by decide +kernel
theorem de_Mo_readsAll_25 : decode prog_14_method_41_code 25 = .ok (.aload_n 0, 1) := by decide +kernel
theorem de_Mo_readsAll_26 : decode prog_14_method_41_code 26 = .ok (.iconst 0, 1) := by decide +kernel
theorem de_Mo_readsAll_27 : decode prog_14_method_41_code 27 = .ok (.putfield 146, 3) := by decide +kernel
theorem de_Mo_readsAll_30 : decode prog_14_method_41_code 30 = .ok (.aload_n 0, 1) := by decide +kernel
theorem de_Mo_readsAll_31 : decode prog_14_method_41_code 31 = .ok (.invokevirtual 263, 3) := by decide +kernel
theorem de_Mo_readsAll_34 : decode prog_14_method_41_code 34 = .ok (.istore_n 1, 1) := by decide +kernel
theorem de_Mo_readsAll_35 : decode prog_14_method_41_code 35 = .ok (.iload_n 1, 1) := by decide +kernel
theorem de_Mo_readsAll_36 : decode prog_14_method_41_code 36 = .ok (.ifCond .eq 30, 3) := by decide +kernel
theorem de_Mo_readsAll_39 : decode prog_14_method_41_code 39 = .ok (.aload_n 0, 1) := by decide +kernel
theorem de_Mo_readsAll_40 : decode prog_14_method_41_code 40 = .ok (.invokevirtual 90, 3) := by decide +kernel
theorem de_Mo_readsAll_43 : decode prog_14_method_41_code 43 = .ok (.bipush 59, 2) := by decide +kernel
theorem de_Mo_readsAll_45 : decode prog_14_method_41_code 45 = .ok (.if_icmp .ne 21, 3) := by decide +kernel
theorem de_Mo_readsAll_48 : decode prog_14_method_41_code 48 = .ok (.aload_n 0, 1) := by decide +kernel
theorem de_Mo_readsAll_49 : decode prog_14_method_41_code 49 = .ok (.dup, 1) := by decide +kernel
theorem de_Mo_readsAll_50 : decode prog_14_method_41_code 50 = .ok (.getfield 87, 3) := by decide +kernel
theorem de_Mo_readsAll_53 : decode prog_14_method_41_code 53 = .ok (.iconst 1, 1) := by decide +kernel
theorem de_Mo_readsAll_54 : decode prog_14_method_41_code 54 = .ok (.iadd, 1) := by decide +kernel
theorem de_Mo_readsAll_55 : decode prog_14_method_41_code 55 = .ok (.putfield 87, 3) := by decide +kernel
theorem de_Mo_readsAll_58 : decode prog_14_method_41_code 58 = .ok (.aload_n 0, 1) := by decide +kernel
theorem de_Mo_readsAll_59 : decode prog_14_method_41_code 59 = .ok (.invokevirtual 263, 3) := by decide +kernel
theorem de_Mo_readsAll_62 : decode prog_14_method_41_code 62 = .ok (.istore_n 1, 1) := by decide +kernel
theorem de_Mo_readsAll_63 : decode prog_14_method_41_code 63 = .ok (.goto (-28), 3) := by decide +kernel
theorem de_Mo_readsAll_66 : decode prog_14_method_41_code 66 = .ok (.iload_n 1, 1) := by decide +kernel
theorem de_Mo_readsAll_67 : decode prog_14_method_41_code 67 = .ok (.ifCond .eq 21, 3) := by decide +kernel
theorem de_Mo_readsAll_70 : decode prog_14_method_41_code 70 = .ok (.aload_n 0, 1) := by decide +kernel
theorem de_Mo_readsAll_71 : decode prog_14_method_41_code 71 = .ok (.invokevirtual 90, 3) := by decide +kernel
theorem de_Mo_readsAll_74 : decode prog_14_method_41_code 74 = .ok (.iconst (-1), 1) := by decide +kernel
theorem de_Mo_readsAll_75 : decode prog_14_method_41_code 75 = .ok (.if_icmp .eq 13, 3) := by decide +kernel
theorem de_Mo_readsAll_78 : decode prog_14_method_41_code 78 = .ok (.aload_n 0, 1) := by decide +kernel
theorem de_Mo_readsAll_79 : decode prog_14_method_41_code 79 = .ok (.iconst 0, 1) := by decide +kernel
theorem de_Mo_readsAll_80 : decode prog_14_method_41_code 80 = .ok (.aload_n 0, 1) := by decide +kernel
theorem de_Mo_readsAll_81 : decode prog_14_method_41_code 81 = .ok (.getfield 87, 3) := by decide +kernel
theorem de_Mo_readsAll_84 : decode prog_14_method_41_code 84 = .ok (.invokevirtual 108, 3) := by decide +kernel
theorem de_Mo_readsAll_87 : decode prog_14_method_41_code 87 = .ok (.pop, 1) := by decide +kernel
theorem de_Mo_readsAll_88 : decode prog_14_method_41_code 88 = .ok (.aload_n 0, 1) := by decide +kernel
theorem de_Mo_readsAll_89 : decode prog_14_method_41_code 89 = .ok (.iconst 0, 1) := by decide +kernel
theorem de_Mo_readsAll_90 : decode prog_14_method_41_code 90 = .ok (.putfield 76, 3) := by decide +kernel
theorem de_Mo_readsAll_93 : decode prog_14_method_41_code 93 = .ok (.aload_n 0, 1) := by decide +kernel
theorem de_Mo_readsAll_94 : decode prog_14_method_41_code 94 = .ok (.getfield 84, 3) := by decide +kernel
theorem de_Mo_readsAll_97 : decode prog_14_method_41_code 97 = .ok (.ifCond .ne 7, 3) := by decide +kernel
theorem de_Mo_readsAll_100 : decode prog_14_method_41_code 100 = .ok (.iconst 1, 1) := by decide +kernel
theorem de_Mo_readsAll_101 : decode prog_14_method_41_code 101 = .ok (.goto 4, 3) := by decide +kernel
theorem de_Mo_readsAll_104 : decode prog_14_method_41_code 104 = .ok (.iconst 0, 1) := by decide +kernel
theorem de_Mo_readsAll_105 : decode prog_14_method_41_code 105 = .ok (.ireturn, 1) := by decide +kernel
set_option maxRecDepth 10000 in
theorem lb_Mo_readsAll (hwr : 1 ≤ wrong ∧ wrong ≤ 10000) : ab_Ev g_G g_rs mt_Mo_readsAll 10 0 0 35 [some (ab_R 0), some (ab_I 0)] [] (mo_W tape taped rules sign leng clause clauses read next wrong number text made deep lines opn opened stack top word said xx was undone kept sumOf faced slotAt dayAt row bestRow tMany tMost drawX images imageX isMade) (ab_is (some (ab_I (0))) (mo_W tape (0) rules sign leng clause clauses read next wrong number text made deep lines opn opened stack top word said xx was undone kept sumOf faced slotAt dayAt row bestRow tMany tMost drawX images imageX isMade)) := by
  refine ev_iload_n de_Mo_readsAll_35 rfl rfl ?_
  refine ev_if_eq (tgt := 66) de_Mo_readsAll_36 (by decide) (by omega) (fun h36 => ?_) (fun h36 => ?_)
  · skip
    refine ev_iload_n de_Mo_readsAll_66 rfl rfl ?_
    refine ev_if_eq (tgt := 88) de_Mo_readsAll_67 (by decide) (by omega) (fun h67 => ?_) (fun h67 => ?_)
    · skip
      refine ev_aload_n de_Mo_readsAll_88 rfl rfl ?_
      refine ev_iconst de_Mo_readsAll_89 ?_
      refine ev_putfield de_Mo_readsAll_90 rfl (fp_Mo_76 _) (Nat.le_of_ble_eq_true rfl) trivial ?_
      refine ev_world (w' := mo_W _ _ _ _ _ _ _ _ _ _ _ _ _ _ _ _ _ _ _ _ _ _ _ _ _ _ _ _ _ _ _ _ _ _ _ _ _) rfl ?_
      refine ev_aload_n de_Mo_readsAll_93 rfl rfl ?_
      refine ev_getfield de_Mo_readsAll_94 rfl fl_Mo_84 rfl ?_
      refine ev_if_ne (tgt := 104) de_Mo_readsAll_97 (by decide) (by omega) (fun h97 => ?_) (fun h97 => ?_)
      · skip
        refine ev_iconst de_Mo_readsAll_104 ?_
        exact ev_zreturn de_Mo_readsAll_105 rfl (by decide) ⟨rfl, rfl⟩
      · exact absurd h97 (by omega)
    · exact absurd rfl h67
  · exact absurd rfl h36
theorem cs_Mo_see (ht : tp_ok tape taped) (hn0 : 0 ≤ next) (hn1 : next ≤ taped) (hsk : tk_sk tape taped next = next) : ab_Mt g_G g_rs mt_Mo_see 0 0 0 [ab_R 0] (mo_W tape taped rules sign leng clause clauses read next wrong number text made deep lines opn opened stack top word said xx was undone kept sumOf faced slotAt dayAt row bestRow tMany tMost drawX images imageX isMade) (ab_is (some (ab_I (tk_ch tape taped next))) (mo_W tape taped rules sign leng clause clauses read next wrong number text made deep lines opn opened stack top word said xx was undone kept sumOf faced slotAt dayAt row bestRow tMany tMost drawX images imageX isMade)) := by have q := co_Mo_see (rules := rules) (sign := sign) (leng := leng) (clause := clause) (clauses := clauses) (read := read) (wrong := wrong) (number := number) (text := text) (made := made) (deep := deep) (lines := lines) (opn := opn) (opened := opened) (stack := stack) (top := top) (word := word) (said := said) (xx := xx) (was := was) (undone := undone) (kept := kept) (sumOf := sumOf) (faced := faced) (slotAt := slotAt) (dayAt := dayAt) (row := row) (bestRow := bestRow) (tMany := tMany) (tMost := tMost) (drawX := drawX) (images := images) (imageX := imageX) (isMade := isMade) ht hn0 hn1; rw [hsk] at q; exact q
theorem tk_ch_b (tape : Int → Int) (taped i : Int) : -1 ≤ tk_ch tape taped i ∧ tk_ch tape taped i ≤ 255 := by unfold tk_ch; split <;> omega
set_option maxRecDepth 10000 in
theorem lg_Mo_readsAll (ht : tp_ok tape taped) (hn0 : 0 ≤ next) (hn1 : next ≤ taped) (hsk : tk_sk tape taped next = next) : ab_Ev g_G g_rs mt_Mo_readsAll 10 0 0 66 [some (ab_R 0), some (ab_I 1)] [] (mo_W tape taped rules sign leng clause clauses read next (0) number text made deep lines opn opened stack top word said xx was undone kept sumOf faced slotAt dayAt row bestRow tMany tMost drawX images imageX isMade) (ab_is (some (ab_I (if tk_ch tape taped next = -1 then 1 else 0))) (mo_W tape (0) rules sign leng clause clauses read next (if tk_ch tape taped next = -1 then 0 else 1 + 8 * next + 0) number text made deep lines opn opened stack top word said xx was undone kept sumOf faced slotAt dayAt row bestRow tMany tMost drawX images imageX isMade)) := by
  have hcb := tk_ch_b tape taped next
  have p1 := ht.2.1
  refine ev_iload_n de_Mo_readsAll_66 rfl rfl ?_
  refine ev_if_eq (tgt := 88) de_Mo_readsAll_67 (by decide) (by omega) (fun h67 => ?_) (fun h67 => ?_)
  · exact absurd h67 (by decide)
  · skip
    refine ev_aload_n de_Mo_readsAll_70 rfl rfl ?_
    refine ev_vv (ci := 11) de_Mo_readsAll_71 (cs_Mo_see ht hn0 hn1 hsk) kb_Mo_90 ⟨im_Mo_see, se_Mo_see⟩ rfl rfl rfl (Nat.le_of_ble_eq_true rfl) (by decide) rfl ?_
    refine ev_iconst de_Mo_readsAll_74 ?_
    refine ev_icmp_eq (tgt := 88) de_Mo_readsAll_75 (by decide) (by omega) (by omega) (fun h75 => ?_) (fun h75 => ?_)
    · skip
      rw [if_pos h75, if_pos h75]
      refine ev_aload_n de_Mo_readsAll_88 rfl rfl ?_
      refine ev_iconst de_Mo_readsAll_89 ?_
      refine ev_putfield de_Mo_readsAll_90 rfl (fp_Mo_76 _) (Nat.le_of_ble_eq_true rfl) trivial ?_
      refine ev_world (w' := mo_W _ _ _ _ _ _ _ _ _ _ _ _ _ _ _ _ _ _ _ _ _ _ _ _ _ _ _ _ _ _ _ _ _ _ _ _ _) rfl ?_
      refine ev_aload_n de_Mo_readsAll_93 rfl rfl ?_
      refine ev_getfield de_Mo_readsAll_94 rfl fl_Mo_84 rfl ?_
      refine ev_if_ne (tgt := 104) de_Mo_readsAll_97 (by decide) (by omega) (fun h97 => ?_) (fun h97 => ?_)
      · skip
        refine ev_iconst de_Mo_readsAll_104 ?_
        exact ev_zreturn de_Mo_readsAll_105 rfl (by decide) ⟨by first | rfl | (exfalso; omega), rfl⟩
      · skip
        refine ev_iconst de_Mo_readsAll_100 ?_
        refine ev_goto (tgt := 105) de_Mo_readsAll_101 (by decide) ?_
        exact ev_zreturn de_Mo_readsAll_105 rfl (by decide) ⟨by first | rfl | (exfalso; omega), rfl⟩
    · skip
      rw [if_neg h75, if_neg h75]
      refine ev_aload_n de_Mo_readsAll_78 rfl rfl ?_
      refine ev_iconst de_Mo_readsAll_79 ?_
      refine ev_aload_n de_Mo_readsAll_80 rfl rfl ?_
      refine ev_getfield de_Mo_readsAll_81 rfl fl_Mo_87 rfl ?_
      refine ev_vv (ci := 11) de_Mo_readsAll_84 (co_Mo_fails 0 next (by decide)) kb_Mo_108 ⟨im_Mo_fails, se_Mo_fails⟩ rfl rfl rfl (Nat.le_of_ble_eq_true rfl) (by decide) rfl ?_
      refine ev_pop de_Mo_readsAll_87 rfl ?_
      refine ev_world (w' := (mo_W tape taped rules sign leng clause clauses read next (1 + 8 * next + 0) number text made deep lines opn opened stack top word said xx was undone kept sumOf faced slotAt dayAt row bestRow tMany tMost drawX images imageX isMade)) rfl ?_
      refine ev_aload_n de_Mo_readsAll_88 rfl rfl ?_
      refine ev_iconst de_Mo_readsAll_89 ?_
      refine ev_putfield de_Mo_readsAll_90 rfl (fp_Mo_76 _) (Nat.le_of_ble_eq_true rfl) trivial ?_
      refine ev_world (w' := mo_W _ _ _ _ _ _ _ _ _ _ _ _ _ _ _ _ _ _ _ _ _ _ _ _ _ _ _ _ _ _ _ _ _ _ _ _ _) rfl ?_
      refine ev_aload_n de_Mo_readsAll_93 rfl rfl ?_
      refine ev_getfield de_Mo_readsAll_94 rfl fl_Mo_84 rfl ?_
      refine ev_if_ne (tgt := 104) de_Mo_readsAll_97 (by decide) (by omega) (fun h97 => ?_) (fun h97 => ?_)
      · skip
        refine ev_iconst de_Mo_readsAll_104 ?_
        exact ev_zreturn de_Mo_readsAll_105 rfl (by decide) ⟨by first | rfl | (exfalso; omega), rfl⟩
      · skip
        refine ev_iconst de_Mo_readsAll_100 ?_
        refine ev_goto (tgt := 105) de_Mo_readsAll_101 (by decide) ?_
        exact ev_zreturn de_Mo_readsAll_105 rfl (by decide) ⟨by first | rfl | (exfalso; omega), rfl⟩
def rs_go (tape : Int → Int) (taped : Int) : Nat → Int → Int → (Int → Int) → Except Int (Int → Int)
  | 0, _, _, _ => .error 0
  | n + 1, nx, lines, rd => if tk_ch tape taped (tk_sk tape taped nx) = 59 then (match rs_clause tape taped (tk_sk tape taped nx + 1) lines rd with
      | .error e => .error e
      | .ok (n2, rd2) => rs_go tape taped n n2 (lines + 1) rd2)
    else if tk_ch tape taped (tk_sk tape taped nx) = -1 then .ok rd else .error (1 + 8 * tk_sk tape taped nx + 0)
def rs_all (tape : Int → Int) (taped : Int) (rd : Int → Int) : Except Int (Int → Int) := match rs_clause tape taped 0 0 rd with
  | .error e => .error e
  | .ok (n2, rd2) => rs_go tape taped 40 n2 1 rd2
def ra (tape : Int → Int) (rules : Int) (sign : Int → Int) (leng : Int → Int) (clause : Int → Int) (clauses : Int → Int) (text : Int) (made : Int) (deep : Int) (opn : Int → Int) (opened : Int) (stack : Int → Int64) (top : Int) (word : Int → Int64) (said : Int → Int) (xx : Int) (was : Int → Int) (undone : Int) (kept : Int → Int) (sumOf : Int → Int) (faced : Int → Int) (slotAt : Int → Int) (dayAt : Int → Int) (row : Int → Int) (bestRow : Int → Int) (tMany : Int) (tMost : Int) (drawX : Int64) (images : Int → Int) (imageX : Int → Int) (isMade : Int → Int) (X : Except Int (Int → Int)) : Option ab_V → ab_W → Prop := fun r w2 => ∃ (nx nu wr ln : Int) (rd : Int → Int), w2 = (mo_W tape (0) rules sign leng clause clauses (rd) (nx) (wr) (nu) text made deep (ln) opn opened stack top word said xx was undone kept sumOf faced slotAt dayAt row bestRow tMany tMost drawX images imageX isMade) ∧ (0 ≤ nx ∧ nx ≤ 400) ∧ rd_ok rd ∧ ab_in nu ∧ (0 ≤ ln ∧ ln ≤ 40) ∧ ((r = some (ab_I 1) ∧ wr = 0 ∧ X = .ok rd) ∨ (r = some (ab_I 0) ∧ (1 ≤ wr ∧ wr ≤ 10000) ∧ X = .error wr))
set_option maxRecDepth 10000 in
theorem lr_Mo_readsAll (ht : tp_ok tape taped) : ∀ (n : Nat) (next lines number : Int) (read : Int → Int), 0 ≤ next → next ≤ taped → 0 ≤ lines → lines ≤ 40 → lines + (n : Int) = 41 → rd_ok read → ab_in number → ab_Ev g_G g_rs mt_Mo_readsAll 10 0 0 35 [some (ab_R 0), some (ab_I 1)] [] (mo_W tape taped rules sign leng clause clauses read next (0) number (6) made deep lines opn opened stack top word said xx was undone kept sumOf faced slotAt dayAt row bestRow tMany tMost drawX images imageX isMade) (ra tape rules sign (leng) clause clauses 6 (made) deep opn opened stack top word said xx was undone kept sumOf faced slotAt dayAt row bestRow tMany tMost drawX images imageX isMade (rs_go tape taped n next lines read)) := by
  intro n
  induction n with
  | zero =>
    intro next lines number read
    intro hn0 hn1 hl0 hl1 g hrd hnu; omega
  | succ n ih =>
    intro next lines number read
    intro hn0 hn1 hl0 hl1 g hrd hnu
    have p1 := ht.2.1
    have hb := tk_sk_b tape hn1
    have hsk := tk_sk_sk tape taped next hn1
    have hcb := tk_ch_b tape taped (tk_sk tape taped next)
    refine ev_iload_n de_Mo_readsAll_35 rfl rfl ?_
    refine ev_if_eq (tgt := 66) de_Mo_readsAll_36 (by decide) (by omega) (fun h36 => ?_) (fun h36 => ?_)
    · exact absurd h36 (by decide)
    · skip
      refine ev_aload_n de_Mo_readsAll_39 rfl rfl ?_
      refine ev_vv (ci := 11) de_Mo_readsAll_40 (co_Mo_see ht hn0 hn1) kb_Mo_90 ⟨im_Mo_see, se_Mo_see⟩ rfl rfl rfl (Nat.le_of_ble_eq_true rfl) (by decide) rfl ?_
      refine ev_bipush de_Mo_readsAll_43 rfl ?_
      refine ev_icmp_ne (tgt := 66) de_Mo_readsAll_45 (by decide) (by omega) (by omega) (fun h45 => ?_) (fun h45 => ?_)
      · skip
        refine ev_conseq (fun r w2 h => ?_) (lg_Mo_readsAll ht (by omega) hb.2 hsk)
        obtain ⟨rfl, rfl⟩ := h
        by_cases c : tk_ch tape taped (tk_sk tape taped next) = -1
        · have e : rs_go tape taped (n + 1) next lines read = .ok read := by show (if _ then _ else _) = _; rw [if_neg h45, if_pos c]
          rw [if_pos c, if_pos c, e]
          exact ⟨_, _, _, _, _, rfl, by omega, hrd, hnu, ⟨hl0, hl1⟩, Or.inl ⟨rfl, rfl, rfl⟩⟩
        · have e : rs_go tape taped (n + 1) next lines read = .error (1 + 8 * (tk_sk tape taped next) + 0) := by show (if _ then _ else _) = _; rw [if_neg h45, if_neg c]
          rw [if_neg c, if_neg c, e]
          exact ⟨_, _, _, _, _, rfl, by omega, hrd, hnu, ⟨hl0, hl1⟩, Or.inr ⟨rfl, by omega, rfl⟩⟩
      · skip
        have hlt : tk_sk tape taped next < taped := Decidable.byContradiction (fun z => by unfold tk_ch at h45; rw [if_neg z] at h45; omega)
        refine ev_aload_n de_Mo_readsAll_48 rfl rfl ?_
        refine ev_dup de_Mo_readsAll_49 rfl ?_
        refine ev_getfield de_Mo_readsAll_50 rfl fl_Mo_87 rfl ?_
        refine ev_iconst de_Mo_readsAll_53 ?_
        refine ev_iadd de_Mo_readsAll_54 ?_
        refine ev_putfield de_Mo_readsAll_55 rfl (fp_Mo_87 _) (Nat.le_of_ble_eq_true rfl) trivial ?_
        refine ev_world (w' := mo_W _ _ _ _ _ _ _ _ _ _ _ _ _ _ _ _ _ _ _ _ _ _ _ _ _ _ _ _ _ _ _ _ _ _ _ _ _) rfl ?_
        refine ev_aload_n de_Mo_readsAll_58 rfl rfl ?_
        refine ev_virtual (ci := 11) (mc := 0) (ms := 0) (bc := 0) (bs := 0) de_Mo_readsAll_59 (cr_Mo_clauseHere ht (by omega) (by omega) hrd rfl hnu hl0 hl1) kb_Mo_263 ⟨im_Mo_clauseHere, se_Mo_clauseHere⟩ rfl rfl rfl (Nat.le_of_ble_eq_true rfl) (by decide) (Or.inl (fun r w1 h => by obtain ⟨nx, nu, wr, ln, rd, e, -⟩ := h; rw [e]; first | exact mo_Wn.trans mo_Wn.symm | rfl)) (fun r1 w1 hm1 => ?_)
        obtain ⟨nx1, nu1, wr1, ln1, rd1, rfl, hnx1, hrd1, hnu1, hln1, hc1⟩ := hm1; rcases hc1 with ⟨rfl, rfl, rfl, hX1⟩ | ⟨rfl, hwr1, hX1⟩
        · skip
          refine ev_istore_n (l' := [_, _]) de_Mo_readsAll_62 rfl (Nat.le_of_ble_eq_true rfl) rfl ?_
          refine ev_goto (tgt := 35) de_Mo_readsAll_63 (by decide) ?_
          have hl40 : lines ≠ 40 := fun z => by rw [z] at hX1; exact rs_clause_40 hX1
          have e : rs_go tape taped (n + 1) next lines read = rs_go tape taped n nx1 (lines + 1) rd1 := by show (if _ then _ else _) = _; rw [if_pos h45, hX1]
          rw [e]
          exact ih nx1 (lines + 1) nu1 rd1 hnx1.1 hnx1.2 (by omega) (by omega) (by omega) hrd1 hnu1
        · skip
          refine ev_istore_n (l' := [_, _]) de_Mo_readsAll_62 rfl (Nat.le_of_ble_eq_true rfl) rfl ?_
          refine ev_goto (tgt := 35) de_Mo_readsAll_63 (by decide) ?_
          refine ev_conseq (fun r w2 h => ?_) (lb_Mo_readsAll hwr1)
          obtain ⟨rfl, rfl⟩ := h
          exact ⟨_, _, _, _, _, rfl, by omega, hrd1, hnu1, hln1, Or.inr ⟨rfl, hwr1, by show (if _ then _ else _) = _; rw [if_pos h45, hX1]⟩⟩
set_option maxRecDepth 10000 in
theorem cr_Mo_readsAll (ht : tp_ok tape taped) (hrd : rd_ok read) (hnu : ab_in number) : ab_Mt g_G g_rs mt_Mo_readsAll 10 0 0 [ab_R 0] (mo_W tape taped rules sign leng clause clauses read next wrong number (6) made deep lines opn opened stack top word said xx was undone kept sumOf faced slotAt dayAt row bestRow tMany tMost drawX images imageX isMade) (ra tape rules sign (ab_up leng 6 0) clause clauses 6 (0) deep opn opened stack top word said xx was undone kept sumOf faced slotAt dayAt row bestRow tMany tMost drawX images imageX isMade (rs_all tape taped read)) := by
  refine ab_Mt.of rfl (Nat.le_of_ble_eq_true rfl) ?_
  show ab_Ev g_G g_rs mt_Mo_readsAll _ _ _ 0 [some (ab_R 0), none] [] _ _
  have p0 := ht.1
  have p1 := ht.2.1
  refine ev_aload_n de_Mo_readsAll_0 rfl rfl ?_
  refine ev_getfield de_Mo_readsAll_1 rfl fl_Mo_17 rfl ?_
  refine ev_aload_n de_Mo_readsAll_4 rfl rfl ?_
  refine ev_getfield de_Mo_readsAll_5 rfl fl_Mo_143 rfl ?_
  refine ev_iconst de_Mo_readsAll_8 ?_
  refine ev_iastore de_Mo_readsAll_9 rfl (by omega) (by omega) (by omega) ?_
  refine ev_world (w' := mo_W _ _ _ _ _ _ _ _ _ _ _ _ _ _ _ _ _ _ _ _ _ _ _ _ _ _ _ _ _ _ _ _ _ _ _ _ _) rfl ?_
  refine ev_aload_n de_Mo_readsAll_10 rfl rfl ?_
  refine ev_iconst de_Mo_readsAll_11 ?_
  refine ev_putfield de_Mo_readsAll_12 rfl (fp_Mo_254 _) (Nat.le_of_ble_eq_true rfl) trivial ?_
  refine ev_world (w' := mo_W _ _ _ _ _ _ _ _ _ _ _ _ _ _ _ _ _ _ _ _ _ _ _ _ _ _ _ _ _ _ _ _ _ _ _ _ _) rfl ?_
  refine ev_aload_n de_Mo_readsAll_15 rfl rfl ?_
  refine ev_iconst de_Mo_readsAll_16 ?_
  refine ev_putfield de_Mo_readsAll_17 rfl (fp_Mo_87 _) (Nat.le_of_ble_eq_true rfl) trivial ?_
  refine ev_world (w' := mo_W _ _ _ _ _ _ _ _ _ _ _ _ _ _ _ _ _ _ _ _ _ _ _ _ _ _ _ _ _ _ _ _ _ _ _ _ _) rfl ?_
  refine ev_aload_n de_Mo_readsAll_20 rfl rfl ?_
  refine ev_iconst de_Mo_readsAll_21 ?_
  refine ev_putfield de_Mo_readsAll_22 rfl (fp_Mo_84 _) (Nat.le_of_ble_eq_true rfl) trivial ?_
  refine ev_world (w' := mo_W _ _ _ _ _ _ _ _ _ _ _ _ _ _ _ _ _ _ _ _ _ _ _ _ _ _ _ _ _ _ _ _ _ _ _ _ _) rfl ?_
  refine ev_aload_n de_Mo_readsAll_25 rfl rfl ?_
  refine ev_iconst de_Mo_readsAll_26 ?_
  refine ev_putfield de_Mo_readsAll_27 rfl (fp_Mo_146 _) (Nat.le_of_ble_eq_true rfl) trivial ?_
  refine ev_world (w' := mo_W _ _ _ _ _ _ _ _ _ _ _ _ _ _ _ _ _ _ _ _ _ _ _ _ _ _ _ _ _ _ _ _ _ _ _ _ _) rfl ?_
  refine ev_aload_n de_Mo_readsAll_30 rfl rfl ?_
  refine ev_virtual (ci := 11) (mc := 0) (ms := 0) (bc := 0) (bs := 0) de_Mo_readsAll_31 (cr_Mo_clauseHere ht (by decide) p0 hrd rfl hnu (by decide) (by decide)) kb_Mo_263 ⟨im_Mo_clauseHere, se_Mo_clauseHere⟩ rfl rfl rfl (Nat.le_of_ble_eq_true rfl) (by decide) (Or.inl (fun r w1 h => by obtain ⟨nx, nu, wr, ln, rd, e, -⟩ := h; rw [e]; first | exact mo_Wn.trans mo_Wn.symm | rfl)) (fun r1 w1 hm1 => ?_)
  obtain ⟨nx1, nu1, wr1, ln1, rd1, rfl, hnx1, hrd1, hnu1, hln1, hc1⟩ := hm1; rcases hc1 with ⟨rfl, rfl, rfl, hX1⟩ | ⟨rfl, hwr1, hX1⟩
  · skip
    have e : rs_all tape taped read = rs_go tape taped 40 nx1 1 rd1 := by unfold rs_all; rw [hX1]
    rw [e]
    refine ev_istore_n (l' := [_, _]) de_Mo_readsAll_34 rfl (Nat.le_of_ble_eq_true rfl) rfl ?_
    exact lr_Mo_readsAll ht 40 nx1 1 nu1 rd1 hnx1.1 hnx1.2 (by decide) (by decide) (by decide) hrd1 hnu1
  · skip
    refine ev_istore_n (l' := [_, _]) de_Mo_readsAll_34 rfl (Nat.le_of_ble_eq_true rfl) rfl ?_
    refine ev_conseq (fun r w2 h => ?_) (lb_Mo_readsAll hwr1)
    obtain ⟨rfl, rfl⟩ := h
    exact ⟨_, _, _, _, _, rfl, by omega, hrd1, hnu1, hln1, Or.inr ⟨rfl, hwr1, by unfold rs_all; rw [hX1]⟩⟩
end MO
