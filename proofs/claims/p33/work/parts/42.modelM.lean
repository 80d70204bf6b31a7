section MO
variable {tape : Int → Int} {taped : Int} {rules : Int} {sign : Int → Int} {leng : Int → Int} {clause : Int → Int} {clauses : Int → Int} {read : Int → Int} {next : Int} {wrong : Int} {number : Int} {text : Int} {made : Int} {deep : Int} {lines : Int} {opn : Int → Int} {opened : Int} {stack : Int → Int64} {top : Int} {word : Int → Int64} {said : Int → Int} {xx : Int} {was : Int → Int} {undone : Int} {kept : Int → Int} {sumOf : Int → Int} {faced : Int → Int} {slotAt : Int → Int} {dayAt : Int → Int} {row : Int → Int} {bestRow : Int → Int} {tMany : Int} {tMost : Int} {drawX : Int64} {images : Int → Int} {imageX : Int → Int} {isMade : Int → Int}
theorem de_Mo_puts_0 : decode prog_14_method_17_code 0 = .ok (.aload_n 0, 1) := by decide +kernel
theorem de_Mo_puts_1 : decode prog_14_method_17_code 1 = .ok (.getfield 13, 3) := by decide +kernel
theorem de_Mo_puts_4 : decode prog_14_method_17_code 4 = .ok (.sipush 400, 3) := by decide +kernel
theorem de_Mo_puts_7 : decode prog_14_method_17_code 7 = .ok (.aload_n 0, 1) := by decide +kernel
theorem de_Mo_puts_8 : decode prog_14_method_17_code 8 = .ok (.getfield 143, 3) := by decide +kernel
theorem de_Mo_puts_11 : decode prog_14_method_17_code 11 = .ok (.imul, 1) := by decide +kernel
theorem de_Mo_puts_12 : decode prog_14_method_17_code 12 = .ok (.aload_n 0, 1) := by decide +kernel
theorem de_Mo_puts_13 : decode prog_14_method_17_code 13 = .ok (.getfield 17, 3) := by decide +kernel
theorem de_Mo_puts_16 : decode prog_14_method_17_code 16 = .ok (.aload_n 0, 1) := by decide +kernel
theorem de_Mo_puts_17 : decode prog_14_method_17_code 17 = .ok (.getfield 143, 3) := by decide +kernel
theorem de_Mo_puts_20 : decode prog_14_method_17_code 20 = .ok (.iaload, 1) := by decide +kernel
theorem de_Mo_puts_21 : decode prog_14_method_17_code 21 = .ok (.iadd, 1) := by decide +kernel
theorem de_Mo_puts_22 : decode prog_14_method_17_code 22 = .ok (.iload_n 1, 1) := by decide +kernel
theorem de_Mo_puts_23 : decode prog_14_method_17_code 23 = .ok (.bipush 16, 2) := by decide +kernel
theorem de_Mo_puts_25 : decode prog_14_method_17_code 25 = .ok (.iload_n 2, 1) := by decide +kernel
theorem de_Mo_puts_26 : decode prog_14_method_17_code 26 = .ok (.imul, 1) := by decide +kernel
theorem de_Mo_puts_27 : decode prog_14_method_17_code 27 = .ok (.iadd, 1) := by decide +kernel
theorem de_Mo_puts_28 : decode prog_14_method_17_code 28 = .ok (.iastore, 1) := by decide +kernel
theorem de_Mo_puts_29 : decode prog_14_method_17_code 29 = .ok (.aload_n 0, 1) := by decide +kernel
theorem de_Mo_puts_30 : decode prog_14_method_17_code 30 = .ok (.getfield 17, 3) := by decide +kernel
theorem de_Mo_puts_33 : decode prog_14_method_17_code 33 = .ok (.aload_n 0, 1) := by decide +kernel
theorem de_Mo_puts_34 : decode prog_14_method_17_code 34 = .ok (.getfield 143, 3) := by decide +kernel
theorem de_Mo_puts_37 : decode prog_14_method_17_code 37 = .ok (.dup2, 1) := by decide +kernel
theorem de_Mo_puts_38 : decode prog_14_method_17_code 38 = .ok (.iaload, 1) := by decide +kernel
theorem de_Mo_puts_39 : decode prog_14_method_17_code 39 = .ok (.iconst 1, 1) := by decide +kernel
theorem de_Mo_puts_40 : decode prog_14_method_17_code 40 = .ok (.iadd, 1) := by decide +kernel
theorem de_Mo_puts_41 : decode prog_14_method_17_code 41 = .ok (.iastore, 1) := by decide +kernel
theorem de_Mo_puts_42 : decode prog_14_method_17_code 42 = .ok (.return_, 1) := by decide +kernel
set_option maxRecDepth 10000 in
theorem co_Mo_puts (tx0 : 0 ≤ text) (tx1 : text ≤ 5) (hl0 : 0 ≤ leng text) (hl1 : leng text < 400) (s v : Int) : ab_Mt g_G g_rs mt_Mo_puts 0 0 0 [ab_R 0, ab_I s, ab_I v] (mo_W tape taped rules sign leng clause clauses read next wrong number text made deep lines opn opened stack top word said xx was undone kept sumOf faced slotAt dayAt row bestRow tMany tMost drawX images imageX isMade) (ab_is none (mo_W tape taped rules (ab_up sign (400 * text + leng text) (s + 16 * v)) (ab_up leng text (leng text + 1)) clause clauses read next wrong number text made deep lines opn opened stack top word said xx was undone kept sumOf faced slotAt dayAt row bestRow tMany tMost drawX images imageX isMade)) := by
  refine ab_Mt.of rfl (Nat.le_of_ble_eq_true rfl) ?_
  show ab_Ev g_G g_rs mt_Mo_puts _ _ _ 0 [some (ab_R 0), some (ab_I s), some (ab_I v)] [] _ _
  refine ev_aload_n de_Mo_puts_0 rfl rfl ?_
  refine ev_getfield de_Mo_puts_1 rfl fl_Mo_13 rfl ?_
  refine ev_sipush de_Mo_puts_4 rfl ?_
  refine ev_aload_n de_Mo_puts_7 rfl rfl ?_
  refine ev_getfield de_Mo_puts_8 rfl fl_Mo_143 rfl ?_
  refine ev_imul de_Mo_puts_11 ?_
  refine ev_aload_n de_Mo_puts_12 rfl rfl ?_
  refine ev_getfield de_Mo_puts_13 rfl fl_Mo_17 rfl ?_
  refine ev_aload_n de_Mo_puts_16 rfl rfl ?_
  refine ev_getfield de_Mo_puts_17 rfl fl_Mo_143 rfl ?_
  refine ev_iaload de_Mo_puts_20 rfl (by omega) (by omega) (by omega) ?_
  refine ev_iadd de_Mo_puts_21 ?_
  refine ev_iload_n de_Mo_puts_22 rfl rfl ?_
  refine ev_bipush de_Mo_puts_23 rfl ?_
  refine ev_iload_n de_Mo_puts_25 rfl rfl ?_
  refine ev_imul de_Mo_puts_26 ?_
  refine ev_iadd de_Mo_puts_27 ?_
  refine ev_iastore de_Mo_puts_28 rfl (by omega) (by omega) (by omega) ?_
  refine ev_world (w' := mo_W _ _ _ _ _ _ _ _ _ _ _ _ _ _ _ _ _ _ _ _ _ _ _ _ _ _ _ _ _ _ _ _ _ _ _ _ _) rfl ?_
  refine ev_aload_n de_Mo_puts_29 rfl rfl ?_
  refine ev_getfield de_Mo_puts_30 rfl fl_Mo_17 rfl ?_
  refine ev_aload_n de_Mo_puts_33 rfl rfl ?_
  refine ev_getfield de_Mo_puts_34 rfl fl_Mo_143 rfl ?_
  refine ev_dup2 de_Mo_puts_37 rfl rfl ?_
  refine ev_iaload de_Mo_puts_38 rfl (by omega) (by omega) (by omega) ?_
  refine ev_iconst de_Mo_puts_39 ?_
  refine ev_iadd de_Mo_puts_40 ?_
  refine ev_iastore de_Mo_puts_41 rfl (by omega) (by omega) (by omega) ?_
  refine ev_world (w' := mo_W _ _ _ _ _ _ _ _ _ _ _ _ _ _ _ _ _ _ _ _ _ _ _ _ _ _ _ _ _ _ _ _ _ _ _ _ _) rfl ?_
  exact ev_return de_Mo_puts_42 rfl ⟨rfl, rfl⟩
def pm (tape : Int → Int) (taped : Int) (rules : Int) (sign : Int → Int) (leng : Int → Int) (clause : Int → Int) (clauses : Int → Int) (read : Int → Int) (next : Int) (number : Int) (text : Int) (made : Int) (deep : Int) (lines : Int) (opn : Int → Int) (opened : Int) (stack : Int → Int64) (top : Int) (word : Int → Int64) (said : Int → Int) (xx : Int) (was : Int → Int) (undone : Int) (kept : Int → Int) (sumOf : Int → Int) (faced : Int → Int) (slotAt : Int → Int) (dayAt : Int → Int) (row : Int → Int) (bestRow : Int → Int) (tMany : Int) (tMost : Int) (drawX : Int64) (images : Int → Int) (imageX : Int → Int) (isMade : Int → Int) (at_ : Int) : Option ab_V → ab_W → Prop := fun r w2 => (made = 60 ∧ r = some (ab_I 0) ∧ w2 = (mo_W tape taped rules sign leng clause clauses read next (1 + 8 * at_ + 3) number text made deep lines opn opened stack top word said xx was undone kept sumOf faced slotAt dayAt row bestRow tMany tMost drawX images imageX isMade)) ∨ (¬ made = 60 ∧ r = some (ab_I 1) ∧ w2 = (mo_W tape taped rules sign leng clause clauses read next (0) number text (made + 1) deep lines opn opened stack top word said xx was undone kept sumOf faced slotAt dayAt row bestRow tMany tMost drawX images imageX isMade))
theorem de_Mo_makes_0 : decode prog_14_method_18_code 0 = .ok (.aload_n 0, 1) := by decide +kernel
theorem de_Mo_makes_1 : decode prog_14_method_18_code 1 = .ok (.getfield 146, 3) := by decide +kernel
theorem de_Mo_makes_4 : decode prog_14_method_18_code 4 = .ok (.bipush 60, 2) := by decide +kernel
theorem de_Mo_makes_6 : decode prog_14_method_18_code 6 = .ok (.if_icmp .ne 10, 3) := by decide +kernel
theorem de_Mo_makes_9 : decode prog_14_method_18_code 9 = .ok (.aload_n 0, 1) := by decide +kernel
theorem de_Mo_makes_10 : decode prog_14_method_18_code 10 = .ok (.iconst 3, 1) := by decide +kernel
theorem de_Mo_makes_11 : decode prog_14_method_18_code 11 = .ok (.iload_n 1, 1) := by decide +kernel
theorem de_Mo_makes_12 : decode prog_14_method_18_code 12 = .ok (.invokevirtual 108, 3) := by decide +kernel
theorem de_Mo_makes_15 : decode prog_14_method_18_code 15 = .ok (.ireturn, 1) := by decide +kernel
theorem de_Mo_makes_16 : decode prog_14_method_18_code 16 = .ok (.aload_n 0, 1) := by decide +kernel
theorem de_Mo_makes_17 : decode prog_14_method_18_code 17 = .ok (.dup, 1) := by decide +kernel
theorem de_Mo_makes_18 : decode prog_14_method_18_code 18 = .ok (.getfield 146, 3) := by decide +kernel
theorem de_Mo_makes_21 : decode prog_14_method_18_code 21 = .ok (.iconst 1, 1) := by decide +kernel
theorem de_Mo_makes_22 : decode prog_14_method_18_code 22 = .ok (.iadd, 1) := by decide +kernel
theorem de_Mo_makes_23 : decode prog_14_method_18_code 23 = .ok (.putfield 146, 3) := by decide +kernel
theorem de_Mo_makes_26 : decode prog_14_method_18_code 26 = .ok (.iconst 1, 1) := by decide +kernel
theorem de_Mo_makes_27 : decode prog_14_method_18_code 27 = .ok (.ireturn, 1) := by decide +kernel
set_option maxRecDepth 10000 in
theorem co_Mo_makes (hm0 : 0 ≤ made) (hm1 : made ≤ 60) (at_ : Int) : ab_Mt g_G g_rs mt_Mo_makes 1 0 0 [ab_R 0, ab_I at_] (mo_W tape taped rules sign leng clause clauses read next (0) number text made deep lines opn opened stack top word said xx was undone kept sumOf faced slotAt dayAt row bestRow tMany tMost drawX images imageX isMade) (pm tape taped rules sign leng clause clauses read next number text made deep lines opn opened stack top word said xx was undone kept sumOf faced slotAt dayAt row bestRow tMany tMost drawX images imageX isMade at_) := by
  refine ab_Mt.of rfl (Nat.le_of_ble_eq_true rfl) ?_
  show ab_Ev g_G g_rs mt_Mo_makes _ _ _ 0 [some (ab_R 0), some (ab_I at_)] [] _ _
  refine ev_aload_n de_Mo_makes_0 rfl rfl ?_
  refine ev_getfield de_Mo_makes_1 rfl fl_Mo_146 rfl ?_
  refine ev_bipush de_Mo_makes_4 rfl ?_
  refine ev_icmp_ne (tgt := 16) de_Mo_makes_6 (by decide) (by omega) (by omega) (fun h6 => ?_) (fun h6 => ?_)
  · skip
    refine ev_aload_n de_Mo_makes_16 rfl rfl ?_
    refine ev_dup de_Mo_makes_17 rfl ?_
    refine ev_getfield de_Mo_makes_18 rfl fl_Mo_146 rfl ?_
    refine ev_iconst de_Mo_makes_21 ?_
    refine ev_iadd de_Mo_makes_22 ?_
    refine ev_putfield de_Mo_makes_23 rfl (fp_Mo_146 _) (Nat.le_of_ble_eq_true rfl) trivial ?_
    refine ev_world (w' := mo_W _ _ _ _ _ _ _ _ _ _ _ _ _ _ _ _ _ _ _ _ _ _ _ _ _ _ _ _ _ _ _ _ _ _ _ _ _) rfl ?_
    refine ev_iconst de_Mo_makes_26 ?_
    exact ev_zreturn de_Mo_makes_27 rfl (by decide) (Or.inr ⟨h6, rfl, rfl⟩)
  · skip
    refine ev_aload_n de_Mo_makes_9 rfl rfl ?_
    refine ev_iconst de_Mo_makes_10 ?_
    refine ev_iload_n de_Mo_makes_11 rfl rfl ?_
    refine ev_vv (ci := 11) de_Mo_makes_12 (co_Mo_fails 3 at_ (by decide)) kb_Mo_108 ⟨im_Mo_fails, se_Mo_fails⟩ rfl rfl rfl (Nat.le_of_ble_eq_true rfl) (by decide) rfl ?_
    exact ev_zreturn de_Mo_makes_15 rfl (by decide) (Or.inl ⟨h6, rfl, rfl⟩)
theorem tk_isI_bb (tape : Int → Int) (taped i : Int) (w : Int64) : 0 ≤ tk_isI tape taped i w ∧ tk_isI tape taped i w ≤ 1 := by
  have h := tk_isI_01 tape taped i w
  omega
def rs_word (tape : Int → Int) (taped nx : Int) : Int := if tk_isI tape taped nx (Int64.ofInt 1752135026) = 1 then 0 else if tk_isI tape taped nx (Int64.ofInt 6578553) = 1 then 1 else if tk_isI tape taped nx (Int64.ofInt 418464099429) = 1 then 2 else if tk_isI tape taped nx (Int64.ofInt 1918989413) = 1 then 3 else if tk_isI tape taped nx (Int64.ofInt 2003792494) = 1 then 4 else if tk_isI tape taped nx (Int64.ofInt 465625113956) = 1 then 5 else if tk_isI tape taped nx (Int64.ofInt 1650815860) = 1 then 6 else if tk_isI tape taped nx (Int64.ofInt 465557353332) = 1 then 7 else if tk_isI tape taped nx (Int64.ofInt 495873784179) = 1 then 8 else if tk_isI tape taped nx (Int64.ofInt 508676040051) = 1 then 9 else if tk_isI tape taped nx (Int64.ofInt 444016649587) = 1 then 10 else if tk_isI tape taped nx (Int64.ofInt 495874699379) = 1 then 11 else -1
theorem tk_isI_p {tape : Int → Int} {taped i : Int} {w : Int64} (h : tk_isI tape taped i w = 1) : i < tk_le tape taped i := by
  unfold tk_isI at h
  have c := Decidable.byContradiction (fun z => by rw [if_neg z] at h; exact absurd h (by decide))
  omega
theorem rs_word_b (tape : Int → Int) (taped nx : Int) : rs_word tape taped nx = -1 ∨ (0 ≤ rs_word tape taped nx ∧ rs_word tape taped nx ≤ 11 ∧ nx < tk_le tape taped nx) := by
  unfold rs_word
  by_cases c0 : tk_isI tape taped nx (Int64.ofInt 1752135026) = 1
  · rw [if_pos c0]; exact Or.inr ⟨by decide, by decide, tk_isI_p c0⟩
  rw [if_neg c0]
  by_cases c1 : tk_isI tape taped nx (Int64.ofInt 6578553) = 1
  · rw [if_pos c1]; exact Or.inr ⟨by decide, by decide, tk_isI_p c1⟩
  rw [if_neg c1]
  by_cases c2 : tk_isI tape taped nx (Int64.ofInt 418464099429) = 1
  · rw [if_pos c2]; exact Or.inr ⟨by decide, by decide, tk_isI_p c2⟩
  rw [if_neg c2]
  by_cases c3 : tk_isI tape taped nx (Int64.ofInt 1918989413) = 1
  · rw [if_pos c3]; exact Or.inr ⟨by decide, by decide, tk_isI_p c3⟩
  rw [if_neg c3]
  by_cases c4 : tk_isI tape taped nx (Int64.ofInt 2003792494) = 1
  · rw [if_pos c4]; exact Or.inr ⟨by decide, by decide, tk_isI_p c4⟩
  rw [if_neg c4]
  by_cases c5 : tk_isI tape taped nx (Int64.ofInt 465625113956) = 1
  · rw [if_pos c5]; exact Or.inr ⟨by decide, by decide, tk_isI_p c5⟩
  rw [if_neg c5]
  by_cases c6 : tk_isI tape taped nx (Int64.ofInt 1650815860) = 1
  · rw [if_pos c6]; exact Or.inr ⟨by decide, by decide, tk_isI_p c6⟩
  rw [if_neg c6]
  by_cases c7 : tk_isI tape taped nx (Int64.ofInt 465557353332) = 1
  · rw [if_pos c7]; exact Or.inr ⟨by decide, by decide, tk_isI_p c7⟩
  rw [if_neg c7]
  by_cases c8 : tk_isI tape taped nx (Int64.ofInt 495873784179) = 1
  · rw [if_pos c8]; exact Or.inr ⟨by decide, by decide, tk_isI_p c8⟩
  rw [if_neg c8]
  by_cases c9 : tk_isI tape taped nx (Int64.ofInt 508676040051) = 1
  · rw [if_pos c9]; exact Or.inr ⟨by decide, by decide, tk_isI_p c9⟩
  rw [if_neg c9]
  by_cases c10 : tk_isI tape taped nx (Int64.ofInt 444016649587) = 1
  · rw [if_pos c10]; exact Or.inr ⟨by decide, by decide, tk_isI_p c10⟩
  rw [if_neg c10]
  by_cases c11 : tk_isI tape taped nx (Int64.ofInt 495874699379) = 1
  · rw [if_pos c11]; exact Or.inr ⟨by decide, by decide, tk_isI_p c11⟩
  rw [if_neg c11]
  exact Or.inl rfl
theorem tk_de_p {tape : Int → Int} {taped i : Int} (h : tk_dg tape taped i = true) : i < tk_de tape taped i := by
  have h2 := of_decide_eq_true h
  have e := tk_to_s (p := tk_dg tape taped) (taped := taped) (i := i) h2.1 h
  have b := tk_to_b (tk_dg tape taped) (taped := taped) (i := i + 1) (by omega)
  show i < tk_to (tk_dg tape taped) taped i
  omega
theorem rs_num_p {tape : Int → Int} {taped lo hi nx a b : Int} (h : rs_num tape taped lo hi nx = .ok (a, b)) : tk_sk tape taped nx < a := by
  unfold rs_num at h
  split at h
  · rename_i hd
    split at h
    · cases h; exact tk_de_p hd
    · exact nomatch h
  · exact nomatch h
theorem de_Mo_wordHere_0 : decode prog_14_method_16_code 0 = .ok (.aload_n 0, 1) := by decide +kernel
theorem de_Mo_wordHere_1 : decode prog_14_method_16_code 1 = .ok (.ldc2_w 119, 3) := by decide +kernel
theorem de_Mo_wordHere_4 : decode prog_14_method_16_code 4 = .ok (.invokevirtual 98, 3) := by decide +kernel
theorem de_Mo_wordHere_7 : decode prog_14_method_16_code 7 = .ok (.ifCond .eq 5, 3) := by decide +kernel
theorem de_Mo_wordHere_10 : decode prog_14_method_16_code 10 = .ok (.iconst 0, 1) := by decide +kernel
theorem de_Mo_wordHere_11 : decode prog_14_method_16_code 11 = .ok (.ireturn, 1) := by decide +kernel
theorem de_Mo_wordHere_12 : decode prog_14_method_16_code 12 = .ok (.aload_n 0, 1) := by decide +kernel
theorem de_Mo_wordHere_13 : decode prog_14_method_16_code 13 = .ok (.ldc2_w 121, 3) := by decide +kernel
theorem de_Mo_wordHere_16 : decode prog_14_method_16_code 16 = .ok (.invokevirtual 98, 3) := by decide +kernel
theorem de_Mo_wordHere_19 : decode prog_14_method_16_code 19 = .ok (.ifCond .eq 5, 3) := by decide +kernel
theorem de_Mo_wordHere_22 : decode prog_14_method_16_code 22 = .ok (.iconst 1, 1) := by decide +kernel
theorem de_Mo_wordHere_23 : decode prog_14_method_16_code 23 = .ok (.ireturn, 1) := by decide +kernel
theorem de_Mo_wordHere_24 : decode prog_14_method_16_code 24 = .ok (.aload_n 0, 1) := by decide +kernel
theorem de_Mo_wordHere_25 : decode prog_14_method_16_code 25 = .ok (.ldc2_w 123, 3) := by decide +kernel
theorem de_Mo_wordHere_28 : decode prog_14_method_16_code 28 = .ok (.invokevirtual 98, 3) := by decide +kernel
theorem de_Mo_wordHere_31 : decode prog_14_method_16_code 31 = .ok (.ifCond .eq 5, 3) := by decide +kernel
theorem de_Mo_wordHere_34 : decode prog_14_method_16_code 34 = .ok (.iconst 2, 1) := by decide +kernel
theorem de_Mo_wordHere_35 : decode prog_14_method_16_code 35 = .ok (.ireturn, 1) := by decide +kernel
theorem de_Mo_wordHere_36 : decode prog_14_method_16_code 36 = .ok (.aload_n 0, 1) := by decide +kernel
theorem de_Mo_wordHere_37 : decode prog_14_method_16_code 37 = .ok (.ldc2_w 125, 3) := by decide +kernel
theorem de_Mo_wordHere_40 : decode prog_14_method_16_code 40 = .ok (.invokevirtual 98, 3) := by decide +kernel
theorem de_Mo_wordHere_43 : decode prog_14_method_16_code 43 = .ok (.ifCond .eq 5, 3) := by decide +kernel
theorem de_Mo_wordHere_46 : decode prog_14_method_16_code 46 = .ok (.iconst 3, 1) := by decide +kernel
theorem de_Mo_wordHere_47 : decode prog_14_method_16_code 47 = .ok (.ireturn, 1) := by decide +kernel
theorem de_Mo_wordHere_48 : decode prog_14_method_16_code 48 = .ok (.aload_n 0, 1) := by decide +kernel
theorem de_Mo_wordHere_49 : decode prog_14_method_16_code 49 = .ok (.ldc2_w 127, 3) := by decide +kernel
theorem de_Mo_wordHere_52 : decode prog_14_method_16_code 52 = .ok (.invokevirtual 98, 3) := by decide +kernel
theorem de_Mo_wordHere_55 : decode prog_14_method_16_code 55 = .ok (.ifCond .eq 5, 3) := by decide +kernel
theorem de_Mo_wordHere_58 : decode prog_14_method_16_code 58 = .ok (.iconst 4, 1) := by decide +kernel
theorem de_Mo_wordHere_59 : decode prog_14_method_16_code 59 = .ok (.ireturn, 1) := by decide +kernel
theorem de_Mo_wordHere_60 : decode prog_14_method_16_code 60 = .ok (.aload_n 0, 1) := by decide +kernel
theorem de_Mo_wordHere_61 : decode prog_14_method_16_code 61 = .ok (.ldc2_w 129, 3) := by decide +kernel
theorem de_Mo_wordHere_64 : decode prog_14_method_16_code 64 = .ok (.invokevirtual 98, 3) := by decide +kernel
theorem de_Mo_wordHere_67 : decode prog_14_method_16_code 67 = .ok (.ifCond .eq 5, 3) := by decide +kernel
theorem de_Mo_wordHere_70 : decode prog_14_method_16_code 70 = .ok (.iconst 5, 1) := by decide +kernel
theorem de_Mo_wordHere_71 : decode prog_14_method_16_code 71 = .ok (.ireturn, 1) := by decide +kernel
theorem de_Mo_wordHere_72 : decode prog_14_method_16_code 72 = .ok (.aload_n 0, 1) := by decide +kernel
theorem de_Mo_wordHere_73 : decode prog_14_method_16_code 73 = .ok (.ldc2_w 131, 3) := by decide +kernel
theorem de_Mo_wordHere_76 : decode prog_14_method_16_code 76 = .ok (.invokevirtual 98, 3) := by decide +kernel
theorem de_Mo_wordHere_79 : decode prog_14_method_16_code 79 = .ok (.ifCond .eq 6, 3) := by decide +kernel
theorem de_Mo_wordHere_82 : decode prog_14_method_16_code 82 = .ok (.bipush 6, 2) := by decide +kernel
theorem de_Mo_wordHere_84 : decode prog_14_method_16_code 84 = .ok (.ireturn, 1) := by decide +kernel
theorem de_Mo_wordHere_85 : decode prog_14_method_16_code 85 = .ok (.aload_n 0, 1) := by decide +kernel
theorem de_Mo_wordHere_86 : decode prog_14_method_16_code 86 = .ok (.ldc2_w 133, 3) := by decide +kernel
theorem de_Mo_wordHere_89 : decode prog_14_method_16_code 89 = .ok (.invokevirtual 98, 3) := by decide +kernel
theorem de_Mo_wordHere_92 : decode prog_14_method_16_code 92 = .ok (.ifCond .eq 6, 3) := by decide +kernel
theorem de_Mo_wordHere_95 : decode prog_14_method_16_code 95 = .ok (.bipush 7, 2) := by decide +kernel
theorem de_Mo_wordHere_97 : decode prog_14_method_16_code 97 = .ok (.ireturn, 1) := by decide +kernel
theorem de_Mo_wordHere_98 : decode prog_14_method_16_code 98 = .ok (.aload_n 0, 1) := by decide +kernel
theorem de_Mo_wordHere_99 : decode prog_14_method_16_code 99 = .ok (.ldc2_w 135, 3) := by decide +kernel
theorem de_Mo_wordHere_102 : decode prog_14_method_16_code 102 = .ok (.invokevirtual 98, 3) := by decide +kernel
theorem de_Mo_wordHere_105 : decode prog_14_method_16_code 105 = .ok (.ifCond .eq 6, 3) := by decide +kernel
theorem de_Mo_wordHere_108 : decode prog_14_method_16_code 108 = .ok (.bipush 8, 2) := by decide +kernel
theorem de_Mo_wordHere_110 : decode prog_14_method_16_code 110 = .ok (.ireturn, 1) := by decide +kernel
theorem de_Mo_wordHere_111 : decode prog_14_method_16_code 111 = .ok (.aload_n 0, 1) := by decide +kernel
theorem de_Mo_wordHere_112 : decode prog_14_method_16_code 112 = .ok (.ldc2_w 137, 3) := by decide +kernel
theorem de_Mo_wordHere_115 : decode prog_14_method_16_code 115 = .ok (.invokevirtual 98, 3) := by decide +kernel
theorem de_Mo_wordHere_118 : decode prog_14_method_16_code 118 = .ok (.ifCond .eq 6, 3) := by decide +kernel
theorem de_Mo_wordHere_121 : decode prog_14_method_16_code 121 = .ok (.bipush 9, 2) := by decide +kernel
theorem de_Mo_wordHere_123 : decode prog_14_method_16_code 123 = .ok (.ireturn, 1) := by decide +kernel
theorem de_Mo_wordHere_124 : decode prog_14_method_16_code 124 = .ok (.aload_n 0, 1) := by decide +kernel
theorem de_Mo_wordHere_125 : decode prog_14_method_16_code 125 = .ok (.ldc2_w 139, 3) := by decide +kernel
theorem de_Mo_wordHere_128 : decode prog_14_method_16_code 128 = .ok (.invokevirtual 98, 3) := by decide +kernel
theorem de_Mo_wordHere_131 : decode prog_14_method_16_code 131 = .ok (.ifCond .eq 8, 3) := by decide +kernel
theorem de_Mo_wordHere_134 : decode prog_14_method_16_code 134 = .ok (.bipush 10, 2) := by decide +kernel
theorem de_Mo_wordHere_136 : decode prog_14_method_16_code 136 = .ok (.goto 19, 3) := by decide +kernel
theorem de_Mo_wordHere_139 : decode prog_14_method_16_code 139 = .ok (.aload_n 0, 1) := by decide +kernel
theorem de_Mo_wordHere_140 : decode prog_14_method_16_code 140 = .ok (.ldc2_w 141, 3) := by decide +kernel
theorem de_Mo_wordHere_143 : decode prog_14_method_16_code 143 = .ok (.invokevirtual 98, 3) := by decide +kernel
theorem de_Mo_wordHere_146 : decode prog_14_method_16_code 146 = .ok (.ifCond .eq 8, 3) := by decide +kernel
theorem de_Mo_wordHere_149 : decode prog_14_method_16_code 149 = .ok (.bipush 11, 2) := by decide +kernel
theorem de_Mo_wordHere_151 : decode prog_14_method_16_code 151 = .ok (.goto 4, 3) := by decide +kernel
theorem de_Mo_wordHere_154 : decode prog_14_method_16_code 154 = .ok (.iconst (-1), 1) := by decide +kernel
theorem de_Mo_wordHere_155 : decode prog_14_method_16_code 155 = .ok (.ireturn, 1) := by decide +kernel
set_option maxRecDepth 10000 in
theorem co_Mo_wordHere (ht : tp_ok tape taped) (hn0 : 0 ≤ next) (hn1 : next ≤ taped) (hsk : tk_sk tape taped next = next) : ab_Mt g_G g_rs mt_Mo_wordHere 2 0 0 [ab_R 0] (mo_W tape taped rules sign leng clause clauses read next wrong number text made deep lines opn opened stack top word said xx was undone kept sumOf faced slotAt dayAt row bestRow tMany tMost drawX images imageX isMade) (ab_is (some (ab_I (rs_word tape taped next))) (mo_W tape taped rules sign leng clause clauses read next wrong number text made deep lines opn opened stack top word said xx was undone kept sumOf faced slotAt dayAt row bestRow tMany tMost drawX images imageX isMade)) := by
  refine ab_Mt.of rfl (Nat.le_of_ble_eq_true rfl) ?_
  show ab_Ev g_G g_rs mt_Mo_wordHere _ _ _ 0 [some (ab_R 0)] [] _ _
  have wHOUR := tk_isI_bb tape taped next (Int64.ofInt 1752135026)
  have wDAY := tk_isI_bb tape taped next (Int64.ofInt 6578553)
  have wANGLE := tk_isI_bb tape taped next (Int64.ofInt 418464099429)
  have wRATE := tk_isI_bb tape taped next (Int64.ofInt 1918989413)
  have wWORN := tk_isI_bb tape taped next (Int64.ofInt 2003792494)
  have wLIKED := tk_isI_bb tape taped next (Int64.ofInt 465625113956)
  have wBEST := tk_isI_bb tape taped next (Int64.ofInt 1650815860)
  have wLEAST := tk_isI_bb tape taped next (Int64.ofInt 465557353332)
  have wSTAYS := tk_isI_bb tape taped next (Int64.ofInt 495873784179)
  have wVOTES := tk_isI_bb tape taped next (Int64.ofInt 508676040051)
  have wGATES := tk_isI_bb tape taped next (Int64.ofInt 444016649587)
  have wSTOPS := tk_isI_bb tape taped next (Int64.ofInt 495874699379)
  refine ev_aload_n de_Mo_wordHere_0 rfl rfl ?_
  refine ev_ldc2i (n := 1752135026) de_Mo_wordHere_1 cn_Mo_119 (by decide) ?_
  refine ev_vv (ci := 11) de_Mo_wordHere_4 (cs_Mo_isWord ht hn0 hn1 hsk (Int64.ofInt 1752135026)) kb_Mo_98 ⟨im_Mo_isWord, se_Mo_isWord⟩ rfl rfl rfl (Nat.le_of_ble_eq_true rfl) (by decide) rfl ?_
  refine ev_if_eq (tgt := 12) de_Mo_wordHere_7 (by decide) (by omega) (fun h7 => ?_) (fun h7 => ?_)
  · skip
    refine ev_aload_n de_Mo_wordHere_12 rfl rfl ?_
    refine ev_ldc2i (n := 6578553) de_Mo_wordHere_13 cn_Mo_121 (by decide) ?_
    refine ev_vv (ci := 11) de_Mo_wordHere_16 (cs_Mo_isWord ht hn0 hn1 hsk (Int64.ofInt 6578553)) kb_Mo_98 ⟨im_Mo_isWord, se_Mo_isWord⟩ rfl rfl rfl (Nat.le_of_ble_eq_true rfl) (by decide) rfl ?_
    refine ev_if_eq (tgt := 24) de_Mo_wordHere_19 (by decide) (by omega) (fun h19 => ?_) (fun h19 => ?_)
    · skip
      refine ev_aload_n de_Mo_wordHere_24 rfl rfl ?_
      refine ev_ldc2i (n := 418464099429) de_Mo_wordHere_25 cn_Mo_123 (by decide) ?_
      refine ev_vv (ci := 11) de_Mo_wordHere_28 (cs_Mo_isWord ht hn0 hn1 hsk (Int64.ofInt 418464099429)) kb_Mo_98 ⟨im_Mo_isWord, se_Mo_isWord⟩ rfl rfl rfl (Nat.le_of_ble_eq_true rfl) (by decide) rfl ?_
      refine ev_if_eq (tgt := 36) de_Mo_wordHere_31 (by decide) (by omega) (fun h31 => ?_) (fun h31 => ?_)
      · skip
        refine ev_aload_n de_Mo_wordHere_36 rfl rfl ?_
        refine ev_ldc2i (n := 1918989413) de_Mo_wordHere_37 cn_Mo_125 (by decide) ?_
        refine ev_vv (ci := 11) de_Mo_wordHere_40 (cs_Mo_isWord ht hn0 hn1 hsk (Int64.ofInt 1918989413)) kb_Mo_98 ⟨im_Mo_isWord, se_Mo_isWord⟩ rfl rfl rfl (Nat.le_of_ble_eq_true rfl) (by decide) rfl ?_
        refine ev_if_eq (tgt := 48) de_Mo_wordHere_43 (by decide) (by omega) (fun h43 => ?_) (fun h43 => ?_)
        · skip
          refine ev_aload_n de_Mo_wordHere_48 rfl rfl ?_
          refine ev_ldc2i (n := 2003792494) de_Mo_wordHere_49 cn_Mo_127 (by decide) ?_
          refine ev_vv (ci := 11) de_Mo_wordHere_52 (cs_Mo_isWord ht hn0 hn1 hsk (Int64.ofInt 2003792494)) kb_Mo_98 ⟨im_Mo_isWord, se_Mo_isWord⟩ rfl rfl rfl (Nat.le_of_ble_eq_true rfl) (by decide) rfl ?_
          refine ev_if_eq (tgt := 60) de_Mo_wordHere_55 (by decide) (by omega) (fun h55 => ?_) (fun h55 => ?_)
          · skip
            refine ev_aload_n de_Mo_wordHere_60 rfl rfl ?_
            refine ev_ldc2i (n := 465625113956) de_Mo_wordHere_61 cn_Mo_129 (by decide) ?_
            refine ev_vv (ci := 11) de_Mo_wordHere_64 (cs_Mo_isWord ht hn0 hn1 hsk (Int64.ofInt 465625113956)) kb_Mo_98 ⟨im_Mo_isWord, se_Mo_isWord⟩ rfl rfl rfl (Nat.le_of_ble_eq_true rfl) (by decide) rfl ?_
            refine ev_if_eq (tgt := 72) de_Mo_wordHere_67 (by decide) (by omega) (fun h67 => ?_) (fun h67 => ?_)
            · skip
              refine ev_aload_n de_Mo_wordHere_72 rfl rfl ?_
              refine ev_ldc2i (n := 1650815860) de_Mo_wordHere_73 cn_Mo_131 (by decide) ?_
              refine ev_vv (ci := 11) de_Mo_wordHere_76 (cs_Mo_isWord ht hn0 hn1 hsk (Int64.ofInt 1650815860)) kb_Mo_98 ⟨im_Mo_isWord, se_Mo_isWord⟩ rfl rfl rfl (Nat.le_of_ble_eq_true rfl) (by decide) rfl ?_
              refine ev_if_eq (tgt := 85) de_Mo_wordHere_79 (by decide) (by omega) (fun h79 => ?_) (fun h79 => ?_)
              · skip
                refine ev_aload_n de_Mo_wordHere_85 rfl rfl ?_
                refine ev_ldc2i (n := 465557353332) de_Mo_wordHere_86 cn_Mo_133 (by decide) ?_
                refine ev_vv (ci := 11) de_Mo_wordHere_89 (cs_Mo_isWord ht hn0 hn1 hsk (Int64.ofInt 465557353332)) kb_Mo_98 ⟨im_Mo_isWord, se_Mo_isWord⟩ rfl rfl rfl (Nat.le_of_ble_eq_true rfl) (by decide) rfl ?_
                refine ev_if_eq (tgt := 98) de_Mo_wordHere_92 (by decide) (by omega) (fun h92 => ?_) (fun h92 => ?_)
                · skip
                  refine ev_aload_n de_Mo_wordHere_98 rfl rfl ?_
                  refine ev_ldc2i (n := 495873784179) de_Mo_wordHere_99 cn_Mo_135 (by decide) ?_
                  refine ev_vv (ci := 11) de_Mo_wordHere_102 (cs_Mo_isWord ht hn0 hn1 hsk (Int64.ofInt 495873784179)) kb_Mo_98 ⟨im_Mo_isWord, se_Mo_isWord⟩ rfl rfl rfl (Nat.le_of_ble_eq_true rfl) (by decide) rfl ?_
                  refine ev_if_eq (tgt := 111) de_Mo_wordHere_105 (by decide) (by omega) (fun h105 => ?_) (fun h105 => ?_)
                  · skip
                    refine ev_aload_n de_Mo_wordHere_111 rfl rfl ?_
                    refine ev_ldc2i (n := 508676040051) de_Mo_wordHere_112 cn_Mo_137 (by decide) ?_
                    refine ev_vv (ci := 11) de_Mo_wordHere_115 (cs_Mo_isWord ht hn0 hn1 hsk (Int64.ofInt 508676040051)) kb_Mo_98 ⟨im_Mo_isWord, se_Mo_isWord⟩ rfl rfl rfl (Nat.le_of_ble_eq_true rfl) (by decide) rfl ?_
                    refine ev_if_eq (tgt := 124) de_Mo_wordHere_118 (by decide) (by omega) (fun h118 => ?_) (fun h118 => ?_)
                    · skip
                      refine ev_aload_n de_Mo_wordHere_124 rfl rfl ?_
                      refine ev_ldc2i (n := 444016649587) de_Mo_wordHere_125 cn_Mo_139 (by decide) ?_
                      refine ev_vv (ci := 11) de_Mo_wordHere_128 (cs_Mo_isWord ht hn0 hn1 hsk (Int64.ofInt 444016649587)) kb_Mo_98 ⟨im_Mo_isWord, se_Mo_isWord⟩ rfl rfl rfl (Nat.le_of_ble_eq_true rfl) (by decide) rfl ?_
                      refine ev_if_eq (tgt := 139) de_Mo_wordHere_131 (by decide) (by omega) (fun h131 => ?_) (fun h131 => ?_)
                      · skip
                        refine ev_aload_n de_Mo_wordHere_139 rfl rfl ?_
                        refine ev_ldc2i (n := 495874699379) de_Mo_wordHere_140 cn_Mo_141 (by decide) ?_
                        refine ev_vv (ci := 11) de_Mo_wordHere_143 (cs_Mo_isWord ht hn0 hn1 hsk (Int64.ofInt 495874699379)) kb_Mo_98 ⟨im_Mo_isWord, se_Mo_isWord⟩ rfl rfl rfl (Nat.le_of_ble_eq_true rfl) (by decide) rfl ?_
                        refine ev_if_eq (tgt := 154) de_Mo_wordHere_146 (by decide) (by omega) (fun h146 => ?_) (fun h146 => ?_)
                        · skip
                          have eW : rs_word tape taped next = -1 := by unfold rs_word; rw [if_neg (by omega), if_neg (by omega), if_neg (by omega), if_neg (by omega), if_neg (by omega), if_neg (by omega), if_neg (by omega), if_neg (by omega), if_neg (by omega), if_neg (by omega), if_neg (by omega), if_neg (by omega)]
                          refine ev_iconst de_Mo_wordHere_154 ?_
                          exact ev_ireturn de_Mo_wordHere_155 rfl ⟨by rw [eW], rfl⟩
                        · skip
                          have eW : rs_word tape taped next = 11 := by unfold rs_word; rw [if_neg (by omega), if_neg (by omega), if_neg (by omega), if_neg (by omega), if_neg (by omega), if_neg (by omega), if_neg (by omega), if_neg (by omega), if_neg (by omega), if_neg (by omega), if_neg (by omega), if_pos (by omega)]
                          refine ev_bipush de_Mo_wordHere_149 rfl ?_
                          refine ev_goto (tgt := 155) de_Mo_wordHere_151 (by decide) ?_
                          exact ev_ireturn de_Mo_wordHere_155 rfl ⟨by rw [eW], rfl⟩
                      · skip
                        have eW : rs_word tape taped next = 10 := by unfold rs_word; rw [if_neg (by omega), if_neg (by omega), if_neg (by omega), if_neg (by omega), if_neg (by omega), if_neg (by omega), if_neg (by omega), if_neg (by omega), if_neg (by omega), if_neg (by omega), if_pos (by omega)]
                        refine ev_bipush de_Mo_wordHere_134 rfl ?_
                        refine ev_goto (tgt := 155) de_Mo_wordHere_136 (by decide) ?_
                        exact ev_ireturn de_Mo_wordHere_155 rfl ⟨by rw [eW], rfl⟩
                    · skip
                      have eW : rs_word tape taped next = 9 := by unfold rs_word; rw [if_neg (by omega), if_neg (by omega), if_neg (by omega), if_neg (by omega), if_neg (by omega), if_neg (by omega), if_neg (by omega), if_neg (by omega), if_neg (by omega), if_pos (by omega)]
                      refine ev_bipush de_Mo_wordHere_121 rfl ?_
                      exact ev_ireturn de_Mo_wordHere_123 rfl ⟨by rw [eW], rfl⟩
                  · skip
                    have eW : rs_word tape taped next = 8 := by unfold rs_word; rw [if_neg (by omega), if_neg (by omega), if_neg (by omega), if_neg (by omega), if_neg (by omega), if_neg (by omega), if_neg (by omega), if_neg (by omega), if_pos (by omega)]
                    refine ev_bipush de_Mo_wordHere_108 rfl ?_
                    exact ev_ireturn de_Mo_wordHere_110 rfl ⟨by rw [eW], rfl⟩
                · skip
                  have eW : rs_word tape taped next = 7 := by unfold rs_word; rw [if_neg (by omega), if_neg (by omega), if_neg (by omega), if_neg (by omega), if_neg (by omega), if_neg (by omega), if_neg (by omega), if_pos (by omega)]
                  refine ev_bipush de_Mo_wordHere_95 rfl ?_
                  exact ev_ireturn de_Mo_wordHere_97 rfl ⟨by rw [eW], rfl⟩
              · skip
                have eW : rs_word tape taped next = 6 := by unfold rs_word; rw [if_neg (by omega), if_neg (by omega), if_neg (by omega), if_neg (by omega), if_neg (by omega), if_neg (by omega), if_pos (by omega)]
                refine ev_bipush de_Mo_wordHere_82 rfl ?_
                exact ev_ireturn de_Mo_wordHere_84 rfl ⟨by rw [eW], rfl⟩
            · skip
              have eW : rs_word tape taped next = 5 := by unfold rs_word; rw [if_neg (by omega), if_neg (by omega), if_neg (by omega), if_neg (by omega), if_neg (by omega), if_pos (by omega)]
              refine ev_iconst de_Mo_wordHere_70 ?_
              exact ev_ireturn de_Mo_wordHere_71 rfl ⟨by rw [eW], rfl⟩
          · skip
            have eW : rs_word tape taped next = 4 := by unfold rs_word; rw [if_neg (by omega), if_neg (by omega), if_neg (by omega), if_neg (by omega), if_pos (by omega)]
            refine ev_iconst de_Mo_wordHere_58 ?_
            exact ev_ireturn de_Mo_wordHere_59 rfl ⟨by rw [eW], rfl⟩
        · skip
          have eW : rs_word tape taped next = 3 := by unfold rs_word; rw [if_neg (by omega), if_neg (by omega), if_neg (by omega), if_pos (by omega)]
          refine ev_iconst de_Mo_wordHere_46 ?_
          exact ev_ireturn de_Mo_wordHere_47 rfl ⟨by rw [eW], rfl⟩
      · skip
        have eW : rs_word tape taped next = 2 := by unfold rs_word; rw [if_neg (by omega), if_neg (by omega), if_pos (by omega)]
        refine ev_iconst de_Mo_wordHere_34 ?_
        exact ev_ireturn de_Mo_wordHere_35 rfl ⟨by rw [eW], rfl⟩
    · skip
      have eW : rs_word tape taped next = 1 := by unfold rs_word; rw [if_neg (by omega), if_pos (by omega)]
      refine ev_iconst de_Mo_wordHere_22 ?_
      exact ev_ireturn de_Mo_wordHere_23 rfl ⟨by rw [eW], rfl⟩
  · skip
    have eW : rs_word tape taped next = 0 := by unfold rs_word; rw [if_pos (by omega)]
    refine ev_iconst de_Mo_wordHere_10 ?_
    exact ev_ireturn de_Mo_wordHere_11 rfl ⟨by rw [eW], rfl⟩
abbrev pz : Type := Int × Int × (Int → Int) × (Int → Int)
def pz_put (t s v : Int) (nx mk : Int) (le sg : Int → Int) : pz := (nx, mk, ab_up le t (le t + 1), ab_up sg (400 * t + le t) (s + 16 * v))
def rs_val (tape : Int → Int) (taped t nx mk : Int) (le sg : Int → Int) : Except Int pz := if tk_dg tape taped (tk_sk tape taped nx) = true then (match rs_num tape taped 0 99999 (tk_sk tape taped nx) with
    | .error e => .error e
    | .ok (n1, v) => if mk = 60 then .error (1 + 8 * tk_sk tape taped nx + 3) else .ok (pz_put t 0 v n1 (mk + 1) le sg))
  else if rs_word tape taped (tk_sk tape taped nx) < 0 then .error (1 + 8 * tk_sk tape taped nx + 0)
  else if mk = 60 then .error (1 + 8 * tk_sk tape taped nx + 3) else .ok (pz_put t 1 (rs_word tape taped (tk_sk tape taped nx)) (tk_le tape taped (tk_sk tape taped nx)) (mk + 1) le sg)
/-- the signs of other rules stand as they were -/
def sg_fr (t : Int) (s0 s : Int → Int) : Prop := ∀ k, (k < 400 * t ∨ 400 * t + 400 ≤ k) → s k = s0 k
theorem sg_fr_up {t j v : Int} {s0 s : Int → Int} (h : sg_fr t s0 s) (h0 : 0 ≤ j) (h1 : j < 400) : sg_fr t s0 (ab_up s (400 * t + j) v) := fun k hk => by rw [ab_upn _ _ (by omega)]; exact h k hk
/-- behind a piece of a RULE's text: c: what the text is ahead of the signs -/
def pv (tape : Int → Int) (taped : Int) (rules : Int) (clause : Int → Int) (clauses : Int → Int) (read : Int → Int) (text : Int) (deep : Int) (lines : Int) (opn : Int → Int) (opened : Int) (stack : Int → Int64) (top : Int) (word : Int → Int64) (said : Int → Int) (xx : Int) (was : Int → Int) (undone : Int) (kept : Int → Int) (sumOf : Int → Int) (faced : Int → Int) (slotAt : Int → Int) (dayAt : Int → Int) (row : Int → Int) (bestRow : Int → Int) (tMany : Int) (tMost : Int) (drawX : Int64) (images : Int → Int) (imageX : Int → Int) (isMade : Int → Int) (c b0 : Int) (s0 : Int → Int) (X : Except Int pz) : Option ab_V → ab_W → Prop := fun r w2 => ∃ (nx nu wr mk : Int) (le sg : Int → Int), w2 = (mo_W tape taped rules (sg) (le) clause clauses read (nx) (wr) (nu) text (mk) deep lines opn opened stack top word said xx was undone kept sumOf faced slotAt dayAt row bestRow tMany tMost drawX images imageX isMade) ∧ (0 ≤ nx ∧ nx ≤ taped) ∧ ab_in nu ∧ (0 ≤ mk ∧ mk ≤ 60) ∧ sg_fr text s0 sg ∧ ((r = some (ab_I 1) ∧ wr = 0 ∧ (b0 ≤ le text ∧ le text - nx ≤ c) ∧ X = .ok (nx, mk, le, sg)) ∨ (r = some (ab_I 0) ∧ (1 ≤ wr ∧ wr ≤ 10000) ∧ X = .error wr))
theorem de_Mo_value_0 : decode prog_14_method_22_code 0 = .ok (.aload_n 0, 1) := by decide +kernel
theorem de_Mo_value_1 : decode prog_14_method_22_code 1 = .ok (.invokevirtual 90, 3) := by decide +kernel
theorem de_Mo_value_4 : decode prog_14_method_22_code 4 = .ok (.pop, 1) := by decide +kernel
theorem de_Mo_value_5 : decode prog_14_method_22_code 5 = .ok (.aload_n 0, 1) := by decide +kernel
theorem de_Mo_value_6 : decode prog_14_method_22_code 6 = .ok (.getfield 87, 3) := by decide +kernel
theorem de_Mo_value_9 : decode prog_14_method_22_code 9 = .ok (.istore_n 1, 1) := by decide +kernel
theorem de_Mo_value_10 : decode prog_14_method_22_code 10 = .ok (.aload_n 0, 1) := by decide +kernel
theorem de_Mo_value_11 : decode prog_14_method_22_code 11 = .ok (.aload_n 0, 1) := by decide +kernel
theorem de_Mo_value_12 : decode prog_14_method_22_code 12 = .ok (.getfield 87, 3) := by decide +kernel
theorem de_Mo_value_15 : decode prog_14_method_22_code 15 = .ok (.invokevirtual 105, 3) := by decide +kernel
theorem de_Mo_value_18 : decode prog_14_method_22_code 18 = .ok (.ifCond .eq 34, 3) := by decide +kernel
theorem de_Mo_value_21 : decode prog_14_method_22_code 21 = .ok (.aload_n 0, 1) := by decide +kernel
theorem de_Mo_value_22 : decode prog_14_method_22_code 22 = .ok (.iconst 0, 1) := by decide +kernel
theorem de_Mo_value_23 : decode prog_14_method_22_code 23 = .ok (.ldc 163, 2) := by decide +kernel
theorem de_Mo_value_25 : decode prog_14_method_22_code 25 = .ok (.invokevirtual 164, 3) := by decide +kernel
theorem de_Mo_value_28 : decode prog_14_method_22_code 28 = .ok (.ifCond .eq 11, 3) := by decide +kernel
theorem de_Mo_value_31 : decode prog_14_method_22_code 31 = .ok (.aload_n 0, 1) := by decide +kernel
theorem de_Mo_value_32 : decode prog_14_method_22_code 32 = .ok (.iload_n 1, 1) := by decide +kernel
theorem de_Mo_value_33 : decode prog_14_method_22_code 33 = .ok (.invokevirtual 167, 3) := by decide +kernel
theorem de_Mo_value_36 : decode prog_14_method_22_code 36 = .ok (.ifCond .ne 5, 3) := by decide +kernel
theorem de_Mo_value_39 : decode prog_14_method_22_code 39 = .ok (.iconst 0, 1) := by decide +kernel
theorem de_Mo_value_40 : decode prog_14_method_22_code 40 = .ok (.ireturn, 1) := by decide +kernel
theorem de_Mo_value_41 : decode prog_14_method_22_code 41 = .ok (.aload_n 0, 1) := by decide +kernel
theorem de_Mo_value_42 : decode prog_14_method_22_code 42 = .ok (.iconst 0, 1) := by decide +kernel
theorem de_Mo_value_43 : decode prog_14_method_22_code 43 = .ok (.aload_n 0, 1) := by decide +kernel
theorem de_Mo_value_44 : decode prog_14_method_22_code 44 = .ok (.getfield 112, 3) := by decide +kernel
theorem de_Mo_value_47 : decode prog_14_method_22_code 47 = .ok (.invokevirtual 159, 3) := by decide +kernel
theorem de_Mo_value_50 : decode prog_14_method_22_code 50 = .ok (.iconst 1, 1) := by decide +kernel
theorem de_Mo_value_51 : decode prog_14_method_22_code 51 = .ok (.ireturn, 1) := by decide +kernel
theorem de_Mo_value_52 : decode prog_14_method_22_code 52 = .ok (.aload_n 0, 1) := by decide +kernel
theorem de_Mo_value_53 : decode prog_14_method_22_code 53 = .ok (.invokevirtual 170, 3) := by decide +kernel
theorem de_Mo_value_56 : decode prog_14_method_22_code 56 = .ok (.istore_n 2, 1) := by decide +kernel
theorem de_Mo_value_57 : decode prog_14_method_22_code 57 = .ok (.iload_n 2, 1) := by decide +kernel
theorem de_Mo_value_58 : decode prog_14_method_22_code 58 = .ok (.ifCond .ge 10, 3) := by decide +kernel
theorem de_Mo_value_61 : decode prog_14_method_22_code 61 = .ok (.aload_n 0, 1) := by decide +kernel
theorem de_Mo_value_62 : decode prog_14_method_22_code 62 = .ok (.iconst 0, 1) := by decide +kernel
theorem de_Mo_value_63 : decode prog_14_method_22_code 63 = .ok (.iload_n 1, 1) := by decide +kernel
theorem de_Mo_value_64 : decode prog_14_method_22_code 64 = .ok (.invokevirtual 108, 3) := by decide +kernel
theorem de_Mo_value_67 : decode prog_14_method_22_code 67 = .ok (.ireturn, 1) := by decide +kernel
theorem de_Mo_value_68 : decode prog_14_method_22_code 68 = .ok (.aload_n 0, 1) := by decide +kernel
theorem de_Mo_value_69 : decode prog_14_method_22_code 69 = .ok (.iload_n 1, 1) := by decide +kernel
theorem de_Mo_value_70 : decode prog_14_method_22_code 70 = .ok (.invokevirtual 167, 3) := by decide +kernel
theorem de_Mo_value_73 : decode prog_14_method_22_code 73 = .ok (.ifCond .ne 5, 3) := by decide +kernel
theorem de_Mo_value_76 : decode prog_14_method_22_code 76 = .ok (.iconst 0, 1) := by decide +kernel
theorem de_Mo_value_77 : decode prog_14_method_22_code 77 = .ok (.ireturn, 1) := by decide +kernel
theorem de_Mo_value_78 : decode prog_14_method_22_code 78 = .ok (.aload_n 0, 1) := by decide +kernel
theorem de_Mo_value_79 : decode prog_14_method_22_code 79 = .ok (.invokevirtual 102, 3) := by decide +kernel
theorem de_Mo_value_82 : decode prog_14_method_22_code 82 = .ok (.aload_n 0, 1) := by decide +kernel
theorem de_Mo_value_83 : decode prog_14_method_22_code 83 = .ok (.iconst 1, 1) := by decide +kernel
theorem de_Mo_value_84 : decode prog_14_method_22_code 84 = .ok (.iload_n 2, 1) := by decide +kernel
theorem de_Mo_value_85 : decode prog_14_method_22_code 85 = .ok (.invokevirtual 159, 3) := by decide +kernel
theorem de_Mo_value_88 : decode prog_14_method_22_code 88 = .ok (.iconst 1, 1) := by decide +kernel
theorem de_Mo_value_89 : decode prog_14_method_22_code 89 = .ok (.ireturn, 1) := by decide +kernel
set_option maxRecDepth 10000 in
theorem co_Mo_value (ht : tp_ok tape taped) (hn0 : 0 ≤ next) (hn1 : next ≤ taped) (tx0 : 0 ≤ text) (tx1 : text ≤ 5) (hnu : ab_in number) (hm0 : 0 ≤ made) (hm1 : made ≤ 60) (b0 : Int) (hb0 : 0 ≤ b0) (hl0 : b0 ≤ leng text) (c : Int) (hc : c ≤ 0) (hl1 : leng text - next ≤ c) (s0 : Int → Int) (hs : sg_fr text s0 sign) : ab_Mt g_G g_rs mt_Mo_value 3 0 0 [ab_R 0] (mo_W tape taped rules sign leng clause clauses read next (0) number text made deep lines opn opened stack top word said xx was undone kept sumOf faced slotAt dayAt row bestRow tMany tMost drawX images imageX isMade) (pv tape taped rules clause clauses read text deep lines opn opened stack top word said xx was undone kept sumOf faced slotAt dayAt row bestRow tMany tMost drawX images imageX isMade c b0 s0 (rs_val tape taped text next made leng sign)) := by
  refine ab_Mt.of rfl (Nat.le_of_ble_eq_true rfl) ?_
  show ab_Ev g_G g_rs mt_Mo_value _ _ _ 0 [some (ab_R 0), none, none] [] _ _
  have hmB := hm1
  have p1 := ht.2.1
  have hb := tk_sk_b tape hn1
  have hsk := tk_sk_sk tape taped next hn1
  have hwb := rs_word_b tape taped (tk_sk tape taped next)
  refine ev_aload_n de_Mo_value_0 rfl rfl ?_
  refine ev_vv (ci := 11) de_Mo_value_1 (co_Mo_see ht hn0 hn1) kb_Mo_90 ⟨im_Mo_see, se_Mo_see⟩ rfl rfl rfl (Nat.le_of_ble_eq_true rfl) (by decide) rfl ?_
  refine ev_pop de_Mo_value_4 rfl ?_
  refine ev_aload_n de_Mo_value_5 rfl rfl ?_
  refine ev_getfield de_Mo_value_6 rfl fl_Mo_87 rfl ?_
  refine ev_istore_n (l' := [_, _, _]) de_Mo_value_9 rfl (Nat.le_of_ble_eq_true rfl) rfl ?_
  refine ev_aload_n de_Mo_value_10 rfl rfl ?_
  refine ev_aload_n de_Mo_value_11 rfl rfl ?_
  refine ev_getfield de_Mo_value_12 rfl fl_Mo_87 rfl ?_
  refine ev_vv (ci := 11) de_Mo_value_15 (co_Mo_isDigit ht _ (by omega) (by omega)) kb_Mo_105 ⟨im_Mo_isDigit, se_Mo_isDigit⟩ rfl rfl rfl (Nat.le_of_ble_eq_true rfl) (by decide) rfl ?_
  refine ev_if_eq (tgt := 52) de_Mo_value_18 (by decide) (by split <;> decide) (fun h18 => ?_) (fun h18 => ?_)
  · skip
    have hd : ¬ tk_dg tape taped (tk_sk tape taped next) = true := fun z => by rw [if_pos z] at h18; exact absurd h18 (by decide)
    refine ev_aload_n de_Mo_value_52 rfl rfl ?_
    refine ev_vv (ci := 11) de_Mo_value_53 (co_Mo_wordHere ht (by omega) hb.2 hsk) kb_Mo_170 ⟨im_Mo_wordHere, se_Mo_wordHere⟩ rfl rfl rfl (Nat.le_of_ble_eq_true rfl) (by decide) rfl ?_
    refine ev_istore_n (l' := [_, _, _]) de_Mo_value_56 rfl (Nat.le_of_ble_eq_true rfl) rfl ?_
    refine ev_iload_n de_Mo_value_57 rfl rfl ?_
    refine ev_if_ge (tgt := 68) de_Mo_value_58 (by decide) (by omega) (fun h58 => ?_) (fun h58 => ?_)
    · skip
      have h58w : ¬ rs_word tape taped (tk_sk tape taped next) < 0 := by omega
      refine ev_aload_n de_Mo_value_68 rfl rfl ?_
      refine ev_iload_n de_Mo_value_69 rfl rfl ?_
      refine ev_virtual (ci := 11) (mc := 0) (ms := 0) (bc := 0) (bs := 0) de_Mo_value_70 (co_Mo_makes hm0 hmB (tk_sk tape taped next)) kb_Mo_167 ⟨im_Mo_makes, se_Mo_makes⟩ rfl rfl rfl (Nat.le_of_ble_eq_true rfl) (by decide) (Or.inl (fun r w1 h => by rcases h with ⟨-, -, rfl⟩ | ⟨-, -, rfl⟩ <;> first | exact mo_Wn.trans mo_Wn.symm | rfl)) (fun r1 w1 hm1 => ?_)
      rcases hm1 with ⟨hm, rfl, rfl⟩ | ⟨hm, rfl, rfl⟩
      · skip
        refine ev_if_ne_f (tgt := 78) de_Mo_value_73 (by decide) (by decide) (by decide) ?_
        refine ev_iconst de_Mo_value_76 ?_
        exact ev_zreturn de_Mo_value_77 rfl (by decide) ⟨_, _, _, _, _, _, rfl, ⟨by omega, hb.2⟩, hnu, ⟨hm0, hmB⟩, hs, Or.inr ⟨rfl, by omega, by unfold rs_val; rw [if_neg hd, if_neg h58w, if_pos hm]⟩⟩
      · skip
        have hle := tk_le_b tape hb.2
        refine ev_if_ne_t (tgt := 78) de_Mo_value_73 (by decide) (by decide) (by decide) ?_
        refine ev_aload_n de_Mo_value_78 rfl rfl ?_
        refine ev_vn (ci := 11) de_Mo_value_79 (co_Mo_passWord ht (by omega) hb.2) kb_Mo_102 ⟨im_Mo_passWord, se_Mo_passWord⟩ rfl rfl rfl (Nat.le_of_ble_eq_true rfl) (by decide) rfl ?_
        refine ev_aload_n de_Mo_value_82 rfl rfl ?_
        refine ev_iconst de_Mo_value_83 ?_
        refine ev_iload_n de_Mo_value_84 rfl rfl ?_
        refine ev_vn (ci := 11) de_Mo_value_85 (co_Mo_puts tx0 tx1 (by omega) (by omega) 1 (rs_word tape taped (tk_sk tape taped next))) kb_Mo_159 ⟨im_Mo_puts, se_Mo_puts⟩ rfl rfl rfl (Nat.le_of_ble_eq_true rfl) (by decide) rfl ?_
        refine ev_iconst de_Mo_value_88 ?_
        exact ev_zreturn de_Mo_value_89 rfl (by decide) ⟨_, _, _, _, _, _, rfl, ⟨by omega, hle.2⟩, hnu, by omega, sg_fr_up hs (by omega) (by omega), Or.inl ⟨rfl, rfl, ⟨by rw [ab_upe]; omega, by rw [ab_upe]; omega⟩, by unfold rs_val; rw [if_neg hd, if_neg h58w, if_neg hm]; rfl⟩⟩
    · skip
      have h58w : rs_word tape taped (tk_sk tape taped next) < 0 := by omega
      have ef : tk_fl 0 0 (tk_sk tape taped next) = 1 + 8 * (tk_sk tape taped next) + 0 := rfl
      refine ev_aload_n de_Mo_value_61 rfl rfl ?_
      refine ev_iconst de_Mo_value_62 ?_
      refine ev_iload_n de_Mo_value_63 rfl rfl ?_
      refine ev_vv (ci := 11) de_Mo_value_64 (co_Mo_fails 0 (tk_sk tape taped next) (by decide)) kb_Mo_108 ⟨im_Mo_fails, se_Mo_fails⟩ rfl rfl rfl (Nat.le_of_ble_eq_true rfl) (by decide) rfl ?_
      exact ev_zreturn de_Mo_value_67 rfl (by decide) ⟨_, _, _, _, _, _, rfl, ⟨by omega, hb.2⟩, hnu, ⟨hm0, hmB⟩, hs, Or.inr ⟨rfl, by rw [ef]; omega, by unfold rs_val; rw [if_neg hd, if_pos h58w]; rfl⟩⟩
  · skip
    have hd : tk_dg tape taped (tk_sk tape taped next) = true := Decidable.byContradiction (fun z => by rw [if_neg z] at h18; exact h18 rfl)
    refine ev_aload_n de_Mo_value_21 rfl rfl ?_
    refine ev_iconst de_Mo_value_22 ?_
    refine ev_ldc (n := 99999) de_Mo_value_23 cn_Mo_163 rfl ?_
    refine ev_virtual (ci := 11) (mc := 0) (ms := 0) (bc := 0) (bs := 0) de_Mo_value_25 (cq_Mo_numberHere ht (by omega) hb.2 0 99999 (by decide) (by decide) rfl hnu) kb_Mo_164 ⟨im_Mo_numberHere, se_Mo_numberHere⟩ rfl rfl rfl (Nat.le_of_ble_eq_true rfl) (by decide) (Or.inl (fun r w1 h => by obtain ⟨nx, nu, wr, e, -⟩ := h; rw [e]; first | exact mo_Wn.trans mo_Wn.symm | rfl)) (fun r1 w1 hm1 => ?_)
    obtain ⟨nx1, nu1, wr1, rfl, hnx1, hnu1, hc1⟩ := hm1; rcases hc1 with ⟨rfl, rfl, hX1, hlo1, hhi1⟩ | ⟨rfl, hwr1, hX1⟩
    · skip
      have hp1 := rs_num_p hX1
      rw [hsk] at hp1
      refine ev_if_eq_f (tgt := 39) de_Mo_value_28 (by decide) (by decide) (by decide) ?_
      refine ev_aload_n de_Mo_value_31 rfl rfl ?_
      refine ev_iload_n de_Mo_value_32 rfl rfl ?_
      refine ev_virtual (ci := 11) (mc := 0) (ms := 0) (bc := 0) (bs := 0) de_Mo_value_33 (co_Mo_makes hm0 hmB (tk_sk tape taped next)) kb_Mo_167 ⟨im_Mo_makes, se_Mo_makes⟩ rfl rfl rfl (Nat.le_of_ble_eq_true rfl) (by decide) (Or.inl (fun r w1 h => by rcases h with ⟨-, -, rfl⟩ | ⟨-, -, rfl⟩ <;> first | exact mo_Wn.trans mo_Wn.symm | rfl)) (fun r1 w1 hm1 => ?_)
      rcases hm1 with ⟨hm, rfl, rfl⟩ | ⟨hm, rfl, rfl⟩
      · skip
        refine ev_if_ne_f (tgt := 41) de_Mo_value_36 (by decide) (by decide) (by decide) ?_
        refine ev_iconst de_Mo_value_39 ?_
        exact ev_zreturn de_Mo_value_40 rfl (by decide) ⟨_, _, _, _, _, _, rfl, hnx1, hnu1, ⟨hm0, hmB⟩, hs, Or.inr ⟨rfl, by omega, by unfold rs_val; rw [if_pos hd, hX1]; exact if_pos hm⟩⟩
      · skip
        refine ev_if_ne_t (tgt := 41) de_Mo_value_36 (by decide) (by decide) (by decide) ?_
        refine ev_aload_n de_Mo_value_41 rfl rfl ?_
        refine ev_iconst de_Mo_value_42 ?_
        refine ev_aload_n de_Mo_value_43 rfl rfl ?_
        refine ev_getfield de_Mo_value_44 rfl fl_Mo_112 rfl ?_
        refine ev_vn (ci := 11) de_Mo_value_47 (co_Mo_puts tx0 tx1 (by omega) (by omega) 0 nu1) kb_Mo_159 ⟨im_Mo_puts, se_Mo_puts⟩ rfl rfl rfl (Nat.le_of_ble_eq_true rfl) (by decide) rfl ?_
        refine ev_iconst de_Mo_value_50 ?_
        exact ev_zreturn de_Mo_value_51 rfl (by decide) ⟨_, _, _, _, _, _, rfl, hnx1, hnu1, by omega, sg_fr_up hs (by omega) (by omega), Or.inl ⟨rfl, rfl, ⟨by rw [ab_upe]; omega, by rw [ab_upe]; omega⟩, by unfold rs_val; rw [if_pos hd, hX1]; exact if_neg hm⟩⟩
    · skip
      refine ev_if_eq_t (tgt := 39) de_Mo_value_28 (by decide) (by decide) (by decide) ?_
      refine ev_iconst de_Mo_value_39 ?_
      exact ev_zreturn de_Mo_value_40 rfl (by decide) ⟨_, _, _, _, _, _, rfl, hnx1, hnu1, ⟨hm0, hmB⟩, hs, Or.inr ⟨rfl, hwr1, by unfold rs_val; rw [if_pos hd, hX1]⟩⟩
end MO
