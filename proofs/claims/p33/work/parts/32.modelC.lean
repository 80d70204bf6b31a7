section MO
variable {tape : Int → Int} {taped : Int} {rules : Int} {sign : Int → Int} {leng : Int → Int} {clause : Int → Int} {clauses : Int → Int} {read : Int → Int} {next : Int} {wrong : Int} {number : Int} {text : Int} {made : Int} {deep : Int} {lines : Int} {opn : Int → Int} {opened : Int} {stack : Int → Int64} {top : Int} {word : Int → Int64} {said : Int → Int} {xx : Int} {was : Int → Int} {undone : Int} {kept : Int → Int} {sumOf : Int → Int} {faced : Int → Int} {slotAt : Int → Int} {dayAt : Int → Int} {row : Int → Int} {bestRow : Int → Int} {tMany : Int} {tMost : Int} {drawX : Int64} {images : Int → Int} {imageX : Int → Int} {isMade : Int → Int}
theorem sp_ev_rk {word : Int → Int64} {code : Int → Int} {b e : Int} {z : Int64} (h : sp_ev word code b e = some z) : sp_rk word code (e - b).toNat b [] = some [z] := by
  unfold sp_ev at h
  cases hr : sp_rk word code (e - b).toNat b [] with
  | none => rw [hr] at h; cases h
  | some l =>
    rw [hr] at h
    rcases l with _ | ⟨a, _ | ⟨c, l⟩⟩
    · cases h
    · cases h; rfl
    · cases h
theorem sp_op_c {w1 w2 : Int → Int64} (hw : ∀ k, 0 ≤ k → k ≤ 11 → w1 k = w2 k) (o : Int) (st : List Int64) : sp_op w1 o st = sp_op w2 o st := by
  unfold sp_op
  by_cases c : 0 ≤ o ∧ o ≤ 2000000
  · rw [if_pos c, if_pos c]
    by_cases h0 : o % 16 = 0
    · rw [if_pos h0, if_pos h0]
    · rw [if_neg h0, if_neg h0]
      by_cases h1 : o % 16 = 1
      · rw [if_pos h1, if_pos h1]
        by_cases h2 : o / 16 ≤ 11
        · rw [if_pos h2, if_pos h2, hw _ (by omega) h2]
        · rw [if_neg h2, if_neg h2]
      · rw [if_neg h1, if_neg h1]
  · rw [if_neg c, if_neg c]
theorem sp_rk_c {w1 w2 : Int → Int64} (hw : ∀ k, 0 ≤ k → k ≤ 11 → w1 k = w2 k) (code : Int → Int) : ∀ (n : Nat) (i : Int) (st : List Int64), sp_rk w1 code n i st = sp_rk w2 code n i st
  | 0, _, _ => rfl
  | n + 1, i, st => by
    rw [sp_rk, sp_rk, sp_op_c hw]
    cases sp_op w2 (code i) st with
    | none => rfl
    | some st' => dsimp only; rw [sp_rk_c hw code n (i + 1) st']
theorem sp_ev_c {w1 w2 : Int → Int64} (hw : ∀ k, 0 ≤ k → k ≤ 11 → w1 k = w2 k) (code : Int → Int) (b e : Int) : sp_ev w1 code b e = sp_ev w2 code b e := by
  unfold sp_ev
  rw [sp_rk_c hw]
def sp_rb (word : Int → Int64) (sign clause : Int → Int) (rule : Int) : Nat → Int → Option Int64
  | 0, _ => some 0
  | n + 1, c => if clause (48 * rule + 4 * c + 2) < 0 then sp_ev word (fun j => sign (400 * rule + j)) (clause (48 * rule + 4 * c)) (clause (48 * rule + 4 * c + 1)) else match sp_ev word (fun j => sign (400 * rule + j)) (clause (48 * rule + 4 * c + 2)) (clause (48 * rule + 4 * c + 3)) with
    | none => none
    | some t => if t = 1 then sp_ev word (fun j => sign (400 * rule + j)) (clause (48 * rule + 4 * c)) (clause (48 * rule + 4 * c + 1)) else sp_rb word sign clause rule n (c + 1)
theorem sp_rb_c {w1 w2 : Int → Int64} (hw : ∀ k, 0 ≤ k → k ≤ 11 → w1 k = w2 k) (sign clause : Int → Int) (rule : Int) : ∀ (n : Nat) (c : Int), sp_rb w1 sign clause rule n c = sp_rb w2 sign clause rule n c
  | 0, _ => rfl
  | n + 1, c => by
    rw [sp_rb, sp_rb, sp_ev_c hw, sp_ev_c hw, sp_rb_c hw sign clause rule n (c + 1)]
/-- where a RULE's CLAUSES lie -/
def sp_cb (clause : Int → Int) (rule : Int) (m : Int) : Prop := 0 ≤ m ∧ m ≤ 12 ∧ ∀ c, 0 ≤ c → c < m → (0 ≤ clause (48 * rule + 4 * c) ∧ clause (48 * rule + 4 * c) ≤ clause (48 * rule + 4 * c + 1) ∧ clause (48 * rule + 4 * c + 1) ≤ 400) ∧ (clause (48 * rule + 4 * c + 2) = -1 ∨ (0 ≤ clause (48 * rule + 4 * c + 2) ∧ clause (48 * rule + 4 * c + 2) ≤ clause (48 * rule + 4 * c + 3) ∧ clause (48 * rule + 4 * c + 3) ≤ 400))
def sp_best (g : Int → Int) : Nat → Int
  | 0 => 0
  | k + 1 => if k = 0 ∨ sp_best g k < g (k : Int) then g (k : Int) else sp_best g k
def sp_lst (g : Int → Int) : Nat → Int
  | 0 => 0
  | k + 1 => if k = 0 ∨ g (k : Int) < sp_lst g k then g (k : Int) else sp_lst g k
theorem sp_best_b {g : Int → Int} : ∀ k : Nat, (∀ j : Int, 0 ≤ j → j < k → -45 ≤ g j ∧ g j ≤ 45) → -45 ≤ sp_best g k ∧ sp_best g k ≤ 45
  | 0, _ => by unfold sp_best; omega
  | k + 1, h => by
    have ih := sp_best_b k (fun j a b => h j a (by omega))
    have q := h (k : Int) (by omega) (by omega)
    unfold sp_best
    split <;> omega
theorem sp_lst_b {g : Int → Int} : ∀ k : Nat, (∀ j : Int, 0 ≤ j → j < k → -45 ≤ g j ∧ g j ≤ 45) → -45 ≤ sp_lst g k ∧ sp_lst g k ≤ 45
  | 0, _ => by unfold sp_lst; omega
  | k + 1, h => by
    have ih := sp_lst_b k (fun j a b => h j a (by omega))
    have q := h (k : Int) (by omega) (by omega)
    unfold sp_lst
    split <;> omega
def sp_wd (f : Int → Int) (w : Int → Int64) : Int → Int64 := ab_up (ab_up (ab_up (ab_up (ab_up (ab_up (ab_up (ab_up (ab_up (ab_up (ab_up (ab_up w 0 (Int64.ofInt (f 5))) 1 (Int64.ofInt (f 6))) 2 (Int64.ofInt (f 4))) 3 (Int64.ofInt (sp_rateNow f))) 4 (Int64.ofInt (f (34 + f 4)))) 5 (Int64.ofInt (sp_allLike f))) 6 (Int64.ofInt (sp_best (sp_likesOf f) (f 1).toNat))) 7 (Int64.ofInt (sp_lst (sp_likesOf f) (f 1).toNat))) 8 (Int64.ofInt (sp_votesOf f (sp_whoStay f)))) 9 (Int64.ofInt (sp_votesOf f (sp_every f)))) 10 (Int64.ofInt (sp_atGates f))) 11 (Int64.ofInt (f 8))
def sp_wf (f : Int → Int) : Int → Int64 := sp_wd f (fun _ => 0)
theorem sp_up_c {g g2 : Int → Int64} {i : Int} {v : Int64} {k : Int} (h : k ≠ i → g k = g2 k) : ab_up g i v k = ab_up g2 i v k := by
  by_cases e : k = i
  · subst e; rw [ab_upe, ab_upe]
  · rw [ab_upn _ _ e, ab_upn _ _ e, h e]
theorem sp_wd_wf (f : Int → Int) (w : Int → Int64) (k : Int) (h0 : 0 ≤ k) (h1 : k ≤ 11) : sp_wd f w k = sp_wf f k := by
  unfold sp_wf sp_wd
  exact sp_up_c (fun n11 => sp_up_c (fun n10 => sp_up_c (fun n9 => sp_up_c (fun n8 => sp_up_c (fun n7 => sp_up_c (fun n6 => sp_up_c (fun n5 => sp_up_c (fun n4 => sp_up_c (fun n3 => sp_up_c (fun n2 => sp_up_c (fun n1 => sp_up_c (fun n0 => absurd h1 (by omega)))))))))))))
def sp_clamp (n : Int64) : Int := if n < -3 then -3 else if 3 < n then 3 else n.toInt32.toInt
theorem sp_clamp_b (n : Int64) : -3 ≤ sp_clamp n ∧ sp_clamp n ≤ 3 := by
  unfold sp_clamp
  by_cases h1 : n < -3
  · rw [if_pos h1]; decide
  · rw [if_neg h1]
    by_cases h2 : 3 < n
    · rw [if_pos h2]; decide
    · rw [if_neg h2]
      have a1 : (-3 : Int64) ≤ n := Int64.not_lt.mp h1
      have a2 : n ≤ (3 : Int64) := Int64.not_lt.mp h2
      rw [Int64.le_iff_toInt_le] at a1 a2
      have b1 : (-3 : Int) ≤ n.toInt := a1
      have b2 : n.toInt ≤ (3 : Int) := a2
      rw [Int64.toInt_toInt32]
      have : n.toInt.bmod (2 ^ 32) = n.toInt := Int.bmod_eq_of_le (by omega) (by omega)
      omega
set_option maxRecDepth 10000 in
theorem co_Mo_reckons (tt bb ee : Int) (ht0 : 0 ≤ tt) (ht1 : tt ≤ 5) (hb0 : 0 ≤ bb) (hbe : bb ≤ ee) (he1 : ee ≤ 400) (z : Int64) (hz : sp_ev word (fun j => sign (400 * tt + j)) bb ee = some z) : ab_Mt g_G g_rs mt_Mo_reckons 1 0 0 [ab_R 0, ab_I tt, ab_I bb, ab_I ee] (mo_W tape taped rules sign leng clause clauses read next wrong number text made deep lines opn opened stack top word said xx was undone kept sumOf faced slotAt dayAt row bestRow tMany tMost drawX images imageX isMade) (fun r w2 => r = some (ab_J z) ∧ ∃ S T, w2 = (mo_W tape taped rules sign leng clause clauses read next wrong number text made deep lines opn opened (S) (T) word said xx was undone kept sumOf faced slotAt dayAt row bestRow tMany tMost drawX images imageX isMade)) := by
  refine ab_Mt.of rfl (Nat.le_of_ble_eq_true rfl) ?_
  show ab_Ev g_G g_rs mt_Mo_reckons _ _ _ 0 [some (ab_R 0), some (ab_I tt), some (ab_I bb), some (ab_I ee), none, none, none, none, none, none, none] [] _ _
  refine ev_aload_n de_Mo_reckons_0 rfl rfl ?_
  refine ev_iconst de_Mo_reckons_1 ?_
  refine ev_putfield de_Mo_reckons_2 rfl (fp_Mo_275 _) (Nat.le_of_ble_eq_true rfl) trivial ?_
  refine ev_world (w' := mo_W _ _ _ _ _ _ _ _ _ _ _ _ _ _ _ _ _ _ _ _ _ _ _ _ _ _ _ _ _ _ _ _ _ _ _ _ _) rfl ?_
  refine ev_iload_n de_Mo_reckons_5 rfl rfl ?_
  refine ev_istore (l' := [_, _, _, _, _, _, _, _, _, _, _]) de_Mo_reckons_6 (Nat.le_of_ble_eq_true rfl) rfl ?_
  exact lo_Mo_reckons tt bb ee ht0 ht1 hb0 he1 z ((ee - bb).toNat + 1) bb [] stack none none none none none none rfl rfl rfl (by omega) hbe (by omega) (fun i v h => by simp at h) (by decide) (sp_ev_rk hz)
theorem de_Mo_summedBy_0 : decode prog_14_method_78_code 0 = .ok (.iconst 0, 1) := by decide +kernel
theorem de_Mo_summedBy_1 : decode prog_14_method_78_code 1 = .ok (.istore_n 2, 1) := by decide +kernel
theorem de_Mo_summedBy_2 : decode prog_14_method_78_code 2 = .ok (.iload_n 2, 1) := by decide +kernel
theorem de_Mo_summedBy_3 : decode prog_14_method_78_code 3 = .ok (.aload_n 0, 1) := by decide +kernel
theorem de_Mo_summedBy_4 : decode prog_14_method_78_code 4 = .ok (.getfield 23, 3) := by decide +kernel
theorem de_Mo_summedBy_7 : decode prog_14_method_78_code 7 = .ok (.iload_n 1, 1) := by decide +kernel
theorem de_Mo_summedBy_8 : decode prog_14_method_78_code 8 = .ok (.iaload, 1) := by decide +kernel
theorem de_Mo_summedBy_9 : decode prog_14_method_78_code 9 = .ok (.if_icmp .ge 75, 3) := by decide +kernel
theorem de_Mo_summedBy_12 : decode prog_14_method_78_code 12 = .ok (.bipush 48, 2) := by decide +kernel
theorem de_Mo_summedBy_14 : decode prog_14_method_78_code 14 = .ok (.iload_n 1, 1) := by decide +kernel
theorem de_Mo_summedBy_15 : decode prog_14_method_78_code 15 = .ok (.imul, 1) := by decide +kernel
theorem de_Mo_summedBy_16 : decode prog_14_method_78_code 16 = .ok (.iconst 4, 1) := by decide +kernel
theorem de_Mo_summedBy_17 : decode prog_14_method_78_code 17 = .ok (.iload_n 2, 1) := by decide +kernel
theorem de_Mo_summedBy_18 : decode prog_14_method_78_code 18 = .ok (.imul, 1) := by decide +kernel
theorem de_Mo_summedBy_19 : decode prog_14_method_78_code 19 = .ok (.iadd, 1) := by decide +kernel
theorem de_Mo_summedBy_20 : decode prog_14_method_78_code 20 = .ok (.istore_n 3, 1) := by decide +kernel
theorem de_Mo_summedBy_21 : decode prog_14_method_78_code 21 = .ok (.aload_n 0, 1) := by decide +kernel
theorem de_Mo_summedBy_22 : decode prog_14_method_78_code 22 = .ok (.getfield 20, 3) := by decide +kernel
theorem de_Mo_summedBy_25 : decode prog_14_method_78_code 25 = .ok (.iload_n 3, 1) := by decide +kernel
theorem de_Mo_summedBy_26 : decode prog_14_method_78_code 26 = .ok (.iconst 2, 1) := by decide +kernel
theorem de_Mo_summedBy_27 : decode prog_14_method_78_code 27 = .ok (.iadd, 1) := by decide +kernel
theorem de_Mo_summedBy_28 : decode prog_14_method_78_code 28 = .ok (.iaload, 1) := by decide +kernel
theorem de_Mo_summedBy_29 : decode prog_14_method_78_code 29 = .ok (.ifCond .lt 29, 3) := by decide +kernel
theorem de_Mo_summedBy_32 : decode prog_14_method_78_code 32 = .ok (.aload_n 0, 1) := by decide +kernel
theorem de_Mo_summedBy_33 : decode prog_14_method_78_code 33 = .ok (.iload_n 1, 1) := by decide +kernel
theorem de_Mo_summedBy_34 : decode prog_14_method_78_code 34 = .ok (.aload_n 0, 1) := by decide +kernel
theorem de_Mo_summedBy_35 : decode prog_14_method_78_code 35 = .ok (.getfield 20, 3) := by decide +kernel
theorem de_Mo_summedBy_38 : decode prog_14_method_78_code 38 = .ok (.iload_n 3, 1) := by decide +kernel
theorem de_Mo_summedBy_39 : decode prog_14_method_78_code 39 = .ok (.iconst 2, 1) := by decide +kernel
theorem de_Mo_summedBy_40 : decode prog_14_method_78_code 40 = .ok (.iadd, 1) := by decide +kernel
theorem de_Mo_summedBy_41 : decode prog_14_method_78_code 41 = .ok (.iaload, 1) := by decide +kernel
theorem de_Mo_summedBy_42 : decode prog_14_method_78_code 42 = .ok (.aload_n 0, 1) := by decide +kernel
theorem de_Mo_summedBy_43 : decode prog_14_method_78_code 43 = .ok (.getfield 20, 3) := by decide +kernel
theorem de_Mo_summedBy_46 : decode prog_14_method_78_code 46 = .ok (.iload_n 3, 1) := by decide +kernel
theorem de_Mo_summedBy_47 : decode prog_14_method_78_code 47 = .ok (.iconst 3, 1) := by decide +kernel
theorem de_Mo_summedBy_48 : decode prog_14_method_78_code 48 = .ok (.iadd, 1) := by decide +kernel
theorem de_Mo_summedBy_49 : decode prog_14_method_78_code 49 = .ok (.iaload, 1) := by decide +kernel
theorem de_Mo_summedBy_50 : decode prog_14_method_78_code 50 = .ok (.invokevirtual 369, 3) := by decide +kernel
theorem de_Mo_summedBy_53 : decode prog_14_method_78_code 53 = .ok (.lconst 1, 1) := by decide +kernel
theorem de_Mo_summedBy_54 : decode prog_14_method_78_code 54 = .ok (.lcmp, 1) := by decide +kernel
theorem de_Mo_summedBy_55 : decode prog_14_method_78_code 55 = .ok (.ifCond .ne 23, 3) := by decide +kernel
theorem de_Mo_summedBy_58 : decode prog_14_method_78_code 58 = .ok (.aload_n 0, 1) := by decide +kernel
theorem de_Mo_summedBy_59 : decode prog_14_method_78_code 59 = .ok (.iload_n 1, 1) := by decide +kernel
theorem de_Mo_summedBy_60 : decode prog_14_method_78_code 60 = .ok (.aload_n 0, 1) := by decide +kernel
theorem de_Mo_summedBy_61 : decode prog_14_method_78_code 61 = .ok (.getfield 20, 3) := by decide +kernel
theorem de_Mo_summedBy_64 : decode prog_14_method_78_code 64 = .ok (.iload_n 3, 1) := by decide +kernel
theorem de_Mo_summedBy_65 : decode prog_14_method_78_code 65 = .ok (.iaload, 1) := by decide +kernel
theorem de_Mo_summedBy_66 : decode prog_14_method_78_code 66 = .ok (.aload_n 0, 1) := by decide +kernel
theorem de_Mo_summedBy_67 : decode prog_14_method_78_code 67 = .ok (.getfield 20, 3) := by decide +kernel
theorem de_Mo_summedBy_70 : decode prog_14_method_78_code 70 = .ok (.iload_n 3, 1) := by decide +kernel
theorem de_Mo_summedBy_71 : decode prog_14_method_78_code 71 = .ok (.iconst 1, 1) := by decide +kernel
theorem de_Mo_summedBy_72 : decode prog_14_method_78_code 72 = .ok (.iadd, 1) := by decide +kernel
theorem de_Mo_summedBy_73 : decode prog_14_method_78_code 73 = .ok (.iaload, 1) := by decide +kernel
theorem de_Mo_summedBy_74 : decode prog_14_method_78_code 74 = .ok (.invokevirtual 369, 3) := by decide +kernel
theorem de_Mo_summedBy_77 : decode prog_14_method_78_code 77 = .ok (.lreturn, 1) := by decide +kernel
theorem de_Mo_summedBy_78 : decode prog_14_method_78_code 78 = .ok (.iinc 2 1, 3) := by decide +kernel
theorem de_Mo_summedBy_81 : decode prog_14_method_78_code 81 = .ok (.goto (-79), 3) := by decide +kernel
theorem de_Mo_summedBy_84 : decode prog_14_method_78_code 84 = .ok (.lconst 0, 1) := by decide +kernel
theorem de_Mo_summedBy_85 : decode prog_14_method_78_code 85 = .ok (.lreturn, 1) := by decide +kernel
set_option maxRecDepth 10000 in
theorem lo_Mo_summedBy (rr : Int) (hr0 : 0 ≤ rr) (hr1 : rr ≤ 5) (hcb : sp_cb clause rr (clauses rr)) (z : Int64) : ∀ (n : Nat) (c : Int) (S : Int → Int64) (T : Int) (l3 : Option ab_V), 0 ≤ c → c ≤ clauses rr → clauses rr < c + n → sp_rb word sign clause rr (clauses rr - c).toNat c = some z → ab_Ev g_G g_rs mt_Mo_summedBy 2 0 0 2 [some (ab_R 0), some (ab_I rr), some (ab_I c), l3] [] (mo_W tape taped rules sign leng clause clauses read next wrong number text made deep lines opn opened (S) (T) word said xx was undone kept sumOf faced slotAt dayAt row bestRow tMany tMost drawX images imageX isMade) (fun r w2 => r = some (ab_J z) ∧ ∃ S T, w2 = (mo_W tape taped rules sign leng clause clauses read next wrong number text made deep lines opn opened (S) (T) word said xx was undone kept sumOf faced slotAt dayAt row bestRow tMany tMost drawX images imageX isMade)) := by
  intro n
  induction n with
  | zero =>
    intro c S T l3
    intro g0 g1 g2; omega
  | succ n ih =>
    intro c S T l3
    intro g0 g1 g2 hz
    obtain ⟨hc0, hc1, hcc⟩ := hcb
    refine ev_iload_n de_Mo_summedBy_2 rfl rfl ?_
    refine ev_aload_n de_Mo_summedBy_3 rfl rfl ?_
    refine ev_getfield de_Mo_summedBy_4 rfl fl_Mo_23 rfl ?_
    refine ev_iload_n de_Mo_summedBy_7 rfl rfl ?_
    refine ev_iaload de_Mo_summedBy_8 rfl (by omega) (by omega) (by omega) ?_
    refine ev_icmp_ge (tgt := 84) de_Mo_summedBy_9 (by decide) (by omega) (by omega) (fun h9 => ?_) (fun h9 => ?_)
    · skip
      refine ev_lconsti (n := 0) de_Mo_summedBy_84 (by decide) ?_
      rw [show (clauses rr - c).toNat = 0 by omega] at hz
      have e : (0 : Int64) = z := Option.some.inj hz
      exact ev_lreturn de_Mo_summedBy_85 rfl ⟨by rw [← e]; rfl, _, _, rfl⟩
    · skip
      have q := hcc c (by omega) (by omega)
      rw [show (clauses rr - c).toNat = (clauses rr - (c + 1)).toNat + 1 by omega, sp_rb] at hz
      refine ev_bipush de_Mo_summedBy_12 rfl ?_
      refine ev_iload_n de_Mo_summedBy_14 rfl rfl ?_
      refine ev_imul de_Mo_summedBy_15 ?_
      refine ev_iconst de_Mo_summedBy_16 ?_
      refine ev_iload_n de_Mo_summedBy_17 rfl rfl ?_
      refine ev_imul de_Mo_summedBy_18 ?_
      refine ev_iadd de_Mo_summedBy_19 ?_
      refine ev_istore_n (l' := [_, _, _, _]) de_Mo_summedBy_20 rfl (Nat.le_of_ble_eq_true rfl) rfl ?_
      refine ev_aload_n de_Mo_summedBy_21 rfl rfl ?_
      refine ev_getfield de_Mo_summedBy_22 rfl fl_Mo_20 rfl ?_
      refine ev_iload_n de_Mo_summedBy_25 rfl rfl ?_
      refine ev_iconst de_Mo_summedBy_26 ?_
      refine ev_iadd de_Mo_summedBy_27 ?_
      refine ev_iaload de_Mo_summedBy_28 rfl (by omega) (by omega) (by omega) ?_
      refine ev_if_lt (tgt := 58) de_Mo_summedBy_29 (by decide) (by omega) (fun h29 => ?_) (fun h29 => ?_)
      · skip
        rw [if_pos h29] at hz
        have hz1 := hz
        refine ev_aload_n de_Mo_summedBy_58 rfl rfl ?_
        refine ev_iload_n de_Mo_summedBy_59 rfl rfl ?_
        refine ev_aload_n de_Mo_summedBy_60 rfl rfl ?_
        refine ev_getfield de_Mo_summedBy_61 rfl fl_Mo_20 rfl ?_
        refine ev_iload_n de_Mo_summedBy_64 rfl rfl ?_
        refine ev_iaload de_Mo_summedBy_65 rfl (by omega) (by omega) (by omega) ?_
        refine ev_aload_n de_Mo_summedBy_66 rfl rfl ?_
        refine ev_getfield de_Mo_summedBy_67 rfl fl_Mo_20 rfl ?_
        refine ev_iload_n de_Mo_summedBy_70 rfl rfl ?_
        refine ev_iconst de_Mo_summedBy_71 ?_
        refine ev_iadd de_Mo_summedBy_72 ?_
        refine ev_iaload de_Mo_summedBy_73 rfl (by omega) (by omega) (by omega) ?_
        refine ev_virtual (ci := 11) (mc := 0) (ms := 0) (bc := 0) (bs := 0) de_Mo_summedBy_74 (co_Mo_reckons rr _ _ hr0 hr1 (by omega) (by omega) (by omega) z hz1) kb_Mo_369 ⟨im_Mo_reckons, se_Mo_reckons⟩ rfl rfl rfl (Nat.le_of_ble_eq_true rfl) (by decide) (Or.inl (fun _ _ h => by obtain ⟨-, S1, T1, e⟩ := h; rw [e]; first | exact mo_Wn.trans mo_Wn.symm | rfl)) (fun r1 w1 hm1 => ?_)
        obtain ⟨rfl, S1, T1, rfl⟩ := hm1
        exact ev_lreturn de_Mo_summedBy_77 rfl ⟨rfl, _, _, rfl⟩
      · skip
        rw [if_neg h29] at hz
        obtain ⟨t, ht⟩ : ∃ t, sp_ev word (fun j => sign (400 * rr + j)) (clause (48 * rr + 4 * c + 2)) (clause (48 * rr + 4 * c + 3)) = some t := by
          cases h : sp_ev word (fun j => sign (400 * rr + j)) (clause (48 * rr + 4 * c + 2)) (clause (48 * rr + 4 * c + 3)) with
          | none => rw [h] at hz; cases hz
          | some t => exact ⟨t, rfl⟩
        rw [ht] at hz
        dsimp only at hz
        refine ev_aload_n de_Mo_summedBy_32 rfl rfl ?_
        refine ev_iload_n de_Mo_summedBy_33 rfl rfl ?_
        refine ev_aload_n de_Mo_summedBy_34 rfl rfl ?_
        refine ev_getfield de_Mo_summedBy_35 rfl fl_Mo_20 rfl ?_
        refine ev_iload_n de_Mo_summedBy_38 rfl rfl ?_
        refine ev_iconst de_Mo_summedBy_39 ?_
        refine ev_iadd de_Mo_summedBy_40 ?_
        refine ev_iaload de_Mo_summedBy_41 rfl (by omega) (by omega) (by omega) ?_
        refine ev_aload_n de_Mo_summedBy_42 rfl rfl ?_
        refine ev_getfield de_Mo_summedBy_43 rfl fl_Mo_20 rfl ?_
        refine ev_iload_n de_Mo_summedBy_46 rfl rfl ?_
        refine ev_iconst de_Mo_summedBy_47 ?_
        refine ev_iadd de_Mo_summedBy_48 ?_
        refine ev_iaload de_Mo_summedBy_49 rfl (by omega) (by omega) (by omega) ?_
        refine ev_virtual (ci := 11) (mc := 0) (ms := 0) (bc := 0) (bs := 0) de_Mo_summedBy_50 (co_Mo_reckons rr _ _ hr0 hr1 (by omega) (by omega) (by omega) t ht) kb_Mo_369 ⟨im_Mo_reckons, se_Mo_reckons⟩ rfl rfl rfl (Nat.le_of_ble_eq_true rfl) (by decide) (Or.inl (fun _ _ h => by obtain ⟨-, S1, T1, e⟩ := h; rw [e]; first | exact mo_Wn.trans mo_Wn.symm | rfl)) (fun r1 w1 hm1 => ?_)
        obtain ⟨rfl, S1, T1, rfl⟩ := hm1
        refine ev_lconsti (n := 1) de_Mo_summedBy_53 (by decide) ?_
        refine ev_lcmp de_Mo_summedBy_54 ?_
        have q55 := ab_cmp0 t (Int64.ofInt 1)
        refine ev_if_ne (tgt := 78) de_Mo_summedBy_55 (by decide) (by omega) (fun h55 => ?_) (fun h55 => ?_)
        · skip
          have hz2 := hz
          rw [if_neg (fun e : t = 1 => h55 (q55.2.2.1.mpr e))] at hz2
          refine ev_iinc (l' := [_, _, _, _]) de_Mo_summedBy_78 rfl rfl ?_
          refine ev_goto (tgt := 2) de_Mo_summedBy_81 (by decide) ?_
          exact ih (c + 1) _ _ _ (by omega) (by omega) (by omega) hz2
        · skip
          have hz1 := hz
          rw [if_pos (show t = 1 from q55.2.2.1.mp h55)] at hz1
          refine ev_aload_n de_Mo_summedBy_58 rfl rfl ?_
          refine ev_iload_n de_Mo_summedBy_59 rfl rfl ?_
          refine ev_aload_n de_Mo_summedBy_60 rfl rfl ?_
          refine ev_getfield de_Mo_summedBy_61 rfl fl_Mo_20 rfl ?_
          refine ev_iload_n de_Mo_summedBy_64 rfl rfl ?_
          refine ev_iaload de_Mo_summedBy_65 rfl (by omega) (by omega) (by omega) ?_
          refine ev_aload_n de_Mo_summedBy_66 rfl rfl ?_
          refine ev_getfield de_Mo_summedBy_67 rfl fl_Mo_20 rfl ?_
          refine ev_iload_n de_Mo_summedBy_70 rfl rfl ?_
          refine ev_iconst de_Mo_summedBy_71 ?_
          refine ev_iadd de_Mo_summedBy_72 ?_
          refine ev_iaload de_Mo_summedBy_73 rfl (by omega) (by omega) (by omega) ?_
          refine ev_virtual (ci := 11) (mc := 0) (ms := 0) (bc := 0) (bs := 0) de_Mo_summedBy_74 (co_Mo_reckons rr _ _ hr0 hr1 (by omega) (by omega) (by omega) z hz1) kb_Mo_369 ⟨im_Mo_reckons, se_Mo_reckons⟩ rfl rfl rfl (Nat.le_of_ble_eq_true rfl) (by decide) (Or.inl (fun _ _ h => by obtain ⟨-, S1, T1, e⟩ := h; rw [e]; first | exact mo_Wn.trans mo_Wn.symm | rfl)) (fun r1 w1 hm1 => ?_)
          obtain ⟨rfl, S1, T1, rfl⟩ := hm1
          exact ev_lreturn de_Mo_summedBy_77 rfl ⟨rfl, _, _, rfl⟩
set_option maxRecDepth 10000 in
theorem co_Mo_summedBy (rr : Int) (hr0 : 0 ≤ rr) (hr1 : rr ≤ 5) (hcb : sp_cb clause rr (clauses rr)) (z : Int64) (hz : sp_rb word sign clause rr (clauses rr).toNat 0 = some z) : ab_Mt g_G g_rs mt_Mo_summedBy 2 0 0 [ab_R 0, ab_I rr] (mo_W tape taped rules sign leng clause clauses read next wrong number text made deep lines opn opened stack top word said xx was undone kept sumOf faced slotAt dayAt row bestRow tMany tMost drawX images imageX isMade) (fun r w2 => r = some (ab_J z) ∧ ∃ S T, w2 = (mo_W tape taped rules sign leng clause clauses read next wrong number text made deep lines opn opened (S) (T) word said xx was undone kept sumOf faced slotAt dayAt row bestRow tMany tMost drawX images imageX isMade)) := by
  refine ab_Mt.of rfl (Nat.le_of_ble_eq_true rfl) ?_
  show ab_Ev g_G g_rs mt_Mo_summedBy _ _ _ 0 [some (ab_R 0), some (ab_I rr), none, none] [] _ _
  refine ev_iconst de_Mo_summedBy_0 ?_
  refine ev_istore_n (l' := [_, _, _, _]) de_Mo_summedBy_1 rfl (Nat.le_of_ble_eq_true rfl) rfl ?_
  exact lo_Mo_summedBy rr hr0 hr1 hcb z ((clauses rr).toNat + 1) 0 stack top none (by omega) hcb.1 (by have := hcb.1; omega) (by rw [Int.sub_zero]; exact hz)
theorem de_Mo_words_0 : decode prog_14_method_77_code 0 = .ok (.iconst 0, 1) := by decide +kernel
theorem de_Mo_words_1 : decode prog_14_method_77_code 1 = .ok (.istore_n 1, 1) := by decide +kernel
theorem de_Mo_words_2 : decode prog_14_method_77_code 2 = .ok (.iconst 0, 1) := by decide +kernel
theorem de_Mo_words_3 : decode prog_14_method_77_code 3 = .ok (.istore_n 2, 1) := by decide +kernel
theorem de_Mo_words_4 : decode prog_14_method_77_code 4 = .ok (.iconst 0, 1) := by decide +kernel
theorem de_Mo_words_5 : decode prog_14_method_77_code 5 = .ok (.istore_n 3, 1) := by decide +kernel
theorem de_Mo_words_6 : decode prog_14_method_77_code 6 = .ok (.iload_n 3, 1) := by decide +kernel
theorem de_Mo_words_7 : decode prog_14_method_77_code 7 = .ok (.aload_n 0, 1) := by decide +kernel
theorem de_Mo_words_8 : decode prog_14_method_77_code 8 = .ok (.getfield 39, 3) := by decide +kernel
theorem de_Mo_words_11 : decode prog_14_method_77_code 11 = .ok (.iconst 1, 1) := by decide +kernel
theorem de_Mo_words_12 : decode prog_14_method_77_code 12 = .ok (.iaload, 1) := by decide +kernel
theorem de_Mo_words_13 : decode prog_14_method_77_code 13 = .ok (.if_icmp .ge 50, 3) := by decide +kernel
theorem de_Mo_words_16 : decode prog_14_method_77_code 16 = .ok (.aload_n 0, 1) := by decide +kernel
theorem de_Mo_words_17 : decode prog_14_method_77_code 17 = .ok (.iload_n 3, 1) := by decide +kernel
theorem de_Mo_words_18 : decode prog_14_method_77_code 18 = .ok (.invokevirtual 307, 3) := by decide +kernel
theorem de_Mo_words_21 : decode prog_14_method_77_code 21 = .ok (.istore 4, 2) := by decide +kernel
theorem de_Mo_words_23 : decode prog_14_method_77_code 23 = .ok (.iload_n 3, 1) := by decide +kernel
theorem de_Mo_words_24 : decode prog_14_method_77_code 24 = .ok (.ifCond .eq 9, 3) := by decide +kernel
theorem de_Mo_words_27 : decode prog_14_method_77_code 27 = .ok (.iload 4, 2) := by decide +kernel
theorem de_Mo_words_29 : decode prog_14_method_77_code 29 = .ok (.iload_n 1, 1) := by decide +kernel
theorem de_Mo_words_30 : decode prog_14_method_77_code 30 = .ok (.if_icmp .le 8, 3) := by decide +kernel
theorem de_Mo_words_33 : decode prog_14_method_77_code 33 = .ok (.iload 4, 2) := by decide +kernel
theorem de_Mo_words_35 : decode prog_14_method_77_code 35 = .ok (.goto 4, 3) := by decide +kernel
theorem de_Mo_words_38 : decode prog_14_method_77_code 38 = .ok (.iload_n 1, 1) := by decide +kernel
theorem de_Mo_words_39 : decode prog_14_method_77_code 39 = .ok (.istore_n 1, 1) := by decide +kernel
theorem de_Mo_words_40 : decode prog_14_method_77_code 40 = .ok (.iload_n 3, 1) := by decide +kernel
theorem de_Mo_words_41 : decode prog_14_method_77_code 41 = .ok (.ifCond .eq 9, 3) := by decide +kernel
theorem de_Mo_words_44 : decode prog_14_method_77_code 44 = .ok (.iload 4, 2) := by decide +kernel
theorem de_Mo_words_46 : decode prog_14_method_77_code 46 = .ok (.iload_n 2, 1) := by decide +kernel
theorem de_Mo_words_47 : decode prog_14_method_77_code 47 = .ok (.if_icmp .ge 8, 3) := by decide +kernel
theorem de_Mo_words_50 : decode prog_14_method_77_code 50 = .ok (.iload 4, 2) := by decide +kernel
theorem de_Mo_words_52 : decode prog_14_method_77_code 52 = .ok (.goto 4, 3) := by decide +kernel
theorem de_Mo_words_55 : decode prog_14_method_77_code 55 = .ok (.iload_n 2, 1) := by decide +kernel
theorem de_Mo_words_56 : decode prog_14_method_77_code 56 = .ok (.istore_n 2, 1) := by decide +kernel
theorem de_Mo_words_57 : decode prog_14_method_77_code 57 = .ok (.iinc 3 1, 3) := by decide +kernel
theorem de_Mo_words_60 : decode prog_14_method_77_code 60 = .ok (.goto (-54), 3) := by decide +kernel
theorem de_Mo_words_63 : decode prog_14_method_77_code 63 = .ok (.aload_n 0, 1) := by decide +kernel
theorem de_Mo_words_64 : decode prog_14_method_77_code 64 = .ok (.getfield 36, 3) := by decide +kernel
theorem de_Mo_words_67 : decode prog_14_method_77_code 67 = .ok (.iconst 0, 1) := by decide +kernel
theorem de_Mo_words_68 : decode prog_14_method_77_code 68 = .ok (.aload_n 0, 1) := by decide +kernel
theorem de_Mo_words_69 : decode prog_14_method_77_code 69 = .ok (.getfield 39, 3) := by decide +kernel
theorem de_Mo_words_72 : decode prog_14_method_77_code 72 = .ok (.iconst 5, 1) := by decide +kernel
theorem de_Mo_words_73 : decode prog_14_method_77_code 73 = .ok (.iaload, 1) := by decide +kernel
theorem de_Mo_words_74 : decode prog_14_method_77_code 74 = .ok (.i2l, 1) := by decide +kernel
theorem de_Mo_words_75 : decode prog_14_method_77_code 75 = .ok (.lastore, 1) := by decide +kernel
theorem de_Mo_words_76 : decode prog_14_method_77_code 76 = .ok (.aload_n 0, 1) := by decide +kernel
theorem de_Mo_words_77 : decode prog_14_method_77_code 77 = .ok (.getfield 36, 3) := by decide +kernel
theorem de_Mo_words_80 : decode prog_14_method_77_code 80 = .ok (.iconst 1, 1) := by decide +kernel
theorem de_Mo_words_81 : decode prog_14_method_77_code 81 = .ok (.aload_n 0, 1) := by decide +kernel
theorem de_Mo_words_82 : decode prog_14_method_77_code 82 = .ok (.getfield 39, 3) := by decide +kernel
theorem de_Mo_words_85 : decode prog_14_method_77_code 85 = .ok (.bipush 6, 2) := by decide +kernel
theorem de_Mo_words_87 : decode prog_14_method_77_code 87 = .ok (.iaload, 1) := by decide +kernel
theorem de_Mo_words_88 : decode prog_14_method_77_code 88 = .ok (.i2l, 1) := by decide +kernel
theorem de_Mo_words_89 : decode prog_14_method_77_code 89 = .ok (.lastore, 1) := by decide +kernel
theorem de_Mo_words_90 : decode prog_14_method_77_code 90 = .ok (.aload_n 0, 1) := by decide +kernel
theorem de_Mo_words_91 : decode prog_14_method_77_code 91 = .ok (.getfield 36, 3) := by decide +kernel
theorem de_Mo_words_94 : decode prog_14_method_77_code 94 = .ok (.iconst 2, 1) := by decide +kernel
theorem de_Mo_words_95 : decode prog_14_method_77_code 95 = .ok (.aload_n 0, 1) := by decide +kernel
theorem de_Mo_words_96 : decode prog_14_method_77_code 96 = .ok (.getfield 39, 3) := by decide +kernel
theorem de_Mo_words_99 : decode prog_14_method_77_code 99 = .ok (.iconst 4, 1) := by decide +kernel
theorem de_Mo_words_100 : decode prog_14_method_77_code 100 = .ok (.iaload, 1) := by decide +kernel
theorem de_Mo_words_101 : decode prog_14_method_77_code 101 = .ok (.i2l, 1) := by decide +kernel
theorem de_Mo_words_102 : decode prog_14_method_77_code 102 = .ok (.lastore, 1) := by decide +kernel
theorem de_Mo_words_103 : decode prog_14_method_77_code 103 = .ok (.aload_n 0, 1) := by decide +kernel
theorem de_Mo_words_104 : decode prog_14_method_77_code 104 = .ok (.getfield 36, 3) := by decide +kernel
theorem de_Mo_words_107 : decode prog_14_method_77_code 107 = .ok (.iconst 3, 1) := by decide +kernel
theorem de_Mo_words_108 : decode prog_14_method_77_code 108 = .ok (.aload_n 0, 1) := by decide +kernel
theorem de_Mo_words_109 : decode prog_14_method_77_code 109 = .ok (.invokevirtual 310, 3) := by decide +kernel
theorem de_Mo_words_112 : decode prog_14_method_77_code 112 = .ok (.i2l, 1) := by decide +kernel
theorem de_Mo_words_113 : decode prog_14_method_77_code 113 = .ok (.lastore, 1) := by decide +kernel
theorem de_Mo_words_114 : decode prog_14_method_77_code 114 = .ok (.aload_n 0, 1) := by decide +kernel
theorem de_Mo_words_115 : decode prog_14_method_77_code 115 = .ok (.getfield 36, 3) := by decide +kernel
theorem de_Mo_words_118 : decode prog_14_method_77_code 118 = .ok (.iconst 4, 1) := by decide +kernel
theorem de_Mo_words_119 : decode prog_14_method_77_code 119 = .ok (.aload_n 0, 1) := by decide +kernel
theorem de_Mo_words_120 : decode prog_14_method_77_code 120 = .ok (.getfield 39, 3) := by decide +kernel
theorem de_Mo_words_123 : decode prog_14_method_77_code 123 = .ok (.bipush 34, 2) := by decide +kernel
theorem de_Mo_words_125 : decode prog_14_method_77_code 125 = .ok (.aload_n 0, 1) := by decide +kernel
theorem de_Mo_words_126 : decode prog_14_method_77_code 126 = .ok (.getfield 39, 3) := by decide +kernel
theorem de_Mo_words_129 : decode prog_14_method_77_code 129 = .ok (.iconst 4, 1) := by decide +kernel
theorem de_Mo_words_130 : decode prog_14_method_77_code 130 = .ok (.iaload, 1) := by decide +kernel
theorem de_Mo_words_131 : decode prog_14_method_77_code 131 = .ok (.iadd, 1) := by decide +kernel
theorem de_Mo_words_132 : decode prog_14_method_77_code 132 = .ok (.iaload, 1) := by decide +kernel
theorem de_Mo_words_133 : decode prog_14_method_77_code 133 = .ok (.i2l, 1) := by decide +kernel
theorem de_Mo_words_134 : decode prog_14_method_77_code 134 = .ok (.lastore, 1) := by decide +kernel
theorem de_Mo_words_135 : decode prog_14_method_77_code 135 = .ok (.aload_n 0, 1) := by decide +kernel
theorem de_Mo_words_136 : decode prog_14_method_77_code 136 = .ok (.getfield 36, 3) := by decide +kernel
theorem de_Mo_words_139 : decode prog_14_method_77_code 139 = .ok (.iconst 5, 1) := by decide +kernel
theorem de_Mo_words_140 : decode prog_14_method_77_code 140 = .ok (.aload_n 0, 1) := by decide +kernel
theorem de_Mo_words_141 : decode prog_14_method_77_code 141 = .ok (.invokevirtual 354, 3) := by decide +kernel
theorem de_Mo_words_144 : decode prog_14_method_77_code 144 = .ok (.i2l, 1) := by decide +kernel
theorem de_Mo_words_145 : decode prog_14_method_77_code 145 = .ok (.lastore, 1) := by decide +kernel
theorem de_Mo_words_146 : decode prog_14_method_77_code 146 = .ok (.aload_n 0, 1) := by decide +kernel
theorem de_Mo_words_147 : decode prog_14_method_77_code 147 = .ok (.getfield 36, 3) := by decide +kernel
theorem de_Mo_words_150 : decode prog_14_method_77_code 150 = .ok (.bipush 6, 2) := by decide +kernel
theorem de_Mo_words_152 : decode prog_14_method_77_code 152 = .ok (.iload_n 1, 1) := by decide +kernel
theorem de_Mo_words_153 : decode prog_14_method_77_code 153 = .ok (.i2l, 1) := by decide +kernel
theorem de_Mo_words_154 : decode prog_14_method_77_code 154 = .ok (.lastore, 1) := by decide +kernel
theorem de_Mo_words_155 : decode prog_14_method_77_code 155 = .ok (.aload_n 0, 1) := by decide +kernel
theorem de_Mo_words_156 : decode prog_14_method_77_code 156 = .ok (.getfield 36, 3) := by decide +kernel
theorem de_Mo_words_159 : decode prog_14_method_77_code 159 = .ok (.bipush 7, 2) := by decide +kernel
theorem de_Mo_words_161 : decode prog_14_method_77_code 161 = .ok (.iload_n 2, 1) := by decide +kernel
theorem de_Mo_words_162 : decode prog_14_method_77_code 162 = .ok (.i2l, 1) := by decide +kernel
theorem de_Mo_words_163 : decode prog_14_method_77_code 163 = .ok (.lastore, 1) := by decide +kernel
theorem de_Mo_words_164 : decode prog_14_method_77_code 164 = .ok (.aload_n 0, 1) := by decide +kernel
theorem de_Mo_words_165 : decode prog_14_method_77_code 165 = .ok (.getfield 36, 3) := by decide +kernel
theorem de_Mo_words_168 : decode prog_14_method_77_code 168 = .ok (.bipush 8, 2) := by decide +kernel
theorem de_Mo_words_170 : decode prog_14_method_77_code 170 = .ok (.aload_n 0, 1) := by decide +kernel
theorem de_Mo_words_171 : decode prog_14_method_77_code 171 = .ok (.aload_n 0, 1) := by decide +kernel
theorem de_Mo_words_172 : decode prog_14_method_77_code 172 = .ok (.invokevirtual 357, 3) := by decide +kernel
theorem de_Mo_words_175 : decode prog_14_method_77_code 175 = .ok (.invokevirtual 360, 3) := by decide +kernel
theorem de_Mo_words_178 : decode prog_14_method_77_code 178 = .ok (.i2l, 1) := by decide +kernel
theorem de_Mo_words_179 : decode prog_14_method_77_code 179 = .ok (.lastore, 1) := by decide +kernel
theorem de_Mo_words_180 : decode prog_14_method_77_code 180 = .ok (.aload_n 0, 1) := by decide +kernel
theorem de_Mo_words_181 : decode prog_14_method_77_code 181 = .ok (.getfield 36, 3) := by decide +kernel
theorem de_Mo_words_184 : decode prog_14_method_77_code 184 = .ok (.bipush 9, 2) := by decide +kernel
theorem de_Mo_words_186 : decode prog_14_method_77_code 186 = .ok (.aload_n 0, 1) := by decide +kernel
theorem de_Mo_words_187 : decode prog_14_method_77_code 187 = .ok (.aload_n 0, 1) := by decide +kernel
theorem de_Mo_words_188 : decode prog_14_method_77_code 188 = .ok (.invokevirtual 363, 3) := by decide +kernel
theorem de_Mo_words_191 : decode prog_14_method_77_code 191 = .ok (.invokevirtual 360, 3) := by decide +kernel
theorem de_Mo_words_194 : decode prog_14_method_77_code 194 = .ok (.i2l, 1) := by decide +kernel
theorem de_Mo_words_195 : decode prog_14_method_77_code 195 = .ok (.lastore, 1) := by decide +kernel
theorem de_Mo_words_196 : decode prog_14_method_77_code 196 = .ok (.aload_n 0, 1) := by decide +kernel
theorem de_Mo_words_197 : decode prog_14_method_77_code 197 = .ok (.getfield 36, 3) := by decide +kernel
theorem de_Mo_words_200 : decode prog_14_method_77_code 200 = .ok (.bipush 10, 2) := by decide +kernel
theorem de_Mo_words_202 : decode prog_14_method_77_code 202 = .ok (.aload_n 0, 1) := by decide +kernel
theorem de_Mo_words_203 : decode prog_14_method_77_code 203 = .ok (.invokevirtual 366, 3) := by decide +kernel
theorem de_Mo_words_206 : decode prog_14_method_77_code 206 = .ok (.i2l, 1) := by decide +kernel
theorem de_Mo_words_207 : decode prog_14_method_77_code 207 = .ok (.lastore, 1) := by decide +kernel
theorem de_Mo_words_208 : decode prog_14_method_77_code 208 = .ok (.aload_n 0, 1) := by decide +kernel
theorem de_Mo_words_209 : decode prog_14_method_77_code 209 = .ok (.getfield 36, 3) := by decide +kernel
theorem de_Mo_words_212 : decode prog_14_method_77_code 212 = .ok (.bipush 11, 2) := by decide +kernel
theorem de_Mo_words_214 : decode prog_14_method_77_code 214 = .ok (.aload_n 0, 1) := by decide +kernel
theorem de_Mo_words_215 : decode prog_14_method_77_code 215 = .ok (.getfield 39, 3) := by decide +kernel
theorem de_Mo_words_218 : decode prog_14_method_77_code 218 = .ok (.bipush 8, 2) := by decide +kernel
theorem de_Mo_words_220 : decode prog_14_method_77_code 220 = .ok (.iaload, 1) := by decide +kernel
theorem de_Mo_words_221 : decode prog_14_method_77_code 221 = .ok (.i2l, 1) := by decide +kernel
theorem de_Mo_words_222 : decode prog_14_method_77_code 222 = .ok (.lastore, 1) := by decide +kernel
theorem de_Mo_words_223 : decode prog_14_method_77_code 223 = .ok (.return_, 1) := by decide +kernel
set_option maxRecDepth 10000 in
theorem lo_Mo_words {B : Int} (hI : sg_ok B said) : ∀ (n : Nat) (k : Nat) (l4 : Option ab_V), k ≤ (said 1).toNat → (said 1).toNat < k + n → ab_Ev g_G g_rs mt_Mo_words 5 0 0 6 [some (ab_R 0), some (ab_I (sp_best (sp_likesOf said) k)), some (ab_I (sp_lst (sp_likesOf said) k)), some (ab_I (k : Int)), l4] [] (mo_W tape taped rules sign leng clause clauses read next wrong number text made deep lines opn opened stack top word said xx was undone kept sumOf faced slotAt dayAt row bestRow tMany tMost drawX images imageX isMade) (ab_is none (mo_W tape taped rules sign leng clause clauses read next wrong number text made deep lines opn opened stack top (sp_wd said word) said xx was undone kept sumOf faced slotAt dayAt row bestRow tMany tMost drawX images imageX isMade)) := by
  intro n
  induction n with
  | zero =>
    intro k l4
    intro g1 g2; omega
  | succ n ih =>
    intro k l4
    intro g1 g2
    have hJ := hI; obtain ⟨i0, i1, i2, i3, i4, i5, i6, i7, i8, i9, i10, i11, i12, i13, i14, i15, i16, i17⟩ := sg_all hJ
    have hbo := fun (h : Int) (a : 0 ≤ h) (b : h < 7) => sp_likesOf_b hI a b
    have q1 := sp_best_b (g := sp_likesOf said) k (fun j a b => hbo j a (by omega))
    have q2 := sp_lst_b (g := sp_likesOf said) k (fun j a b => hbo j a (by omega))
    have qw := sp_who_b hI
    have qe := sp_every_b hI
    have qv1 := sp_votesOf_b hI (sp_whoStay said)
    have qv2 := sp_votesOf_b hI (sp_every said)
    have qal := sp_sumL_b hI (said 1).toNat (by omega)
    have qal : -45 * (((said 1).toNat : Nat) : Int) ≤ sp_allLike said ∧ sp_allLike said ≤ 45 * (((said 1).toNat : Nat) : Int) := qal
    have qag := sp_sumG_b said (said 1).toNat
    have qag : 0 * (((said 1).toNat : Nat) : Int) ≤ sp_atGates said ∧ sp_atGates said ≤ 1 * (((said 1).toNat : Nat) : Int) := qag
    have qr := sg_rate hI
    refine ev_iload_n de_Mo_words_6 rfl rfl ?_
    refine ev_aload_n de_Mo_words_7 rfl rfl ?_
    refine ev_getfield de_Mo_words_8 rfl fl_Mo_39 rfl ?_
    refine ev_iconst de_Mo_words_11 ?_
    refine ev_iaload de_Mo_words_12 rfl (by omega) (by omega) (by omega) ?_
    refine ev_icmp_ge (tgt := 63) de_Mo_words_13 (by decide) (by omega) (by omega) (fun h13 => ?_) (fun h13 => ?_)
    · skip
      have e : k = (said 1).toNat := by omega
      subst e
      refine ev_aload_n de_Mo_words_63 rfl rfl ?_
      refine ev_getfield de_Mo_words_64 rfl fl_Mo_36 rfl ?_
      refine ev_iconst de_Mo_words_67 ?_
      refine ev_aload_n de_Mo_words_68 rfl rfl ?_
      refine ev_getfield de_Mo_words_69 rfl fl_Mo_39 rfl ?_
      refine ev_iconst de_Mo_words_72 ?_
      refine ev_iaload de_Mo_words_73 rfl (by omega) (by omega) (by omega) ?_
      refine ev_i2l de_Mo_words_74 (by omega) ?_
      refine ev_lastore de_Mo_words_75 rfl (by omega) (by omega) (by omega) ?_
      refine ev_world (w' := mo_W _ _ _ _ _ _ _ _ _ _ _ _ _ _ _ _ _ _ _ _ _ _ _ _ _ _ _ _ _ _ _ _ _ _ _ _ _) rfl ?_
      refine ev_aload_n de_Mo_words_76 rfl rfl ?_
      refine ev_getfield de_Mo_words_77 rfl fl_Mo_36 rfl ?_
      refine ev_iconst de_Mo_words_80 ?_
      refine ev_aload_n de_Mo_words_81 rfl rfl ?_
      refine ev_getfield de_Mo_words_82 rfl fl_Mo_39 rfl ?_
      refine ev_bipush de_Mo_words_85 rfl ?_
      refine ev_iaload de_Mo_words_87 rfl (by omega) (by omega) (by omega) ?_
      refine ev_i2l de_Mo_words_88 (by omega) ?_
      refine ev_lastore de_Mo_words_89 rfl (by omega) (by omega) (by omega) ?_
      refine ev_world (w' := mo_W _ _ _ _ _ _ _ _ _ _ _ _ _ _ _ _ _ _ _ _ _ _ _ _ _ _ _ _ _ _ _ _ _ _ _ _ _) rfl ?_
      refine ev_aload_n de_Mo_words_90 rfl rfl ?_
      refine ev_getfield de_Mo_words_91 rfl fl_Mo_36 rfl ?_
      refine ev_iconst de_Mo_words_94 ?_
      refine ev_aload_n de_Mo_words_95 rfl rfl ?_
      refine ev_getfield de_Mo_words_96 rfl fl_Mo_39 rfl ?_
      refine ev_iconst de_Mo_words_99 ?_
      refine ev_iaload de_Mo_words_100 rfl (by omega) (by omega) (by omega) ?_
      refine ev_i2l de_Mo_words_101 (by omega) ?_
      refine ev_lastore de_Mo_words_102 rfl (by omega) (by omega) (by omega) ?_
      refine ev_world (w' := mo_W _ _ _ _ _ _ _ _ _ _ _ _ _ _ _ _ _ _ _ _ _ _ _ _ _ _ _ _ _ _ _ _ _ _ _ _ _) rfl ?_
      refine ev_aload_n de_Mo_words_103 rfl rfl ?_
      refine ev_getfield de_Mo_words_104 rfl fl_Mo_36 rfl ?_
      refine ev_iconst de_Mo_words_107 ?_
      refine ev_aload_n de_Mo_words_108 rfl rfl ?_
      refine ev_vv (ci := 11) de_Mo_words_109 (co_Mo_rateNow hI) kb_Mo_310 ⟨im_Mo_rateNow, se_Mo_rateNow⟩ rfl rfl rfl (Nat.le_of_ble_eq_true rfl) (by decide) rfl ?_
      refine ev_i2l de_Mo_words_112 (by omega) ?_
      refine ev_lastore de_Mo_words_113 rfl (by omega) (by omega) (by omega) ?_
      refine ev_world (w' := mo_W _ _ _ _ _ _ _ _ _ _ _ _ _ _ _ _ _ _ _ _ _ _ _ _ _ _ _ _ _ _ _ _ _ _ _ _ _) rfl ?_
      refine ev_aload_n de_Mo_words_114 rfl rfl ?_
      refine ev_getfield de_Mo_words_115 rfl fl_Mo_36 rfl ?_
      refine ev_iconst de_Mo_words_118 ?_
      refine ev_aload_n de_Mo_words_119 rfl rfl ?_
      refine ev_getfield de_Mo_words_120 rfl fl_Mo_39 rfl ?_
      refine ev_bipush de_Mo_words_123 rfl ?_
      refine ev_aload_n de_Mo_words_125 rfl rfl ?_
      refine ev_getfield de_Mo_words_126 rfl fl_Mo_39 rfl ?_
      refine ev_iconst de_Mo_words_129 ?_
      refine ev_iaload de_Mo_words_130 rfl (by omega) (by omega) (by omega) ?_
      refine ev_iadd de_Mo_words_131 ?_
      have qwn := i10 (34 + said 4) (by omega) (by omega)
      refine ev_iaload de_Mo_words_132 rfl (by omega) (by omega) (by omega) ?_
      refine ev_i2l de_Mo_words_133 (by omega) ?_
      refine ev_lastore de_Mo_words_134 rfl (by omega) (by omega) (by omega) ?_
      refine ev_world (w' := mo_W _ _ _ _ _ _ _ _ _ _ _ _ _ _ _ _ _ _ _ _ _ _ _ _ _ _ _ _ _ _ _ _ _ _ _ _ _) rfl ?_
      refine ev_aload_n de_Mo_words_135 rfl rfl ?_
      refine ev_getfield de_Mo_words_136 rfl fl_Mo_36 rfl ?_
      refine ev_iconst de_Mo_words_139 ?_
      refine ev_aload_n de_Mo_words_140 rfl rfl ?_
      refine ev_vv (ci := 11) de_Mo_words_141 (co_Mo_allLike hI) kb_Mo_354 ⟨im_Mo_allLike, se_Mo_allLike⟩ rfl rfl rfl (Nat.le_of_ble_eq_true rfl) (by decide) rfl ?_
      refine ev_i2l de_Mo_words_144 (by omega) ?_
      refine ev_lastore de_Mo_words_145 rfl (by omega) (by omega) (by omega) ?_
      refine ev_world (w' := mo_W _ _ _ _ _ _ _ _ _ _ _ _ _ _ _ _ _ _ _ _ _ _ _ _ _ _ _ _ _ _ _ _ _ _ _ _ _) rfl ?_
      refine ev_aload_n de_Mo_words_146 rfl rfl ?_
      refine ev_getfield de_Mo_words_147 rfl fl_Mo_36 rfl ?_
      refine ev_bipush de_Mo_words_150 rfl ?_
      refine ev_iload_n de_Mo_words_152 rfl rfl ?_
      refine ev_i2l de_Mo_words_153 (by omega) ?_
      refine ev_lastore de_Mo_words_154 rfl (by omega) (by omega) (by omega) ?_
      refine ev_world (w' := mo_W _ _ _ _ _ _ _ _ _ _ _ _ _ _ _ _ _ _ _ _ _ _ _ _ _ _ _ _ _ _ _ _ _ _ _ _ _) rfl ?_
      refine ev_aload_n de_Mo_words_155 rfl rfl ?_
      refine ev_getfield de_Mo_words_156 rfl fl_Mo_36 rfl ?_
      refine ev_bipush de_Mo_words_159 rfl ?_
      refine ev_iload_n de_Mo_words_161 rfl rfl ?_
      refine ev_i2l de_Mo_words_162 (by omega) ?_
      refine ev_lastore de_Mo_words_163 rfl (by omega) (by omega) (by omega) ?_
      refine ev_world (w' := mo_W _ _ _ _ _ _ _ _ _ _ _ _ _ _ _ _ _ _ _ _ _ _ _ _ _ _ _ _ _ _ _ _ _ _ _ _ _) rfl ?_
      refine ev_aload_n de_Mo_words_164 rfl rfl ?_
      refine ev_getfield de_Mo_words_165 rfl fl_Mo_36 rfl ?_
      refine ev_bipush de_Mo_words_168 rfl ?_
      refine ev_aload_n de_Mo_words_170 rfl rfl ?_
      refine ev_aload_n de_Mo_words_171 rfl rfl ?_
      refine ev_vv (ci := 11) de_Mo_words_172 (co_Mo_whoStay hI) kb_Mo_357 ⟨im_Mo_whoStay, se_Mo_whoStay⟩ rfl rfl rfl (Nat.le_of_ble_eq_true rfl) (by decide) rfl ?_
      refine ev_vv (ci := 11) de_Mo_words_175 (co_Mo_votesOf hI _ (by omega) (by omega)) kb_Mo_360 ⟨im_Mo_votesOf, se_Mo_votesOf⟩ rfl rfl rfl (Nat.le_of_ble_eq_true rfl) (by decide) rfl ?_
      refine ev_i2l de_Mo_words_178 (by show ab_in (sp_votesOf said (sp_whoStay said)); omega) ?_
      refine ev_lastore de_Mo_words_179 rfl (by omega) (by omega) (by omega) ?_
      refine ev_world (w' := mo_W _ _ _ _ _ _ _ _ _ _ _ _ _ _ _ _ _ _ _ _ _ _ _ _ _ _ _ _ _ _ _ _ _ _ _ _ _) rfl ?_
      refine ev_aload_n de_Mo_words_180 rfl rfl ?_
      refine ev_getfield de_Mo_words_181 rfl fl_Mo_36 rfl ?_
      refine ev_bipush de_Mo_words_184 rfl ?_
      refine ev_aload_n de_Mo_words_186 rfl rfl ?_
      refine ev_aload_n de_Mo_words_187 rfl rfl ?_
      refine ev_vv (ci := 11) de_Mo_words_188 (co_Mo_everyHouse hI) kb_Mo_363 ⟨im_Mo_everyHouse, se_Mo_everyHouse⟩ rfl rfl rfl (Nat.le_of_ble_eq_true rfl) (by decide) rfl ?_
      refine ev_vv (ci := 11) de_Mo_words_191 (co_Mo_votesOf hI _ (by omega) (by omega)) kb_Mo_360 ⟨im_Mo_votesOf, se_Mo_votesOf⟩ rfl rfl rfl (Nat.le_of_ble_eq_true rfl) (by decide) rfl ?_
      refine ev_i2l de_Mo_words_194 (by show ab_in (sp_votesOf said (sp_every said)); omega) ?_
      refine ev_lastore de_Mo_words_195 rfl (by omega) (by omega) (by omega) ?_
      refine ev_world (w' := mo_W _ _ _ _ _ _ _ _ _ _ _ _ _ _ _ _ _ _ _ _ _ _ _ _ _ _ _ _ _ _ _ _ _ _ _ _ _) rfl ?_
      refine ev_aload_n de_Mo_words_196 rfl rfl ?_
      refine ev_getfield de_Mo_words_197 rfl fl_Mo_36 rfl ?_
      refine ev_bipush de_Mo_words_200 rfl ?_
      refine ev_aload_n de_Mo_words_202 rfl rfl ?_
      refine ev_vv (ci := 11) de_Mo_words_203 (co_Mo_atGates hI) kb_Mo_366 ⟨im_Mo_atGates, se_Mo_atGates⟩ rfl rfl rfl (Nat.le_of_ble_eq_true rfl) (by decide) rfl ?_
      refine ev_i2l de_Mo_words_206 (by omega) ?_
      refine ev_lastore de_Mo_words_207 rfl (by omega) (by omega) (by omega) ?_
      refine ev_world (w' := mo_W _ _ _ _ _ _ _ _ _ _ _ _ _ _ _ _ _ _ _ _ _ _ _ _ _ _ _ _ _ _ _ _ _ _ _ _ _) rfl ?_
      refine ev_aload_n de_Mo_words_208 rfl rfl ?_
      refine ev_getfield de_Mo_words_209 rfl fl_Mo_36 rfl ?_
      refine ev_bipush de_Mo_words_212 rfl ?_
      refine ev_aload_n de_Mo_words_214 rfl rfl ?_
      refine ev_getfield de_Mo_words_215 rfl fl_Mo_39 rfl ?_
      refine ev_bipush de_Mo_words_218 rfl ?_
      refine ev_iaload de_Mo_words_220 rfl (by omega) (by omega) (by omega) ?_
      refine ev_i2l de_Mo_words_221 (by omega) ?_
      refine ev_lastore de_Mo_words_222 rfl (by omega) (by omega) (by omega) ?_
      refine ev_world (w' := mo_W _ _ _ _ _ _ _ _ _ _ _ _ _ _ _ _ _ _ _ _ _ _ _ _ _ _ _ _ _ _ _ _ _ _ _ _ _) rfl ?_
      exact ev_return de_Mo_words_223 rfl ⟨rfl, rfl⟩
    · skip
      have qk := hbo (k : Int) (by omega) (by omega)
      refine ev_aload_n de_Mo_words_16 rfl rfl ?_
      refine ev_iload_n de_Mo_words_17 rfl rfl ?_
      refine ev_vv (ci := 11) de_Mo_words_18 (co_Mo_likesOf hI _ (by omega) (by omega)) kb_Mo_307 ⟨im_Mo_likesOf, se_Mo_likesOf⟩ rfl rfl rfl (Nat.le_of_ble_eq_true rfl) (by decide) rfl ?_
      refine ev_istore (l' := [_, _, _, _, _]) de_Mo_words_21 (Nat.le_of_ble_eq_true rfl) rfl ?_
      refine ev_iload_n de_Mo_words_23 rfl rfl ?_
      refine ev_if_eq (tgt := 33) de_Mo_words_24 (by decide) (by omega) (fun h24 => ?_) (fun h24 => ?_)
      · skip
        have eb : sp_best (sp_likesOf said) (k + 1) = sp_likesOf said (k : Int) := if_pos (Or.inl (by omega))
        refine ev_iload de_Mo_words_33 rfl ?_
        refine ev_goto (tgt := 39) de_Mo_words_35 (by decide) ?_
        refine ev_istore_n (l' := [_, _, _, _, _]) de_Mo_words_39 rfl (Nat.le_of_ble_eq_true rfl) rfl ?_
        refine ev_iload_n de_Mo_words_40 rfl rfl ?_
        refine ev_if_eq (tgt := 50) de_Mo_words_41 (by decide) (by omega) (fun h41 => ?_) (fun h41 => ?_)
        · skip
          have el : sp_lst (sp_likesOf said) (k + 1) = sp_likesOf said (k : Int) := if_pos (Or.inl (by omega))
          refine ev_iload de_Mo_words_50 rfl ?_
          refine ev_goto (tgt := 56) de_Mo_words_52 (by decide) ?_
          refine ev_istore_n (l' := [_, _, _, _, _]) de_Mo_words_56 rfl (Nat.le_of_ble_eq_true rfl) rfl ?_
          refine ev_iinc (l' := [_, _, _, _, _]) de_Mo_words_57 rfl rfl ?_
          refine ev_goto (tgt := 6) de_Mo_words_60 (by decide) ?_
          refine ev_loc (l2 := [some (ab_R 0), some (ab_I (sp_best (sp_likesOf said) (k + 1))), some (ab_I (sp_lst (sp_likesOf said) (k + 1))), some (ab_I ((k + 1 : Nat) : Int)), _]) (by rw [eb, el]; rfl) ?_
          exact ih (k + 1) _ (by omega) (by omega)
        · skip
          refine ev_iload de_Mo_words_44 rfl ?_
          refine ev_iload_n de_Mo_words_46 rfl rfl ?_
          refine ev_icmp_ge (tgt := 55) de_Mo_words_47 (by decide) (by omega) (by omega) (fun h47 => ?_) (fun h47 => ?_)
          · skip
            have el : sp_lst (sp_likesOf said) (k + 1) = sp_lst (sp_likesOf said) k := if_neg (by omega)
            refine ev_iload_n de_Mo_words_55 rfl rfl ?_
            refine ev_istore_n (l' := [_, _, _, _, _]) de_Mo_words_56 rfl (Nat.le_of_ble_eq_true rfl) rfl ?_
            refine ev_iinc (l' := [_, _, _, _, _]) de_Mo_words_57 rfl rfl ?_
            refine ev_goto (tgt := 6) de_Mo_words_60 (by decide) ?_
            refine ev_loc (l2 := [some (ab_R 0), some (ab_I (sp_best (sp_likesOf said) (k + 1))), some (ab_I (sp_lst (sp_likesOf said) (k + 1))), some (ab_I ((k + 1 : Nat) : Int)), _]) (by rw [eb, el]; rfl) ?_
            exact ih (k + 1) _ (by omega) (by omega)
          · skip
            have el : sp_lst (sp_likesOf said) (k + 1) = sp_likesOf said (k : Int) := if_pos (Or.inr (by omega))
            refine ev_iload de_Mo_words_50 rfl ?_
            refine ev_goto (tgt := 56) de_Mo_words_52 (by decide) ?_
            refine ev_istore_n (l' := [_, _, _, _, _]) de_Mo_words_56 rfl (Nat.le_of_ble_eq_true rfl) rfl ?_
            refine ev_iinc (l' := [_, _, _, _, _]) de_Mo_words_57 rfl rfl ?_
            refine ev_goto (tgt := 6) de_Mo_words_60 (by decide) ?_
            refine ev_loc (l2 := [some (ab_R 0), some (ab_I (sp_best (sp_likesOf said) (k + 1))), some (ab_I (sp_lst (sp_likesOf said) (k + 1))), some (ab_I ((k + 1 : Nat) : Int)), _]) (by rw [eb, el]; rfl) ?_
            exact ih (k + 1) _ (by omega) (by omega)
      · skip
        refine ev_iload de_Mo_words_27 rfl ?_
        refine ev_iload_n de_Mo_words_29 rfl rfl ?_
        refine ev_icmp_le (tgt := 38) de_Mo_words_30 (by decide) (by omega) (by omega) (fun h30 => ?_) (fun h30 => ?_)
        · skip
          have eb : sp_best (sp_likesOf said) (k + 1) = sp_best (sp_likesOf said) k := if_neg (by omega)
          refine ev_iload_n de_Mo_words_38 rfl rfl ?_
          refine ev_istore_n (l' := [_, _, _, _, _]) de_Mo_words_39 rfl (Nat.le_of_ble_eq_true rfl) rfl ?_
          refine ev_iload_n de_Mo_words_40 rfl rfl ?_
          refine ev_if_eq (tgt := 50) de_Mo_words_41 (by decide) (by omega) (fun h41 => ?_) (fun h41 => ?_)
          · skip
            have el : sp_lst (sp_likesOf said) (k + 1) = sp_likesOf said (k : Int) := if_pos (Or.inl (by omega))
            refine ev_iload de_Mo_words_50 rfl ?_
            refine ev_goto (tgt := 56) de_Mo_words_52 (by decide) ?_
            refine ev_istore_n (l' := [_, _, _, _, _]) de_Mo_words_56 rfl (Nat.le_of_ble_eq_true rfl) rfl ?_
            refine ev_iinc (l' := [_, _, _, _, _]) de_Mo_words_57 rfl rfl ?_
            refine ev_goto (tgt := 6) de_Mo_words_60 (by decide) ?_
            refine ev_loc (l2 := [some (ab_R 0), some (ab_I (sp_best (sp_likesOf said) (k + 1))), some (ab_I (sp_lst (sp_likesOf said) (k + 1))), some (ab_I ((k + 1 : Nat) : Int)), _]) (by rw [eb, el]; rfl) ?_
            exact ih (k + 1) _ (by omega) (by omega)
          · skip
            refine ev_iload de_Mo_words_44 rfl ?_
            refine ev_iload_n de_Mo_words_46 rfl rfl ?_
            refine ev_icmp_ge (tgt := 55) de_Mo_words_47 (by decide) (by omega) (by omega) (fun h47 => ?_) (fun h47 => ?_)
            · skip
              have el : sp_lst (sp_likesOf said) (k + 1) = sp_lst (sp_likesOf said) k := if_neg (by omega)
              refine ev_iload_n de_Mo_words_55 rfl rfl ?_
              refine ev_istore_n (l' := [_, _, _, _, _]) de_Mo_words_56 rfl (Nat.le_of_ble_eq_true rfl) rfl ?_
              refine ev_iinc (l' := [_, _, _, _, _]) de_Mo_words_57 rfl rfl ?_
              refine ev_goto (tgt := 6) de_Mo_words_60 (by decide) ?_
              refine ev_loc (l2 := [some (ab_R 0), some (ab_I (sp_best (sp_likesOf said) (k + 1))), some (ab_I (sp_lst (sp_likesOf said) (k + 1))), some (ab_I ((k + 1 : Nat) : Int)), _]) (by rw [eb, el]; rfl) ?_
              exact ih (k + 1) _ (by omega) (by omega)
            · skip
              have el : sp_lst (sp_likesOf said) (k + 1) = sp_likesOf said (k : Int) := if_pos (Or.inr (by omega))
              refine ev_iload de_Mo_words_50 rfl ?_
              refine ev_goto (tgt := 56) de_Mo_words_52 (by decide) ?_
              refine ev_istore_n (l' := [_, _, _, _, _]) de_Mo_words_56 rfl (Nat.le_of_ble_eq_true rfl) rfl ?_
              refine ev_iinc (l' := [_, _, _, _, _]) de_Mo_words_57 rfl rfl ?_
              refine ev_goto (tgt := 6) de_Mo_words_60 (by decide) ?_
              refine ev_loc (l2 := [some (ab_R 0), some (ab_I (sp_best (sp_likesOf said) (k + 1))), some (ab_I (sp_lst (sp_likesOf said) (k + 1))), some (ab_I ((k + 1 : Nat) : Int)), _]) (by rw [eb, el]; rfl) ?_
              exact ih (k + 1) _ (by omega) (by omega)
        · skip
          have eb : sp_best (sp_likesOf said) (k + 1) = sp_likesOf said (k : Int) := if_pos (Or.inr (by omega))
          refine ev_iload de_Mo_words_33 rfl ?_
          refine ev_goto (tgt := 39) de_Mo_words_35 (by decide) ?_
          refine ev_istore_n (l' := [_, _, _, _, _]) de_Mo_words_39 rfl (Nat.le_of_ble_eq_true rfl) rfl ?_
          refine ev_iload_n de_Mo_words_40 rfl rfl ?_
          refine ev_if_eq (tgt := 50) de_Mo_words_41 (by decide) (by omega) (fun h41 => ?_) (fun h41 => ?_)
          · skip
            have el : sp_lst (sp_likesOf said) (k + 1) = sp_likesOf said (k : Int) := if_pos (Or.inl (by omega))
            refine ev_iload de_Mo_words_50 rfl ?_
            refine ev_goto (tgt := 56) de_Mo_words_52 (by decide) ?_
            refine ev_istore_n (l' := [_, _, _, _, _]) de_Mo_words_56 rfl (Nat.le_of_ble_eq_true rfl) rfl ?_
            refine ev_iinc (l' := [_, _, _, _, _]) de_Mo_words_57 rfl rfl ?_
            refine ev_goto (tgt := 6) de_Mo_words_60 (by decide) ?_
            refine ev_loc (l2 := [some (ab_R 0), some (ab_I (sp_best (sp_likesOf said) (k + 1))), some (ab_I (sp_lst (sp_likesOf said) (k + 1))), some (ab_I ((k + 1 : Nat) : Int)), _]) (by rw [eb, el]; rfl) ?_
            exact ih (k + 1) _ (by omega) (by omega)
          · skip
            refine ev_iload de_Mo_words_44 rfl ?_
            refine ev_iload_n de_Mo_words_46 rfl rfl ?_
            refine ev_icmp_ge (tgt := 55) de_Mo_words_47 (by decide) (by omega) (by omega) (fun h47 => ?_) (fun h47 => ?_)
            · skip
              have el : sp_lst (sp_likesOf said) (k + 1) = sp_lst (sp_likesOf said) k := if_neg (by omega)
              refine ev_iload_n de_Mo_words_55 rfl rfl ?_
              refine ev_istore_n (l' := [_, _, _, _, _]) de_Mo_words_56 rfl (Nat.le_of_ble_eq_true rfl) rfl ?_
              refine ev_iinc (l' := [_, _, _, _, _]) de_Mo_words_57 rfl rfl ?_
              refine ev_goto (tgt := 6) de_Mo_words_60 (by decide) ?_
              refine ev_loc (l2 := [some (ab_R 0), some (ab_I (sp_best (sp_likesOf said) (k + 1))), some (ab_I (sp_lst (sp_likesOf said) (k + 1))), some (ab_I ((k + 1 : Nat) : Int)), _]) (by rw [eb, el]; rfl) ?_
              exact ih (k + 1) _ (by omega) (by omega)
            · skip
              have el : sp_lst (sp_likesOf said) (k + 1) = sp_likesOf said (k : Int) := if_pos (Or.inr (by omega))
              refine ev_iload de_Mo_words_50 rfl ?_
              refine ev_goto (tgt := 56) de_Mo_words_52 (by decide) ?_
              refine ev_istore_n (l' := [_, _, _, _, _]) de_Mo_words_56 rfl (Nat.le_of_ble_eq_true rfl) rfl ?_
              refine ev_iinc (l' := [_, _, _, _, _]) de_Mo_words_57 rfl rfl ?_
              refine ev_goto (tgt := 6) de_Mo_words_60 (by decide) ?_
              refine ev_loc (l2 := [some (ab_R 0), some (ab_I (sp_best (sp_likesOf said) (k + 1))), some (ab_I (sp_lst (sp_likesOf said) (k + 1))), some (ab_I ((k + 1 : Nat) : Int)), _]) (by rw [eb, el]; rfl) ?_
              exact ih (k + 1) _ (by omega) (by omega)
set_option maxRecDepth 10000 in
theorem co_Mo_words {B : Int} (hI : sg_ok B said) : ab_Mt g_G g_rs mt_Mo_words 5 0 0 [ab_R 0] (mo_W tape taped rules sign leng clause clauses read next wrong number text made deep lines opn opened stack top word said xx was undone kept sumOf faced slotAt dayAt row bestRow tMany tMost drawX images imageX isMade) (ab_is none (mo_W tape taped rules sign leng clause clauses read next wrong number text made deep lines opn opened stack top (sp_wd said word) said xx was undone kept sumOf faced slotAt dayAt row bestRow tMany tMost drawX images imageX isMade)) := by
  refine ab_Mt.of rfl (Nat.le_of_ble_eq_true rfl) ?_
  show ab_Ev g_G g_rs mt_Mo_words _ _ _ 0 [some (ab_R 0), none, none, none, none] [] _ _
  refine ev_iconst de_Mo_words_0 ?_
  refine ev_istore_n (l' := [_, _, _, _, _]) de_Mo_words_1 rfl (Nat.le_of_ble_eq_true rfl) rfl ?_
  refine ev_iconst de_Mo_words_2 ?_
  refine ev_istore_n (l' := [_, _, _, _, _]) de_Mo_words_3 rfl (Nat.le_of_ble_eq_true rfl) rfl ?_
  refine ev_iconst de_Mo_words_4 ?_
  refine ev_istore_n (l' := [_, _, _, _, _]) de_Mo_words_5 rfl (Nat.le_of_ble_eq_true rfl) rfl ?_
  have hJ := hI; obtain ⟨i0, i1, i2, i3, i4, i5, i6, i7, i8, i9, i10, i11, i12, i13, i14, i15, i16, i17⟩ := sg_all hJ
  exact lo_Mo_words hI ((said 1).toNat + 1) 0 none (by omega) (by omega)
end MO
