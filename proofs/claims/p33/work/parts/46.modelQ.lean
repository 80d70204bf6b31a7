section MO
variable {tape : Int → Int} {taped : Int} {rules : Int} {sign : Int → Int} {leng : Int → Int} {clause : Int → Int} {clauses : Int → Int} {read : Int → Int} {next : Int} {wrong : Int} {number : Int} {text : Int} {made : Int} {deep : Int} {lines : Int} {opn : Int → Int} {opened : Int} {stack : Int → Int64} {top : Int} {word : Int → Int64} {said : Int → Int} {xx : Int} {was : Int → Int} {undone : Int} {kept : Int → Int} {sumOf : Int → Int} {faced : Int → Int} {slotAt : Int → Int} {dayAt : Int → Int} {row : Int → Int} {bestRow : Int → Int} {tMany : Int} {tMost : Int} {drawX : Int64} {images : Int → Int} {imageX : Int → Int} {isMade : Int → Int}
/-! a FACT: what opens it, then what is compared -/
abbrev pk : Type := Int × Int × (Int → Int) × (Int → Int) × List Int
theorem dc_11 (K : List Int) : dc (11 :: K) = dc K + 1 := by
  show dc K + (if (11 : Int) = 91 ∨ (11 : Int) = 11 then 1 else 0) = _
  rw [if_pos (Or.inr rfl)]
theorem dc_91 (K : List Int) : dc (91 :: K) = dc K + 1 := by
  show dc K + (if (91 : Int) = 91 ∨ (91 : Int) = 11 then 1 else 0) = _
  rw [if_pos (Or.inl rfl)]
def rs_fact (tape : Int → Int) (taped t : Int) : Nat → Int → Int → (Int → Int) → (Int → Int) → List Int → Except Int pk
  | 0, _, _, _, _, _ => .error 0
  | n + 1, nx, md, le, sg, K => if tk_isI tape taped (tk_sk tape taped nx) (Int64.ofInt 7237492) = 1 then (if dc K = 10 then .error (1 + 8 * tk_sk tape taped nx + 2) else rs_fact tape taped t n (tk_le tape taped (tk_sk tape taped nx)) md le sg (11 :: K))
    else if tk_ch tape taped (tk_sk tape taped nx) = 91 then (if dc K = 10 then .error (1 + 8 * tk_sk tape taped nx + 2) else rs_fact tape taped t n (tk_sk tape taped nx + 1) md le sg (91 :: K))
    else match rs_cmp tape taped t (tk_sk tape taped nx) md le sg with
      | .error e => .error e
      | .ok (n1, md1, le1, sg1) => .ok (n1, md1, le1, sg1, K)
def pu (tape : Int → Int) (taped : Int) (rules : Int) (clause : Int → Int) (clauses : Int → Int) (read : Int → Int) (text : Int) (lines : Int) (stack : Int → Int64) (top : Int) (word : Int → Int64) (said : Int → Int) (xx : Int) (was : Int → Int) (undone : Int) (kept : Int → Int) (sumOf : Int → Int) (faced : Int → Int) (slotAt : Int → Int) (dayAt : Int → Int) (row : Int → Int) (bestRow : Int → Int) (tMany : Int) (tMost : Int) (drawX : Int64) (images : Int → Int) (imageX : Int → Int) (isMade : Int → Int) (c b0 : Int) (s0 : Int → Int) (X : Except Int pk) : Option ab_V → ab_W → Prop := fun r w2 => ∃ (nx nu wr mk : Int) (le sg op : Int → Int) (od dp : Int), w2 = (mo_W tape taped rules (sg) (le) clause clauses read (nx) (wr) (nu) text (mk) (dp) lines (op) (od) stack top word said xx was undone kept sumOf faced slotAt dayAt row bestRow tMany tMost drawX images imageX isMade) ∧ (0 ≤ nx ∧ nx ≤ taped) ∧ ab_in nu ∧ (0 ≤ mk ∧ mk ≤ 60) ∧ sg_fr text s0 sg ∧ ((∃ K : List Int, r = some (ab_I 1) ∧ wr = 0 ∧ (b0 ≤ le text ∧ le text + (K.length : Int) - nx ≤ c) ∧ od = (K.length : Int) ∧ dp = dc K ∧ st_ok op K ∧ st_el K ∧ dc K ≤ 10 ∧ X = .ok (nx, mk, le, sg, K)) ∨ (r = some (ab_I 0) ∧ (1 ≤ wr ∧ wr ≤ 10000) ∧ X = .error wr))
theorem de_Mo_fact_0 : decode prog_14_method_26_code 0 = .ok (.iconst 1, 1) := by decide +kernel
theorem de_Mo_fact_1 : decode prog_14_method_26_code 1 = .ok (.istore_n 1, 1) := by decide +kernel
theorem de_Mo_fact_2 : decode prog_14_method_26_code 2 = .ok (.iload_n 1, 1) := by decide +kernel
theorem de_Mo_fact_3 : decode prog_14_method_26_code 3 = .ok (.ifCond .eq 72, 3) := by decide +kernel
theorem de_Mo_fact_6 : decode prog_14_method_26_code 6 = .ok (.iconst 0, 1) := by decide +kernel
theorem de_Mo_fact_7 : decode prog_14_method_26_code 7 = .ok (.istore_n 1, 1) := by decide +kernel
theorem de_Mo_fact_8 : decode prog_14_method_26_code 8 = .ok (.aload_n 0, 1) := by decide +kernel
theorem de_Mo_fact_9 : decode prog_14_method_26_code 9 = .ok (.invokevirtual 90, 3) := by decide +kernel
theorem de_Mo_fact_12 : decode prog_14_method_26_code 12 = .ok (.istore_n 2, 1) := by decide +kernel
theorem de_Mo_fact_13 : decode prog_14_method_26_code 13 = .ok (.aload_n 0, 1) := by decide +kernel
theorem de_Mo_fact_14 : decode prog_14_method_26_code 14 = .ok (.ldc2_w 183, 3) := by decide +kernel
theorem de_Mo_fact_17 : decode prog_14_method_26_code 17 = .ok (.invokevirtual 98, 3) := by decide +kernel
theorem de_Mo_fact_20 : decode prog_14_method_26_code 20 = .ok (.ifCond .eq 23, 3) := by decide +kernel
theorem de_Mo_fact_23 : decode prog_14_method_26_code 23 = .ok (.aload_n 0, 1) := by decide +kernel
theorem de_Mo_fact_24 : decode prog_14_method_26_code 24 = .ok (.bipush 11, 2) := by decide +kernel
theorem de_Mo_fact_26 : decode prog_14_method_26_code 26 = .ok (.invokevirtual 185, 3) := by decide +kernel
theorem de_Mo_fact_29 : decode prog_14_method_26_code 29 = .ok (.ifCond .ne 5, 3) := by decide +kernel
theorem de_Mo_fact_32 : decode prog_14_method_26_code 32 = .ok (.iconst 0, 1) := by decide +kernel
theorem de_Mo_fact_33 : decode prog_14_method_26_code 33 = .ok (.ireturn, 1) := by decide +kernel
theorem de_Mo_fact_34 : decode prog_14_method_26_code 34 = .ok (.aload_n 0, 1) := by decide +kernel
theorem de_Mo_fact_35 : decode prog_14_method_26_code 35 = .ok (.invokevirtual 102, 3) := by decide +kernel
theorem de_Mo_fact_38 : decode prog_14_method_26_code 38 = .ok (.iconst 1, 1) := by decide +kernel
theorem de_Mo_fact_39 : decode prog_14_method_26_code 39 = .ok (.istore_n 1, 1) := by decide +kernel
theorem de_Mo_fact_40 : decode prog_14_method_26_code 40 = .ok (.goto 32, 3) := by decide +kernel
theorem de_Mo_fact_43 : decode prog_14_method_26_code 43 = .ok (.iload_n 2, 1) := by decide +kernel
theorem de_Mo_fact_44 : decode prog_14_method_26_code 44 = .ok (.bipush 91, 2) := by decide +kernel
theorem de_Mo_fact_46 : decode prog_14_method_26_code 46 = .ok (.if_icmp .ne 26, 3) := by decide +kernel
theorem de_Mo_fact_49 : decode prog_14_method_26_code 49 = .ok (.aload_n 0, 1) := by decide +kernel
theorem de_Mo_fact_50 : decode prog_14_method_26_code 50 = .ok (.bipush 91, 2) := by decide +kernel
theorem de_Mo_fact_52 : decode prog_14_method_26_code 52 = .ok (.invokevirtual 185, 3) := by decide +kernel
theorem de_Mo_fact_55 : decode prog_14_method_26_code 55 = .ok (.ifCond .ne 5, 3) := by decide +kernel
theorem de_Mo_fact_58 : decode prog_14_method_26_code 58 = .ok (.iconst 0, 1) := by decide +kernel
theorem de_Mo_fact_59 : decode prog_14_method_26_code 59 = .ok (.ireturn, 1) := by decide +kernel
theorem de_Mo_fact_60 : decode prog_14_method_26_code 60 = .ok (.aload_n 0, 1) := by decide +kernel
theorem de_Mo_fact_61 : decode prog_14_method_26_code 61 = .ok (.dup, 1) := by decide +kernel
theorem de_Mo_fact_62 : decode prog_14_method_26_code 62 = .ok (.getfield 87, 3) := by decide +kernel
theorem de_Mo_fact_65 : decode prog_14_method_26_code 65 = .ok (.iconst 1, 1) := by decide +kernel
theorem de_Mo_fact_66 : decode prog_14_method_26_code 66 = .ok (.iadd, 1) := by decide +kernel
theorem de_Mo_fact_67 : decode prog_14_method_26_code 67 = .ok (.putfield 87, 3) := by decide +kernel
theorem de_Mo_fact_70 : decode prog_14_method_26_code 70 = .ok (.iconst 1, 1) := by decide +kernel
theorem de_Mo_fact_71 : decode prog_14_method_26_code 71 = .ok (.istore_n 1, 1) := by decide +kernel
theorem de_Mo_fact_72 : decode prog_14_method_26_code 72 = .ok (.goto (-70), 3) := by decide +kernel
theorem de_Mo_fact_75 : decode prog_14_method_26_code 75 = .ok (.aload_n 0, 1) := by decide +kernel
theorem de_Mo_fact_76 : decode prog_14_method_26_code 76 = .ok (.invokevirtual 188, 3) := by decide +kernel
theorem de_Mo_fact_79 : decode prog_14_method_26_code 79 = .ok (.ireturn, 1) := by decide +kernel
def rs_f0 (tape : Int → Int) (taped t nx md : Int) (le sg : Int → Int) (K : List Int) : Except Int pk := match rs_cmp tape taped t nx md le sg with
  | .error e => .error e
  | .ok (n1, md1, le1, sg1) => .ok (n1, md1, le1, sg1, K)
set_option maxHeartbeats 4000000 in
set_option maxRecDepth 10000 in
theorem lz_Mo_fact (x : Option ab_V) (K : List Int) (ht : tp_ok tape taped) (hn0 : 0 ≤ next) (hn1 : next ≤ taped) (tx0 : 0 ≤ text) (tx1 : text ≤ 5) (hnu : ab_in number) (hm0 : 0 ≤ made) (hm1 : made ≤ 60) (b0 : Int) (hb0 : 0 ≤ b0) (hl0 : b0 ≤ leng text) (c : Int) (hc : c ≤ 0) (s0 : Int → Int) (hs : sg_fr text s0 sign) (q1 : st_ok opn K) (q2 : st_el K) (q3 : dc K ≤ 10) (q4 : leng text + (K.length : Int) - next ≤ c) : ab_Ev g_G g_rs mt_Mo_fact 7 0 0 72 [some (ab_R 0), some (ab_I 0), x] [] (mo_W tape taped rules sign leng clause clauses read next (0) number text made (dc K) lines opn ((K.length : Int)) stack top word said xx was undone kept sumOf faced slotAt dayAt row bestRow tMany tMost drawX images imageX isMade) (pu tape taped rules clause clauses read text lines stack top word said xx was undone kept sumOf faced slotAt dayAt row bestRow tMany tMost drawX images imageX isMade c b0 s0 (rs_f0 tape taped text next made leng sign K)) := by
  refine ev_goto (tgt := 2) de_Mo_fact_72 (by decide) ?_
  refine ev_iload_n de_Mo_fact_2 rfl rfl ?_
  refine ev_if_eq (tgt := 75) de_Mo_fact_3 (by decide) (by omega) (fun h3 => ?_) (fun h3 => ?_)
  · skip
    refine ev_aload_n de_Mo_fact_75 rfl rfl ?_
    refine ev_virtual (ci := 11) (mc := 0) (ms := 0) (bc := 0) (bs := 0) de_Mo_fact_76 (co_Mo_compare ht hn0 hn1 tx0 tx1 hnu hm0 hm1 b0 hb0 hl0 (c - (K.length : Int)) (by omega) (by omega) s0 hs) kb_Mo_188 ⟨im_Mo_compare, se_Mo_compare⟩ rfl rfl rfl (Nat.le_of_ble_eq_true rfl) (by decide) (Or.inl (fun r w1 h => by obtain ⟨nx, nu, wr, mk, le, sg, e, -⟩ := h; rw [e]; first | exact mo_Wn.trans mo_Wn.symm | rfl)) (fun r1 w1 hm1 => ?_)
    obtain ⟨nx1, nu1, wr1, mk1, le1, sg1, rfl, hnx1, hnu1, hmk1, hfr1, hc1⟩ := hm1; rcases hc1 with ⟨rfl, rfl, hle1, hX1⟩ | ⟨rfl, hwr1, hX1⟩
    · skip
      exact ev_zreturn de_Mo_fact_79 rfl (by decide) (by first | exact ⟨_, _, _, _, _, _, _, _, _, rfl, hnx1, hnu1, hmk1, hfr1, Or.inl ⟨K, rfl, rfl, ⟨hle1.1, by omega⟩, rfl, rfl, q1, q2, q3, by unfold rs_f0; rw [hX1]⟩⟩ | exact ⟨_, _, _, _, _, _, _, _, _, rfl, hnx1, hnu1, hmk1, hfr1, Or.inr ⟨rfl, hwr1, by unfold rs_f0; rw [hX1]⟩⟩)
    · skip
      exact ev_zreturn de_Mo_fact_79 rfl (by decide) (by first | exact ⟨_, _, _, _, _, _, _, _, _, rfl, hnx1, hnu1, hmk1, hfr1, Or.inl ⟨K, rfl, rfl, ⟨hle1.1, by omega⟩, rfl, rfl, q1, q2, q3, by unfold rs_f0; rw [hX1]⟩⟩ | exact ⟨_, _, _, _, _, _, _, _, _, rfl, hnx1, hnu1, hmk1, hfr1, Or.inr ⟨rfl, hwr1, by unfold rs_f0; rw [hX1]⟩⟩)
  · exact absurd rfl h3
set_option maxHeartbeats 4000000 in
set_option maxRecDepth 10000 in
theorem lo_Mo_fact (ht : tp_ok tape taped) (tx0 : 0 ≤ text) (tx1 : text ≤ 5) (hnu : ab_in number) (hm0 : 0 ≤ made) (hm1 : made ≤ 60) (b0 : Int) (hb0 : 0 ≤ b0) (hl0 : b0 ≤ leng text) (c : Int) (hc : c ≤ 0) (s0 : Int → Int) (hs : sg_fr text s0 sign) : ∀ (n : Nat) (x : Option ab_V) (K : List Int) (next : Int) (opn : Int → Int), 0 ≤ next → next ≤ taped → 11 ≤ dc K + n → st_ok opn K → st_el K → dc K ≤ 10 → leng text + (K.length : Int) - next ≤ c → ab_Ev g_G g_rs mt_Mo_fact 7 0 0 2 [some (ab_R 0), some (ab_I 1), x] [] (mo_W tape taped rules sign leng clause clauses read next (0) number text made (dc K) lines opn ((K.length : Int)) stack top word said xx was undone kept sumOf faced slotAt dayAt row bestRow tMany tMost drawX images imageX isMade) (pu tape taped rules clause clauses read text lines stack top word said xx was undone kept sumOf faced slotAt dayAt row bestRow tMany tMost drawX images imageX isMade c b0 s0 (rs_fact tape taped text n next made leng sign K)) := by
  intro n
  induction n with
  | zero =>
    intro x K next opn
    intro hn0 hn1 g q1 q2 q3 q4; omega
  | succ n ih =>
    intro x K next opn
    intro hn0 hn1 g q1 q2 q3 q4
    have p1 := ht.2.1
    have hb := tk_sk_b tape hn1
    have hsk := tk_sk_sk tape taped next hn1
    have hcb := tk_ch_b tape taped (tk_sk tape taped next)
    have w1 := tk_isI_01 tape taped (tk_sk tape taped next) (Int64.ofInt 7237492)
    have db := dc_b K
    have hle := tk_le_b tape hb.2
    refine ev_iload_n de_Mo_fact_2 rfl rfl ?_
    refine ev_if_eq (tgt := 75) de_Mo_fact_3 (by decide) (by omega) (fun h3 => ?_) (fun h3 => ?_)
    · exact absurd h3 (by decide)
    · skip
      refine ev_iconst de_Mo_fact_6 ?_
      refine ev_istore_n (l' := [_, _, _]) de_Mo_fact_7 rfl (Nat.le_of_ble_eq_true rfl) rfl ?_
      refine ev_aload_n de_Mo_fact_8 rfl rfl ?_
      refine ev_vv (ci := 11) de_Mo_fact_9 (co_Mo_see ht hn0 hn1) kb_Mo_90 ⟨im_Mo_see, se_Mo_see⟩ rfl rfl rfl (Nat.le_of_ble_eq_true rfl) (by decide) rfl ?_
      refine ev_istore_n (l' := [_, _, _]) de_Mo_fact_12 rfl (Nat.le_of_ble_eq_true rfl) rfl ?_
      refine ev_aload_n de_Mo_fact_13 rfl rfl ?_
      refine ev_ldc2i (n := 7237492) de_Mo_fact_14 cn_Mo_183 (by decide) ?_
      refine ev_vv (ci := 11) de_Mo_fact_17 (cs_Mo_isWord ht (by omega) hb.2 hsk (Int64.ofInt 7237492)) kb_Mo_98 ⟨im_Mo_isWord, se_Mo_isWord⟩ rfl rfl rfl (Nat.le_of_ble_eq_true rfl) (by decide) rfl ?_
      refine ev_if_eq (tgt := 43) de_Mo_fact_20 (by decide) (by omega) (fun h20 => ?_) (fun h20 => ?_)
      · skip
        have hN : ¬ tk_isI tape taped (tk_sk tape taped next) (Int64.ofInt 7237492) = 1 := by omega
        refine ev_iload_n de_Mo_fact_43 rfl rfl ?_
        refine ev_bipush de_Mo_fact_44 rfl ?_
        refine ev_icmp_ne (tgt := 72) de_Mo_fact_46 (by decide) (by omega) (by omega) (fun h46 => ?_) (fun h46 => ?_)
        · skip
          have e : rs_fact tape taped text (n + 1) next made leng sign K = rs_f0 tape taped text (tk_sk tape taped next) made leng sign K := by show (if _ then _ else _) = _; rw [if_neg hN, if_neg h46]; rfl
          rw [e]
          exact lz_Mo_fact _ K ht (by omega) hb.2 tx0 tx1 hnu hm0 hm1 b0 hb0 hl0 c hc s0 hs q1 q2 q3 (by omega)
        · skip
          have hlt : tk_sk tape taped next < taped := Decidable.byContradiction (fun z => by unfold tk_ch at h46; rw [if_neg z] at h46; omega)
          refine ev_aload_n de_Mo_fact_49 rfl rfl ?_
          refine ev_bipush de_Mo_fact_50 rfl ?_
          refine ev_virtual (ci := 11) (mc := 0) (ms := 0) (bc := 0) (bs := 0) de_Mo_fact_52 (co_Mo_opens K (by omega) 91) kb_Mo_185 ⟨im_Mo_opens, se_Mo_opens⟩ rfl rfl rfl (Nat.le_of_ble_eq_true rfl) (by decide) (Or.inl (fun r w1 h => by rcases h with ⟨-, -, rfl⟩ | ⟨-, -, rfl⟩ <;> first | exact mo_Wn.trans mo_Wn.symm | rfl)) (fun r1 w1 hm1 => ?_)
          rcases hm1 with ⟨hd, rfl, rfl⟩ | ⟨hd, rfl, rfl⟩
          · skip
            refine ev_if_ne_f (tgt := 60) de_Mo_fact_55 (by decide) (by decide) (by decide) ?_
            refine ev_iconst de_Mo_fact_58 ?_
            exact ev_zreturn de_Mo_fact_59 rfl (by decide) ⟨_, _, _, _, _, _, _, _, _, rfl, ⟨by omega, hb.2⟩, hnu, ⟨hm0, hm1⟩, hs, Or.inr ⟨rfl, by omega, by show (if _ then _ else _) = _; rw [if_neg hN, if_pos h46, if_pos hd]⟩⟩
          · skip
            refine ev_if_ne_t (tgt := 60) de_Mo_fact_55 (by decide) (by decide) (by decide) ?_
            refine ev_aload_n de_Mo_fact_60 rfl rfl ?_
            refine ev_dup de_Mo_fact_61 rfl ?_
            refine ev_getfield de_Mo_fact_62 rfl fl_Mo_87 rfl ?_
            refine ev_iconst de_Mo_fact_65 ?_
            refine ev_iadd de_Mo_fact_66 ?_
            refine ev_putfield de_Mo_fact_67 rfl (fp_Mo_87 _) (Nat.le_of_ble_eq_true rfl) trivial ?_
            refine ev_world (w' := mo_W _ _ _ _ _ _ _ _ _ _ _ _ _ _ _ _ _ _ _ _ _ _ _ _ _ _ _ _ _ _ _ _ _ _ _ _ _) rfl ?_
            refine ev_iconst de_Mo_fact_70 ?_
            refine ev_istore_n (l' := [_, _, _]) de_Mo_fact_71 rfl (Nat.le_of_ble_eq_true rfl) rfl ?_
            refine ev_goto (tgt := 2) de_Mo_fact_72 (by decide) ?_
            refine ev_world (w' := (mo_W tape taped rules sign leng clause clauses read ((tk_sk tape taped next) + 1) (0) number text made (dc (91 :: K)) lines (ab_up opn (K.length : Int) 91) (((91 :: K).length : Int)) stack top word said xx was undone kept sumOf faced slotAt dayAt row bestRow tMany tMost drawX images imageX isMade)) (by rw [dc_91]; rfl) ?_
            have e : rs_fact tape taped text (n + 1) next made leng sign K = rs_fact tape taped text n ((tk_sk tape taped next) + 1) made leng sign (91 :: K) := by show (if _ then _ else _) = _; rw [if_neg hN, if_pos h46, if_neg hd]
            rw [e]
            exact ih _ (91 :: K) _ _ (by omega) (by omega) (by rw [dc_91]; omega) (st_ok_push q1) ⟨by decide, q2⟩ (by rw [dc_91]; omega) (by rw [show ((91 :: K).length : Int) = (K.length : Int) + 1 from rfl]; omega)
      · skip
        have hN : tk_isI tape taped (tk_sk tape taped next) (Int64.ofInt 7237492) = 1 := by omega
        have hlt := tk_isI_p hN
        refine ev_aload_n de_Mo_fact_23 rfl rfl ?_
        refine ev_bipush de_Mo_fact_24 rfl ?_
        refine ev_virtual (ci := 11) (mc := 0) (ms := 0) (bc := 0) (bs := 0) de_Mo_fact_26 (co_Mo_opens K (by omega) 11) kb_Mo_185 ⟨im_Mo_opens, se_Mo_opens⟩ rfl rfl rfl (Nat.le_of_ble_eq_true rfl) (by decide) (Or.inl (fun r w1 h => by rcases h with ⟨-, -, rfl⟩ | ⟨-, -, rfl⟩ <;> first | exact mo_Wn.trans mo_Wn.symm | rfl)) (fun r1 w1 hm1 => ?_)
        rcases hm1 with ⟨hd, rfl, rfl⟩ | ⟨hd, rfl, rfl⟩
        · skip
          refine ev_if_ne_f (tgt := 34) de_Mo_fact_29 (by decide) (by decide) (by decide) ?_
          refine ev_iconst de_Mo_fact_32 ?_
          exact ev_zreturn de_Mo_fact_33 rfl (by decide) ⟨_, _, _, _, _, _, _, _, _, rfl, ⟨by omega, hb.2⟩, hnu, ⟨hm0, hm1⟩, hs, Or.inr ⟨rfl, by omega, by show (if _ then _ else _) = _; rw [if_pos hN, if_pos hd]⟩⟩
        · skip
          refine ev_if_ne_t (tgt := 34) de_Mo_fact_29 (by decide) (by decide) (by decide) ?_
          refine ev_aload_n de_Mo_fact_34 rfl rfl ?_
          refine ev_vn (ci := 11) de_Mo_fact_35 (co_Mo_passWord ht (by omega) hb.2) kb_Mo_102 ⟨im_Mo_passWord, se_Mo_passWord⟩ rfl rfl rfl (Nat.le_of_ble_eq_true rfl) (by decide) rfl ?_
          refine ev_iconst de_Mo_fact_38 ?_
          refine ev_istore_n (l' := [_, _, _]) de_Mo_fact_39 rfl (Nat.le_of_ble_eq_true rfl) rfl ?_
          refine ev_goto (tgt := 72) de_Mo_fact_40 (by decide) ?_
          refine ev_goto (tgt := 2) de_Mo_fact_72 (by decide) ?_
          refine ev_world (w' := (mo_W tape taped rules sign leng clause clauses read (tk_le tape taped (tk_sk tape taped next)) (0) number text made (dc (11 :: K)) lines (ab_up opn (K.length : Int) 11) (((11 :: K).length : Int)) stack top word said xx was undone kept sumOf faced slotAt dayAt row bestRow tMany tMost drawX images imageX isMade)) (by rw [dc_11]; rfl) ?_
          have e : rs_fact tape taped text (n + 1) next made leng sign K = rs_fact tape taped text n (tk_le tape taped (tk_sk tape taped next)) made leng sign (11 :: K) := by show (if _ then _ else _) = _; rw [if_pos hN, if_neg hd]
          rw [e]
          exact ih _ (11 :: K) _ _ (by omega) (by omega) (by rw [dc_11]; omega) (st_ok_push q1) ⟨by decide, q2⟩ (by rw [dc_11]; omega) (by rw [show ((11 :: K).length : Int) = (K.length : Int) + 1 from rfl]; omega)
set_option maxHeartbeats 4000000 in
set_option maxRecDepth 10000 in
theorem co_Mo_fact (ht : tp_ok tape taped) (hn0 : 0 ≤ next) (hn1 : next ≤ taped) (tx0 : 0 ≤ text) (tx1 : text ≤ 5) (hnu : ab_in number) (hm0 : 0 ≤ made) (hm1 : made ≤ 60) (b0 : Int) (hb0 : 0 ≤ b0) (hl0 : b0 ≤ leng text) (c : Int) (hc : c ≤ 0) (s0 : Int → Int) (hs : sg_fr text s0 sign) (K : List Int) (q1 : st_ok opn K) (q2 : st_el K) (q3 : dc K ≤ 10) (q4 : leng text + (K.length : Int) - next ≤ c) : ab_Mt g_G g_rs mt_Mo_fact 7 0 0 [ab_R 0] (mo_W tape taped rules sign leng clause clauses read next (0) number text made (dc K) lines opn ((K.length : Int)) stack top word said xx was undone kept sumOf faced slotAt dayAt row bestRow tMany tMost drawX images imageX isMade) (pu tape taped rules clause clauses read text lines stack top word said xx was undone kept sumOf faced slotAt dayAt row bestRow tMany tMost drawX images imageX isMade c b0 s0 (rs_fact tape taped text 11 next made leng sign K)) := by
  refine ab_Mt.of rfl (Nat.le_of_ble_eq_true rfl) ?_
  show ab_Ev g_G g_rs mt_Mo_fact _ _ _ 0 [some (ab_R 0), none, none] [] _ _
  have db := dc_b K
  refine ev_iconst de_Mo_fact_0 ?_
  refine ev_istore_n (l' := [_, _, _]) de_Mo_fact_1 rfl (Nat.le_of_ble_eq_true rfl) rfl ?_
  exact lo_Mo_fact ht tx0 tx1 hnu hm0 hm1 b0 hb0 hl0 c hc s0 hs 11 _ K next opn hn0 hn1 (by omega) q1 q2 q3 q4
/-! what a FACT closes -/
def rs_cl (tape : Int → Int) (taped t : Int) : Nat → Int → (Int → Int) → (Int → Int) → List Int → Int × (Int → Int) × (Int → Int) × List Int
  | 0, nx, le, sg, K => (nx, le, sg, K)
  | n + 1, nx, le, sg, K => if tk_ch tape taped (tk_sk tape taped nx) = 93 ∧ (91 : Int) ∈ K then rs_cl tape taped t n (tk_sk tape taped nx + 1) (rs_set t 3 (rs_set t 1 K le sg).1.tail (rs_set t 1 K le sg).2.1 (rs_set t 1 K le sg).2.2).2.1 (rs_set t 3 (rs_set t 1 K le sg).1.tail (rs_set t 1 K le sg).2.1 (rs_set t 1 K le sg).2.2).2.2 (rs_set t 3 (rs_set t 1 K le sg).1.tail (rs_set t 1 K le sg).2.1 (rs_set t 1 K le sg).2.2).1
    else (tk_sk tape taped nx, le, sg, K)
def rs_close (tape : Int → Int) (taped t nx : Int) (le sg : Int → Int) (K : List Int) : Int × (Int → Int) × (Int → Int) × List Int := rs_cl tape taped t 401 nx (rs_set t 3 K le sg).2.1 (rs_set t 3 K le sg).2.2 (rs_set t 3 K le sg).1
theorem rs_set_91 {t : Int} : ∀ (K : List Int) (le sg : Int → Int), st_el K → (91 : Int) ∈ K → ∃ K2, (rs_set t 1 K le sg).1 = 91 :: K2
  | [], _, _, _, h => absurd h List.not_mem_nil
  | s :: K, le, sg, h, hm => by
    unfold rs_set
    by_cases c : s = 91
    · subst c
      rw [if_neg (by decide)]
      exact ⟨K, rfl⟩
    · have c1 : 1 ≤ rs_str s := by unfold rs_str; rcases h.1 with z | z | z | z <;> (subst z; first | decide | exact absurd rfl c)
      rw [if_pos c1]
      rcases List.mem_cons.mp hm with z | z
      · exact absurd z.symm c
      · exact rs_set_91 K _ _ h.2 z
theorem rs_set_dc {t least : Int} : ∀ (K : List Int) (le sg : Int → Int), dc (rs_set t least K le sg).1 ≤ dc K
  | [], _, _ => Int.le_refl _
  | s :: K, le, sg => by
    unfold rs_set
    split
    · have q := rs_set_dc (t := t) (least := least) K (ab_up le t (le t + 1)) (ab_up sg (400 * t + le t) (s + 16 * 0))
      have e : dc K ≤ dc (s :: K) := by rw [show dc (s :: K) = dc K + (if s = 91 ∨ s = 11 then 1 else 0) from rfl]; split <;> omega
      omega
    · exact Int.le_refl _
theorem tk_sk_fix {tape : Int → Int} {taped : Int} : ∀ (n : Nat) (t nx : Int) (le sg : Int → Int) (K : List Int), taped < nx + n → nx ≤ taped → tk_sk tape taped (rs_cl tape taped t n nx le sg K).1 = (rs_cl tape taped t n nx le sg K).1
  | 0, _, nx, _, _, _, h, h2 => by omega
  | n + 1, t, nx, le, sg, K, h, h2 => by
    have hb := tk_sk_b tape h2
    unfold rs_cl
    split
    · rename_i hc
      have hlt : tk_sk tape taped nx < taped := Decidable.byContradiction (fun z => by have q := hc.1; unfold tk_ch at q; rw [if_neg z] at q; omega)
      exact tk_sk_fix n t _ _ _ _ (by omega) (by omega)
    · exact tk_sk_sk tape taped nx h2
theorem de_Mo_closes_0 : decode prog_14_method_28_code 0 = .ok (.aload_n 0, 1) := by decide +kernel
theorem de_Mo_closes_1 : decode prog_14_method_28_code 1 = .ok (.iconst 3, 1) := by decide +kernel
theorem de_Mo_closes_2 : decode prog_14_method_28_code 2 = .ok (.invokevirtual 191, 3) := by decide +kernel
theorem de_Mo_closes_5 : decode prog_14_method_28_code 5 = .ok (.aload_n 0, 1) := by decide +kernel
theorem de_Mo_closes_6 : decode prog_14_method_28_code 6 = .ok (.invokevirtual 90, 3) := by decide +kernel
theorem de_Mo_closes_9 : decode prog_14_method_28_code 9 = .ok (.bipush 93, 2) := by decide +kernel
theorem de_Mo_closes_11 : decode prog_14_method_28_code 11 = .ok (.if_icmp .ne 53, 3) := by decide +kernel
theorem de_Mo_closes_14 : decode prog_14_method_28_code 14 = .ok (.aload_n 0, 1) := by decide +kernel
theorem de_Mo_closes_15 : decode prog_14_method_28_code 15 = .ok (.invokevirtual 194, 3) := by decide +kernel
theorem de_Mo_closes_18 : decode prog_14_method_28_code 18 = .ok (.ifCond .eq 46, 3) := by decide +kernel
theorem de_Mo_closes_21 : decode prog_14_method_28_code 21 = .ok (.aload_n 0, 1) := by decide +kernel
theorem de_Mo_closes_22 : decode prog_14_method_28_code 22 = .ok (.iconst 1, 1) := by decide +kernel
theorem de_Mo_closes_23 : decode prog_14_method_28_code 23 = .ok (.invokevirtual 191, 3) := by decide +kernel
theorem de_Mo_closes_26 : decode prog_14_method_28_code 26 = .ok (.aload_n 0, 1) := by decide +kernel
theorem de_Mo_closes_27 : decode prog_14_method_28_code 27 = .ok (.dup, 1) := by decide +kernel
theorem de_Mo_closes_28 : decode prog_14_method_28_code 28 = .ok (.getfield 152, 3) := by decide +kernel
theorem de_Mo_closes_31 : decode prog_14_method_28_code 31 = .ok (.iconst 1, 1) := by decide +kernel
theorem de_Mo_closes_32 : decode prog_14_method_28_code 32 = .ok (.isub, 1) := by decide +kernel
theorem de_Mo_closes_33 : decode prog_14_method_28_code 33 = .ok (.putfield 152, 3) := by decide +kernel
theorem de_Mo_closes_36 : decode prog_14_method_28_code 36 = .ok (.aload_n 0, 1) := by decide +kernel
theorem de_Mo_closes_37 : decode prog_14_method_28_code 37 = .ok (.dup, 1) := by decide +kernel
theorem de_Mo_closes_38 : decode prog_14_method_28_code 38 = .ok (.getfield 149, 3) := by decide +kernel
theorem de_Mo_closes_41 : decode prog_14_method_28_code 41 = .ok (.iconst 1, 1) := by decide +kernel
theorem de_Mo_closes_42 : decode prog_14_method_28_code 42 = .ok (.isub, 1) := by decide +kernel
theorem de_Mo_closes_43 : decode prog_14_method_28_code 43 = .ok (.putfield 149, 3) := by decide +kernel
theorem de_Mo_closes_46 : decode prog_14_method_28_code 46 = .ok (.aload_n 0, 1) := by decide +kernel
theorem de_Mo_closes_47 : decode prog_14_method_28_code 47 = .ok (.dup, 1) := by decide +kernel
theorem de_Mo_closes_48 : decode prog_14_method_28_code 48 = .ok (.getfield 87, 3) := by decide +kernel
theorem de_Mo_closes_51 : decode prog_14_method_28_code 51 = .ok (.iconst 1, 1) := by decide +kernel
theorem de_Mo_closes_52 : decode prog_14_method_28_code 52 = .ok (.iadd, 1) := by decide +kernel
theorem de_Mo_closes_53 : decode prog_14_method_28_code 53 = .ok (.putfield 87, 3) := by decide +kernel
theorem de_Mo_closes_56 : decode prog_14_method_28_code 56 = .ok (.aload_n 0, 1) := by decide +kernel
theorem de_Mo_closes_57 : decode prog_14_method_28_code 57 = .ok (.iconst 3, 1) := by decide +kernel
theorem de_Mo_closes_58 : decode prog_14_method_28_code 58 = .ok (.invokevirtual 191, 3) := by decide +kernel
theorem de_Mo_closes_61 : decode prog_14_method_28_code 61 = .ok (.goto (-56), 3) := by decide +kernel
theorem de_Mo_closes_64 : decode prog_14_method_28_code 64 = .ok (.return_, 1) := by decide +kernel
set_option maxHeartbeats 4000000 in
set_option maxRecDepth 10000 in
theorem lo_Mo_closes (ht : tp_ok tape taped) (tx0 : 0 ≤ text) (tx1 : text ≤ 5) : ∀ (n : Nat) (K : List Int) (next : Int) (leng sign : Int → Int), 0 ≤ next → next ≤ taped → taped < next + n → st_ok opn K → st_el K → 0 ≤ leng text → leng text + (K.length : Int) - next ≤ 0 → ab_Ev g_G g_rs mt_Mo_closes 2 0 0 5 [some (ab_R 0)] [] (mo_W tape taped rules sign leng clause clauses read next (0) number text made (dc K) lines opn ((K.length : Int)) stack top word said xx was undone kept sumOf faced slotAt dayAt row bestRow tMany tMost drawX images imageX isMade) (ab_is none (mo_W tape taped rules ((rs_cl tape taped text n next leng sign K).2.2.1) ((rs_cl tape taped text n next leng sign K).2.1) clause clauses read ((rs_cl tape taped text n next leng sign K).1) (0) number text made (dc (rs_cl tape taped text n next leng sign K).2.2.2) lines opn (((rs_cl tape taped text n next leng sign K).2.2.2.length : Int)) stack top word said xx was undone kept sumOf faced slotAt dayAt row bestRow tMany tMost drawX images imageX isMade)) := by
  intro n
  induction n with
  | zero =>
    intro K next leng sign
    intro hn0 hn1 g q1 q2 h0 h4; omega
  | succ n ih =>
    intro K next leng sign
    intro hn0 hn1 g q1 q2 h0 h4
    have p1 := ht.2.1
    have hb := tk_sk_b tape hn1
    have hcb := tk_ch_b tape taped (tk_sk tape taped next)
    have db := dc_b K
    refine ev_aload_n de_Mo_closes_5 rfl rfl ?_
    refine ev_vv (ci := 11) de_Mo_closes_6 (co_Mo_see ht hn0 hn1) kb_Mo_90 ⟨im_Mo_see, se_Mo_see⟩ rfl rfl rfl (Nat.le_of_ble_eq_true rfl) (by decide) rfl ?_
    refine ev_bipush de_Mo_closes_9 rfl ?_
    refine ev_icmp_ne (tgt := 64) de_Mo_closes_11 (by decide) (by omega) (by omega) (fun h11 => ?_) (fun h11 => ?_)
    · skip
      have e : rs_cl tape taped text (n + 1) next leng sign K = (tk_sk tape taped next, leng, sign, K) := by show (if _ then _ else _) = _; rw [if_neg (fun z => h11 z.1)]
      rw [e]
      exact ev_return de_Mo_closes_64 rfl ⟨rfl, rfl⟩
    · skip
      have hlt : tk_sk tape taped next < taped := Decidable.byContradiction (fun z => by unfold tk_ch at h11; rw [if_neg z] at h11; omega)
      refine ev_aload_n de_Mo_closes_14 rfl rfl ?_
      refine ev_vv (ci := 11) de_Mo_closes_15 (co_Mo_isInside K (by omega) q1 q2) kb_Mo_194 ⟨im_Mo_isInside, se_Mo_isInside⟩ rfl rfl rfl (Nat.le_of_ble_eq_true rfl) (by decide) rfl ?_
      refine ev_if_eq (tgt := 64) de_Mo_closes_18 (by decide) (by unfold st_in; split <;> decide) (fun h18 => ?_) (fun h18 => ?_)
      · skip
        have hin : ¬ (91 : Int) ∈ K := fun z => by unfold st_in at h18; rw [if_pos z] at h18; exact absurd h18 (by decide)
        have e : rs_cl tape taped text (n + 1) next leng sign K = (tk_sk tape taped next, leng, sign, K) := by show (if _ then _ else _) = _; rw [if_neg (fun z => hin z.2)]
        rw [e]
        exact ev_return de_Mo_closes_64 rfl ⟨rfl, rfl⟩
      · skip
        have hin : (91 : Int) ∈ K := Decidable.byContradiction (fun z => by unfold st_in at h18; rw [if_neg z] at h18; exact h18 rfl)
        obtain ⟨K2, eK⟩ := rs_set_91 (t := text) K leng sign q2 hin
        have z1 := rs_set_ok (t := text) (least := 1) K leng sign q1 q2
        have z2 := rs_set_n (t := text) (least := 1) K leng sign
        rw [eK] at z1 z2
        have eL : ((91 :: K2).length : Int) = (K2.length : Int) + 1 := rfl
        rw [eL] at z2
        have z3 := rs_set_ok (t := text) (least := 3) K2 (rs_set text 1 K leng sign).2.1 (rs_set text 1 K leng sign).2.2 z1.1.2 z1.2.1.2
        have z4 := rs_set_n (t := text) (least := 3) K2 (rs_set text 1 K leng sign).2.1 (rs_set text 1 K leng sign).2.2
        have db2 := dc_b K2
        refine ev_aload_n de_Mo_closes_21 rfl rfl ?_
        refine ev_iconst de_Mo_closes_22 ?_
        refine ev_vn (ci := 11) de_Mo_closes_23 (co_Mo_settles tx0 tx1 1 (by decide) (by decide) K q1 q2 h0 (by omega)) kb_Mo_191 ⟨im_Mo_settles, se_Mo_settles⟩ rfl rfl rfl (Nat.le_of_ble_eq_true rfl) (by decide) rfl ?_
        refine ev_world (w' := (mo_W tape taped rules ((rs_set text 1 K leng sign).2.2) ((rs_set text 1 K leng sign).2.1) clause clauses read (tk_sk tape taped next) (0) number text made (dc K2 + 1) lines opn ((K2.length : Int) + 1) stack top word said xx was undone kept sumOf faced slotAt dayAt row bestRow tMany tMost drawX images imageX isMade)) (by rw [eK, dc_91]; rfl) ?_
        refine ev_aload_n de_Mo_closes_26 rfl rfl ?_
        refine ev_dup de_Mo_closes_27 rfl ?_
        refine ev_getfield de_Mo_closes_28 rfl fl_Mo_152 rfl ?_
        refine ev_iconst de_Mo_closes_31 ?_
        refine ev_isub de_Mo_closes_32 ?_
        refine ev_putfield de_Mo_closes_33 rfl (fp_Mo_152 _) (Nat.le_of_ble_eq_true rfl) trivial ?_
        refine ev_world (w' := mo_W _ _ _ _ _ _ _ _ _ _ _ _ _ _ _ _ _ _ _ _ _ _ _ _ _ _ _ _ _ _ _ _ _ _ _ _ _) rfl ?_
        refine ev_aload_n de_Mo_closes_36 rfl rfl ?_
        refine ev_dup de_Mo_closes_37 rfl ?_
        refine ev_getfield de_Mo_closes_38 rfl fl_Mo_149 rfl ?_
        refine ev_iconst de_Mo_closes_41 ?_
        refine ev_isub de_Mo_closes_42 ?_
        refine ev_putfield de_Mo_closes_43 rfl (fp_Mo_149 _) (Nat.le_of_ble_eq_true rfl) trivial ?_
        refine ev_world (w' := mo_W _ _ _ _ _ _ _ _ _ _ _ _ _ _ _ _ _ _ _ _ _ _ _ _ _ _ _ _ _ _ _ _ _ _ _ _ _) rfl ?_
        refine ev_aload_n de_Mo_closes_46 rfl rfl ?_
        refine ev_dup de_Mo_closes_47 rfl ?_
        refine ev_getfield de_Mo_closes_48 rfl fl_Mo_87 rfl ?_
        refine ev_iconst de_Mo_closes_51 ?_
        refine ev_iadd de_Mo_closes_52 ?_
        refine ev_putfield de_Mo_closes_53 rfl (fp_Mo_87 _) (Nat.le_of_ble_eq_true rfl) trivial ?_
        refine ev_world (w' := mo_W _ _ _ _ _ _ _ _ _ _ _ _ _ _ _ _ _ _ _ _ _ _ _ _ _ _ _ _ _ _ _ _ _ _ _ _ _) rfl ?_
        refine ev_world (w' := (mo_W tape taped rules ((rs_set text 1 K leng sign).2.2) ((rs_set text 1 K leng sign).2.1) clause clauses read (tk_sk tape taped next + 1) (0) number text made (dc K2) lines opn ((K2.length : Int)) stack top word said xx was undone kept sumOf faced slotAt dayAt row bestRow tMany tMost drawX images imageX isMade)) (by rw [Int.add_sub_cancel, Int.add_sub_cancel]) ?_
        refine ev_aload_n de_Mo_closes_56 rfl rfl ?_
        refine ev_iconst de_Mo_closes_57 ?_
        refine ev_vn (ci := 11) de_Mo_closes_58 (co_Mo_settles tx0 tx1 3 (by decide) (by decide) K2 z1.1.2 z1.2.1.2 (by omega) (by omega)) kb_Mo_191 ⟨im_Mo_settles, se_Mo_settles⟩ rfl rfl rfl (Nat.le_of_ble_eq_true rfl) (by decide) rfl ?_
        refine ev_goto (tgt := 5) de_Mo_closes_61 (by decide) ?_
        refine ev_world (w' := (mo_W tape taped rules ((rs_set text 3 K2 (rs_set text 1 K leng sign).2.1 (rs_set text 1 K leng sign).2.2).2.2) ((rs_set text 3 K2 (rs_set text 1 K leng sign).2.1 (rs_set text 1 K leng sign).2.2).2.1) clause clauses read (tk_sk tape taped next + 1) (0) number text made (dc (rs_set text 3 K2 (rs_set text 1 K leng sign).2.1 (rs_set text 1 K leng sign).2.2).1) lines opn (((rs_set text 3 K2 (rs_set text 1 K leng sign).2.1 (rs_set text 1 K leng sign).2.2).1.length : Int)) stack top word said xx was undone kept sumOf faced slotAt dayAt row bestRow tMany tMost drawX images imageX isMade)) rfl ?_
        have e : rs_cl tape taped text (n + 1) next leng sign K = rs_cl tape taped text n (tk_sk tape taped next + 1) (rs_set text 3 K2 (rs_set text 1 K leng sign).2.1 (rs_set text 1 K leng sign).2.2).2.1 (rs_set text 3 K2 (rs_set text 1 K leng sign).2.1 (rs_set text 1 K leng sign).2.2).2.2 (rs_set text 3 K2 (rs_set text 1 K leng sign).2.1 (rs_set text 1 K leng sign).2.2).1 := by
          show (if _ then _ else _) = _
          rw [if_pos ⟨h11, hin⟩, eK]; rfl
        rw [e]
        exact ih _ _ _ _ (by omega) (by omega) (by omega) z3.1 z3.2.1 (by omega) (by omega)
set_option maxHeartbeats 4000000 in
set_option maxRecDepth 10000 in
theorem co_Mo_closes (ht : tp_ok tape taped) (hn0 : 0 ≤ next) (hn1 : next ≤ taped) (tx0 : 0 ≤ text) (tx1 : text ≤ 5) (K : List Int) (q1 : st_ok opn K) (q2 : st_el K) (h0 : 0 ≤ leng text) (h4 : leng text + (K.length : Int) - next ≤ 0) : ab_Mt g_G g_rs mt_Mo_closes 2 0 0 [ab_R 0] (mo_W tape taped rules sign leng clause clauses read next (0) number text made (dc K) lines opn ((K.length : Int)) stack top word said xx was undone kept sumOf faced slotAt dayAt row bestRow tMany tMost drawX images imageX isMade) (ab_is none (mo_W tape taped rules ((rs_close tape taped text next leng sign K).2.2.1) ((rs_close tape taped text next leng sign K).2.1) clause clauses read ((rs_close tape taped text next leng sign K).1) (0) number text made (dc (rs_close tape taped text next leng sign K).2.2.2) lines opn (((rs_close tape taped text next leng sign K).2.2.2.length : Int)) stack top word said xx was undone kept sumOf faced slotAt dayAt row bestRow tMany tMost drawX images imageX isMade)) := by
  refine ab_Mt.of rfl (Nat.le_of_ble_eq_true rfl) ?_
  show ab_Ev g_G g_rs mt_Mo_closes _ _ _ 0 [some (ab_R 0)] [] _ _
  have p1 := ht.2.1
  have z1 := rs_set_ok (t := text) (least := 3) K leng sign q1 q2
  have z2 := rs_set_n (t := text) (least := 3) K leng sign
  refine ev_aload_n de_Mo_closes_0 rfl rfl ?_
  refine ev_iconst de_Mo_closes_1 ?_
  refine ev_vn (ci := 11) de_Mo_closes_2 (co_Mo_settles tx0 tx1 3 (by decide) (by decide) K q1 q2 h0 (by omega)) kb_Mo_191 ⟨im_Mo_settles, se_Mo_settles⟩ rfl rfl rfl (Nat.le_of_ble_eq_true rfl) (by decide) rfl ?_
  refine ev_world (w' := (mo_W tape taped rules ((rs_set text 3 K leng sign).2.2) ((rs_set text 3 K leng sign).2.1) clause clauses read next (0) number text made (dc (rs_set text 3 K leng sign).1) lines opn (((rs_set text 3 K leng sign).1.length : Int)) stack top word said xx was undone kept sumOf faced slotAt dayAt row bestRow tMany tMost drawX images imageX isMade)) rfl ?_
  exact lo_Mo_closes ht tx0 tx1 401 _ next _ _ hn0 hn1 (by omega) z1.1 z1.2.1 (by omega) (by omega)
end MO
