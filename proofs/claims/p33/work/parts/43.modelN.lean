section MO
variable {tape : Int → Int} {taped : Int} {rules : Int} {sign : Int → Int} {leng : Int → Int} {clause : Int → Int} {clauses : Int → Int} {read : Int → Int} {next : Int} {wrong : Int} {number : Int} {text : Int} {made : Int} {deep : Int} {lines : Int} {opn : Int → Int} {opened : Int} {stack : Int → Int64} {top : Int} {word : Int → Int64} {said : Int → Int} {xx : Int} {was : Int → Int} {undone : Int} {kept : Int → Int} {sumOf : Int → Int} {faced : Int → Int} {slotAt : Int → Int} {dayAt : Int → Int} {row : Int → Int} {bestRow : Int → Int} {tMany : Int} {tMost : Int} {drawX : Int64} {images : Int → Int} {imageX : Int → Int} {isMade : Int → Int}
def rs_top (b : Int) : Int := if b = 42 then 4 else if b = 47 then 5 else 14
def rs_tl (tape : Int → Int) (taped t : Int) : Nat → Int → Int → (Int → Int) → (Int → Int) → Except Int pz
  | 0, _, _, _, _ => .error 0
  | n + 1, nx, md, le, sg => if tk_ch tape taped (tk_sk tape taped nx) = 42 ∨ tk_ch tape taped (tk_sk tape taped nx) = 47 ∨ tk_ch tape taped (tk_sk tape taped nx) = 37 then (match rs_val tape taped t (tk_sk tape taped nx + 1) md le sg with
      | .error e => .error e
      | .ok (n1, mk1, le1, sg1) => rs_tl tape taped t n n1 mk1 (ab_up le1 t (le1 t + 1)) (ab_up sg1 (400 * t + le1 t) (rs_top (tape (tk_sk tape taped nx)) + 16 * 0)))
    else .ok (tk_sk tape taped nx, md, le, sg)
def rs_term (tape : Int → Int) (taped t nx md : Int) (le sg : Int → Int) : Except Int pz := match rs_val tape taped t nx md le sg with
  | .error e => .error e
  | .ok (n1, mk1, le1, sg1) => rs_tl tape taped t 401 n1 mk1 le1 sg1
theorem de_Mo_term_0 : decode prog_14_method_23_code 0 = .ok (.aload_n 0, 1) := by decide +kernel
theorem de_Mo_term_1 : decode prog_14_method_23_code 1 = .ok (.invokevirtual 173, 3) := by decide +kernel
theorem de_Mo_term_4 : decode prog_14_method_23_code 4 = .ok (.ifCond .ne 5, 3) := by decide +kernel
theorem de_Mo_term_7 : decode prog_14_method_23_code 7 = .ok (.iconst 0, 1) := by decide +kernel
theorem de_Mo_term_8 : decode prog_14_method_23_code 8 = .ok (.ireturn, 1) := by decide +kernel
theorem de_Mo_term_9 : decode prog_14_method_23_code 9 = .ok (.aload_n 0, 1) := by decide +kernel
theorem de_Mo_term_10 : decode prog_14_method_23_code 10 = .ok (.invokevirtual 90, 3) := by decide +kernel
theorem de_Mo_term_13 : decode prog_14_method_23_code 13 = .ok (.bipush 42, 2) := by decide +kernel
theorem de_Mo_term_15 : decode prog_14_method_23_code 15 = .ok (.if_icmp .eq 21, 3) := by decide +kernel
theorem de_Mo_term_18 : decode prog_14_method_23_code 18 = .ok (.aload_n 0, 1) := by decide +kernel
theorem de_Mo_term_19 : decode prog_14_method_23_code 19 = .ok (.invokevirtual 90, 3) := by decide +kernel
theorem de_Mo_term_22 : decode prog_14_method_23_code 22 = .ok (.bipush 47, 2) := by decide +kernel
theorem de_Mo_term_24 : decode prog_14_method_23_code 24 = .ok (.if_icmp .eq 12, 3) := by decide +kernel
theorem de_Mo_term_27 : decode prog_14_method_23_code 27 = .ok (.aload_n 0, 1) := by decide +kernel
theorem de_Mo_term_28 : decode prog_14_method_23_code 28 = .ok (.invokevirtual 90, 3) := by decide +kernel
theorem de_Mo_term_31 : decode prog_14_method_23_code 31 = .ok (.bipush 37, 2) := by decide +kernel
theorem de_Mo_term_33 : decode prog_14_method_23_code 33 = .ok (.if_icmp .ne 70, 3) := by decide +kernel
theorem de_Mo_term_36 : decode prog_14_method_23_code 36 = .ok (.aload_n 0, 1) := by decide +kernel
theorem de_Mo_term_37 : decode prog_14_method_23_code 37 = .ok (.getfield 7, 3) := by decide +kernel
theorem de_Mo_term_40 : decode prog_14_method_23_code 40 = .ok (.aload_n 0, 1) := by decide +kernel
theorem de_Mo_term_41 : decode prog_14_method_23_code 41 = .ok (.getfield 87, 3) := by decide +kernel
theorem de_Mo_term_44 : decode prog_14_method_23_code 44 = .ok (.baload, 1) := by decide +kernel
theorem de_Mo_term_45 : decode prog_14_method_23_code 45 = .ok (.bipush 42, 2) := by decide +kernel
theorem de_Mo_term_47 : decode prog_14_method_23_code 47 = .ok (.if_icmp .ne 7, 3) := by decide +kernel
theorem de_Mo_term_50 : decode prog_14_method_23_code 50 = .ok (.iconst 4, 1) := by decide +kernel
theorem de_Mo_term_51 : decode prog_14_method_23_code 51 = .ok (.goto 23, 3) := by decide +kernel
theorem de_Mo_term_54 : decode prog_14_method_23_code 54 = .ok (.aload_n 0, 1) := by decide +kernel
theorem de_Mo_term_55 : decode prog_14_method_23_code 55 = .ok (.getfield 7, 3) := by decide +kernel
theorem de_Mo_term_58 : decode prog_14_method_23_code 58 = .ok (.aload_n 0, 1) := by decide +kernel
theorem de_Mo_term_59 : decode prog_14_method_23_code 59 = .ok (.getfield 87, 3) := by decide +kernel
theorem de_Mo_term_62 : decode prog_14_method_23_code 62 = .ok (.baload, 1) := by decide +kernel
theorem de_Mo_term_63 : decode prog_14_method_23_code 63 = .ok (.bipush 47, 2) := by decide +kernel
theorem de_Mo_term_65 : decode prog_14_method_23_code 65 = .ok (.if_icmp .ne 7, 3) := by decide +kernel
theorem de_Mo_term_68 : decode prog_14_method_23_code 68 = .ok (.iconst 5, 1) := by decide +kernel
theorem de_Mo_term_69 : decode prog_14_method_23_code 69 = .ok (.goto 5, 3) := by decide +kernel
theorem de_Mo_term_72 : decode prog_14_method_23_code 72 = .ok (.bipush 14, 2) := by decide +kernel
theorem de_Mo_term_74 : decode prog_14_method_23_code 74 = .ok (.istore_n 1, 1) := by decide +kernel
theorem de_Mo_term_75 : decode prog_14_method_23_code 75 = .ok (.aload_n 0, 1) := by decide +kernel
theorem de_Mo_term_76 : decode prog_14_method_23_code 76 = .ok (.dup, 1) := by decide +kernel
theorem de_Mo_term_77 : decode prog_14_method_23_code 77 = .ok (.getfield 87, 3) := by decide +kernel
theorem de_Mo_term_80 : decode prog_14_method_23_code 80 = .ok (.iconst 1, 1) := by decide +kernel
theorem de_Mo_term_81 : decode prog_14_method_23_code 81 = .ok (.iadd, 1) := by decide +kernel
theorem de_Mo_term_82 : decode prog_14_method_23_code 82 = .ok (.putfield 87, 3) := by decide +kernel
theorem de_Mo_term_85 : decode prog_14_method_23_code 85 = .ok (.aload_n 0, 1) := by decide +kernel
theorem de_Mo_term_86 : decode prog_14_method_23_code 86 = .ok (.invokevirtual 173, 3) := by decide +kernel
theorem de_Mo_term_89 : decode prog_14_method_23_code 89 = .ok (.ifCond .ne 5, 3) := by decide +kernel
theorem de_Mo_term_92 : decode prog_14_method_23_code 92 = .ok (.iconst 0, 1) := by decide +kernel
theorem de_Mo_term_93 : decode prog_14_method_23_code 93 = .ok (.ireturn, 1) := by decide +kernel
theorem de_Mo_term_94 : decode prog_14_method_23_code 94 = .ok (.aload_n 0, 1) := by decide +kernel
theorem de_Mo_term_95 : decode prog_14_method_23_code 95 = .ok (.iload_n 1, 1) := by decide +kernel
theorem de_Mo_term_96 : decode prog_14_method_23_code 96 = .ok (.iconst 0, 1) := by decide +kernel
theorem de_Mo_term_97 : decode prog_14_method_23_code 97 = .ok (.invokevirtual 159, 3) := by decide +kernel
theorem de_Mo_term_100 : decode prog_14_method_23_code 100 = .ok (.goto (-91), 3) := by decide +kernel
theorem de_Mo_term_103 : decode prog_14_method_23_code 103 = .ok (.iconst 1, 1) := by decide +kernel
theorem de_Mo_term_104 : decode prog_14_method_23_code 104 = .ok (.ireturn, 1) := by decide +kernel
set_option maxHeartbeats 4000000 in
set_option maxRecDepth 10000 in
theorem lo_Mo_term (ht : tp_ok tape taped) (tx0 : 0 ≤ text) (tx1 : text ≤ 5) (b0 : Int) (hb0 : 0 ≤ b0) (c : Int) (hc : c ≤ 0) (s0 : Int → Int) : ∀ (n : Nat) (x : Option ab_V) (next made number : Int) (leng sign : Int → Int), 0 ≤ next → next ≤ taped → taped < next + n → ab_in number → 0 ≤ made → made ≤ 60 → b0 ≤ leng text → leng text - next ≤ c → sg_fr text s0 sign → ab_Ev g_G g_rs mt_Mo_term 4 0 0 9 [some (ab_R 0), x] [] (mo_W tape taped rules sign leng clause clauses read next (0) number text made deep lines opn opened stack top word said xx was undone kept sumOf faced slotAt dayAt row bestRow tMany tMost drawX images imageX isMade) (pv tape taped rules clause clauses read text deep lines opn opened stack top word said xx was undone kept sumOf faced slotAt dayAt row bestRow tMany tMost drawX images imageX isMade c b0 s0 (rs_tl tape taped text n next made leng sign)) := by
  intro n
  induction n with
  | zero =>
    intro x next made number leng sign
    intro hn0 hn1 g hnu hm0 hmB hl0 hl1 hs; omega
  | succ n ih =>
    intro x next made number leng sign
    intro hn0 hn1 g hnu hm0 hmB hl0 hl1 hs
    have p1 := ht.2.1
    have hb := tk_sk_b tape hn1
    have hsk := tk_sk_sk tape taped next hn1
    have hcb := tk_ch_b tape taped (tk_sk tape taped next)
    refine ev_aload_n de_Mo_term_9 rfl rfl ?_
    refine ev_vv (ci := 11) de_Mo_term_10 (co_Mo_see ht hn0 hn1) kb_Mo_90 ⟨im_Mo_see, se_Mo_see⟩ rfl rfl rfl (Nat.le_of_ble_eq_true rfl) (by decide) rfl ?_
    refine ev_bipush de_Mo_term_13 rfl ?_
    refine ev_icmp_eq (tgt := 36) de_Mo_term_15 (by decide) (by omega) (by omega) (fun h15 => ?_) (fun h15 => ?_)
    · skip
      have hop : tk_ch tape taped (tk_sk tape taped next) = 42 ∨ tk_ch tape taped (tk_sk tape taped next) = 47 ∨ tk_ch tape taped (tk_sk tape taped next) = 37 := by omega
      have hlt : tk_sk tape taped next < taped := Decidable.byContradiction (fun z => by unfold tk_ch at hop; rw [if_neg z] at hop; omega)
      have qb := ht.2.2 (tk_sk tape taped next) (by omega) (by omega)
      refine ev_aload_n de_Mo_term_36 rfl rfl ?_
      refine ev_getfield de_Mo_term_37 rfl fl_Mo_7 rfl ?_
      refine ev_aload_n de_Mo_term_40 rfl rfl ?_
      refine ev_getfield de_Mo_term_41 rfl fl_Mo_87 rfl ?_
      refine ev_baload de_Mo_term_44 rfl (by omega) (by omega) (by omega) ?_
      refine ev_bipush de_Mo_term_45 rfl ?_
      refine ev_icmp_ne (tgt := 54) de_Mo_term_47 (by decide) (by omega) (by omega) (fun h47 => ?_) (fun h47 => ?_)
      · skip
        refine ev_aload_n de_Mo_term_54 rfl rfl ?_
        refine ev_getfield de_Mo_term_55 rfl fl_Mo_7 rfl ?_
        refine ev_aload_n de_Mo_term_58 rfl rfl ?_
        refine ev_getfield de_Mo_term_59 rfl fl_Mo_87 rfl ?_
        refine ev_baload de_Mo_term_62 rfl (by omega) (by omega) (by omega) ?_
        refine ev_bipush de_Mo_term_63 rfl ?_
        refine ev_icmp_ne (tgt := 72) de_Mo_term_65 (by decide) (by omega) (by omega) (fun h65 => ?_) (fun h65 => ?_)
        · skip
          have eo : rs_top (tape (tk_sk tape taped next)) = 14 := by unfold rs_top; rw [if_neg h47, if_neg h65]
          refine ev_bipush de_Mo_term_72 rfl ?_
          refine ev_istore_n (l' := [_, _]) de_Mo_term_74 rfl (Nat.le_of_ble_eq_true rfl) rfl ?_
          refine ev_aload_n de_Mo_term_75 rfl rfl ?_
          refine ev_dup de_Mo_term_76 rfl ?_
          refine ev_getfield de_Mo_term_77 rfl fl_Mo_87 rfl ?_
          refine ev_iconst de_Mo_term_80 ?_
          refine ev_iadd de_Mo_term_81 ?_
          refine ev_putfield de_Mo_term_82 rfl (fp_Mo_87 _) (Nat.le_of_ble_eq_true rfl) trivial ?_
          refine ev_world (w' := mo_W _ _ _ _ _ _ _ _ _ _ _ _ _ _ _ _ _ _ _ _ _ _ _ _ _ _ _ _ _ _ _ _ _ _ _ _ _) rfl ?_
          refine ev_aload_n de_Mo_term_85 rfl rfl ?_
          refine ev_virtual (ci := 11) (mc := 0) (ms := 0) (bc := 0) (bs := 0) de_Mo_term_86 (co_Mo_value ht (by omega) (by omega) tx0 tx1 hnu hm0 hmB (leng text) (by omega) (Int.le_refl _) (leng text - (tk_sk tape taped next + 1)) (by omega) (by omega) s0 hs) kb_Mo_173 ⟨im_Mo_value, se_Mo_value⟩ rfl rfl rfl (Nat.le_of_ble_eq_true rfl) (by decide) (Or.inl (fun r w1 h => by obtain ⟨nx, nu, wr, mk, le, sg, e, -⟩ := h; rw [e]; first | exact mo_Wn.trans mo_Wn.symm | rfl)) (fun r1 w1 hm1 => ?_)
          obtain ⟨nx1, nu1, wr1, mk1, le1, sg1, rfl, hnx1, hnu1, hmk1, hfr1, hc1⟩ := hm1; rcases hc1 with ⟨rfl, rfl, hle1, hX1⟩ | ⟨rfl, hwr1, hX1⟩
          · skip
            refine ev_if_ne_t (tgt := 94) de_Mo_term_89 (by decide) (by decide) (by decide) ?_
            refine ev_aload_n de_Mo_term_94 rfl rfl ?_
            refine ev_iload_n de_Mo_term_95 rfl rfl ?_
            refine ev_iconst de_Mo_term_96 ?_
            refine ev_vn (ci := 11) de_Mo_term_97 (co_Mo_puts tx0 tx1 (by omega) (by omega) _ 0) kb_Mo_159 ⟨im_Mo_puts, se_Mo_puts⟩ rfl rfl rfl (Nat.le_of_ble_eq_true rfl) (by decide) rfl ?_
            refine ev_goto (tgt := 9) de_Mo_term_100 (by decide) ?_
            have e : rs_tl tape taped text (n + 1) next made leng sign = rs_tl tape taped text n nx1 mk1 (ab_up le1 text (le1 text + 1)) (ab_up sg1 (400 * text + le1 text) (rs_top (tape (tk_sk tape taped next)) + 16 * 0)) := by show (if _ then _ else _) = _; rw [if_pos hop, hX1]
            rw [e, eo]
            exact ih _ nx1 mk1 nu1 _ _ hnx1.1 hnx1.2 (by omega) hnu1 hmk1.1 hmk1.2 (by rw [ab_upe]; omega) (by rw [ab_upe]; omega) (sg_fr_up hfr1 (by omega) (by omega))
          · skip
            refine ev_if_ne_f (tgt := 94) de_Mo_term_89 (by decide) (by decide) (by decide) ?_
            refine ev_iconst de_Mo_term_92 ?_
            exact ev_zreturn de_Mo_term_93 rfl (by decide) ⟨_, _, _, _, _, _, rfl, hnx1, hnu1, hmk1, hfr1, Or.inr ⟨rfl, hwr1, by show (if _ then _ else _) = _; rw [if_pos hop, hX1]⟩⟩
        · skip
          have eo : rs_top (tape (tk_sk tape taped next)) = 5 := by unfold rs_top; rw [if_neg h47, if_pos h65]
          refine ev_iconst de_Mo_term_68 ?_
          refine ev_goto (tgt := 74) de_Mo_term_69 (by decide) ?_
          refine ev_istore_n (l' := [_, _]) de_Mo_term_74 rfl (Nat.le_of_ble_eq_true rfl) rfl ?_
          refine ev_aload_n de_Mo_term_75 rfl rfl ?_
          refine ev_dup de_Mo_term_76 rfl ?_
          refine ev_getfield de_Mo_term_77 rfl fl_Mo_87 rfl ?_
          refine ev_iconst de_Mo_term_80 ?_
          refine ev_iadd de_Mo_term_81 ?_
          refine ev_putfield de_Mo_term_82 rfl (fp_Mo_87 _) (Nat.le_of_ble_eq_true rfl) trivial ?_
          refine ev_world (w' := mo_W _ _ _ _ _ _ _ _ _ _ _ _ _ _ _ _ _ _ _ _ _ _ _ _ _ _ _ _ _ _ _ _ _ _ _ _ _) rfl ?_
          refine ev_aload_n de_Mo_term_85 rfl rfl ?_
          refine ev_virtual (ci := 11) (mc := 0) (ms := 0) (bc := 0) (bs := 0) de_Mo_term_86 (co_Mo_value ht (by omega) (by omega) tx0 tx1 hnu hm0 hmB (leng text) (by omega) (Int.le_refl _) (leng text - (tk_sk tape taped next + 1)) (by omega) (by omega) s0 hs) kb_Mo_173 ⟨im_Mo_value, se_Mo_value⟩ rfl rfl rfl (Nat.le_of_ble_eq_true rfl) (by decide) (Or.inl (fun r w1 h => by obtain ⟨nx, nu, wr, mk, le, sg, e, -⟩ := h; rw [e]; first | exact mo_Wn.trans mo_Wn.symm | rfl)) (fun r1 w1 hm1 => ?_)
          obtain ⟨nx1, nu1, wr1, mk1, le1, sg1, rfl, hnx1, hnu1, hmk1, hfr1, hc1⟩ := hm1; rcases hc1 with ⟨rfl, rfl, hle1, hX1⟩ | ⟨rfl, hwr1, hX1⟩
          · skip
            refine ev_if_ne_t (tgt := 94) de_Mo_term_89 (by decide) (by decide) (by decide) ?_
            refine ev_aload_n de_Mo_term_94 rfl rfl ?_
            refine ev_iload_n de_Mo_term_95 rfl rfl ?_
            refine ev_iconst de_Mo_term_96 ?_
            refine ev_vn (ci := 11) de_Mo_term_97 (co_Mo_puts tx0 tx1 (by omega) (by omega) _ 0) kb_Mo_159 ⟨im_Mo_puts, se_Mo_puts⟩ rfl rfl rfl (Nat.le_of_ble_eq_true rfl) (by decide) rfl ?_
            refine ev_goto (tgt := 9) de_Mo_term_100 (by decide) ?_
            have e : rs_tl tape taped text (n + 1) next made leng sign = rs_tl tape taped text n nx1 mk1 (ab_up le1 text (le1 text + 1)) (ab_up sg1 (400 * text + le1 text) (rs_top (tape (tk_sk tape taped next)) + 16 * 0)) := by show (if _ then _ else _) = _; rw [if_pos hop, hX1]
            rw [e, eo]
            exact ih _ nx1 mk1 nu1 _ _ hnx1.1 hnx1.2 (by omega) hnu1 hmk1.1 hmk1.2 (by rw [ab_upe]; omega) (by rw [ab_upe]; omega) (sg_fr_up hfr1 (by omega) (by omega))
          · skip
            refine ev_if_ne_f (tgt := 94) de_Mo_term_89 (by decide) (by decide) (by decide) ?_
            refine ev_iconst de_Mo_term_92 ?_
            exact ev_zreturn de_Mo_term_93 rfl (by decide) ⟨_, _, _, _, _, _, rfl, hnx1, hnu1, hmk1, hfr1, Or.inr ⟨rfl, hwr1, by show (if _ then _ else _) = _; rw [if_pos hop, hX1]⟩⟩
      · skip
        have eo : rs_top (tape (tk_sk tape taped next)) = 4 := by unfold rs_top; rw [if_pos h47]
        refine ev_iconst de_Mo_term_50 ?_
        refine ev_goto (tgt := 74) de_Mo_term_51 (by decide) ?_
        refine ev_istore_n (l' := [_, _]) de_Mo_term_74 rfl (Nat.le_of_ble_eq_true rfl) rfl ?_
        refine ev_aload_n de_Mo_term_75 rfl rfl ?_
        refine ev_dup de_Mo_term_76 rfl ?_
        refine ev_getfield de_Mo_term_77 rfl fl_Mo_87 rfl ?_
        refine ev_iconst de_Mo_term_80 ?_
        refine ev_iadd de_Mo_term_81 ?_
        refine ev_putfield de_Mo_term_82 rfl (fp_Mo_87 _) (Nat.le_of_ble_eq_true rfl) trivial ?_
        refine ev_world (w' := mo_W _ _ _ _ _ _ _ _ _ _ _ _ _ _ _ _ _ _ _ _ _ _ _ _ _ _ _ _ _ _ _ _ _ _ _ _ _) rfl ?_
        refine ev_aload_n de_Mo_term_85 rfl rfl ?_
        refine ev_virtual (ci := 11) (mc := 0) (ms := 0) (bc := 0) (bs := 0) de_Mo_term_86 (co_Mo_value ht (by omega) (by omega) tx0 tx1 hnu hm0 hmB (leng text) (by omega) (Int.le_refl _) (leng text - (tk_sk tape taped next + 1)) (by omega) (by omega) s0 hs) kb_Mo_173 ⟨im_Mo_value, se_Mo_value⟩ rfl rfl rfl (Nat.le_of_ble_eq_true rfl) (by decide) (Or.inl (fun r w1 h => by obtain ⟨nx, nu, wr, mk, le, sg, e, -⟩ := h; rw [e]; first | exact mo_Wn.trans mo_Wn.symm | rfl)) (fun r1 w1 hm1 => ?_)
        obtain ⟨nx1, nu1, wr1, mk1, le1, sg1, rfl, hnx1, hnu1, hmk1, hfr1, hc1⟩ := hm1; rcases hc1 with ⟨rfl, rfl, hle1, hX1⟩ | ⟨rfl, hwr1, hX1⟩
        · skip
          refine ev_if_ne_t (tgt := 94) de_Mo_term_89 (by decide) (by decide) (by decide) ?_
          refine ev_aload_n de_Mo_term_94 rfl rfl ?_
          refine ev_iload_n de_Mo_term_95 rfl rfl ?_
          refine ev_iconst de_Mo_term_96 ?_
          refine ev_vn (ci := 11) de_Mo_term_97 (co_Mo_puts tx0 tx1 (by omega) (by omega) _ 0) kb_Mo_159 ⟨im_Mo_puts, se_Mo_puts⟩ rfl rfl rfl (Nat.le_of_ble_eq_true rfl) (by decide) rfl ?_
          refine ev_goto (tgt := 9) de_Mo_term_100 (by decide) ?_
          have e : rs_tl tape taped text (n + 1) next made leng sign = rs_tl tape taped text n nx1 mk1 (ab_up le1 text (le1 text + 1)) (ab_up sg1 (400 * text + le1 text) (rs_top (tape (tk_sk tape taped next)) + 16 * 0)) := by show (if _ then _ else _) = _; rw [if_pos hop, hX1]
          rw [e, eo]
          exact ih _ nx1 mk1 nu1 _ _ hnx1.1 hnx1.2 (by omega) hnu1 hmk1.1 hmk1.2 (by rw [ab_upe]; omega) (by rw [ab_upe]; omega) (sg_fr_up hfr1 (by omega) (by omega))
        · skip
          refine ev_if_ne_f (tgt := 94) de_Mo_term_89 (by decide) (by decide) (by decide) ?_
          refine ev_iconst de_Mo_term_92 ?_
          exact ev_zreturn de_Mo_term_93 rfl (by decide) ⟨_, _, _, _, _, _, rfl, hnx1, hnu1, hmk1, hfr1, Or.inr ⟨rfl, hwr1, by show (if _ then _ else _) = _; rw [if_pos hop, hX1]⟩⟩
    · skip
      refine ev_aload_n de_Mo_term_18 rfl rfl ?_
      refine ev_vv (ci := 11) de_Mo_term_19 (cs_Mo_see ht (by omega) hb.2 hsk) kb_Mo_90 ⟨im_Mo_see, se_Mo_see⟩ rfl rfl rfl (Nat.le_of_ble_eq_true rfl) (by decide) rfl ?_
      refine ev_bipush de_Mo_term_22 rfl ?_
      refine ev_icmp_eq (tgt := 36) de_Mo_term_24 (by decide) (by omega) (by omega) (fun h24 => ?_) (fun h24 => ?_)
      · skip
        have hop : tk_ch tape taped (tk_sk tape taped next) = 42 ∨ tk_ch tape taped (tk_sk tape taped next) = 47 ∨ tk_ch tape taped (tk_sk tape taped next) = 37 := by omega
        have hlt : tk_sk tape taped next < taped := Decidable.byContradiction (fun z => by unfold tk_ch at hop; rw [if_neg z] at hop; omega)
        have qb := ht.2.2 (tk_sk tape taped next) (by omega) (by omega)
        refine ev_aload_n de_Mo_term_36 rfl rfl ?_
        refine ev_getfield de_Mo_term_37 rfl fl_Mo_7 rfl ?_
        refine ev_aload_n de_Mo_term_40 rfl rfl ?_
        refine ev_getfield de_Mo_term_41 rfl fl_Mo_87 rfl ?_
        refine ev_baload de_Mo_term_44 rfl (by omega) (by omega) (by omega) ?_
        refine ev_bipush de_Mo_term_45 rfl ?_
        refine ev_icmp_ne (tgt := 54) de_Mo_term_47 (by decide) (by omega) (by omega) (fun h47 => ?_) (fun h47 => ?_)
        · skip
          refine ev_aload_n de_Mo_term_54 rfl rfl ?_
          refine ev_getfield de_Mo_term_55 rfl fl_Mo_7 rfl ?_
          refine ev_aload_n de_Mo_term_58 rfl rfl ?_
          refine ev_getfield de_Mo_term_59 rfl fl_Mo_87 rfl ?_
          refine ev_baload de_Mo_term_62 rfl (by omega) (by omega) (by omega) ?_
          refine ev_bipush de_Mo_term_63 rfl ?_
          refine ev_icmp_ne (tgt := 72) de_Mo_term_65 (by decide) (by omega) (by omega) (fun h65 => ?_) (fun h65 => ?_)
          · skip
            have eo : rs_top (tape (tk_sk tape taped next)) = 14 := by unfold rs_top; rw [if_neg h47, if_neg h65]
            refine ev_bipush de_Mo_term_72 rfl ?_
            refine ev_istore_n (l' := [_, _]) de_Mo_term_74 rfl (Nat.le_of_ble_eq_true rfl) rfl ?_
            refine ev_aload_n de_Mo_term_75 rfl rfl ?_
            refine ev_dup de_Mo_term_76 rfl ?_
            refine ev_getfield de_Mo_term_77 rfl fl_Mo_87 rfl ?_
            refine ev_iconst de_Mo_term_80 ?_
            refine ev_iadd de_Mo_term_81 ?_
            refine ev_putfield de_Mo_term_82 rfl (fp_Mo_87 _) (Nat.le_of_ble_eq_true rfl) trivial ?_
            refine ev_world (w' := mo_W _ _ _ _ _ _ _ _ _ _ _ _ _ _ _ _ _ _ _ _ _ _ _ _ _ _ _ _ _ _ _ _ _ _ _ _ _) rfl ?_
            refine ev_aload_n de_Mo_term_85 rfl rfl ?_
            refine ev_virtual (ci := 11) (mc := 0) (ms := 0) (bc := 0) (bs := 0) de_Mo_term_86 (co_Mo_value ht (by omega) (by omega) tx0 tx1 hnu hm0 hmB (leng text) (by omega) (Int.le_refl _) (leng text - (tk_sk tape taped next + 1)) (by omega) (by omega) s0 hs) kb_Mo_173 ⟨im_Mo_value, se_Mo_value⟩ rfl rfl rfl (Nat.le_of_ble_eq_true rfl) (by decide) (Or.inl (fun r w1 h => by obtain ⟨nx, nu, wr, mk, le, sg, e, -⟩ := h; rw [e]; first | exact mo_Wn.trans mo_Wn.symm | rfl)) (fun r1 w1 hm1 => ?_)
            obtain ⟨nx1, nu1, wr1, mk1, le1, sg1, rfl, hnx1, hnu1, hmk1, hfr1, hc1⟩ := hm1; rcases hc1 with ⟨rfl, rfl, hle1, hX1⟩ | ⟨rfl, hwr1, hX1⟩
            · skip
              refine ev_if_ne_t (tgt := 94) de_Mo_term_89 (by decide) (by decide) (by decide) ?_
              refine ev_aload_n de_Mo_term_94 rfl rfl ?_
              refine ev_iload_n de_Mo_term_95 rfl rfl ?_
              refine ev_iconst de_Mo_term_96 ?_
              refine ev_vn (ci := 11) de_Mo_term_97 (co_Mo_puts tx0 tx1 (by omega) (by omega) _ 0) kb_Mo_159 ⟨im_Mo_puts, se_Mo_puts⟩ rfl rfl rfl (Nat.le_of_ble_eq_true rfl) (by decide) rfl ?_
              refine ev_goto (tgt := 9) de_Mo_term_100 (by decide) ?_
              have e : rs_tl tape taped text (n + 1) next made leng sign = rs_tl tape taped text n nx1 mk1 (ab_up le1 text (le1 text + 1)) (ab_up sg1 (400 * text + le1 text) (rs_top (tape (tk_sk tape taped next)) + 16 * 0)) := by show (if _ then _ else _) = _; rw [if_pos hop, hX1]
              rw [e, eo]
              exact ih _ nx1 mk1 nu1 _ _ hnx1.1 hnx1.2 (by omega) hnu1 hmk1.1 hmk1.2 (by rw [ab_upe]; omega) (by rw [ab_upe]; omega) (sg_fr_up hfr1 (by omega) (by omega))
            · skip
              refine ev_if_ne_f (tgt := 94) de_Mo_term_89 (by decide) (by decide) (by decide) ?_
              refine ev_iconst de_Mo_term_92 ?_
              exact ev_zreturn de_Mo_term_93 rfl (by decide) ⟨_, _, _, _, _, _, rfl, hnx1, hnu1, hmk1, hfr1, Or.inr ⟨rfl, hwr1, by show (if _ then _ else _) = _; rw [if_pos hop, hX1]⟩⟩
          · skip
            have eo : rs_top (tape (tk_sk tape taped next)) = 5 := by unfold rs_top; rw [if_neg h47, if_pos h65]
            refine ev_iconst de_Mo_term_68 ?_
            refine ev_goto (tgt := 74) de_Mo_term_69 (by decide) ?_
            refine ev_istore_n (l' := [_, _]) de_Mo_term_74 rfl (Nat.le_of_ble_eq_true rfl) rfl ?_
            refine ev_aload_n de_Mo_term_75 rfl rfl ?_
            refine ev_dup de_Mo_term_76 rfl ?_
            refine ev_getfield de_Mo_term_77 rfl fl_Mo_87 rfl ?_
            refine ev_iconst de_Mo_term_80 ?_
            refine ev_iadd de_Mo_term_81 ?_
            refine ev_putfield de_Mo_term_82 rfl (fp_Mo_87 _) (Nat.le_of_ble_eq_true rfl) trivial ?_
            refine ev_world (w' := mo_W _ _ _ _ _ _ _ _ _ _ _ _ _ _ _ _ _ _ _ _ _ _ _ _ _ _ _ _ _ _ _ _ _ _ _ _ _) rfl ?_
            refine ev_aload_n de_Mo_term_85 rfl rfl ?_
            refine ev_virtual (ci := 11) (mc := 0) (ms := 0) (bc := 0) (bs := 0) de_Mo_term_86 (co_Mo_value ht (by omega) (by omega) tx0 tx1 hnu hm0 hmB (leng text) (by omega) (Int.le_refl _) (leng text - (tk_sk tape taped next + 1)) (by omega) (by omega) s0 hs) kb_Mo_173 ⟨im_Mo_value, se_Mo_value⟩ rfl rfl rfl (Nat.le_of_ble_eq_true rfl) (by decide) (Or.inl (fun r w1 h => by obtain ⟨nx, nu, wr, mk, le, sg, e, -⟩ := h; rw [e]; first | exact mo_Wn.trans mo_Wn.symm | rfl)) (fun r1 w1 hm1 => ?_)
            obtain ⟨nx1, nu1, wr1, mk1, le1, sg1, rfl, hnx1, hnu1, hmk1, hfr1, hc1⟩ := hm1; rcases hc1 with ⟨rfl, rfl, hle1, hX1⟩ | ⟨rfl, hwr1, hX1⟩
            · skip
              refine ev_if_ne_t (tgt := 94) de_Mo_term_89 (by decide) (by decide) (by decide) ?_
              refine ev_aload_n de_Mo_term_94 rfl rfl ?_
              refine ev_iload_n de_Mo_term_95 rfl rfl ?_
              refine ev_iconst de_Mo_term_96 ?_
              refine ev_vn (ci := 11) de_Mo_term_97 (co_Mo_puts tx0 tx1 (by omega) (by omega) _ 0) kb_Mo_159 ⟨im_Mo_puts, se_Mo_puts⟩ rfl rfl rfl (Nat.le_of_ble_eq_true rfl) (by decide) rfl ?_
              refine ev_goto (tgt := 9) de_Mo_term_100 (by decide) ?_
              have e : rs_tl tape taped text (n + 1) next made leng sign = rs_tl tape taped text n nx1 mk1 (ab_up le1 text (le1 text + 1)) (ab_up sg1 (400 * text + le1 text) (rs_top (tape (tk_sk tape taped next)) + 16 * 0)) := by show (if _ then _ else _) = _; rw [if_pos hop, hX1]
              rw [e, eo]
              exact ih _ nx1 mk1 nu1 _ _ hnx1.1 hnx1.2 (by omega) hnu1 hmk1.1 hmk1.2 (by rw [ab_upe]; omega) (by rw [ab_upe]; omega) (sg_fr_up hfr1 (by omega) (by omega))
            · skip
              refine ev_if_ne_f (tgt := 94) de_Mo_term_89 (by decide) (by decide) (by decide) ?_
              refine ev_iconst de_Mo_term_92 ?_
              exact ev_zreturn de_Mo_term_93 rfl (by decide) ⟨_, _, _, _, _, _, rfl, hnx1, hnu1, hmk1, hfr1, Or.inr ⟨rfl, hwr1, by show (if _ then _ else _) = _; rw [if_pos hop, hX1]⟩⟩
        · skip
          have eo : rs_top (tape (tk_sk tape taped next)) = 4 := by unfold rs_top; rw [if_pos h47]
          refine ev_iconst de_Mo_term_50 ?_
          refine ev_goto (tgt := 74) de_Mo_term_51 (by decide) ?_
          refine ev_istore_n (l' := [_, _]) de_Mo_term_74 rfl (Nat.le_of_ble_eq_true rfl) rfl ?_
          refine ev_aload_n de_Mo_term_75 rfl rfl ?_
          refine ev_dup de_Mo_term_76 rfl ?_
          refine ev_getfield de_Mo_term_77 rfl fl_Mo_87 rfl ?_
          refine ev_iconst de_Mo_term_80 ?_
          refine ev_iadd de_Mo_term_81 ?_
          refine ev_putfield de_Mo_term_82 rfl (fp_Mo_87 _) (Nat.le_of_ble_eq_true rfl) trivial ?_
          refine ev_world (w' := mo_W _ _ _ _ _ _ _ _ _ _ _ _ _ _ _ _ _ _ _ _ _ _ _ _ _ _ _ _ _ _ _ _ _ _ _ _ _) rfl ?_
          refine ev_aload_n de_Mo_term_85 rfl rfl ?_
          refine ev_virtual (ci := 11) (mc := 0) (ms := 0) (bc := 0) (bs := 0) de_Mo_term_86 (co_Mo_value ht (by omega) (by omega) tx0 tx1 hnu hm0 hmB (leng text) (by omega) (Int.le_refl _) (leng text - (tk_sk tape taped next + 1)) (by omega) (by omega) s0 hs) kb_Mo_173 ⟨im_Mo_value, se_Mo_value⟩ rfl rfl rfl (Nat.le_of_ble_eq_true rfl) (by decide) (Or.inl (fun r w1 h => by obtain ⟨nx, nu, wr, mk, le, sg, e, -⟩ := h; rw [e]; first | exact mo_Wn.trans mo_Wn.symm | rfl)) (fun r1 w1 hm1 => ?_)
          obtain ⟨nx1, nu1, wr1, mk1, le1, sg1, rfl, hnx1, hnu1, hmk1, hfr1, hc1⟩ := hm1; rcases hc1 with ⟨rfl, rfl, hle1, hX1⟩ | ⟨rfl, hwr1, hX1⟩
          · skip
            refine ev_if_ne_t (tgt := 94) de_Mo_term_89 (by decide) (by decide) (by decide) ?_
            refine ev_aload_n de_Mo_term_94 rfl rfl ?_
            refine ev_iload_n de_Mo_term_95 rfl rfl ?_
            refine ev_iconst de_Mo_term_96 ?_
            refine ev_vn (ci := 11) de_Mo_term_97 (co_Mo_puts tx0 tx1 (by omega) (by omega) _ 0) kb_Mo_159 ⟨im_Mo_puts, se_Mo_puts⟩ rfl rfl rfl (Nat.le_of_ble_eq_true rfl) (by decide) rfl ?_
            refine ev_goto (tgt := 9) de_Mo_term_100 (by decide) ?_
            have e : rs_tl tape taped text (n + 1) next made leng sign = rs_tl tape taped text n nx1 mk1 (ab_up le1 text (le1 text + 1)) (ab_up sg1 (400 * text + le1 text) (rs_top (tape (tk_sk tape taped next)) + 16 * 0)) := by show (if _ then _ else _) = _; rw [if_pos hop, hX1]
            rw [e, eo]
            exact ih _ nx1 mk1 nu1 _ _ hnx1.1 hnx1.2 (by omega) hnu1 hmk1.1 hmk1.2 (by rw [ab_upe]; omega) (by rw [ab_upe]; omega) (sg_fr_up hfr1 (by omega) (by omega))
          · skip
            refine ev_if_ne_f (tgt := 94) de_Mo_term_89 (by decide) (by decide) (by decide) ?_
            refine ev_iconst de_Mo_term_92 ?_
            exact ev_zreturn de_Mo_term_93 rfl (by decide) ⟨_, _, _, _, _, _, rfl, hnx1, hnu1, hmk1, hfr1, Or.inr ⟨rfl, hwr1, by show (if _ then _ else _) = _; rw [if_pos hop, hX1]⟩⟩
      · skip
        refine ev_aload_n de_Mo_term_27 rfl rfl ?_
        refine ev_vv (ci := 11) de_Mo_term_28 (cs_Mo_see ht (by omega) hb.2 hsk) kb_Mo_90 ⟨im_Mo_see, se_Mo_see⟩ rfl rfl rfl (Nat.le_of_ble_eq_true rfl) (by decide) rfl ?_
        refine ev_bipush de_Mo_term_31 rfl ?_
        refine ev_icmp_ne (tgt := 103) de_Mo_term_33 (by decide) (by omega) (by omega) (fun h33 => ?_) (fun h33 => ?_)
        · skip
          refine ev_iconst de_Mo_term_103 ?_
          exact ev_zreturn de_Mo_term_104 rfl (by decide) ⟨_, _, _, _, _, _, rfl, ⟨by omega, hb.2⟩, hnu, ⟨hm0, hmB⟩, hs, Or.inl ⟨rfl, rfl, ⟨hl0, by omega⟩, by show (if _ then _ else _) = _; rw [if_neg (by omega)]⟩⟩
        · skip
          have hop : tk_ch tape taped (tk_sk tape taped next) = 42 ∨ tk_ch tape taped (tk_sk tape taped next) = 47 ∨ tk_ch tape taped (tk_sk tape taped next) = 37 := by omega
          have hlt : tk_sk tape taped next < taped := Decidable.byContradiction (fun z => by unfold tk_ch at hop; rw [if_neg z] at hop; omega)
          have qb := ht.2.2 (tk_sk tape taped next) (by omega) (by omega)
          refine ev_aload_n de_Mo_term_36 rfl rfl ?_
          refine ev_getfield de_Mo_term_37 rfl fl_Mo_7 rfl ?_
          refine ev_aload_n de_Mo_term_40 rfl rfl ?_
          refine ev_getfield de_Mo_term_41 rfl fl_Mo_87 rfl ?_
          refine ev_baload de_Mo_term_44 rfl (by omega) (by omega) (by omega) ?_
          refine ev_bipush de_Mo_term_45 rfl ?_
          refine ev_icmp_ne (tgt := 54) de_Mo_term_47 (by decide) (by omega) (by omega) (fun h47 => ?_) (fun h47 => ?_)
          · skip
            refine ev_aload_n de_Mo_term_54 rfl rfl ?_
            refine ev_getfield de_Mo_term_55 rfl fl_Mo_7 rfl ?_
            refine ev_aload_n de_Mo_term_58 rfl rfl ?_
            refine ev_getfield de_Mo_term_59 rfl fl_Mo_87 rfl ?_
            refine ev_baload de_Mo_term_62 rfl (by omega) (by omega) (by omega) ?_
            refine ev_bipush de_Mo_term_63 rfl ?_
            refine ev_icmp_ne (tgt := 72) de_Mo_term_65 (by decide) (by omega) (by omega) (fun h65 => ?_) (fun h65 => ?_)
            · skip
              have eo : rs_top (tape (tk_sk tape taped next)) = 14 := by unfold rs_top; rw [if_neg h47, if_neg h65]
              refine ev_bipush de_Mo_term_72 rfl ?_
              refine ev_istore_n (l' := [_, _]) de_Mo_term_74 rfl (Nat.le_of_ble_eq_true rfl) rfl ?_
              refine ev_aload_n de_Mo_term_75 rfl rfl ?_
              refine ev_dup de_Mo_term_76 rfl ?_
              refine ev_getfield de_Mo_term_77 rfl fl_Mo_87 rfl ?_
              refine ev_iconst de_Mo_term_80 ?_
              refine ev_iadd de_Mo_term_81 ?_
              refine ev_putfield de_Mo_term_82 rfl (fp_Mo_87 _) (Nat.le_of_ble_eq_true rfl) trivial ?_
              refine ev_world (w' := mo_W _ _ _ _ _ _ _ _ _ _ _ _ _ _ _ _ _ _ _ _ _ _ _ _ _ _ _ _ _ _ _ _ _ _ _ _ _) rfl ?_
              refine ev_aload_n de_Mo_term_85 rfl rfl ?_
              refine ev_virtual (ci := 11) (mc := 0) (ms := 0) (bc := 0) (bs := 0) de_Mo_term_86 (co_Mo_value ht (by omega) (by omega) tx0 tx1 hnu hm0 hmB (leng text) (by omega) (Int.le_refl _) (leng text - (tk_sk tape taped next + 1)) (by omega) (by omega) s0 hs) kb_Mo_173 ⟨im_Mo_value, se_Mo_value⟩ rfl rfl rfl (Nat.le_of_ble_eq_true rfl) (by decide) (Or.inl (fun r w1 h => by obtain ⟨nx, nu, wr, mk, le, sg, e, -⟩ := h; rw [e]; first | exact mo_Wn.trans mo_Wn.symm | rfl)) (fun r1 w1 hm1 => ?_)
              obtain ⟨nx1, nu1, wr1, mk1, le1, sg1, rfl, hnx1, hnu1, hmk1, hfr1, hc1⟩ := hm1; rcases hc1 with ⟨rfl, rfl, hle1, hX1⟩ | ⟨rfl, hwr1, hX1⟩
              · skip
                refine ev_if_ne_t (tgt := 94) de_Mo_term_89 (by decide) (by decide) (by decide) ?_
                refine ev_aload_n de_Mo_term_94 rfl rfl ?_
                refine ev_iload_n de_Mo_term_95 rfl rfl ?_
                refine ev_iconst de_Mo_term_96 ?_
                refine ev_vn (ci := 11) de_Mo_term_97 (co_Mo_puts tx0 tx1 (by omega) (by omega) _ 0) kb_Mo_159 ⟨im_Mo_puts, se_Mo_puts⟩ rfl rfl rfl (Nat.le_of_ble_eq_true rfl) (by decide) rfl ?_
                refine ev_goto (tgt := 9) de_Mo_term_100 (by decide) ?_
                have e : rs_tl tape taped text (n + 1) next made leng sign = rs_tl tape taped text n nx1 mk1 (ab_up le1 text (le1 text + 1)) (ab_up sg1 (400 * text + le1 text) (rs_top (tape (tk_sk tape taped next)) + 16 * 0)) := by show (if _ then _ else _) = _; rw [if_pos hop, hX1]
                rw [e, eo]
                exact ih _ nx1 mk1 nu1 _ _ hnx1.1 hnx1.2 (by omega) hnu1 hmk1.1 hmk1.2 (by rw [ab_upe]; omega) (by rw [ab_upe]; omega) (sg_fr_up hfr1 (by omega) (by omega))
              · skip
                refine ev_if_ne_f (tgt := 94) de_Mo_term_89 (by decide) (by decide) (by decide) ?_
                refine ev_iconst de_Mo_term_92 ?_
                exact ev_zreturn de_Mo_term_93 rfl (by decide) ⟨_, _, _, _, _, _, rfl, hnx1, hnu1, hmk1, hfr1, Or.inr ⟨rfl, hwr1, by show (if _ then _ else _) = _; rw [if_pos hop, hX1]⟩⟩
            · skip
              have eo : rs_top (tape (tk_sk tape taped next)) = 5 := by unfold rs_top; rw [if_neg h47, if_pos h65]
              refine ev_iconst de_Mo_term_68 ?_
              refine ev_goto (tgt := 74) de_Mo_term_69 (by decide) ?_
              refine ev_istore_n (l' := [_, _]) de_Mo_term_74 rfl (Nat.le_of_ble_eq_true rfl) rfl ?_
              refine ev_aload_n de_Mo_term_75 rfl rfl ?_
              refine ev_dup de_Mo_term_76 rfl ?_
              refine ev_getfield de_Mo_term_77 rfl fl_Mo_87 rfl ?_
              refine ev_iconst de_Mo_term_80 ?_
              refine ev_iadd de_Mo_term_81 ?_
              refine ev_putfield de_Mo_term_82 rfl (fp_Mo_87 _) (Nat.le_of_ble_eq_true rfl) trivial ?_
              refine ev_world (w' := mo_W _ _ _ _ _ _ _ _ _ _ _ _ _ _ _ _ _ _ _ _ _ _ _ _ _ _ _ _ _ _ _ _ _ _ _ _ _) rfl ?_
              refine ev_aload_n de_Mo_term_85 rfl rfl ?_
              refine ev_virtual (ci := 11) (mc := 0) (ms := 0) (bc := 0) (bs := 0) de_Mo_term_86 (co_Mo_value ht (by omega) (by omega) tx0 tx1 hnu hm0 hmB (leng text) (by omega) (Int.le_refl _) (leng text - (tk_sk tape taped next + 1)) (by omega) (by omega) s0 hs) kb_Mo_173 ⟨im_Mo_value, se_Mo_value⟩ rfl rfl rfl (Nat.le_of_ble_eq_true rfl) (by decide) (Or.inl (fun r w1 h => by obtain ⟨nx, nu, wr, mk, le, sg, e, -⟩ := h; rw [e]; first | exact mo_Wn.trans mo_Wn.symm | rfl)) (fun r1 w1 hm1 => ?_)
              obtain ⟨nx1, nu1, wr1, mk1, le1, sg1, rfl, hnx1, hnu1, hmk1, hfr1, hc1⟩ := hm1; rcases hc1 with ⟨rfl, rfl, hle1, hX1⟩ | ⟨rfl, hwr1, hX1⟩
              · skip
                refine ev_if_ne_t (tgt := 94) de_Mo_term_89 (by decide) (by decide) (by decide) ?_
                refine ev_aload_n de_Mo_term_94 rfl rfl ?_
                refine ev_iload_n de_Mo_term_95 rfl rfl ?_
                refine ev_iconst de_Mo_term_96 ?_
                refine ev_vn (ci := 11) de_Mo_term_97 (co_Mo_puts tx0 tx1 (by omega) (by omega) _ 0) kb_Mo_159 ⟨im_Mo_puts, se_Mo_puts⟩ rfl rfl rfl (Nat.le_of_ble_eq_true rfl) (by decide) rfl ?_
                refine ev_goto (tgt := 9) de_Mo_term_100 (by decide) ?_
                have e : rs_tl tape taped text (n + 1) next made leng sign = rs_tl tape taped text n nx1 mk1 (ab_up le1 text (le1 text + 1)) (ab_up sg1 (400 * text + le1 text) (rs_top (tape (tk_sk tape taped next)) + 16 * 0)) := by show (if _ then _ else _) = _; rw [if_pos hop, hX1]
                rw [e, eo]
                exact ih _ nx1 mk1 nu1 _ _ hnx1.1 hnx1.2 (by omega) hnu1 hmk1.1 hmk1.2 (by rw [ab_upe]; omega) (by rw [ab_upe]; omega) (sg_fr_up hfr1 (by omega) (by omega))
              · skip
                refine ev_if_ne_f (tgt := 94) de_Mo_term_89 (by decide) (by decide) (by decide) ?_
                refine ev_iconst de_Mo_term_92 ?_
                exact ev_zreturn de_Mo_term_93 rfl (by decide) ⟨_, _, _, _, _, _, rfl, hnx1, hnu1, hmk1, hfr1, Or.inr ⟨rfl, hwr1, by show (if _ then _ else _) = _; rw [if_pos hop, hX1]⟩⟩
          · skip
            have eo : rs_top (tape (tk_sk tape taped next)) = 4 := by unfold rs_top; rw [if_pos h47]
            refine ev_iconst de_Mo_term_50 ?_
            refine ev_goto (tgt := 74) de_Mo_term_51 (by decide) ?_
            refine ev_istore_n (l' := [_, _]) de_Mo_term_74 rfl (Nat.le_of_ble_eq_true rfl) rfl ?_
            refine ev_aload_n de_Mo_term_75 rfl rfl ?_
            refine ev_dup de_Mo_term_76 rfl ?_
            refine ev_getfield de_Mo_term_77 rfl fl_Mo_87 rfl ?_
            refine ev_iconst de_Mo_term_80 ?_
            refine ev_iadd de_Mo_term_81 ?_
            refine ev_putfield de_Mo_term_82 rfl (fp_Mo_87 _) (Nat.le_of_ble_eq_true rfl) trivial ?_
            refine ev_world (w' := mo_W _ _ _ _ _ _ _ _ _ _ _ _ _ _ _ _ _ _ _ _ _ _ _ _ _ _ _ _ _ _ _ _ _ _ _ _ _) rfl ?_
            refine ev_aload_n de_Mo_term_85 rfl rfl ?_
            refine ev_virtual (ci := 11) (mc := 0) (ms := 0) (bc := 0) (bs := 0) de_Mo_term_86 (co_Mo_value ht (by omega) (by omega) tx0 tx1 hnu hm0 hmB (leng text) (by omega) (Int.le_refl _) (leng text - (tk_sk tape taped next + 1)) (by omega) (by omega) s0 hs) kb_Mo_173 ⟨im_Mo_value, se_Mo_value⟩ rfl rfl rfl (Nat.le_of_ble_eq_true rfl) (by decide) (Or.inl (fun r w1 h => by obtain ⟨nx, nu, wr, mk, le, sg, e, -⟩ := h; rw [e]; first | exact mo_Wn.trans mo_Wn.symm | rfl)) (fun r1 w1 hm1 => ?_)
            obtain ⟨nx1, nu1, wr1, mk1, le1, sg1, rfl, hnx1, hnu1, hmk1, hfr1, hc1⟩ := hm1; rcases hc1 with ⟨rfl, rfl, hle1, hX1⟩ | ⟨rfl, hwr1, hX1⟩
            · skip
              refine ev_if_ne_t (tgt := 94) de_Mo_term_89 (by decide) (by decide) (by decide) ?_
              refine ev_aload_n de_Mo_term_94 rfl rfl ?_
              refine ev_iload_n de_Mo_term_95 rfl rfl ?_
              refine ev_iconst de_Mo_term_96 ?_
              refine ev_vn (ci := 11) de_Mo_term_97 (co_Mo_puts tx0 tx1 (by omega) (by omega) _ 0) kb_Mo_159 ⟨im_Mo_puts, se_Mo_puts⟩ rfl rfl rfl (Nat.le_of_ble_eq_true rfl) (by decide) rfl ?_
              refine ev_goto (tgt := 9) de_Mo_term_100 (by decide) ?_
              have e : rs_tl tape taped text (n + 1) next made leng sign = rs_tl tape taped text n nx1 mk1 (ab_up le1 text (le1 text + 1)) (ab_up sg1 (400 * text + le1 text) (rs_top (tape (tk_sk tape taped next)) + 16 * 0)) := by show (if _ then _ else _) = _; rw [if_pos hop, hX1]
              rw [e, eo]
              exact ih _ nx1 mk1 nu1 _ _ hnx1.1 hnx1.2 (by omega) hnu1 hmk1.1 hmk1.2 (by rw [ab_upe]; omega) (by rw [ab_upe]; omega) (sg_fr_up hfr1 (by omega) (by omega))
            · skip
              refine ev_if_ne_f (tgt := 94) de_Mo_term_89 (by decide) (by decide) (by decide) ?_
              refine ev_iconst de_Mo_term_92 ?_
              exact ev_zreturn de_Mo_term_93 rfl (by decide) ⟨_, _, _, _, _, _, rfl, hnx1, hnu1, hmk1, hfr1, Or.inr ⟨rfl, hwr1, by show (if _ then _ else _) = _; rw [if_pos hop, hX1]⟩⟩
set_option maxHeartbeats 4000000 in
set_option maxRecDepth 10000 in
theorem co_Mo_term (ht : tp_ok tape taped) (hn0 : 0 ≤ next) (hn1 : next ≤ taped) (tx0 : 0 ≤ text) (tx1 : text ≤ 5) (hnu : ab_in number) (hm0 : 0 ≤ made) (hm1 : made ≤ 60) (b0 : Int) (hb0 : 0 ≤ b0) (hl0 : b0 ≤ leng text) (c : Int) (hc : c ≤ 0) (hl1 : leng text - next ≤ c) (s0 : Int → Int) (hs : sg_fr text s0 sign) : ab_Mt g_G g_rs mt_Mo_term 4 0 0 [ab_R 0] (mo_W tape taped rules sign leng clause clauses read next (0) number text made deep lines opn opened stack top word said xx was undone kept sumOf faced slotAt dayAt row bestRow tMany tMost drawX images imageX isMade) (pv tape taped rules clause clauses read text deep lines opn opened stack top word said xx was undone kept sumOf faced slotAt dayAt row bestRow tMany tMost drawX images imageX isMade c b0 s0 (rs_term tape taped text next made leng sign)) := by
  refine ab_Mt.of rfl (Nat.le_of_ble_eq_true rfl) ?_
  show ab_Ev g_G g_rs mt_Mo_term _ _ _ 0 [some (ab_R 0), none] [] _ _
  have p1 := ht.2.1
  refine ev_aload_n de_Mo_term_0 rfl rfl ?_
  refine ev_virtual (ci := 11) (mc := 0) (ms := 0) (bc := 0) (bs := 0) de_Mo_term_1 (co_Mo_value ht hn0 hn1 tx0 tx1 hnu hm0 hm1 b0 hb0 hl0 c hc hl1 s0 hs) kb_Mo_173 ⟨im_Mo_value, se_Mo_value⟩ rfl rfl rfl (Nat.le_of_ble_eq_true rfl) (by decide) (Or.inl (fun r w1 h => by obtain ⟨nx, nu, wr, mk, le, sg, e, -⟩ := h; rw [e]; first | exact mo_Wn.trans mo_Wn.symm | rfl)) (fun r1 w1 hm1 => ?_)
  obtain ⟨nx1, nu1, wr1, mk1, le1, sg1, rfl, hnx1, hnu1, hmk1, hfr1, hc1⟩ := hm1; rcases hc1 with ⟨rfl, rfl, hle1, hX1⟩ | ⟨rfl, hwr1, hX1⟩
  · skip
    refine ev_if_ne_t (tgt := 9) de_Mo_term_4 (by decide) (by decide) (by decide) ?_
    have e : rs_term tape taped text next made leng sign = rs_tl tape taped text 401 nx1 mk1 le1 sg1 := by unfold rs_term; rw [hX1]
    rw [e]
    exact lo_Mo_term ht tx0 tx1 b0 hb0 c hc s0 401 _ nx1 mk1 nu1 le1 sg1 hnx1.1 hnx1.2 (by omega) hnu1 hmk1.1 hmk1.2 hle1.1 hle1.2 hfr1
  · skip
    refine ev_if_ne_f (tgt := 9) de_Mo_term_4 (by decide) (by decide) (by decide) ?_
    refine ev_iconst de_Mo_term_7 ?_
    exact ev_zreturn de_Mo_term_8 rfl (by decide) ⟨_, _, _, _, _, _, rfl, hnx1, hnu1, hmk1, hfr1, Or.inr ⟨rfl, hwr1, by unfold rs_term; rw [hX1]⟩⟩
def rs_sop (b : Int) : Int := if b = 43 then 2 else 3
def rs_sl (tape : Int → Int) (taped t : Int) : Nat → Int → Int → (Int → Int) → (Int → Int) → Except Int pz
  | 0, _, _, _, _ => .error 0
  | n + 1, nx, md, le, sg => if tk_ch tape taped (tk_sk tape taped nx) = 43 ∨ tk_ch tape taped (tk_sk tape taped nx) = 45 then (match rs_term tape taped t (tk_sk tape taped nx + 1) md le sg with
      | .error e => .error e
      | .ok (n1, mk1, le1, sg1) => rs_sl tape taped t n n1 mk1 (ab_up le1 t (le1 t + 1)) (ab_up sg1 (400 * t + le1 t) (rs_sop (tape (tk_sk tape taped nx)) + 16 * 0)))
    else .ok (tk_sk tape taped nx, md, le, sg)
def rs_sum (tape : Int → Int) (taped t nx md : Int) (le sg : Int → Int) : Except Int pz := match rs_term tape taped t nx md le sg with
  | .error e => .error e
  | .ok (n1, mk1, le1, sg1) => rs_sl tape taped t 401 n1 mk1 le1 sg1
theorem de_Mo_sum_0 : decode prog_14_method_24_code 0 = .ok (.aload_n 0, 1) := by decide +kernel
theorem de_Mo_sum_1 : decode prog_14_method_24_code 1 = .ok (.invokevirtual 177, 3) := by decide +kernel
theorem de_Mo_sum_4 : decode prog_14_method_24_code 4 = .ok (.ifCond .ne 5, 3) := by decide +kernel
theorem de_Mo_sum_7 : decode prog_14_method_24_code 7 = .ok (.iconst 0, 1) := by decide +kernel
theorem de_Mo_sum_8 : decode prog_14_method_24_code 8 = .ok (.ireturn, 1) := by decide +kernel
theorem de_Mo_sum_9 : decode prog_14_method_24_code 9 = .ok (.aload_n 0, 1) := by decide +kernel
theorem de_Mo_sum_10 : decode prog_14_method_24_code 10 = .ok (.invokevirtual 90, 3) := by decide +kernel
theorem de_Mo_sum_13 : decode prog_14_method_24_code 13 = .ok (.bipush 43, 2) := by decide +kernel
theorem de_Mo_sum_15 : decode prog_14_method_24_code 15 = .ok (.if_icmp .eq 12, 3) := by decide +kernel
theorem de_Mo_sum_18 : decode prog_14_method_24_code 18 = .ok (.aload_n 0, 1) := by decide +kernel
theorem de_Mo_sum_19 : decode prog_14_method_24_code 19 = .ok (.invokevirtual 90, 3) := by decide +kernel
theorem de_Mo_sum_22 : decode prog_14_method_24_code 22 = .ok (.bipush 45, 2) := by decide +kernel
theorem de_Mo_sum_24 : decode prog_14_method_24_code 24 = .ok (.if_icmp .ne 51, 3) := by decide +kernel
theorem de_Mo_sum_27 : decode prog_14_method_24_code 27 = .ok (.aload_n 0, 1) := by decide +kernel
theorem de_Mo_sum_28 : decode prog_14_method_24_code 28 = .ok (.getfield 7, 3) := by decide +kernel
theorem de_Mo_sum_31 : decode prog_14_method_24_code 31 = .ok (.aload_n 0, 1) := by decide +kernel
theorem de_Mo_sum_32 : decode prog_14_method_24_code 32 = .ok (.getfield 87, 3) := by decide +kernel
theorem de_Mo_sum_35 : decode prog_14_method_24_code 35 = .ok (.baload, 1) := by decide +kernel
theorem de_Mo_sum_36 : decode prog_14_method_24_code 36 = .ok (.bipush 43, 2) := by decide +kernel
theorem de_Mo_sum_38 : decode prog_14_method_24_code 38 = .ok (.if_icmp .ne 7, 3) := by decide +kernel
theorem de_Mo_sum_41 : decode prog_14_method_24_code 41 = .ok (.iconst 2, 1) := by decide +kernel
theorem de_Mo_sum_42 : decode prog_14_method_24_code 42 = .ok (.goto 4, 3) := by decide +kernel
theorem de_Mo_sum_45 : decode prog_14_method_24_code 45 = .ok (.iconst 3, 1) := by decide +kernel
theorem de_Mo_sum_46 : decode prog_14_method_24_code 46 = .ok (.istore_n 1, 1) := by decide +kernel
theorem de_Mo_sum_47 : decode prog_14_method_24_code 47 = .ok (.aload_n 0, 1) := by decide +kernel
theorem de_Mo_sum_48 : decode prog_14_method_24_code 48 = .ok (.dup, 1) := by decide +kernel
theorem de_Mo_sum_49 : decode prog_14_method_24_code 49 = .ok (.getfield 87, 3) := by decide +kernel
theorem de_Mo_sum_52 : decode prog_14_method_24_code 52 = .ok (.iconst 1, 1) := by decide +kernel
theorem de_Mo_sum_53 : decode prog_14_method_24_code 53 = .ok (.iadd, 1) := by decide +kernel
theorem de_Mo_sum_54 : decode prog_14_method_24_code 54 = .ok (.putfield 87, 3) := by decide +kernel
theorem de_Mo_sum_57 : decode prog_14_method_24_code 57 = .ok (.aload_n 0, 1) := by decide +kernel
theorem de_Mo_sum_58 : decode prog_14_method_24_code 58 = .ok (.invokevirtual 177, 3) := by decide +kernel
theorem de_Mo_sum_61 : decode prog_14_method_24_code 61 = .ok (.ifCond .ne 5, 3) := by decide +kernel
theorem de_Mo_sum_64 : decode prog_14_method_24_code 64 = .ok (.iconst 0, 1) := by decide +kernel
theorem de_Mo_sum_65 : decode prog_14_method_24_code 65 = .ok (.ireturn, 1) := by decide +kernel
theorem de_Mo_sum_66 : decode prog_14_method_24_code 66 = .ok (.aload_n 0, 1) := by decide +kernel
theorem de_Mo_sum_67 : decode prog_14_method_24_code 67 = .ok (.iload_n 1, 1) := by decide +kernel
theorem de_Mo_sum_68 : decode prog_14_method_24_code 68 = .ok (.iconst 0, 1) := by decide +kernel
theorem de_Mo_sum_69 : decode prog_14_method_24_code 69 = .ok (.invokevirtual 159, 3) := by decide +kernel
theorem de_Mo_sum_72 : decode prog_14_method_24_code 72 = .ok (.goto (-63), 3) := by decide +kernel
theorem de_Mo_sum_75 : decode prog_14_method_24_code 75 = .ok (.iconst 1, 1) := by decide +kernel
theorem de_Mo_sum_76 : decode prog_14_method_24_code 76 = .ok (.ireturn, 1) := by decide +kernel
set_option maxHeartbeats 4000000 in
set_option maxRecDepth 10000 in
theorem lo_Mo_sum (ht : tp_ok tape taped) (tx0 : 0 ≤ text) (tx1 : text ≤ 5) (b0 : Int) (hb0 : 0 ≤ b0) (c : Int) (hc : c ≤ 0) (s0 : Int → Int) : ∀ (n : Nat) (x : Option ab_V) (next made number : Int) (leng sign : Int → Int), 0 ≤ next → next ≤ taped → taped < next + n → ab_in number → 0 ≤ made → made ≤ 60 → b0 ≤ leng text → leng text - next ≤ c → sg_fr text s0 sign → ab_Ev g_G g_rs mt_Mo_sum 5 0 0 9 [some (ab_R 0), x] [] (mo_W tape taped rules sign leng clause clauses read next (0) number text made deep lines opn opened stack top word said xx was undone kept sumOf faced slotAt dayAt row bestRow tMany tMost drawX images imageX isMade) (pv tape taped rules clause clauses read text deep lines opn opened stack top word said xx was undone kept sumOf faced slotAt dayAt row bestRow tMany tMost drawX images imageX isMade c b0 s0 (rs_sl tape taped text n next made leng sign)) := by
  intro n
  induction n with
  | zero =>
    intro x next made number leng sign
    intro hn0 hn1 g hnu hm0 hmB hl0 hl1 hs; omega
  | succ n ih =>
    intro x next made number leng sign
    intro hn0 hn1 g hnu hm0 hmB hl0 hl1 hs
    have p1 := ht.2.1
    have hb := tk_sk_b tape hn1
    have hsk := tk_sk_sk tape taped next hn1
    have hcb := tk_ch_b tape taped (tk_sk tape taped next)
    refine ev_aload_n de_Mo_sum_9 rfl rfl ?_
    refine ev_vv (ci := 11) de_Mo_sum_10 (co_Mo_see ht hn0 hn1) kb_Mo_90 ⟨im_Mo_see, se_Mo_see⟩ rfl rfl rfl (Nat.le_of_ble_eq_true rfl) (by decide) rfl ?_
    refine ev_bipush de_Mo_sum_13 rfl ?_
    refine ev_icmp_eq (tgt := 27) de_Mo_sum_15 (by decide) (by omega) (by omega) (fun h15 => ?_) (fun h15 => ?_)
    · skip
      have hop : tk_ch tape taped (tk_sk tape taped next) = 43 ∨ tk_ch tape taped (tk_sk tape taped next) = 45 := by omega
      have hlt : tk_sk tape taped next < taped := Decidable.byContradiction (fun z => by unfold tk_ch at hop; rw [if_neg z] at hop; omega)
      have qb := ht.2.2 (tk_sk tape taped next) (by omega) (by omega)
      refine ev_aload_n de_Mo_sum_27 rfl rfl ?_
      refine ev_getfield de_Mo_sum_28 rfl fl_Mo_7 rfl ?_
      refine ev_aload_n de_Mo_sum_31 rfl rfl ?_
      refine ev_getfield de_Mo_sum_32 rfl fl_Mo_87 rfl ?_
      refine ev_baload de_Mo_sum_35 rfl (by omega) (by omega) (by omega) ?_
      refine ev_bipush de_Mo_sum_36 rfl ?_
      refine ev_icmp_ne (tgt := 45) de_Mo_sum_38 (by decide) (by omega) (by omega) (fun h38 => ?_) (fun h38 => ?_)
      · skip
        have eo : rs_sop (tape (tk_sk tape taped next)) = 3 := by unfold rs_sop; rw [if_neg h38]
        refine ev_iconst de_Mo_sum_45 ?_
        refine ev_istore_n (l' := [_, _]) de_Mo_sum_46 rfl (Nat.le_of_ble_eq_true rfl) rfl ?_
        refine ev_aload_n de_Mo_sum_47 rfl rfl ?_
        refine ev_dup de_Mo_sum_48 rfl ?_
        refine ev_getfield de_Mo_sum_49 rfl fl_Mo_87 rfl ?_
        refine ev_iconst de_Mo_sum_52 ?_
        refine ev_iadd de_Mo_sum_53 ?_
        refine ev_putfield de_Mo_sum_54 rfl (fp_Mo_87 _) (Nat.le_of_ble_eq_true rfl) trivial ?_
        refine ev_world (w' := mo_W _ _ _ _ _ _ _ _ _ _ _ _ _ _ _ _ _ _ _ _ _ _ _ _ _ _ _ _ _ _ _ _ _ _ _ _ _) rfl ?_
        refine ev_aload_n de_Mo_sum_57 rfl rfl ?_
        refine ev_virtual (ci := 11) (mc := 0) (ms := 0) (bc := 0) (bs := 0) de_Mo_sum_58 (co_Mo_term ht (by omega) (by omega) tx0 tx1 hnu hm0 hmB (leng text) (by omega) (Int.le_refl _) (leng text - (tk_sk tape taped next + 1)) (by omega) (by omega) s0 hs) kb_Mo_177 ⟨im_Mo_term, se_Mo_term⟩ rfl rfl rfl (Nat.le_of_ble_eq_true rfl) (by decide) (Or.inl (fun r w1 h => by obtain ⟨nx, nu, wr, mk, le, sg, e, -⟩ := h; rw [e]; first | exact mo_Wn.trans mo_Wn.symm | rfl)) (fun r1 w1 hm1 => ?_)
        obtain ⟨nx1, nu1, wr1, mk1, le1, sg1, rfl, hnx1, hnu1, hmk1, hfr1, hc1⟩ := hm1; rcases hc1 with ⟨rfl, rfl, hle1, hX1⟩ | ⟨rfl, hwr1, hX1⟩
        · skip
          refine ev_if_ne_t (tgt := 66) de_Mo_sum_61 (by decide) (by decide) (by decide) ?_
          refine ev_aload_n de_Mo_sum_66 rfl rfl ?_
          refine ev_iload_n de_Mo_sum_67 rfl rfl ?_
          refine ev_iconst de_Mo_sum_68 ?_
          refine ev_vn (ci := 11) de_Mo_sum_69 (co_Mo_puts tx0 tx1 (by omega) (by omega) _ 0) kb_Mo_159 ⟨im_Mo_puts, se_Mo_puts⟩ rfl rfl rfl (Nat.le_of_ble_eq_true rfl) (by decide) rfl ?_
          refine ev_goto (tgt := 9) de_Mo_sum_72 (by decide) ?_
          have e : rs_sl tape taped text (n + 1) next made leng sign = rs_sl tape taped text n nx1 mk1 (ab_up le1 text (le1 text + 1)) (ab_up sg1 (400 * text + le1 text) (rs_sop (tape (tk_sk tape taped next)) + 16 * 0)) := by show (if _ then _ else _) = _; rw [if_pos hop, hX1]
          rw [e, eo]
          exact ih _ nx1 mk1 nu1 _ _ hnx1.1 hnx1.2 (by omega) hnu1 hmk1.1 hmk1.2 (by rw [ab_upe]; omega) (by rw [ab_upe]; omega) (sg_fr_up hfr1 (by omega) (by omega))
        · skip
          refine ev_if_ne_f (tgt := 66) de_Mo_sum_61 (by decide) (by decide) (by decide) ?_
          refine ev_iconst de_Mo_sum_64 ?_
          exact ev_zreturn de_Mo_sum_65 rfl (by decide) ⟨_, _, _, _, _, _, rfl, hnx1, hnu1, hmk1, hfr1, Or.inr ⟨rfl, hwr1, by show (if _ then _ else _) = _; rw [if_pos hop, hX1]⟩⟩
      · skip
        have eo : rs_sop (tape (tk_sk tape taped next)) = 2 := by unfold rs_sop; rw [if_pos h38]
        refine ev_iconst de_Mo_sum_41 ?_
        refine ev_goto (tgt := 46) de_Mo_sum_42 (by decide) ?_
        refine ev_istore_n (l' := [_, _]) de_Mo_sum_46 rfl (Nat.le_of_ble_eq_true rfl) rfl ?_
        refine ev_aload_n de_Mo_sum_47 rfl rfl ?_
        refine ev_dup de_Mo_sum_48 rfl ?_
        refine ev_getfield de_Mo_sum_49 rfl fl_Mo_87 rfl ?_
        refine ev_iconst de_Mo_sum_52 ?_
        refine ev_iadd de_Mo_sum_53 ?_
        refine ev_putfield de_Mo_sum_54 rfl (fp_Mo_87 _) (Nat.le_of_ble_eq_true rfl) trivial ?_
        refine ev_world (w' := mo_W _ _ _ _ _ _ _ _ _ _ _ _ _ _ _ _ _ _ _ _ _ _ _ _ _ _ _ _ _ _ _ _ _ _ _ _ _) rfl ?_
        refine ev_aload_n de_Mo_sum_57 rfl rfl ?_
        refine ev_virtual (ci := 11) (mc := 0) (ms := 0) (bc := 0) (bs := 0) de_Mo_sum_58 (co_Mo_term ht (by omega) (by omega) tx0 tx1 hnu hm0 hmB (leng text) (by omega) (Int.le_refl _) (leng text - (tk_sk tape taped next + 1)) (by omega) (by omega) s0 hs) kb_Mo_177 ⟨im_Mo_term, se_Mo_term⟩ rfl rfl rfl (Nat.le_of_ble_eq_true rfl) (by decide) (Or.inl (fun r w1 h => by obtain ⟨nx, nu, wr, mk, le, sg, e, -⟩ := h; rw [e]; first | exact mo_Wn.trans mo_Wn.symm | rfl)) (fun r1 w1 hm1 => ?_)
        obtain ⟨nx1, nu1, wr1, mk1, le1, sg1, rfl, hnx1, hnu1, hmk1, hfr1, hc1⟩ := hm1; rcases hc1 with ⟨rfl, rfl, hle1, hX1⟩ | ⟨rfl, hwr1, hX1⟩
        · skip
          refine ev_if_ne_t (tgt := 66) de_Mo_sum_61 (by decide) (by decide) (by decide) ?_
          refine ev_aload_n de_Mo_sum_66 rfl rfl ?_
          refine ev_iload_n de_Mo_sum_67 rfl rfl ?_
          refine ev_iconst de_Mo_sum_68 ?_
          refine ev_vn (ci := 11) de_Mo_sum_69 (co_Mo_puts tx0 tx1 (by omega) (by omega) _ 0) kb_Mo_159 ⟨im_Mo_puts, se_Mo_puts⟩ rfl rfl rfl (Nat.le_of_ble_eq_true rfl) (by decide) rfl ?_
          refine ev_goto (tgt := 9) de_Mo_sum_72 (by decide) ?_
          have e : rs_sl tape taped text (n + 1) next made leng sign = rs_sl tape taped text n nx1 mk1 (ab_up le1 text (le1 text + 1)) (ab_up sg1 (400 * text + le1 text) (rs_sop (tape (tk_sk tape taped next)) + 16 * 0)) := by show (if _ then _ else _) = _; rw [if_pos hop, hX1]
          rw [e, eo]
          exact ih _ nx1 mk1 nu1 _ _ hnx1.1 hnx1.2 (by omega) hnu1 hmk1.1 hmk1.2 (by rw [ab_upe]; omega) (by rw [ab_upe]; omega) (sg_fr_up hfr1 (by omega) (by omega))
        · skip
          refine ev_if_ne_f (tgt := 66) de_Mo_sum_61 (by decide) (by decide) (by decide) ?_
          refine ev_iconst de_Mo_sum_64 ?_
          exact ev_zreturn de_Mo_sum_65 rfl (by decide) ⟨_, _, _, _, _, _, rfl, hnx1, hnu1, hmk1, hfr1, Or.inr ⟨rfl, hwr1, by show (if _ then _ else _) = _; rw [if_pos hop, hX1]⟩⟩
    · skip
      refine ev_aload_n de_Mo_sum_18 rfl rfl ?_
      refine ev_vv (ci := 11) de_Mo_sum_19 (cs_Mo_see ht (by omega) hb.2 hsk) kb_Mo_90 ⟨im_Mo_see, se_Mo_see⟩ rfl rfl rfl (Nat.le_of_ble_eq_true rfl) (by decide) rfl ?_
      refine ev_bipush de_Mo_sum_22 rfl ?_
      refine ev_icmp_ne (tgt := 75) de_Mo_sum_24 (by decide) (by omega) (by omega) (fun h24 => ?_) (fun h24 => ?_)
      · skip
        refine ev_iconst de_Mo_sum_75 ?_
        exact ev_zreturn de_Mo_sum_76 rfl (by decide) ⟨_, _, _, _, _, _, rfl, ⟨by omega, hb.2⟩, hnu, ⟨hm0, hmB⟩, hs, Or.inl ⟨rfl, rfl, ⟨hl0, by omega⟩, by show (if _ then _ else _) = _; rw [if_neg (by omega)]⟩⟩
      · skip
        have hop : tk_ch tape taped (tk_sk tape taped next) = 43 ∨ tk_ch tape taped (tk_sk tape taped next) = 45 := by omega
        have hlt : tk_sk tape taped next < taped := Decidable.byContradiction (fun z => by unfold tk_ch at hop; rw [if_neg z] at hop; omega)
        have qb := ht.2.2 (tk_sk tape taped next) (by omega) (by omega)
        refine ev_aload_n de_Mo_sum_27 rfl rfl ?_
        refine ev_getfield de_Mo_sum_28 rfl fl_Mo_7 rfl ?_
        refine ev_aload_n de_Mo_sum_31 rfl rfl ?_
        refine ev_getfield de_Mo_sum_32 rfl fl_Mo_87 rfl ?_
        refine ev_baload de_Mo_sum_35 rfl (by omega) (by omega) (by omega) ?_
        refine ev_bipush de_Mo_sum_36 rfl ?_
        refine ev_icmp_ne (tgt := 45) de_Mo_sum_38 (by decide) (by omega) (by omega) (fun h38 => ?_) (fun h38 => ?_)
        · skip
          have eo : rs_sop (tape (tk_sk tape taped next)) = 3 := by unfold rs_sop; rw [if_neg h38]
          refine ev_iconst de_Mo_sum_45 ?_
          refine ev_istore_n (l' := [_, _]) de_Mo_sum_46 rfl (Nat.le_of_ble_eq_true rfl) rfl ?_
          refine ev_aload_n de_Mo_sum_47 rfl rfl ?_
          refine ev_dup de_Mo_sum_48 rfl ?_
          refine ev_getfield de_Mo_sum_49 rfl fl_Mo_87 rfl ?_
          refine ev_iconst de_Mo_sum_52 ?_
          refine ev_iadd de_Mo_sum_53 ?_
          refine ev_putfield de_Mo_sum_54 rfl (fp_Mo_87 _) (Nat.le_of_ble_eq_true rfl) trivial ?_
          refine ev_world (w' := mo_W _ _ _ _ _ _ _ _ _ _ _ _ _ _ _ _ _ _ _ _ _ _ _ _ _ _ _ _ _ _ _ _ _ _ _ _ _) rfl ?_
          refine ev_aload_n de_Mo_sum_57 rfl rfl ?_
          refine ev_virtual (ci := 11) (mc := 0) (ms := 0) (bc := 0) (bs := 0) de_Mo_sum_58 (co_Mo_term ht (by omega) (by omega) tx0 tx1 hnu hm0 hmB (leng text) (by omega) (Int.le_refl _) (leng text - (tk_sk tape taped next + 1)) (by omega) (by omega) s0 hs) kb_Mo_177 ⟨im_Mo_term, se_Mo_term⟩ rfl rfl rfl (Nat.le_of_ble_eq_true rfl) (by decide) (Or.inl (fun r w1 h => by obtain ⟨nx, nu, wr, mk, le, sg, e, -⟩ := h; rw [e]; first | exact mo_Wn.trans mo_Wn.symm | rfl)) (fun r1 w1 hm1 => ?_)
          obtain ⟨nx1, nu1, wr1, mk1, le1, sg1, rfl, hnx1, hnu1, hmk1, hfr1, hc1⟩ := hm1; rcases hc1 with ⟨rfl, rfl, hle1, hX1⟩ | ⟨rfl, hwr1, hX1⟩
          · skip
            refine ev_if_ne_t (tgt := 66) de_Mo_sum_61 (by decide) (by decide) (by decide) ?_
            refine ev_aload_n de_Mo_sum_66 rfl rfl ?_
            refine ev_iload_n de_Mo_sum_67 rfl rfl ?_
            refine ev_iconst de_Mo_sum_68 ?_
            refine ev_vn (ci := 11) de_Mo_sum_69 (co_Mo_puts tx0 tx1 (by omega) (by omega) _ 0) kb_Mo_159 ⟨im_Mo_puts, se_Mo_puts⟩ rfl rfl rfl (Nat.le_of_ble_eq_true rfl) (by decide) rfl ?_
            refine ev_goto (tgt := 9) de_Mo_sum_72 (by decide) ?_
            have e : rs_sl tape taped text (n + 1) next made leng sign = rs_sl tape taped text n nx1 mk1 (ab_up le1 text (le1 text + 1)) (ab_up sg1 (400 * text + le1 text) (rs_sop (tape (tk_sk tape taped next)) + 16 * 0)) := by show (if _ then _ else _) = _; rw [if_pos hop, hX1]
            rw [e, eo]
            exact ih _ nx1 mk1 nu1 _ _ hnx1.1 hnx1.2 (by omega) hnu1 hmk1.1 hmk1.2 (by rw [ab_upe]; omega) (by rw [ab_upe]; omega) (sg_fr_up hfr1 (by omega) (by omega))
          · skip
            refine ev_if_ne_f (tgt := 66) de_Mo_sum_61 (by decide) (by decide) (by decide) ?_
            refine ev_iconst de_Mo_sum_64 ?_
            exact ev_zreturn de_Mo_sum_65 rfl (by decide) ⟨_, _, _, _, _, _, rfl, hnx1, hnu1, hmk1, hfr1, Or.inr ⟨rfl, hwr1, by show (if _ then _ else _) = _; rw [if_pos hop, hX1]⟩⟩
        · skip
          have eo : rs_sop (tape (tk_sk tape taped next)) = 2 := by unfold rs_sop; rw [if_pos h38]
          refine ev_iconst de_Mo_sum_41 ?_
          refine ev_goto (tgt := 46) de_Mo_sum_42 (by decide) ?_
          refine ev_istore_n (l' := [_, _]) de_Mo_sum_46 rfl (Nat.le_of_ble_eq_true rfl) rfl ?_
          refine ev_aload_n de_Mo_sum_47 rfl rfl ?_
          refine ev_dup de_Mo_sum_48 rfl ?_
          refine ev_getfield de_Mo_sum_49 rfl fl_Mo_87 rfl ?_
          refine ev_iconst de_Mo_sum_52 ?_
          refine ev_iadd de_Mo_sum_53 ?_
          refine ev_putfield de_Mo_sum_54 rfl (fp_Mo_87 _) (Nat.le_of_ble_eq_true rfl) trivial ?_
          refine ev_world (w' := mo_W _ _ _ _ _ _ _ _ _ _ _ _ _ _ _ _ _ _ _ _ _ _ _ _ _ _ _ _ _ _ _ _ _ _ _ _ _) rfl ?_
          refine ev_aload_n de_Mo_sum_57 rfl rfl ?_
          refine ev_virtual (ci := 11) (mc := 0) (ms := 0) (bc := 0) (bs := 0) de_Mo_sum_58 (co_Mo_term ht (by omega) (by omega) tx0 tx1 hnu hm0 hmB (leng text) (by omega) (Int.le_refl _) (leng text - (tk_sk tape taped next + 1)) (by omega) (by omega) s0 hs) kb_Mo_177 ⟨im_Mo_term, se_Mo_term⟩ rfl rfl rfl (Nat.le_of_ble_eq_true rfl) (by decide) (Or.inl (fun r w1 h => by obtain ⟨nx, nu, wr, mk, le, sg, e, -⟩ := h; rw [e]; first | exact mo_Wn.trans mo_Wn.symm | rfl)) (fun r1 w1 hm1 => ?_)
          obtain ⟨nx1, nu1, wr1, mk1, le1, sg1, rfl, hnx1, hnu1, hmk1, hfr1, hc1⟩ := hm1; rcases hc1 with ⟨rfl, rfl, hle1, hX1⟩ | ⟨rfl, hwr1, hX1⟩
          · skip
            refine ev_if_ne_t (tgt := 66) de_Mo_sum_61 (by decide) (by decide) (by decide) ?_
            refine ev_aload_n de_Mo_sum_66 rfl rfl ?_
            refine ev_iload_n de_Mo_sum_67 rfl rfl ?_
            refine ev_iconst de_Mo_sum_68 ?_
            refine ev_vn (ci := 11) de_Mo_sum_69 (co_Mo_puts tx0 tx1 (by omega) (by omega) _ 0) kb_Mo_159 ⟨im_Mo_puts, se_Mo_puts⟩ rfl rfl rfl (Nat.le_of_ble_eq_true rfl) (by decide) rfl ?_
            refine ev_goto (tgt := 9) de_Mo_sum_72 (by decide) ?_
            have e : rs_sl tape taped text (n + 1) next made leng sign = rs_sl tape taped text n nx1 mk1 (ab_up le1 text (le1 text + 1)) (ab_up sg1 (400 * text + le1 text) (rs_sop (tape (tk_sk tape taped next)) + 16 * 0)) := by show (if _ then _ else _) = _; rw [if_pos hop, hX1]
            rw [e, eo]
            exact ih _ nx1 mk1 nu1 _ _ hnx1.1 hnx1.2 (by omega) hnu1 hmk1.1 hmk1.2 (by rw [ab_upe]; omega) (by rw [ab_upe]; omega) (sg_fr_up hfr1 (by omega) (by omega))
          · skip
            refine ev_if_ne_f (tgt := 66) de_Mo_sum_61 (by decide) (by decide) (by decide) ?_
            refine ev_iconst de_Mo_sum_64 ?_
            exact ev_zreturn de_Mo_sum_65 rfl (by decide) ⟨_, _, _, _, _, _, rfl, hnx1, hnu1, hmk1, hfr1, Or.inr ⟨rfl, hwr1, by show (if _ then _ else _) = _; rw [if_pos hop, hX1]⟩⟩
set_option maxHeartbeats 4000000 in
set_option maxRecDepth 10000 in
theorem co_Mo_sum (ht : tp_ok tape taped) (hn0 : 0 ≤ next) (hn1 : next ≤ taped) (tx0 : 0 ≤ text) (tx1 : text ≤ 5) (hnu : ab_in number) (hm0 : 0 ≤ made) (hm1 : made ≤ 60) (b0 : Int) (hb0 : 0 ≤ b0) (hl0 : b0 ≤ leng text) (c : Int) (hc : c ≤ 0) (hl1 : leng text - next ≤ c) (s0 : Int → Int) (hs : sg_fr text s0 sign) : ab_Mt g_G g_rs mt_Mo_sum 5 0 0 [ab_R 0] (mo_W tape taped rules sign leng clause clauses read next (0) number text made deep lines opn opened stack top word said xx was undone kept sumOf faced slotAt dayAt row bestRow tMany tMost drawX images imageX isMade) (pv tape taped rules clause clauses read text deep lines opn opened stack top word said xx was undone kept sumOf faced slotAt dayAt row bestRow tMany tMost drawX images imageX isMade c b0 s0 (rs_sum tape taped text next made leng sign)) := by
  refine ab_Mt.of rfl (Nat.le_of_ble_eq_true rfl) ?_
  show ab_Ev g_G g_rs mt_Mo_sum _ _ _ 0 [some (ab_R 0), none] [] _ _
  have p1 := ht.2.1
  refine ev_aload_n de_Mo_sum_0 rfl rfl ?_
  refine ev_virtual (ci := 11) (mc := 0) (ms := 0) (bc := 0) (bs := 0) de_Mo_sum_1 (co_Mo_term ht hn0 hn1 tx0 tx1 hnu hm0 hm1 b0 hb0 hl0 c hc hl1 s0 hs) kb_Mo_177 ⟨im_Mo_term, se_Mo_term⟩ rfl rfl rfl (Nat.le_of_ble_eq_true rfl) (by decide) (Or.inl (fun r w1 h => by obtain ⟨nx, nu, wr, mk, le, sg, e, -⟩ := h; rw [e]; first | exact mo_Wn.trans mo_Wn.symm | rfl)) (fun r1 w1 hm1 => ?_)
  obtain ⟨nx1, nu1, wr1, mk1, le1, sg1, rfl, hnx1, hnu1, hmk1, hfr1, hc1⟩ := hm1; rcases hc1 with ⟨rfl, rfl, hle1, hX1⟩ | ⟨rfl, hwr1, hX1⟩
  · skip
    refine ev_if_ne_t (tgt := 9) de_Mo_sum_4 (by decide) (by decide) (by decide) ?_
    have e : rs_sum tape taped text next made leng sign = rs_sl tape taped text 401 nx1 mk1 le1 sg1 := by unfold rs_sum; rw [hX1]
    rw [e]
    exact lo_Mo_sum ht tx0 tx1 b0 hb0 c hc s0 401 _ nx1 mk1 nu1 le1 sg1 hnx1.1 hnx1.2 (by omega) hnu1 hmk1.1 hmk1.2 hle1.1 hle1.2 hfr1
  · skip
    refine ev_if_ne_f (tgt := 9) de_Mo_sum_4 (by decide) (by decide) (by decide) ?_
    refine ev_iconst de_Mo_sum_7 ?_
    exact ev_zreturn de_Mo_sum_8 rfl (by decide) ⟨_, _, _, _, _, _, rfl, hnx1, hnu1, hmk1, hfr1, Or.inr ⟨rfl, hwr1, by unfold rs_sum; rw [hX1]⟩⟩
end MO
