section MO
variable {tape : Int → Int} {taped : Int} {rules : Int} {sign : Int → Int} {leng : Int → Int} {clause : Int → Int} {clauses : Int → Int} {read : Int → Int} {next : Int} {wrong : Int} {number : Int} {text : Int} {made : Int} {deep : Int} {lines : Int} {opn : Int → Int} {opened : Int} {stack : Int → Int64} {top : Int} {word : Int → Int64} {said : Int → Int} {xx : Int} {was : Int → Int} {undone : Int} {kept : Int → Int} {sumOf : Int → Int} {faced : Int → Int} {slotAt : Int → Int} {dayAt : Int → Int} {row : Int → Int} {bestRow : Int → Int} {tMany : Int} {tMost : Int} {drawX : Int64} {images : Int → Int} {imageX : Int → Int} {isMade : Int → Int}
/-! a RULE that can be worked out -/
def Rv (t m L : Int) (sg cl : Int → Int) : Prop := 0 ≤ m ∧ m ≤ 12 ∧ ∀ c, 0 ≤ c → c < m → (0 ≤ cl (48 * t + 4 * c) ∧ cl (48 * t + 4 * c) ≤ cl (48 * t + 4 * c + 1) ∧ cl (48 * t + 4 * c + 1) ≤ L) ∧ (cl (48 * t + 4 * c + 2) = -1 ∨ (0 ≤ cl (48 * t + 4 * c + 2) ∧ cl (48 * t + 4 * c + 2) ≤ cl (48 * t + 4 * c + 3) ∧ cl (48 * t + 4 * c + 3) ≤ L)) ∧ ∀ word : Int → Int64, (∃ v, seg word t sg (cl (48 * t + 4 * c)) (cl (48 * t + 4 * c + 1)) [] = some [v]) ∧ (cl (48 * t + 4 * c + 2) = -1 ∨ ∃ v, seg word t sg (cl (48 * t + 4 * c + 2)) (cl (48 * t + 4 * c + 3)) [] = some [v])
theorem rs_row_o {cl : Int → Int} {at_ a b i e k : Int} (h : k < at_ ∨ at_ + 3 < k) : rs_row cl at_ a b i e k = cl k := by
  unfold rs_row
  rw [ab_upn _ _ (by omega), ab_upn _ _ (by omega), ab_upn _ _ (by omega), ab_upn _ _ (by omega)]
theorem rs_row_0 {cl : Int → Int} {at_ a b i e : Int} : rs_row cl at_ a b i e at_ = a := by
  unfold rs_row
  rw [ab_upn _ _ (by omega), ab_upn _ _ (by omega), ab_upn _ _ (by omega), ab_upe]
theorem rs_row_1 {cl : Int → Int} {at_ a b i e : Int} : rs_row cl at_ a b i e (at_ + 1) = b := by
  unfold rs_row
  rw [ab_upn _ _ (by omega), ab_upn _ _ (by omega), ab_upe]
theorem rs_row_2 {cl : Int → Int} {at_ a b i e : Int} : rs_row cl at_ a b i e (at_ + 2) = i := by
  unfold rs_row
  rw [ab_upn _ _ (by omega), ab_upe]
theorem rs_row_3 {cl : Int → Int} {at_ a b i e : Int} : rs_row cl at_ a b i e (at_ + 3) = e := by
  unfold rs_row
  rw [ab_upe]
theorem Rv_0 {t L : Int} {sg cl : Int → Int} : Rv t 0 L sg cl := ⟨by omega, by omega, fun c h0 h1 => by omega⟩
theorem Rv_next {t m L md : Int} {sg cl : Int → Int} {z : pz} {b i : Int} (h : Rv t m L sg cl) (hm : m ≤ 11) (hL : 0 ≤ L) (hr : rt_ok t L md sg z b i) (h60 : z.2.1 ≤ 60) : Rv t (m + 1) (z.2.2.1 t) z.2.2.2 (rs_row cl (48 * t + 4 * m) L b i (z.2.2.1 t)) := by
  obtain ⟨r1, r2, r3, r4, r5, r6⟩ := hr
  obtain ⟨g0, g1, g2⟩ := h
  refine ⟨by omega, by omega, fun c h0 h1 => ?_⟩
  by_cases e : c = m
  · subst e
    rw [rs_row_0, rs_row_1, rs_row_2, rs_row_3]
    refine ⟨⟨hL, r1, r2⟩, ?_, fun word => ⟨r5 h60 word, ?_⟩⟩
    · rcases r6 with q | q
      · exact Or.inl q
      · exact Or.inr (by omega)
    · rcases r6 with q | q
      · exact Or.inl q
      · rw [q.1]; exact Or.inr (q.2 h60 word)
  · rw [rs_row_o (by omega), rs_row_o (by omega), rs_row_o (by omega), rs_row_o (by omega)]
    obtain ⟨a1, a2, a3⟩ := g2 c h0 (by omega)
    refine ⟨⟨a1.1, a1.2.1, by omega⟩, by omega, fun word => ?_⟩
    obtain ⟨⟨v, c1⟩, c2⟩ := a3 word
    refine ⟨⟨v, by rw [← c1]; exact seg_cg (fun k q0 q1 => r4 k (by omega))⟩, ?_⟩
    rcases c2 with c2 | ⟨v2, c2⟩
    · exact Or.inl c2
    · rcases a2 with a2 | a2
      · exact Or.inl a2
      · exact Or.inr ⟨v2, by rw [← c2]; exact seg_cg (fun k q0 q1 => r4 k (by omega))⟩
theorem Rv_fr {t u m : Int} {sg sg2 cl cl2 : Int → Int} (h : Rv t m 400 sg cl) (hu : t ≠ u) (hs : sg_fr u sg sg2) (hc : cl_fr u cl cl2) : Rv t m 400 sg2 cl2 := by
  obtain ⟨g0, g1, g2⟩ := h
  refine ⟨g0, g1, fun c h0 h1 => ?_⟩
  obtain ⟨a1, a2, a3⟩ := g2 c h0 h1
  rw [hc (48 * t + 4 * c) (by omega), hc (48 * t + 4 * c + 1) (by omega), hc (48 * t + 4 * c + 2) (by omega), hc (48 * t + 4 * c + 3) (by omega)]
  refine ⟨a1, a2, fun word => ?_⟩
  obtain ⟨⟨v, c1⟩, c2⟩ := a3 word
  refine ⟨⟨v, by rw [← c1]; exact seg_cg (fun k q0 q1 => hs k (by omega))⟩, ?_⟩
  rcases c2 with c2 | ⟨v2, c2⟩
  · exact Or.inl c2
  · rcases a2 with a2 | a2
    · exact Or.inl a2
    · exact Or.inr ⟨v2, by rw [← c2]; exact seg_cg (fun k q0 q1 => hs k (by omega))⟩
theorem Rv_mono {t m L : Int} {sg cl : Int → Int} (h : Rv t m L sg cl) (hL : L ≤ 400) : Rv t m 400 sg cl := by
  obtain ⟨g0, g1, g2⟩ := h
  refine ⟨g0, g1, fun c h0 h1 => ?_⟩
  obtain ⟨a1, a2, a3⟩ := g2 c h0 h1
  exact ⟨⟨a1.1, a1.2.1, by omega⟩, by omega, a3⟩
theorem sp_ev_seg {word : Int → Int64} {t : Int} {sg : Int → Int} {b e : Int} {v : Int64} (h : seg word t sg b e [] = some [v]) : sp_ev word (fun j => sg (400 * t + j)) b e = some v := by
  unfold seg at h
  unfold sp_ev
  rw [h]
theorem Rv_rb {t m : Int} {sg cl : Int → Int} (h : Rv t m 400 sg cl) (word : Int → Int64) : ∀ (n : Nat) (c : Int), 0 ≤ c → c + n = m → ∃ z, sp_rb word sg cl t n c = some z
  | 0, _, _, _ => ⟨0, rfl⟩
  | n + 1, c, h0, h1 => by
    obtain ⟨a1, a2, a3⟩ := h.2.2 c h0 (by omega)
    obtain ⟨⟨v, c1⟩, c2⟩ := a3 word
    rw [sp_rb]
    by_cases hh : cl (48 * t + 4 * c + 2) < 0
    · rw [if_pos hh]; exact ⟨v, sp_ev_seg c1⟩
    · rw [if_neg hh]
      rcases c2 with c2 | ⟨v2, c2⟩
      · omega
      · rw [sp_ev_seg c2]
        show ∃ z, (if v2 = 1 then _ else _) = some z
        by_cases h3 : v2 = 1
        · rw [if_pos h3]; exact ⟨v, sp_ev_seg c1⟩
        · rw [if_neg h3]; exact Rv_rb h word n (c + 1) (by omega) (by omega)
theorem Rv_rok {t m : Int} {sg cl : Int → Int} (h : Rv t m 400 sg cl) : sp_rok sg cl t m := by
  refine ⟨⟨h.1, h.2.1, fun c h0 h1 => ?_⟩, fun word => ?_⟩
  · obtain ⟨a1, a2, a3⟩ := h.2.2 c h0 h1
    exact ⟨a1, a2⟩
  · have := h.1
    exact Rv_rb h word m.toNat 0 (by omega) (by omega)
def rs_rcl (tape : Int → Int) (taped t nx lines md : Int) (le sg : Int → Int) : Except Int (pz × Int × Int) := if tk_isI tape taped (tk_sk tape taped nx) (Int64.ofInt 1953854062) = 1 then (if lines = 12 then .error (1 + 8 * tk_sk tape taped nx + 4) else rs_turn tape taped t (tk_sk tape taped nx) md le sg) else .error (1 + 8 * tk_sk tape taped nx + 0)
theorem rs_rcl_12 {tape : Int → Int} {taped t nx md : Int} {le sg : Int → Int} {x : pz × Int × Int} : rs_rcl tape taped t nx 12 md le sg ≠ .ok x := by
  unfold rs_rcl
  split
  · rw [if_pos rfl]; exact fun z => nomatch z
  · exact fun z => nomatch z
theorem rs_rcl_g {tape : Int → Int} {taped t nx lines md : Int} {le sg : Int → Int} {z : pz} {b i : Int} (h0 : 0 ≤ md) (e : rs_rcl tape taped t nx lines md le sg = .ok (z, b, i)) : rt_ok t (le t) md sg z b i := by
  unfold rs_rcl at e
  split at e
  · split at e
    · exact nomatch e
    · exact rs_turn_g h0 e
  · exact nomatch e
def px (tape : Int → Int) (taped : Int) (rules : Int) (read : Int → Int) (text : Int) (stack : Int → Int64) (top : Int) (word : Int → Int64) (said : Int → Int) (xx : Int) (was : Int → Int) (undone : Int) (kept : Int → Int) (sumOf : Int → Int) (faced : Int → Int) (slotAt : Int → Int) (dayAt : Int → Int) (row : Int → Int) (bestRow : Int → Int) (tMany : Int) (tMost : Int) (drawX : Int64) (images : Int → Int) (imageX : Int → Int) (isMade : Int → Int) (c : Int) (s0 c0 : Int → Int) (clause clauses : Int → Int) (a ln0 : Int) (X : Except Int (pz × Int × Int)) : Option ab_V → ab_W → Prop := fun r w2 => ∃ (nx nu wr mk ln : Int) (le sg op : Int → Int) (od dp : Int) (cl cs : Int → Int), w2 = (mo_W tape taped rules (sg) (le) (cl) (cs) read (nx) (wr) (nu) text (mk) (dp) (ln) (op) (od) stack top word said xx was undone kept sumOf faced slotAt dayAt row bestRow tMany tMost drawX images imageX isMade) ∧ (0 ≤ nx ∧ nx ≤ taped) ∧ ab_in nu ∧ (0 ≤ mk ∧ mk ≤ 60) ∧ sg_fr text s0 sg ∧ cl_fr text c0 cl ∧ (0 ≤ ln ∧ ln ≤ 12) ∧ ((r = some (ab_I 1) ∧ wr = 0 ∧ ln = ln0 + 1 ∧ (0 ≤ le text ∧ le text - nx ≤ c) ∧ cs = ab_up clauses text (clauses text + 1) ∧ ∃ b i, X = .ok ((nx, mk, le, sg), b, i) ∧ cl = rs_row clause (48 * text + 4 * clauses text) a b i (le text)) ∨ (r = some (ab_I 0) ∧ (1 ≤ wr ∧ wr ≤ 10000) ∧ cs = clauses ∧ X = .error wr))
set_option maxHeartbeats 4000000 in
set_option maxRecDepth 10000 in
theorem ct_Mo_clauseHere (ht : tp_ok tape taped) (hn0 : 0 ≤ next) (hn1 : next ≤ taped) (tx0 : 0 ≤ text) (tx1 : text ≤ 5) (hnu : ab_in number) (hm0 : 0 ≤ made) (hm1 : made ≤ 60) (hl0 : 0 ≤ leng text) (c : Int) (hc : c ≤ 0) (hl1 : leng text - next ≤ c) (s0 : Int → Int) (hs : sg_fr text s0 sign) (c0 : Int → Int) (hcf : cl_fr text c0 clause) (hk : clauses text = lines) (hk0 : 0 ≤ lines) (hk1 : lines ≤ 12) : ab_Mt g_G g_rs mt_Mo_clauseHere 10 0 0 [ab_R 0] (mo_W tape taped rules sign leng clause clauses read next (0) number text made deep lines opn opened stack top word said xx was undone kept sumOf faced slotAt dayAt row bestRow tMany tMost drawX images imageX isMade) (px tape taped rules read text stack top word said xx was undone kept sumOf faced slotAt dayAt row bestRow tMany tMost drawX images imageX isMade c s0 c0 clause clauses (leng text) lines (rs_rcl tape taped text next lines made leng sign)) := by
  refine ab_Mt.of rfl (Nat.le_of_ble_eq_true rfl) ?_
  show ab_Ev g_G g_rs mt_Mo_clauseHere _ _ _ 0 [some (ab_R 0), none, none] [] _ _
  have hb := tk_sk_b tape hn1
  have hsk := tk_sk_sk tape taped next hn1
  have w1 := tk_isI_01 tape taped (tk_sk tape taped next) (Int64.ofInt 1953854062)
  have hmB := hm1
  refine ev_aload_n de_Mo_clauseHere_0 rfl rfl ?_
  refine ev_vv (ci := 11) de_Mo_clauseHere_1 (co_Mo_see ht hn0 hn1) kb_Mo_90 ⟨im_Mo_see, se_Mo_see⟩ rfl rfl rfl (Nat.le_of_ble_eq_true rfl) (by decide) rfl ?_
  refine ev_pop de_Mo_clauseHere_4 rfl ?_
  refine ev_aload_n de_Mo_clauseHere_5 rfl rfl ?_
  refine ev_getfield de_Mo_clauseHere_6 rfl fl_Mo_87 rfl ?_
  refine ev_istore_n (l' := [_, _, _]) de_Mo_clauseHere_9 rfl (Nat.le_of_ble_eq_true rfl) rfl ?_
  refine ev_aload_n de_Mo_clauseHere_10 rfl rfl ?_
  refine ev_getfield de_Mo_clauseHere_11 rfl fl_Mo_143 rfl ?_
  refine ev_bipush de_Mo_clauseHere_14 rfl ?_
  refine ev_icmp_ne (tgt := 23) de_Mo_clauseHere_16 (by decide) (by omega) (by omega) (fun h16 => ?_) (fun h16 => ?_)
  · skip
    refine ev_iconst de_Mo_clauseHere_23 ?_
    refine ev_istore_n (l' := [_, _, _]) de_Mo_clauseHere_24 rfl (Nat.le_of_ble_eq_true rfl) rfl ?_
    refine ev_iload_n de_Mo_clauseHere_25 rfl rfl ?_
    refine ev_if_eq (tgt := 39) de_Mo_clauseHere_26 (by decide) (by omega) (fun h26 => ?_) (fun h26 => ?_)
    · skip
      refine ev_aload_n de_Mo_clauseHere_39 rfl rfl ?_
      refine ev_ldc2i (n := 1953854062) de_Mo_clauseHere_40 cn_Mo_252 (by decide) ?_
      refine ev_vv (ci := 11) de_Mo_clauseHere_43 (cs_Mo_isWord ht (by omega) hb.2 hsk (Int64.ofInt 1953854062)) kb_Mo_98 ⟨im_Mo_isWord, se_Mo_isWord⟩ rfl rfl rfl (Nat.le_of_ble_eq_true rfl) (by decide) rfl ?_
      refine ev_if_ne (tgt := 56) de_Mo_clauseHere_46 (by decide) (by omega) (fun h46 => ?_) (fun h46 => ?_)
      · skip
        have hN : tk_isI tape taped (tk_sk tape taped next) (Int64.ofInt 1953854062) = 1 := by omega
        refine ev_aload_n de_Mo_clauseHere_56 rfl rfl ?_
        refine ev_getfield de_Mo_clauseHere_57 rfl fl_Mo_254 rfl ?_
        refine ev_iload_n de_Mo_clauseHere_60 rfl rfl ?_
        refine ev_if_eq (tgt := 69) de_Mo_clauseHere_61 (by decide) (by omega) (fun h61 => ?_) (fun h61 => ?_)
        · skip
          refine ev_bipush de_Mo_clauseHere_69 rfl ?_
          refine ev_icmp_ne (tgt := 81) de_Mo_clauseHere_71 (by decide) (by omega) (by omega) (fun h71 => ?_) (fun h71 => ?_)
          · skip
            refine ev_aload_n de_Mo_clauseHere_81 rfl rfl ?_
            refine ev_dup de_Mo_clauseHere_82 rfl ?_
            refine ev_getfield de_Mo_clauseHere_83 rfl fl_Mo_254 rfl ?_
            refine ev_iconst de_Mo_clauseHere_86 ?_
            refine ev_iadd de_Mo_clauseHere_87 ?_
            refine ev_putfield de_Mo_clauseHere_88 rfl (fp_Mo_254 _) (Nat.le_of_ble_eq_true rfl) trivial ?_
            refine ev_world (w' := mo_W _ _ _ _ _ _ _ _ _ _ _ _ _ _ _ _ _ _ _ _ _ _ _ _ _ _ _ _ _ _ _ _ _ _ _ _ _) rfl ?_
            refine ev_iload_n de_Mo_clauseHere_91 rfl rfl ?_
            refine ev_if_eq (tgt := 103) de_Mo_clauseHere_92 (by decide) (by omega) (fun h92 => ?_) (fun h92 => ?_)
            · skip
              refine ev_aload_n de_Mo_clauseHere_103 rfl rfl ?_
              refine ev_virtual (ci := 11) (mc := 0) (ms := 0) (bc := 0) (bs := 0) de_Mo_clauseHere_104 (co_Mo_isTurnHere ht (by omega) hb.2 tx0 tx1 hnu hm0 hmB hl0 c hc (by omega) s0 hs c0 hcf (by omega) (by omega)) kb_Mo_260 ⟨im_Mo_isTurnHere, se_Mo_isTurnHere⟩ rfl rfl rfl (Nat.le_of_ble_eq_true rfl) (by decide) (Or.inl (fun r w1 h => by obtain ⟨nx, nu, wr, mk, le, sg, op, od, dp, cl, cs, e, -⟩ := h; rw [e]; first | exact mo_Wn.trans mo_Wn.symm | rfl)) (fun r1 w1 hm1 => ?_)
              obtain ⟨nx1, nu1, wr1, mk1, le1, sg1, op1, od1, hzz⟩ := hm1
              obtain ⟨dp1, cl1, cs1, rfl, hnx1, hnu1, hmk1, hfr1, hzz⟩ := hzz
              obtain ⟨hcf1, hc1⟩ := hzz; rcases hc1 with ⟨rfl, rfl, hle1, rfl, b1, i1, hX1, rfl⟩ | ⟨rfl, hwr1, rfl, hX1⟩
              · skip
                exact ev_zreturn de_Mo_clauseHere_107 rfl (by decide) (by first | exact ⟨_, _, _, _, _, _, _, _, _, _, _, _, rfl, hnx1, hnu1, hmk1, hfr1, hcf1, by omega, Or.inl ⟨rfl, rfl, rfl, hle1, rfl, _, _, by unfold rs_rcl; rw [if_pos hN, if_neg h71]; exact hX1, rfl⟩⟩ | exact ⟨_, _, _, _, _, _, _, _, _, _, _, _, rfl, hnx1, hnu1, hmk1, hfr1, hcf1, by omega, Or.inr ⟨rfl, hwr1, rfl, by unfold rs_rcl; rw [if_pos hN, if_neg h71]; exact hX1⟩⟩)
              · skip
                exact ev_zreturn de_Mo_clauseHere_107 rfl (by decide) (by first | exact ⟨_, _, _, _, _, _, _, _, _, _, _, _, rfl, hnx1, hnu1, hmk1, hfr1, hcf1, by omega, Or.inl ⟨rfl, rfl, rfl, hle1, rfl, _, _, by unfold rs_rcl; rw [if_pos hN, if_neg h71]; exact hX1, rfl⟩⟩ | exact ⟨_, _, _, _, _, _, _, _, _, _, _, _, rfl, hnx1, hnu1, hmk1, hfr1, hcf1, by omega, Or.inr ⟨rfl, hwr1, rfl, by unfold rs_rcl; rw [if_pos hN, if_neg h71]; exact hX1⟩⟩)
            · exact absurd rfl h92
          · skip
            have p1 := ht.2.1
            have ef : tk_fl 0 4 (tk_sk tape taped next) = 1 + 8 * (tk_sk tape taped next) + 4 := rfl
            refine ev_aload_n de_Mo_clauseHere_74 rfl rfl ?_
            refine ev_iconst de_Mo_clauseHere_75 ?_
            refine ev_iload_n de_Mo_clauseHere_76 rfl rfl ?_
            refine ev_vv (ci := 11) de_Mo_clauseHere_77 (co_Mo_fails 4 (tk_sk tape taped next) (by decide)) kb_Mo_108 ⟨im_Mo_fails, se_Mo_fails⟩ rfl rfl rfl (Nat.le_of_ble_eq_true rfl) (by decide) rfl ?_
            exact ev_zreturn de_Mo_clauseHere_80 rfl (by decide) ⟨_, _, _, _, _, _, _, _, _, _, _, _, rfl, ⟨by omega, hb.2⟩, hnu, ⟨hm0, hmB⟩, hs, hcf, ⟨hk0, hk1⟩, Or.inr ⟨rfl, by rw [ef]; omega, rfl, by unfold rs_rcl; rw [if_pos hN, if_pos h71]; rfl⟩⟩
        · exact absurd rfl h61
      · skip
        have hN : ¬ tk_isI tape taped (tk_sk tape taped next) (Int64.ofInt 1953854062) = 1 := by omega
        have p1 := ht.2.1
        have ef : tk_fl 0 0 (tk_sk tape taped next) = 1 + 8 * (tk_sk tape taped next) + 0 := rfl
        refine ev_aload_n de_Mo_clauseHere_49 rfl rfl ?_
        refine ev_iconst de_Mo_clauseHere_50 ?_
        refine ev_iload_n de_Mo_clauseHere_51 rfl rfl ?_
        refine ev_vv (ci := 11) de_Mo_clauseHere_52 (co_Mo_fails 0 (tk_sk tape taped next) (by decide)) kb_Mo_108 ⟨im_Mo_fails, se_Mo_fails⟩ rfl rfl rfl (Nat.le_of_ble_eq_true rfl) (by decide) rfl ?_
        exact ev_zreturn de_Mo_clauseHere_55 rfl (by decide) ⟨_, _, _, _, _, _, _, _, _, _, _, _, rfl, ⟨by omega, hb.2⟩, hnu, ⟨hm0, hmB⟩, hs, hcf, ⟨hk0, hk1⟩, Or.inr ⟨rfl, by rw [ef]; omega, rfl, by unfold rs_rcl; rw [if_neg hN]; rfl⟩⟩
    · exact absurd rfl h26
  · exact absurd h16 (by omega)
set_option maxRecDepth 10000 in
theorem mb_Mo_readsAll (hwr : 1 ≤ wrong ∧ wrong ≤ 10000) : ab_Ev g_G g_rs mt_Mo_readsAll 11 0 0 35 [some (ab_R 0), some (ab_I 0)] [] (mo_W tape taped rules sign leng clause clauses read next wrong number text made deep lines opn opened stack top word said xx was undone kept sumOf faced slotAt dayAt row bestRow tMany tMost drawX images imageX isMade) (ab_is (some (ab_I (0))) (mo_W tape (0) rules sign leng clause clauses read next wrong number text made deep lines opn opened stack top word said xx was undone kept sumOf faced slotAt dayAt row bestRow tMany tMost drawX images imageX isMade)) := by
  refine ev_iload_n de_Mo_readsAll_35 rfl rfl ?_
  refine ev_if_eq (tgt := 66) de_Mo_readsAll_36 (by decide) (by omega) (fun h36 => ?_) (fun h36 => ?_)
  · skip
    refine ev_iload_n de_Mo_readsAll_66 rfl rfl ?_
    refine ev_if_eq (tgt := 88) de_Mo_readsAll_67 (by decide) (by omega) (fun h67 => ?_) (fun h67 => ?_)
    · skip
      refine ev_aload_n de_Mo_readsAll_88 rfl rfl ?_
      refine ev_iconst de_Mo_readsAll_89 ?_
      refine ev_putfield de_Mo_readsAll_90 rfl (fp_Mo_76 _) (Nat.le_of_ble_eq_true rfl) trivial ?_
      refine ev_world (w' := mo_W _ _ _ _ _ _ _ _ _ _ _ _ _ _ _ _ _ _ _ _ _ _ _ _ _ _ _ _ _ _ _ _ _ _ _ _ _) rfl ?_
      refine ev_aload_n de_Mo_readsAll_93 rfl rfl ?_
      refine ev_getfield de_Mo_readsAll_94 rfl fl_Mo_84 rfl ?_
      refine ev_if_ne (tgt := 104) de_Mo_readsAll_97 (by decide) (by omega) (fun h97 => ?_) (fun h97 => ?_)
      · skip
        refine ev_iconst de_Mo_readsAll_104 ?_
        exact ev_zreturn de_Mo_readsAll_105 rfl (by decide) ⟨rfl, rfl⟩
      · exact absurd h97 (by omega)
    · exact absurd rfl h67
  · exact absurd rfl h36
set_option maxRecDepth 10000 in
theorem mg_Mo_readsAll (ht : tp_ok tape taped) (hn0 : 0 ≤ next) (hn1 : next ≤ taped) (hsk : tk_sk tape taped next = next) : ab_Ev g_G g_rs mt_Mo_readsAll 11 0 0 66 [some (ab_R 0), some (ab_I 1)] [] (mo_W tape taped rules sign leng clause clauses read next (0) number text made deep lines opn opened stack top word said xx was undone kept sumOf faced slotAt dayAt row bestRow tMany tMost drawX images imageX isMade) (ab_is (some (ab_I (if tk_ch tape taped next = -1 then 1 else 0))) (mo_W tape (0) rules sign leng clause clauses read next (if tk_ch tape taped next = -1 then 0 else 1 + 8 * next + 0) number text made deep lines opn opened stack top word said xx was undone kept sumOf faced slotAt dayAt row bestRow tMany tMost drawX images imageX isMade)) := by
  have hcb := tk_ch_b tape taped next
  have p1 := ht.2.1
  refine ev_iload_n de_Mo_readsAll_66 rfl rfl ?_
  refine ev_if_eq (tgt := 88) de_Mo_readsAll_67 (by decide) (by omega) (fun h67 => ?_) (fun h67 => ?_)
  · exact absurd h67 (by decide)
  · skip
    refine ev_aload_n de_Mo_readsAll_70 rfl rfl ?_
    refine ev_vv (ci := 11) de_Mo_readsAll_71 (cs_Mo_see ht hn0 hn1 hsk) kb_Mo_90 ⟨im_Mo_see, se_Mo_see⟩ rfl rfl rfl (Nat.le_of_ble_eq_true rfl) (by decide) rfl ?_
    refine ev_iconst de_Mo_readsAll_74 ?_
    refine ev_icmp_eq (tgt := 88) de_Mo_readsAll_75 (by decide) (by omega) (by omega) (fun h75 => ?_) (fun h75 => ?_)
    · skip
      rw [if_pos h75, if_pos h75]
      refine ev_aload_n de_Mo_readsAll_88 rfl rfl ?_
      refine ev_iconst de_Mo_readsAll_89 ?_
      refine ev_putfield de_Mo_readsAll_90 rfl (fp_Mo_76 _) (Nat.le_of_ble_eq_true rfl) trivial ?_
      refine ev_world (w' := mo_W _ _ _ _ _ _ _ _ _ _ _ _ _ _ _ _ _ _ _ _ _ _ _ _ _ _ _ _ _ _ _ _ _ _ _ _ _) rfl ?_
      refine ev_aload_n de_Mo_readsAll_93 rfl rfl ?_
      refine ev_getfield de_Mo_readsAll_94 rfl fl_Mo_84 rfl ?_
      refine ev_if_ne (tgt := 104) de_Mo_readsAll_97 (by decide) (by omega) (fun h97 => ?_) (fun h97 => ?_)
      · skip
        refine ev_iconst de_Mo_readsAll_104 ?_
        exact ev_zreturn de_Mo_readsAll_105 rfl (by decide) ⟨by first | rfl | (exfalso; omega), rfl⟩
      · skip
        refine ev_iconst de_Mo_readsAll_100 ?_
        refine ev_goto (tgt := 105) de_Mo_readsAll_101 (by decide) ?_
        exact ev_zreturn de_Mo_readsAll_105 rfl (by decide) ⟨by first | rfl | (exfalso; omega), rfl⟩
    · skip
      rw [if_neg h75, if_neg h75]
      refine ev_aload_n de_Mo_readsAll_78 rfl rfl ?_
      refine ev_iconst de_Mo_readsAll_79 ?_
      refine ev_aload_n de_Mo_readsAll_80 rfl rfl ?_
      refine ev_getfield de_Mo_readsAll_81 rfl fl_Mo_87 rfl ?_
      refine ev_vv (ci := 11) de_Mo_readsAll_84 (co_Mo_fails 0 next (by decide)) kb_Mo_108 ⟨im_Mo_fails, se_Mo_fails⟩ rfl rfl rfl (Nat.le_of_ble_eq_true rfl) (by decide) rfl ?_
      refine ev_pop de_Mo_readsAll_87 rfl ?_
      refine ev_world (w' := (mo_W tape taped rules sign leng clause clauses read next (1 + 8 * next + 0) number text made deep lines opn opened stack top word said xx was undone kept sumOf faced slotAt dayAt row bestRow tMany tMost drawX images imageX isMade)) rfl ?_
      refine ev_aload_n de_Mo_readsAll_88 rfl rfl ?_
      refine ev_iconst de_Mo_readsAll_89 ?_
      refine ev_putfield de_Mo_readsAll_90 rfl (fp_Mo_76 _) (Nat.le_of_ble_eq_true rfl) trivial ?_
      refine ev_world (w' := mo_W _ _ _ _ _ _ _ _ _ _ _ _ _ _ _ _ _ _ _ _ _ _ _ _ _ _ _ _ _ _ _ _ _ _ _ _ _) rfl ?_
      refine ev_aload_n de_Mo_readsAll_93 rfl rfl ?_
      refine ev_getfield de_Mo_readsAll_94 rfl fl_Mo_84 rfl ?_
      refine ev_if_ne (tgt := 104) de_Mo_readsAll_97 (by decide) (by omega) (fun h97 => ?_) (fun h97 => ?_)
      · skip
        refine ev_iconst de_Mo_readsAll_104 ?_
        exact ev_zreturn de_Mo_readsAll_105 rfl (by decide) ⟨by first | rfl | (exfalso; omega), rfl⟩
      · skip
        refine ev_iconst de_Mo_readsAll_100 ?_
        refine ev_goto (tgt := 105) de_Mo_readsAll_101 (by decide) ?_
        exact ev_zreturn de_Mo_readsAll_105 rfl (by decide) ⟨by first | rfl | (exfalso; omega), rfl⟩
abbrev pn : Type := Int × Int × (Int → Int) × (Int → Int) × (Int → Int)
def rs_rgo (tape : Int → Int) (taped t : Int) : Nat → Int → Int → Int → (Int → Int) → (Int → Int) → (Int → Int) → Except Int pn
  | 0, _, _, _, _, _, _ => .error 0
  | n + 1, nx, lines, md, le, sg, cl => if tk_ch tape taped (tk_sk tape taped nx) = 59 then (match rs_rcl tape taped t (tk_sk tape taped nx + 1) lines md le sg with
      | .error e => .error e
      | .ok ((n2, md2, le2, sg2), b, i) => rs_rgo tape taped t n n2 (lines + 1) md2 le2 sg2 (rs_row cl (48 * t + 4 * lines) (le t) b i (le2 t)))
    else if tk_ch tape taped (tk_sk tape taped nx) = -1 then .ok (lines, md, le, sg, cl) else .error (1 + 8 * tk_sk tape taped nx + 0)
def rs_rall (tape : Int → Int) (taped t : Int) (le sg cl : Int → Int) : Except Int pn := match rs_rcl tape taped t 0 0 0 (ab_up le t 0) sg with
  | .error e => .error e
  | .ok ((n2, md2, le2, sg2), b, i) => rs_rgo tape taped t 12 n2 1 md2 le2 sg2 (rs_row cl (48 * t + 4 * 0) 0 b i (le2 t))
def py (tape : Int → Int) (rules : Int) (read : Int → Int) (text : Int) (stack : Int → Int64) (top : Int) (word : Int → Int64) (said : Int → Int) (xx : Int) (was : Int → Int) (undone : Int) (kept : Int → Int) (sumOf : Int → Int) (faced : Int → Int) (slotAt : Int → Int) (dayAt : Int → Int) (row : Int → Int) (bestRow : Int → Int) (tMany : Int) (tMost : Int) (drawX : Int64) (images : Int → Int) (imageX : Int → Int) (isMade : Int → Int) (s0 c0 k0 : Int → Int) (X : Except Int pn) : Option ab_V → ab_W → Prop := fun r w2 => ∃ (nx nu wr mk ln : Int) (le sg op : Int → Int) (od dp : Int) (cl cs : Int → Int), w2 = (mo_W tape (0) rules (sg) (le) (cl) (cs) read (nx) (wr) (nu) text (mk) (dp) (ln) (op) (od) stack top word said xx was undone kept sumOf faced slotAt dayAt row bestRow tMany tMost drawX images imageX isMade) ∧ (0 ≤ nx ∧ nx ≤ 400) ∧ ab_in nu ∧ (0 ≤ mk ∧ mk ≤ 60) ∧ sg_fr text s0 sg ∧ cl_fr text c0 cl ∧ (0 ≤ ln ∧ ln ≤ 12) ∧ (∀ j, j ≠ text → cs j = k0 j) ∧ ((r = some (ab_I 1) ∧ wr = 0 ∧ cs text = ln ∧ Rv text ln 400 sg cl ∧ X = .ok (ln, mk, le, sg, cl)) ∨ (r = some (ab_I 0) ∧ (1 ≤ wr ∧ wr ≤ 10000) ∧ X = .error wr))
set_option maxHeartbeats 4000000 in
set_option maxRecDepth 10000 in
theorem ms_Mo_readsAll (ht : tp_ok tape taped) (tx0 : 0 ≤ text) (tx1 : text ≤ 5) (s0 c0 k0 : Int → Int) : ∀ (n : Nat) (next lines number made : Int) (leng sign clause clauses opn : Int → Int) (opened deep : Int), 0 ≤ next → next ≤ taped → 0 ≤ lines → lines ≤ 12 → lines + (n : Int) = 13 → ab_in number → 0 ≤ made → made ≤ 60 → 0 ≤ leng text → leng text - next ≤ 0 → sg_fr text s0 sign → cl_fr text c0 clause → clauses text = lines → (∀ j, j ≠ text → clauses j = k0 j) → Rv text lines (leng text) sign clause → ab_Ev g_G g_rs mt_Mo_readsAll 11 0 0 35 [some (ab_R 0), some (ab_I 1)] [] (mo_W tape taped rules sign leng clause clauses read next (0) number text made deep lines opn opened stack top word said xx was undone kept sumOf faced slotAt dayAt row bestRow tMany tMost drawX images imageX isMade) (py tape rules read text stack top word said xx was undone kept sumOf faced slotAt dayAt row bestRow tMany tMost drawX images imageX isMade s0 c0 k0 (rs_rgo tape taped text n next lines made leng sign clause)) := by
  intro n
  induction n with
  | zero =>
    intro next lines number made leng sign clause clauses opn opened deep
    intro hn0 hn1 hl0 hl1 g hnu hm0 hm1 hle0 hle1 hs hcf hk hk2 hR; omega
  | succ n ih =>
    intro next lines number made leng sign clause clauses opn opened deep
    intro hn0 hn1 hl0 hl1 g hnu hm0 hm1 hle0 hle1 hs hcf hk hk2 hR
    have p1 := ht.2.1
    have hmB := hm1
    have hb := tk_sk_b tape hn1
    have hsk := tk_sk_sk tape taped next hn1
    have hcb := tk_ch_b tape taped (tk_sk tape taped next)
    refine ev_iload_n de_Mo_readsAll_35 rfl rfl ?_
    refine ev_if_eq (tgt := 66) de_Mo_readsAll_36 (by decide) (by omega) (fun h36 => ?_) (fun h36 => ?_)
    · exact absurd h36 (by decide)
    · skip
      refine ev_aload_n de_Mo_readsAll_39 rfl rfl ?_
      refine ev_vv (ci := 11) de_Mo_readsAll_40 (co_Mo_see ht hn0 hn1) kb_Mo_90 ⟨im_Mo_see, se_Mo_see⟩ rfl rfl rfl (Nat.le_of_ble_eq_true rfl) (by decide) rfl ?_
      refine ev_bipush de_Mo_readsAll_43 rfl ?_
      refine ev_icmp_ne (tgt := 66) de_Mo_readsAll_45 (by decide) (by omega) (by omega) (fun h45 => ?_) (fun h45 => ?_)
      · skip
        refine ev_conseq (fun r w2 h => ?_) (mg_Mo_readsAll ht (by omega) hb.2 hsk)
        obtain ⟨rfl, rfl⟩ := h
        by_cases c : tk_ch tape taped (tk_sk tape taped next) = -1
        · have e : rs_rgo tape taped text (n + 1) next lines made leng sign clause = .ok (lines, made, leng, sign, clause) := by show (if _ then _ else _) = _; rw [if_neg h45, if_pos c]
          rw [if_pos c, if_pos c, e]
          exact ⟨_, _, _, _, _, _, _, _, _, _, _, _, rfl, by omega, hnu, ⟨hm0, hmB⟩, hs, hcf, ⟨hl0, hl1⟩, hk2, Or.inl ⟨rfl, rfl, hk, Rv_mono hR (by omega), rfl⟩⟩
        · have e : rs_rgo tape taped text (n + 1) next lines made leng sign clause = .error (1 + 8 * (tk_sk tape taped next) + 0) := by show (if _ then _ else _) = _; rw [if_neg h45, if_neg c]
          rw [if_neg c, if_neg c, e]
          exact ⟨_, _, _, _, _, _, _, _, _, _, _, _, rfl, by omega, hnu, ⟨hm0, hmB⟩, hs, hcf, ⟨hl0, hl1⟩, hk2, Or.inr ⟨rfl, by omega, rfl⟩⟩
      · skip
        have hlt : tk_sk tape taped next < taped := Decidable.byContradiction (fun z => by unfold tk_ch at h45; rw [if_neg z] at h45; omega)
        refine ev_aload_n de_Mo_readsAll_48 rfl rfl ?_
        refine ev_dup de_Mo_readsAll_49 rfl ?_
        refine ev_getfield de_Mo_readsAll_50 rfl fl_Mo_87 rfl ?_
        refine ev_iconst de_Mo_readsAll_53 ?_
        refine ev_iadd de_Mo_readsAll_54 ?_
        refine ev_putfield de_Mo_readsAll_55 rfl (fp_Mo_87 _) (Nat.le_of_ble_eq_true rfl) trivial ?_
        refine ev_world (w' := mo_W _ _ _ _ _ _ _ _ _ _ _ _ _ _ _ _ _ _ _ _ _ _ _ _ _ _ _ _ _ _ _ _ _ _ _ _ _) rfl ?_
        refine ev_aload_n de_Mo_readsAll_58 rfl rfl ?_
        refine ev_virtual (ci := 11) (mc := 0) (ms := 0) (bc := 0) (bs := 0) de_Mo_readsAll_59 (ct_Mo_clauseHere ht (by omega) (by omega) tx0 tx1 hnu hm0 hmB hle0 0 (by decide) (by omega) s0 hs c0 hcf hk hl0 hl1) kb_Mo_263 ⟨im_Mo_clauseHere, se_Mo_clauseHere⟩ rfl rfl rfl (Nat.le_of_ble_eq_true rfl) (by decide) (Or.inl (fun r w1 h => by obtain ⟨nx, nu, wr, mk, ln, le, sg, op, od, dp, cl, cs, e, -⟩ := h; rw [e]; first | exact mo_Wn.trans mo_Wn.symm | rfl)) (fun r1 w1 hm1 => ?_)
        obtain ⟨nx1, nu1, wr1, mk1, ln1, le1, sg1, op1, hzz⟩ := hm1
        obtain ⟨od1, dp1, cl1, cs1, rfl, hnx1, hnu1, hmk1, hzz⟩ := hzz
        obtain ⟨hfr1, hcf1, hln1, hc1⟩ := hzz; rcases hc1 with ⟨rfl, rfl, rfl, hle1, rfl, b1, i1, hX1, rfl⟩ | ⟨rfl, hwr1, rfl, hX1⟩
        · skip
          refine ev_istore_n (l' := [_, _]) de_Mo_readsAll_62 rfl (Nat.le_of_ble_eq_true rfl) rfl ?_
          refine ev_goto (tgt := 35) de_Mo_readsAll_63 (by decide) ?_
          have hl12 : lines ≠ 12 := fun z => by rw [z] at hX1; exact rs_rcl_12 hX1
          have hrt := rs_rcl_g hm0 hX1
          have hR2 := Rv_next hR (by omega) hle0 hrt hmk1.2
          have e : rs_rgo tape taped text (n + 1) next lines made leng sign clause = rs_rgo tape taped text n nx1 (lines + 1) mk1 le1 sg1 (rs_row clause (48 * text + 4 * lines) (leng text) b1 i1 (le1 text)) := by show (if _ then _ else _) = _; rw [if_pos h45, hX1]
          rw [e, hk]
          rw [hk] at hcf1
          exact ih nx1 (lines + 1) nu1 mk1 le1 sg1 _ _ op1 od1 dp1 hnx1.1 hnx1.2 (by omega) (by omega) (by omega) hnu1 hmk1.1 hmk1.2 hle1.1 hle1.2 hfr1 hcf1 (by rw [ab_upe]) (fun j hj => by rw [ab_upn _ _ hj]; exact hk2 j hj) hR2
        · skip
          refine ev_istore_n (l' := [_, _]) de_Mo_readsAll_62 rfl (Nat.le_of_ble_eq_true rfl) rfl ?_
          refine ev_goto (tgt := 35) de_Mo_readsAll_63 (by decide) ?_
          refine ev_conseq (fun r w2 h => ?_) (mb_Mo_readsAll hwr1)
          obtain ⟨rfl, rfl⟩ := h
          exact ⟨_, _, _, _, _, _, _, _, _, _, _, _, rfl, by omega, hnu1, hmk1, hfr1, hcf1, hln1, hk2, Or.inr ⟨rfl, hwr1, by show (if _ then _ else _) = _; rw [if_pos h45, hX1]⟩⟩
set_option maxHeartbeats 4000000 in
set_option maxRecDepth 10000 in
theorem ct_Mo_readsAll (ht : tp_ok tape taped) (tx0 : 0 ≤ text) (tx1 : text ≤ 5) (hnu : ab_in number) (s0 c0 k0 : Int → Int) (hs : sg_fr text s0 sign) (hcf : cl_fr text c0 clause) (hk : clauses text = 0) (hk2 : ∀ j, j ≠ text → clauses j = k0 j) : ab_Mt g_G g_rs mt_Mo_readsAll 11 0 0 [ab_R 0] (mo_W tape taped rules sign leng clause clauses read next wrong number text made deep lines opn opened stack top word said xx was undone kept sumOf faced slotAt dayAt row bestRow tMany tMost drawX images imageX isMade) (py tape rules read text stack top word said xx was undone kept sumOf faced slotAt dayAt row bestRow tMany tMost drawX images imageX isMade s0 c0 k0 (rs_rall tape taped text leng sign clause)) := by
  refine ab_Mt.of rfl (Nat.le_of_ble_eq_true rfl) ?_
  show ab_Ev g_G g_rs mt_Mo_readsAll _ _ _ 0 [some (ab_R 0), none] [] _ _
  have p0 := ht.1
  have p1 := ht.2.1
  have eL : ab_up leng text 0 text = 0 := ab_upe _ _ _
  refine ev_aload_n de_Mo_readsAll_0 rfl rfl ?_
  refine ev_getfield de_Mo_readsAll_1 rfl fl_Mo_17 rfl ?_
  refine ev_aload_n de_Mo_readsAll_4 rfl rfl ?_
  refine ev_getfield de_Mo_readsAll_5 rfl fl_Mo_143 rfl ?_
  refine ev_iconst de_Mo_readsAll_8 ?_
  refine ev_iastore de_Mo_readsAll_9 rfl (by omega) (by omega) (by omega) ?_
  refine ev_world (w' := mo_W _ _ _ _ _ _ _ _ _ _ _ _ _ _ _ _ _ _ _ _ _ _ _ _ _ _ _ _ _ _ _ _ _ _ _ _ _) rfl ?_
  refine ev_aload_n de_Mo_readsAll_10 rfl rfl ?_
  refine ev_iconst de_Mo_readsAll_11 ?_
  refine ev_putfield de_Mo_readsAll_12 rfl (fp_Mo_254 _) (Nat.le_of_ble_eq_true rfl) trivial ?_
  refine ev_world (w' := mo_W _ _ _ _ _ _ _ _ _ _ _ _ _ _ _ _ _ _ _ _ _ _ _ _ _ _ _ _ _ _ _ _ _ _ _ _ _) rfl ?_
  refine ev_aload_n de_Mo_readsAll_15 rfl rfl ?_
  refine ev_iconst de_Mo_readsAll_16 ?_
  refine ev_putfield de_Mo_readsAll_17 rfl (fp_Mo_87 _) (Nat.le_of_ble_eq_true rfl) trivial ?_
  refine ev_world (w' := mo_W _ _ _ _ _ _ _ _ _ _ _ _ _ _ _ _ _ _ _ _ _ _ _ _ _ _ _ _ _ _ _ _ _ _ _ _ _) rfl ?_
  refine ev_aload_n de_Mo_readsAll_20 rfl rfl ?_
  refine ev_iconst de_Mo_readsAll_21 ?_
  refine ev_putfield de_Mo_readsAll_22 rfl (fp_Mo_84 _) (Nat.le_of_ble_eq_true rfl) trivial ?_
  refine ev_world (w' := mo_W _ _ _ _ _ _ _ _ _ _ _ _ _ _ _ _ _ _ _ _ _ _ _ _ _ _ _ _ _ _ _ _ _ _ _ _ _) rfl ?_
  refine ev_aload_n de_Mo_readsAll_25 rfl rfl ?_
  refine ev_iconst de_Mo_readsAll_26 ?_
  refine ev_putfield de_Mo_readsAll_27 rfl (fp_Mo_146 _) (Nat.le_of_ble_eq_true rfl) trivial ?_
  refine ev_world (w' := mo_W _ _ _ _ _ _ _ _ _ _ _ _ _ _ _ _ _ _ _ _ _ _ _ _ _ _ _ _ _ _ _ _ _ _ _ _ _) rfl ?_
  refine ev_aload_n de_Mo_readsAll_30 rfl rfl ?_
  refine ev_virtual (ci := 11) (mc := 0) (ms := 0) (bc := 0) (bs := 0) de_Mo_readsAll_31 (ct_Mo_clauseHere (leng := ab_up leng text 0) ht (by decide) p0 tx0 tx1 hnu (by decide) (by decide) (by omega) 0 (by decide) (by omega) s0 hs c0 hcf hk (by decide) (by decide)) kb_Mo_263 ⟨im_Mo_clauseHere, se_Mo_clauseHere⟩ rfl rfl rfl (Nat.le_of_ble_eq_true rfl) (by decide) (Or.inl (fun r w1 h => by obtain ⟨nx, nu, wr, mk, ln, le, sg, op, od, dp, cl, cs, e, -⟩ := h; rw [e]; first | exact mo_Wn.trans mo_Wn.symm | rfl)) (fun r1 w1 hm1 => ?_)
  obtain ⟨nx1, nu1, wr1, mk1, ln1, le1, sg1, op1, hzz⟩ := hm1
  obtain ⟨od1, dp1, cl1, cs1, rfl, hnx1, hnu1, hmk1, hzz⟩ := hzz
  obtain ⟨hfr1, hcf1, hln1, hc1⟩ := hzz; rcases hc1 with ⟨rfl, rfl, rfl, hle1, rfl, b1, i1, hX1, rfl⟩ | ⟨rfl, hwr1, rfl, hX1⟩
  · skip
    rw [eL, hk] at hcf1
    have hrt := rs_rcl_g (by decide) hX1
    rw [eL] at hrt
    have hR2 := Rv_next (Rv_0 (cl := clause)) (by decide) (by decide) hrt hmk1.2
    have e : rs_rall tape taped text leng sign clause = rs_rgo tape taped text 12 nx1 1 mk1 le1 sg1 (rs_row clause (48 * text + 4 * 0) 0 b1 i1 (le1 text)) := by unfold rs_rall; rw [hX1]
    rw [e, eL, hk]
    refine ev_istore_n (l' := [_, _]) de_Mo_readsAll_34 rfl (Nat.le_of_ble_eq_true rfl) rfl ?_
    exact ms_Mo_readsAll ht tx0 tx1 s0 c0 k0 12 nx1 1 nu1 mk1 le1 sg1 _ _ op1 od1 dp1 hnx1.1 hnx1.2 (by decide) (by decide) (by decide) hnu1 hmk1.1 hmk1.2 hle1.1 hle1.2 hfr1 hcf1 (by rw [ab_upe]; rfl) (fun j hj => by rw [ab_upn _ _ hj]; exact hk2 j hj) hR2
  · skip
    refine ev_istore_n (l' := [_, _]) de_Mo_readsAll_34 rfl (Nat.le_of_ble_eq_true rfl) rfl ?_
    refine ev_conseq (fun r w2 h => ?_) (mb_Mo_readsAll hwr1)
    obtain ⟨rfl, rfl⟩ := h
    exact ⟨_, _, _, _, _, _, _, _, _, _, _, _, rfl, by omega, hnu1, hmk1, hfr1, hcf1, hln1, hk2, Or.inr ⟨rfl, hwr1, by unfold rs_rall; rw [hX1]⟩⟩
def pR (tape : Int → Int) (read : Int → Int) (stack : Int → Int64) (top : Int) (word : Int → Int64) (said : Int → Int) (xx : Int) (was : Int → Int) (undone : Int) (kept : Int → Int) (sumOf : Int → Int) (faced : Int → Int) (slotAt : Int → Int) (dayAt : Int → Int) (row : Int → Int) (bestRow : Int → Int) (tMany : Int) (tMost : Int) (drawX : Int64) (images : Int → Int) (imageX : Int → Int) (isMade : Int → Int) (rules : Int) (s0 c0 k0 : Int → Int) (X : Except Int pn) : Option ab_V → ab_W → Prop := fun r w2 => ∃ (nx nu wr mk ln : Int) (le sg op : Int → Int) (od dp : Int) (cl cs : Int → Int), (0 ≤ nx ∧ nx ≤ 400) ∧ ab_in nu ∧ (0 ≤ mk ∧ mk ≤ 60) ∧ sg_fr rules s0 sg ∧ cl_fr rules c0 cl ∧ (0 ≤ ln ∧ ln ≤ 12) ∧ (∀ j, j ≠ rules → cs j = k0 j) ∧ ((r = some (ab_I rules) ∧ w2 = (mo_W tape (0) (rules + 1) (sg) (le) (cl) (cs) read (nx) (0) (nu) (rules) (mk) (dp) (ln) (op) (od) stack top word said xx was undone kept sumOf faced slotAt dayAt row bestRow tMany tMost drawX images imageX isMade) ∧ cs rules = ln ∧ Rv rules ln 400 sg cl ∧ X = .ok (ln, mk, le, sg, cl)) ∨ (r = some (ab_I (-2 - wr)) ∧ w2 = (mo_W tape (0) rules (sg) (le) (cl) (cs) read (nx) (wr) (nu) (rules) (mk) (dp) (ln) (op) (od) stack top word said xx was undone kept sumOf faced slotAt dayAt row bestRow tMany tMost drawX images imageX isMade) ∧ (1 ≤ wr ∧ wr ≤ 10000) ∧ X = .error wr))
theorem de_Mo_rule_0 : decode prog_14_method_42_code 0 = .ok (.aload_n 0, 1) := by decide +kernel
theorem de_Mo_rule_1 : decode prog_14_method_42_code 1 = .ok (.getfield 266, 3) := by decide +kernel
theorem de_Mo_rule_4 : decode prog_14_method_42_code 4 = .ok (.bipush 6, 2) := by decide +kernel
theorem de_Mo_rule_6 : decode prog_14_method_42_code 6 = .ok (.if_icmp .ne 5, 3) := by decide +kernel
theorem de_Mo_rule_9 : decode prog_14_method_42_code 9 = .ok (.iconst (-1), 1) := by decide +kernel
theorem de_Mo_rule_10 : decode prog_14_method_42_code 10 = .ok (.ireturn, 1) := by decide +kernel
theorem de_Mo_rule_11 : decode prog_14_method_42_code 11 = .ok (.aload_n 0, 1) := by decide +kernel
theorem de_Mo_rule_12 : decode prog_14_method_42_code 12 = .ok (.aload_n 0, 1) := by decide +kernel
theorem de_Mo_rule_13 : decode prog_14_method_42_code 13 = .ok (.getfield 266, 3) := by decide +kernel
theorem de_Mo_rule_16 : decode prog_14_method_42_code 16 = .ok (.putfield 143, 3) := by decide +kernel
theorem de_Mo_rule_19 : decode prog_14_method_42_code 19 = .ok (.aload_n 0, 1) := by decide +kernel
theorem de_Mo_rule_20 : decode prog_14_method_42_code 20 = .ok (.getfield 23, 3) := by decide +kernel
theorem de_Mo_rule_23 : decode prog_14_method_42_code 23 = .ok (.aload_n 0, 1) := by decide +kernel
theorem de_Mo_rule_24 : decode prog_14_method_42_code 24 = .ok (.getfield 143, 3) := by decide +kernel
theorem de_Mo_rule_27 : decode prog_14_method_42_code 27 = .ok (.iconst 0, 1) := by decide +kernel
theorem de_Mo_rule_28 : decode prog_14_method_42_code 28 = .ok (.iastore, 1) := by decide +kernel
theorem de_Mo_rule_29 : decode prog_14_method_42_code 29 = .ok (.aload_n 0, 1) := by decide +kernel
theorem de_Mo_rule_30 : decode prog_14_method_42_code 30 = .ok (.invokevirtual 269, 3) := by decide +kernel
theorem de_Mo_rule_33 : decode prog_14_method_42_code 33 = .ok (.ifCond .ne 11, 3) := by decide +kernel
theorem de_Mo_rule_36 : decode prog_14_method_42_code 36 = .ok (.bipush (-2), 2) := by decide +kernel
theorem de_Mo_rule_38 : decode prog_14_method_42_code 38 = .ok (.aload_n 0, 1) := by decide +kernel
theorem de_Mo_rule_39 : decode prog_14_method_42_code 39 = .ok (.getfield 84, 3) := by decide +kernel
theorem de_Mo_rule_42 : decode prog_14_method_42_code 42 = .ok (.isub, 1) := by decide +kernel
theorem de_Mo_rule_43 : decode prog_14_method_42_code 43 = .ok (.ireturn, 1) := by decide +kernel
theorem de_Mo_rule_44 : decode prog_14_method_42_code 44 = .ok (.aload_n 0, 1) := by decide +kernel
theorem de_Mo_rule_45 : decode prog_14_method_42_code 45 = .ok (.dup, 1) := by decide +kernel
theorem de_Mo_rule_46 : decode prog_14_method_42_code 46 = .ok (.getfield 266, 3) := by decide +kernel
theorem de_Mo_rule_49 : decode prog_14_method_42_code 49 = .ok (.iconst 1, 1) := by decide +kernel
theorem de_Mo_rule_50 : decode prog_14_method_42_code 50 = .ok (.iadd, 1) := by decide +kernel
theorem de_Mo_rule_51 : decode prog_14_method_42_code 51 = .ok (.putfield 266, 3) := by decide +kernel
theorem de_Mo_rule_54 : decode prog_14_method_42_code 54 = .ok (.aload_n 0, 1) := by decide +kernel
theorem de_Mo_rule_55 : decode prog_14_method_42_code 55 = .ok (.getfield 266, 3) := by decide +kernel
theorem de_Mo_rule_58 : decode prog_14_method_42_code 58 = .ok (.iconst 1, 1) := by decide +kernel
theorem de_Mo_rule_59 : decode prog_14_method_42_code 59 = .ok (.isub, 1) := by decide +kernel
theorem de_Mo_rule_60 : decode prog_14_method_42_code 60 = .ok (.ireturn, 1) := by decide +kernel
set_option maxHeartbeats 4000000 in
set_option maxRecDepth 10000 in
theorem co_Mo_rule (ht : tp_ok tape taped) (hr0 : 0 ≤ rules) (hr1 : rules ≤ 5) (hnu : ab_in number) : ab_Mt g_G g_rs mt_Mo_rule 12 0 0 [ab_R 0] (mo_W tape taped rules sign leng clause clauses read next wrong number text made deep lines opn opened stack top word said xx was undone kept sumOf faced slotAt dayAt row bestRow tMany tMost drawX images imageX isMade) (pR tape read stack top word said xx was undone kept sumOf faced slotAt dayAt row bestRow tMany tMost drawX images imageX isMade rules sign clause clauses (rs_rall tape taped rules leng sign clause)) := by
  refine ab_Mt.of rfl (Nat.le_of_ble_eq_true rfl) ?_
  show ab_Ev g_G g_rs mt_Mo_rule _ _ _ 0 [some (ab_R 0)] [] _ _
  refine ev_aload_n de_Mo_rule_0 rfl rfl ?_
  refine ev_getfield de_Mo_rule_1 rfl fl_Mo_266 rfl ?_
  refine ev_bipush de_Mo_rule_4 rfl ?_
  refine ev_icmp_ne (tgt := 11) de_Mo_rule_6 (by decide) (by omega) (by omega) (fun h6 => ?_) (fun h6 => ?_)
  · skip
    refine ev_aload_n de_Mo_rule_11 rfl rfl ?_
    refine ev_aload_n de_Mo_rule_12 rfl rfl ?_
    refine ev_getfield de_Mo_rule_13 rfl fl_Mo_266 rfl ?_
    refine ev_putfield de_Mo_rule_16 rfl (fp_Mo_143 _) (Nat.le_of_ble_eq_true rfl) trivial ?_
    refine ev_world (w' := mo_W _ _ _ _ _ _ _ _ _ _ _ _ _ _ _ _ _ _ _ _ _ _ _ _ _ _ _ _ _ _ _ _ _ _ _ _ _) rfl ?_
    refine ev_aload_n de_Mo_rule_19 rfl rfl ?_
    refine ev_getfield de_Mo_rule_20 rfl fl_Mo_23 rfl ?_
    refine ev_aload_n de_Mo_rule_23 rfl rfl ?_
    refine ev_getfield de_Mo_rule_24 rfl fl_Mo_143 rfl ?_
    refine ev_iconst de_Mo_rule_27 ?_
    refine ev_iastore de_Mo_rule_28 rfl (by omega) (by omega) (by omega) ?_
    refine ev_world (w' := mo_W _ _ _ _ _ _ _ _ _ _ _ _ _ _ _ _ _ _ _ _ _ _ _ _ _ _ _ _ _ _ _ _ _ _ _ _ _) rfl ?_
    refine ev_aload_n de_Mo_rule_29 rfl rfl ?_
    refine ev_virtual (ci := 11) (mc := 0) (ms := 0) (bc := 0) (bs := 0) de_Mo_rule_30 (ct_Mo_readsAll ht hr0 hr1 hnu sign clause clauses (fun _ _ => rfl) (fun _ _ => rfl) (ab_upe _ _ _) (fun j hj => ab_upn _ _ hj)) kb_Mo_269 ⟨im_Mo_readsAll, se_Mo_readsAll⟩ rfl rfl rfl (Nat.le_of_ble_eq_true rfl) (by decide) (Or.inl (fun r w1 h => by obtain ⟨nx, nu, wr, mk, ln, le, sg, op, od, dp, cl, cs, e, -⟩ := h; rw [e]; first | exact mo_Wn.trans mo_Wn.symm | rfl)) (fun r1 w1 hm1 => ?_)
    obtain ⟨nx1, nu1, wr1, mk1, ln1, le1, sg1, op1, hzz⟩ := hm1
    obtain ⟨od1, dp1, cl1, cs1, rfl, hnx1, hnu1, hmk1, hzz⟩ := hzz
    obtain ⟨hfr1, hcf1, hln1, hkk, hc1⟩ := hzz; rcases hc1 with ⟨rfl, rfl, hcs, hRv, hX1⟩ | ⟨rfl, hwr1, hX1⟩
    · skip
      refine ev_if_ne_t (tgt := 44) de_Mo_rule_33 (by decide) (by decide) (by decide) ?_
      refine ev_aload_n de_Mo_rule_44 rfl rfl ?_
      refine ev_dup de_Mo_rule_45 rfl ?_
      refine ev_getfield de_Mo_rule_46 rfl fl_Mo_266 rfl ?_
      refine ev_iconst de_Mo_rule_49 ?_
      refine ev_iadd de_Mo_rule_50 ?_
      refine ev_putfield de_Mo_rule_51 rfl (fp_Mo_266 _) (Nat.le_of_ble_eq_true rfl) trivial ?_
      refine ev_world (w' := mo_W _ _ _ _ _ _ _ _ _ _ _ _ _ _ _ _ _ _ _ _ _ _ _ _ _ _ _ _ _ _ _ _ _ _ _ _ _) rfl ?_
      refine ev_aload_n de_Mo_rule_54 rfl rfl ?_
      refine ev_getfield de_Mo_rule_55 rfl fl_Mo_266 rfl ?_
      refine ev_iconst de_Mo_rule_58 ?_
      refine ev_isub de_Mo_rule_59 ?_
      refine ev_top (congrArg Sum.inl (Int.add_sub_cancel rules 1)) ?_
      exact ev_ireturn de_Mo_rule_60 rfl ⟨nx1, nu1, 0, mk1, ln1, le1, sg1, op1, od1, dp1, cl1, cs1, hnx1, hnu1, hmk1, hfr1, hcf1, hln1, hkk, Or.inl ⟨rfl, rfl, hcs, hRv, hX1⟩⟩
    · skip
      refine ev_if_ne_f (tgt := 44) de_Mo_rule_33 (by decide) (by decide) (by decide) ?_
      refine ev_bipush de_Mo_rule_36 rfl ?_
      refine ev_aload_n de_Mo_rule_38 rfl rfl ?_
      refine ev_getfield de_Mo_rule_39 rfl fl_Mo_84 rfl ?_
      refine ev_isub de_Mo_rule_42 ?_
      exact ev_ireturn de_Mo_rule_43 rfl ⟨_, _, _, _, _, _, _, _, _, _, _, _, hnx1, hnu1, hmk1, hfr1, hcf1, hln1, hkk, Or.inr ⟨rfl, rfl, hwr1, hX1⟩⟩
  · exact absurd h6 (by omega)
set_option maxHeartbeats 4000000 in
set_option maxRecDepth 10000 in
theorem c6_Mo_rule (hr : rules = 6) : ab_Mt g_G g_rs mt_Mo_rule 0 0 0 [ab_R 0] (mo_W tape taped rules sign leng clause clauses read next wrong number text made deep lines opn opened stack top word said xx was undone kept sumOf faced slotAt dayAt row bestRow tMany tMost drawX images imageX isMade) (ab_is (some (ab_I (-1))) (mo_W tape taped rules sign leng clause clauses read next wrong number text made deep lines opn opened stack top word said xx was undone kept sumOf faced slotAt dayAt row bestRow tMany tMost drawX images imageX isMade)) := by
  refine ab_Mt.of rfl (Nat.le_of_ble_eq_true rfl) ?_
  show ab_Ev g_G g_rs mt_Mo_rule _ _ _ 0 [some (ab_R 0)] [] _ _
  refine ev_aload_n de_Mo_rule_0 rfl rfl ?_
  refine ev_getfield de_Mo_rule_1 rfl fl_Mo_266 rfl ?_
  refine ev_bipush de_Mo_rule_4 rfl ?_
  refine ev_icmp_ne (tgt := 11) de_Mo_rule_6 (by decide) (by omega) (by omega) (fun h6 => ?_) (fun h6 => ?_)
  · exact absurd hr h6
  · skip
    refine ev_iconst de_Mo_rule_9 ?_
    exact ev_ireturn de_Mo_rule_10 rfl ⟨rfl, rfl⟩
end MO
