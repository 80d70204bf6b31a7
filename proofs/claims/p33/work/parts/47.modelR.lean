section MO
variable {tape : Int → Int} {taped : Int} {rules : Int} {sign : Int → Int} {leng : Int → Int} {clause : Int → Int} {clauses : Int → Int} {read : Int → Int} {next : Int} {wrong : Int} {number : Int} {text : Int} {made : Int} {deep : Int} {lines : Int} {opn : Int → Int} {opened : Int} {stack : Int → Int64} {top : Int} {word : Int → Int64} {said : Int → Int} {xx : Int} {was : Int → Int} {undone : Int} {kept : Int → Int} {sumOf : Int → Int} {faced : Int → Int} {slotAt : Int → Int} {dayAt : Int → Int} {row : Int → Int} {bestRow : Int → Int} {tMany : Int} {tMost : Int} {drawX : Int64} {images : Int → Int} {imageX : Int → Int} {isMade : Int → Int}
/-! a text is gone along -/
theorem rs_num_q {tape : Int → Int} {taped lo hi nx a b : Int} (hn : nx ≤ taped) (h : rs_num tape taped lo hi nx = .ok (a, b)) : a ≤ taped := by
  have hb := tk_sk_b tape hn
  unfold rs_num at h
  split at h
  · split at h
    · cases h; exact (tk_to_b (tk_dg tape taped) hb.2).2
    · exact nomatch h
  · exact nomatch h
theorem rs_val_p {tape : Int → Int} {taped t nx mk : Int} {le sg : Int → Int} {z : pz} (hn : nx ≤ taped) (e : rs_val tape taped t nx mk le sg = .ok z) : nx < z.1 ∧ z.1 ≤ taped := by
  have hb := tk_sk_b tape hn
  unfold rs_val at e
  split at e
  · split at e
    · exact nomatch e
    · rename_i n1 v hq
      split at e
      · exact nomatch e
      · cases e
        have q := rs_num_p hq
        rw [tk_sk_sk tape taped nx hn] at q
        exact ⟨by show nx < n1; omega, rs_num_q hb.2 hq⟩
  · split at e
    · exact nomatch e
    · split at e
      · exact nomatch e
      · cases e
        have hw2 := rs_word_b tape taped (tk_sk tape taped nx)
        have hl := tk_le_b tape hb.2
        exact ⟨by show nx < tk_le tape taped (tk_sk tape taped nx); omega, hl.2⟩
theorem rs_tl_p {tape : Int → Int} {taped t : Int} : ∀ (n : Nat) {nx md : Int} {le sg : Int → Int} {z : pz}, nx ≤ taped → rs_tl tape taped t n nx md le sg = .ok z → nx ≤ z.1 ∧ z.1 ≤ taped
  | 0, _, _, _, _, _, _, e => nomatch e
  | n + 1, nx, md, le, sg, z, hn, e => by
    have hb := tk_sk_b tape hn
    unfold rs_tl at e
    split at e
    · rename_i hop
      have hlt : tk_sk tape taped nx < taped := Decidable.byContradiction (fun z => by unfold tk_ch at hop; rw [if_neg z] at hop; omega)
      split at e
      · exact nomatch e
      · rename_i n1 mk1 le1 sg1 h1
        have q1 := rs_val_p (by omega) h1
        have q2 := rs_tl_p n q1.2 e
        exact ⟨by have a1 : _ < n1 := q1.1; have a2 : n1 ≤ _ := q2.1; omega, q2.2⟩
    · cases e
      exact ⟨hb.1, hb.2⟩
theorem rs_term_p {tape : Int → Int} {taped t nx md : Int} {le sg : Int → Int} {z : pz} (hn : nx ≤ taped) (e : rs_term tape taped t nx md le sg = .ok z) : nx < z.1 ∧ z.1 ≤ taped := by
  unfold rs_term at e
  split at e
  · exact nomatch e
  · rename_i n1 mk1 le1 sg1 h1
    have q1 := rs_val_p hn h1
    have q2 := rs_tl_p 401 q1.2 e
    exact ⟨by have a1 : _ < n1 := q1.1; have a2 : n1 ≤ _ := q2.1; omega, q2.2⟩
theorem rs_sl_p {tape : Int → Int} {taped t : Int} : ∀ (n : Nat) {nx md : Int} {le sg : Int → Int} {z : pz}, nx ≤ taped → rs_sl tape taped t n nx md le sg = .ok z → nx ≤ z.1 ∧ z.1 ≤ taped
  | 0, _, _, _, _, _, _, e => nomatch e
  | n + 1, nx, md, le, sg, z, hn, e => by
    have hb := tk_sk_b tape hn
    unfold rs_sl at e
    split at e
    · rename_i hop
      have hlt : tk_sk tape taped nx < taped := Decidable.byContradiction (fun z => by unfold tk_ch at hop; rw [if_neg z] at hop; omega)
      split at e
      · exact nomatch e
      · rename_i n1 mk1 le1 sg1 h1
        have q1 := rs_term_p (by omega) h1
        have q2 := rs_sl_p n q1.2 e
        exact ⟨by have a1 : _ < n1 := q1.1; have a2 : n1 ≤ _ := q2.1; omega, q2.2⟩
    · cases e
      exact ⟨hb.1, hb.2⟩
theorem rs_sum_p {tape : Int → Int} {taped t nx md : Int} {le sg : Int → Int} {z : pz} (hn : nx ≤ taped) (e : rs_sum tape taped t nx md le sg = .ok z) : nx < z.1 ∧ z.1 ≤ taped := by
  unfold rs_sum at e
  split at e
  · exact nomatch e
  · rename_i n1 mk1 le1 sg1 h1
    have q1 := rs_term_p hn h1
    have q2 := rs_sl_p 401 q1.2 e
    exact ⟨by have a1 : _ < n1 := q1.1; have a2 : n1 ≤ _ := q2.1; omega, q2.2⟩
theorem rs_cmp_p {tape : Int → Int} {taped t nx md : Int} {le sg : Int → Int} {z : pz} (hn : nx ≤ taped) (e : rs_cmp tape taped t nx md le sg = .ok z) : nx < z.1 ∧ z.1 ≤ taped := by
  unfold rs_cmp at e
  split at e
  · exact nomatch e
  · rename_i n1 md1 le1 sg1 h1
    have q1 := rs_sum_p hn h1
    have hb := tk_sk_b tape q1.2
    split at e
    · rename_i hop
      have hlt : tk_sk tape taped n1 < taped := Decidable.byContradiction (fun z => by unfold tk_ch at hop; rw [if_neg z] at hop; omega)
      have ha : rs_also tape taped (tk_sk tape taped n1) = 0 ∨ (rs_also tape taped (tk_sk tape taped n1) = 1 ∧ tk_sk tape taped n1 + 1 < taped) := by
        unfold rs_also
        split
        · rename_i hh; exact Or.inr ⟨rfl, hh.2.1⟩
        · exact Or.inl rfl
      unfold rs_c2 at e
      split at e
      · exact nomatch e
      · unfold rs_c3 at e
        split at e
        · exact nomatch e
        · rename_i n2 md2 le2 sg2 h2
          cases e
          have q2 := rs_sum_p (by omega) h2
          have q3 : n1 ≤ tk_sk tape taped n1 := hb.1
          have q4 : nx < n1 := q1.1
          exact ⟨by show nx < n2; have : _ < n2 := q2.1; omega, q2.2⟩
    · exact nomatch e
theorem rs_fact_p {tape : Int → Int} {taped t : Int} : ∀ (n : Nat) {nx md : Int} {le sg : Int → Int} {K : List Int} {z : pk}, nx ≤ taped → rs_fact tape taped t n nx md le sg K = .ok z → nx < z.1 ∧ z.1 ≤ taped
  | 0, _, _, _, _, _, _, _, e => nomatch e
  | n + 1, nx, md, le, sg, K, z, hn, e => by
    have hb := tk_sk_b tape hn
    have hl := tk_le_b tape hb.2
    unfold rs_fact at e
    split at e
    · rename_i h1
      have hp := tk_isI_p h1
      split at e
      · exact nomatch e
      · have q := rs_fact_p n hl.2 e
        exact ⟨by have := q.1; omega, q.2⟩
    · split at e
      · rename_i h1
        have hlt : tk_sk tape taped nx < taped := Decidable.byContradiction (fun z => by unfold tk_ch at h1; rw [if_neg z] at h1; omega)
        split at e
        · exact nomatch e
        · have q := rs_fact_p n (by omega) e
          exact ⟨by have := q.1; omega, q.2⟩
      · split at e
        · exact nomatch e
        · rename_i h2
          cases e
          have q := rs_cmp_p hb.2 h2
          exact ⟨by have q1 := q.1; dsimp only at q1 ⊢; omega, q.2⟩
/-! a TEST -/
theorem rs_cl_ok {tape : Int → Int} {taped t : Int} {opn : Int → Int} : ∀ (n : Nat) (nx : Int) (le sg : Int → Int) (K : List Int), 0 ≤ nx → nx ≤ taped → taped ≤ 400 → st_ok opn K → st_el K → 0 ≤ le t → le t + (K.length : Int) - nx ≤ 0 →
    st_ok opn (rs_cl tape taped t n nx le sg K).2.2.2 ∧ st_el (rs_cl tape taped t n nx le sg K).2.2.2 ∧ le t ≤ (rs_cl tape taped t n nx le sg K).2.1 t ∧ (rs_cl tape taped t n nx le sg K).2.1 t + ((rs_cl tape taped t n nx le sg K).2.2.2.length : Int) - (rs_cl tape taped t n nx le sg K).1 ≤ le t + (K.length : Int) - nx ∧ nx ≤ (rs_cl tape taped t n nx le sg K).1 ∧ (rs_cl tape taped t n nx le sg K).1 ≤ taped ∧ dc (rs_cl tape taped t n nx le sg K).2.2.2 ≤ dc K ∧ ∀ s0, sg_fr t s0 sg → sg_fr t s0 (rs_cl tape taped t n nx le sg K).2.2.1
  | 0, nx, le, sg, K, h0, h1, _, q1, q2, q3, q4 => ⟨q1, q2, Int.le_refl _, Int.le_refl _, Int.le_refl _, h1, Int.le_refl _, fun _ h => h⟩
  | n + 1, nx, le, sg, K, h0, h1, h400, q1, q2, q3, q4 => by
    have hb := tk_sk_b tape h1
    unfold rs_cl
    split
    · rename_i hc
      have hlt : tk_sk tape taped nx < taped := Decidable.byContradiction (fun z => by have q := hc.1; unfold tk_ch at q; rw [if_neg z] at q; omega)
      obtain ⟨K2, eK⟩ := rs_set_91 (t := t) K le sg q2 hc.2
      have z1 := rs_set_ok (t := t) (least := 1) K le sg q1 q2
      have z2 := rs_set_n (t := t) (least := 1) K le sg
      have zd := rs_set_dc (t := t) (least := 1) K le sg
      have zf := fun s0 (h : sg_fr t s0 sg) => rs_set_fr (t := t) (least := 1) K le sg q3 (by omega) h
      rw [eK] at z1 z2 zd
      rw [dc_91] at zd
      have eL : ((91 :: K2).length : Int) = (K2.length : Int) + 1 := rfl
      rw [eL] at z2
      rw [eK, List.tail_cons]
      have z3 := rs_set_ok (t := t) (least := 3) K2 (rs_set t 1 K le sg).2.1 (rs_set t 1 K le sg).2.2 z1.1.2 z1.2.1.2
      have z4 := rs_set_n (t := t) (least := 3) K2 (rs_set t 1 K le sg).2.1 (rs_set t 1 K le sg).2.2
      have z5 := rs_set_dc (t := t) (least := 3) K2 (rs_set t 1 K le sg).2.1 (rs_set t 1 K le sg).2.2
      have z6 := fun s0 (h : sg_fr t s0 (rs_set t 1 K le sg).2.2) => rs_set_fr (t := t) (least := 3) K2 (rs_set t 1 K le sg).2.1 (rs_set t 1 K le sg).2.2 (by omega) (by omega) h
      have ih := rs_cl_ok (tape := tape) (taped := taped) (t := t) (opn := opn) n (tk_sk tape taped nx + 1) (rs_set t 3 K2 (rs_set t 1 K le sg).2.1 (rs_set t 1 K le sg).2.2).2.1 (rs_set t 3 K2 (rs_set t 1 K le sg).2.1 (rs_set t 1 K le sg).2.2).2.2 (rs_set t 3 K2 (rs_set t 1 K le sg).2.1 (rs_set t 1 K le sg).2.2).1 (by omega) (by omega) h400 z3.1 z3.2.1 (by omega) (by omega)
      refine ⟨ih.1, ih.2.1, ?_, ?_, ?_, ih.2.2.2.2.2.1, ?_, fun s0 h => ih.2.2.2.2.2.2.2 s0 (z6 s0 (zf s0 h))⟩
      · have := ih.2.2.1; omega
      · have := ih.2.2.2.1; omega
      · have := ih.2.2.2.2.1; omega
      · have := ih.2.2.2.2.2.2.1; omega
    · exact ⟨q1, q2, Int.le_refl _, by show le t + (K.length : Int) - tk_sk tape taped nx ≤ _; omega, hb.1, hb.2, Int.le_refl _, fun _ h => h⟩
theorem rs_close_ok {tape : Int → Int} {taped t nx : Int} {opn le sg : Int → Int} {K : List Int} (h0 : 0 ≤ nx) (h1 : nx ≤ taped) (h400 : taped ≤ 400) (q1 : st_ok opn K) (q2 : st_el K) (q3 : 0 ≤ le t) (q4 : le t + (K.length : Int) - nx ≤ 0) :
    st_ok opn (rs_close tape taped t nx le sg K).2.2.2 ∧ st_el (rs_close tape taped t nx le sg K).2.2.2 ∧ le t ≤ (rs_close tape taped t nx le sg K).2.1 t ∧ (rs_close tape taped t nx le sg K).2.1 t + ((rs_close tape taped t nx le sg K).2.2.2.length : Int) - (rs_close tape taped t nx le sg K).1 ≤ le t + (K.length : Int) - nx ∧ nx ≤ (rs_close tape taped t nx le sg K).1 ∧ (rs_close tape taped t nx le sg K).1 ≤ taped ∧ dc (rs_close tape taped t nx le sg K).2.2.2 ≤ dc K ∧ ∀ s0, sg_fr t s0 sg → sg_fr t s0 (rs_close tape taped t nx le sg K).2.2.1 := by
  have z1 := rs_set_ok (t := t) (least := 3) K le sg q1 q2
  have z2 := rs_set_n (t := t) (least := 3) K le sg
  have zd := rs_set_dc (t := t) (least := 3) K le sg
  have zf := fun s0 (h : sg_fr t s0 sg) => rs_set_fr (t := t) (least := 3) K le sg q3 (by omega) h
  have ih := rs_cl_ok (tape := tape) (t := t) (opn := opn) 401 nx (rs_set t 3 K le sg).2.1 (rs_set t 3 K le sg).2.2 (rs_set t 3 K le sg).1 h0 h1 h400 z1.1 z1.2.1 (by omega) (by omega)
  refine ⟨ih.1, ih.2.1, ?_, ?_, ih.2.2.2.2.1, ih.2.2.2.2.2.1, ?_, fun s0 h => ih.2.2.2.2.2.2.2 s0 (zf s0 h)⟩
  · have := ih.2.2.1; unfold rs_close; omega
  · have := ih.2.2.2.1; unfold rs_close; omega
  · have := ih.2.2.2.2.2.2.1; unfold rs_close; omega
def rs_op (tape : Int → Int) (taped nx : Int) : Int := if tk_isI tape taped (nx) (Int64.ofInt 6385252) = 1 then 12 else 13
def rs_tst (tape : Int → Int) (taped t : Int) : Nat → Int → Int → (Int → Int) → (Int → Int) → List Int → Except Int pz
  | 0, _, _, _, _, _ => .error 0
  | n + 1, nx, md, le, sg, K => match rs_fact tape taped t 11 nx md le sg K with
    | .error e => .error e
    | .ok (n1, md1, le1, sg1, K1) => if tk_isI tape taped ((rs_close tape taped t n1 le1 sg1 K1).1) (Int64.ofInt 6385252) = 1 ∨ tk_isI tape taped ((rs_close tape taped t n1 le1 sg1 K1).1) (Int64.ofInt 28530) = 1 then rs_tst tape taped t n (tk_le tape taped (rs_close tape taped t n1 le1 sg1 K1).1) md1 (rs_set t (rs_str (rs_op tape taped (rs_close tape taped t n1 le1 sg1 K1).1)) (rs_close tape taped t n1 le1 sg1 K1).2.2.2 (rs_close tape taped t n1 le1 sg1 K1).2.1 (rs_close tape taped t n1 le1 sg1 K1).2.2.1).2.1 (rs_set t (rs_str (rs_op tape taped (rs_close tape taped t n1 le1 sg1 K1).1)) (rs_close tape taped t n1 le1 sg1 K1).2.2.2 (rs_close tape taped t n1 le1 sg1 K1).2.1 (rs_close tape taped t n1 le1 sg1 K1).2.2.1).2.2 (rs_op tape taped (rs_close tape taped t n1 le1 sg1 K1).1 :: (rs_set t (rs_str (rs_op tape taped (rs_close tape taped t n1 le1 sg1 K1).1)) (rs_close tape taped t n1 le1 sg1 K1).2.2.2 (rs_close tape taped t n1 le1 sg1 K1).2.1 (rs_close tape taped t n1 le1 sg1 K1).2.2.1).1)
      else if (91 : Int) ∈ (rs_close tape taped t n1 le1 sg1 K1).2.2.2 then .error (1 + 8 * (rs_close tape taped t n1 le1 sg1 K1).1 + 0) else .ok ((rs_close tape taped t n1 le1 sg1 K1).1, md1, (rs_set t 1 (rs_close tape taped t n1 le1 sg1 K1).2.2.2 (rs_close tape taped t n1 le1 sg1 K1).2.1 (rs_close tape taped t n1 le1 sg1 K1).2.2.1).2.1, (rs_set t 1 (rs_close tape taped t n1 le1 sg1 K1).2.2.2 (rs_close tape taped t n1 le1 sg1 K1).2.1 (rs_close tape taped t n1 le1 sg1 K1).2.2.1).2.2)
def pt (tape : Int → Int) (taped : Int) (rules : Int) (clause : Int → Int) (clauses : Int → Int) (read : Int → Int) (text : Int) (lines : Int) (stack : Int → Int64) (top : Int) (word : Int → Int64) (said : Int → Int) (xx : Int) (was : Int → Int) (undone : Int) (kept : Int → Int) (sumOf : Int → Int) (faced : Int → Int) (slotAt : Int → Int) (dayAt : Int → Int) (row : Int → Int) (bestRow : Int → Int) (tMany : Int) (tMost : Int) (drawX : Int64) (images : Int → Int) (imageX : Int → Int) (isMade : Int → Int) (c b0 : Int) (s0 : Int → Int) (X : Except Int pz) : Option ab_V → ab_W → Prop := fun r w2 => ∃ (nx nu wr mk : Int) (le sg op : Int → Int) (od dp : Int), w2 = (mo_W tape taped rules (sg) (le) clause clauses read (nx) (wr) (nu) text (mk) (dp) lines (op) (od) stack top word said xx was undone kept sumOf faced slotAt dayAt row bestRow tMany tMost drawX images imageX isMade) ∧ (0 ≤ nx ∧ nx ≤ taped) ∧ ab_in nu ∧ (0 ≤ mk ∧ mk ≤ 60) ∧ sg_fr text s0 sg ∧ ((r = some (ab_I 1) ∧ wr = 0 ∧ (b0 ≤ le text ∧ le text - nx ≤ c) ∧ X = .ok (nx, mk, le, sg)) ∨ (r = some (ab_I 0) ∧ (1 ≤ wr ∧ wr ≤ 10000) ∧ X = .error wr))
theorem de_Mo_tested_0 : decode prog_14_method_29_code 0 = .ok (.aload_n 0, 1) := by decide +kernel
theorem de_Mo_tested_1 : decode prog_14_method_29_code 1 = .ok (.iconst 0, 1) := by decide +kernel
theorem de_Mo_tested_2 : decode prog_14_method_29_code 2 = .ok (.putfield 152, 3) := by decide +kernel
theorem de_Mo_tested_5 : decode prog_14_method_29_code 5 = .ok (.aload_n 0, 1) := by decide +kernel
theorem de_Mo_tested_6 : decode prog_14_method_29_code 6 = .ok (.iconst 0, 1) := by decide +kernel
theorem de_Mo_tested_7 : decode prog_14_method_29_code 7 = .ok (.putfield 149, 3) := by decide +kernel
theorem de_Mo_tested_10 : decode prog_14_method_29_code 10 = .ok (.iconst 1, 1) := by decide +kernel
theorem de_Mo_tested_11 : decode prog_14_method_29_code 11 = .ok (.istore_n 1, 1) := by decide +kernel
theorem de_Mo_tested_12 : decode prog_14_method_29_code 12 = .ok (.iload_n 1, 1) := by decide +kernel
theorem de_Mo_tested_13 : decode prog_14_method_29_code 13 = .ok (.ifCond .eq 99, 3) := by decide +kernel
theorem de_Mo_tested_16 : decode prog_14_method_29_code 16 = .ok (.aload_n 0, 1) := by decide +kernel
theorem de_Mo_tested_17 : decode prog_14_method_29_code 17 = .ok (.invokevirtual 197, 3) := by decide +kernel
theorem de_Mo_tested_20 : decode prog_14_method_29_code 20 = .ok (.ifCond .ne 5, 3) := by decide +kernel
theorem de_Mo_tested_23 : decode prog_14_method_29_code 23 = .ok (.iconst 0, 1) := by decide +kernel
theorem de_Mo_tested_24 : decode prog_14_method_29_code 24 = .ok (.ireturn, 1) := by decide +kernel
theorem de_Mo_tested_25 : decode prog_14_method_29_code 25 = .ok (.aload_n 0, 1) := by decide +kernel
theorem de_Mo_tested_26 : decode prog_14_method_29_code 26 = .ok (.invokevirtual 200, 3) := by decide +kernel
theorem de_Mo_tested_29 : decode prog_14_method_29_code 29 = .ok (.aload_n 0, 1) := by decide +kernel
theorem de_Mo_tested_30 : decode prog_14_method_29_code 30 = .ok (.ldc2_w 203, 3) := by decide +kernel
theorem de_Mo_tested_33 : decode prog_14_method_29_code 33 = .ok (.invokevirtual 98, 3) := by decide +kernel
theorem de_Mo_tested_36 : decode prog_14_method_29_code 36 = .ok (.ifCond .ne 13, 3) := by decide +kernel
theorem de_Mo_tested_39 : decode prog_14_method_29_code 39 = .ok (.aload_n 0, 1) := by decide +kernel
theorem de_Mo_tested_40 : decode prog_14_method_29_code 40 = .ok (.ldc2_w 205, 3) := by decide +kernel
theorem de_Mo_tested_43 : decode prog_14_method_29_code 43 = .ok (.invokevirtual 98, 3) := by decide +kernel
theorem de_Mo_tested_46 : decode prog_14_method_29_code 46 = .ok (.ifCond .eq 7, 3) := by decide +kernel
theorem de_Mo_tested_49 : decode prog_14_method_29_code 49 = .ok (.iconst 1, 1) := by decide +kernel
theorem de_Mo_tested_50 : decode prog_14_method_29_code 50 = .ok (.goto 4, 3) := by decide +kernel
theorem de_Mo_tested_53 : decode prog_14_method_29_code 53 = .ok (.iconst 0, 1) := by decide +kernel
theorem de_Mo_tested_54 : decode prog_14_method_29_code 54 = .ok (.istore_n 1, 1) := by decide +kernel
theorem de_Mo_tested_55 : decode prog_14_method_29_code 55 = .ok (.iload_n 1, 1) := by decide +kernel
theorem de_Mo_tested_56 : decode prog_14_method_29_code 56 = .ok (.ifCond .eq (-44), 3) := by decide +kernel
theorem de_Mo_tested_59 : decode prog_14_method_29_code 59 = .ok (.aload_n 0, 1) := by decide +kernel
theorem de_Mo_tested_60 : decode prog_14_method_29_code 60 = .ok (.ldc2_w 203, 3) := by decide +kernel
theorem de_Mo_tested_63 : decode prog_14_method_29_code 63 = .ok (.invokevirtual 98, 3) := by decide +kernel
theorem de_Mo_tested_66 : decode prog_14_method_29_code 66 = .ok (.ifCond .eq 8, 3) := by decide +kernel
theorem de_Mo_tested_69 : decode prog_14_method_29_code 69 = .ok (.bipush 12, 2) := by decide +kernel
theorem de_Mo_tested_71 : decode prog_14_method_29_code 71 = .ok (.goto 5, 3) := by decide +kernel
theorem de_Mo_tested_74 : decode prog_14_method_29_code 74 = .ok (.bipush 13, 2) := by decide +kernel
theorem de_Mo_tested_76 : decode prog_14_method_29_code 76 = .ok (.istore_n 2, 1) := by decide +kernel
theorem de_Mo_tested_77 : decode prog_14_method_29_code 77 = .ok (.aload_n 0, 1) := by decide +kernel
theorem de_Mo_tested_78 : decode prog_14_method_29_code 78 = .ok (.invokevirtual 102, 3) := by decide +kernel
theorem de_Mo_tested_81 : decode prog_14_method_29_code 81 = .ok (.aload_n 0, 1) := by decide +kernel
theorem de_Mo_tested_82 : decode prog_14_method_29_code 82 = .ok (.iload_n 2, 1) := by decide +kernel
theorem de_Mo_tested_83 : decode prog_14_method_29_code 83 = .ok (.invokestatic 155, 3) := by decide +kernel
theorem de_Mo_tested_86 : decode prog_14_method_29_code 86 = .ok (.invokevirtual 191, 3) := by decide +kernel
theorem de_Mo_tested_89 : decode prog_14_method_29_code 89 = .ok (.aload_n 0, 1) := by decide +kernel
theorem de_Mo_tested_90 : decode prog_14_method_29_code 90 = .ok (.getfield 29, 3) := by decide +kernel
theorem de_Mo_tested_93 : decode prog_14_method_29_code 93 = .ok (.aload_n 0, 1) := by decide +kernel
theorem de_Mo_tested_94 : decode prog_14_method_29_code 94 = .ok (.getfield 152, 3) := by decide +kernel
theorem de_Mo_tested_97 : decode prog_14_method_29_code 97 = .ok (.iload_n 2, 1) := by decide +kernel
theorem de_Mo_tested_98 : decode prog_14_method_29_code 98 = .ok (.iastore, 1) := by decide +kernel
theorem de_Mo_tested_99 : decode prog_14_method_29_code 99 = .ok (.aload_n 0, 1) := by decide +kernel
theorem de_Mo_tested_100 : decode prog_14_method_29_code 100 = .ok (.dup, 1) := by decide +kernel
theorem de_Mo_tested_101 : decode prog_14_method_29_code 101 = .ok (.getfield 152, 3) := by decide +kernel
theorem de_Mo_tested_104 : decode prog_14_method_29_code 104 = .ok (.iconst 1, 1) := by decide +kernel
theorem de_Mo_tested_105 : decode prog_14_method_29_code 105 = .ok (.iadd, 1) := by decide +kernel
theorem de_Mo_tested_106 : decode prog_14_method_29_code 106 = .ok (.putfield 152, 3) := by decide +kernel
theorem de_Mo_tested_109 : decode prog_14_method_29_code 109 = .ok (.goto (-97), 3) := by decide +kernel
theorem de_Mo_tested_112 : decode prog_14_method_29_code 112 = .ok (.aload_n 0, 1) := by decide +kernel
theorem de_Mo_tested_113 : decode prog_14_method_29_code 113 = .ok (.invokevirtual 194, 3) := by decide +kernel
theorem de_Mo_tested_116 : decode prog_14_method_29_code 116 = .ok (.ifCond .eq 18, 3) := by decide +kernel
theorem de_Mo_tested_119 : decode prog_14_method_29_code 119 = .ok (.aload_n 0, 1) := by decide +kernel
theorem de_Mo_tested_120 : decode prog_14_method_29_code 120 = .ok (.invokevirtual 90, 3) := by decide +kernel
theorem de_Mo_tested_123 : decode prog_14_method_29_code 123 = .ok (.pop, 1) := by decide +kernel
theorem de_Mo_tested_124 : decode prog_14_method_29_code 124 = .ok (.aload_n 0, 1) := by decide +kernel
theorem de_Mo_tested_125 : decode prog_14_method_29_code 125 = .ok (.iconst 0, 1) := by decide +kernel
theorem de_Mo_tested_126 : decode prog_14_method_29_code 126 = .ok (.aload_n 0, 1) := by decide +kernel
theorem de_Mo_tested_127 : decode prog_14_method_29_code 127 = .ok (.getfield 87, 3) := by decide +kernel
theorem de_Mo_tested_130 : decode prog_14_method_29_code 130 = .ok (.invokevirtual 108, 3) := by decide +kernel
theorem de_Mo_tested_133 : decode prog_14_method_29_code 133 = .ok (.ireturn, 1) := by decide +kernel
theorem de_Mo_tested_134 : decode prog_14_method_29_code 134 = .ok (.aload_n 0, 1) := by decide +kernel
theorem de_Mo_tested_135 : decode prog_14_method_29_code 135 = .ok (.iconst 1, 1) := by decide +kernel
theorem de_Mo_tested_136 : decode prog_14_method_29_code 136 = .ok (.invokevirtual 191, 3) := by decide +kernel
theorem de_Mo_tested_139 : decode prog_14_method_29_code 139 = .ok (.iconst 1, 1) := by decide +kernel
theorem de_Mo_tested_140 : decode prog_14_method_29_code 140 = .ok (.ireturn, 1) := by decide +kernel
def rs_te (t nx md : Int) (le sg : Int → Int) (K : List Int) : Except Int pz := if (91 : Int) ∈ K then .error (1 + 8 * nx + 0) else .ok (nx, md, (rs_set t 1 K le sg).2.1, (rs_set t 1 K le sg).2.2)
theorem rs_set_nil {t : Int} : ∀ (K : List Int) (le sg : Int → Int), st_el K → ¬ (91 : Int) ∈ K → (rs_set t 1 K le sg).1 = []
  | [], _, _, _, _ => rfl
  | s :: K, le, sg, h, hm => by
    unfold rs_set
    have c : s ≠ 91 := fun z => hm (by rw [z]; exact List.mem_cons_self)
    have c1 : 1 ≤ rs_str s := by unfold rs_str; rcases h.1 with z | z | z | z <;> (subst z; first | decide | exact absurd rfl c)
    rw [if_pos c1]
    exact rs_set_nil K _ _ h.2 (fun z => hm (List.mem_cons_of_mem _ z))
set_option maxHeartbeats 4000000 in
set_option maxRecDepth 10000 in
theorem lz_Mo_tested (y x : Option ab_V) (K : List Int) (ht : tp_ok tape taped) (hn0 : 0 ≤ next) (hn1 : next ≤ taped) (hsk : tk_sk tape taped next = next) (tx0 : 0 ≤ text) (tx1 : text ≤ 5) (b0 : Int) (hb0 : 0 ≤ b0) (c : Int) (hc : c ≤ 0) (s0 : Int → Int) (hnu : ab_in number) (hm0 : 0 ≤ made) (hm1 : made ≤ 60) (hl0 : b0 ≤ leng text) (hs : sg_fr text s0 sign) (q1 : st_ok opn K) (q2 : st_el K) (q4 : leng text + (K.length : Int) - next ≤ c) : ab_Ev g_G g_rs mt_Mo_tested 8 0 0 112 [some (ab_R 0), y, x] [] (mo_W tape taped rules sign leng clause clauses read next (0) number text made (dc K) lines opn ((K.length : Int)) stack top word said xx was undone kept sumOf faced slotAt dayAt row bestRow tMany tMost drawX images imageX isMade) (pt tape taped rules clause clauses read text lines stack top word said xx was undone kept sumOf faced slotAt dayAt row bestRow tMany tMost drawX images imageX isMade c b0 s0 (rs_te text next made leng sign K)) := by
  have p1 := ht.2.1
  have ef : tk_fl 0 0 next = 1 + 8 * next + 0 := rfl
  refine ev_aload_n de_Mo_tested_112 rfl rfl ?_
  refine ev_vv (ci := 11) de_Mo_tested_113 (co_Mo_isInside K (by omega) q1 q2) kb_Mo_194 ⟨im_Mo_isInside, se_Mo_isInside⟩ rfl rfl rfl (Nat.le_of_ble_eq_true rfl) (by decide) rfl ?_
  refine ev_if_eq (tgt := 134) de_Mo_tested_116 (by decide) (by unfold st_in; split <;> decide) (fun h116 => ?_) (fun h116 => ?_)
  · skip
    have hin : ¬ (91 : Int) ∈ K := fun z => by unfold st_in at h116; rw [if_pos z] at h116; exact absurd h116 (by decide)
    have z1 := rs_set_nil (t := text) K leng sign q2 hin
    have z2 := rs_set_n (t := text) (least := 1) K leng sign
    have z4 := rs_set_fr (t := text) (least := 1) (s0 := s0) K leng sign (by omega) (by omega) hs
    rw [z1] at z2
    have z3 : (([] : List Int).length : Int) = 0 := rfl
    rw [z3] at z2
    refine ev_aload_n de_Mo_tested_134 rfl rfl ?_
    refine ev_iconst de_Mo_tested_135 ?_
    refine ev_vn (ci := 11) de_Mo_tested_136 (co_Mo_settles tx0 tx1 1 (by decide) (by decide) K q1 q2 (by omega) (by omega)) kb_Mo_191 ⟨im_Mo_settles, se_Mo_settles⟩ rfl rfl rfl (Nat.le_of_ble_eq_true rfl) (by decide) rfl ?_
    refine ev_iconst de_Mo_tested_139 ?_
    exact ev_zreturn de_Mo_tested_140 rfl (by decide) ⟨_, _, _, _, _, _, _, _, _, rfl, ⟨hn0, hn1⟩, hnu, ⟨hm0, hm1⟩, z4, Or.inl ⟨rfl, rfl, ⟨by omega, by omega⟩, by unfold rs_te; rw [if_neg hin]⟩⟩
  · skip
    have hin : (91 : Int) ∈ K := Decidable.byContradiction (fun z => by unfold st_in at h116; rw [if_neg z] at h116; exact h116 rfl)
    refine ev_aload_n de_Mo_tested_119 rfl rfl ?_
    refine ev_vv (ci := 11) de_Mo_tested_120 (cs_Mo_see ht hn0 hn1 hsk) kb_Mo_90 ⟨im_Mo_see, se_Mo_see⟩ rfl rfl rfl (Nat.le_of_ble_eq_true rfl) (by decide) rfl ?_
    refine ev_pop de_Mo_tested_123 rfl ?_
    refine ev_aload_n de_Mo_tested_124 rfl rfl ?_
    refine ev_iconst de_Mo_tested_125 ?_
    refine ev_aload_n de_Mo_tested_126 rfl rfl ?_
    refine ev_getfield de_Mo_tested_127 rfl fl_Mo_87 rfl ?_
    refine ev_vv (ci := 11) de_Mo_tested_130 (co_Mo_fails 0 next (by decide)) kb_Mo_108 ⟨im_Mo_fails, se_Mo_fails⟩ rfl rfl rfl (Nat.le_of_ble_eq_true rfl) (by decide) rfl ?_
    exact ev_zreturn de_Mo_tested_133 rfl (by decide) ⟨_, _, _, _, _, _, _, _, _, rfl, ⟨hn0, hn1⟩, hnu, ⟨hm0, hm1⟩, hs, Or.inr ⟨rfl, by rw [ef]; omega, by unfold rs_te; rw [if_pos hin]; rfl⟩⟩
set_option maxHeartbeats 4000000 in
set_option maxRecDepth 10000 in
theorem ls_Mo_tested {Q : Option ab_V → ab_W → Prop} (s : Int) (hs : s = 12 ∨ s = 13) (x : Option ab_V) (K : List Int) (ht : tp_ok tape taped) (hn0 : 0 ≤ next) (hn1 : next ≤ taped) (tx0 : 0 ≤ text) (tx1 : text ≤ 5) (q1 : st_ok opn K) (q2 : st_el K) (h0 : 0 ≤ leng text) (q4 : leng text + (K.length : Int) - next ≤ 0) (hlt : next < tk_le tape taped next) (kk : ab_Ev g_G g_rs mt_Mo_tested 8 0 0 12 [some (ab_R 0), some (ab_I 1), some (ab_I s)] [] (mo_W tape taped rules ((rs_set text (rs_str s) K leng sign).2.2) ((rs_set text (rs_str s) K leng sign).2.1) clause clauses read (tk_le tape taped next) (0) number text made (dc (rs_set text (rs_str s) K leng sign).1) lines (ab_up opn ((rs_set text (rs_str s) K leng sign).1.length : Int) s) (((rs_set text (rs_str s) K leng sign).1.length : Int) + 1) stack top word said xx was undone kept sumOf faced slotAt dayAt row bestRow tMany tMost drawX images imageX isMade) Q) : ab_Ev g_G g_rs mt_Mo_tested 8 0 0 76 [some (ab_R 0), some (ab_I 1), x] [ab_I s] (mo_W tape taped rules sign leng clause clauses read next (0) number text made (dc K) lines opn ((K.length : Int)) stack top word said xx was undone kept sumOf faced slotAt dayAt row bestRow tMany tMost drawX images imageX isMade) Q := by
  have p1 := ht.2.1
  have sb : 1 ≤ rs_str s ∧ rs_str s ≤ 3 := by rcases hs with z | z <;> (subst z; decide)
  have z1 := rs_set_ok (t := text) (least := rs_str s) K leng sign q1 q2
  have z5 : ((rs_set text (rs_str s) K leng sign).1.length : Int) ≤ (K.length : Int) := by have := z1.2.2; omega
  have z2 := rs_set_n (t := text) (least := rs_str s) K leng sign
  have hle := tk_le_b tape hn1
  refine ev_istore_n (l' := [_, _, _]) de_Mo_tested_76 rfl (Nat.le_of_ble_eq_true rfl) rfl ?_
  refine ev_aload_n de_Mo_tested_77 rfl rfl ?_
  refine ev_vn (ci := 11) de_Mo_tested_78 (co_Mo_passWord ht hn0 hn1) kb_Mo_102 ⟨im_Mo_passWord, se_Mo_passWord⟩ rfl rfl rfl (Nat.le_of_ble_eq_true rfl) (by decide) rfl ?_
  refine ev_aload_n de_Mo_tested_81 rfl rfl ?_
  refine ev_iload_n de_Mo_tested_82 rfl rfl ?_
  refine ev_sv de_Mo_tested_83 (cu_Mo_strength _ s (by omega)) kb_Mo_155 sc_Mo_strength rfl (Nat.le_of_ble_eq_true rfl) (by decide) rfl ?_
  refine ev_vn (ci := 11) de_Mo_tested_86 (co_Mo_settles tx0 tx1 (rs_str s) sb.1 sb.2 K q1 q2 h0 (by omega)) kb_Mo_191 ⟨im_Mo_settles, se_Mo_settles⟩ rfl rfl rfl (Nat.le_of_ble_eq_true rfl) (by decide) rfl ?_
  refine ev_aload_n de_Mo_tested_89 rfl rfl ?_
  refine ev_getfield de_Mo_tested_90 rfl fl_Mo_29 rfl ?_
  refine ev_aload_n de_Mo_tested_93 rfl rfl ?_
  refine ev_getfield de_Mo_tested_94 rfl fl_Mo_152 rfl ?_
  refine ev_iload_n de_Mo_tested_97 rfl rfl ?_
  refine ev_iastore de_Mo_tested_98 rfl (by omega) (by omega) (by omega) ?_
  refine ev_world (w' := mo_W _ _ _ _ _ _ _ _ _ _ _ _ _ _ _ _ _ _ _ _ _ _ _ _ _ _ _ _ _ _ _ _ _ _ _ _ _) rfl ?_
  refine ev_aload_n de_Mo_tested_99 rfl rfl ?_
  refine ev_dup de_Mo_tested_100 rfl ?_
  refine ev_getfield de_Mo_tested_101 rfl fl_Mo_152 rfl ?_
  refine ev_iconst de_Mo_tested_104 ?_
  refine ev_iadd de_Mo_tested_105 ?_
  refine ev_putfield de_Mo_tested_106 rfl (fp_Mo_152 _) (Nat.le_of_ble_eq_true rfl) trivial ?_
  refine ev_world (w' := mo_W _ _ _ _ _ _ _ _ _ _ _ _ _ _ _ _ _ _ _ _ _ _ _ _ _ _ _ _ _ _ _ _ _ _ _ _ _) rfl ?_
  refine ev_goto (tgt := 12) de_Mo_tested_109 (by decide) ?_
  exact kk
set_option maxHeartbeats 4000000 in
set_option maxRecDepth 10000 in
theorem lo_Mo_tested (ht : tp_ok tape taped) (tx0 : 0 ≤ text) (tx1 : text ≤ 5) (b0 : Int) (hb0 : 0 ≤ b0) (c : Int) (hc : c ≤ 0) (s0 : Int → Int) : ∀ (n : Nat) (x : Option ab_V) (K : List Int) (next made number : Int) (leng sign opn : Int → Int), 0 ≤ next → next ≤ taped → taped < next + n → ab_in number → 0 ≤ made → made ≤ 60 → b0 ≤ leng text → leng text + (K.length : Int) - next ≤ c → sg_fr text s0 sign → st_ok opn K → st_el K → dc K ≤ 10 → ab_Ev g_G g_rs mt_Mo_tested 8 0 0 12 [some (ab_R 0), some (ab_I 1), x] [] (mo_W tape taped rules sign leng clause clauses read next (0) number text made (dc K) lines opn ((K.length : Int)) stack top word said xx was undone kept sumOf faced slotAt dayAt row bestRow tMany tMost drawX images imageX isMade) (pt tape taped rules clause clauses read text lines stack top word said xx was undone kept sumOf faced slotAt dayAt row bestRow tMany tMost drawX images imageX isMade c b0 s0 (rs_tst tape taped text n next made leng sign K)) := by
  intro n
  induction n with
  | zero =>
    intro x K next made number leng sign opn
    intro hn0 hn1 g hnu hm0 hm1 hl0 q4 hs q1 q2 q3; omega
  | succ n ih =>
    intro x K next made number leng sign opn
    intro hn0 hn1 g hnu hm0 hm1 hl0 q4 hs q1 q2 q3
    have p1 := ht.2.1
    refine ev_iload_n de_Mo_tested_12 rfl rfl ?_
    refine ev_if_eq (tgt := 112) de_Mo_tested_13 (by decide) (by omega) (fun h13 => ?_) (fun h13 => ?_)
    · exact absurd h13 (by decide)
    · skip
      refine ev_aload_n de_Mo_tested_16 rfl rfl ?_
      refine ev_virtual (ci := 11) (mc := 0) (ms := 0) (bc := 0) (bs := 0) de_Mo_tested_17 (co_Mo_fact ht hn0 hn1 tx0 tx1 hnu hm0 hm1 b0 hb0 hl0 c hc s0 hs K q1 q2 q3 q4) kb_Mo_197 ⟨im_Mo_fact, se_Mo_fact⟩ rfl rfl rfl (Nat.le_of_ble_eq_true rfl) (by decide) (Or.inl (fun r w1 h => by obtain ⟨nx, nu, wr, mk, le, sg, op, od, dp, e, -⟩ := h; rw [e]; first | exact mo_Wn.trans mo_Wn.symm | rfl)) (fun r1 w1 hm1 => ?_)
      obtain ⟨nx1, nu1, wr1, mk1, le1, sg1, op1, od1, hzz⟩ := hm1
      obtain ⟨dp1, rfl, hnx1, hnu1, hmk1, hfr1, hc1⟩ := hzz; rcases hc1 with ⟨K1, rfl, rfl, hle1, rfl, rfl, k1, k2, k3, hX1⟩ | ⟨rfl, hwr1, hX1⟩
      · skip
        have hpx : next < nx1 := (rs_fact_p 11 hn1 hX1).1
        refine ev_if_ne_t (tgt := 25) de_Mo_tested_20 (by decide) (by decide) (by decide) ?_
        refine ev_aload_n de_Mo_tested_25 rfl rfl ?_
        refine ev_vn (ci := 11) de_Mo_tested_26 (co_Mo_closes ht hnx1.1 hnx1.2 tx0 tx1 K1 k1 k2 (by omega) (by omega)) kb_Mo_200 ⟨im_Mo_closes, se_Mo_closes⟩ rfl rfl rfl (Nat.le_of_ble_eq_true rfl) (by decide) rfl ?_
        have J := rs_close_ok (tape := tape) (taped := taped) (t := text) (nx := nx1) (opn := op1) (le := le1) (sg := sg1) (K := K1) hnx1.1 hnx1.2 p1 k1 k2 (by omega) (by omega)
        have hsk : tk_sk tape taped (rs_close tape taped text nx1 le1 sg1 K1).1 = (rs_close tape taped text nx1 le1 sg1 K1).1 := tk_sk_fix 401 text nx1 _ _ _ (by omega) hnx1.2
        rcases hCe : (rs_close tape taped text nx1 le1 sg1 K1) with ⟨n2, le2, sg2, K2⟩
        rw [hCe] at J hsk
        obtain ⟨j1, j2, j3, j4, j5, j6, j7, j8⟩ := J
        dsimp only at j1 j2 j3 j4 j5 j6 j7 j8 hsk
        refine ev_world (w' := (mo_W tape taped rules (sg2) (le2) clause clauses read (n2) (0) (nu1) text (mk1) (dc K2) lines (op1) ((K2.length : Int)) stack top word said xx was undone kept sumOf faced slotAt dayAt row bestRow tMany tMost drawX images imageX isMade)) rfl ?_
        have w1 := tk_isI_01 tape taped n2 (Int64.ofInt 6385252)
        have w2 := tk_isI_01 tape taped n2 (Int64.ofInt 28530)
        have hfrC := j8 s0 hfr1
        refine ev_aload_n de_Mo_tested_29 rfl rfl ?_
        refine ev_ldc2i (n := 6385252) de_Mo_tested_30 cn_Mo_203 (by decide) ?_
        refine ev_vv (ci := 11) de_Mo_tested_33 (cs_Mo_isWord ht (by omega) j6 hsk (Int64.ofInt 6385252)) kb_Mo_98 ⟨im_Mo_isWord, se_Mo_isWord⟩ rfl rfl rfl (Nat.le_of_ble_eq_true rfl) (by decide) rfl ?_
        refine ev_if_ne (tgt := 49) de_Mo_tested_36 (by decide) (by omega) (fun h36 => ?_) (fun h36 => ?_)
        · skip
          have hA : tk_isI tape taped (n2) (Int64.ofInt 6385252) = 1 := by omega
          have eo : rs_op tape taped n2 = 12 := if_pos hA
          have hop : tk_isI tape taped (n2) (Int64.ofInt 6385252) = 1 ∨ tk_isI tape taped (n2) (Int64.ofInt 28530) = 1 := by omega
          have hlt : n2 < tk_le tape taped n2 := by rcases hop with z | z <;> exact tk_isI_p z
          have hle := tk_le_b tape j6
          have z1 := rs_set_ok (t := text) (least := rs_str 12) K2 le2 sg2 j1 j2
          have z2 := rs_set_n (t := text) (least := rs_str 12) K2 le2 sg2
          have z3 := rs_set_dc (t := text) (least := rs_str 12) K2 le2 sg2
          have z4 := rs_set_fr (t := text) (least := rs_str 12) K2 le2 sg2 (by omega) (by omega) hfrC
          have ed : dc (12 :: (rs_set text (rs_str 12) K2 le2 sg2).1) = dc (rs_set text (rs_str 12) K2 le2 sg2).1 := by show dc (rs_set text (rs_str 12) K2 le2 sg2).1 + (if (12 : Int) = 91 ∨ (12 : Int) = 11 then 1 else 0) = _; rw [if_neg (by decide), Int.add_zero]
          refine ev_iconst de_Mo_tested_49 ?_
          refine ev_goto (tgt := 54) de_Mo_tested_50 (by decide) ?_
          refine ev_istore_n (l' := [_, _, _]) de_Mo_tested_54 rfl (Nat.le_of_ble_eq_true rfl) rfl ?_
          refine ev_iload_n de_Mo_tested_55 rfl rfl ?_
          refine ev_if_eq_f (tgt := 12) de_Mo_tested_56 (by decide) (by decide) (by decide) ?_
          refine ev_aload_n de_Mo_tested_59 rfl rfl ?_
          refine ev_ldc2i (n := 6385252) de_Mo_tested_60 cn_Mo_203 (by decide) ?_
          refine ev_vv (ci := 11) de_Mo_tested_63 (cs_Mo_isWord ht (by omega) j6 hsk (Int64.ofInt 6385252)) kb_Mo_98 ⟨im_Mo_isWord, se_Mo_isWord⟩ rfl rfl rfl (Nat.le_of_ble_eq_true rfl) (by decide) rfl ?_
          refine ev_if_eq_f (tgt := 74) de_Mo_tested_66 (by decide) (by omega) (by omega) ?_
          refine ev_bipush de_Mo_tested_69 rfl ?_
          refine ev_goto (tgt := 76) de_Mo_tested_71 (by decide) ?_
          have e : rs_tst tape taped text (n + 1) next made leng sign K = rs_tst tape taped text n (tk_le tape taped n2) mk1 (rs_set text (rs_str 12) K2 le2 sg2).2.1 (rs_set text (rs_str 12) K2 le2 sg2).2.2 (12 :: (rs_set text (rs_str 12) K2 le2 sg2).1) := by show (match rs_fact tape taped text 11 next made leng sign K with | .error e => _ | .ok (n1, md1, le1, sg1, K1) => _) = _; rw [hX1]; show (if _ then _ else _) = _; rw [hCe]; dsimp only; rw [if_pos hop, eo]
          rw [e]
          refine ls_Mo_tested 12 (by decide) _ K2 ht (by omega) j6 tx0 tx1 j1 j2 (by omega) (by omega) hlt ?_
          refine ev_world (w' := (mo_W tape taped rules ((rs_set text (rs_str 12) K2 le2 sg2).2.2) ((rs_set text (rs_str 12) K2 le2 sg2).2.1) clause clauses read (tk_le tape taped n2) (0) (nu1) text (mk1) (dc (12 :: (rs_set text (rs_str 12) K2 le2 sg2).1)) lines (ab_up op1 ((rs_set text (rs_str 12) K2 le2 sg2).1.length : Int) 12) (((12 :: (rs_set text (rs_str 12) K2 le2 sg2).1).length : Int)) stack top word said xx was undone kept sumOf faced slotAt dayAt row bestRow tMany tMost drawX images imageX isMade)) (by rw [ed]; rfl) ?_
          exact ih _ (12 :: (rs_set text (rs_str 12) K2 le2 sg2).1) _ _ _ _ _ _ (by omega) hle.2 (by omega) hnu1 hmk1.1 hmk1.2 (by omega) (by rw [show ((12 :: (rs_set text (rs_str 12) K2 le2 sg2).1).length : Int) = ((rs_set text (rs_str 12) K2 le2 sg2).1.length : Int) + 1 from rfl]; omega) z4 (st_ok_push z1.1) ⟨by decide, z1.2.1⟩ (by rw [ed]; omega)
        · skip
          have hA : ¬ tk_isI tape taped (n2) (Int64.ofInt 6385252) = 1 := by omega
          refine ev_aload_n de_Mo_tested_39 rfl rfl ?_
          refine ev_ldc2i (n := 28530) de_Mo_tested_40 cn_Mo_205 (by decide) ?_
          refine ev_vv (ci := 11) de_Mo_tested_43 (cs_Mo_isWord ht (by omega) j6 hsk (Int64.ofInt 28530)) kb_Mo_98 ⟨im_Mo_isWord, se_Mo_isWord⟩ rfl rfl rfl (Nat.le_of_ble_eq_true rfl) (by decide) rfl ?_
          refine ev_if_eq (tgt := 53) de_Mo_tested_46 (by decide) (by omega) (fun h46 => ?_) (fun h46 => ?_)
          · skip
            refine ev_iconst de_Mo_tested_53 ?_
            have e : rs_tst tape taped text (n + 1) next made leng sign K = rs_te text n2 mk1 le2 sg2 K2 := by show (match rs_fact tape taped text 11 next made leng sign K with | .error e => _ | .ok (n1, md1, le1, sg1, K1) => _) = _; rw [hX1]; show (if _ then _ else _) = _; rw [hCe]; dsimp only; rw [if_neg (by omega)]; rfl
            rw [e]
            refine ev_istore_n (l' := [_, _, _]) de_Mo_tested_54 rfl (Nat.le_of_ble_eq_true rfl) rfl ?_
            refine ev_iload_n de_Mo_tested_55 rfl rfl ?_
            refine ev_if_eq_t (tgt := 12) de_Mo_tested_56 (by decide) (by decide) (by decide) ?_
            refine ev_iload_n de_Mo_tested_12 rfl rfl ?_
            refine ev_if_eq_t (tgt := 112) de_Mo_tested_13 (by decide) (by decide) (by decide) ?_
            exact lz_Mo_tested _ _ K2 ht (by omega) j6 hsk tx0 tx1 b0 hb0 c hc s0 hnu1 hmk1.1 hmk1.2 (by omega) hfrC j1 j2 (by omega)
          · skip
            have hO : tk_isI tape taped (n2) (Int64.ofInt 28530) = 1 := by omega
            have eo : rs_op tape taped n2 = 13 := if_neg hA
            have hop : tk_isI tape taped (n2) (Int64.ofInt 6385252) = 1 ∨ tk_isI tape taped (n2) (Int64.ofInt 28530) = 1 := by omega
            have hlt : n2 < tk_le tape taped n2 := by rcases hop with z | z <;> exact tk_isI_p z
            have hle := tk_le_b tape j6
            have z1 := rs_set_ok (t := text) (least := rs_str 13) K2 le2 sg2 j1 j2
            have z2 := rs_set_n (t := text) (least := rs_str 13) K2 le2 sg2
            have z3 := rs_set_dc (t := text) (least := rs_str 13) K2 le2 sg2
            have z4 := rs_set_fr (t := text) (least := rs_str 13) K2 le2 sg2 (by omega) (by omega) hfrC
            have ed : dc (13 :: (rs_set text (rs_str 13) K2 le2 sg2).1) = dc (rs_set text (rs_str 13) K2 le2 sg2).1 := by show dc (rs_set text (rs_str 13) K2 le2 sg2).1 + (if (13 : Int) = 91 ∨ (13 : Int) = 11 then 1 else 0) = _; rw [if_neg (by decide), Int.add_zero]
            refine ev_iconst de_Mo_tested_49 ?_
            refine ev_goto (tgt := 54) de_Mo_tested_50 (by decide) ?_
            refine ev_istore_n (l' := [_, _, _]) de_Mo_tested_54 rfl (Nat.le_of_ble_eq_true rfl) rfl ?_
            refine ev_iload_n de_Mo_tested_55 rfl rfl ?_
            refine ev_if_eq_f (tgt := 12) de_Mo_tested_56 (by decide) (by decide) (by decide) ?_
            refine ev_aload_n de_Mo_tested_59 rfl rfl ?_
            refine ev_ldc2i (n := 6385252) de_Mo_tested_60 cn_Mo_203 (by decide) ?_
            refine ev_vv (ci := 11) de_Mo_tested_63 (cs_Mo_isWord ht (by omega) j6 hsk (Int64.ofInt 6385252)) kb_Mo_98 ⟨im_Mo_isWord, se_Mo_isWord⟩ rfl rfl rfl (Nat.le_of_ble_eq_true rfl) (by decide) rfl ?_
            refine ev_if_eq_t (tgt := 74) de_Mo_tested_66 (by decide) (by omega) (by omega) ?_
            refine ev_bipush de_Mo_tested_74 rfl ?_
            have e : rs_tst tape taped text (n + 1) next made leng sign K = rs_tst tape taped text n (tk_le tape taped n2) mk1 (rs_set text (rs_str 13) K2 le2 sg2).2.1 (rs_set text (rs_str 13) K2 le2 sg2).2.2 (13 :: (rs_set text (rs_str 13) K2 le2 sg2).1) := by show (match rs_fact tape taped text 11 next made leng sign K with | .error e => _ | .ok (n1, md1, le1, sg1, K1) => _) = _; rw [hX1]; show (if _ then _ else _) = _; rw [hCe]; dsimp only; rw [if_pos hop, eo]
            rw [e]
            refine ls_Mo_tested 13 (by decide) _ K2 ht (by omega) j6 tx0 tx1 j1 j2 (by omega) (by omega) hlt ?_
            refine ev_world (w' := (mo_W tape taped rules ((rs_set text (rs_str 13) K2 le2 sg2).2.2) ((rs_set text (rs_str 13) K2 le2 sg2).2.1) clause clauses read (tk_le tape taped n2) (0) (nu1) text (mk1) (dc (13 :: (rs_set text (rs_str 13) K2 le2 sg2).1)) lines (ab_up op1 ((rs_set text (rs_str 13) K2 le2 sg2).1.length : Int) 13) (((13 :: (rs_set text (rs_str 13) K2 le2 sg2).1).length : Int)) stack top word said xx was undone kept sumOf faced slotAt dayAt row bestRow tMany tMost drawX images imageX isMade)) (by rw [ed]; rfl) ?_
            exact ih _ (13 :: (rs_set text (rs_str 13) K2 le2 sg2).1) _ _ _ _ _ _ (by omega) hle.2 (by omega) hnu1 hmk1.1 hmk1.2 (by omega) (by rw [show ((13 :: (rs_set text (rs_str 13) K2 le2 sg2).1).length : Int) = ((rs_set text (rs_str 13) K2 le2 sg2).1.length : Int) + 1 from rfl]; omega) z4 (st_ok_push z1.1) ⟨by decide, z1.2.1⟩ (by rw [ed]; omega)
      · skip
        refine ev_if_ne_f (tgt := 25) de_Mo_tested_20 (by decide) (by decide) (by decide) ?_
        refine ev_iconst de_Mo_tested_23 ?_
        exact ev_zreturn de_Mo_tested_24 rfl (by decide) ⟨_, _, _, _, _, _, _, _, _, rfl, hnx1, hnu1, hmk1, hfr1, Or.inr ⟨rfl, hwr1, by show (match rs_fact tape taped text 11 next made leng sign K with | .error e => _ | .ok (n1, md1, le1, sg1, K1) => _) = _; rw [hX1]⟩⟩
set_option maxHeartbeats 4000000 in
set_option maxRecDepth 10000 in
theorem co_Mo_tested (ht : tp_ok tape taped) (hn0 : 0 ≤ next) (hn1 : next ≤ taped) (tx0 : 0 ≤ text) (tx1 : text ≤ 5) (b0 : Int) (hb0 : 0 ≤ b0) (c : Int) (hc : c ≤ 0) (s0 : Int → Int) (hnu : ab_in number) (hm0 : 0 ≤ made) (hm1 : made ≤ 60) (hl0 : b0 ≤ leng text) (hl1 : leng text - next ≤ c) (hs : sg_fr text s0 sign) : ab_Mt g_G g_rs mt_Mo_tested 8 0 0 [ab_R 0] (mo_W tape taped rules sign leng clause clauses read next (0) number text made deep lines opn opened stack top word said xx was undone kept sumOf faced slotAt dayAt row bestRow tMany tMost drawX images imageX isMade) (pt tape taped rules clause clauses read text lines stack top word said xx was undone kept sumOf faced slotAt dayAt row bestRow tMany tMost drawX images imageX isMade c b0 s0 (rs_tst tape taped text 401 next made leng sign [])) := by
  refine ab_Mt.of rfl (Nat.le_of_ble_eq_true rfl) ?_
  show ab_Ev g_G g_rs mt_Mo_tested _ _ _ 0 [some (ab_R 0), none, none] [] _ _
  have p1 := ht.2.1
  refine ev_aload_n de_Mo_tested_0 rfl rfl ?_
  refine ev_iconst de_Mo_tested_1 ?_
  refine ev_putfield de_Mo_tested_2 rfl (fp_Mo_152 _) (Nat.le_of_ble_eq_true rfl) trivial ?_
  refine ev_world (w' := mo_W _ _ _ _ _ _ _ _ _ _ _ _ _ _ _ _ _ _ _ _ _ _ _ _ _ _ _ _ _ _ _ _ _ _ _ _ _) rfl ?_
  refine ev_aload_n de_Mo_tested_5 rfl rfl ?_
  refine ev_iconst de_Mo_tested_6 ?_
  refine ev_putfield de_Mo_tested_7 rfl (fp_Mo_149 _) (Nat.le_of_ble_eq_true rfl) trivial ?_
  refine ev_world (w' := mo_W _ _ _ _ _ _ _ _ _ _ _ _ _ _ _ _ _ _ _ _ _ _ _ _ _ _ _ _ _ _ _ _ _ _ _ _ _) rfl ?_
  refine ev_iconst de_Mo_tested_10 ?_
  refine ev_istore_n (l' := [_, _, _]) de_Mo_tested_11 rfl (Nat.le_of_ble_eq_true rfl) rfl ?_
  refine ev_world (w' := (mo_W tape taped rules sign leng clause clauses read next (0) number text made (dc []) lines opn ((([] : List Int).length : Int)) stack top word said xx was undone kept sumOf faced slotAt dayAt row bestRow tMany tMost drawX images imageX isMade)) rfl ?_
  exact lo_Mo_tested ht tx0 tx1 b0 hb0 c hc s0 401 _ [] next made number leng sign opn hn0 hn1 (by omega) hnu hm0 hm1 hl0 (by show leng text + 0 - next ≤ c; omega) hs trivial trivial (by decide)
end MO
