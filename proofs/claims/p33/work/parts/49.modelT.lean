section MO
variable {tape : Int → Int} {taped : Int} {rules : Int} {sign : Int → Int} {leng : Int → Int} {clause : Int → Int} {clauses : Int → Int} {read : Int → Int} {next : Int} {wrong : Int} {number : Int} {text : Int} {made : Int} {deep : Int} {lines : Int} {opn : Int → Int} {opened : Int} {stack : Int → Int64} {top : Int} {word : Int → Int64} {said : Int → Int} {xx : Int} {was : Int → Int} {undone : Int} {kept : Int → Int} {sumOf : Int → Int} {faced : Int → Int} {slotAt : Int → Int} {dayAt : Int → Int} {row : Int → Int} {bestRow : Int → Int} {tMany : Int} {tMost : Int} {drawX : Int64} {images : Int → Int} {imageX : Int → Int} {isMade : Int → Int}
/-! a TEST's signs run clean -/
def st_of : List Int → Int → Int
  | [] => fun _ => 0
  | s :: K => ab_up (st_of K) (K.length : Int) s
theorem st_of_ok : ∀ K : List Int, st_ok (st_of K) K
  | [] => trivial
  | s :: K => st_ok_push (st_of_ok K)
theorem rs_fact_el {tape : Int → Int} {taped t : Int} : ∀ (n : Nat) {nx md : Int} {le sg : Int → Int} {K : List Int} {n1 md1 : Int} {le1 sg1 : Int → Int} {K1 : List Int}, st_el K → rs_fact tape taped t n nx md le sg K = .ok (n1, md1, le1, sg1, K1) → st_el K1
  | 0, _, _, _, _, _, _, _, _, _, _, _, e => nomatch e
  | n + 1, nx, md, le, sg, K, _, _, _, _, _, h, e => by
    unfold rs_fact at e
    split at e
    · split at e
      · exact nomatch e
      · exact rs_fact_el n (K := 11 :: K) ⟨by decide, h⟩ e
    · split at e
      · split at e
        · exact nomatch e
        · exact rs_fact_el n (K := 91 :: K) ⟨by decide, h⟩ e
      · split at e
        · exact nomatch e
        · cases e
          exact h
theorem rs_cl_g {tape : Int → Int} {taped t : Int} : ∀ (n : Nat) (nx : Int) (le sg : Int → Int) (K : List Int), st_el K → le t ≤ (rs_cl tape taped t n nx le sg K).2.1 t ∧ (∀ k, k < 400 * t + le t → (rs_cl tape taped t n nx le sg K).2.2.1 k = sg k) ∧ pend (rs_cl tape taped t n nx le sg K).2.2.2 ≤ pend K ∧ st_el (rs_cl tape taped t n nx le sg K).2.2.2 ∧ ∀ (word : Int → Int64) (S : List Int64), S.length = pend K + 1 → pend K + 1 ≤ 60 → ∃ S2 : List Int64, S2.length = pend (rs_cl tape taped t n nx le sg K).2.2.2 + 1 ∧ seg word t (rs_cl tape taped t n nx le sg K).2.2.1 (le t) ((rs_cl tape taped t n nx le sg K).2.1 t) S = some S2
  | 0, nx, le, sg, K, hel => ⟨Int.le_refl _, fun _ _ => rfl, Nat.le_refl _, hel, fun word S h _ => ⟨S, h, seg_0⟩⟩
  | n + 1, nx, le, sg, K, hel => by
    unfold rs_cl
    split
    · rename_i hc
      obtain ⟨K2, eK⟩ := rs_set_91 (t := t) K le sg hel hc.2
      have g1 := rs_set_g (t := t) (least := 1) K le sg hel (by decide)
      have n1 := rs_set_n (t := t) (least := 1) K le sg
      have o1 := rs_set_ok (opn := st_of K) (t := t) (least := 1) K le sg (st_of_ok K) hel
      rw [eK] at g1 o1
      rw [eK, List.tail_cons]
      generalize rs_set t 1 K le sg = z1 at g1 n1 ⊢
      have hel2 : st_el K2 := o1.2.1.2
      have g2 := rs_set_g (t := t) (least := 3) K2 z1.2.1 z1.2.2 hel2 (by decide)
      have n2 := rs_set_n (t := t) (least := 3) K2 z1.2.1 z1.2.2
      have o2 := rs_set_ok (opn := st_of K2) (t := t) (least := 3) K2 z1.2.1 z1.2.2 (st_of_ok K2) hel2
      generalize rs_set t 3 K2 z1.2.1 z1.2.2 = z2 at g2 n2 o2 ⊢
      have g3 := rs_cl_g (tape := tape) (taped := taped) (t := t) n (tk_sk tape taped nx + 1) z2.2.1 z2.2.2 z2.1 o2.2.1
      generalize rs_cl tape taped t n (tk_sk tape taped nx + 1) z2.2.1 z2.2.2 z2.1 = z3 at g3 ⊢
      obtain ⟨a1, a2, a3⟩ := g1
      obtain ⟨b1, b2, b3⟩ := g2
      obtain ⟨c1, c2, c3, c4, c5⟩ := g3
      have p91 : pend (91 :: K2) = pend K2 := rfl
      rw [p91] at a2 a3
      refine ⟨by omega, fun k hk => by rw [c2 k (by omega), b1 k (by omega), a1 k hk], by omega, c4, fun word S hS h60 => ?_⟩
      obtain ⟨S1, d1, d2⟩ := a3 word S hS h60
      obtain ⟨S2, d3, d4⟩ := b3 word S1 d1 (by omega)
      obtain ⟨S3, d5, d6⟩ := c5 word S2 d3 (by omega)
      refine ⟨S3, d5, ?_⟩
      have e1 : seg word t z3.2.2.1 (le t) (z1.2.1 t) S = some S1 := by rw [← d2]; exact seg_cg (fun k h0 h1 => by rw [c2 k (by omega), b1 k (by omega)])
      have e2 : seg word t z3.2.2.1 (z1.2.1 t) (z2.2.1 t) S1 = some S2 := by rw [← d4]; exact seg_cg (fun k h0 h1 => c2 k (by omega))
      rw [seg_app (e := z1.2.1 t) (by omega) (by omega) e1, seg_app (e := z2.2.1 t) (by omega) (by omega) e2]
      exact d6
    · exact ⟨Int.le_refl _, fun _ _ => rfl, Nat.le_refl _, hel, fun word S h _ => ⟨S, h, seg_0⟩⟩
theorem rs_tst_g {tape : Int → Int} {taped t : Int} : ∀ (n : Nat) {nx md : Int} {le sg : Int → Int} {K : List Int} {z : pz}, st_el K → rs_tst tape taped t n nx md le sg K = .ok z → le t ≤ z.2.2.1 t ∧ md < z.2.1 ∧ (∀ k, k < 400 * t + le t → z.2.2.2 k = sg k) ∧ ∀ (word : Int → Int64) (S : List Int64), S.length = pend K → (pend K : Int) ≤ md → z.2.1 ≤ 60 → ∃ v, seg word t z.2.2.2 (le t) (z.2.2.1 t) S = some [v]
  | 0, _, _, _, _, _, _, _, e => nomatch e
  | n + 1, nx, md, le, sg, K, z, hel, e => by
    unfold rs_tst at e
    split at e
    · exact nomatch e
    · rename_i n1 md1 le1 sg1 K1 h1
      have hel1 : st_el K1 := rs_fact_el 11 hel h1
      obtain ⟨⟨a1, a2, a3, a4⟩, a5⟩ := rs_fact_g 11 h1
      dsimp only at a1 a2 a3 a4 a5
      have s1 := rs_set_g (t := t) (least := 3) K1 le1 sg1 hel1 (by decide)
      have s2 := rs_set_n (t := t) (least := 3) K1 le1 sg1
      have s3 := rs_set_ok (opn := st_of K1) (t := t) (least := 3) K1 le1 sg1 (st_of_ok K1) hel1
      unfold rs_close at e
      generalize rs_set t 3 K1 le1 sg1 = z1 at s1 s2 s3 e
      have g := rs_cl_g (tape := tape) (taped := taped) (t := t) 401 n1 z1.2.1 z1.2.2 z1.1 s3.2.1
      generalize rs_cl tape taped t 401 n1 z1.2.1 z1.2.2 z1.1 = z2 at g e
      obtain ⟨b1, b2, b3⟩ := s1
      obtain ⟨c1, c2, c3, c4, c5⟩ := g
      have run : ∀ (word : Int → Int64) (S : List Int64) (sg9 : Int → Int), (∀ k, k < 400 * t + z2.2.1 t → sg9 k = z2.2.2.1 k) → S.length = pend K → (pend K : Int) ≤ md → md1 ≤ 60 → ∃ S2 : List Int64, S2.length = pend z2.2.2.2 + 1 ∧ seg word t sg9 (le t) (z2.2.1 t) S = some S2 := by
        intro word S sg9 h9 hS hp h60
        obtain ⟨v, d1⟩ := a4 word S (by omega)
        obtain ⟨S1, d2, d3⟩ := b3 word (v :: S) (by rw [List.length_cons]; omega) (by omega)
        obtain ⟨S2, d4, d5⟩ := c5 word S1 d2 (by omega)
        refine ⟨S2, d4, ?_⟩
        have e1 : seg word t sg9 (le t) (le1 t) S = some (v :: S) := by rw [← d1]; exact seg_cg (fun k h0 h1 => by rw [h9 k (by omega), c2 k (by omega), b1 k (by omega)])
        have e2 : seg word t sg9 (le1 t) (z1.2.1 t) (v :: S) = some S1 := by rw [← d3]; exact seg_cg (fun k h0 h1 => by rw [h9 k (by omega), c2 k (by omega)])
        have e3 : seg word t sg9 (z1.2.1 t) (z2.2.1 t) S1 = some S2 := by rw [← d5]; exact seg_cg (fun k h0 h1 => h9 k (by omega))
        rw [seg_app (e := le1 t) a1 (by omega) e1, seg_app (e := z1.2.1 t) (by omega) c1 e2]
        exact e3
      split at e
      · have ho : rs_op tape taped z2.1 = 12 ∨ rs_op tape taped z2.1 = 13 := by unfold rs_op; split <;> omega
        generalize rs_op tape taped z2.1 = s at ho e
        have ls : 1 ≤ rs_str s := by rcases ho with z | z <;> (subst z; decide)
        have f1 := rs_set_g (t := t) (least := rs_str s) z2.2.2.2 z2.2.1 z2.2.2.1 c4 ls
        have f2 := rs_set_n (t := t) (least := rs_str s) z2.2.2.2 z2.2.1 z2.2.2.1
        have f3 := rs_set_ok (opn := st_of z2.2.2.2) (t := t) (least := rs_str s) z2.2.2.2 z2.2.1 z2.2.2.1 (st_of_ok _) c4
        generalize rs_set t (rs_str s) z2.2.2.2 z2.2.1 z2.2.2.1 = z3 at f1 f2 f3 e
        have ps : pend (s :: z3.1) = pend z3.1 + 1 := by show (if s = 12 ∨ s = 13 then _ else _) = _; rw [if_pos ho]
        obtain ⟨k1, k2, k3, k4⟩ := rs_tst_g n (K := s :: z3.1) ⟨by omega, f3.2.1⟩ e
        obtain ⟨m1, m2, m3⟩ := f1
        refine ⟨by omega, by omega, fun k hk => by rw [k3 k (by omega), m1 k (by omega), c2 k (by omega), b1 k (by omega), a3 k hk], fun word S hS hp h60 => ?_⟩
        obtain ⟨S2, d1, d2⟩ := run word S z.2.2.2 (fun k hk => by rw [k3 k (by omega), m1 k hk]) hS hp (by omega)
        obtain ⟨S3, d3, d4⟩ := m3 word S2 d1 (by omega)
        obtain ⟨v, d5⟩ := k4 word S3 (by rw [ps]; exact d3) (by rw [ps]; omega) h60
        refine ⟨v, ?_⟩
        have e2 : seg word t z.2.2.2 (z2.2.1 t) (z3.2.1 t) S2 = some S3 := by rw [← d4]; exact seg_cg (fun k h0 h1 => k3 k (by omega))
        rw [seg_app (e := z2.2.1 t) (by omega) (by omega) d2, seg_app (e := z3.2.1 t) (by omega) k1 e2]
        exact d5
      · split at e
        · exact nomatch e
        · rename_i h91
          cases e
          have f1 := rs_set_g (t := t) (least := 1) z2.2.2.2 z2.2.1 z2.2.2.1 c4 (by decide)
          have f2 := rs_set_n (t := t) (least := 1) z2.2.2.2 z2.2.1 z2.2.2.1
          have f3 := rs_set_nil (t := t) z2.2.2.2 z2.2.1 z2.2.2.1 c4 h91
          rw [f3] at f1 f2
          generalize rs_set t 1 z2.2.2.2 z2.2.1 z2.2.2.1 = z3 at f1 f2 ⊢
          dsimp only
          obtain ⟨m1, m2, m3⟩ := f1
          refine ⟨by omega, a2, fun k hk => by rw [m1 k (by omega), c2 k (by omega), b1 k (by omega), a3 k hk], fun word S hS hp h60 => ?_⟩
          obtain ⟨S2, d1, d2⟩ := run word S z3.2.2 (fun k hk => m1 k hk) hS hp h60
          obtain ⟨S3, d3, d4⟩ := m3 word S2 d1 (by omega)
          have d5 : S3.length = 1 := d3
          rcases S3 with _ | ⟨v, _ | ⟨v2, S3⟩⟩
          · simp at d5
          · exact ⟨v, by rw [seg_app (e := z2.2.1 t) (by omega) f2.2 d2]; exact d4⟩
          · simp at d5
/-! a CLAUSE of a RULE -/
def rs_turn (tape : Int → Int) (taped t nx md : Int) (le sg : Int → Int) : Except Int (pz × Int × Int) := match rs_sum tape taped t (tk_le tape taped nx) md le sg with
  | .error e => .error e
  | .ok (n1, md1, le1, sg1) => if tk_isI tape taped (tk_sk tape taped n1) (Int64.ofInt 26982) = 1 then (match rs_tst tape taped t 401 (tk_le tape taped (tk_sk tape taped n1)) md1 le1 sg1 [] with
      | .error e => .error e
      | .ok z => .ok (z, le1 t, le1 t))
    else .ok ((tk_sk tape taped n1, md1, le1, sg1), le1 t, -1)
/-- a CLAUSE's signs lie from a on: to b what it turns by, from i on its TEST -/
def rt_ok (t a md : Int) (sg : Int → Int) (z : pz) (b i : Int) : Prop := a ≤ b ∧ b ≤ z.2.2.1 t ∧ md < z.2.1 ∧ (∀ k, k < 400 * t + a → z.2.2.2 k = sg k) ∧ (z.2.1 ≤ 60 → ∀ word : Int → Int64, ∃ v, seg word t z.2.2.2 a b [] = some [v]) ∧ (i = -1 ∨ (i = b ∧ (z.2.1 ≤ 60 → ∀ word : Int → Int64, ∃ v, seg word t z.2.2.2 b (z.2.2.1 t) [] = some [v])))
theorem rs_turn_g {tape : Int → Int} {taped t nx md : Int} {le sg : Int → Int} {z : pz} {b i : Int} (h0 : 0 ≤ md) (e : rs_turn tape taped t nx md le sg = .ok (z, b, i)) : rt_ok t (le t) md sg z b i := by
  unfold rs_turn at e
  split at e
  · exact nomatch e
  · rename_i n1 md1 le1 sg1 h1
    obtain ⟨a1, a2, a3, a4⟩ := rs_sum_g h1
    dsimp only at a1 a2 a3 a4
    split at e
    · split at e
      · exact nomatch e
      · rename_i z1 h2
        cases e
        obtain ⟨b1, b2, b3, b4⟩ := rs_tst_g 401 (K := []) trivial h2
        refine ⟨a1, b1, by omega, fun k hk => by rw [b3 k (by omega), a3 k hk], fun h60 word => ?_, Or.inr ⟨rfl, fun h60 word => b4 word [] rfl (by show (0 : Int) ≤ md1; omega) h60⟩⟩
        obtain ⟨v, c⟩ := a4 word [] (by show (0 : Int) + _ ≤ 60; omega)
        exact ⟨v, by rw [← c]; exact seg_cg (fun k q0 q1 => b3 k (by omega))⟩
    · cases e
      exact ⟨a1, Int.le_refl _, a2, a3, fun h60 word => a4 word [] (by show (0 : Int) + _ ≤ 60; dsimp only at h60; omega), Or.inl rfl⟩
def rs_row (cl : Int → Int) (at_ a b i e : Int) : Int → Int := ab_up (ab_up (ab_up (ab_up cl at_ a) (at_ + 1) b) (at_ + 2) i) (at_ + 3) e
theorem ab_up2 {α : Type} (f : Int → α) (k : Int) (a b : α) : ab_up (ab_up f k a) k b = ab_up f k b := by
  funext j
  unfold ab_up
  split <;> rfl
def cl_fr (t : Int) (c0 c : Int → Int) : Prop := ∀ k, (k < 48 * t ∨ 48 * t + 48 ≤ k) → c k = c0 k
theorem cl_fr_up {t j v : Int} {c0 c : Int → Int} (h : cl_fr t c0 c) (h0 : 48 * t ≤ j) (h1 : j < 48 * t + 48) : cl_fr t c0 (ab_up c j v) := fun k hk => by rw [ab_upn _ _ (by omega)]; exact h k hk
def pw (tape : Int → Int) (taped : Int) (rules : Int) (read : Int → Int) (text : Int) (lines : Int) (stack : Int → Int64) (top : Int) (word : Int → Int64) (said : Int → Int) (xx : Int) (was : Int → Int) (undone : Int) (kept : Int → Int) (sumOf : Int → Int) (faced : Int → Int) (slotAt : Int → Int) (dayAt : Int → Int) (row : Int → Int) (bestRow : Int → Int) (tMany : Int) (tMost : Int) (drawX : Int64) (images : Int → Int) (imageX : Int → Int) (isMade : Int → Int) (c : Int) (s0 c0 : Int → Int) (clause clauses : Int → Int) (a : Int) (X : Except Int (pz × Int × Int)) : Option ab_V → ab_W → Prop := fun r w2 => ∃ (nx nu wr mk : Int) (le sg op : Int → Int) (od dp : Int) (cl cs : Int → Int), w2 = (mo_W tape taped rules (sg) (le) (cl) (cs) read (nx) (wr) (nu) text (mk) (dp) lines (op) (od) stack top word said xx was undone kept sumOf faced slotAt dayAt row bestRow tMany tMost drawX images imageX isMade) ∧ (0 ≤ nx ∧ nx ≤ taped) ∧ ab_in nu ∧ (0 ≤ mk ∧ mk ≤ 60) ∧ sg_fr text s0 sg ∧ cl_fr text c0 cl ∧ ((r = some (ab_I 1) ∧ wr = 0 ∧ (0 ≤ le text ∧ le text - nx ≤ c) ∧ cs = ab_up clauses text (clauses text + 1) ∧ ∃ b i, X = .ok ((nx, mk, le, sg), b, i) ∧ cl = rs_row clause (48 * text + 4 * clauses text) a b i (le text)) ∨ (r = some (ab_I 0) ∧ (1 ≤ wr ∧ wr ≤ 10000) ∧ cs = clauses ∧ X = .error wr))
theorem de_Mo_isTurnHere_0 : decode prog_14_method_30_code 0 = .ok (.aload_n 0, 1) := by decide +kernel
theorem de_Mo_isTurnHere_1 : decode prog_14_method_30_code 1 = .ok (.invokevirtual 102, 3) := by decide +kernel
theorem de_Mo_isTurnHere_4 : decode prog_14_method_30_code 4 = .ok (.bipush 48, 2) := by decide +kernel
theorem de_Mo_isTurnHere_6 : decode prog_14_method_30_code 6 = .ok (.aload_n 0, 1) := by decide +kernel
theorem de_Mo_isTurnHere_7 : decode prog_14_method_30_code 7 = .ok (.getfield 143, 3) := by decide +kernel
theorem de_Mo_isTurnHere_10 : decode prog_14_method_30_code 10 = .ok (.imul, 1) := by decide +kernel
theorem de_Mo_isTurnHere_11 : decode prog_14_method_30_code 11 = .ok (.iconst 4, 1) := by decide +kernel
theorem de_Mo_isTurnHere_12 : decode prog_14_method_30_code 12 = .ok (.aload_n 0, 1) := by decide +kernel
theorem de_Mo_isTurnHere_13 : decode prog_14_method_30_code 13 = .ok (.getfield 23, 3) := by decide +kernel
theorem de_Mo_isTurnHere_16 : decode prog_14_method_30_code 16 = .ok (.aload_n 0, 1) := by decide +kernel
theorem de_Mo_isTurnHere_17 : decode prog_14_method_30_code 17 = .ok (.getfield 143, 3) := by decide +kernel
theorem de_Mo_isTurnHere_20 : decode prog_14_method_30_code 20 = .ok (.iaload, 1) := by decide +kernel
theorem de_Mo_isTurnHere_21 : decode prog_14_method_30_code 21 = .ok (.imul, 1) := by decide +kernel
theorem de_Mo_isTurnHere_22 : decode prog_14_method_30_code 22 = .ok (.iadd, 1) := by decide +kernel
theorem de_Mo_isTurnHere_23 : decode prog_14_method_30_code 23 = .ok (.istore_n 1, 1) := by decide +kernel
theorem de_Mo_isTurnHere_24 : decode prog_14_method_30_code 24 = .ok (.aload_n 0, 1) := by decide +kernel
theorem de_Mo_isTurnHere_25 : decode prog_14_method_30_code 25 = .ok (.getfield 20, 3) := by decide +kernel
theorem de_Mo_isTurnHere_28 : decode prog_14_method_30_code 28 = .ok (.iload_n 1, 1) := by decide +kernel
theorem de_Mo_isTurnHere_29 : decode prog_14_method_30_code 29 = .ok (.aload_n 0, 1) := by decide +kernel
theorem de_Mo_isTurnHere_30 : decode prog_14_method_30_code 30 = .ok (.getfield 17, 3) := by decide +kernel
theorem de_Mo_isTurnHere_33 : decode prog_14_method_30_code 33 = .ok (.aload_n 0, 1) := by decide +kernel
theorem de_Mo_isTurnHere_34 : decode prog_14_method_30_code 34 = .ok (.getfield 143, 3) := by decide +kernel
theorem de_Mo_isTurnHere_37 : decode prog_14_method_30_code 37 = .ok (.iaload, 1) := by decide +kernel
theorem de_Mo_isTurnHere_38 : decode prog_14_method_30_code 38 = .ok (.iastore, 1) := by decide +kernel
theorem de_Mo_isTurnHere_39 : decode prog_14_method_30_code 39 = .ok (.aload_n 0, 1) := by decide +kernel
theorem de_Mo_isTurnHere_40 : decode prog_14_method_30_code 40 = .ok (.invokevirtual 180, 3) := by decide +kernel
theorem de_Mo_isTurnHere_43 : decode prog_14_method_30_code 43 = .ok (.ifCond .ne 5, 3) := by decide +kernel
theorem de_Mo_isTurnHere_46 : decode prog_14_method_30_code 46 = .ok (.iconst 0, 1) := by decide +kernel
theorem de_Mo_isTurnHere_47 : decode prog_14_method_30_code 47 = .ok (.ireturn, 1) := by decide +kernel
theorem de_Mo_isTurnHere_48 : decode prog_14_method_30_code 48 = .ok (.aload_n 0, 1) := by decide +kernel
theorem de_Mo_isTurnHere_49 : decode prog_14_method_30_code 49 = .ok (.getfield 20, 3) := by decide +kernel
theorem de_Mo_isTurnHere_52 : decode prog_14_method_30_code 52 = .ok (.iload_n 1, 1) := by decide +kernel
theorem de_Mo_isTurnHere_53 : decode prog_14_method_30_code 53 = .ok (.iconst 1, 1) := by decide +kernel
theorem de_Mo_isTurnHere_54 : decode prog_14_method_30_code 54 = .ok (.iadd, 1) := by decide +kernel
theorem de_Mo_isTurnHere_55 : decode prog_14_method_30_code 55 = .ok (.aload_n 0, 1) := by decide +kernel
theorem de_Mo_isTurnHere_56 : decode prog_14_method_30_code 56 = .ok (.getfield 17, 3) := by decide +kernel
theorem de_Mo_isTurnHere_59 : decode prog_14_method_30_code 59 = .ok (.aload_n 0, 1) := by decide +kernel
theorem de_Mo_isTurnHere_60 : decode prog_14_method_30_code 60 = .ok (.getfield 143, 3) := by decide +kernel
theorem de_Mo_isTurnHere_63 : decode prog_14_method_30_code 63 = .ok (.iaload, 1) := by decide +kernel
theorem de_Mo_isTurnHere_64 : decode prog_14_method_30_code 64 = .ok (.iastore, 1) := by decide +kernel
theorem de_Mo_isTurnHere_65 : decode prog_14_method_30_code 65 = .ok (.aload_n 0, 1) := by decide +kernel
theorem de_Mo_isTurnHere_66 : decode prog_14_method_30_code 66 = .ok (.getfield 20, 3) := by decide +kernel
theorem de_Mo_isTurnHere_69 : decode prog_14_method_30_code 69 = .ok (.iload_n 1, 1) := by decide +kernel
theorem de_Mo_isTurnHere_70 : decode prog_14_method_30_code 70 = .ok (.iconst 2, 1) := by decide +kernel
theorem de_Mo_isTurnHere_71 : decode prog_14_method_30_code 71 = .ok (.iadd, 1) := by decide +kernel
theorem de_Mo_isTurnHere_72 : decode prog_14_method_30_code 72 = .ok (.iconst (-1), 1) := by decide +kernel
theorem de_Mo_isTurnHere_73 : decode prog_14_method_30_code 73 = .ok (.iastore, 1) := by decide +kernel
theorem de_Mo_isTurnHere_74 : decode prog_14_method_30_code 74 = .ok (.aload_n 0, 1) := by decide +kernel
theorem de_Mo_isTurnHere_75 : decode prog_14_method_30_code 75 = .ok (.ldc2_w 207, 3) := by decide +kernel
theorem de_Mo_isTurnHere_78 : decode prog_14_method_30_code 78 = .ok (.invokevirtual 209, 3) := by decide +kernel
theorem de_Mo_isTurnHere_81 : decode prog_14_method_30_code 81 = .ok (.ifCond .eq 29, 3) := by decide +kernel
theorem de_Mo_isTurnHere_84 : decode prog_14_method_30_code 84 = .ok (.aload_n 0, 1) := by decide +kernel
theorem de_Mo_isTurnHere_85 : decode prog_14_method_30_code 85 = .ok (.getfield 20, 3) := by decide +kernel
theorem de_Mo_isTurnHere_88 : decode prog_14_method_30_code 88 = .ok (.iload_n 1, 1) := by decide +kernel
theorem de_Mo_isTurnHere_89 : decode prog_14_method_30_code 89 = .ok (.iconst 2, 1) := by decide +kernel
theorem de_Mo_isTurnHere_90 : decode prog_14_method_30_code 90 = .ok (.iadd, 1) := by decide +kernel
theorem de_Mo_isTurnHere_91 : decode prog_14_method_30_code 91 = .ok (.aload_n 0, 1) := by decide +kernel
theorem de_Mo_isTurnHere_92 : decode prog_14_method_30_code 92 = .ok (.getfield 17, 3) := by decide +kernel
theorem de_Mo_isTurnHere_95 : decode prog_14_method_30_code 95 = .ok (.aload_n 0, 1) := by decide +kernel
theorem de_Mo_isTurnHere_96 : decode prog_14_method_30_code 96 = .ok (.getfield 143, 3) := by decide +kernel
theorem de_Mo_isTurnHere_99 : decode prog_14_method_30_code 99 = .ok (.iaload, 1) := by decide +kernel
theorem de_Mo_isTurnHere_100 : decode prog_14_method_30_code 100 = .ok (.iastore, 1) := by decide +kernel
theorem de_Mo_isTurnHere_101 : decode prog_14_method_30_code 101 = .ok (.aload_n 0, 1) := by decide +kernel
theorem de_Mo_isTurnHere_102 : decode prog_14_method_30_code 102 = .ok (.invokevirtual 212, 3) := by decide +kernel
theorem de_Mo_isTurnHere_105 : decode prog_14_method_30_code 105 = .ok (.ifCond .ne 5, 3) := by decide +kernel
theorem de_Mo_isTurnHere_108 : decode prog_14_method_30_code 108 = .ok (.iconst 0, 1) := by decide +kernel
theorem de_Mo_isTurnHere_109 : decode prog_14_method_30_code 109 = .ok (.ireturn, 1) := by decide +kernel
theorem de_Mo_isTurnHere_110 : decode prog_14_method_30_code 110 = .ok (.aload_n 0, 1) := by decide +kernel
theorem de_Mo_isTurnHere_111 : decode prog_14_method_30_code 111 = .ok (.getfield 20, 3) := by decide +kernel
theorem de_Mo_isTurnHere_114 : decode prog_14_method_30_code 114 = .ok (.iload_n 1, 1) := by decide +kernel
theorem de_Mo_isTurnHere_115 : decode prog_14_method_30_code 115 = .ok (.iconst 3, 1) := by decide +kernel
theorem de_Mo_isTurnHere_116 : decode prog_14_method_30_code 116 = .ok (.iadd, 1) := by decide +kernel
theorem de_Mo_isTurnHere_117 : decode prog_14_method_30_code 117 = .ok (.aload_n 0, 1) := by decide +kernel
theorem de_Mo_isTurnHere_118 : decode prog_14_method_30_code 118 = .ok (.getfield 17, 3) := by decide +kernel
theorem de_Mo_isTurnHere_121 : decode prog_14_method_30_code 121 = .ok (.aload_n 0, 1) := by decide +kernel
theorem de_Mo_isTurnHere_122 : decode prog_14_method_30_code 122 = .ok (.getfield 143, 3) := by decide +kernel
theorem de_Mo_isTurnHere_125 : decode prog_14_method_30_code 125 = .ok (.iaload, 1) := by decide +kernel
theorem de_Mo_isTurnHere_126 : decode prog_14_method_30_code 126 = .ok (.iastore, 1) := by decide +kernel
theorem de_Mo_isTurnHere_127 : decode prog_14_method_30_code 127 = .ok (.aload_n 0, 1) := by decide +kernel
theorem de_Mo_isTurnHere_128 : decode prog_14_method_30_code 128 = .ok (.getfield 23, 3) := by decide +kernel
theorem de_Mo_isTurnHere_131 : decode prog_14_method_30_code 131 = .ok (.aload_n 0, 1) := by decide +kernel
theorem de_Mo_isTurnHere_132 : decode prog_14_method_30_code 132 = .ok (.getfield 143, 3) := by decide +kernel
theorem de_Mo_isTurnHere_135 : decode prog_14_method_30_code 135 = .ok (.dup2, 1) := by decide +kernel
theorem de_Mo_isTurnHere_136 : decode prog_14_method_30_code 136 = .ok (.iaload, 1) := by decide +kernel
theorem de_Mo_isTurnHere_137 : decode prog_14_method_30_code 137 = .ok (.iconst 1, 1) := by decide +kernel
theorem de_Mo_isTurnHere_138 : decode prog_14_method_30_code 138 = .ok (.iadd, 1) := by decide +kernel
theorem de_Mo_isTurnHere_139 : decode prog_14_method_30_code 139 = .ok (.iastore, 1) := by decide +kernel
theorem de_Mo_isTurnHere_140 : decode prog_14_method_30_code 140 = .ok (.iconst 1, 1) := by decide +kernel
theorem de_Mo_isTurnHere_141 : decode prog_14_method_30_code 141 = .ok (.ireturn, 1) := by decide +kernel
set_option maxHeartbeats 4000000 in
set_option maxRecDepth 10000 in
theorem co_Mo_isTurnHere (ht : tp_ok tape taped) (hn0 : 0 ≤ next) (hn1 : next ≤ taped) (tx0 : 0 ≤ text) (tx1 : text ≤ 5) (hnu : ab_in number) (hm0 : 0 ≤ made) (hm1 : made ≤ 60) (hl0 : 0 ≤ leng text) (c : Int) (hc : c ≤ 0) (hl1 : leng text - next ≤ c) (s0 : Int → Int) (hs : sg_fr text s0 sign) (c0 : Int → Int) (hcf : cl_fr text c0 clause) (hk0 : 0 ≤ clauses text) (hk1 : clauses text ≤ 11) : ab_Mt g_G g_rs mt_Mo_isTurnHere 9 0 0 [ab_R 0] (mo_W tape taped rules sign leng clause clauses read next (0) number text made deep lines opn opened stack top word said xx was undone kept sumOf faced slotAt dayAt row bestRow tMany tMost drawX images imageX isMade) (pw tape taped rules read text lines stack top word said xx was undone kept sumOf faced slotAt dayAt row bestRow tMany tMost drawX images imageX isMade c s0 c0 clause clauses (leng text) (rs_turn tape taped text next made leng sign)) := by
  refine ab_Mt.of rfl (Nat.le_of_ble_eq_true rfl) ?_
  show ab_Ev g_G g_rs mt_Mo_isTurnHere _ _ _ 0 [some (ab_R 0), none] [] _ _
  have p1 := ht.2.1
  have hle := tk_le_b tape hn1
  have hmB := hm1
  refine ev_aload_n de_Mo_isTurnHere_0 rfl rfl ?_
  refine ev_vn (ci := 11) de_Mo_isTurnHere_1 (co_Mo_passWord ht hn0 hn1) kb_Mo_102 ⟨im_Mo_passWord, se_Mo_passWord⟩ rfl rfl rfl (Nat.le_of_ble_eq_true rfl) (by decide) rfl ?_
  refine ev_bipush de_Mo_isTurnHere_4 rfl ?_
  refine ev_aload_n de_Mo_isTurnHere_6 rfl rfl ?_
  refine ev_getfield de_Mo_isTurnHere_7 rfl fl_Mo_143 rfl ?_
  refine ev_imul de_Mo_isTurnHere_10 ?_
  refine ev_iconst de_Mo_isTurnHere_11 ?_
  refine ev_aload_n de_Mo_isTurnHere_12 rfl rfl ?_
  refine ev_getfield de_Mo_isTurnHere_13 rfl fl_Mo_23 rfl ?_
  refine ev_aload_n de_Mo_isTurnHere_16 rfl rfl ?_
  refine ev_getfield de_Mo_isTurnHere_17 rfl fl_Mo_143 rfl ?_
  refine ev_iaload de_Mo_isTurnHere_20 rfl (by omega) (by omega) (by omega) ?_
  refine ev_imul de_Mo_isTurnHere_21 ?_
  refine ev_iadd de_Mo_isTurnHere_22 ?_
  refine ev_istore_n (l' := [_, _]) de_Mo_isTurnHere_23 rfl (Nat.le_of_ble_eq_true rfl) rfl ?_
  refine ev_aload_n de_Mo_isTurnHere_24 rfl rfl ?_
  refine ev_getfield de_Mo_isTurnHere_25 rfl fl_Mo_20 rfl ?_
  refine ev_iload_n de_Mo_isTurnHere_28 rfl rfl ?_
  refine ev_aload_n de_Mo_isTurnHere_29 rfl rfl ?_
  refine ev_getfield de_Mo_isTurnHere_30 rfl fl_Mo_17 rfl ?_
  refine ev_aload_n de_Mo_isTurnHere_33 rfl rfl ?_
  refine ev_getfield de_Mo_isTurnHere_34 rfl fl_Mo_143 rfl ?_
  refine ev_iaload de_Mo_isTurnHere_37 rfl (by omega) (by omega) (by omega) ?_
  refine ev_iastore de_Mo_isTurnHere_38 rfl (by omega) (by omega) (by omega) ?_
  refine ev_world (w' := mo_W _ _ _ _ _ _ _ _ _ _ _ _ _ _ _ _ _ _ _ _ _ _ _ _ _ _ _ _ _ _ _ _ _ _ _ _ _) rfl ?_
  refine ev_aload_n de_Mo_isTurnHere_39 rfl rfl ?_
  refine ev_virtual (ci := 11) (mc := 0) (ms := 0) (bc := 0) (bs := 0) de_Mo_isTurnHere_40 (co_Mo_sum ht (by omega) hle.2 tx0 tx1 hnu hm0 hmB 0 (by decide) hl0 c hc (by omega) s0 hs) kb_Mo_180 ⟨im_Mo_sum, se_Mo_sum⟩ rfl rfl rfl (Nat.le_of_ble_eq_true rfl) (by decide) (Or.inl (fun r w1 h => by obtain ⟨nx, nu, wr, mk, le, sg, e, -⟩ := h; rw [e]; first | exact mo_Wn.trans mo_Wn.symm | rfl)) (fun r1 w1 hm1 => ?_)
  obtain ⟨nx1, nu1, wr1, mk1, le1, sg1, rfl, hnx1, hnu1, hmk1, hfr1, hc1⟩ := hm1; rcases hc1 with ⟨rfl, rfl, hle1, hX1⟩ | ⟨rfl, hwr1, hX1⟩
  · skip
    have hb := tk_sk_b tape hnx1.2
    have w1 := tk_isI_01 tape taped (tk_sk tape taped nx1) (Int64.ofInt 26982)
    have hle2b := tk_le_b tape hb.2
    refine ev_if_ne_t (tgt := 48) de_Mo_isTurnHere_43 (by decide) (by decide) (by decide) ?_
    refine ev_aload_n de_Mo_isTurnHere_48 rfl rfl ?_
    refine ev_getfield de_Mo_isTurnHere_49 rfl fl_Mo_20 rfl ?_
    refine ev_iload_n de_Mo_isTurnHere_52 rfl rfl ?_
    refine ev_iconst de_Mo_isTurnHere_53 ?_
    refine ev_iadd de_Mo_isTurnHere_54 ?_
    refine ev_aload_n de_Mo_isTurnHere_55 rfl rfl ?_
    refine ev_getfield de_Mo_isTurnHere_56 rfl fl_Mo_17 rfl ?_
    refine ev_aload_n de_Mo_isTurnHere_59 rfl rfl ?_
    refine ev_getfield de_Mo_isTurnHere_60 rfl fl_Mo_143 rfl ?_
    refine ev_iaload de_Mo_isTurnHere_63 rfl (by omega) (by omega) (by omega) ?_
    refine ev_iastore de_Mo_isTurnHere_64 rfl (by omega) (by omega) (by omega) ?_
    refine ev_world (w' := mo_W _ _ _ _ _ _ _ _ _ _ _ _ _ _ _ _ _ _ _ _ _ _ _ _ _ _ _ _ _ _ _ _ _ _ _ _ _) rfl ?_
    refine ev_aload_n de_Mo_isTurnHere_65 rfl rfl ?_
    refine ev_getfield de_Mo_isTurnHere_66 rfl fl_Mo_20 rfl ?_
    refine ev_iload_n de_Mo_isTurnHere_69 rfl rfl ?_
    refine ev_iconst de_Mo_isTurnHere_70 ?_
    refine ev_iadd de_Mo_isTurnHere_71 ?_
    refine ev_iconst de_Mo_isTurnHere_72 ?_
    refine ev_iastore de_Mo_isTurnHere_73 rfl (by omega) (by omega) (by omega) ?_
    refine ev_world (w' := mo_W _ _ _ _ _ _ _ _ _ _ _ _ _ _ _ _ _ _ _ _ _ _ _ _ _ _ _ _ _ _ _ _ _ _ _ _ _) rfl ?_
    refine ev_aload_n de_Mo_isTurnHere_74 rfl rfl ?_
    refine ev_ldc2i (n := 26982) de_Mo_isTurnHere_75 cn_Mo_207 (by decide) ?_
    refine ev_vv (ci := 11) de_Mo_isTurnHere_78 (co_Mo_takesWord ht hnx1.1 hnx1.2 (Int64.ofInt 26982)) kb_Mo_209 ⟨im_Mo_takesWord, se_Mo_takesWord⟩ rfl rfl rfl (Nat.le_of_ble_eq_true rfl) (by decide) rfl ?_
    refine ev_if_eq (tgt := 110) de_Mo_isTurnHere_81 (by decide) (by omega) (fun h81 => ?_) (fun h81 => ?_)
    · skip
      have hN : ¬ tk_isI tape taped (tk_sk tape taped nx1) (Int64.ofInt 26982) = 1 := by omega
      rw [if_neg hN]
      have eX : rs_turn tape taped text next made leng sign = .ok ((tk_sk tape taped nx1, mk1, le1, sg1), le1 text, -1) := by unfold rs_turn; rw [hX1]; exact if_neg hN
      refine ev_aload_n de_Mo_isTurnHere_110 rfl rfl ?_
      refine ev_getfield de_Mo_isTurnHere_111 rfl fl_Mo_20 rfl ?_
      refine ev_iload_n de_Mo_isTurnHere_114 rfl rfl ?_
      refine ev_iconst de_Mo_isTurnHere_115 ?_
      refine ev_iadd de_Mo_isTurnHere_116 ?_
      refine ev_aload_n de_Mo_isTurnHere_117 rfl rfl ?_
      refine ev_getfield de_Mo_isTurnHere_118 rfl fl_Mo_17 rfl ?_
      refine ev_aload_n de_Mo_isTurnHere_121 rfl rfl ?_
      refine ev_getfield de_Mo_isTurnHere_122 rfl fl_Mo_143 rfl ?_
      refine ev_iaload de_Mo_isTurnHere_125 rfl (by omega) (by omega) (by omega) ?_
      refine ev_iastore de_Mo_isTurnHere_126 rfl (by omega) (by omega) (by omega) ?_
      refine ev_world (w' := mo_W _ _ _ _ _ _ _ _ _ _ _ _ _ _ _ _ _ _ _ _ _ _ _ _ _ _ _ _ _ _ _ _ _ _ _ _ _) rfl ?_
      refine ev_aload_n de_Mo_isTurnHere_127 rfl rfl ?_
      refine ev_getfield de_Mo_isTurnHere_128 rfl fl_Mo_23 rfl ?_
      refine ev_aload_n de_Mo_isTurnHere_131 rfl rfl ?_
      refine ev_getfield de_Mo_isTurnHere_132 rfl fl_Mo_143 rfl ?_
      refine ev_dup2 de_Mo_isTurnHere_135 rfl rfl ?_
      refine ev_iaload de_Mo_isTurnHere_136 rfl (by omega) (by omega) (by omega) ?_
      refine ev_iconst de_Mo_isTurnHere_137 ?_
      refine ev_iadd de_Mo_isTurnHere_138 ?_
      refine ev_iastore de_Mo_isTurnHere_139 rfl (by omega) (by omega) (by omega) ?_
      refine ev_world (w' := mo_W _ _ _ _ _ _ _ _ _ _ _ _ _ _ _ _ _ _ _ _ _ _ _ _ _ _ _ _ _ _ _ _ _ _ _ _ _) rfl ?_
      refine ev_iconst de_Mo_isTurnHere_140 ?_
      exact ev_zreturn de_Mo_isTurnHere_141 rfl (by decide) (by first | exact ⟨_, _, _, _, _, _, _, _, _, _, _, rfl, ⟨by omega, hb.2⟩, hnu1, hmk1, hfr1, cl_fr_up (cl_fr_up (cl_fr_up (cl_fr_up hcf (by omega) (by omega)) (by omega) (by omega)) (by omega) (by omega)) (by omega) (by omega), Or.inl ⟨rfl, rfl, ⟨hle1.1, by omega⟩, rfl, _, _, eX, rfl⟩⟩ | exact ⟨_, _, _, _, _, _, _, _, _, _, _, rfl, hnx2, hnu2, hmk2, hfr2, cl_fr_up (cl_fr_up (cl_fr_up (cl_fr_up (cl_fr_up hcf (by omega) (by omega)) (by omega) (by omega)) (by omega) (by omega)) (by omega) (by omega)) (by omega) (by omega), Or.inl ⟨rfl, rfl, hle2, rfl, _, _, eX, by unfold rs_row; rw [ab_up2]⟩⟩)
    · skip
      have hN : tk_isI tape taped (tk_sk tape taped nx1) (Int64.ofInt 26982) = 1 := by omega
      rw [if_pos hN]
      refine ev_aload_n de_Mo_isTurnHere_84 rfl rfl ?_
      refine ev_getfield de_Mo_isTurnHere_85 rfl fl_Mo_20 rfl ?_
      refine ev_iload_n de_Mo_isTurnHere_88 rfl rfl ?_
      refine ev_iconst de_Mo_isTurnHere_89 ?_
      refine ev_iadd de_Mo_isTurnHere_90 ?_
      refine ev_aload_n de_Mo_isTurnHere_91 rfl rfl ?_
      refine ev_getfield de_Mo_isTurnHere_92 rfl fl_Mo_17 rfl ?_
      refine ev_aload_n de_Mo_isTurnHere_95 rfl rfl ?_
      refine ev_getfield de_Mo_isTurnHere_96 rfl fl_Mo_143 rfl ?_
      refine ev_iaload de_Mo_isTurnHere_99 rfl (by omega) (by omega) (by omega) ?_
      refine ev_iastore de_Mo_isTurnHere_100 rfl (by omega) (by omega) (by omega) ?_
      refine ev_world (w' := mo_W _ _ _ _ _ _ _ _ _ _ _ _ _ _ _ _ _ _ _ _ _ _ _ _ _ _ _ _ _ _ _ _ _ _ _ _ _) rfl ?_
      refine ev_aload_n de_Mo_isTurnHere_101 rfl rfl ?_
      refine ev_virtual (ci := 11) (mc := 0) (ms := 0) (bc := 0) (bs := 0) de_Mo_isTurnHere_102 (co_Mo_tested ht (by omega) hle2b.2 tx0 tx1 0 (by decide) c hc s0 hnu1 hmk1.1 hmk1.2 hle1.1 (by omega) hfr1) kb_Mo_212 ⟨im_Mo_tested, se_Mo_tested⟩ rfl rfl rfl (Nat.le_of_ble_eq_true rfl) (by decide) (Or.inl (fun r w1 h => by obtain ⟨nx, nu, wr, mk, le, sg, op, od, dp, e, -⟩ := h; rw [e]; first | exact mo_Wn.trans mo_Wn.symm | rfl)) (fun r1 w1 hm1 => ?_)
      obtain ⟨nx2, nu2, wr2, mk2, le2, sg2, op2, od2, hzz⟩ := hm1
      obtain ⟨dp2, rfl, hnx2, hnu2, hmk2, hfr2, hc2⟩ := hzz; rcases hc2 with ⟨rfl, rfl, hle2, hX2⟩ | ⟨rfl, hwr2, hX2⟩
      · skip
        have eX : rs_turn tape taped text next made leng sign = .ok ((nx2, mk2, le2, sg2), le1 text, le1 text) := by unfold rs_turn; rw [hX1]; show (if _ then _ else _) = _; rw [if_pos hN, hX2]
        refine ev_if_ne_t (tgt := 110) de_Mo_isTurnHere_105 (by decide) (by decide) (by decide) ?_
        refine ev_aload_n de_Mo_isTurnHere_110 rfl rfl ?_
        refine ev_getfield de_Mo_isTurnHere_111 rfl fl_Mo_20 rfl ?_
        refine ev_iload_n de_Mo_isTurnHere_114 rfl rfl ?_
        refine ev_iconst de_Mo_isTurnHere_115 ?_
        refine ev_iadd de_Mo_isTurnHere_116 ?_
        refine ev_aload_n de_Mo_isTurnHere_117 rfl rfl ?_
        refine ev_getfield de_Mo_isTurnHere_118 rfl fl_Mo_17 rfl ?_
        refine ev_aload_n de_Mo_isTurnHere_121 rfl rfl ?_
        refine ev_getfield de_Mo_isTurnHere_122 rfl fl_Mo_143 rfl ?_
        refine ev_iaload de_Mo_isTurnHere_125 rfl (by omega) (by omega) (by omega) ?_
        refine ev_iastore de_Mo_isTurnHere_126 rfl (by omega) (by omega) (by omega) ?_
        refine ev_world (w' := mo_W _ _ _ _ _ _ _ _ _ _ _ _ _ _ _ _ _ _ _ _ _ _ _ _ _ _ _ _ _ _ _ _ _ _ _ _ _) rfl ?_
        refine ev_aload_n de_Mo_isTurnHere_127 rfl rfl ?_
        refine ev_getfield de_Mo_isTurnHere_128 rfl fl_Mo_23 rfl ?_
        refine ev_aload_n de_Mo_isTurnHere_131 rfl rfl ?_
        refine ev_getfield de_Mo_isTurnHere_132 rfl fl_Mo_143 rfl ?_
        refine ev_dup2 de_Mo_isTurnHere_135 rfl rfl ?_
        refine ev_iaload de_Mo_isTurnHere_136 rfl (by omega) (by omega) (by omega) ?_
        refine ev_iconst de_Mo_isTurnHere_137 ?_
        refine ev_iadd de_Mo_isTurnHere_138 ?_
        refine ev_iastore de_Mo_isTurnHere_139 rfl (by omega) (by omega) (by omega) ?_
        refine ev_world (w' := mo_W _ _ _ _ _ _ _ _ _ _ _ _ _ _ _ _ _ _ _ _ _ _ _ _ _ _ _ _ _ _ _ _ _ _ _ _ _) rfl ?_
        refine ev_iconst de_Mo_isTurnHere_140 ?_
        exact ev_zreturn de_Mo_isTurnHere_141 rfl (by decide) (by first | exact ⟨_, _, _, _, _, _, _, _, _, _, _, rfl, ⟨by omega, hb.2⟩, hnu1, hmk1, hfr1, cl_fr_up (cl_fr_up (cl_fr_up (cl_fr_up hcf (by omega) (by omega)) (by omega) (by omega)) (by omega) (by omega)) (by omega) (by omega), Or.inl ⟨rfl, rfl, ⟨hle1.1, by omega⟩, rfl, _, _, eX, rfl⟩⟩ | exact ⟨_, _, _, _, _, _, _, _, _, _, _, rfl, hnx2, hnu2, hmk2, hfr2, cl_fr_up (cl_fr_up (cl_fr_up (cl_fr_up (cl_fr_up hcf (by omega) (by omega)) (by omega) (by omega)) (by omega) (by omega)) (by omega) (by omega)) (by omega) (by omega), Or.inl ⟨rfl, rfl, hle2, rfl, _, _, eX, by unfold rs_row; rw [ab_up2]⟩⟩)
      · skip
        refine ev_if_ne_f (tgt := 110) de_Mo_isTurnHere_105 (by decide) (by decide) (by decide) ?_
        refine ev_iconst de_Mo_isTurnHere_108 ?_
        exact ev_zreturn de_Mo_isTurnHere_109 rfl (by decide) ⟨_, _, _, _, _, _, _, _, _, _, _, rfl, hnx2, hnu2, hmk2, hfr2, cl_fr_up (cl_fr_up (cl_fr_up (cl_fr_up hcf (by omega) (by omega)) (by omega) (by omega)) (by omega) (by omega)) (by omega) (by omega), Or.inr ⟨rfl, hwr2, rfl, by unfold rs_turn; rw [hX1]; show (if _ then _ else _) = _; rw [if_pos hN, hX2]⟩⟩
  · skip
    refine ev_if_ne_f (tgt := 48) de_Mo_isTurnHere_43 (by decide) (by decide) (by decide) ?_
    refine ev_iconst de_Mo_isTurnHere_46 ?_
    exact ev_zreturn de_Mo_isTurnHere_47 rfl (by decide) ⟨_, _, _, _, _, _, _, _, _, _, _, rfl, hnx1, hnu1, hmk1, hfr1, cl_fr_up hcf (by omega) (by omega), Or.inr ⟨rfl, hwr1, rfl, by unfold rs_turn; rw [hX1]⟩⟩
end MO
