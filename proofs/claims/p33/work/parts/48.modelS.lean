section MO
variable {tape : Int → Int} {taped : Int} {rules : Int} {sign : Int → Int} {leng : Int → Int} {clause : Int → Int} {clauses : Int → Int} {read : Int → Int} {next : Int} {wrong : Int} {number : Int} {text : Int} {made : Int} {deep : Int} {lines : Int} {opn : Int → Int} {opened : Int} {stack : Int → Int64} {top : Int} {word : Int → Int64} {said : Int → Int} {xx : Int} {was : Int → Int} {undone : Int} {kept : Int → Int} {sumOf : Int → Int} {faced : Int → Int} {slotAt : Int → Int} {dayAt : Int → Int} {row : Int → Int} {bestRow : Int → Int} {tMany : Int} {tMost : Int} {drawX : Int64} {images : Int → Int} {imageX : Int → Int} {isMade : Int → Int}
/-! the signs of a text run clean -/
theorem sp_rk_app {word : Int → Int64} {code : Int → Int} : ∀ (n m : Nat) (b : Int) (S S1 : List Int64), sp_rk word code n b S = some S1 → sp_rk word code (n + m) b S = sp_rk word code m (b + n) S1
  | 0, m, b, S, S1, h => by
    have h2 : some S = some S1 := h
    cases h2
    rw [Nat.zero_add, show b + ((0 : Nat) : Int) = b by omega]
  | n + 1, m, b, S, S1, h => by
    obtain ⟨st', h1, h2, h3⟩ := sp_rk_s h
    rw [show n + 1 + m = (n + m) + 1 by omega, sp_rk, h1]
    show (if st'.length ≤ 60 then sp_rk word code (n + m) (b + 1) st' else none) = _
    rw [if_pos h2, sp_rk_app n m (b + 1) st' S1 h3, show b + 1 + (n : Int) = b + ((n + 1 : Nat) : Int) by omega]
theorem sp_rk_cg {word : Int → Int64} {c1 c2 : Int → Int} : ∀ (n : Nat) (b : Int) (S : List Int64), (∀ k, b ≤ k → k < b + n → c1 k = c2 k) → sp_rk word c1 n b S = sp_rk word c2 n b S
  | 0, _, _, _ => rfl
  | n + 1, b, S, h => by
    rw [sp_rk, sp_rk, h b (by omega) (by omega)]
    split
    · split
      · exact sp_rk_cg n (b + 1) _ (fun k h0 h1 => h k (by omega) (by omega))
      · rfl
    · rfl
def seg (word : Int → Int64) (t : Int) (sg : Int → Int) (b e : Int) (S : List Int64) : Option (List Int64) := sp_rk word (fun j => sg (400 * t + j)) (e - b).toNat b S
theorem seg_0 {word : Int → Int64} {t : Int} {sg : Int → Int} {b : Int} {S : List Int64} : seg word t sg b b S = some S := by
  unfold seg
  rw [Int.sub_self]
  rfl
theorem seg_app {word : Int → Int64} {t : Int} {sg : Int → Int} {b e f : Int} {S S1 : List Int64} (h1 : b ≤ e) (h2 : e ≤ f) (h : seg word t sg b e S = some S1) : seg word t sg b f S = seg word t sg e f S1 := by
  unfold seg at h ⊢
  rw [show (f - b).toNat = (e - b).toNat + (f - e).toNat by omega, sp_rk_app _ _ _ _ _ h, show b + ((e - b).toNat : Int) = e by omega]
theorem seg_cg {word : Int → Int64} {t : Int} {sg sg2 : Int → Int} {b e : Int} {S : List Int64} (h : ∀ k, 400 * t + b ≤ k → k < 400 * t + e → sg k = sg2 k) : seg word t sg b e S = seg word t sg2 b e S := sp_rk_cg _ _ _ (fun k h0 h1 => h (400 * t + k) (by omega) (by omega))
theorem seg_1 {word : Int → Int64} {t : Int} {sg : Int → Int} {b : Int} {S S1 : List Int64} {o : Int} (ho : sg (400 * t + b) = o) (h : sp_op word o S = some S1) (hl : S1.length ≤ 60) : seg word t sg b (b + 1) S = some S1 := by
  unfold seg
  rw [show (b + 1 - b).toNat = 0 + 1 by omega, sp_rk]
  show (match sp_op word (sg (400 * t + b)) S with | some st' => if st'.length ≤ 60 then sp_rk word _ 0 (b + 1) st' else none | none => none) = _
  rw [ho, h]
  show (if S1.length ≤ 60 then sp_rk word _ 0 (b + 1) S1 else none) = _
  rw [if_pos hl]
  rfl
theorem seg_bin {word : Int → Int64} {t : Int} {sg : Int → Int} {b s : Int} {S : List Int64} {x y : Int64} (ho : sg (400 * t + b) = s + 16 * 0) (hs : 2 ≤ s ∧ s ≤ 14 ∧ s ≠ 11) (hl : (S.length : Int) + 1 ≤ 60) : seg word t sg b (b + 1) (y :: x :: S) = some (sp_one s x y :: S) := by
  refine seg_1 ho ?_ (by rw [List.length_cons]; omega)
  unfold sp_op
  have e : (s + 16 * 0) % 16 = s := by omega
  rw [if_pos (by omega), e, if_neg (by omega), if_neg (by omega), if_neg (by omega)]
theorem seg_not {word : Int → Int64} {t : Int} {sg : Int → Int} {b : Int} {S : List Int64} {y : Int64} (ho : sg (400 * t + b) = 11 + 16 * 0) (hl : (S.length : Int) + 1 ≤ 60) : seg word t sg b (b + 1) (y :: S) = some ((1 - y) :: S) := by
  refine seg_1 ho ?_ (by rw [List.length_cons]; omega)
  unfold sp_op
  rw [if_pos (by omega), if_neg (by omega), if_neg (by omega), if_pos (by omega)]
theorem seg_num {word : Int → Int64} {t : Int} {sg : Int → Int} {b v : Int} {S : List Int64} (ho : sg (400 * t + b) = 0 + 16 * v) (hv : 0 ≤ v ∧ v ≤ 99999) (hl : (S.length : Int) + 1 ≤ 60) : ∃ z, seg word t sg b (b + 1) S = some (z :: S) := by
  refine ⟨Int64.ofInt ((0 + 16 * v) / 16), seg_1 ho ?_ (by rw [List.length_cons]; omega)⟩
  unfold sp_op
  rw [if_pos (by omega), if_pos (by omega)]
theorem seg_word {word : Int → Int64} {t : Int} {sg : Int → Int} {b v : Int} {S : List Int64} (ho : sg (400 * t + b) = 1 + 16 * v) (hv : 0 ≤ v ∧ v ≤ 11) (hl : (S.length : Int) + 1 ≤ 60) : ∃ z, seg word t sg b (b + 1) S = some (z :: S) := by
  refine ⟨word ((1 + 16 * v) / 16), seg_1 ho ?_ (by rw [List.length_cons]; omega)⟩
  unfold sp_op
  rw [if_pos (by omega), if_neg (by omega), if_pos (by omega), if_pos (by omega)]
def pend : List Int → Nat
  | [] => 0
  | s :: K => if s = 12 ∨ s = 13 then pend K + 1 else pend K
/-- a piece that leaves one number more -/
def pg (t md : Int) (le sg : Int → Int) (z : pz) : Prop := le t ≤ z.2.2.1 t ∧ md < z.2.1 ∧ (∀ k, k < 400 * t + le t → z.2.2.2 k = sg k) ∧ ∀ (word : Int → Int64) (S : List Int64), (S.length : Int) + (z.2.1 - md) ≤ 60 → ∃ v, seg word t z.2.2.2 (le t) (z.2.2.1 t) S = some (v :: S)
/-- a piece that goes on with a number -/
def pl (t md : Int) (le sg : Int → Int) (z : pz) : Prop := le t ≤ z.2.2.1 t ∧ md ≤ z.2.1 ∧ (∀ k, k < 400 * t + le t → z.2.2.2 k = sg k) ∧ ∀ (word : Int → Int64) (v : Int64) (S : List Int64), (S.length : Int) + 1 + (z.2.1 - md) ≤ 60 → ∃ v2, seg word t z.2.2.2 (le t) (z.2.2.1 t) (v :: S) = some (v2 :: S)
theorem rs_num_v {tape : Int → Int} {taped nx a b : Int} (h : rs_num tape taped 0 99999 nx = .ok (a, b)) : 0 ≤ b ∧ b ≤ 99999 := by
  unfold rs_num at h
  split at h
  · split at h
    · rename_i h2
      cases h
      unfold tk_nI at h2
      have c := Decidable.byContradiction (fun z => by rw [if_neg z] at h2; exact absurd h2 (by decide))
      exact c.2.2
    · exact nomatch h
  · exact nomatch h
theorem rs_val_g {tape : Int → Int} {taped t nx mk : Int} {le sg : Int → Int} {z : pz} (e : rs_val tape taped t nx mk le sg = .ok z) : pg t mk le sg z := by
  unfold rs_val at e
  split at e
  · split at e
    · exact nomatch e
    · rename_i n1 v hq
      split at e
      · exact nomatch e
      · cases e
        unfold pg pz_put
        dsimp only
        rw [ab_upe]
        exact ⟨by omega, by omega, fun k hk => ab_upn _ _ (by omega), fun word S hS => seg_num (v := v) (ab_upe _ _ _) (rs_num_v hq) (by omega)⟩
  · split at e
    · exact nomatch e
    · rename_i hw
      split at e
      · exact nomatch e
      · cases e
        have hw2 := rs_word_b tape taped (tk_sk tape taped nx)
        unfold pg pz_put
        dsimp only
        rw [ab_upe]
        exact ⟨by omega, by omega, fun k hk => ab_upn _ _ (by omega), fun word S hS => seg_word (v := rs_word tape taped (tk_sk tape taped nx)) (ab_upe _ _ _) (by omega) (by omega)⟩
theorem rs_top_b {b : Int} : 2 ≤ rs_top b ∧ rs_top b ≤ 14 ∧ rs_top b ≠ 11 := by
  unfold rs_top
  repeat' split
  all_goals omega
theorem rs_sop_b {b : Int} : 2 ≤ rs_sop b ∧ rs_sop b ≤ 14 ∧ rs_sop b ≠ 11 := by
  unfold rs_sop
  repeat' split
  all_goals omega
theorem rs_tl_g {tape : Int → Int} {taped t : Int} : ∀ (n : Nat) {nx md : Int} {le sg : Int → Int} {z : pz}, rs_tl tape taped t n nx md le sg = .ok z → pl t md le sg z
  | 0, _, _, _, _, _, e => nomatch e
  | n + 1, nx, md, le, sg, z, e => by
    unfold rs_tl at e
    split at e
    · split at e
      · exact nomatch e
      · rename_i n1 mk1 le1 sg1 h1
        have q1 := rs_val_g h1
        have q2 := rs_tl_g n e
        obtain ⟨a1, a2, a3, a4⟩ := q1
        obtain ⟨b1, b2, b3, b4⟩ := q2
        dsimp only at a1 a2 a3 a4
        rw [ab_upe] at b1 b3 b4
        refine ⟨by omega, by omega, fun k hk => ?_, fun word v S hS => ?_⟩
        · rw [b3 k (by omega), ab_upn _ _ (by omega), a3 k hk]
        · obtain ⟨v1, c1⟩ := a4 word (v :: S) (by rw [List.length_cons]; push_cast; omega)
          have c2 : seg word t z.2.2.2 (le t) (le1 t) (v :: S) = some (v1 :: v :: S) := by
            rw [← c1]
            exact seg_cg (fun k h0 h1 => by rw [b3 k (by omega), ab_upn _ _ (by omega)])
          have c3 : seg word t z.2.2.2 (le1 t) (le1 t + 1) (v1 :: v :: S) = some (sp_one (rs_top (tape (tk_sk tape taped nx))) v v1 :: S) := by
            refine seg_bin (s := rs_top (tape (tk_sk tape taped nx))) (by rw [b3 _ (by omega), ab_upe]) rs_top_b ?_
            omega
          obtain ⟨v2, c4⟩ := b4 word _ S (by omega)
          refine ⟨v2, ?_⟩
          rw [seg_app (e := le1 t) a1 (by omega) c2, seg_app (e := le1 t + 1) (by omega) b1 c3]
          exact c4
    · cases e
      exact ⟨Int.le_refl _, Int.le_refl _, fun _ _ => rfl, fun word v S _ => ⟨v, by rw [seg_0]⟩⟩
theorem rs_term_g {tape : Int → Int} {taped t nx md : Int} {le sg : Int → Int} {z : pz} (e : rs_term tape taped t nx md le sg = .ok z) : pg t md le sg z := by
  unfold rs_term at e
  split at e
  · exact nomatch e
  · rename_i n1 mk1 le1 sg1 h1
    obtain ⟨a1, a2, a3, a4⟩ := rs_val_g h1
    obtain ⟨b1, b2, b3, b4⟩ := rs_tl_g 401 e
    dsimp only at a1 a2 a3 a4
    refine ⟨by omega, by omega, fun k hk => by rw [b3 k (by omega), a3 k hk], fun word S hS => ?_⟩
    obtain ⟨v1, c1⟩ := a4 word S (by omega)
    have c2 : seg word t z.2.2.2 (le t) (le1 t) S = some (v1 :: S) := by
      rw [← c1]
      exact seg_cg (fun k h0 h1 => b3 k (by omega))
    obtain ⟨v2, c4⟩ := b4 word v1 S (by omega)
    exact ⟨v2, by rw [seg_app (e := le1 t) a1 b1 c2]; exact c4⟩
theorem rs_sl_g {tape : Int → Int} {taped t : Int} : ∀ (n : Nat) {nx md : Int} {le sg : Int → Int} {z : pz}, rs_sl tape taped t n nx md le sg = .ok z → pl t md le sg z
  | 0, _, _, _, _, _, e => nomatch e
  | n + 1, nx, md, le, sg, z, e => by
    unfold rs_sl at e
    split at e
    · split at e
      · exact nomatch e
      · rename_i n1 mk1 le1 sg1 h1
        have q1 := rs_term_g h1
        have q2 := rs_sl_g n e
        obtain ⟨a1, a2, a3, a4⟩ := q1
        obtain ⟨b1, b2, b3, b4⟩ := q2
        dsimp only at a1 a2 a3 a4
        rw [ab_upe] at b1 b3 b4
        refine ⟨by omega, by omega, fun k hk => ?_, fun word v S hS => ?_⟩
        · rw [b3 k (by omega), ab_upn _ _ (by omega), a3 k hk]
        · obtain ⟨v1, c1⟩ := a4 word (v :: S) (by rw [List.length_cons]; push_cast; omega)
          have c2 : seg word t z.2.2.2 (le t) (le1 t) (v :: S) = some (v1 :: v :: S) := by
            rw [← c1]
            exact seg_cg (fun k h0 h1 => by rw [b3 k (by omega), ab_upn _ _ (by omega)])
          have c3 : seg word t z.2.2.2 (le1 t) (le1 t + 1) (v1 :: v :: S) = some (sp_one (rs_sop (tape (tk_sk tape taped nx))) v v1 :: S) := by
            refine seg_bin (s := rs_sop (tape (tk_sk tape taped nx))) (by rw [b3 _ (by omega), ab_upe]) rs_sop_b ?_
            omega
          obtain ⟨v2, c4⟩ := b4 word _ S (by omega)
          refine ⟨v2, ?_⟩
          rw [seg_app (e := le1 t) a1 (by omega) c2, seg_app (e := le1 t + 1) (by omega) b1 c3]
          exact c4
    · cases e
      exact ⟨Int.le_refl _, Int.le_refl _, fun _ _ => rfl, fun word v S _ => ⟨v, by rw [seg_0]⟩⟩
theorem rs_sum_g {tape : Int → Int} {taped t nx md : Int} {le sg : Int → Int} {z : pz} (e : rs_sum tape taped t nx md le sg = .ok z) : pg t md le sg z := by
  unfold rs_sum at e
  split at e
  · exact nomatch e
  · rename_i n1 mk1 le1 sg1 h1
    obtain ⟨a1, a2, a3, a4⟩ := rs_term_g h1
    obtain ⟨b1, b2, b3, b4⟩ := rs_sl_g 401 e
    dsimp only at a1 a2 a3 a4
    refine ⟨by omega, by omega, fun k hk => by rw [b3 k (by omega), a3 k hk], fun word S hS => ?_⟩
    obtain ⟨v1, c1⟩ := a4 word S (by omega)
    have c2 : seg word t z.2.2.2 (le t) (le1 t) S = some (v1 :: S) := by
      rw [← c1]
      exact seg_cg (fun k h0 h1 => b3 k (by omega))
    obtain ⟨v2, c4⟩ := b4 word v1 S (by omega)
    exact ⟨v2, by rw [seg_app (e := le1 t) a1 b1 c2]; exact c4⟩
theorem rs_cs_b (ch al : Int) : 0 ≤ rs_cs ch al ∧ rs_cs ch al ≤ 4 := by
  unfold rs_cs
  repeat' split
  all_goals omega
theorem rs_cmp_g {tape : Int → Int} {taped t nx md : Int} {le sg : Int → Int} {z : pz} (e : rs_cmp tape taped t nx md le sg = .ok z) : pg t md le sg z := by
  unfold rs_cmp at e
  split at e
  · exact nomatch e
  · rename_i n1 md1 le1 sg1 h1
    obtain ⟨a1, a2, a3, a4⟩ := rs_sum_g h1
    dsimp only at a1 a2 a3 a4
    split at e
    · have hcs := rs_cs_b (tk_ch tape taped (tk_sk tape taped n1)) (rs_also tape taped (tk_sk tape taped n1))
      generalize rs_cs (tk_ch tape taped (tk_sk tape taped n1)) (rs_also tape taped (tk_sk tape taped n1)) = s at e hcs
      unfold rs_c2 at e
      split at e
      · exact nomatch e
      · unfold rs_c3 at e
        split at e
        · exact nomatch e
        · rename_i n2 md2 le2 sg2 h2
          obtain ⟨b1, b2, b3, b4⟩ := rs_sum_g h2
          dsimp only at b1 b2 b3 b4
          cases e
          unfold pg pz_put
          dsimp only
          rw [ab_upe]
          refine ⟨by omega, by omega, fun k hk => by rw [ab_upn _ _ (by omega), b3 k (by omega), a3 k hk], fun word S hS => ?_⟩
          obtain ⟨v1, c1⟩ := a4 word S (by omega)
          obtain ⟨v2, c2⟩ := b4 word (v1 :: S) (by rw [List.length_cons]; push_cast; omega)
          have c3 : seg word t (ab_up sg2 (400 * t + le2 t) (6 + s + 16 * 0)) (le t) (le1 t) S = some (v1 :: S) := by
            rw [← c1]
            exact seg_cg (fun k h0 h1 => by rw [ab_upn _ _ (by omega), b3 k (by omega)])
          have c4 : seg word t (ab_up sg2 (400 * t + le2 t) (6 + s + 16 * 0)) (le1 t) (le2 t) (v1 :: S) = some (v2 :: v1 :: S) := by
            rw [← c2]
            exact seg_cg (fun k h0 h1 => ab_upn _ _ (by omega))
          refine ⟨sp_one (6 + s) v1 v2, ?_⟩
          rw [seg_app (e := le1 t) a1 (by omega) c3, seg_app (e := le2 t) b1 (by omega) c4]
          exact seg_bin (ab_upe _ _ _) (by omega) (by omega)
    · exact nomatch e
theorem rs_fact_g {tape : Int → Int} {taped t : Int} : ∀ (n : Nat) {nx md : Int} {le sg : Int → Int} {K : List Int} {z : pk}, rs_fact tape taped t n nx md le sg K = .ok z → pg t md le sg (z.1, z.2.1, z.2.2.1, z.2.2.2.1) ∧ pend z.2.2.2.2 = pend K
  | 0, _, _, _, _, _, _, e => nomatch e
  | n + 1, nx, md, le, sg, K, z, e => by
    unfold rs_fact at e
    split at e
    · split at e
      · exact nomatch e
      · have q := rs_fact_g n e
        exact ⟨q.1, q.2.trans rfl⟩
    · split at e
      · split at e
        · exact nomatch e
        · have q := rs_fact_g n e
          exact ⟨q.1, q.2.trans rfl⟩
      · split at e
        · exact nomatch e
        · rename_i h2
          cases e
          exact ⟨rs_cmp_g h2, rfl⟩
/-- settling: what is on the stack of numbers goes with what is pending -/
theorem rs_set_g {t least : Int} : ∀ (K : List Int) (le sg : Int → Int), st_el K → 1 ≤ least → (∀ k, k < 400 * t + le t → (rs_set t least K le sg).2.2 k = sg k) ∧ pend (rs_set t least K le sg).1 ≤ pend K ∧ ∀ (word : Int → Int64) (S : List Int64), S.length = pend K + 1 → pend K + 1 ≤ 60 → ∃ S2 : List Int64, S2.length = pend (rs_set t least K le sg).1 + 1 ∧ seg word t (rs_set t least K le sg).2.2 (le t) ((rs_set t least K le sg).2.1 t) S = some S2
  | [], le, sg, _, _ => ⟨fun _ _ => rfl, Nat.le_refl _, fun word S h _ => ⟨S, h, seg_0⟩⟩
  | s :: K, le, sg, hel, hl => by
    unfold rs_set
    by_cases c : least ≤ rs_str s
    · rw [if_pos c]
      have ih := rs_set_g (t := t) (least := least) K (ab_up le t (le t + 1)) (ab_up sg (400 * t + le t) (s + 16 * 0)) hel.2 hl
      have hn := rs_set_n (t := t) (least := least) K (ab_up le t (le t + 1)) (ab_up sg (400 * t + le t) (s + 16 * 0))
      generalize rs_set t least K (ab_up le t (le t + 1)) (ab_up sg (400 * t + le t) (s + 16 * 0)) = z at ih hn ⊢
      rw [ab_upe] at ih hn
      obtain ⟨a1, a2, a3⟩ := ih
      have s91 : s ≠ 91 := fun z => by rw [z] at c; have e : rs_str 91 = 0 := rfl; omega
      refine ⟨fun k hk => by rw [a1 k (by omega), ab_upn _ _ (by omega)], ?_, fun word S hS h60 => ?_⟩
      · show pend z.1 ≤ (if s = 12 ∨ s = 13 then pend K + 1 else pend K)
        split <;> omega
      · have ho : z.2.2 (400 * t + le t) = s + 16 * 0 := by rw [a1 _ (by omega), ab_upe]
        rcases S with _ | ⟨y, S⟩
        · simp at hS
        · by_cases d : s = 11
          · subst d
            have e1 : pend (11 :: K) = pend K := rfl
            rw [e1] at hS h60
            rw [List.length_cons] at hS
            obtain ⟨S2, b1, b2⟩ := a3 word ((1 - y) :: S) (by rw [List.length_cons]; exact hS) h60
            exact ⟨S2, b1, by rw [seg_app (e := le t + 1) (by omega) hn.2 (seg_not ho (by omega))]; exact b2⟩
          · have e1 : pend (s :: K) = pend K + 1 := by
              show (if s = 12 ∨ s = 13 then _ else _) = _
              rw [if_pos (by rcases hel.1 with z | z | z | z <;> omega)]
            rw [e1] at hS h60
            rw [List.length_cons] at hS
            rcases S with _ | ⟨x, S⟩
            · simp at hS
            · rw [List.length_cons] at hS
              obtain ⟨S2, b1, b2⟩ := a3 word (sp_one s x y :: S) (by rw [List.length_cons]; omega) (by omega)
              exact ⟨S2, b1, by rw [seg_app (e := le t + 1) (by omega) hn.2 (seg_bin ho (by rcases hel.1 with z | z | z | z <;> omega) (by omega))]; exact b2⟩
    · rw [if_neg c]
      exact ⟨fun _ _ => rfl, Nat.le_refl _, fun word S h _ => ⟨S, h, seg_0⟩⟩
end MO
