/-! the class's reading of a RULE against recursive descent: facts, tests, clauses, all -/
section TIE2
variable {f : Int → Int} {L : Int}
theorem a_cmo_c {s : Int} (hfb : ∀ j, -128 ≤ f j ∧ f j ≤ 127) : (¬ a_cmo (k_sign f L s) = 0 ↔ (tk_ch f L s = 60 ∨ tk_ch f L s = 61 ∨ tk_ch f L s = 62)) := by
  have hb := hfb s
  unfold a_cmo
  rcases k_cases f L s with k | k | k | k | k | k <;> constructor <;> intro h <;> ((repeat' split at h) <;> (repeat' split) <;> omega)
theorem a_cmo_r {s : Int} (hfb : ∀ j, -128 ≤ f j ∧ f j ≤ 127) (h : tk_ch f L s = 60 ∨ tk_ch f L s = 61 ∨ tk_ch f L s = 62) : a_cd (6 + rs_cs (tk_ch f L s) (rs_also f L s) + 16 * 0) = a_cmo (k_sign f L s) ∧ s < L ∧ k_end f L s = s + 1 + rs_also f L s ∧ k_end f L s ≤ L ∧ 0 ≤ rs_also f L s := by
  have hb := hfb s
  rcases k_cases f L s with k | k | k | k | k | k <;> first | (exfalso; omega) | skip
  · obtain ⟨k1, k2, k3, k4, k5, k6, k7⟩ := k
    have e : rs_also f L s = 1 := if_pos ⟨by omega, k1, k2⟩
    rw [e, k7, k5]
    exact ⟨by decide, by omega, by omega, by omega, by omega⟩
  · obtain ⟨k1, k2, k3, k4, k5, k6, k7⟩ := k
    have e : rs_also f L s = 1 := if_pos ⟨by omega, k1, k2⟩
    rw [e, k7, k5]
    exact ⟨by decide, by omega, by omega, by omega, by omega⟩
  · obtain ⟨k1, k2, k3, k4, k5, k6, k7, k8⟩ := k
    have e : rs_also f L s = 0 := if_neg (fun z => k4 ⟨z.2.1, z.2.2, by have := z.1; omega⟩)
    rw [e, k6]
    rw [k8] at h ⊢
    rcases h with h | h | h <;> (rw [h]; exact ⟨by decide, by omega, by omega, by omega, by omega⟩)
theorem cmp_tie {p c : Int} {ls : List Int} (hL : L ≤ 400) (hfb : ∀ j, -128 ≤ f j ∧ f j ≤ 127) (h0 : 0 ≤ p) (h1 : p ≤ L) (hc0 : 0 ≤ c) (hc : c ≤ 60) (hls : (ls.length : Int) ≤ p) : a_ok f L p 0 c ls (c_cmp f L p c) (a_cmp f 2 L (0, tk_sk f L p, c, ls)) := by
  have hv := sum_tie (f := f) hL hfb h0 h1 hc0 hc hls
  generalize hG : ((0, tk_sk f L p, c, ls) : a_S) = G at hv ⊢
  unfold c_cmp
  rcases hr : c_sum f L p c with e | ⟨p1, c1, l1⟩
  · rw [hr] at hv
    obtain ⟨v1, v2⟩ := hv
    refine ⟨v1, ?_⟩
    have h2 := d_cm1 (f := f) (K := 2) (L := L) (G := G) (by omega)
    rw [d_cmp1 (by omega), h2, v2]
  · rw [hr] at hv
    obtain ⟨v1, v2, v3, v4, v5, v6⟩ := hv
    have hs := tk_sk_b f v4
    dsimp only
    generalize hsd : tk_sk f L p1 = s at *
    have hll : (ls ++ l1.map a_cd).length = ls.length + l1.length := by rw [List.length_append, List.length_map]
    have hsg : a_sg f L (a_sum f 2 L G) = k_sign f L s := by rw [v1]; rfl
    by_cases q : tk_ch f L s = 60 ∨ tk_ch f L s = 61 ∨ tk_ch f L s = 62
    · rw [if_pos q]
      have hcm := a_cmo_r hfb q
      have e1 : a_cm1 f 2 L G = (0, s, c1, ls ++ l1.map a_cd) := by
        unfold a_cm1
        rw [hsg, if_neg ((a_cmo_c hfb).mpr q), v1]
      by_cases h6 : c1 = 60
      · rw [if_pos h6]
        refine ⟨by omega, ?_⟩
        have e2 := a_cnt_6 (s := s) (ls := ls ++ l1.map a_cd) (show 60 ≤ c1 by omega)
        unfold a_cmp
        rw [e1, d_em, d_sum (by rw [d_adv]; omega), d_adv, e2]
      · rw [if_neg h6]
        have e2 := a_cnt_l (s := s) (ls := ls ++ l1.map a_cd) (show 0 ≤ c1 by omega) (show c1 < 60 by omega)
        have hv2 := sum_tie (f := f) (p := s + 1 + rs_also f L s) (c := c1 + 1) (ls := ls ++ l1.map a_cd) hL hfb (by omega) (by omega) (by omega) (by omega) (by omega)
        unfold a_cmp
        rw [e1, e2, a_adv_l, hcm.2.2.1, hsg]
        rcases hr2 : c_sum f L (s + 1 + rs_also f L s) (c1 + 1) with e | ⟨p2, c2, l2⟩
        · rw [hr2] at hv2
          exact ⟨hv2.1, by rw [d_em]; exact hv2.2⟩
        · rw [hr2] at hv2
          obtain ⟨u1, u2, u3, u4, u5, u6⟩ := hv2
          have hl2 : (ls ++ l1.map a_cd ++ l2.map a_cd).length = ls.length + l1.length + l2.length := by rw [List.length_append, hll, List.length_map]
          refine ⟨?_, ?_, by omega, u4, by omega, u6⟩
          · rw [u1, a_em_l (by omega), List.map_append, List.map_append, List.map_cons, List.map_nil, hcm.1, ← List.append_assoc, ← List.append_assoc]
          · rw [List.length_append, List.length_append, List.length_singleton]
            omega
    · rw [if_neg q]
      refine ⟨by omega, ?_⟩
      have z : a_cmo (k_sign f L s) = 0 := Decidable.byContradiction (fun z => q ((a_cmo_c hfb).mp z))
      have e1 : (a_cm1 f 2 L G).1 = 1 + 8 * s + 0 := by
        unfold a_cm1
        rw [hsg, if_pos z, v1]
        rfl
      rw [d_cmp1 (by omega), e1]
def a_tie (f : Int → Int) (L : Int) (F : Int → Int → c_R) (F' : a_S → a_S) : Prop := ∀ (p c : Int) (ls : List Int), 0 ≤ p → p ≤ L → 0 ≤ c → c ≤ 60 → (ls.length : Int) ≤ p → a_ok f L p 0 c ls (F p c) (F' (0, tk_sk f L p, c, ls))
theorem k_wle {s : Int} {K : Nat} (h : s ≤ L) (hw : ¬ k_wd K f L s = -1) : k_end f L s = tk_le f L s ∧ s < tk_le f L s ∧ tk_le f L s ≤ L ∧ ¬ tk_ch f L s = 91 ∧ k_sign f L s = -3 := by
  have hk : k_kind f L s = 2 := Decidable.byContradiction (fun z => hw (if_neg z))
  have hle : k_end f L s = tk_le f L s ∧ s < L ∧ (97 ≤ f s ∧ f s ≤ 122) ∧ tk_ch f L s = f s % 256 ∧ k_sign f L s = -3 := by
    rcases k_cases f L s with k | k | k | k | k | k <;> omega
  have h1 := tk_le_b f h
  have h2 : tk_le f L s = tk_le f L (s + 1) := tk_to_s hle.2.1 (decide_eq_true ⟨hle.2.1, hle.2.2.1⟩)
  have h3 := tk_le_b f (show s + 1 ≤ L by omega)
  refine ⟨hle.1, by omega, h1.2, by omega, hle.2.2.2.2⟩
def a_b (b : Bool) : Int := if b then 1 else 0
theorem a_oa_l {b : Bool} {s c x y : Int} {ls : List Int} (hx : a_cd x = y) (h : (ls.length : Int) + a_b b ≤ 400) : a_oa (a_b b) y (0, s, c, ls) = (0, s, c, ls ++ (if b then [x] else []).map a_cd) ∧ ((if b then [x] else [] : List Int).length : Int) = a_b b := by
  unfold a_oa a_b at *
  cases b
  · refine ⟨?_, rfl⟩
    show ((0 : Int), s, c, ls) = ((0 : Int), s, c, ls ++ [])
    rw [List.append_nil]
  · have h : (ls.length : Int) + 1 ≤ 400 := h
    refine ⟨?_, rfl⟩
    rw [if_neg (by decide), a_em_l (by omega), ← hx]
    rfl
theorem a_b_b (b : Bool) : 0 ≤ a_b b ∧ a_b b ≤ 1 := by cases b <;> decide
theorem a_t2_o {o s c : Int} {ls : List Int} (hw : ¬ k_wd 2 f L s = 15) : a_t2 f 2 L o (0, s, c, ls) = a_oa o (-32) (0, s, c, ls) := by
  unfold a_t2 a_oa
  have q : ¬ a_wd f 2 L (0, s, c, ls) = 15 := hw
  rw [if_neg q]
theorem a_t2_15 {o s c : Int} {ls : List Int} (hw : k_wd 2 f L s = 15) : a_t2 f 2 L o (0, s, c, ls) = (0, s, c, ls) := by
  unfold a_t2
  have q : a_wd f 2 L (0, s, c, ls) = 15 := hw
  rw [if_pos q]
  split <;> rfl
theorem tst_tie (hL : L ≤ 400) {F : Int → Int → c_R} {F' : a_S → a_S} (hF : a_tie f L F F') : ∀ (n m : Nat) (p c : Int) (aa oo : Bool) (ls : List Int), 0 ≤ p → p ≤ L → L - p < n → 61 - c ≤ m → 0 ≤ c → c ≤ 60 → (ls.length : Int) + a_b aa + a_b oo ≤ p → a_ok f L p (a_b aa + a_b oo) c ls (c_tst f L F n p c aa oo) (a_tst f 2 L F' m (a_b aa) (a_b oo) (0, tk_sk f L p, c, ls))
  | 0, _, _, _, _, _, _, h0, h1, h2, _, _, _, _ => by omega
  | _ + 1, 0, _, _, _, _, _, h0, h1, h2, h3, _, _, _ => by omega
  | n + 1, m + 1, p, c, aa, oo, ls, h0, h1, h2, h3, h4, h5, hls => by
    have bt := a_b_b aa
    have ba := a_b_b oo
    have hv := hF p c ls h0 h1 h4 h5 (by omega)
    unfold c_tst
    rcases hr : F p c with e | ⟨p1, c1, l1⟩
    · rw [hr] at hv
      obtain ⟨v1, v2⟩ := hv
      refine ⟨v1, ?_⟩
      rw [d_tst1 (by omega), v2]
    · rw [hr] at hv
      obtain ⟨v1, v2, v3, v4, v5, v6⟩ := hv
      have hs := tk_sk_b f v4
      have hss := tk_sk_sk f L p1 v4
      dsimp only
      generalize hsd : tk_sk f L p1 = s at *
      have hll : (ls ++ l1.map a_cd).length = ls.length + l1.length := by rw [List.length_append, List.length_map]
      have o1 := a_oa_l (b := aa) (s := s) (c := c1) (x := 12 + 16 * 0) (y := -31) (ls := ls ++ l1.map a_cd) (by decide) (by omega)
      have hl2 : ((ls ++ l1.map a_cd) ++ (if aa then [12 + 16 * 0] else []).map a_cd).length = ls.length + l1.length + (if aa then [12 + 16 * 0] else [] : List Int).length := by rw [List.length_append, hll, List.length_map]
      have o2 := a_oa_l (b := oo) (s := s) (c := c1) (x := 13 + 16 * 0) (y := -32) (ls := (ls ++ l1.map a_cd) ++ (if aa then [12 + 16 * 0] else []).map a_cd) (by decide) (by omega)
      have hwd : a_wd f 2 L (F' (0, tk_sk f L p, c, ls)) = k_wd 2 f L s := by rw [v1]; rfl
      have hunf : a_tst f 2 L F' (m + 1) (a_b aa) (a_b oo) (0, tk_sk f L p, c, ls) = (if k_wd 2 f L s = 15 then a_tst f 2 L F' m 1 (if a_b oo = 0 then 0 else 1) (a_adv f L (a_t2 f 2 L (a_b oo) (a_oa (a_b aa) (-31) (0, s, c1, ls ++ l1.map a_cd)))) else if k_wd 2 f L s = 16 then a_tst f 2 L F' m 0 1 (a_adv f L (a_t2 f 2 L (a_b oo) (a_oa (a_b aa) (-31) (0, s, c1, ls ++ l1.map a_cd)))) else a_t2 f 2 L (a_b oo) (a_oa (a_b aa) (-31) (0, s, c1, ls ++ l1.map a_cd))) := by
        conv => lhs; unfold a_tst
        rw [hwd, v1]
      rw [hunf, o1.1]
      by_cases q1 : k_wd 2 f L s = 15
      · have he := k_wle (f := f) (K := 2) hs.2 (by omega)
        have hoo : (if a_b oo = 0 then (0 : Int) else 1) = a_b oo := by cases oo <;> rfl
        have ht : a_b true = 1 := rfl
        rw [if_pos ((k_2_15 hs.2).mpr q1), if_pos q1, a_t2_15 q1, a_adv_l, he.1, hoo]
        have ih := tst_tie hL hF n m (tk_le f L s) c1 true oo ((ls ++ l1.map a_cd) ++ (if aa then [12 + 16 * 0] else []).map a_cd) (by omega) (by omega) (by omega) (by omega) (by omega) v6 (by omega)
        refine a_ok_pre (l0 := l1 ++ (if aa then [12 + 16 * 0] else [])) (p' := tk_le f L s) (d' := a_b true + a_b oo) (c' := c1) ?_ (by omega) (by omega) (by rw [List.length_append]; omega)
        rw [List.map_append, ← List.append_assoc]
        exact ih
      · rw [if_neg (fun z => q1 ((k_2_15 hs.2).mp z)), if_neg q1, a_t2_o q1, o2.1]
        by_cases q2 : k_wd 2 f L s = 16
        · have he := k_wle (f := f) (K := 2) hs.2 (by omega)
          have ht : a_b true = 1 := rfl
          have hf0 : a_b false = 0 := rfl
          rw [if_pos ((k_2_16 hs.2).mpr q2), if_pos q2, a_adv_l, he.1]
          have ih := tst_tie hL hF n m (tk_le f L s) c1 false true ((ls ++ l1.map a_cd) ++ (if aa then [12 + 16 * 0] else []).map a_cd ++ (if oo then [13 + 16 * 0] else []).map a_cd) (by omega) (by omega) (by omega) (by omega) (by omega) v6 (by rw [List.length_append, hl2, List.length_map]; omega)
          refine a_ok_pre (l0 := (l1 ++ (if aa then [12 + 16 * 0] else [])) ++ (if oo then [13 + 16 * 0] else [])) (p' := tk_le f L s) (d' := a_b false + a_b true) (c' := c1) ?_ (by omega) (by omega) (by rw [List.length_append, List.length_append]; omega)
          rw [List.map_append, List.map_append, ← List.append_assoc, ← List.append_assoc]
          exact ih
        · rw [if_neg (fun z => q2 ((k_2_16 hs.2).mp z)), if_neg q2]
          refine ⟨by rw [hss, List.map_append, List.map_append, ← List.append_assoc, ← List.append_assoc], ?_, by omega, hs.2, by omega, v6⟩
          rw [List.length_append, List.length_append]
          omega
theorem sg_x {s x : Int} (hfb : ∀ j, -128 ≤ f j ∧ f j ≤ 127) (hx : x = 91 ∨ x = 93 ∨ x = 59) : (k_sign f L s = x ↔ tk_ch f L s = x) ∧ (tk_ch f L s = x → k_end f L s = s + 1 ∧ s < L) := by
  have hb := hfb s
  rcases k_cases f L s with k | k | k | k | k | k <;> constructor <;> (try constructor) <;> intro h <;> omega
theorem fact_tie (hL : L ≤ 400) (hfb : ∀ j, -128 ≤ f j ∧ f j ≤ 127) : ∀ k : Nat, a_tie f L (c_fact f L k) (a_fact f 2 L k)
  | 0 => fun p c ls h0 h1 h4 h5 hls => by
    have hs := tk_sk_b f h1
    have hss := tk_sk_sk f L p h1
    have hcm := cmp_tie (f := f) (p := tk_sk f L p) (c := c) (ls := ls) hL hfb (by omega) hs.2 h4 h5 (by omega)
    rw [hss] at hcm
    unfold c_fact a_fact
    generalize hsd : tk_sk f L p = s at *
    have q1 : a_sg f L (0, s, c, ls) = k_sign f L s := rfl
    have q2 : a_wd f 2 L (0, s, c, ls) = k_wd 2 f L s := rfl
    have sx := sg_x (L := L) (s := s) (x := 91) hfb (by omega)
    rw [q1, q2]
    by_cases w : k_wd 2 f L s = 14
    · have he := k_wle (f := f) (K := 2) hs.2 (by omega)
      rw [if_pos ((k_2_14 hs.2).mpr w), if_neg (fun z => he.2.2.2.1 (sx.1.mp z)), if_pos w]
      exact ⟨by omega, rfl⟩
    · rw [if_neg (fun z => w ((k_2_14 hs.2).mp z)), if_neg w]
      by_cases b : tk_ch f L s = 91
      · rw [if_pos b, if_pos (sx.1.mpr b)]
        exact ⟨by omega, rfl⟩
      · rw [if_neg b, if_neg (fun z => b (sx.1.mp z))]
        rcases hr : c_cmp f L s c with e | ⟨p1, c1, l1⟩
        · rw [hr] at hcm; exact hcm
        · rw [hr] at hcm
          obtain ⟨v1, v2, v3, v4, v5, v6⟩ := hcm
          exact ⟨v1, by omega, by omega, v4, v5, v6⟩
  | k + 1 => fun p c ls h0 h1 h4 h5 hls => by
    have hs := tk_sk_b f h1
    have hss := tk_sk_sk f L p h1
    have ihk := fact_tie hL hfb k
    have hcm := cmp_tie (f := f) (p := tk_sk f L p) (c := c) (ls := ls) hL hfb (by omega) hs.2 h4 h5 (by omega)
    rw [hss] at hcm
    unfold c_fact a_fact
    generalize hsd : tk_sk f L p = s at *
    have q1 : a_sg f L (0, s, c, ls) = k_sign f L s := rfl
    have q2 : a_wd f 2 L (0, s, c, ls) = k_wd 2 f L s := rfl
    have sx := sg_x (L := L) (s := s) (x := 91) hfb (by omega)
    rw [q1, q2]
    by_cases w : k_wd 2 f L s = 14
    · have he := k_wle (f := f) (K := 2) hs.2 (by omega)
      rw [if_pos ((k_2_14 hs.2).mpr w), if_neg (fun z => he.2.2.2.1 (sx.1.mp z)), if_pos w, a_adv_l, he.1]
      have ih := ihk (tk_le f L s) c ls (by omega) (by omega) h4 h5 (by omega)
      unfold c_nt
      rcases hr : c_fact f L k (tk_le f L s) c with e | ⟨p1, c1, l1⟩
      · rw [hr] at ih
        exact ⟨ih.1, by rw [d_em]; exact ih.2⟩
      · rw [hr] at ih
        obtain ⟨v1, v2, v3, v4, v5, v6⟩ := ih
        have hll : (ls ++ l1.map a_cd).length = ls.length + l1.length := by rw [List.length_append, List.length_map]
        refine ⟨?_, by rw [List.length_append, List.length_singleton]; omega, by omega, v4, v5, v6⟩
        rw [v1, a_em_l (by omega), List.map_append, ← List.append_assoc]
        rfl
    · rw [if_neg (fun z => w ((k_2_14 hs.2).mp z)), if_neg w]
      by_cases b : tk_ch f L s = 91
      · have hb1 := sx.2 b
        rw [if_pos b, if_pos (sx.1.mpr b), a_adv_l, hb1.1]
        have hf0 : a_b false = 0 := rfl
        have ih := tst_tie (f := f) hL ihk 401 61 (s + 1) c false false ls (by omega) (by omega) (by omega) (by omega) h4 h5 (by omega)
        rw [hf0] at ih
        unfold c_br
        rcases hr : c_tst f L (c_fact f L k) 401 (s + 1) c false false with e | ⟨p1, c1, l1⟩
        · rw [hr] at ih
          exact ⟨ih.1, by rw [d_br (by have := ih.1; have := ih.2; omega)]; exact ih.2⟩
        · rw [hr] at ih
          obtain ⟨v1, v2, v3, v4, v5, v6⟩ := ih
          have hs1 := tk_sk_b f v4
          dsimp only
          have sy := sg_x (L := L) (s := tk_sk f L p1) (x := 93) hfb (by omega)
          by_cases b2 : tk_ch f L (tk_sk f L p1) = 93
          · have hb2 := sy.2 b2
            rw [if_pos b2]
            refine ⟨?_, by omega, by omega, by omega, v5, v6⟩
            rw [v1]
            have e : a_br f L (0, tk_sk f L p1, c1, ls ++ l1.map a_cd) = a_adv f L (0, tk_sk f L p1, c1, ls ++ l1.map a_cd) := if_pos (sy.1.mpr b2)
            rw [e, a_adv_l, hb2.1]
          · rw [if_neg b2]
            refine ⟨by omega, ?_⟩
            rw [v1]
            have e : a_br f L (0, tk_sk f L p1, c1, ls ++ l1.map a_cd) = a_fail 0 (0, tk_sk f L p1, c1, ls ++ l1.map a_cd) := if_neg (fun z => b2 (sy.1.mp z))
            rw [e]
            rfl
      · rw [if_neg b, if_neg (fun z => b (sx.1.mp z))]
        rcases hr : c_cmp f L s c with e | ⟨p1, c1, l1⟩
        · rw [hr] at hcm; exact hcm
        · rw [hr] at hcm
          obtain ⟨v1, v2, v3, v4, v5, v6⟩ := hcm
          exact ⟨v1, by omega, by omega, v4, v5, v6⟩
def a_cc (k : c_C) : List Int := match k.2 with
  | none => k.1.map a_cd ++ [-34]
  | some l2 => k.1.map a_cd ++ l2.map a_cd ++ [-35]
def a_okC (f : Int → Int) (L p c : Int) (ls : List Int) : Except Int (Int × Int × c_C) → a_S → Prop
  | .error e, G => (1 ≤ e ∧ e ≤ 3205) ∧ G.1 = e
  | .ok (p1, c1, k), G => G = (0, tk_sk f L p1, c1, ls ++ a_cc k) ∧ ((a_cc k).length : Int) ≤ p1 - p ∧ p < p1 ∧ p1 ≤ L ∧ c + 1 ≤ c1 ∧ c1 ≤ 60
theorem d_cl2 {G : a_S} (h : ¬ G.1 = 0) : (a_cl2 f 2 L G).1 = G.1 := by
  unfold a_cl2
  rw [if_neg (by rw [d_wd h]; decide), d_em]
theorem turn_tie {p c : Int} {ls : List Int} (hL : L ≤ 400) (hfb : ∀ j, -128 ≤ f j ∧ f j ≤ 127) (h0 : 0 ≤ p) (hp1 : p ≤ L) (hw : k_wd 2 f L p = 12) (hc0 : 0 ≤ c) (hc : c ≤ 60) (hls : (ls.length : Int) ≤ p) : a_okC f L p c ls (c_turn f L p c) (a_cl2 f 2 L (a_sum f 2 L (a_adv f L (0, p, c, ls)))) := by
  have he := k_wle (f := f) (K := 2) hp1 (by omega)
  have hv := sum_tie (f := f) (p := tk_le f L p) (c := c) (ls := ls) hL hfb (by omega) (by omega) hc0 hc (by omega)
  rw [a_adv_l, he.1]
  unfold c_turn
  rcases hr : c_sum f L (tk_le f L p) c with e | ⟨p1, c1, l1⟩
  · rw [hr] at hv
    obtain ⟨v1, v2⟩ := hv
    exact ⟨v1, by rw [d_cl2 (by omega)]; exact v2⟩
  · rw [hr] at hv
    obtain ⟨v1, v2, v3, v4, v5, v6⟩ := hv
    have hs := tk_sk_b f v4
    have hss := tk_sk_sk f L p1 v4
    rw [v1]
    dsimp only
    have hll : (ls ++ l1.map a_cd).length = ls.length + l1.length := by rw [List.length_append, List.length_map]
    generalize hsd : tk_sk f L p1 = s at *
    have q2 : a_wd f 2 L (0, s, c1, ls ++ l1.map a_cd) = k_wd 2 f L s := rfl
    unfold a_cl2
    rw [q2]
    by_cases w : k_wd 2 f L s = 13
    · have he2 := k_wle (f := f) (K := 2) hs.2 (by omega)
      have hf0 : a_b false = 0 := rfl
      rw [if_pos ((k_2_13 hs.2).mpr w), if_pos w, a_adv_l, he2.1]
      have ih := tst_tie (f := f) hL (fact_tie hL hfb 10) 401 61 (tk_le f L s) c1 false false (ls ++ l1.map a_cd) (by omega) (by omega) (by omega) (by omega) (by omega) v6 (by omega)
      rw [hf0] at ih
      rcases hr2 : c_tst f L (c_fact f L 10) 401 (tk_le f L s) c1 false false with e | ⟨p2, c2, l2⟩
      · rw [hr2] at ih
        exact ⟨ih.1, by rw [d_em]; exact ih.2⟩
      · rw [hr2] at ih
        obtain ⟨u1, u2, u3, u4, u5, u6⟩ := ih
        have hl2 : (ls ++ l1.map a_cd ++ l2.map a_cd).length = ls.length + l1.length + l2.length := by rw [List.length_append, hll, List.length_map]
        refine ⟨?_, ?_, by omega, u4, by omega, u6⟩
        · rw [u1, a_em_l (by omega)]
          show ((0 : Int), tk_sk f L p2, c2, ls ++ l1.map a_cd ++ l2.map a_cd ++ [-35]) = ((0 : Int), tk_sk f L p2, c2, ls ++ (l1.map a_cd ++ l2.map a_cd ++ [-35]))
          rw [List.append_assoc, List.append_assoc, List.append_assoc]
        · show ((l1.map a_cd ++ l2.map a_cd ++ [-35]).length : Int) ≤ _
          rw [List.length_append, List.length_append, List.length_map, List.length_map, List.length_singleton]
          omega
    · rw [if_neg (fun z => w ((k_2_13 hs.2).mp z)), if_neg w]
      refine ⟨?_, ?_, by omega, hs.2, v5, v6⟩
      · rw [a_em_l (by omega), hss]
        show ((0 : Int), s, c1, ls ++ l1.map a_cd ++ [-34]) = ((0 : Int), s, c1, ls ++ (l1.map a_cd ++ [-34]))
        rw [List.append_assoc]
      · show ((l1.map a_cd ++ [-34]).length : Int) ≤ _
        rw [List.length_append, List.length_map, List.length_singleton]
        omega
theorem d_line {n : Nat} {G : a_S} (h : ¬ (a_cl1 f 2 L n G).1 = 0) : (a_cl2 f 2 L (a_sum f 2 L (a_adv f L (a_cl1 f 2 L n G)))).1 = (a_cl1 f 2 L n G).1 := by
  have h1 : (a_sum f 2 L (a_adv f L (a_cl1 f 2 L n G))).1 = (a_cl1 f 2 L n G).1 := by rw [d_sum (by rw [d_adv]; exact h), d_adv]
  rw [d_cl2 (by rw [h1]; exact h), h1]
theorem rcl_tie {p c lines : Int} {n : Nat} {ls : List Int} (hL : L ≤ 400) (hfb : ∀ j, -128 ≤ f j ∧ f j ≤ 127) (hn : (n : Int) + lines = 12) (h0 : 0 ≤ p) (h1 : p ≤ L) (hc0 : 0 ≤ c) (hc : c ≤ 60) (hls : (ls.length : Int) ≤ p) : a_okC f L p c ls (c_rcl f L p lines c) (a_cl2 f 2 L (a_sum f 2 L (a_adv f L (a_cl1 f 2 L n (0, tk_sk f L p, c, ls))))) := by
  have hs := tk_sk_b f h1
  unfold c_rcl
  generalize hsd : tk_sk f L p = s at *
  have q2 : a_wd f 2 L (0, s, c, ls) = k_wd 2 f L s := rfl
  by_cases w : k_wd 2 f L s = 12
  · rw [if_pos ((k_2_12 hs.2).mpr w)]
    by_cases h12 : lines = 12
    · rw [if_pos h12]
      have e : a_cl1 f 2 L n (0, s, c, ls) = a_fail 4 (0, s, c, ls) := by
        unfold a_cl1
        rw [q2, if_pos w, if_pos (by omega)]
      have e2 : (a_fail 4 (0, s, c, ls)).1 = 1 + 8 * s + 4 := rfl
      refine ⟨by omega, ?_⟩
      rw [d_line (by rw [e, e2]; omega), e, e2]
    · rw [if_neg h12]
      have e : a_cl1 f 2 L n (0, s, c, ls) = (0, s, c, ls) := by
        unfold a_cl1
        rw [q2, if_pos w, if_neg (by omega)]
      rw [e]
      have ht := turn_tie (f := f) (p := s) (c := c) (ls := ls) hL hfb (by omega) hs.2 w hc0 hc (by omega)
      rcases hr : c_turn f L s c with e | ⟨p1, c1, k⟩
      · rw [hr] at ht; exact ht
      · rw [hr] at ht
        obtain ⟨v1, v2, v3, v4, v5, v6⟩ := ht
        exact ⟨v1, by omega, by omega, v4, v5, v6⟩
  · rw [if_neg (fun z => w ((k_2_12 hs.2).mp z))]
    have e : a_cl1 f 2 L n (0, s, c, ls) = a_fail 0 (0, s, c, ls) := by
      unfold a_cl1
      rw [q2, if_neg w]
    have e2 : (a_fail 0 (0, s, c, ls)).1 = 1 + 8 * s + 0 := rfl
    refine ⟨by omega, ?_⟩
    rw [d_line (by rw [e, e2]; omega), e, e2]
def c_ral (f : Int → Int) (L : Int) (n : Nat) (p lines c : Int) : Except Int (Int × List c_C) := match c_rcl f L p lines c with
  | .error e => .error e
  | .ok (p2, c2, k) => match c_rgo f L n p2 (lines + 1) c2 with
    | .error e => .error e
    | .ok (c3, ks) => .ok (c3, k :: ks)
theorem c_rall_ral : c_rall f L = c_ral f L 12 0 0 0 := rfl
theorem c_rgo_ral {n : Nat} {p lines c : Int} : c_rgo f L (n + 1) p lines c = if tk_ch f L (tk_sk f L p) = 59 then c_ral f L n (tk_sk f L p + 1) lines c else if tk_ch f L (tk_sk f L p) = -1 then .ok (c, []) else .error (1 + 8 * tk_sk f L p + 0) := rfl
def a_fin (f : Int → Int) (L : Int) (G : a_S) : a_S := if a_sg f L G = -1 then G else a_fail 0 G
def a_okA (ls : List Int) : Except Int (Int × List c_C) → a_S → Prop
  | .error e, G => (1 ≤ e ∧ e ≤ 3205) ∧ G.1 = e
  | .ok (_, ks), G => G.1 = 0 ∧ G.2.2.2 = ls ++ (ks.map a_cc).flatten
theorem al_tie (hL : L ≤ 400) (hfb : ∀ j, -128 ≤ f j ∧ f j ≤ 127) : ∀ (n : Nat) (p c lines : Int) (ls : List Int), (n : Int) + lines = 12 → 0 ≤ p → p ≤ L → 0 ≤ c → c ≤ 60 → (ls.length : Int) ≤ p → a_okA ls (c_ral f L n p lines c) (a_fin f L (a_al f 2 L (n + 1) (0, tk_sk f L p, c, ls))) := by
  intro n
  induction n with
  | zero =>
    intro p c lines ls hn h0 h1 hc0 hc hls
    have hr := rcl_tie (f := f) (n := 0) hL hfb hn h0 h1 hc0 hc hls
    unfold c_ral
    rcases hq : c_rcl f L p lines c with e | ⟨p2, c2, k⟩
    · rw [hq] at hr
      obtain ⟨v1, v2⟩ := hr
      refine ⟨v1, ?_⟩
      have hsg := d_sg (f := f) (L := L) (G := (a_cl2 f 2 L (a_sum f 2 L (a_adv f L (a_cl1 f 2 L 0 (0, tk_sk f L p, c, ls)))))) (by omega)
      have e1 : a_al f 2 L (0 + 1) (0, tk_sk f L p, c, ls) = a_cl2 f 2 L (a_sum f 2 L (a_adv f L (a_cl1 f 2 L 0 (0, tk_sk f L p, c, ls)))) := if_neg (by rw [hsg]; decide)
      rw [e1]
      unfold a_fin
      rw [if_pos hsg]
      exact v2
    · exfalso
      have hl : lines = 12 := by omega
      unfold c_rcl at hq
      rw [if_pos hl] at hq
      split at hq <;> cases hq
  | succ n ih =>
    intro p c lines ls hn h0 h1 hc0 hc hls
    have hr := rcl_tie (f := f) (n := n + 1) hL hfb (by omega) h0 h1 hc0 hc hls
    unfold c_ral
    rcases hq : c_rcl f L p lines c with e | ⟨p2, c2, k⟩
    · rw [hq] at hr
      obtain ⟨v1, v2⟩ := hr
      refine ⟨v1, ?_⟩
      have hsg := d_sg (f := f) (L := L) (G := (a_cl2 f 2 L (a_sum f 2 L (a_adv f L (a_cl1 f 2 L (n + 1) (0, tk_sk f L p, c, ls)))))) (by omega)
      have e1 : a_al f 2 L (n + 1 + 1) (0, tk_sk f L p, c, ls) = a_cl2 f 2 L (a_sum f 2 L (a_adv f L (a_cl1 f 2 L (n + 1) (0, tk_sk f L p, c, ls)))) := if_neg (by omega)
      rw [e1]
      unfold a_fin
      rw [if_pos hsg]
      exact v2
    · rw [hq] at hr
      obtain ⟨v1, v2, v3, v4, v5, v6⟩ := hr
      have hs := tk_sk_b f v4
      dsimp only
      rw [c_rgo_ral]
      have e0 : a_al f 2 L (n + 1 + 1) (0, tk_sk f L p, c, ls) = (if a_sg f L (0, tk_sk f L p2, c2, ls ++ a_cc k) = 59 then a_al f 2 L (n + 1) (a_adv f L (0, tk_sk f L p2, c2, ls ++ a_cc k)) else (0, tk_sk f L p2, c2, ls ++ a_cc k)) := by
        conv => lhs; unfold a_al
        rw [v1]
      rw [e0]
      have q1 : a_sg f L (0, tk_sk f L p2, c2, ls ++ a_cc k) = k_sign f L (tk_sk f L p2) := rfl
      rw [q1]
      have sx := sg_x (L := L) (s := tk_sk f L p2) (x := 59) hfb (by omega)
      by_cases b : tk_ch f L (tk_sk f L p2) = 59
      · have hb := sx.2 b
        rw [if_pos b, if_pos (sx.1.mpr b), a_adv_l, hb.1]
        have := ih (tk_sk f L p2 + 1) c2 (lines + 1) (ls ++ a_cc k) (by omega) (by omega) (by omega) (by omega) v6 (by rw [List.length_append]; omega)
        rcases hq2 : c_ral f L n (tk_sk f L p2 + 1) (lines + 1) c2 with e | ⟨c3, ks⟩
        · rw [hq2] at this; exact this
        · rw [hq2] at this
          exact ⟨this.1, by rw [this.2, List.map_cons, List.flatten_cons, List.append_assoc]⟩
      · rw [if_neg b, if_neg (fun z => b (sx.1.mp z))]
        unfold a_fin
        rw [q1]
        have hend : k_sign f L (tk_sk f L p2) = -1 ↔ tk_ch f L (tk_sk f L p2) = -1 := by
          have hb := hfb (tk_sk f L p2)
          rcases k_cases f L (tk_sk f L p2) with k | k | k | k | k | k <;> constructor <;> intro h <;> omega
        by_cases b2 : tk_ch f L (tk_sk f L p2) = -1
        · rw [if_pos b2, if_pos (hend.mpr b2)]
          refine ⟨rfl, ?_⟩
          show ls ++ a_cc k = ls ++ ([k].map a_cc).flatten
          rw [List.map_cons, List.map_nil, List.flatten_cons, List.flatten_nil, List.append_nil]
        · rw [if_neg b2, if_neg (fun z => b2 (hend.mp z))]
          exact ⟨by omega, rfl⟩
/-- the class reads a RULE's text just as it is to be read -/
theorem all_tie (hL0 : 0 ≤ L) (hL : L ≤ 400) (hfb : ∀ j, -128 ≤ f j ∧ f j ≤ 127) : a_okA [] (c_rall f L) (a_all f 2 L (0, tk_sk f L 0, 0, [])) := by
  rw [c_rall_ral]
  exact al_tie hL hfb 12 0 0 0 [] (by omega) (Int.le_refl _) hL0 (by omega) (by omega) (Int.le_refl _)
end TIE2
