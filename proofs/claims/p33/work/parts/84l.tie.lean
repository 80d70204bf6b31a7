/-! the class's reading of a RULE against recursive descent: values, sums, comparisons -/
def a_cd (x : Int) : Int := if x % 16 = 0 then x / 16 else if x % 16 = 1 then -1 - x / 16 else if x % 16 = 2 then -21 else if x % 16 = 3 then -22 else if x % 16 = 4 then -23 else if x % 16 = 5 then -24 else if x % 16 = 14 then -25 else if x % 16 = 6 then -26 else if x % 16 = 7 then -27 else if x % 16 = 8 then -28 else if x % 16 = 9 then -29 else if x % 16 = 10 then -30 else if x % 16 = 11 then -33 else if x % 16 = 12 then -31 else -32
def a_ok (f : Int → Int) (L p d c : Int) (ls : List Int) : c_R → a_S → Prop
  | .error e, G => (1 ≤ e ∧ e ≤ 3205) ∧ G.1 = e
  | .ok (p1, c1, l), G => G = (0, tk_sk f L p1, c1, ls ++ l.map a_cd) ∧ (l.length : Int) ≤ p1 - p + d ∧ p < p1 ∧ p1 ≤ L ∧ c + 1 ≤ c1 ∧ c1 ≤ 60
theorem k_cases (f : Int → Int) (L s : Int) :
    (L ≤ s ∧ k_kind f L s = 0 ∧ k_sign f L s = -1 ∧ k_end f L s = s ∧ tk_ch f L s = -1) ∨
    (s < L ∧ (48 ≤ f s ∧ f s ≤ 57) ∧ k_kind f L s = 1 ∧ k_sign f L s = -2 ∧ k_end f L s = tk_de f L s ∧ tk_ch f L s = f s % 256) ∨
    (s < L ∧ (97 ≤ f s ∧ f s ≤ 122) ∧ k_kind f L s = 2 ∧ k_sign f L s = -3 ∧ k_end f L s = tk_le f L s ∧ tk_ch f L s = f s % 256) ∨
    (s + 1 < L ∧ f (s + 1) = 61 ∧ f s = 60 ∧ k_kind f L s = 3 ∧ k_sign f L s = 256 ∧ k_end f L s = s + 2 ∧ tk_ch f L s = 60) ∨
    (s + 1 < L ∧ f (s + 1) = 61 ∧ f s = 62 ∧ k_kind f L s = 3 ∧ k_sign f L s = 257 ∧ k_end f L s = s + 2 ∧ tk_ch f L s = 62) ∨
    (s < L ∧ ¬ (48 ≤ f s ∧ f s ≤ 57) ∧ ¬ (97 ≤ f s ∧ f s ≤ 122) ∧ ¬ (s + 1 < L ∧ f (s + 1) = 61 ∧ (f s = 60 ∨ f s = 62)) ∧ k_kind f L s = 4 ∧ k_sign f L s = f s % 256 ∧ k_end f L s = s + 1 ∧ tk_ch f L s = f s % 256) := by
  by_cases h0 : L ≤ s
  · have hk := kk_0 (f := f) h0
    refine Or.inl ⟨h0, hk, ?_, ?_, if_neg (by omega)⟩
    · unfold k_sign; rw [hk]; rfl
    · unfold k_end; rw [hk]; rfl
  · have hc : tk_ch f L s = f s % 256 := if_pos (by omega)
    by_cases h1 : 48 ≤ f s ∧ f s ≤ 57
    · have hk := kk_1 (f := f) (L := L) (by omega) h1
      refine Or.inr (Or.inl ⟨by omega, h1, hk, ?_, ?_, hc⟩)
      · unfold k_sign; rw [hk]; rfl
      · unfold k_end; rw [hk]; rfl
    · by_cases h2 : 97 ≤ f s ∧ f s ≤ 122
      · have hk := kk_2 (f := f) (L := L) (by omega) h2
        refine Or.inr (Or.inr (Or.inl ⟨by omega, h2, hk, ?_, ?_, hc⟩))
        · unfold k_sign; rw [hk]; rfl
        · unfold k_end; rw [hk]; rfl
      · by_cases h3 : s + 1 < L ∧ f (s + 1) = 61 ∧ (f s = 60 ∨ f s = 62)
        · have hk := kk_3 h3
          have he : k_end f L s = s + 2 := by unfold k_end; rw [hk]; rfl
          rcases h3 with ⟨a1, a2, a3 | a3⟩
          · refine Or.inr (Or.inr (Or.inr (Or.inl ⟨a1, a2, a3, hk, ?_, he, by omega⟩)))
            unfold k_sign; rw [hk, a3]; rfl
          · refine Or.inr (Or.inr (Or.inr (Or.inr (Or.inl ⟨a1, a2, a3, hk, ?_, he, by omega⟩))))
            unfold k_sign; rw [hk, a3]; rfl
        · have hk := kk_4 (by omega) h1 h2 h3
          refine Or.inr (Or.inr (Or.inr (Or.inr (Or.inr ⟨by omega, h1, h2, h3, hk, ?_, ?_, hc⟩))))
          · unfold k_sign; rw [hk]; rfl
          · unfold k_end; rw [hk]; rfl
section DEAD
variable {f : Int → Int} {K : Nat} {L : Int} {G : a_S}
theorem d_em {x : Int} : (a_em x G).1 = G.1 := a_em_1.1
theorem d_oe {x : Int} : (a_oe x G).1 = G.1 := by unfold a_oe; split; rfl; exact d_em
theorem d_oa {b x : Int} : (a_oa b x G).1 = G.1 := by unfold a_oa; split; rfl; exact d_em
theorem d_t2 {o : Int} : (a_t2 f K L o G).1 = G.1 := by unfold a_t2; split; rfl; split; rfl; exact d_em
theorem d_adv : (a_adv f L G).1 = G.1 := by unfold a_adv; split; (rename_i h; exact h.symm); rfl
theorem d_fail {k : Int} (h : ¬ G.1 = 0) : a_fail k G = G := if_neg h
theorem d_cnt (h : ¬ G.1 = 0) : (a_cnt G).1 = G.1 := by unfold a_cnt; split; (rw [d_fail h]; rfl); rfl
theorem d_chk (h : ¬ G.1 = 0) : (a_chk f K L G).1 = G.1 := by
  unfold a_chk
  rw [d_fail h, d_fail h]
  (repeat' split) <;> exact d_cnt h
theorem d_vl (h : ¬ G.1 = 0) : (a_vl f K L G).1 = G.1 := by
  unfold a_vl
  split <;> (rw [d_em]; exact d_chk h)
theorem d_h (h : ¬ G.1 = 0) : (a_h f K L G).1 = G.1 := by unfold a_h; rw [d_adv]; exact d_vl h
theorem d_sg (h : ¬ G.1 = 0) : a_sg f L G = -1 := if_neg h
theorem d_wd (h : ¬ G.1 = 0) : a_wd f K L G = -1 := if_neg h
/-- a step of a sum whose value is at fault -/
theorem d_sl1 {n : Nat} {t a : Int} (h : ¬ (a_h f K L G).1 = 0) : (a_sl f K L (n + 1) t a G).1 = (a_h f K L G).1 := by
  have hs := d_sg (f := f) (L := L) h
  have e : a_sl f K L (n + 1) t a G = a_oe a (a_oe t (a_h f K L G)) := (if_pos (by rw [hs]; decide)).trans (if_pos (by rw [hs]; decide))
  rw [e, d_oe, d_oe]
theorem d_sum (h : ¬ G.1 = 0) : (a_sum f K L G).1 = G.1 := by
  have hh := d_h (f := f) (K := K) (L := L) h
  have := d_sl1 (f := f) (K := K) (L := L) (n := 60) (t := 0) (a := 0) (G := G) (by rw [hh]; exact h)
  rw [hh] at this
  exact this
theorem d_cm1 (h : ¬ (a_sum f K L G).1 = 0) : (a_cm1 f K L G).1 = (a_sum f K L G).1 := by
  unfold a_cm1
  rw [d_fail h]
  split <;> rfl
theorem d_cmp1 (h : ¬ (a_cm1 f K L G).1 = 0) : (a_cmp f K L G).1 = (a_cm1 f K L G).1 := by
  unfold a_cmp
  have h1 := d_cnt h
  rw [d_em, d_sum (by rw [d_adv, h1]; exact h), d_adv, h1]
theorem d_br (h : ¬ G.1 = 0) : (a_br f L G).1 = G.1 := by
  unfold a_br
  rw [d_fail h]
  split
  · exact d_adv
  · rfl
theorem d_tst1 {F : a_S → a_S} {n : Nat} {a o : Int} (h : ¬ (F G).1 = 0) : (a_tst f K L F (n + 1) a o G).1 = (F G).1 := by
  have hs := d_wd (f := f) (K := K) (L := L) h
  have e : a_tst f K L F (n + 1) a o G = a_t2 f K L o (a_oa a (-31) (F G)) := (if_neg (by omega)).trans (if_neg (by omega))
  rw [e, d_t2, d_oa]
end DEAD
section TIE
variable {f : Int → Int} {L : Int}
theorem a_em_l {x s c e : Int} {ls : List Int} (h : (ls.length : Int) < 400) : a_em x (e, s, c, ls) = (e, s, c, ls ++ [x]) := if_pos (show ls.length < 400 by omega)
theorem a_adv_l {s c : Int} {ls : List Int} : a_adv f L (0, s, c, ls) = (0, tk_sk f L (k_end f L s), c, ls) := rfl
theorem a_cnt_l {s c : Int} {ls : List Int} (h0 : 0 ≤ c) (h1 : c < 60) : a_cnt (0, s, c, ls) = (0, s, c + 1, ls) := by
  have e : a_cnt (0, s, c, ls) = a_ct1 (0, s, c, ls) := if_neg (show ¬ 60 ≤ c by omega)
  rw [e]
  show (0, s, a_w (c + 1), ls) = _
  have : a_w (c + 1) = c + 1 := ab_ti (by omega)
  rw [this]
theorem a_cnt_6 {s c : Int} {ls : List Int} (h1 : 60 ≤ c) : (a_cnt (0, s, c, ls)).1 = 1 + 8 * s + 3 := by
  have e : a_cnt (0, s, c, ls) = a_ct1 (a_fail 3 (0, s, c, ls)) := if_pos (show 60 ≤ c by omega)
  rw [e]
  rfl
theorem val_tie {p c : Int} {ls : List Int} (hL : L ≤ 400) (h0 : 0 ≤ p) (h1 : p ≤ L) (hc0 : 0 ≤ c) (hc : c ≤ 60) (hls : (ls.length : Int) ≤ p) : a_ok f L p 0 c ls (c_val f L p c) (a_h f 2 L (0, tk_sk f L p, c, ls)) := by
  have hs := tk_sk_b f h1
  have hss := tk_sk_sk f L p h1
  generalize hsd : tk_sk f L p = s at hs hss
  have hrw := k_word (f := f) (L := L) (s := s) hs.2
  have hwb := k_wd_r (f := f) (L := L) (s := s) k_B2.1 k_B2.2.1
  unfold c_val
  rw [hsd]
  by_cases hd : tk_dg f L s = true
  · have hd2 := of_decide_eq_true hd
    rcases k_cases f L s with k | k | k | k | k | k
    · omega
    · obtain ⟨k1, k2, k3, k4, k5, k6⟩ := k
      have hw : k_wd 2 f L s = -1 := by unfold k_wd; rw [k3]; rfl
      have hn : k_num f L s = ct_num f L s := by unfold k_num; rw [k3]; rfl
      have hde := tk_de_b f hs.2
      have hdp := tk_de_p hd
      have hnb := tk_num_b (tape := f) (taped := L) (i := s) (tk_de f L s - s).toNat (fun k hk => tk_dgs hs.2 (tk_de f L s - s).toNat (by omega) k hk)
      rw [if_pos hd]
      unfold rs_num
      rw [hss, if_pos hd]
      by_cases h5 : tk_de f L s - s ≤ 5
      · have hI : tk_nI f L s 0 99999 = 1 := if_pos ⟨hd, h5, hnb.1, hnb.2.1⟩
        rw [if_pos hI]
        dsimp only
        have hct : ct_num f L s = tk_num f s (tk_de f L s - s).toNat := if_pos h5
        have e1 : a_chk f 2 L (0, s, c, ls) = a_cnt (0, s, c, ls) := by
          unfold a_chk
          have q1 : a_wd f 2 L (0, s, c, ls) = -1 := hw
          have q2 : a_sg f L (0, s, c, ls) = -2 := k4
          have q3 : a_nb f L (0, s, c, ls) = ct_num f L s := hn
          rw [if_neg (by omega), if_neg (by omega), if_neg (by omega)]
        by_cases h6 : c = 60
        · rw [if_pos h6]
          have e2 := a_cnt_6 (s := s) (ls := ls) (show 60 ≤ c by omega)
          refine ⟨by omega, ?_⟩
          have e3 : (a_vl f 2 L (0, s, c, ls)).1 = (a_cnt (0, s, c, ls)).1 := by
            unfold a_vl
            rw [e1]
            split <;> exact d_em
          show (a_adv f L (a_vl f 2 L (0, s, c, ls))).1 = _
          rw [d_adv, e3, e2]
        · rw [if_neg h6]
          have e2 := a_cnt_l (s := s) (ls := ls) hc0 (show c < 60 by omega)
          rw [e2] at e1
          refine ⟨?_, by simp only [List.length_singleton]; omega, by omega, hde.2, by omega, by omega⟩
          show a_adv f L (a_vl f 2 L (0, s, c, ls)) = _
          have e3 : a_vl f 2 L (0, s, c, ls) = a_em (ct_num f L s) (0, s, c + 1, ls) := by
            unfold a_vl
            rw [e1]
            have q1 : a_wd f 2 L (0, s, c + 1, ls) = -1 := hw
            have q3 : a_nb f L (0, s, c + 1, ls) = ct_num f L s := hn
            rw [if_pos q1, q3]
          rw [e3, a_em_l (by omega), a_adv_l, k5, hct]
          have q : a_cd (0 + 16 * tk_num f s (tk_de f L s - s).toNat) = tk_num f s (tk_de f L s - s).toNat := by
            unfold a_cd
            rw [if_pos (by omega)]
            omega
          rw [List.map_cons, List.map_nil, q]
      · have hI : ¬ tk_nI f L s 0 99999 = 1 := by
          unfold tk_nI
          rw [if_neg (fun z => h5 z.2.1)]
          decide
        rw [if_neg hI]
        refine ⟨by omega, ?_⟩
        have hct : ct_num f L s = -1 := if_neg h5
        have e1 : a_chk f 2 L (0, s, c, ls) = a_cnt (a_fail 1 (0, s, c, ls)) := by
          unfold a_chk
          have q1 : a_wd f 2 L (0, s, c, ls) = -1 := hw
          have q2 : a_sg f L (0, s, c, ls) = -2 := k4
          have q3 : a_nb f L (0, s, c, ls) = ct_num f L s := hn
          rw [if_neg (by omega), if_neg (by omega), if_pos (by omega)]
        have e2 : a_fail 1 (0, s, c, ls) = (1 + 8 * s + 1, s, c, ls) := rfl
        have e3 : (a_vl f 2 L (0, s, c, ls)).1 = 1 + 8 * s + 1 := by
          unfold a_vl
          rw [e1, e2]
          split <;> (rw [d_em, d_cnt (show ¬ (1 + 8 * s + 1) = 0 by omega)])
        show (a_adv f L (a_vl f 2 L (0, s, c, ls))).1 = _
        rw [d_adv, e3]
    · omega
    · omega
    · omega
    · omega
  · rw [if_neg hd, hrw]
    have hsg : ¬ a_sg f L (0, s, c, ls) = -2 := by
      show ¬ k_sign f L s = -2
      have : ¬ (s < L ∧ 48 ≤ f s ∧ f s ≤ 57) := fun z => hd (decide_eq_true z)
      rcases k_cases f L s with k | k | k | k | k | k <;> omega
    by_cases hw : ¬ k_wd 2 f L s = -1 ∧ k_wd 2 f L s < 12
    · rw [if_pos hw.2, if_neg (by omega)]
      have hk : k_kind f L s = 2 := Decidable.byContradiction (fun z => hw.1 (if_neg z))
      have hle : k_end f L s = tk_le f L s ∧ s < L ∧ (97 ≤ f s ∧ f s ≤ 122) := by
        rcases k_cases f L s with k | k | k | k | k | k <;> omega
      have hle2 : s < tk_le f L s ∧ tk_le f L s ≤ L := by
        have h1 := tk_le_b f hs.2
        have h2 : tk_le f L s = tk_le f L (s + 1) := tk_to_s hle.2.1 (decide_eq_true ⟨hle.2.1, hle.2.2⟩)
        have h3 := tk_le_b f (show s + 1 ≤ L by omega)
        omega
      have e1 : a_chk f 2 L (0, s, c, ls) = a_cnt (0, s, c, ls) := if_pos hw
      by_cases h6 : c = 60
      · rw [if_pos h6]
        have e2 := a_cnt_6 (s := s) (ls := ls) (show 60 ≤ c by omega)
        refine ⟨by omega, ?_⟩
        have e3 : (a_vl f 2 L (0, s, c, ls)).1 = (a_cnt (0, s, c, ls)).1 := by
          unfold a_vl
          rw [e1]
          split <;> exact d_em
        show (a_adv f L (a_vl f 2 L (0, s, c, ls))).1 = _
        rw [d_adv, e3, e2]
      · rw [if_neg h6]
        have e2 := a_cnt_l (s := s) (ls := ls) hc0 (show c < 60 by omega)
        rw [e2] at e1
        refine ⟨?_, by simp only [List.length_singleton]; omega, by omega, hle2.2, by omega, by omega⟩
        show a_adv f L (a_vl f 2 L (0, s, c, ls)) = _
        have e3 : a_vl f 2 L (0, s, c, ls) = a_em (-1 - k_wd 2 f L s) (0, s, c + 1, ls) := by
          unfold a_vl
          rw [e1]
          have q1 : ¬ a_wd f 2 L (0, s, c + 1, ls) = -1 := hw.1
          rw [if_neg q1]
          rfl
        rw [e3, a_em_l (by omega), a_adv_l, hle.1]
        have q : a_cd (1 + 16 * k_wd 2 f L s) = -1 - k_wd 2 f L s := by
          unfold a_cd
          rw [if_neg (by omega), if_pos (by omega)]
          omega
        rw [List.map_cons, List.map_nil, q]
    · have hneg : (if k_wd 2 f L s < 12 then k_wd 2 f L s else -1) < 0 := by split <;> omega
      rw [if_pos hneg]
      refine ⟨by omega, ?_⟩
      have e1 : a_chk f 2 L (0, s, c, ls) = a_cnt (a_fail 0 (0, s, c, ls)) := (if_neg hw).trans (if_pos hsg)
      have e2 : a_fail 0 (0, s, c, ls) = (1 + 8 * s + 0, s, c, ls) := rfl
      have e3 : (a_vl f 2 L (0, s, c, ls)).1 = 1 + 8 * s + 0 := by
        unfold a_vl
        rw [e1, e2]
        split <;> (rw [d_em, d_cnt (show ¬ (1 + 8 * s + 0) = 0 by omega)])
      show (a_adv f L (a_vl f 2 L (0, s, c, ls))).1 = _
      rw [d_adv, e3]
theorem a_ok_pre {p d c p' d' c' : Int} {ls l0 : List Int} {r : c_R} {G : a_S} (h : a_ok f L p' d' c' (ls ++ l0.map a_cd) r G) (hp : p < p') (hc : c ≤ c') (hd : (l0.length : Int) + d' - p' ≤ d - p) : a_ok f L p d c ls (c_pre l0 r) G := by
  rcases r with e | ⟨p1, c1, l⟩
  · exact h
  · obtain ⟨h1, h2, h3, h4, h5, h6⟩ := h
    refine ⟨by rw [h1, List.map_append, List.append_assoc], ?_, by omega, h4, by omega, h6⟩
    rw [List.length_append]
    omega
def a_rel (x y : Int) : Prop := (x = 0 ∧ y = 0) ∨ (¬ x = 0 ∧ ¬ y = 0 ∧ a_cd x = y)
def a_pn (x : Int) : Int := if x = 0 then 0 else 1
theorem a_oe_l {x y s c : Int} {ls : List Int} (hr : a_rel x y) (h : (ls.length : Int) + a_pn x ≤ 400) : a_oe y (0, s, c, ls) = (0, s, c, ls ++ (if x = 0 then [] else [x]).map a_cd) ∧ ((if x = 0 then [] else [x] : List Int).length : Int) = a_pn x := by
  unfold a_oe a_pn at *
  rcases hr with ⟨h1, h2⟩ | ⟨h1, h2, h3⟩
  · rw [if_pos h2, if_pos h1, if_pos h1, List.map_nil, List.append_nil]
    exact ⟨rfl, rfl⟩
  · rw [if_neg h1] at h
    rw [if_neg h2, if_neg h1, if_neg h1, a_em_l (by omega), List.map_cons, List.map_nil, h3]
    exact ⟨rfl, rfl⟩
theorem a_tim_c {s c : Int} {ls : List Int} (hfb : ∀ j, -128 ≤ f j ∧ f j ≤ 127) : (¬ a_tim (a_sg f L (0, s, c, ls)) = 0 ↔ (tk_ch f L s = 42 ∨ tk_ch f L s = 47 ∨ tk_ch f L s = 37)) ∧ (¬ a_add (a_sg f L (0, s, c, ls)) = 0 ↔ (tk_ch f L s = 43 ∨ tk_ch f L s = 45)) := by
  have hb := hfb s
  have e : a_sg f L (0, s, c, ls) = k_sign f L s := rfl
  rw [e]
  unfold a_tim a_add
  rcases k_cases f L s with k | k | k | k | k | k <;> constructor <;> constructor <;> intro h <;> ((repeat' split at h) <;> (repeat' split) <;> omega)
theorem a_tim_r {s c : Int} {ls : List Int} (hfb : ∀ j, -128 ≤ f j ∧ f j ≤ 127) (h : tk_ch f L s = 42 ∨ tk_ch f L s = 47 ∨ tk_ch f L s = 37) : a_rel (rs_top (f s) + 16 * 0) (a_tim (a_sg f L (0, s, c, ls))) ∧ s < L ∧ k_end f L s = s + 1 := by
  have hb := hfb s
  have e : a_sg f L (0, s, c, ls) = k_sign f L s := rfl
  rw [e]
  rcases k_cases f L s with k | k | k | k | k | k <;> first | (exfalso; omega) | skip
  rcases (by omega : f s = 42 ∨ f s = 47 ∨ f s = 37) with h2 | h2 | h2 <;> (refine ⟨?_, by omega, by omega⟩; rw [k.2.2.2.2.2.1, h2]; unfold a_rel; decide)
theorem a_add_r {s c : Int} {ls : List Int} (hfb : ∀ j, -128 ≤ f j ∧ f j ≤ 127) (h : tk_ch f L s = 43 ∨ tk_ch f L s = 45) : a_rel (rs_sop (f s) + 16 * 0) (a_add (a_sg f L (0, s, c, ls))) ∧ s < L ∧ k_end f L s = s + 1 := by
  have hb := hfb s
  have e : a_sg f L (0, s, c, ls) = k_sign f L s := rfl
  rw [e]
  rcases k_cases f L s with k | k | k | k | k | k <;> first | (exfalso; omega) | skip
  rcases (by omega : f s = 43 ∨ f s = 45) with h2 | h2 <;> (refine ⟨?_, by omega, by omega⟩; rw [k.2.2.2.2.2.1, h2]; unfold a_rel; decide)
theorem a_pn_b (x : Int) : 0 ≤ a_pn x ∧ a_pn x ≤ 1 := by unfold a_pn; split <;> omega
theorem sl_tie (hL : L ≤ 400) (hfb : ∀ j, -128 ≤ f j ∧ f j ≤ 127) : ∀ (n m : Nat) (p c t a t' a' : Int) (ls : List Int), 0 ≤ p → p ≤ L → L - p < n → 61 - c ≤ m → 0 ≤ c → c ≤ 60 → a_rel t t' → a_rel a a' → (ls.length : Int) + a_pn t + a_pn a ≤ p → a_ok f L p (a_pn t + a_pn a) c ls (c_sl f L n p c t a) (a_sl f 2 L m t' a' (0, tk_sk f L p, c, ls))
  | 0, _, _, _, _, _, _, _, _, h0, h1, h2, _, _, _, _, _, _ => by omega
  | _ + 1, 0, _, _, _, _, _, _, _, h0, h1, h2, h3, _, _, _, _, _ => by omega
  | n + 1, m + 1, p, c, t, a, t', a', ls, h0, h1, h2, h3, h4, h5, ht, ha, hls => by
    have bt := a_pn_b t
    have ba := a_pn_b a
    have hv := val_tie (f := f) (ls := ls) hL h0 h1 h4 h5 (by omega)
    unfold c_sl
    rcases hr : c_val f L p c with e | ⟨p1, c1, l1⟩
    · rw [hr] at hv
      obtain ⟨v1, v2⟩ := hv
      refine ⟨v1, ?_⟩
      rw [d_sl1 (by omega), v2]
    · rw [hr] at hv
      obtain ⟨v1, v2, v3, v4, v5, v6⟩ := hv
      have hs := tk_sk_b f v4
      have hss := tk_sk_sk f L p1 v4
      dsimp only
      generalize hsd : tk_sk f L p1 = s at *
      have hll : (ls ++ l1.map a_cd).length = ls.length + l1.length := by rw [List.length_append, List.length_map]
      have o1 := a_oe_l (s := s) (c := c1) (ls := ls ++ l1.map a_cd) ht (by omega)
      have hl2 : ((ls ++ l1.map a_cd) ++ (if t = 0 then [] else [t]).map a_cd).length = ls.length + l1.length + (if t = 0 then [] else [t] : List Int).length := by rw [List.length_append, hll, List.length_map]
      have o2 := a_oe_l (s := s) (c := c1) (ls := (ls ++ l1.map a_cd) ++ (if t = 0 then [] else [t]).map a_cd) ha (by omega)
      have hc := a_tim_c (f := f) (L := L) (s := s) (c := c1) (ls := ls ++ l1.map a_cd) hfb
      have hunf : a_sl f 2 L (m + 1) t' a' (0, tk_sk f L p, c, ls) = (if a_tim (a_sg f L (0, s, c1, ls ++ l1.map a_cd)) = 0 then (if a_add (a_sg f L (0, s, c1, ls ++ l1.map a_cd)) = 0 then a_oe a' (a_oe t' (0, s, c1, ls ++ l1.map a_cd)) else a_sl f 2 L m (a_tim (a_sg f L (0, s, c1, ls ++ l1.map a_cd))) (a_add (a_sg f L (0, s, c1, ls ++ l1.map a_cd))) (a_adv f L (a_oe a' (a_oe t' (0, s, c1, ls ++ l1.map a_cd))))) else a_sl f 2 L m (a_tim (a_sg f L (0, s, c1, ls ++ l1.map a_cd))) a' (a_adv f L (a_oe t' (0, s, c1, ls ++ l1.map a_cd)))) := by
        conv => lhs; unfold a_sl
        rw [v1]
      rw [hunf, o1.1, o2.1]
      by_cases q1 : tk_ch f L s = 42 ∨ tk_ch f L s = 47 ∨ tk_ch f L s = 37
      · have hr1 := a_tim_r (c := c1) (ls := ls ++ l1.map a_cd) hfb q1
        have hpt : a_pn (rs_top (f s) + 16 * 0) = 1 := if_neg (rs_top_nz _)
        rw [if_pos q1, if_neg (hc.1.mpr q1), a_adv_l, hr1.2.2]
        have ih := sl_tie hL hfb n m (s + 1) c1 (rs_top (f s) + 16 * 0) a _ a' ((ls ++ l1.map a_cd) ++ (if t = 0 then [] else [t]).map a_cd) (by omega) (by omega) (by omega) (by omega) (by omega) v6 hr1.1 ha (by omega)
        refine a_ok_pre (l0 := l1 ++ (if t = 0 then [] else [t])) (p' := s + 1) (d' := a_pn (rs_top (f s) + 16 * 0) + a_pn a) (c' := c1) ?_ (by omega) (by omega) (by rw [List.length_append]; omega)
        rw [List.map_append, ← List.append_assoc]
        exact ih
      · rw [if_neg q1]
        have z1 : a_tim (a_sg f L (0, s, c1, ls ++ l1.map a_cd)) = 0 := Decidable.byContradiction (fun z => q1 (hc.1.mp z))
        rw [if_pos z1]
        by_cases q2 : tk_ch f L s = 43 ∨ tk_ch f L s = 45
        · have hr1 := a_add_r (c := c1) (ls := ls ++ l1.map a_cd) hfb q2
          have hpt : a_pn (rs_sop (f s) + 16 * 0) = 1 := if_neg (rs_sop_nz _)
          have hp0 : a_pn 0 = 0 := rfl
          rw [if_pos q2, if_neg (hc.2.mpr q2), a_adv_l, hr1.2.2, z1]
          have ih := sl_tie hL hfb n m (s + 1) c1 0 (rs_sop (f s) + 16 * 0) 0 _ ((ls ++ l1.map a_cd) ++ (if t = 0 then [] else [t]).map a_cd ++ (if a = 0 then [] else [a]).map a_cd) (by omega) (by omega) (by omega) (by omega) (by omega) v6 (Or.inl ⟨rfl, rfl⟩) hr1.1 (by rw [List.length_append, hl2, List.length_map]; omega)
          refine a_ok_pre (l0 := (l1 ++ (if t = 0 then [] else [t])) ++ (if a = 0 then [] else [a])) (p' := s + 1) (d' := a_pn 0 + a_pn (rs_sop (f s) + 16 * 0)) (c' := c1) ?_ (by omega) (by omega) (by rw [List.length_append, List.length_append]; omega)
          rw [List.map_append, List.map_append, ← List.append_assoc, ← List.append_assoc]
          exact ih
        · have z2 : a_add (a_sg f L (0, s, c1, ls ++ l1.map a_cd)) = 0 := Decidable.byContradiction (fun z => q2 (hc.2.mp z))
          rw [if_neg q2, if_pos z2]
          refine ⟨by rw [hss, List.map_append, List.map_append, ← List.append_assoc, ← List.append_assoc], ?_, by omega, hs.2, by omega, v6⟩
          rw [List.length_append, List.length_append]
          omega
theorem sum_tie {p c : Int} {ls : List Int} (hL : L ≤ 400) (hfb : ∀ j, -128 ≤ f j ∧ f j ≤ 127) (h0 : 0 ≤ p) (h1 : p ≤ L) (hc0 : 0 ≤ c) (hc : c ≤ 60) (hls : (ls.length : Int) ≤ p) : a_ok f L p 0 c ls (c_sum f L p c) (a_sum f 2 L (0, tk_sk f L p, c, ls)) := by
  have hp0 : a_pn 0 = 0 := rfl
  have := sl_tie (f := f) hL hfb 401 61 p c 0 0 0 0 ls h0 h1 (by omega) (by omega) hc0 hc (Or.inl ⟨rfl, rfl⟩) (Or.inl ⟨rfl, rfl⟩) (by omega)
  exact this
end TIE
