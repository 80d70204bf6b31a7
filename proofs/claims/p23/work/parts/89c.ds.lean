/-! no two HOUSES have a SLOT -/
theorem ds_cg {f g : Int → Int} (h : tz_ds f) (b : f 1 ≤ 7) (e : ∀ j, j = 1 ∨ (46 ≤ j ∧ j < 53) → g j = f j) : tz_ds g := by
  intro i j i0 ij j1
  rw [e 1 (Or.inl rfl)] at j1
  rw [e (46 + i) (Or.inr (by omega)), e (46 + j) (Or.inr (by omega))]
  exact h i j i0 ij j1
theorem ds_swp {f : Int → Int} (h : tz_ds f) {a b : Int} (a0 : 0 ≤ a) (a1 : a < f 1) (b0 : 0 ≤ b) (b1 : b < f 1) : tz_ds (ab_up (ab_up f (46 + a) (f (46 + b))) (46 + b) (f (46 + a))) := by
  have v : ∀ i, ab_up (ab_up f (46 + a) (f (46 + b))) (46 + b) (f (46 + a)) (46 + i) = f (46 + (if i = b then a else if i = a then b else i)) := by
    intro i
    by_cases e : i = b
    · rw [if_pos e, e, ab_upe]
    · rw [if_neg e, ab_upn _ _ (by omega)]
      by_cases e2 : i = a
      · rw [if_pos e2, e2, ab_upe]
      · rw [if_neg e2, ab_upn _ _ (by omega)]
  intro i j i0 ij j1
  rw [ab_upn _ _ (by omega), ab_upn _ _ (by omega)] at j1
  rw [v i, v j]
  have q : (if i = b then a else if i = a then b else i) ≠ (if j = b then a else if j = a then b else j) ∧ (0 ≤ (if i = b then a else if i = a then b else i) ∧ (if i = b then a else if i = a then b else i) < f 1) ∧ 0 ≤ (if j = b then a else if j = a then b else j) ∧ (if j = b then a else if j = a then b else j) < f 1 := by
    (repeat' split) <;> omega
  generalize (if i = b then a else if i = a then b else i) = s at q
  generalize (if j = b then a else if j = a then b else j) = t at q
  rcases (by omega : s < t ∨ t < s) with z | z
  · exact h s t q.2.1.1 z q.2.2.2
  · exact fun e => h t s q.2.2.1 z q.2.1.2 e.symm
section RDW
variable {f : Int → Int} {L : Int} {rd rd2 : Int → Int}
theorem fl_n {rd : Int → Int} {a v j : Int} (n : Nat) (h : j < a ∨ a + (n : Int) ≤ j) : rs_fill rd a v n j = rd j := by
  induction n with
  | zero => rfl
  | succ n ih =>
    show ab_up (rs_fill rd a v n) (a + (n : Int)) v j = _
    rw [ab_upn _ _ (by omega)]
    exact ih (by omega)
theorem wk_gate {s n2 : Int} (h : rd_ok rd) (hd : tz_ds rd) (hx : rs_gate f L s rd = .ok (n2, rd2)) : tz_ds rd2 := by
  have b1 : 0 ≤ rd 1 ∧ rd 1 ≤ 7 := h.1 1 (by decide) (by decide)
  unfold rs_gate at hx
  split at hx
  · cases hx
  · injection hx with hx
    injection hx with h2 h3
    rw [← h3]
    exact ds_cg hd b1.2 (fun j hj => ab_upn _ _ (by omega))
theorem wk_like {s y n2 : Int} (h : rd_ok rd) (hd : tz_ds rd) (hx : rs_like f L s y rd = .ok (n2, rd2)) : tz_ds rd2 := by
  have b1 : 0 ≤ rd 1 ∧ rd 1 ≤ 7 := h.1 1 (by decide) (by decide)
  unfold rs_like at hx
  split at hx
  · cases hx
  · rename_i n1 v1 e1
    have q1 := rs_num_b e1
    split at hx
    · cases hx
    · rename_i n3 v3 e3
      have q3 := rs_num_b e3
      split at hx
      · cases hx
      · injection hx with hx
        injection hx with h2 h3
        rw [← h3]
        exact ds_cg hd b1.2 (fun j hj => ab_upn _ _ (by omega))
theorem wk_ring {s a n2 : Int} (h : rd_ok rd) (hd : tz_ds rd) (hx : rs_ring f L s a rd = .ok (n2, rd2)) : tz_ds rd2 := by
  have b1 : 0 ≤ rd 1 ∧ rd 1 ≤ 7 := h.1 1 (by decide) (by decide)
  unfold rs_ring at hx
  split at hx
  · cases hx
  · split at hx
    · cases hx
    · injection hx with hx
      injection hx with h2 h3
      rw [← h3]
      exact ds_cg hd b1.2 (fun j hj => (ab_upn _ _ (by omega)).trans (ab_upn _ _ (by omega)))
theorem wk_sight {s a n2 : Int} (h : rd_ok rd) (hd : tz_ds rd) (hx : rs_sight f L s a rd = .ok (n2, rd2)) : tz_ds rd2 := by
  have b1 : 0 ≤ rd 1 ∧ rd 1 ≤ 7 := h.1 1 (by decide) (by decide)
  have b2 : 0 ≤ rd 2 ∧ rd 2 ≤ 12 := h.1 2 (by decide) (by decide)
  unfold rs_sight at hx
  split at hx
  · cases hx
  · split at hx
    · cases hx
    · split at hx
      · cases hx
      · split at hx
        · cases hx
        · split at hx
          · cases hx
          · injection hx with hx
            injection hx with h2 h3
            rw [← h3]
            exact ds_cg hd b1.2 (fun j hj => by rw [ab_upn _ _ (by omega), ab_upn _ _ (by omega), ab_upn _ _ (by omega), ab_upn _ _ (by omega), ab_upn _ _ (by omega)])
theorem wk_rate {s n2 : Int} (h : rd_ok rd) (hd : tz_ds rd) (hx : rs_rate f L s rd = .ok (n2, rd2)) : tz_ds rd2 := by
  have b1 : 0 ≤ rd 1 ∧ rd 1 ≤ 7 := h.1 1 (by decide) (by decide)
  unfold rs_rate at hx
  split at hx
  · cases hx
  · rename_i n1 v1 e1
    have q1 := rs_num_b e1
    split at hx
    · cases hx
    · rename_i n3 v3 e3
      have q3 := rs_num_b e3
      split at hx
      · cases hx
      · injection hx with hx
        injection hx with h2 h3
        rw [← h3]
        exact ds_cg hd b1.2 (fun j hj => fl_n _ (by omega))
theorem wk_house {s a n2 : Int} (h : rd_ok rd) (hd : tz_ds rd) (hx : rs_house f L s a rd = .ok (n2, rd2)) : tz_ds rd2 := by
  have b1 : 0 ≤ rd 1 ∧ rd 1 ≤ 7 := h.1 1 (by decide) (by decide)
  unfold rs_house at hx
  split at hx
  · cases hx
  · split at hx
    · cases hx
    · rename_i n1 v1 e1
      split at hx
      · cases hx
      · rename_i hdup
        split at hx
        · cases hx
        · injection hx with hx
          injection hx with h2 h3
          rw [← h3]
          intro i j i0 ij j1
          rw [ab_upe] at j1
          rw [ab_upn _ _ (by omega), ab_upn _ _ (by omega), ab_upn _ _ (by omega), ab_upn _ _ (by omega), fl_n _ (by omega), fl_n _ (by omega), ab_upn _ _ (by omega), ab_upn _ _ (by omega), ab_upn _ _ (by omega)]
          by_cases e : j = rd 1
          · rw [e, ab_upe]
            intro z
            exact hdup (rs_dup_t (k := i.toNat) (by omega) (by rw [show ((i.toNat : Nat) : Int) = i by omega]; exact z))
          · rw [ab_upn _ _ (by omega)]
            exact hd i j i0 ij (by omega)
theorem wk_line {s a n2 : Int} (h : rd_ok rd) (hd : tz_ds rd) (hx : rs_line f L s a rd = .ok (n2, rd2)) : tz_ds rd2 := by
  unfold rs_line at hx
  split at hx
  · exact wk_ring h hd hx
  · split at hx
    · cases hx
    · split at hx
      · exact wk_house h hd hx
      · split at hx
        · exact wk_sight h hd hx
        · split at hx
          · exact wk_like h hd hx
          · split at hx
            · exact wk_like h hd hx
            · split at hx
              · exact wk_gate h hd hx
              · exact wk_rate h hd hx
theorem wk_clause {n i n2 : Int} (h : rd_ok rd) (hd : tz_ds rd) (hx : rs_clause f L n i rd = .ok (n2, rd2)) : tz_ds rd2 := by
  unfold rs_clause at hx
  split at hx
  · split at hx
    · cases hx
    · exact wk_line h hd hx
  · cases hx
end RDW
theorem wk_go {f : Int → Int} {L : Int} : ∀ (k : Nat) (n i : Int) (rd rd2 : Int → Int), rd_ok rd → tz_ds rd → rs_go f L k n i rd = .ok rd2 → tz_ds rd2 := by
  intro k
  induction k with
  | zero => intro n i rd rd2 h hd hx; unfold rs_go at hx; cases hx
  | succ k ih =>
    intro n i rd rd2 h hd hx
    unfold rs_go at hx
    split at hx
    · split at hx
      · cases hx
      · rename_i n2 rd3 e
        exact ih _ _ _ _ (rk_clause h e) (wk_clause h hd e) hx
    · split at hx
      · injection hx with hx
        rw [← hx]
        exact hd
      · cases hx
theorem wk_all {f : Int → Int} {L : Int} {rd rd2 : Int → Int} (h : rd_ok rd) (hd : tz_ds rd) (hx : rs_all f L rd = .ok rd2) : tz_ds rd2 := by
  unfold rs_all at hx
  split at hx
  · cases hx
  · rename_i n2 rd3 e
    exact wk_go 40 _ _ _ _ (rk_clause h e) (wk_clause h hd e) hx
def fs_dg : fs_S → Prop
  | ⟨x, ix, im, tape, taped, rules, said, was, undone, images, ru⟩ => tz_ds said ∧ ∀ j, 0 ≤ j → j ≤ 3 → im j = 1 → tz_ds (sp_img images j)
def fs_s1 : fs_S → Prop
  | ⟨x, ix, im, tape, taped, rules, said, was, undone, images, ru⟩ => ¬ undone = 0 → sp_snap was (undone - 1) 1 = said 1 ∧ (tz_ds said → tz_ds (sp_snap was (undone - 1)))
theorem dg_0 {f : Int → Int} (h : f 1 = 0) : tz_ds f := fun i j i0 ij j1 => by omega
theorem cs_back_d {f : Int → Int} (hf : 0 ≤ f 4 ∧ f 4 ≤ 11) (p q : Int) {j : Int} (hj : j = 1 ∨ 46 ≤ j) : cs_back p q f j = f j := by
  have t := (cs_uns_j (sp_by p) f hf p.natAbs).2 j (by omega) (by omega)
  unfold cs_back
  generalize cs_uns (sp_by p) f p.natAbs = g at t
  unfold cs_off
  split
  · rw [ab_upn _ _ (by omega), ab_upn _ _ (by omega), ab_upn _ _ (by omega)]
    exact t
  · rw [ab_upn _ _ (by omega), ab_upn _ _ (by omega)]
    exact t
theorem cy_s1 {w : ab_W} {S : fs_S} {wm : ab_W} {c : Int} (h : cy_I w S wm) (hok : fs_ok c S) : fs_s1 S := by
  obtain ⟨x, ix, mk, tf, tl, rc, said, was, undone, images, ru⟩ := S
  obtain ⟨N, T, a, b, hF, hR, hag, himg, hrul⟩ := h
  obtain ⟨o1, o2, o3, o4, o5, o6, o7, o8⟩ := hok
  obtain ⟨ki, f1, s1, nx, hacl, hnx, hu, hin, har⟩ := hag
  intro hz
  have b4 := (sg_all o1.1).2.2.2.2.1
  have b1 := (sg_all o1.1).2.1
  have q := har 0 (by decide) (by omega)
  have v := q.1
  have a0 : at_ said was undone 0 = said := if_pos rfl
  have a1 : at_ said was undone (0 + 1) = sp_snap was (undone - 1) := by
    unfold at_
    rw [if_neg (by decide)]
    rfl
  have e : ∀ j, 0 ≤ j → j < 53 → cs_ua (ki (ax nx 0)) (f1 (ax nx 0)) (s1 (ax nx 0)) said j = sp_snap was (undone - 1) j := by
    intro j j0 j1
    have z := q.2 j j0 j1
    rw [a0, a1] at z
    exact z
  generalize ki (ax nx 0) = k at v e
  generalize f1 (ax nx 0) = p at v e
  generalize s1 (ax nx 0) = r at v e
  have g : cs_ua k p r said 1 = said 1 ∧ (tz_ds said → tz_ds (cs_ua k p r said)) := by
    unfold cs_ua
    rcases v with ⟨e1, e2, e3, e4⟩ | ⟨e1, e2, e3⟩ | ⟨e1, e2, e3⟩ | ⟨e1, e2, e3⟩
    · rw [if_pos e1]
      exact ⟨cs_back_d b4 p r (Or.inl rfl), fun h => ds_cg h b1.2 (fun j hj => cs_back_d b4 p r (by omega))⟩
    · rw [if_neg (by omega), if_pos e1]
      exact ⟨ab_upn _ _ (by omega), fun h => ds_cg h b1.2 (fun j hj => ab_upn _ _ (by omega))⟩
    · rw [if_neg (by omega), if_neg (by omega), if_pos e1]
      exact ⟨(ab_upn _ _ (by omega)).trans (ab_upn _ _ (by omega)), fun h => ds_swp h e2.1 e2.2 e3.1 e3.2⟩
    · rw [if_neg (by omega), if_neg (by omega), if_neg (by omega)]
      exact ⟨(ab_upn _ _ (by decide)).trans (ab_upn _ _ (by decide)), fun h => ds_cg h b1.2 (fun j hj => (ab_upn _ _ (by omega)).trans (ab_upn _ _ (by omega)))⟩
  have g1 := g.1
  refine ⟨(e 1 (by decide) (by decide)).symm.trans g1, fun h => ds_cg (g.2 h) (by omega) (fun j hj => (e j (by omega) (by omega)).symm)⟩
section DG
variable {c : Int} {S : fs_S}
theorem dg_hour (h : fs_dg S) (hok : fs_ok c S) : fs_dg (fs_hour S) := by
  obtain ⟨x, ix, mk, tf, tl, rc, said, was, undone, images, ru⟩ := S
  have sA := sg_all hok.1.1
  refine ⟨?_, h.2⟩
  show tz_ds (if _ then sp_pass said else said)
  split
  · exact ds_cg h.1 sA.2.1.2 (fun j hj => pass_j sA.2.2.2.2.1 (by omega) (by omega) (by omega) (by omega) (by omega))
  · exact h.1
theorem dg_rate (h : fs_dg S) (hok : fs_ok c S) (y1 y2 : Int) : fs_dg (fs_rate S y1 y2) := by
  obtain ⟨x, ix, mk, tf, tl, rc, said, was, undone, images, ru⟩ := S
  have sA := sg_all hok.1.1
  refine ⟨?_, h.2⟩
  show tz_ds (if said 0 = 1 ∧ (0 ≤ y1 ∧ y1 ≤ 23) ∧ -3 ≤ y2 ∧ y2 ≤ 3 then ab_up said (10 + y1) y2 else said)
  split
  · rename_i g
    exact ds_cg h.1 sA.2.1.2 (fun j hj => ab_upn _ _ (by omega))
  · exact h.1
theorem dg_swap (h : fs_dg S) (hok : fs_ok c S) (y1 y2 : Int) : fs_dg (fs_swap S y1 y2) := by
  obtain ⟨x, ix, mk, tf, tl, rc, said, was, undone, images, ru⟩ := S
  refine ⟨?_, h.2⟩
  show tz_ds (if (0 ≤ y1 ∧ y1 < said 1) ∧ (0 ≤ y2 ∧ y2 < said 1) ∧ ¬ y1 = y2 then ab_up (ab_up said (46 + y1) (said (46 + y2))) (46 + y2) (said (46 + y1)) else said)
  split
  · rename_i g
    exact ds_swp h.1 g.1.1 g.1.2 g.2.1.1 g.2.1.2
  · exact h.1
theorem dg_stop (h : fs_dg S) (hok : fs_ok c S) : fs_dg (fs_stop S) := by
  obtain ⟨x, ix, mk, tf, tl, rc, said, was, undone, images, ru⟩ := S
  have sA := sg_all hok.1.1
  refine ⟨?_, h.2⟩
  show tz_ds (if said 0 = 1 ∧ said 7 = 0 then ab_up (ab_up said 7 1) 8 (said 8 + 1) else said)
  split
  · exact ds_cg h.1 sA.2.1.2 (fun j hj => (ab_upn _ _ (by omega)).trans (ab_upn _ _ (by omega)))
  · exact h.1
theorem dg_undo (h : fs_dg S) (hok : fs_ok c S) (hs : fs_s1 S) : fs_dg (fs_undo S) := by
  obtain ⟨x, ix, mk, tf, tl, rc, said, was, undone, images, ru⟩ := S
  have sA := sg_all hok.1.1
  refine ⟨?_, h.2⟩
  show tz_ds (if undone = 0 then said else sp_cp (sp_snap was (undone - 1)) said 53)
  split
  · exact h.1
  · rename_i g
    exact ds_cg ((hs g).2 h.1) (by rw [(hs g).1]; exact sA.2.1.2) (fun j hj => if_pos (by omega))
theorem rn_j {B : Int} {f : Int → Int} (hI : sg_ok B f) {E : (Int → Int) → Int} (hE : ∀ g, -3 ≤ E g ∧ E g ≤ 3) {j : Int} (hj : j = 1 ∨ 46 ≤ j) : ∀ n : Nat, B + n ≤ 30000 → sp_runN E f n j = f j
  | 0, _ => rfl
  | n + 1, hn => by
    have ih := rn_j hI hE hj n (by omega)
    have b4 := (sg_all (sg_runN hI hE n (by omega))).2.2.2.2.1
    show sp_passAt (E (sp_runN E f n)) (sp_runN E f n) j = f j
    rw [pa_j b4 (by omega) (by omega) (by omega) (by omega) (by omega)]
    exact ih
theorem dg_run (h : fs_dg S) (hok : fs_ok c S) (y1 y2 : Int) : fs_dg (fs_run S y1 y2) := by
  obtain ⟨x, ix, mk, tf, tl, rc, said, was, undone, images, ru⟩ := S
  have sA := sg_all hok.1.1
  refine ⟨?_, h.2⟩
  show tz_ds (if said 0 = 1 ∧ (0 ≤ y1 ∧ y1 < rc) ∧ (1 ≤ y2 ∧ y2 ≤ 96) ∧ 24 * said 6 + said 5 + y2 < 24000 then sp_runN (ck_E (ru y1)) said y2.toNat else said)
  split
  · rename_i g
    exact ds_cg h.1 sA.2.1.2 (fun j hj => rn_j hok.1.1 (ck_E_b _) (by omega) _ (by omega))
  · exact h.1
theorem dg_diary (h : fs_dg S) (hok : fs_ok c S) (y1 y2 y3 z : Int) : fs_dg (fs_diary S y1 y2 y3 z) := by
  obtain ⟨x, ix, mk, tf, tl, rc, said, was, undone, images, ru⟩ := S
  have sA := sg_all hok.1.1
  have b9 := sA.2.2.2.2.2.2.2.2.2.2.2.2.2.2.2.2.2.2
  refine ⟨?_, h.2⟩
  show tz_ds (if y1 = -1 then ab_up said 190 0 else if (0 ≤ y1 ∧ y1 < said 1) ∧ (0 ≤ y2 ∧ y2 ≤ 99) ∧ (0 ≤ y3 ∧ y3 ≤ 4) ∧ ¬ said 190 = 10 then sp_dia said y1 y2 y3 z else said)
  split
  · exact ds_cg h.1 sA.2.1.2 (fun j hj => ab_upn _ _ (by omega))
  · split
    · refine ds_cg h.1 sA.2.1.2 (fun j hj => ?_)
      unfold sp_dia
      rw [ab_upn _ _ (by omega), ab_upn _ _ (by omega), ab_upn _ _ (by omega), ab_upn _ _ (by omega), ab_upn _ _ (by omega)]
    · exact h.1
theorem dg_image (h : fs_dg S) (hok : fs_ok c S) (y1 : Int) : fs_dg (fs_image S y1) := by
  obtain ⟨x, ix, mk, tf, tl, rc, said, was, undone, images, ru⟩ := S
  have sA := sg_all hok.1.1
  have b9 := sA.2.2.2.2.2.2.2.2.2.2.2.2.2.2.2.2.2.2
  refine ⟨h.1, fun j j0 j1 hj => ?_⟩
  have hj : (if 0 ≤ y1 ∧ y1 ≤ 3 then ab_up mk y1 1 else mk) j = 1 := hj
  show tz_ds (sp_img (if 0 ≤ y1 ∧ y1 ≤ 3 then sp_im said images y1 191 else images) j)
  by_cases g : 0 ≤ y1 ∧ y1 ≤ 3
  · rw [if_pos g] at hj ⊢
    by_cases e : j = y1
    · subst e
      refine ds_cg h.1 sA.2.1.2 (fun k hk => ?_)
      unfold sp_img sp_im
      rw [if_pos (by omega)]
      congr 1
      omega
    · rw [ab_upn _ _ e] at hj
      refine ds_cg (h.2 j j0 j1 hj) (sg_all (hok.2.2.2.2.1 j j0 j1 hj).1).2.1.2 (fun k hk => ?_)
      unfold sp_img sp_im
      rw [if_neg (by omega)]
  · rw [if_neg g] at hj ⊢
    exact h.2 j j0 j1 hj
theorem dg_back (h : fs_dg S) (hok : fs_ok c S) (y1 : Int) : fs_dg (fs_back S y1) := by
  obtain ⟨x, ix, mk, tf, tl, rc, said, was, undone, images, ru⟩ := S
  refine ⟨?_, h.2⟩
  show tz_ds (if (0 ≤ y1 ∧ y1 ≤ 3) ∧ mk y1 = 1 then sp_cp (sp_img images y1) said 191 else said)
  split
  · rename_i g
    exact ds_cg (h.2 y1 g.1.1 g.1.2 g.2) (sg_all (hok.2.2.2.2.1 y1 g.1.1 g.1.2 g.2).1).2.1.2 (fun k hk => if_pos (by omega))
  · exact h.1
theorem dg_feed (h : fs_dg S) (hok : fs_ok c S) (y1 y2 y3 y4 y5 : Int) : fs_dg (fs_feed S y1 y2 y3 y4 y5) := by
  obtain ⟨x, ix, mk, tf, tl, rc, said, was, undone, images, ru⟩ := S
  exact h
theorem dg_end (h : fs_dg S) (hok : fs_ok c S) (y1 : Int) : fs_dg (fs_end S y1) := by
  obtain ⟨x, ix, mk, tf, tl, rc, said, was, undone, images, ru⟩ := S
  exact h
theorem dg_seed (h : fs_dg S) (hok : fs_ok c S) (y1 : Int) : fs_dg (fs_seed S y1) := by
  obtain ⟨x, ix, mk, tf, tl, rc, said, was, undone, images, ru⟩ := S
  exact h
theorem dg_ring (h : fs_dg S) (hok : fs_ok c S) (rd0 : Int → Int) (hr0 : rd_ok rd0) : fs_dg (fs_ring S rd0) := by
  obtain ⟨x, ix, mk, tf, tl, rc, said, was, undone, images, ru⟩ := S
  show fs_dg (ring_to ⟨x, ix, mk, tf, tl, rc, said, was, undone, images, ru⟩ (rs_all tf tl (rs_ini rd0 46)))
  rcases hX : rs_all tf tl (rs_ini rd0 46) with e | rd
  · exact h
  · have k := rk_all (rd_ini hr0) hX
    have k1 : 0 ≤ rd 1 ∧ rd 1 ≤ 7 := k.1 1 (by decide) (by decide)
    exact ⟨ds_cg (wk_all (rd_ini hr0) (dg_0 rfl) hX) k1.2 (fun j hj => (if_pos (by omega)).trans (if_pos (by omega))), h.2⟩
theorem dg_rule (h : fs_dg S) (hok : fs_ok c S) : fs_dg (fs_rule S) := by
  obtain ⟨x, ix, mk, tf, tl, rc, said, was, undone, images, ru⟩ := S
  by_cases c6 : 6 ≤ rc
  · have e : fs_rule ⟨x, ix, mk, tf, tl, rc, said, was, undone, images, ru⟩ = ⟨x, ix, mk, tf, tl, rc, said, was, undone, images, ru⟩ := if_pos c6
    rw [e]
    exact h
  · by_cases hz : ru_er tf tl = 0
    · have e : fs_rule ⟨x, ix, mk, tf, tl, rc, said, was, undone, images, ru⟩ = ⟨x, ix, mk, tf, 0, rc + 1, said, was, undone, images, ab_up ru rc (ru_ks tf tl)⟩ := (if_neg c6).trans (if_pos hz)
      rw [e]
      exact h
    · have e : fs_rule ⟨x, ix, mk, tf, tl, rc, said, was, undone, images, ru⟩ = ⟨x, ix, mk, tf, 0, rc, said, was, undone, images, ru⟩ := (if_neg c6).trans (if_neg hz)
      rw [e]
      exact h
end DG
def lk_I (c : Int) (w : ab_W) : Prop := ∃ (S : fs_S) (wm : ab_W), cy_I w S wm ∧ my_I c S wm ∧ fs_dg S
theorem lk_mod {M : ab_M} {d : Nat} {av : List ab_V} {c c0 : Int} {S S0 : fs_S} {wm w : ab_W} {R : Option ab_V → Prop} (hm : ab_Mt g_G g_rs M d 0 0 (ab_R 0 :: av) wm (fun r w' => R r ∧ my_I c S w')) (hR : ∀ r, R r → ∃ v, r = some (ab_I v)) (hav : ∀ v ∈ av, ∃ a, v = ab_I a) (h0 : my_I c0 S0 wm) (hci : cy_I w S wm) (hdg : fs_dg S) : ab_Mt g_G g_rs M d 0 0 (ab_R 107 :: av) w (fun r w3 => R r ∧ lk_I c w3) := by
  have hl := (my_len h0).1
  have h := ab_emb (o := 107) (B := w) hm (fun r w' q => by rw [(my_len q.2).1, hl]) (fun r w' q => hR r q.1) (cy_seg hci) (by rw [hl]; decide)
  have e : (ab_R 0 :: av).map (ab_shV 107) = ab_R 107 :: av := by
    rw [List.map_cons, lj_av hav]
    show (ab_R (if 0 < ab_sb then 107 + 0 else 0)) :: av = _
    rw [if_pos (by decide)]
  rw [e] at h
  refine h.conseq (fun r w3 q => ?_)
  obtain ⟨w', ⟨q1, q2⟩, rfl⟩ := q
  obtain ⟨k1, k2⟩ := my_len q2
  exact ⟨q1, S, w', cy_put hci hl k1 k2, q2, hdg⟩
theorem tr_of {N : Nat} {T : Nat → tm_S} {w : ab_W} {p : Nat} (hW : tm_W N T w) (hS : is_Tr T p) : ∃ t1 t2 t3 t4 t5 : Int → Int, tra p t1 t2 t3 t4 t5 w := by
  obtain ⟨s0, s1, s2, s3, s4, s5⟩ := hS
  obtain ⟨vs, c0, cl, cv⟩ := tm_cell hW s0
  obtain ⟨t1, c1, -⟩ := ai_of hW s1
  obtain ⟨t2, c2, -⟩ := ai_of hW s2
  obtain ⟨t3, c3, -⟩ := ai_of hW s3
  obtain ⟨t4, c4, -⟩ := ai_of hW s4
  obtain ⟨t5, c5, -⟩ := ai_of hW s5
  have ev : vs = [ab_R (p + 1), ab_R (p + 2), ab_R (p + 3), ab_R (p + 4), ab_R (p + 5)] := List.ext_getElem? (fun i => match i with
    | 0 => an_r (k := 0) cv rfl
    | 1 => an_r (k := 1) cv rfl
    | 2 => an_r (k := 2) cv rfl
    | 3 => an_r (k := 3) cv rfl
    | 4 => an_r (k := 4) cv rfl
    | i + 5 => by have cl : vs.length = 5 := cl; rw [List.getElem?_eq_none (by omega)]; rfl)
  rw [ev] at c0
  exact ⟨t1, t2, t3, t4, t5, c0, c1, c2, c3, c4, c5⟩
theorem trade_b {B : Int} {f : Int → Int} (hI : sg_ok B f) (hB : B ≤ 29000) (hds : tz_ds f) {y : Int} (h0 : 0 ≤ y) : -1000000 ≤ sp_trade f y ∧ sp_trade f y ≤ 1000000 := by
  have b1 := (sg_all hI).2.1
  have hs := tz_hs_of hI hds
  have pb := tz_p_b (D := tz_D f) (N := tz_N f) (n := (f 1).toNat) (by omega) (tz_D_b hI hB) (f 1).toNat (Nat.le_refl _) 0
  have p7 : 7 ^ (f 1).toNat ≤ 7 ^ 7 := Nat.pow_le_pow_right (by decide) (by omega)
  have p7b : (7 : Nat) ^ 7 = 823543 := rfl
  have hp0 := tz_many hs (f 1).toNat (Nat.le_refl _) 0 (fun k hk => absurd hk (by rw [Nat.zero_testBit]; decide))
  unfold sp_trade
  split
  · omega
  · split
    · omega
    · split
      · omega
      · have q := tz_f_b (D := tz_D f) (N := tz_N f) (n := (f 1).toNat) (by omega) (f 1).toNat 0 hp0 (y - 2).toNat
        have r := tz_sl_b hs (k := ((((tz_f (tz_D f) (tz_N f) (f 1).toNat (f 1).toNat 0)[(y - 2).toNat]?).getD 0 : Nat) : Int)) (by omega) (by omega)
        omega
def fa_trade : fs_S → Int → Int
  | ⟨x, ix, im, tape, taped, rules, said, was, undone, images, ru⟩, y1 => if said 0 = 1 ∧ 0 ≤ y1 ∧ y1 ≤ 8 then sp_trade said y1 else -100000
set_option maxRecDepth 4000 in
theorem mz_trade {c : Int} {S : fs_S} {wm : ab_W} (hc : 0 ≤ c) (hcm : c ≤ 1000) (h : my_I c S wm) (hdg : fs_dg S) (y1 : Int) (hy1 : ab_in y1) : ab_Mt g_G g_rs mt_Mo_trade 6 0 0 [ab_R 0, ab_I y1] wm (my_A c (fa_trade S y1) S) := by
  obtain ⟨x, ix, mk, tape, taped, rules, said, was, undone, images, ru⟩ := S
  obtain ⟨sign, leng, clause, clauses, read, next, wrong, number, hzz⟩ := h
  obtain ⟨text, made, deep, lines, opn, opened, stack, top, hzz⟩ := hzz
  obtain ⟨word, kept, sumOf, faced, slotAt, dayAt, row, bestRow, hzz⟩ := hzz
  obtain ⟨tMany, tMost, drawX, rfl, ⟨m1, m2, m3, m4, m5, m6, m7, m8, m9⟩, m10⟩ := hzz
  refine (co_Mo_trade_x m3.1 (by decide) hdg.1 m6.2.1 m6.1 m6.2.2.1 m6.2.2.2 y1 hy1).conseq (fun r w2 h => ?_)
  obtain ⟨rfl, sl, dy, kp, rw_, br, tm, to_, k1, k2, k3, k4, rfl⟩ := h
  exact ⟨rfl, ⟨_, _, _, _, _, _, _, _, _, _, _, _, _, _, _, _, _, _, _, _, _, _, _, _, _, _, _, rfl, ⟨m1, m2, m3.mono, m4, ⟨m5.1, m5.2.mono⟩, ⟨k1, k2, k3, k4⟩, m7, (fun j h0 h1 h2 => (m8 j h0 h1 h2).mono), m9⟩, m10⟩⟩
set_option maxRecDepth 4000 in
theorem cz_trade {w : ab_W} {S : fs_S} {wm : ab_W} {c : Int} (h : cy_I w S wm) (hok : fs_ok c S) (hcm : c ≤ 1000) (hdg : fs_dg S) (y1 : Int) (hy1 : ab_in y1) : ab_Mt g_G g_rs mt_Tu_trade 4 0 0 [ab_R 0, ab_I y1] w (cy_A (fa_trade S y1) S wm) := by
  obtain ⟨x, ix, mk, tf, tl, rc, said, was, undone, images, ru⟩ := S
  obtain ⟨N, T, a, b, hF, hR, hag, himg, hrul⟩ := h
  obtain ⟨hW, hA, ⟨kn, kt, krc, ktl, ktf⟩, ⟨hrc, hN⟩, hrl, him, hac, hx, hmd, hix, hseg⟩ := id hF
  obtain ⟨o1, o2, o3, o4, o5, o6, o7, o8⟩ := hok
  have hab := hA.ab
  have hab2 : a = 3 ∨ a = 16 := by omega
  have t0 := tu_of hW hA kn kt krc
  have sA := sg_all o1.1
  obtain ⟨t1, t2, t3, t4, t5, hTr⟩ := tr_of hW hA.2.2.2.2.2.2.2.2.2.1
  have tb : said 0 = 1 ∧ 0 ≤ y1 ∧ y1 ≤ 8 → _ := fun z => trade_b o1.1 (by omega) hdg.1 z.2.1
  refine (an_mt (co_Tu_trade o1.1 t0 hR (by omega) hdg.1 hab2 hTr y1 hy1) (tm_Tu_trade hW hA kn kt y1 (by omega) (by omega)) (fun r w' h => h.1) (fun r w' h => by rw [h.1.1, hW.1])).conseq (fun r w2 h => ?_)
  obtain ⟨⟨hW2, v, rfl, hf, l1, u1⟩, r1, w1, ⟨-, e1⟩, sm, sr⟩ := h
  have ev := an_int sr e1 rfl (by split; (have q := tb (by assumption); constructor <;> omega); decide) ⟨by omega, by omega⟩
  exact ⟨congrArg (fun z => some (ab_I z)) ev, N, T, a, b, cf_keep hF hW2 (fun p j hK => hf p j (by omega)) (hac.fr (fun k => hf _ k (by omega)) (fun k => hf _ k (by omega)) (fun k => hf _ k (by omega))), ri_fr hW hW2 hA.ri (fun p j q0 q1 => hf p j (by omega)) hR, ag_fr hW hW2 hA.ac (fun p j q0 q1 => hf p j (by omega)) hag, im_fr hW hW2 him (fun p j q0 q1 => hf p j (by omega)) himg, ru_fr hW hW2 hrl (fun p j q0 => hf p j (by omega)) hrul⟩
