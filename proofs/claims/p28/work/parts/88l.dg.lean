/-! the DIARY's HOUSES are HOUSES of the RING -/
def dg_ (f : Int → Int) : Prop := ∀ k, 0 ≤ k → k < f 190 → f (150 + 4 * k) < f 1
def fs_dg : fs_S → Prop
  | ⟨x, ix, im, tape, taped, rules, said, was, undone, images, ru⟩ => dg_ said ∧ ∀ j, 0 ≤ j → j ≤ 3 → im j = 1 → dg_ (sp_img images j)
def fs_s1 : fs_S → Prop
  | ⟨x, ix, im, tape, taped, rules, said, was, undone, images, ru⟩ => ¬ undone = 0 → sp_snap was (undone - 1) 1 = said 1
theorem dg_cg {f g : Int → Int} (h : dg_ f) (b : f 190 ≤ 10) (e : ∀ j, j = 1 ∨ (150 ≤ j ∧ j < 191) → g j = f j) : dg_ g := by
  intro k k0 k1
  rw [e 190 (by omega)] at k1
  rw [e (150 + 4 * k) (by omega), e 1 (Or.inl rfl)]
  exact h k k0 k1
theorem dg_0 {f : Int → Int} (h : f 190 = 0) : dg_ f := fun k k0 k1 => by omega
theorem cs_back_1 {f : Int → Int} (hf : 0 ≤ f 4 ∧ f 4 ≤ 11) (p q : Int) : cs_back p q f 1 = f 1 := by
  have t := (cs_uns_j (sp_by p) f hf p.natAbs).2 1 (by decide) (Or.inl (by decide))
  unfold cs_back
  generalize cs_uns (sp_by p) f p.natAbs = g at t
  unfold cs_off
  first
    | (split <;> (repeat rw [ab_upn _ _ (by decide)]) <;> exact t)
    | (repeat rw [ab_upn _ _ (by decide)]; exact t)
theorem cs_swap_1 {f : Int → Int} {p q : Int} (hp : 0 ≤ p) (hq : 0 ≤ q) : cs_swap p q f 1 = f 1 := by
  unfold cs_swap
  rw [ab_upn _ _ (by omega), ab_upn _ _ (by omega)]
theorem cy_s1 {w : ab_W} {S : fs_S} {wm : ab_W} {c : Int} (h : cy_I w S wm) (hok : fs_ok c S) : fs_s1 S := by
  obtain ⟨x, ix, mk, tf, tl, rc, said, was, undone, images, ru⟩ := S
  obtain ⟨N, T, a, b, hF, hR, hag, himg, hrul⟩ := h
  obtain ⟨o1, o2, o3, o4, o5, o6, o7, o8⟩ := hok
  obtain ⟨ki, f1, s1, nx, hacl, hnx, hu, hin, har⟩ := hag
  intro hz
  have b4 := (sg_all o1.1).2.2.2.2.1
  have q := har 0 (by decide) (by omega)
  have e := q.2 1 (by decide) (by decide)
  have v := q.1
  have a0 : at_ said was undone 0 = said := if_pos rfl
  have a1 : at_ said was undone (0 + 1) = sp_snap was (undone - (0 + 1)) := if_neg (by decide)
  rw [a0, a1] at e
  rw [show undone - (0 + 1) = undone - 1 by omega] at e
  rw [← e]
  generalize ki (ax nx 0) = k at v ⊢
  generalize f1 (ax nx 0) = p at v ⊢
  generalize s1 (ax nx 0) = q at v ⊢
  unfold cs_ua
  rcases v with ⟨e1, e2, e3, e4⟩ | ⟨e1, e2, e3⟩ | ⟨e1, e2, e3⟩ | ⟨e1, e2, e3⟩
  · rw [if_pos e1]
    exact cs_back_1 b4 p q
  · rw [if_neg (by omega), if_pos e1]
    exact ab_upn _ _ (by omega)
  · rw [if_neg (by omega), if_neg (by omega), if_pos e1]
    exact cs_swap_1 e2.1 e3.1
  · rw [if_neg (by omega), if_neg (by omega), if_neg (by omega)]
    exact (ab_upn _ _ (by decide)).trans (ab_upn _ _ (by decide))
section DG
variable {c : Int} {S : fs_S}
theorem dg_hour (h : fs_dg S) (hok : fs_ok c S) : fs_dg (fs_hour S) := by
  obtain ⟨x, ix, mk, tf, tl, rc, said, was, undone, images, ru⟩ := S
  have sA := sg_all hok.1.1
  refine ⟨?_, h.2⟩
  show dg_ (if _ then sp_pass said else said)
  split
  · exact dg_cg h.1 sA.2.2.2.2.2.2.2.2.2.2.2.2.2.2.2.2.2.2 (fun j hj => pass_j sA.2.2.2.2.1 (by omega) (by omega) (by omega) (by omega) (by omega))
  · exact h.1
theorem dg_rate (h : fs_dg S) (hok : fs_ok c S) (y1 y2 : Int) : fs_dg (fs_rate S y1 y2) := by
  obtain ⟨x, ix, mk, tf, tl, rc, said, was, undone, images, ru⟩ := S
  have sA := sg_all hok.1.1
  refine ⟨?_, h.2⟩
  show dg_ (if said 0 = 1 ∧ (0 ≤ y1 ∧ y1 ≤ 23) ∧ -3 ≤ y2 ∧ y2 ≤ 3 then ab_up said (10 + y1) y2 else said)
  split
  · rename_i g
    exact dg_cg h.1 sA.2.2.2.2.2.2.2.2.2.2.2.2.2.2.2.2.2.2 (fun j hj => ab_upn _ _ (by omega))
  · exact h.1
theorem dg_swap (h : fs_dg S) (hok : fs_ok c S) (y1 y2 : Int) : fs_dg (fs_swap S y1 y2) := by
  obtain ⟨x, ix, mk, tf, tl, rc, said, was, undone, images, ru⟩ := S
  have sA := sg_all hok.1.1
  have b1 := sA.2.1
  refine ⟨?_, h.2⟩
  show dg_ (if (0 ≤ y1 ∧ y1 < said 1) ∧ (0 ≤ y2 ∧ y2 < said 1) ∧ ¬ y1 = y2 then ab_up (ab_up said (46 + y1) (said (46 + y2))) (46 + y2) (said (46 + y1)) else said)
  split
  · rename_i g
    exact dg_cg h.1 sA.2.2.2.2.2.2.2.2.2.2.2.2.2.2.2.2.2.2 (fun j hj => (ab_upn _ _ (by omega)).trans (ab_upn _ _ (by omega)))
  · exact h.1
theorem dg_stop (h : fs_dg S) (hok : fs_ok c S) : fs_dg (fs_stop S) := by
  obtain ⟨x, ix, mk, tf, tl, rc, said, was, undone, images, ru⟩ := S
  have sA := sg_all hok.1.1
  refine ⟨?_, h.2⟩
  show dg_ (if said 0 = 1 ∧ said 7 = 0 then ab_up (ab_up said 7 1) 8 (said 8 + 1) else said)
  split
  · exact dg_cg h.1 sA.2.2.2.2.2.2.2.2.2.2.2.2.2.2.2.2.2.2 (fun j hj => (ab_upn _ _ (by omega)).trans (ab_upn _ _ (by omega)))
  · exact h.1
theorem dg_undo (h : fs_dg S) (hok : fs_ok c S) (hs : fs_s1 S) : fs_dg (fs_undo S) := by
  obtain ⟨x, ix, mk, tf, tl, rc, said, was, undone, images, ru⟩ := S
  have sA := sg_all hok.1.1
  refine ⟨?_, h.2⟩
  show dg_ (if undone = 0 then said else sp_cp (sp_snap was (undone - 1)) said 53)
  split
  · exact h.1
  · rename_i g
    refine dg_cg h.1 sA.2.2.2.2.2.2.2.2.2.2.2.2.2.2.2.2.2.2 (fun j hj => ?_)
    rcases hj with rfl | hj
    · exact (if_pos (by decide)).trans (hs g)
    · exact if_neg (by omega)
theorem rn_j {B : Int} {f : Int → Int} (hI : sg_ok B f) {E : (Int → Int) → Int} (hE : ∀ g, -3 ≤ E g ∧ E g ≤ 3) {j : Int} (hj : j = 1 ∨ 46 ≤ j) : ∀ n : Nat, B + n ≤ 30000 → sp_runN E f n j = f j
  | 0, _ => rfl
  | n + 1, hn => by
    have ih := rn_j hI hE hj n (by omega)
    have b4 := (sg_all (sg_runN hI hE n (by omega))).2.2.2.2.1
    show sp_passAt (E (sp_runN E f n)) (sp_runN E f n) j = f j
    rw [pa_j b4 (by omega) (by omega) (by omega) (by omega) (by omega)]
    exact ih
theorem dg_run (h : fs_dg S) (hok : fs_ok c S) (y1 y2 : Int) : fs_dg (fs_run S y1 y2) := by
  obtain ⟨x, ix, mk, tf, tl, rc, said, was, undone, images, ru⟩ := S
  have sA := sg_all hok.1.1
  refine ⟨?_, h.2⟩
  show dg_ (if said 0 = 1 ∧ (0 ≤ y1 ∧ y1 < rc) ∧ (1 ≤ y2 ∧ y2 ≤ 96) ∧ 24 * said 6 + said 5 + y2 < 24000 then sp_runN (ck_E (ru y1)) said y2.toNat else said)
  split
  · rename_i g
    exact dg_cg h.1 sA.2.2.2.2.2.2.2.2.2.2.2.2.2.2.2.2.2.2 (fun j hj => rn_j hok.1.1 (ck_E_b _) (by omega) _ (by omega))
  · exact h.1
theorem dg_diary (h : fs_dg S) (hok : fs_ok c S) (y1 y2 y3 z : Int) : fs_dg (fs_diary S y1 y2 y3 z) := by
  obtain ⟨x, ix, mk, tf, tl, rc, said, was, undone, images, ru⟩ := S
  have sA := sg_all hok.1.1
  have b9 := sA.2.2.2.2.2.2.2.2.2.2.2.2.2.2.2.2.2
  refine ⟨?_, h.2⟩
  show dg_ (if y1 = -1 then ab_up said 190 0 else if (0 ≤ y1 ∧ y1 < said 1) ∧ (0 ≤ y2 ∧ y2 ≤ 99) ∧ (0 ≤ y3 ∧ y3 ≤ 4) ∧ ¬ said 190 = 10 then sp_dia said y1 y2 y3 z else said)
  split
  · exact dg_0 (ab_upe _ _ _)
  · split
    · rename_i g
      intro k k0 k1
      have e9 : sp_dia said y1 y2 y3 z 190 = said 190 + 1 := ab_upe _ _ _
      have e1 : sp_dia said y1 y2 y3 z 1 = said 1 := by
        unfold sp_dia
        rw [ab_upn _ _ (by omega), ab_upn _ _ (by omega), ab_upn _ _ (by omega), ab_upn _ _ (by omega), ab_upn _ _ (by omega)]
      rw [e9] at k1
      rw [e1]
      by_cases ek : k = said 190
      · subst ek
        unfold sp_dia
        rw [ab_upn _ _ (by omega), ab_upn _ _ (by omega), ab_upn _ _ (by omega), ab_upn _ _ (by omega), ab_upe]
        exact g.1.2
      · have ej : sp_dia said y1 y2 y3 z (150 + 4 * k) = said (150 + 4 * k) := by
          unfold sp_dia
          rw [ab_upn _ _ (by omega), ab_upn _ _ (by omega), ab_upn _ _ (by omega), ab_upn _ _ (by omega), ab_upn _ _ (by omega)]
        rw [ej]
        exact h.1 k k0 (by omega)
    · exact h.1
theorem dg_image (h : fs_dg S) (hok : fs_ok c S) (y1 : Int) : fs_dg (fs_image S y1) := by
  obtain ⟨x, ix, mk, tf, tl, rc, said, was, undone, images, ru⟩ := S
  have sA := sg_all hok.1.1
  have b9 := sA.2.2.2.2.2.2.2.2.2.2.2.2.2.2.2.2.2.2
  refine ⟨h.1, fun j j0 j1 hj => ?_⟩
  have hj : (if 0 ≤ y1 ∧ y1 ≤ 3 then ab_up mk y1 1 else mk) j = 1 := hj
  show dg_ (sp_img (if 0 ≤ y1 ∧ y1 ≤ 3 then sp_im said images y1 191 else images) j)
  by_cases g : 0 ≤ y1 ∧ y1 ≤ 3
  · rw [if_pos g] at hj ⊢
    by_cases e : j = y1
    · subst e
      refine dg_cg h.1 b9 (fun k hk => ?_)
      unfold sp_img sp_im
      rw [if_pos (by omega)]
      congr 1
      omega
    · rw [ab_upn _ _ e] at hj
      refine dg_cg (h.2 j j0 j1 hj) (sg_all (hok.2.2.2.2.1 j j0 j1 hj).1).2.2.2.2.2.2.2.2.2.2.2.2.2.2.2.2.2.2 (fun k hk => ?_)
      unfold sp_img sp_im
      rw [if_neg (by omega)]
  · rw [if_neg g] at hj ⊢
    exact h.2 j j0 j1 hj
theorem dg_back (h : fs_dg S) (hok : fs_ok c S) (y1 : Int) : fs_dg (fs_back S y1) := by
  obtain ⟨x, ix, mk, tf, tl, rc, said, was, undone, images, ru⟩ := S
  refine ⟨?_, h.2⟩
  show dg_ (if (0 ≤ y1 ∧ y1 ≤ 3) ∧ mk y1 = 1 then sp_cp (sp_img images y1) said 191 else said)
  split
  · rename_i g
    exact dg_cg (h.2 y1 g.1.1 g.1.2 g.2) (sg_all (hok.2.2.2.2.1 y1 g.1.1 g.1.2 g.2).1).2.2.2.2.2.2.2.2.2.2.2.2.2.2.2.2.2.2 (fun k hk => if_pos (by omega))
  · exact h.1
theorem dg_feed (h : fs_dg S) (hok : fs_ok c S) (y1 y2 y3 y4 y5 : Int) : fs_dg (fs_feed S y1 y2 y3 y4 y5) := by
  obtain ⟨x, ix, mk, tf, tl, rc, said, was, undone, images, ru⟩ := S
  exact h
theorem dg_end (h : fs_dg S) (hok : fs_ok c S) (y1 : Int) : fs_dg (fs_end S y1) := by
  obtain ⟨x, ix, mk, tf, tl, rc, said, was, undone, images, ru⟩ := S
  exact h
theorem dg_seed (h : fs_dg S) (hok : fs_ok c S) (y1 : Int) : fs_dg (fs_seed S y1) := by
  obtain ⟨x, ix, mk, tf, tl, rc, said, was, undone, images, ru⟩ := S
  exact h
theorem dg_ring (h : fs_dg S) (hok : fs_ok c S) (rd0 : Int → Int) : fs_dg (fs_ring S rd0) := by
  obtain ⟨x, ix, mk, tf, tl, rc, said, was, undone, images, ru⟩ := S
  show fs_dg (ring_to ⟨x, ix, mk, tf, tl, rc, said, was, undone, images, ru⟩ (rs_all tf tl (rs_ini rd0 46)))
  rcases rs_all tf tl (rs_ini rd0 46) with e | rd
  · exact h
  · exact ⟨dg_0 ((if_pos (by decide)).trans (if_neg (by decide))), h.2⟩
theorem dg_rule (h : fs_dg S) (hok : fs_ok c S) : fs_dg (fs_rule S) := by
  obtain ⟨x, ix, mk, tf, tl, rc, said, was, undone, images, ru⟩ := S
  by_cases c6 : 6 ≤ rc
  · have e : fs_rule ⟨x, ix, mk, tf, tl, rc, said, was, undone, images, ru⟩ = ⟨x, ix, mk, tf, tl, rc, said, was, undone, images, ru⟩ := if_pos c6
    rw [e]
    exact h
  · by_cases hz : ru_er tf tl = 0
    · have e : fs_rule ⟨x, ix, mk, tf, tl, rc, said, was, undone, images, ru⟩ = ⟨x, ix, mk, tf, 0, rc + 1, said, was, undone, images, ab_up ru rc (ru_ks tf tl)⟩ := (if_neg c6).trans (if_pos hz)
      rw [e]
      exact h
    · have e : fs_rule ⟨x, ix, mk, tf, tl, rc, said, was, undone, images, ru⟩ = ⟨x, ix, mk, tf, 0, rc, said, was, undone, images, ru⟩ := (if_neg c6).trans (if_neg hz)
      rw [e]
      exact h
end DG
def lk_I (c : Int) (w : ab_W) : Prop := ∃ (S : fs_S) (wm : ab_W), cy_I w S wm ∧ my_I c S wm ∧ fs_dg S
