/-! the class: what is undone, run, kept, told -/
theorem cf_gen {N : Nat} {T : Nat → tm_S} {w w2 : ab_W} {a b a2 b2 : Nat} {rc x x2 tl tl2 : Int} {ix mk tf ix2 mk2 tf2 : Int → Int} {wm : ab_W} (h : ci_F N T w a b rc x ix mk tf tl wm) (hW2 : tm_W N T w2) (hA2 : is_C T a2 b2) (k1 : tm_g w2 0 1 = some (ab_R a2)) (k2 : tm_g w2 0 2 = some (ab_R b2)) (e06 : tm_g w2 0 6 = tm_g w 0 6) (kl : tm_g w2 1 1 = some (ab_I tl2)) (kf : ∀ j, tm_g w2 2 j = some (ab_I (tf2 j))) (e31 : ∀ j, tm_g w2 31 j = tm_g w 31 j) (e29 : ∀ j, tm_g w2 29 j = tm_g w 29 j) (hac2 : ac_ok w2 32) (kx : tm_g w2 a2 6 = some (ab_I x2)) (kmd : ∀ j : Int, 0 ≤ j → j ≤ 3 → tm_g w2 30 j = some (ab_I (mk2 j))) (kix : ∀ j : Int, 0 ≤ j → j ≤ 3 → ∀ ik : Nat, (ik : Int) = 55 + 13 * j → tm_g w2 ik 6 = some (ab_I (ix2 j))) : ci_F N T w2 a2 b2 rc x2 ix2 mk2 tf2 tl2 wm := by
  obtain ⟨hW, hA, ⟨kn, kt, krc, ktl, ktf⟩, ⟨hrc, hN⟩, hrl, him, hac, hx, hmd, hix, hseg⟩ := h
  refine ⟨hW2, hA2, ⟨k1, k2, e06.trans krc, kl, kf⟩, ⟨hrc, hN⟩, fun j j0 j1 => ?_, fun j j0 j1 => ?_, hac2, kx, kmd, kix, hseg⟩
  · obtain ⟨q, n, q1, q2⟩ := hrl j j0 j1
    exact ⟨q, n, (e31 j).trans q1, q2⟩
  · obtain ⟨ik, q1, q2⟩ := him j j0 j1
    exact ⟨ik, (e29 j).trans q1, q2⟩
theorem ar_sd {said said2 was : Int → Int} {u nx : Int} {ki f1 s1 : Int → Int} (h : ar said was u nx ki f1 s1) (h7 : said 1 ≤ 7) (h4 : 0 ≤ said 4 ∧ said 4 ≤ 11) (e : ∀ j, 0 ≤ j → j < 53 → said2 j = said j) : ar said2 was u nx ki f1 s1 := by
  intro i i0 i1
  have q := h i i0 i1
  rw [e 1 (by decide) (by decide)]
  refine ⟨q.1, fun j j0 j1 => ?_⟩
  have e1 : at_ said2 was u (i + 1) = at_ said was u (i + 1) := by
    unfold at_
    rw [if_neg (by omega), if_neg (by omega)]
  rw [e1, ← q.2 j j0 j1]
  by_cases z : i = 0
  · subst z
    have a1 : at_ said2 was u 0 = said2 := if_pos rfl
    have a2 : at_ said was u 0 = said := if_pos rfl
    rw [a1, a2]
    exact ua_cg (by have := q.1; exact this) h7 h4 e j j0 j1
  · have a1 : at_ said2 was u i = at_ said was u i := by
      unfold at_
      rw [if_neg z, if_neg z]
    rw [a1]
theorem ag_sd {said said2 was : Int → Int} {u : Int} {w : ab_W} (h : ag said was u w) (h7 : said 1 ≤ 7) (h4 : 0 ≤ said 4 ∧ said 4 ≤ 11) (e : ∀ j, 0 ≤ j → j < 53 → said2 j = said j) : ag said2 was u w := by
  obtain ⟨ki, f1, s1, nx, q1, q2, q3, q4, q5⟩ := h
  exact ⟨ki, f1, s1, nx, q1, q2, q3, q4, ar_sd q5 h7 h4 e⟩
set_option maxRecDepth 4000 in
theorem cy_undo {w : ab_W} {S : fs_S} {wm : ab_W} {c : Int} (h : cy_I w S wm) (hok : fs_ok c S) (hcm : c ≤ 1000) : ab_Mt g_G g_rs mt_Tu_undo 3 0 0 [ab_R 0] w (cy_A (fa_undo S) (fs_undo S) wm) := by
  obtain ⟨x, ix, mk, tf, tl, rc, said, was, undone, images, ru⟩ := S
  obtain ⟨N, T, a, b, hF, hR, hag, himg, hrul⟩ := h
  obtain ⟨hW, hA, ⟨kn, kt, krc, ktl, ktf⟩, ⟨hrc, hN⟩, hrl, him, hac, hx, hmd, hix, hseg⟩ := id hF
  obtain ⟨o1, o2, o3, o4, o5, o6, o7, o8⟩ := hok
  have hab := hA.ab
  have hab2 : a = 3 ∨ a = 16 := by omega
  have t0 := tu_of hW hA kn kt krc
  have sA := sg_all o1.1
  obtain ⟨ki, f1, s1, nx, hacl, hnx, hu, hin, har⟩ := id hag
  have hv0 : 0 < undone → ac_v (said 1) (ki ((nx + 19) % 20)) (f1 ((nx + 19) % 20)) (s1 ((nx + 19) % 20)) := fun hp => by
    have q := (har 0 (by decide) hp).1
    have ea : ax nx 0 = (nx + 19) % 20 := by unfold ax; rw [show nx + 19 - 0 = nx + 19 by omega]
    rw [ea] at q
    exact q
  refine (an_mt (co_Tu_undo o1.1 t0 hR hab2 hacl hnx hu hv0) (tm_Tu_undo hW hA kn kt hac) (fun r w' h => h.1) (fun r w' h => by rw [h.1.1, hW.1])).conseq (fun r w2 h => ?_)
  obtain ⟨⟨hW2, v, rfl, hf, l1, u1⟩, r1, w1, ⟨-, hcase⟩, sm, sr⟩ := h
  have hF2 := cf_keep hF hW2 (fun p j hK => hf p j (by omega)) (hac.fr (fun k => hf _ k (by omega)) (fun k => hf _ k (by omega)) (fun k => hf _ k (by omega)))
  have im2 := im_fr hW hW2 him (fun p j q0 q1 => hf p j (by omega)) himg
  have ru2 := ru_fr hW hW2 hrl (fun p j q0 => hf p j (by omega)) hrul
  rcases hcase with ⟨g, e1, hR1, hA1⟩ | ⟨g, e1, e2⟩
  · obtain ⟨hk, hrow⟩ := ar_undo har hnx ⟨g, hu.2⟩ sA.2.1.2 (at_4 o1 o3.2)
    have ev := an_int sr e1 rfl (by omega) ⟨by omega, by omega⟩
    have hsg := o1.back (o3.2 (undone - 1) (by omega) (by omega))
    have hsg2 : sgc c (cs_ua (ki ((nx + 19) % 20)) (f1 ((nx + 19) % 20)) (s1 ((nx + 19) % 20)) said) := hsg.cong (fun k k0 k1 => (hrow k k0 k1).symm)
    have hR2 := rj_cg hR1 hsg2.1 hrow
    have gn : ¬ undone = 0 := by omega
    simp only [fa_undo, fs_undo, if_neg gn]
    exact ⟨by rw [ev], N, T, a, b, hF2, rj_sm hR2 hsg.1 (by omega) sm hW2 hA.ri, ag_sm sm hW2 hA.ac hA1 (by omega) (by omega) hin hk, im2, ru2⟩
  · subst e2
    have g0 : undone = 0 := by omega
    subst g0
    have ev := an_int sr e1 rfl (by decide) ⟨by omega, by omega⟩
    simp only [fa_undo, fs_undo, if_true]
    exact ⟨by rw [ev], N, T, a, b, hF2, rj_sm hR o1.1 (by omega) sm hW2 hA.ri, ag_sm sm hW2 hA.ac hacl hnx hu hin har, im2, ru2⟩
set_option maxRecDepth 4000 in
theorem cy_run {w : ab_W} {S : fs_S} {wm : ab_W} {c : Int} (h : cy_I w S wm) (hok : fs_ok c S) (hcm : c ≤ 1000) (y1 : Int) (hy1 : ab_in y1) (y2 : Int) (hy2 : ab_in y2) : ab_Mt g_G g_rs mt_Tu_run 6 0 0 [ab_R 0, ab_I y1, ab_I y2] w (cy_A (fa_run S y1 y2) (fs_run S y1 y2) wm) := by
  obtain ⟨x, ix, mk, tf, tl, rc, said, was, undone, images, ru⟩ := S
  obtain ⟨N, T, a, b, hF, hR, hag, himg, hrul⟩ := h
  obtain ⟨hW, hA, ⟨kn, kt, krc, ktl, ktf⟩, ⟨hrc, hN⟩, hrl, him, hac, hx, hmd, hix, hseg⟩ := id hF
  obtain ⟨o1, o2, o3, o4, o5, o6, o7, o8⟩ := hok
  have hab := hA.ab
  have hab2 : a = 3 ∨ a = 16 := by omega
  have t0 := tu_of hW hA kn kt krc
  have sA := sg_all o1.1
  obtain ⟨ki, f1, s1, nx, hacl, hnx, hu, hin, har⟩ := id hag
  obtain ⟨sk, tp, hM⟩ := mac_of hW hA.ma
  obtain ⟨fr, rl0, hfr⟩ := arr_of hW hA.2.2.2.1
  obtain ⟨p, n, cd, hru⟩ : ∃ (p n : Nat) (cd : Int → Int), (0 ≤ y1 ∧ y1 < rc) → fr y1 = some p ∧ 129 ≤ p ∧ w[p]? = some (ab_ob 6 [ab_R (p + 1)]) ∧ w[p + 1]? = some (ab_ai 0 n cd) ∧ ((ru y1).map a_cc).flatten.length = n ∧ n ≤ 100000 ∧ (∀ (k : Nat) (x : Int), ((ru y1).map a_cc).flatten[k]? = some x → cd (k : Int) = x) ∧ (∀ x ∈ ((ru y1).map a_cc).flatten, -35 ≤ x ∧ x ≤ 99999 ∧ (x ≤ -21 ∨ -12 ≤ x)) ∧ (∀ g, -3 ≤ ck_E (ru y1) g ∧ ck_E (ru y1) g ≤ 3) ∧ ∀ g, vm_go (sp_wf g) ((ru y1).map a_cc).flatten [] = some (ck_E (ru y1) g) := by
    by_cases hy : 0 ≤ y1 ∧ y1 < rc
    · obtain ⟨q, n, cd, g1, g2, g3, g4, g5, g6⟩ := hrul y1 hy.1 hy.2
      exact ⟨q, n, cd, fun _ => ⟨hfr y1 q g1, g2, g3, g4, g5.1, g5.2, g6, ck_bd _ (o8 y1 hy.1 hy.2), ck_E_b _, fun g => ck_vm (sp_wf g) _ (o8 y1 hy.1 hy.2)⟩⟩
    · exact ⟨0, 0, fun _ => 0, fun z => absurd z hy⟩
  refine (an_mt (co_Tu_run o1.1 t0 hR hab2 hacl hnx hu hM hrc rl0 y1 hy1 y2 hy2 hru) (tm_Tu_run hW hA kn kt y1 (by omega) (by omega) y2 (by omega) (by omega) rc krc (fun j h0 h1 => by obtain ⟨q, n, k1, k2, -⟩ := hrl j h0 h1; exact ⟨q, n, k1, k2⟩)) (fun r w' h => h.1) (fun r w' h => by rw [h.1.1, hW.1])).conseq (fun r w2 h => ?_)
  obtain ⟨⟨hW2, v, rfl, hf, l1, u1⟩, r1, w1, ⟨-, hcase⟩, sm, sr⟩ := h
  have hF2 := cf_keep hF hW2 (fun p j hK => hf p j (by omega)) (hac.fr (fun k => hf _ k (by omega)) (fun k => hf _ k (by omega)) (fun k => hf _ k (by omega)))
  have im2 := im_fr hW hW2 him (fun p j q0 q1 => hf p j (by omega)) himg
  have ru2 := ru_fr hW hW2 hrl (fun p j q0 => hf p j (by omega)) hrul
  rcases hcase with ⟨g, e1, hR1, hA1⟩ | ⟨g, e1, e2⟩
  · have hsg := o1.run (ck_E_b (ru y1)) g.2.2.1.1 g.2.2.2
    have q4 := (sg_all hsg.1).2.2.2.2.1
    have ev := an_int sr e1 rfl (by omega) ⟨by omega, by omega⟩
    simp only [fa_run, fs_run, if_pos g]
    exact ⟨by rw [ev], N, T, a, b, hF2, rj_sm hR1 hsg.1 (by omega) sm hW2 hA.ri, ag_sm sm hW2 hA.ac hA1 hnx (by decide) hin ar_0, im2, ru2⟩
  · subst e2
    have ev := an_int sr e1 rfl (by decide) ⟨by omega, by omega⟩
    simp only [fa_run, fs_run, if_neg g]
    exact ⟨by rw [ev], N, T, a, b, hF2, rj_sm hR o1.1 (by omega) sm hW2 hA.ri, ag_sm sm hW2 hA.ac hacl hnx hu hin har, im2, ru2⟩
set_option maxRecDepth 4000 in
theorem cy_diary {w : ab_W} {S : fs_S} {wm : ab_W} {c : Int} (h : cy_I w S wm) (hok : fs_ok c S) (hcm : c ≤ 1000) (y1 : Int) (hy1 : ab_in y1) (y2 : Int) (hy2 : ab_in y2) (y3 : Int) (hy3 : ab_in y3) (y4 : Int) (hy4 : y4 = 0 ∨ y4 = 1) : ab_Mt g_G g_rs mt_Tu_diary 1 0 0 [ab_R 0, ab_I y1, ab_I y2, ab_I y3, ab_I y4] w (cy_A (fa_diary S y1 y2 y3 y4) (fs_diary S y1 y2 y3 y4) wm) := by
  obtain ⟨x, ix, mk, tf, tl, rc, said, was, undone, images, ru⟩ := S
  obtain ⟨N, T, a, b, hF, hR, hag, himg, hrul⟩ := h
  obtain ⟨hW, hA, ⟨kn, kt, krc, ktl, ktf⟩, ⟨hrc, hN⟩, hrl, him, hac, hx, hmd, hix, hseg⟩ := id hF
  obtain ⟨o1, o2, o3, o4, o5, o6, o7, o8⟩ := hok
  have hab := hA.ab
  have hab2 : a = 3 ∨ a = 16 := by omega
  have t0 := tu_of hW hA kn kt krc
  have sA := sg_all o1.1
  refine (an_mt (co_Tu_diary o1.1 t0 hR hab2 y1 hy1 y2 hy2 y3 hy3 y4 hy4) (tm_Tu_diary hW hA kn kt y1 (by omega) (by omega) y2 (by omega) (by omega) y3 (by omega) (by omega) y4 (by omega) (by omega)) (fun r w' h => h.1) (fun r w' h => by rw [h.1.1, hW.1])).conseq (fun r w2 h => ?_)
  obtain ⟨⟨hW2, v, rfl, hf, l1, u1⟩, r1, w1, ⟨-, hcase⟩, sm, sr⟩ := h
  have hF2 := cf_keep hF hW2 (fun p j hK => hf p j (by omega)) (hac.fr (fun k => hf _ k (by omega)) (fun k => hf _ k (by omega)) (fun k => hf _ k (by omega)))
  have ag2 := ag_fr hW hW2 hA.ac (fun p j q0 q1 => hf p j (by omega)) hag
  have im2 := im_fr hW hW2 him (fun p j q0 q1 => hf p j (by omega)) himg
  have ru2 := ru_fr hW hW2 hrl (fun p j q0 => hf p j (by omega)) hrul
  have b1 := sA.2.1
  have b4 := sA.2.2.2.2.1
  have b9 := sA.2.2.2.2.2.2.2.2.2.2.2.2.2.2.2.2.2
  rcases hcase with ⟨g, e1, hR1⟩ | ⟨g, g1, e1, hR1⟩ | ⟨g, g1, e1, e2⟩
  · have hsg := o1.up (j := 190) (v := 0) (by decide) (by decide) (by decide) (by omega) (by decide)
    have ev := an_int sr e1 rfl (by decide) ⟨by omega, by omega⟩
    simp only [fa_diary, fs_diary, if_pos g]
    exact ⟨by rw [ev], N, T, a, b, hF2, rj_sm hR1 hsg.1 (by omega) sm hW2 hA.ri, ag_sd ag2 b1.2 b4 (fun j j0 j1 => ab_upn _ _ (by omega)), im2, ru2⟩
  · have hsg := o1.dia g1 hy4
    have ev := an_int sr e1 rfl (by omega) ⟨by omega, by omega⟩
    simp only [fa_diary, fs_diary, if_neg g, if_pos g1]
    refine ⟨by rw [ev], N, T, a, b, hF2, rj_sm hR1 hsg.1 (by omega) sm hW2 hA.ri, ag_sd ag2 b1.2 b4 (fun j j0 j1 => ?_), im2, ru2⟩
    unfold sp_dia
    rw [ab_upn _ _ (by omega), ab_upn _ _ (by omega), ab_upn _ _ (by omega), ab_upn _ _ (by omega), ab_upn _ _ (by omega)]
  · subst e2
    have ev := an_int sr e1 rfl (by decide) ⟨by omega, by omega⟩
    simp only [fa_diary, fs_diary, if_neg g, if_neg g1]
    exact ⟨by rw [ev], N, T, a, b, hF2, rj_sm hR o1.1 (by omega) sm hW2 hA.ri, ag2, im2, ru2⟩
set_option maxRecDepth 4000 in
theorem cy_seed {w : ab_W} {S : fs_S} {wm : ab_W} {c : Int} (h : cy_I w S wm) (hok : fs_ok c S) (hcm : c ≤ 1000) (y1 : Int) (hy1 : ab_in y1) : ab_Mt g_G g_rs mt_Tu_seed 0 0 0 [ab_R 0, ab_I y1] w (cy_A (fa_seed S y1) (fs_seed S y1) wm) := by
  obtain ⟨x, ix, mk, tf, tl, rc, said, was, undone, images, ru⟩ := S
  obtain ⟨N, T, a, b, hF, hR, hag, himg, hrul⟩ := h
  obtain ⟨hW, hA, ⟨kn, kt, krc, ktl, ktf⟩, ⟨hrc, hN⟩, hrl, him, hac, hx, hmd, hix, hseg⟩ := id hF
  obtain ⟨o1, o2, o3, o4, o5, o6, o7, o8⟩ := hok
  have hab := hA.ab
  have hab2 : a = 3 ∨ a = 16 := by omega
  have t0 := tu_of hW hA kn kt krc
  have sA := sg_all o1.1
  refine (an_mt (co_Tu_seed o1.1 t0 hR y1 hy1) (tm_Tu_seed hW hA kn kt y1 (by omega) (by omega) x hx) (fun r w' h => h.1) (fun r w' h => by rw [h.1.1, hW.1])).conseq (fun r w2 h => ?_)
  obtain ⟨⟨hW2, v, rfl, hf, x1, kx1, hvl, hvu, hp1, hp2⟩, r1, w1, ⟨-, hcase⟩, sm, sr⟩ := h
  have ag2 := ag_fr hW hW2 hA.ac (fun p j q0 q1 => hf p j (by omega)) hag
  have im2 := im_fr hW hW2 him (fun p j q0 q1 => hf p j (by omega)) himg
  have ru2 := ru_fr hW hW2 hrl (fun p j q0 => hf p j (by omega)) hrul
  rcases hcase with ⟨g, e1, hR1⟩ | ⟨g, e1, e2⟩
  · obtain ⟨ev, ex⟩ := hp2 g
    subst ev
    subst ex
    have gn : ¬ x1 < 0 := by omega
    simp only [fa_seed, fs_seed, if_neg gn]
    exact ⟨rfl, N, T, a, b, cf_gen hF hW2 hA ((hf 0 1 (by omega)).trans kn) ((hf 0 2 (by omega)).trans kt) (hf 0 6 (by omega)) ((hf 1 1 (by omega)).trans ktl) (fun j => (hf 2 j (by omega)).trans (ktf j)) (fun j => hf 31 j (by omega)) (fun j => hf 29 j (by omega)) (hac.fr (fun k => hf _ k (by omega)) (fun k => hf _ k (by omega)) (fun k => hf _ k (by omega))) kx1 (fun j j0 j1 => (hf 30 j (by omega)).trans (hmd j j0 j1)) (fun j j0 j1 ik e => (hf ik 6 (by omega)).trans (hix j j0 j1 ik e)), rj_sm hR1 o1.1 (by omega) sm hW2 hA.ri, ag2, im2, ru2⟩
  · subst e2
    obtain ⟨ev, ex⟩ := hp1 g
    subst ev
    subst ex
    simp only [fa_seed, fs_seed, if_pos g]
    exact ⟨rfl, N, T, a, b, cf_gen hF hW2 hA ((hf 0 1 (by omega)).trans kn) ((hf 0 2 (by omega)).trans kt) (hf 0 6 (by omega)) ((hf 1 1 (by omega)).trans ktl) (fun j => (hf 2 j (by omega)).trans (ktf j)) (fun j => hf 31 j (by omega)) (fun j => hf 29 j (by omega)) (hac.fr (fun k => hf _ k (by omega)) (fun k => hf _ k (by omega)) (fun k => hf _ k (by omega))) kx1 (fun j j0 j1 => (hf 30 j (by omega)).trans (hmd j j0 j1)) (fun j j0 j1 ik e => (hf ik 6 (by omega)).trans (hix j j0 j1 ik e)), rj_sm hR o1.1 (by omega) sm hW2 hA.ri, ag2, im2, ru2⟩
set_option maxRecDepth 4000 in
theorem cy_image {w : ab_W} {S : fs_S} {wm : ab_W} {c : Int} (h : cy_I w S wm) (hok : fs_ok c S) (hcm : c ≤ 1000) (y1 : Int) (hy1 : ab_in y1) : ab_Mt g_G g_rs mt_Tu_image 3 0 0 [ab_R 0, ab_I y1] w (cy_A (fa_image S y1) (fs_image S y1) wm) := by
  obtain ⟨x, ix, mk, tf, tl, rc, said, was, undone, images, ru⟩ := S
  obtain ⟨N, T, a, b, hF, hR, hag, himg, hrul⟩ := h
  obtain ⟨hW, hA, ⟨kn, kt, krc, ktl, ktf⟩, ⟨hrc, hN⟩, hrl, him, hac, hx, hmd, hix, hseg⟩ := id hF
  obtain ⟨o1, o2, o3, o4, o5, o6, o7, o8⟩ := hok
  have hab := hA.ab
  have hab2 : a = 3 ∨ a = 16 := by omega
  have t0 := tu_of hW hA kn kt krc
  have sA := sg_all o1.1
  obtain ⟨fi, im0, hfi⟩ := arr_of hW hA.2.1
  obtain ⟨md, md0, hmdf⟩ := ai_of hW hA.2.2.1
  obtain ⟨ik, g0, y0, hik, hIm, hfik⟩ : ∃ (ik : Nat) (g0 : Int → Int) (y0 : Int), 55 ≤ ik ∧ ri_at_j ik g0 y0 w ∧ (0 ≤ y1 → y1 ≤ 3 → fi y1 = some ik ∧ (ik : Int) = 55 + 13 * y1 ∧ is_Ri T ik) := by
    by_cases g : 0 ≤ y1 ∧ y1 ≤ 3
    · obtain ⟨ik, k1, k2, k3⟩ := him y1 g.1 (by omega)
      obtain ⟨⟨g0, y0, q1, -⟩, -⟩ := himg y1 g.1 g.2 ik k3
      exact ⟨ik, g0, y0, by omega, q1, fun _ _ => ⟨hfi y1 ik k1, k3, k2⟩⟩
    · obtain ⟨ik, k1, k2, k3⟩ := him 0 (by decide) (by decide)
      obtain ⟨⟨g0, y0, q1, -⟩, -⟩ := himg 0 (by decide) (by decide) ik k3
      exact ⟨ik, g0, y0, by omega, q1, fun z1 z2 => absurd ⟨z1, z2⟩ g⟩
  refine (an_mt (co_Tu_image o1.1 t0 hR hab2 im0 md0 y1 hy1 (fun z1 z2 => (hfik z1 z2).1) hik hIm) (tm_Tu_image hW hA kn kt y1 (by omega) (by omega) him) (fun r w' h => h.1) (fun r w' h => by rw [h.1.1, hW.1])).conseq (fun r w2 h => ?_)
  obtain ⟨⟨hW2, v, rfl, hf, l1, u1, hp⟩, r1, w1, ⟨-, hcase⟩, sm, sr⟩ := h
  have ag2 := ag_fr hW hW2 hA.ac (fun p j q0 q1 => hf p j (by omega)) hag
  have ri2 := ri_fr hW hW2 hA.ri (fun p j q0 q1 => hf p j (by omega)) hR
  have ru2 := ru_fr hW hW2 hrl (fun p j q0 => hf p j (by omega)) hrul
  rcases hcase with ⟨g, e1, hR1, hI1⟩ | ⟨g, e1, e2⟩
  · have b6 := sA.2.2.2.2.2.2.1
    have ev := an_int sr e1 rfl (by omega) ⟨by omega, by omega⟩
    obtain ⟨f1, f2, f3⟩ := hfik g.1 g.2
    have hik2 := rj_sm hI1 o1.1 (by omega) sm hW2 f3
    simp only [fa_image, fs_image, if_pos g]
    refine ⟨by rw [ev], N, T, a, b, cf_gen hF hW2 hA ((hf 0 1 (by omega)).trans kn) ((hf 0 2 (by omega)).trans kt) (hf 0 6 (by omega)) ((hf 1 1 (by omega)).trans ktl) (fun j => (hf 2 j (by omega)).trans (ktf j)) (fun j => hf 31 j (by omega)) (fun j => hf 29 j (by omega)) (hac.fr (fun k => hf _ k (by omega)) (fun k => hf _ k (by omega)) (fun k => hf _ k (by omega))) ((hf a 6 (by omega)).trans hx) (fun j j0 j1 => ?_) (fun j j0 j1 ik2 e => ?_), ri2, ag2, fun j j0 j1 ik2 e => ?_, ru2⟩
    · by_cases ej : j = y1
      · subst ej; rw [ab_upe]; exact (hp g).2
      · rw [ab_upn _ _ ej]; exact (hf 30 j (by omega)).trans (hmd j j0 j1)
    · by_cases ej : j = y1
      · subst ej; rw [ab_upe]; exact ((hp g).1 ik2 e).trans hx
      · rw [ab_upn _ _ ej]; exact (hf ik2 6 (by omega)).trans (hix j j0 j1 ik2 e)
    · by_cases ej : j = y1
      · subst ej
        have ei : ik2 = ik := by omega
        subst ei
        refine ⟨⟨_, _, hik2, o1.1⟩, fun _ => ?_⟩
        rw [ab_upe]
        refine rj_cg hik2 o1.1 (fun k q0 q1 => ?_)
        unfold sp_img sp_im
        rw [if_pos (by omega)]
        congr 1
        omega
      · rw [ab_upn _ _ ej, ab_upn _ _ ej]
        obtain ⟨i3, m1, m2, m3⟩ := him j j0 (by omega)
        have ei : i3 = ik2 := by omega
        subst ei
        obtain ⟨⟨g2, y2, q1, q3⟩, q2⟩ := himg j j0 j1 i3 e
        refine ⟨⟨g2, y2, ri_fr hW hW2 m2 (fun p q a1 a2 => hf p q (by omega)) q1, q3⟩, fun z => ?_⟩
        refine rj_cg (ri_fr hW hW2 m2 (fun p q a1 a2 => hf p q (by omega)) (q2 z)) (o5 j j0 j1 z).1 (fun k x0 x1 => ?_)
        unfold sp_img sp_im
        rw [if_neg (by omega)]
  · have ev := an_int sr e1 rfl (by decide) ⟨by omega, by omega⟩
    have im2 := im_fr hW hW2 him (fun p j q0 q1 => hf p j (by omega)) himg
    simp only [fa_image, fs_image, if_neg g]
    exact ⟨by rw [ev], N, T, a, b, cf_keep hF hW2 (fun p j hK => hf p j (by omega)) (hac.fr (fun k => hf _ k (by omega)) (fun k => hf _ k (by omega)) (fun k => hf _ k (by omega))), ri2, ag2, im2, ru2⟩
