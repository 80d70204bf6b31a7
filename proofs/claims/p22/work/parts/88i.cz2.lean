/-! an ERRAND: both ways of looking for it come to the same -/
set_option maxRecDepth 4000 in
theorem cz_swings {w : ab_W} {S : fs_S} {wm : ab_W} {c : Int} (h : cy_I w S wm) (hok : fs_ok c S) (hcm : c ≤ 1000) (y1 : Int) (hy1 : ab_in y1) : ab_Mt g_G g_rs mt_Tu_swings 2 0 0 [ab_R 0, ab_I y1] w (cy_A (fa_swings S y1) S wm) := by
  obtain ⟨x, ix, mk, tf, tl, rc, said, was, undone, images, ru⟩ := S
  obtain ⟨N, T, a, b, hF, hR, hag, himg, hrul⟩ := h
  obtain ⟨hW, hA, ⟨kn, kt, krc, ktl, ktf⟩, ⟨hrc, hN⟩, hrl, him, hac, hx, hmd, hix, hseg⟩ := id hF
  obtain ⟨o1, o2, o3, o4, o5, o6, o7, o8⟩ := hok
  have hab := hA.ab
  have hab2 : a = 3 ∨ a = 16 := by omega
  have t0 := tu_of hW hA kn kt krc
  have sA := sg_all o1.1
  refine (co_Tu_swings o1.1 t0 hR y1 hy1).conseq (fun r w2 h => ?_)
  obtain ⟨rfl, rfl⟩ := h
  exact ⟨rfl, N, T, a, b, hF, hR, hag, himg, hrul⟩