/-! an ERRAND: both ways of looking for it come to the same -/
set_option maxRecDepth 4000 in
theorem cz_days {w : ab_W} {S : fs_S} {wm : ab_W} {c : Int} (h : cy_I w S wm) (hok : fs_ok c S) (hcm : c ≤ 1000) (y1 : Int) (hy1 : ab_in y1) (y2 : Int) (hy2 : ab_in y2) (y3 : Int) (hy3 : ab_in y3) (y4 : Int) (hy4 : ab_in y4) : ab_Mt g_G g_rs mt_Tu_days 3 0 0 [ab_R 0, ab_I y1, ab_I y2, ab_I y3, ab_I y4] w (cy_A (fa_days S y1 y2 y3 y4) S wm) := by
  obtain ⟨x, ix, mk, tf, tl, rc, said, was, undone, images, ru⟩ := S
  obtain ⟨N, T, a, b, hF, hR, hag, himg, hrul⟩ := h
  obtain ⟨hW, hA, ⟨kn, kt, krc, ktl, ktf⟩, ⟨hrc, hN⟩, hrl, him, hac, hx, hmd, hix, hseg⟩ := id hF
  obtain ⟨o1, o2, o3, o4, o5, o6, o7, o8⟩ := hok
  have hab := hA.ab
  have hab2 : a = 3 ∨ a = 16 := by omega
  have t0 := tu_of hW hA kn kt krc
  have sA := sg_all o1.1
  refine (co_Tu_days o1.1 t0 hR o2 y1 hy1 y2 hy2 y3 hy3 y4 hy4).conseq (fun r w2 h => ?_)
  obtain ⟨rfl, rfl⟩ := h
  exact ⟨rfl, N, T, a, b, hF, hR, hag, himg, hrul⟩
