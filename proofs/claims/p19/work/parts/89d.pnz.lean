/-! plan: what it has had ahead of the first HOUR stays nothing -/
def pnz (w : ab_W) : Prop := ∃ f : Int → Int, w[44]? = some (ab_ai 0 42 f) ∧ ∀ k, 0 ≤ k → k < 7 → f k = 0
def ru_of : fs_S → Int
  | ⟨x, ix, im, tape, taped, rules, said, was, undone, images, ru⟩ => rules
theorem is_C.pl {T : Nat → tm_S} {a b : Nat} (h : is_C T a b) : is_Pl T 40 := h.2.2.2.2.2.2.2.2.1
theorem pnz_q {w w2 : ab_W} {S S2 : fs_S} {wm wm2 : ab_W} (h : cy_I w S wm) (h2 : cy_I w2 S2 wm2) (e : ru_of S2 = ru_of S) : w2.length = w.length ∧ ∃ (N : Nat) (T : Nat → tm_S), tm_W N T w2 ∧ T 44 = tm_ai 0 42 (-2147483648) 2147483647 := by
  obtain ⟨x, ix, mk, tf, tl, rc, said, was, undone, images, ru⟩ := S
  obtain ⟨x2, ix2, mk2, tf2, tl2, rc2, said2, was2, undone2, images2, ru2⟩ := S2
  obtain ⟨N, T, a, b, hF, -⟩ := h
  obtain ⟨N2, T2, a2, b2, hF2, -⟩ := h2
  have e : rc2 = rc := e
  obtain ⟨hW, hA, -, ⟨hrc, hN⟩, -⟩ := hF
  obtain ⟨hW2, hA2, -, ⟨hrc2, hN2⟩, -⟩ := hF2
  exact ⟨by rw [hW.1, hW2.1]; omega, N2, T2, hW2, hA2.pl.2.2.2.2⟩
theorem pnz_an {M : ab_M} {d mc ms : Nat} {av : List ab_V} {w : ab_W} {Q1 Q2 : Option ab_V → ab_W → Prop} (h2 : ab_Mt g_G g_rs M d mc ms av w Q2) (h1 : ab_Mt g_G g_rs M d mc ms av w Q1) (p1 : ∀ r w1, Q1 r w1 → w1.length = w.length ∧ pnz w1) (q2 : ∀ r w2, Q2 r w2 → w2.length = w.length ∧ ∃ (N : Nat) (T : Nat → tm_S), tm_W N T w2 ∧ T 44 = tm_ai 0 42 (-2147483648) 2147483647) : ab_Mt g_G g_rs M d mc ms av w (fun r w2 => Q2 r w2 ∧ pnz w2) := by
  refine (an_mt h1 h2 (fun r w' q => (p1 r w' q).1) (fun r w' q => (q2 r w' q).1)).conseq (fun r w2 q => ?_)
  obtain ⟨k, r1, w1, g, sm, sr⟩ := q
  obtain ⟨f, f1, f2⟩ := (p1 r1 w1 g).2
  obtain ⟨N, T, hW, hS⟩ := (q2 r w2 k).2
  obtain ⟨g2, e1, e2⟩ := an_a sm hW hS (by decide) (by decide) f1
  exact ⟨k, g2, e1, fun j j0 j1 => by rw [e2 j j0 (by omega) (by rw [f2 j j0 j1]; decide)]; exact f2 j j0 j1⟩
theorem pnz_fr {N : Nat} {T : Nat → tm_S} {w w2 : ab_W} {a b : Nat} (hW : tm_W N T w) (hW2 : tm_W N T w2) (hA : is_C T a b) (e : ∀ j : Int, tm_g w2 44 j = tm_g w 44 j) (h : pnz w) : pnz w2 := by
  obtain ⟨f, f1, f2⟩ := h
  exact ⟨f, (br_ai hW hW2 hA.pl.2.2.2.2 e).trans f1, f2⟩
theorem ru_hour (S : fs_S) : ru_of (fs_hour S) = ru_of S := by
  obtain ⟨x, ix, mk, tf, tl, rc, said, was, undone, images, ru⟩ := S
  rfl
theorem ru_rate (S : fs_S) (y1 y2 : Int) : ru_of (fs_rate S y1 y2) = ru_of S := by
  obtain ⟨x, ix, mk, tf, tl, rc, said, was, undone, images, ru⟩ := S
  rfl
theorem ru_swap (S : fs_S) (y1 y2 : Int) : ru_of (fs_swap S y1 y2) = ru_of S := by
  obtain ⟨x, ix, mk, tf, tl, rc, said, was, undone, images, ru⟩ := S
  rfl
theorem ru_stop (S : fs_S) : ru_of (fs_stop S) = ru_of S := by
  obtain ⟨x, ix, mk, tf, tl, rc, said, was, undone, images, ru⟩ := S
  rfl
theorem ru_undo (S : fs_S) : ru_of (fs_undo S) = ru_of S := by
  obtain ⟨x, ix, mk, tf, tl, rc, said, was, undone, images, ru⟩ := S
  rfl
theorem ru_run (S : fs_S) (y1 y2 : Int) : ru_of (fs_run S y1 y2) = ru_of S := by
  obtain ⟨x, ix, mk, tf, tl, rc, said, was, undone, images, ru⟩ := S
  rfl
theorem ru_diary (S : fs_S) (y1 y2 y3 y4 : Int) : ru_of (fs_diary S y1 y2 y3 y4) = ru_of S := by
  obtain ⟨x, ix, mk, tf, tl, rc, said, was, undone, images, ru⟩ := S
  rfl
theorem ru_image (S : fs_S) (y1 : Int) : ru_of (fs_image S y1) = ru_of S := by
  obtain ⟨x, ix, mk, tf, tl, rc, said, was, undone, images, ru⟩ := S
  rfl
theorem ru_back (S : fs_S) (y1 : Int) : ru_of (fs_back S y1) = ru_of S := by
  obtain ⟨x, ix, mk, tf, tl, rc, said, was, undone, images, ru⟩ := S
  rfl
theorem ru_feed (S : fs_S) (y1 y2 y3 y4 y5 : Int) : ru_of (fs_feed S y1 y2 y3 y4 y5) = ru_of S := by
  obtain ⟨x, ix, mk, tf, tl, rc, said, was, undone, images, ru⟩ := S
  rfl
theorem ru_end (S : fs_S) (y1 : Int) : ru_of (fs_end S y1) = ru_of S := by
  obtain ⟨x, ix, mk, tf, tl, rc, said, was, undone, images, ru⟩ := S
  rfl
theorem ru_seed (S : fs_S) (y1 : Int) : ru_of (fs_seed S y1) = ru_of S := by
  obtain ⟨x, ix, mk, tf, tl, rc, said, was, undone, images, ru⟩ := S
  rfl
theorem ru_ring (S : fs_S) (rd0 : Int → Int) : ru_of (fs_ring S rd0) = ru_of S := by
  obtain ⟨x, ix, mk, tf, tl, rc, said, was, undone, images, ru⟩ := S
  show ru_of (ring_to ⟨x, ix, mk, tf, tl, rc, said, was, undone, images, ru⟩ (rs_all tf tl (rs_ini rd0 46))) = rc
  rcases rs_all tf tl (rs_ini rd0 46) with e | rd <;> rfl
set_option maxRecDepth 4000 in
theorem pnz_house {w : ab_W} {S : fs_S} {wm : ab_W} {c : Int} (h : cy_I w S wm) (hok : fs_ok c S) (hcm : c ≤ 1000) (hp : pnz w) (y1 : Int) (hy1 : ab_in y1) (y2 : Int) (hy2 : ab_in y2) : ab_Mt g_G g_rs mt_Tu_house 3 0 0 [ab_R 0, ab_I y1, ab_I y2] w (fun r w2 => (cy_A (fa_house S y1 y2) S wm) r w2 ∧ pnz w2) := by
  have hC := cy_house h hok hcm y1 hy1 y2 hy2
  have hQ : ∀ r w2, (cy_A (fa_house S y1 y2) S wm) r w2 → w2.length = w.length ∧ ∃ (N : Nat) (T : Nat → tm_S), tm_W N T w2 ∧ T 44 = tm_ai 0 42 (-2147483648) 2147483647 := fun r w2 q => pnz_q h q.2 rfl
  obtain ⟨x, ix, mk, tf, tl, rc, said, was, undone, images, ru⟩ := S
  obtain ⟨N, T, a, b, hF, hR, hag, himg, hrul⟩ := h
  obtain ⟨hW, hA, ⟨kn, kt, krc, ktl, ktf⟩, ⟨hrc, hN⟩, hrl, him, hac, hx, hmd, hix, hseg⟩ := id hF
  have hab := hA.ab
  refine pnz_an hC (tm_Tu_house hW hA kn kt y1 (by omega) (by omega) y2 (by omega) (by omega)) (fun r w1 q => ?_) hQ
  obtain ⟨rfl, -⟩ := q
  exact ⟨rfl, hp⟩
set_option maxRecDepth 4000 in
theorem pnz_direction {w : ab_W} {S : fs_S} {wm : ab_W} {c : Int} (h : cy_I w S wm) (hok : fs_ok c S) (hcm : c ≤ 1000) (hp : pnz w) (y1 : Int) (hy1 : ab_in y1) (y2 : Int) (hy2 : ab_in y2) : ab_Mt g_G g_rs mt_Tu_direction 3 0 0 [ab_R 0, ab_I y1, ab_I y2] w (fun r w2 => (cy_A (fa_direction S y1 y2) S wm) r w2 ∧ pnz w2) := by
  have hC := cy_direction h hok hcm y1 hy1 y2 hy2
  have hQ : ∀ r w2, (cy_A (fa_direction S y1 y2) S wm) r w2 → w2.length = w.length ∧ ∃ (N : Nat) (T : Nat → tm_S), tm_W N T w2 ∧ T 44 = tm_ai 0 42 (-2147483648) 2147483647 := fun r w2 q => pnz_q h q.2 rfl
  obtain ⟨x, ix, mk, tf, tl, rc, said, was, undone, images, ru⟩ := S
  obtain ⟨N, T, a, b, hF, hR, hag, himg, hrul⟩ := h
  obtain ⟨hW, hA, ⟨kn, kt, krc, ktl, ktf⟩, ⟨hrc, hN⟩, hrl, him, hac, hx, hmd, hix, hseg⟩ := id hF
  have hab := hA.ab
  refine pnz_an hC (tm_Tu_direction hW hA kn kt y1 (by omega) (by omega) y2 (by omega) (by omega)) (fun r w1 q => ?_) hQ
  obtain ⟨rfl, -⟩ := q
  exact ⟨rfl, hp⟩
set_option maxRecDepth 4000 in
theorem pnz_rateOf {w : ab_W} {S : fs_S} {wm : ab_W} {c : Int} (h : cy_I w S wm) (hok : fs_ok c S) (hcm : c ≤ 1000) (hp : pnz w) (y1 : Int) (hy1 : ab_in y1) : ab_Mt g_G g_rs mt_Tu_rateOf 1 0 0 [ab_R 0, ab_I y1] w (fun r w2 => (cy_A (fa_rateOf S y1) S wm) r w2 ∧ pnz w2) := by
  have hC := cy_rateOf h hok hcm y1 hy1
  have hQ : ∀ r w2, (cy_A (fa_rateOf S y1) S wm) r w2 → w2.length = w.length ∧ ∃ (N : Nat) (T : Nat → tm_S), tm_W N T w2 ∧ T 44 = tm_ai 0 42 (-2147483648) 2147483647 := fun r w2 q => pnz_q h q.2 rfl
  obtain ⟨x, ix, mk, tf, tl, rc, said, was, undone, images, ru⟩ := S
  obtain ⟨N, T, a, b, hF, hR, hag, himg, hrul⟩ := h
  obtain ⟨hW, hA, ⟨kn, kt, krc, ktl, ktf⟩, ⟨hrc, hN⟩, hrl, him, hac, hx, hmd, hix, hseg⟩ := id hF
  have hab := hA.ab
  refine pnz_an hC (tm_Tu_rateOf hW hA kn kt y1 (by omega) (by omega)) (fun r w1 q => ?_) hQ
  obtain ⟨rfl, -⟩ := q
  exact ⟨rfl, hp⟩
set_option maxRecDepth 4000 in
theorem pnz_worn {w : ab_W} {S : fs_S} {wm : ab_W} {c : Int} (h : cy_I w S wm) (hok : fs_ok c S) (hcm : c ≤ 1000) (hp : pnz w) (y1 : Int) (hy1 : ab_in y1) : ab_Mt g_G g_rs mt_Tu_worn 1 0 0 [ab_R 0, ab_I y1] w (fun r w2 => (cy_A (fa_worn S y1) S wm) r w2 ∧ pnz w2) := by
  have hC := cy_worn h hok hcm y1 hy1
  have hQ : ∀ r w2, (cy_A (fa_worn S y1) S wm) r w2 → w2.length = w.length ∧ ∃ (N : Nat) (T : Nat → tm_S), tm_W N T w2 ∧ T 44 = tm_ai 0 42 (-2147483648) 2147483647 := fun r w2 q => pnz_q h q.2 rfl
  obtain ⟨x, ix, mk, tf, tl, rc, said, was, undone, images, ru⟩ := S
  obtain ⟨N, T, a, b, hF, hR, hag, himg, hrul⟩ := h
  obtain ⟨hW, hA, ⟨kn, kt, krc, ktl, ktf⟩, ⟨hrc, hN⟩, hrl, him, hac, hx, hmd, hix, hseg⟩ := id hF
  have hab := hA.ab
  refine pnz_an hC (tm_Tu_worn hW hA kn kt y1 (by omega) (by omega)) (fun r w1 q => ?_) hQ
  obtain ⟨rfl, -⟩ := q
  exact ⟨rfl, hp⟩
set_option maxRecDepth 4000 in
theorem pnz_count {w : ab_W} {S : fs_S} {wm : ab_W} {c : Int} (h : cy_I w S wm) (hok : fs_ok c S) (hcm : c ≤ 1000) (hp : pnz w) (y1 : Int) (hy1 : ab_in y1) : ab_Mt g_G g_rs mt_Tu_count 3 0 0 [ab_R 0, ab_I y1] w (fun r w2 => (cy_A (fa_count S y1) S wm) r w2 ∧ pnz w2) := by
  have hC := cy_count h hok hcm y1 hy1
  have hQ : ∀ r w2, (cy_A (fa_count S y1) S wm) r w2 → w2.length = w.length ∧ ∃ (N : Nat) (T : Nat → tm_S), tm_W N T w2 ∧ T 44 = tm_ai 0 42 (-2147483648) 2147483647 := fun r w2 q => pnz_q h q.2 rfl
  obtain ⟨x, ix, mk, tf, tl, rc, said, was, undone, images, ru⟩ := S
  obtain ⟨N, T, a, b, hF, hR, hag, himg, hrul⟩ := h
  obtain ⟨hW, hA, ⟨kn, kt, krc, ktl, ktf⟩, ⟨hrc, hN⟩, hrl, him, hac, hx, hmd, hix, hseg⟩ := id hF
  have hab := hA.ab
  refine pnz_an hC (tm_Tu_count hW hA kn kt y1 (by omega) (by omega)) (fun r w1 q => ?_) hQ
  obtain ⟨rfl, -⟩ := q
  exact ⟨rfl, hp⟩
set_option maxRecDepth 4000 in
theorem pnz_faces {w : ab_W} {S : fs_S} {wm : ab_W} {c : Int} (h : cy_I w S wm) (hok : fs_ok c S) (hcm : c ≤ 1000) (hp : pnz w) (y1 : Int) (hy1 : ab_in y1) (y2 : Int) (hy2 : ab_in y2) : ab_Mt g_G g_rs mt_Tu_faces 3 0 0 [ab_R 0, ab_I y1, ab_I y2] w (fun r w2 => (cy_A (fa_faces S y1 y2) S wm) r w2 ∧ pnz w2) := by
  have hC := cz_faces h hok hcm y1 hy1 y2 hy2
  have hQ : ∀ r w2, (cy_A (fa_faces S y1 y2) S wm) r w2 → w2.length = w.length ∧ ∃ (N : Nat) (T : Nat → tm_S), tm_W N T w2 ∧ T 44 = tm_ai 0 42 (-2147483648) 2147483647 := fun r w2 q => pnz_q h q.2 rfl
  obtain ⟨x, ix, mk, tf, tl, rc, said, was, undone, images, ru⟩ := S
  obtain ⟨N, T, a, b, hF, hR, hag, himg, hrul⟩ := h
  obtain ⟨hW, hA, ⟨kn, kt, krc, ktl, ktf⟩, ⟨hrc, hN⟩, hrl, him, hac, hx, hmd, hix, hseg⟩ := id hF
  have hab := hA.ab
  refine pnz_an hC (tm_Tu_faces hW hA kn kt y1 (by omega) (by omega) y2 (by omega) (by omega)) (fun r w1 q => ?_) hQ
  obtain ⟨rfl, -⟩ := q
  exact ⟨rfl, hp⟩
set_option maxRecDepth 4000 in
theorem pnz_sees {w : ab_W} {S : fs_S} {wm : ab_W} {c : Int} (h : cy_I w S wm) (hok : fs_ok c S) (hcm : c ≤ 1000) (hp : pnz w) (y1 : Int) (hy1 : ab_in y1) (y2 : Int) (hy2 : ab_in y2) : ab_Mt g_G g_rs mt_Tu_sees 3 0 0 [ab_R 0, ab_I y1, ab_I y2] w (fun r w2 => (cy_A (fa_sees S y1 y2) S wm) r w2 ∧ pnz w2) := by
  have hC := cz_sees h hok hcm y1 hy1 y2 hy2
  have hQ : ∀ r w2, (cy_A (fa_sees S y1 y2) S wm) r w2 → w2.length = w.length ∧ ∃ (N : Nat) (T : Nat → tm_S), tm_W N T w2 ∧ T 44 = tm_ai 0 42 (-2147483648) 2147483647 := fun r w2 q => pnz_q h q.2 rfl
  obtain ⟨x, ix, mk, tf, tl, rc, said, was, undone, images, ru⟩ := S
  obtain ⟨N, T, a, b, hF, hR, hag, himg, hrul⟩ := h
  obtain ⟨hW, hA, ⟨kn, kt, krc, ktl, ktf⟩, ⟨hrc, hN⟩, hrl, him, hac, hx, hmd, hix, hseg⟩ := id hF
  have hab := hA.ab
  refine pnz_an hC (tm_Tu_sees hW hA kn kt y1 (by omega) (by omega) y2 (by omega) (by omega)) (fun r w1 q => ?_) hQ
  obtain ⟨rfl, -⟩ := q
  exact ⟨rfl, hp⟩
set_option maxRecDepth 4000 in
theorem pnz_day {w : ab_W} {S : fs_S} {wm : ab_W} {c : Int} (h : cy_I w S wm) (hok : fs_ok c S) (hcm : c ≤ 1000) (hp : pnz w) (y1 : Int) (hy1 : ab_in y1) : ab_Mt g_G g_rs mt_Tu_day 3 0 0 [ab_R 0, ab_I y1] w (fun r w2 => (cy_A (fa_day S y1) S wm) r w2 ∧ pnz w2) := by
  have hC := cz_day h hok hcm y1 hy1
  have hQ : ∀ r w2, (cy_A (fa_day S y1) S wm) r w2 → w2.length = w.length ∧ ∃ (N : Nat) (T : Nat → tm_S), tm_W N T w2 ∧ T 44 = tm_ai 0 42 (-2147483648) 2147483647 := fun r w2 q => pnz_q h q.2 rfl
  obtain ⟨x, ix, mk, tf, tl, rc, said, was, undone, images, ru⟩ := S
  obtain ⟨N, T, a, b, hF, hR, hag, himg, hrul⟩ := h
  obtain ⟨hW, hA, ⟨kn, kt, krc, ktl, ktf⟩, ⟨hrc, hN⟩, hrl, him, hac, hx, hmd, hix, hseg⟩ := id hF
  have hab := hA.ab
  refine pnz_an hC (tm_Tu_day hW hA kn kt y1 (by omega) (by omega)) (fun r w1 q => ?_) hQ
  obtain ⟨rfl, -⟩ := q
  exact ⟨rfl, hp⟩
set_option maxRecDepth 4000 in
theorem pnz_errand {w : ab_W} {S : fs_S} {wm : ab_W} {c : Int} (h : cy_I w S wm) (hok : fs_ok c S) (hcm : c ≤ 1000) (hp : pnz w) (y1 : Int) (hy1 : ab_in y1) (y2 : Int) (hy2 : ab_in y2) (y3 : Int) (hy3 : ab_in y3) (y4 : Int) (hy4 : ab_in y4) : ab_Mt g_G g_rs mt_Tu_errand 2 0 0 [ab_R 0, ab_I y1, ab_I y2, ab_I y3, ab_I y4] w (fun r w2 => (cy_Q S wm) r w2 ∧ pnz w2) := by
  have hC := cy_errand h hok hcm y1 hy1 y2 hy2 y3 hy3 y4 hy4
  have hQ : ∀ r w2, (cy_Q S wm) r w2 → w2.length = w.length ∧ ∃ (N : Nat) (T : Nat → tm_S), tm_W N T w2 ∧ T 44 = tm_ai 0 42 (-2147483648) 2147483647 := fun r w2 q => pnz_q h q.2 rfl
  obtain ⟨x, ix, mk, tf, tl, rc, said, was, undone, images, ru⟩ := S
  obtain ⟨N, T, a, b, hF, hR, hag, himg, hrul⟩ := h
  obtain ⟨hW, hA, ⟨kn, kt, krc, ktl, ktf⟩, ⟨hrc, hN⟩, hrl, him, hac, hx, hmd, hix, hseg⟩ := id hF
  have hab := hA.ab
  refine pnz_an hC (tm_Tu_errand hW hA kn kt y1 (by omega) (by omega) y2 (by omega) (by omega) y3 (by omega) (by omega) y4 (by omega) (by omega)) (fun r w1 q => ?_) hQ
  obtain ⟨rfl, -⟩ := q
  exact ⟨rfl, hp⟩
set_option maxRecDepth 4000 in
theorem pnz_stay {w : ab_W} {S : fs_S} {wm : ab_W} {c : Int} (h : cy_I w S wm) (hok : fs_ok c S) (hcm : c ≤ 1000) (hp : pnz w) (y1 : Int) (hy1 : ab_in y1) : ab_Mt g_G g_rs mt_Tu_stay 4 0 0 [ab_R 0, ab_I y1] w (fun r w2 => (cy_Q S wm) r w2 ∧ pnz w2) := by
  have hC := cy_stay h hok hcm y1 hy1
  have hQ : ∀ r w2, (cy_Q S wm) r w2 → w2.length = w.length ∧ ∃ (N : Nat) (T : Nat → tm_S), tm_W N T w2 ∧ T 44 = tm_ai 0 42 (-2147483648) 2147483647 := fun r w2 q => pnz_q h q.2 rfl
  obtain ⟨x, ix, mk, tf, tl, rc, said, was, undone, images, ru⟩ := S
  obtain ⟨N, T, a, b, hF, hR, hag, himg, hrul⟩ := h
  obtain ⟨hW, hA, ⟨kn, kt, krc, ktl, ktf⟩, ⟨hrc, hN⟩, hrl, him, hac, hx, hmd, hix, hseg⟩ := id hF
  have hab := hA.ab
  refine pnz_an hC (tm_Tu_stay hW hA kn kt y1 (by omega) (by omega)) (fun r w1 q => ?_) hQ
  obtain ⟨rfl, -⟩ := q
  exact ⟨rfl, hp⟩
set_option maxRecDepth 4000 in
theorem pnz_swings {w : ab_W} {S : fs_S} {wm : ab_W} {c : Int} (h : cy_I w S wm) (hok : fs_ok c S) (hcm : c ≤ 1000) (hp : pnz w) (y1 : Int) (hy1 : ab_in y1) : ab_Mt g_G g_rs mt_Tu_swings 2 0 0 [ab_R 0, ab_I y1] w (fun r w2 => (cy_Q S wm) r w2 ∧ pnz w2) := by
  have hC := cy_swings h hok hcm y1 hy1
  have hQ : ∀ r w2, (cy_Q S wm) r w2 → w2.length = w.length ∧ ∃ (N : Nat) (T : Nat → tm_S), tm_W N T w2 ∧ T 44 = tm_ai 0 42 (-2147483648) 2147483647 := fun r w2 q => pnz_q h q.2 rfl
  obtain ⟨x, ix, mk, tf, tl, rc, said, was, undone, images, ru⟩ := S
  obtain ⟨N, T, a, b, hF, hR, hag, himg, hrul⟩ := h
  obtain ⟨hW, hA, ⟨kn, kt, krc, ktl, ktf⟩, ⟨hrc, hN⟩, hrl, him, hac, hx, hmd, hix, hseg⟩ := id hF
  have hab := hA.ab
  refine pnz_an hC (tm_Tu_swings hW hA kn kt y1 (by omega) (by omega)) (fun r w1 q => ?_) hQ
  obtain ⟨rfl, -⟩ := q
  exact ⟨rfl, hp⟩
set_option maxRecDepth 4000 in
theorem pnz_spare {w : ab_W} {S : fs_S} {wm : ab_W} {c : Int} (h : cy_I w S wm) (hok : fs_ok c S) (hcm : c ≤ 1000) (hp : pnz w) (y1 : Int) (hy1 : ab_in y1) (y2 : Int) (hy2 : ab_in y2) (y3 : Int) (hy3 : ab_in y3) : ab_Mt g_G g_rs mt_Tu_spare 2 0 0 [ab_R 0, ab_I y1, ab_I y2, ab_I y3] w (fun r w2 => (cy_Q S wm) r w2 ∧ pnz w2) := by
  have hC := cy_spare h hok hcm y1 hy1 y2 hy2 y3 hy3
  have hQ : ∀ r w2, (cy_Q S wm) r w2 → w2.length = w.length ∧ ∃ (N : Nat) (T : Nat → tm_S), tm_W N T w2 ∧ T 44 = tm_ai 0 42 (-2147483648) 2147483647 := fun r w2 q => pnz_q h q.2 rfl
  obtain ⟨x, ix, mk, tf, tl, rc, said, was, undone, images, ru⟩ := S
  obtain ⟨N, T, a, b, hF, hR, hag, himg, hrul⟩ := h
  obtain ⟨hW, hA, ⟨kn, kt, krc, ktl, ktf⟩, ⟨hrc, hN⟩, hrl, him, hac, hx, hmd, hix, hseg⟩ := id hF
  have hab := hA.ab
  refine pnz_an hC (tm_Tu_spare hW hA kn kt y1 (by omega) (by omega) y2 (by omega) (by omega) y3 (by omega) (by omega)) (fun r w1 q => ?_) hQ
  obtain ⟨rfl, -⟩ := q
  exact ⟨rfl, hp⟩
set_option maxRecDepth 4000 in
theorem pnz_days {w : ab_W} {S : fs_S} {wm : ab_W} {c : Int} (h : cy_I w S wm) (hok : fs_ok c S) (hcm : c ≤ 1000) (hp : pnz w) (y1 : Int) (hy1 : ab_in y1) (y2 : Int) (hy2 : ab_in y2) (y3 : Int) (hy3 : ab_in y3) (y4 : Int) (hy4 : ab_in y4) : ab_Mt g_G g_rs mt_Tu_days 3 0 0 [ab_R 0, ab_I y1, ab_I y2, ab_I y3, ab_I y4] w (fun r w2 => (cy_Q S wm) r w2 ∧ pnz w2) := by
  have hC := cy_days h hok hcm y1 hy1 y2 hy2 y3 hy3 y4 hy4
  have hQ : ∀ r w2, (cy_Q S wm) r w2 → w2.length = w.length ∧ ∃ (N : Nat) (T : Nat → tm_S), tm_W N T w2 ∧ T 44 = tm_ai 0 42 (-2147483648) 2147483647 := fun r w2 q => pnz_q h q.2 rfl
  obtain ⟨x, ix, mk, tf, tl, rc, said, was, undone, images, ru⟩ := S
  obtain ⟨N, T, a, b, hF, hR, hag, himg, hrul⟩ := h
  obtain ⟨hW, hA, ⟨kn, kt, krc, ktl, ktf⟩, ⟨hrc, hN⟩, hrl, him, hac, hx, hmd, hix, hseg⟩ := id hF
  have hab := hA.ab
  refine pnz_an hC (tm_Tu_days hW hA kn kt y1 (by omega) (by omega) y2 (by omega) (by omega) y3 (by omega) (by omega) y4 (by omega) (by omega)) (fun r w1 q => ?_) hQ
  obtain ⟨rfl, -⟩ := q
  exact ⟨rfl, hp⟩
set_option maxRecDepth 4000 in
theorem pnz_trade {w : ab_W} {S : fs_S} {wm : ab_W} {c : Int} (h : cy_I w S wm) (hok : fs_ok c S) (hcm : c ≤ 1000) (hp : pnz w) (y1 : Int) (hy1 : ab_in y1) : ab_Mt g_G g_rs mt_Tu_trade 4 0 0 [ab_R 0, ab_I y1] w (fun r w2 => (cy_Q S wm) r w2 ∧ pnz w2) := by
  have hC := cy_trade h hok hcm y1 hy1
  have hQ : ∀ r w2, (cy_Q S wm) r w2 → w2.length = w.length ∧ ∃ (N : Nat) (T : Nat → tm_S), tm_W N T w2 ∧ T 44 = tm_ai 0 42 (-2147483648) 2147483647 := fun r w2 q => pnz_q h q.2 rfl
  obtain ⟨x, ix, mk, tf, tl, rc, said, was, undone, images, ru⟩ := S
  obtain ⟨N, T, a, b, hF, hR, hag, himg, hrul⟩ := h
  obtain ⟨hW, hA, ⟨kn, kt, krc, ktl, ktf⟩, ⟨hrc, hN⟩, hrl, him, hac, hx, hmd, hix, hseg⟩ := id hF
  have hab := hA.ab
  refine pnz_an hC (tm_Tu_trade hW hA kn kt y1 (by omega) (by omega)) (fun r w1 q => ?_) hQ
  obtain ⟨hW2, v, rfl, hf, -⟩ := q
  exact ⟨by rw [hW2.1, hW.1], pnz_fr hW hW2 hA (fun j => hf 44 j (by omega)) hp⟩
set_option maxRecDepth 4000 in
theorem pnz_turned {w : ab_W} {S : fs_S} {wm : ab_W} {c : Int} (h : cy_I w S wm) (hok : fs_ok c S) (hcm : c ≤ 1000) (hp : pnz w) (y1 : Int) (hy1 : ab_in y1) : ab_Mt g_G g_rs mt_Tu_turned 4 0 0 [ab_R 0, ab_I y1] w (fun r w2 => (cy_Q S wm) r w2 ∧ pnz w2) := by
  have hC := cy_turned h hok hcm y1 hy1
  have hQ : ∀ r w2, (cy_Q S wm) r w2 → w2.length = w.length ∧ ∃ (N : Nat) (T : Nat → tm_S), tm_W N T w2 ∧ T 44 = tm_ai 0 42 (-2147483648) 2147483647 := fun r w2 q => pnz_q h q.2 rfl
  obtain ⟨x, ix, mk, tf, tl, rc, said, was, undone, images, ru⟩ := S
  obtain ⟨N, T, a, b, hF, hR, hag, himg, hrul⟩ := h
  obtain ⟨hW, hA, ⟨kn, kt, krc, ktl, ktf⟩, ⟨hrc, hN⟩, hrl, him, hac, hx, hmd, hix, hseg⟩ := id hF
  have hab := hA.ab
  refine pnz_an hC (tm_Tu_turned hW hA kn kt y1 (by omega) (by omega)) (fun r w1 q => ?_) hQ
  obtain ⟨hW2, v, rfl, hf, -⟩ := q
  exact ⟨by rw [hW2.1, hW.1], pnz_fr hW hW2 hA (fun j => hf 44 j (by omega)) hp⟩
set_option maxRecDepth 4000 in
theorem pnz_look {w : ab_W} {S : fs_S} {wm : ab_W} {c : Int} (h : cy_I w S wm) (hok : fs_ok c S) (hcm : c ≤ 1000) (hp : pnz w) (y1 : Int) (hy1 : ab_in y1) (y2 : Int) (hy2 : ab_in y2) : ab_Mt g_G g_rs mt_Tu_look 4 0 0 [ab_R 0, ab_I y1, ab_I y2] w (fun r w2 => (cy_Q S wm) r w2 ∧ pnz w2) := by
  have hC := cy_look h hok hcm y1 hy1 y2 hy2
  have hQ : ∀ r w2, (cy_Q S wm) r w2 → w2.length = w.length ∧ ∃ (N : Nat) (T : Nat → tm_S), tm_W N T w2 ∧ T 44 = tm_ai 0 42 (-2147483648) 2147483647 := fun r w2 q => pnz_q h q.2 rfl
  obtain ⟨x, ix, mk, tf, tl, rc, said, was, undone, images, ru⟩ := S
  obtain ⟨N, T, a, b, hF, hR, hag, himg, hrul⟩ := h
  obtain ⟨hW, hA, ⟨kn, kt, krc, ktl, ktf⟩, ⟨hrc, hN⟩, hrl, him, hac, hx, hmd, hix, hseg⟩ := id hF
  have hab := hA.ab
  refine pnz_an hC (tm_Tu_look hW hA kn kt y1 (by omega) (by omega) y2 (by omega) (by omega)) (fun r w1 q => ?_) hQ
  obtain ⟨hW2, v, rfl, hf, -⟩ := q
  exact ⟨by rw [hW2.1, hW.1], pnz_fr hW hW2 hA (fun j => hf 44 j (by omega)) hp⟩
set_option maxRecDepth 4000 in
theorem pnz_apart {w : ab_W} {S : fs_S} {wm : ab_W} {c : Int} (h : cy_I w S wm) (hok : fs_ok c S) (hcm : c ≤ 1000) (hp : pnz w) (y1 : Int) (hy1 : ab_in y1) (y2 : Int) (hy2 : ab_in y2) (y3 : Int) (hy3 : ab_in y3) (y4 : Int) (hy4 : ab_in y4) (y5 : Int) (hy5 : ab_in y5) : ab_Mt g_G g_rs mt_Tu_apart 7 0 0 [ab_R 0, ab_I y1, ab_I y2, ab_I y3, ab_I y4, ab_I y5] w (fun r w2 => (cy_Q S wm) r w2 ∧ pnz w2) := by
  have hC := cy_apart h hok hcm y1 hy1 y2 hy2 y3 hy3 y4 hy4 y5 hy5
  have hQ : ∀ r w2, (cy_Q S wm) r w2 → w2.length = w.length ∧ ∃ (N : Nat) (T : Nat → tm_S), tm_W N T w2 ∧ T 44 = tm_ai 0 42 (-2147483648) 2147483647 := fun r w2 q => pnz_q h q.2 rfl
  obtain ⟨x, ix, mk, tf, tl, rc, said, was, undone, images, ru⟩ := S
  obtain ⟨N, T, a, b, hF, hR, hag, himg, hrul⟩ := h
  obtain ⟨hW, hA, ⟨kn, kt, krc, ktl, ktf⟩, ⟨hrc, hN⟩, hrl, him, hac, hx, hmd, hix, hseg⟩ := id hF
  have hab := hA.ab
  refine pnz_an hC (tm_Tu_apart hW hA kn kt y1 (by omega) (by omega) y2 (by omega) (by omega) y3 (by omega) (by omega) y4 (by omega) (by omega) y5 (by omega) (by omega) rc krc (fun j h0 h1 => by obtain ⟨q, n, k1, k2, -⟩ := hrl j h0 h1; exact ⟨q, n, k1, k2⟩)) (fun r w1 q => ?_) hQ
  obtain ⟨hW2, v, rfl, hf, -⟩ := q
  exact ⟨by rw [hW2.1, hW.1], pnz_fr hW hW2 hA (fun j => hf 44 j (by omega)) hp⟩
set_option maxRecDepth 4000 in
theorem pnz_hour {w : ab_W} {S : fs_S} {wm : ab_W} {c : Int} (h : cy_I w S wm) (hok : fs_ok c S) (hcm : c ≤ 1000) (hp : pnz w) : ab_Mt g_G g_rs mt_Tu_hour 2 0 0 [ab_R 0] w (fun r w2 => (cy_A (fa_hour S) (fs_hour S) wm) r w2 ∧ pnz w2) := by
  have hC := cy_hour h hok hcm
  have hQ : ∀ r w2, (cy_A (fa_hour S) (fs_hour S) wm) r w2 → w2.length = w.length ∧ ∃ (N : Nat) (T : Nat → tm_S), tm_W N T w2 ∧ T 44 = tm_ai 0 42 (-2147483648) 2147483647 := fun r w2 q => pnz_q h q.2 (ru_hour S)
  obtain ⟨x, ix, mk, tf, tl, rc, said, was, undone, images, ru⟩ := S
  obtain ⟨N, T, a, b, hF, hR, hag, himg, hrul⟩ := h
  obtain ⟨hW, hA, ⟨kn, kt, krc, ktl, ktf⟩, ⟨hrc, hN⟩, hrl, him, hac, hx, hmd, hix, hseg⟩ := id hF
  have hab := hA.ab
  refine pnz_an hC (tm_Tu_hour hW hA kn kt hac) (fun r w1 q => ?_) hQ
  obtain ⟨hW2, v, rfl, hf, -⟩ := q
  exact ⟨by rw [hW2.1, hW.1], pnz_fr hW hW2 hA (fun j => hf 44 j (by omega)) hp⟩
set_option maxRecDepth 4000 in
theorem pnz_rate {w : ab_W} {S : fs_S} {wm : ab_W} {c : Int} (h : cy_I w S wm) (hok : fs_ok c S) (hcm : c ≤ 1000) (hp : pnz w) (y1 : Int) (hy1 : ab_in y1) (y2 : Int) (hy2 : ab_in y2) : ab_Mt g_G g_rs mt_Tu_rate 2 0 0 [ab_R 0, ab_I y1, ab_I y2] w (fun r w2 => (cy_A (fa_rate S y1 y2) (fs_rate S y1 y2) wm) r w2 ∧ pnz w2) := by
  have hC := cy_rate h hok hcm y1 hy1 y2 hy2
  have hQ : ∀ r w2, (cy_A (fa_rate S y1 y2) (fs_rate S y1 y2) wm) r w2 → w2.length = w.length ∧ ∃ (N : Nat) (T : Nat → tm_S), tm_W N T w2 ∧ T 44 = tm_ai 0 42 (-2147483648) 2147483647 := fun r w2 q => pnz_q h q.2 (ru_rate S y1 y2)
  obtain ⟨x, ix, mk, tf, tl, rc, said, was, undone, images, ru⟩ := S
  obtain ⟨N, T, a, b, hF, hR, hag, himg, hrul⟩ := h
  obtain ⟨hW, hA, ⟨kn, kt, krc, ktl, ktf⟩, ⟨hrc, hN⟩, hrl, him, hac, hx, hmd, hix, hseg⟩ := id hF
  have hab := hA.ab
  refine pnz_an hC (tm_Tu_rate hW hA kn kt y1 (by omega) (by omega) y2 (by omega) (by omega) hac) (fun r w1 q => ?_) hQ
  obtain ⟨hW2, v, rfl, hf, -⟩ := q
  exact ⟨by rw [hW2.1, hW.1], pnz_fr hW hW2 hA (fun j => hf 44 j (by omega)) hp⟩
set_option maxRecDepth 4000 in
theorem pnz_swap {w : ab_W} {S : fs_S} {wm : ab_W} {c : Int} (h : cy_I w S wm) (hok : fs_ok c S) (hcm : c ≤ 1000) (hp : pnz w) (y1 : Int) (hy1 : ab_in y1) (y2 : Int) (hy2 : ab_in y2) : ab_Mt g_G g_rs mt_Tu_swap 2 0 0 [ab_R 0, ab_I y1, ab_I y2] w (fun r w2 => (cy_A (fa_swap S y1 y2) (fs_swap S y1 y2) wm) r w2 ∧ pnz w2) := by
  have hC := cy_swap h hok hcm y1 hy1 y2 hy2
  have hQ : ∀ r w2, (cy_A (fa_swap S y1 y2) (fs_swap S y1 y2) wm) r w2 → w2.length = w.length ∧ ∃ (N : Nat) (T : Nat → tm_S), tm_W N T w2 ∧ T 44 = tm_ai 0 42 (-2147483648) 2147483647 := fun r w2 q => pnz_q h q.2 (ru_swap S y1 y2)
  obtain ⟨x, ix, mk, tf, tl, rc, said, was, undone, images, ru⟩ := S
  obtain ⟨N, T, a, b, hF, hR, hag, himg, hrul⟩ := h
  obtain ⟨hW, hA, ⟨kn, kt, krc, ktl, ktf⟩, ⟨hrc, hN⟩, hrl, him, hac, hx, hmd, hix, hseg⟩ := id hF
  have hab := hA.ab
  refine pnz_an hC (tm_Tu_swap hW hA kn kt y1 (by omega) (by omega) y2 (by omega) (by omega) hac) (fun r w1 q => ?_) hQ
  obtain ⟨hW2, v, rfl, hf, -⟩ := q
  exact ⟨by rw [hW2.1, hW.1], pnz_fr hW hW2 hA (fun j => hf 44 j (by omega)) hp⟩
set_option maxRecDepth 4000 in
theorem pnz_stop {w : ab_W} {S : fs_S} {wm : ab_W} {c : Int} (h : cy_I w S wm) (hok : fs_ok c S) (hcm : c ≤ 1000) (hp : pnz w) : ab_Mt g_G g_rs mt_Tu_stop 2 0 0 [ab_R 0] w (fun r w2 => (cy_A (fa_stop S) (fs_stop S) wm) r w2 ∧ pnz w2) := by
  have hC := cy_stop h hok hcm
  have hQ : ∀ r w2, (cy_A (fa_stop S) (fs_stop S) wm) r w2 → w2.length = w.length ∧ ∃ (N : Nat) (T : Nat → tm_S), tm_W N T w2 ∧ T 44 = tm_ai 0 42 (-2147483648) 2147483647 := fun r w2 q => pnz_q h q.2 (ru_stop S)
  obtain ⟨x, ix, mk, tf, tl, rc, said, was, undone, images, ru⟩ := S
  obtain ⟨N, T, a, b, hF, hR, hag, himg, hrul⟩ := h
  obtain ⟨hW, hA, ⟨kn, kt, krc, ktl, ktf⟩, ⟨hrc, hN⟩, hrl, him, hac, hx, hmd, hix, hseg⟩ := id hF
  have hab := hA.ab
  refine pnz_an hC (tm_Tu_stop hW hA kn kt hac) (fun r w1 q => ?_) hQ
  obtain ⟨hW2, v, rfl, hf, -⟩ := q
  exact ⟨by rw [hW2.1, hW.1], pnz_fr hW hW2 hA (fun j => hf 44 j (by omega)) hp⟩
set_option maxRecDepth 4000 in
theorem pnz_undo {w : ab_W} {S : fs_S} {wm : ab_W} {c : Int} (h : cy_I w S wm) (hok : fs_ok c S) (hcm : c ≤ 1000) (hp : pnz w) : ab_Mt g_G g_rs mt_Tu_undo 3 0 0 [ab_R 0] w (fun r w2 => (cy_A (fa_undo S) (fs_undo S) wm) r w2 ∧ pnz w2) := by
  have hC := cy_undo h hok hcm
  have hQ : ∀ r w2, (cy_A (fa_undo S) (fs_undo S) wm) r w2 → w2.length = w.length ∧ ∃ (N : Nat) (T : Nat → tm_S), tm_W N T w2 ∧ T 44 = tm_ai 0 42 (-2147483648) 2147483647 := fun r w2 q => pnz_q h q.2 (ru_undo S)
  obtain ⟨x, ix, mk, tf, tl, rc, said, was, undone, images, ru⟩ := S
  obtain ⟨N, T, a, b, hF, hR, hag, himg, hrul⟩ := h
  obtain ⟨hW, hA, ⟨kn, kt, krc, ktl, ktf⟩, ⟨hrc, hN⟩, hrl, him, hac, hx, hmd, hix, hseg⟩ := id hF
  have hab := hA.ab
  refine pnz_an hC (tm_Tu_undo hW hA kn kt hac) (fun r w1 q => ?_) hQ
  obtain ⟨hW2, v, rfl, hf, -⟩ := q
  exact ⟨by rw [hW2.1, hW.1], pnz_fr hW hW2 hA (fun j => hf 44 j (by omega)) hp⟩
set_option maxRecDepth 4000 in
theorem pnz_run {w : ab_W} {S : fs_S} {wm : ab_W} {c : Int} (h : cy_I w S wm) (hok : fs_ok c S) (hcm : c ≤ 1000) (hp : pnz w) (y1 : Int) (hy1 : ab_in y1) (y2 : Int) (hy2 : ab_in y2) : ab_Mt g_G g_rs mt_Tu_run 6 0 0 [ab_R 0, ab_I y1, ab_I y2] w (fun r w2 => (cy_A (fa_run S y1 y2) (fs_run S y1 y2) wm) r w2 ∧ pnz w2) := by
  have hC := cy_run h hok hcm y1 hy1 y2 hy2
  have hQ : ∀ r w2, (cy_A (fa_run S y1 y2) (fs_run S y1 y2) wm) r w2 → w2.length = w.length ∧ ∃ (N : Nat) (T : Nat → tm_S), tm_W N T w2 ∧ T 44 = tm_ai 0 42 (-2147483648) 2147483647 := fun r w2 q => pnz_q h q.2 (ru_run S y1 y2)
  obtain ⟨x, ix, mk, tf, tl, rc, said, was, undone, images, ru⟩ := S
  obtain ⟨N, T, a, b, hF, hR, hag, himg, hrul⟩ := h
  obtain ⟨hW, hA, ⟨kn, kt, krc, ktl, ktf⟩, ⟨hrc, hN⟩, hrl, him, hac, hx, hmd, hix, hseg⟩ := id hF
  have hab := hA.ab
  refine pnz_an hC (tm_Tu_run hW hA kn kt y1 (by omega) (by omega) y2 (by omega) (by omega) rc krc (fun j h0 h1 => by obtain ⟨q, n, k1, k2, -⟩ := hrl j h0 h1; exact ⟨q, n, k1, k2⟩)) (fun r w1 q => ?_) hQ
  obtain ⟨hW2, v, rfl, hf, -⟩ := q
  exact ⟨by rw [hW2.1, hW.1], pnz_fr hW hW2 hA (fun j => hf 44 j (by omega)) hp⟩
set_option maxRecDepth 4000 in
theorem pnz_diary {w : ab_W} {S : fs_S} {wm : ab_W} {c : Int} (h : cy_I w S wm) (hok : fs_ok c S) (hcm : c ≤ 1000) (hp : pnz w) (y1 : Int) (hy1 : ab_in y1) (y2 : Int) (hy2 : ab_in y2) (y3 : Int) (hy3 : ab_in y3) (y4 : Int) (hy4 : y4 = 0 ∨ y4 = 1) : ab_Mt g_G g_rs mt_Tu_diary 1 0 0 [ab_R 0, ab_I y1, ab_I y2, ab_I y3, ab_I y4] w (fun r w2 => (cy_A (fa_diary S y1 y2 y3 y4) (fs_diary S y1 y2 y3 y4) wm) r w2 ∧ pnz w2) := by
  have hC := cy_diary h hok hcm y1 hy1 y2 hy2 y3 hy3 y4 hy4
  have hQ : ∀ r w2, (cy_A (fa_diary S y1 y2 y3 y4) (fs_diary S y1 y2 y3 y4) wm) r w2 → w2.length = w.length ∧ ∃ (N : Nat) (T : Nat → tm_S), tm_W N T w2 ∧ T 44 = tm_ai 0 42 (-2147483648) 2147483647 := fun r w2 q => pnz_q h q.2 (ru_diary S y1 y2 y3 y4)
  obtain ⟨x, ix, mk, tf, tl, rc, said, was, undone, images, ru⟩ := S
  obtain ⟨N, T, a, b, hF, hR, hag, himg, hrul⟩ := h
  obtain ⟨hW, hA, ⟨kn, kt, krc, ktl, ktf⟩, ⟨hrc, hN⟩, hrl, him, hac, hx, hmd, hix, hseg⟩ := id hF
  have hab := hA.ab
  refine pnz_an hC (tm_Tu_diary hW hA kn kt y1 (by omega) (by omega) y2 (by omega) (by omega) y3 (by omega) (by omega) y4 (by omega) (by omega)) (fun r w1 q => ?_) hQ
  obtain ⟨hW2, v, rfl, hf, -⟩ := q
  exact ⟨by rw [hW2.1, hW.1], pnz_fr hW hW2 hA (fun j => hf 44 j (by omega)) hp⟩
set_option maxRecDepth 4000 in
theorem pnz_seed {w : ab_W} {S : fs_S} {wm : ab_W} {c : Int} (h : cy_I w S wm) (hok : fs_ok c S) (hcm : c ≤ 1000) (hp : pnz w) (y1 : Int) (hy1 : ab_in y1) : ab_Mt g_G g_rs mt_Tu_seed 0 0 0 [ab_R 0, ab_I y1] w (fun r w2 => (cy_A (fa_seed S y1) (fs_seed S y1) wm) r w2 ∧ pnz w2) := by
  have hC := cy_seed h hok hcm y1 hy1
  have hQ : ∀ r w2, (cy_A (fa_seed S y1) (fs_seed S y1) wm) r w2 → w2.length = w.length ∧ ∃ (N : Nat) (T : Nat → tm_S), tm_W N T w2 ∧ T 44 = tm_ai 0 42 (-2147483648) 2147483647 := fun r w2 q => pnz_q h q.2 (ru_seed S y1)
  obtain ⟨x, ix, mk, tf, tl, rc, said, was, undone, images, ru⟩ := S
  obtain ⟨N, T, a, b, hF, hR, hag, himg, hrul⟩ := h
  obtain ⟨hW, hA, ⟨kn, kt, krc, ktl, ktf⟩, ⟨hrc, hN⟩, hrl, him, hac, hx, hmd, hix, hseg⟩ := id hF
  have hab := hA.ab
  refine pnz_an hC (tm_Tu_seed hW hA kn kt y1 (by omega) (by omega) x hx) (fun r w1 q => ?_) hQ
  obtain ⟨hW2, v, rfl, hf, -⟩ := q
  exact ⟨by rw [hW2.1, hW.1], pnz_fr hW hW2 hA (fun j => hf 44 j (by omega)) hp⟩
set_option maxRecDepth 4000 in
theorem pnz_image {w : ab_W} {S : fs_S} {wm : ab_W} {c : Int} (h : cy_I w S wm) (hok : fs_ok c S) (hcm : c ≤ 1000) (hp : pnz w) (y1 : Int) (hy1 : ab_in y1) : ab_Mt g_G g_rs mt_Tu_image 3 0 0 [ab_R 0, ab_I y1] w (fun r w2 => (cy_A (fa_image S y1) (fs_image S y1) wm) r w2 ∧ pnz w2) := by
  have hC := cy_image h hok hcm y1 hy1
  have hQ : ∀ r w2, (cy_A (fa_image S y1) (fs_image S y1) wm) r w2 → w2.length = w.length ∧ ∃ (N : Nat) (T : Nat → tm_S), tm_W N T w2 ∧ T 44 = tm_ai 0 42 (-2147483648) 2147483647 := fun r w2 q => pnz_q h q.2 (ru_image S y1)
  obtain ⟨x, ix, mk, tf, tl, rc, said, was, undone, images, ru⟩ := S
  obtain ⟨N, T, a, b, hF, hR, hag, himg, hrul⟩ := h
  obtain ⟨hW, hA, ⟨kn, kt, krc, ktl, ktf⟩, ⟨hrc, hN⟩, hrl, him, hac, hx, hmd, hix, hseg⟩ := id hF
  have hab := hA.ab
  refine pnz_an hC (tm_Tu_image hW hA kn kt y1 (by omega) (by omega) him) (fun r w1 q => ?_) hQ
  obtain ⟨hW2, v, rfl, hf, -⟩ := q
  exact ⟨by rw [hW2.1, hW.1], pnz_fr hW hW2 hA (fun j => hf 44 j (by omega)) hp⟩
set_option maxRecDepth 4000 in
theorem pnz_back {w : ab_W} {S : fs_S} {wm : ab_W} {c : Int} (h : cy_I w S wm) (hok : fs_ok c S) (hcm : c ≤ 1000) (hp : pnz w) (y1 : Int) (hy1 : ab_in y1) : ab_Mt g_G g_rs mt_Tu_back 3 0 0 [ab_R 0, ab_I y1] w (fun r w2 => (cy_A (fa_back S y1) (fs_back S y1) wm) r w2 ∧ pnz w2) := by
  have hC := cy_back h hok hcm y1 hy1
  have hQ : ∀ r w2, (cy_A (fa_back S y1) (fs_back S y1) wm) r w2 → w2.length = w.length ∧ ∃ (N : Nat) (T : Nat → tm_S), tm_W N T w2 ∧ T 44 = tm_ai 0 42 (-2147483648) 2147483647 := fun r w2 q => pnz_q h q.2 (ru_back S y1)
  obtain ⟨x, ix, mk, tf, tl, rc, said, was, undone, images, ru⟩ := S
  obtain ⟨N, T, a, b, hF, hR, hag, himg, hrul⟩ := h
  obtain ⟨hW, hA, ⟨kn, kt, krc, ktl, ktf⟩, ⟨hrc, hN⟩, hrl, him, hac, hx, hmd, hix, hseg⟩ := id hF
  have hab := hA.ab
  refine pnz_an hC (tm_Tu_back hW hA kn kt y1 (by omega) (by omega) him (mk y1) (fun h0 h1 => hmd y1 h0 h1)) (fun r w1 q => ?_) hQ
  obtain ⟨hW2, v, rfl, hf, -⟩ := q
  exact ⟨by rw [hW2.1, hW.1], pnz_fr hW hW2 hA (fun j => hf 44 j (by omega)) hp⟩
set_option maxRecDepth 4000 in
theorem pnz_feed {w : ab_W} {S : fs_S} {wm : ab_W} {c : Int} (h : cy_I w S wm) (hok : fs_ok c S) (hcm : c ≤ 1000) (hp : pnz w) (y1 : Int) (hy1 : ab_in y1) (y2 : Int) (hy2 : ab_in y2) (y3 : Int) (hy3 : ab_in y3) (y4 : Int) (hy4 : ab_in y4) (y5 : Int) (hy5 : ab_in y5) : ab_Mt g_G g_rs mt_Tu_feed 1 0 0 [ab_R 0, ab_I y1, ab_I y2, ab_I y3, ab_I y4, ab_I y5] w (fun r w2 => (cy_A (fa_feed S) (fs_feed S y1 y2 y3 y4 y5) wm) r w2 ∧ pnz w2) := by
  have hC := cy_feed h hok hcm y1 hy1 y2 hy2 y3 hy3 y4 hy4 y5 hy5
  have hQ : ∀ r w2, (cy_A (fa_feed S) (fs_feed S y1 y2 y3 y4 y5) wm) r w2 → w2.length = w.length ∧ ∃ (N : Nat) (T : Nat → tm_S), tm_W N T w2 ∧ T 44 = tm_ai 0 42 (-2147483648) 2147483647 := fun r w2 q => pnz_q h q.2 (ru_feed S y1 y2 y3 y4 y5)
  obtain ⟨x, ix, mk, tf, tl, rc, said, was, undone, images, ru⟩ := S
  obtain ⟨N, T, a, b, hF, hR, hag, himg, hrul⟩ := h
  obtain ⟨hW, hA, ⟨kn, kt, krc, ktl, ktf⟩, ⟨hrc, hN⟩, hrl, him, hac, hx, hmd, hix, hseg⟩ := id hF
  have hab := hA.ab
  refine pnz_an hC (tm_Tu_feed hW hA kn kt y1 (by omega) (by omega) y2 (by omega) (by omega) y3 (by omega) (by omega) y4 (by omega) (by omega) y5 (by omega) (by omega)) (fun r w1 q => ?_) hQ
  obtain ⟨hW2, v, rfl, hf, -⟩ := q
  exact ⟨by rw [hW2.1, hW.1], pnz_fr hW hW2 hA (fun j => hf 44 j (by omega)) hp⟩
set_option maxRecDepth 4000 in
theorem pnz_end {w : ab_W} {S : fs_S} {wm : ab_W} {c : Int} (h : cy_I w S wm) (hok : fs_ok c S) (hcm : c ≤ 1000) (hp : pnz w) (y1 : Int) (hy1 : ab_in y1) : ab_Mt g_G g_rs mt_Tu_end 0 0 0 [ab_R 0, ab_I y1] w (fun r w2 => (cy_A (fa_end S y1) (fs_end S y1) wm) r w2 ∧ pnz w2) := by
  have hC := cy_end h hok hcm y1 hy1
  have hQ : ∀ r w2, (cy_A (fa_end S y1) (fs_end S y1) wm) r w2 → w2.length = w.length ∧ ∃ (N : Nat) (T : Nat → tm_S), tm_W N T w2 ∧ T 44 = tm_ai 0 42 (-2147483648) 2147483647 := fun r w2 q => pnz_q h q.2 (ru_end S y1)
  obtain ⟨x, ix, mk, tf, tl, rc, said, was, undone, images, ru⟩ := S
  obtain ⟨N, T, a, b, hF, hR, hag, himg, hrul⟩ := h
  obtain ⟨hW, hA, ⟨kn, kt, krc, ktl, ktf⟩, ⟨hrc, hN⟩, hrl, him, hac, hx, hmd, hix, hseg⟩ := id hF
  have hab := hA.ab
  refine pnz_an hC (tm_Tu_end hW hA kn kt y1 (by omega) (by omega)) (fun r w1 q => ?_) hQ
  obtain ⟨hW2, v, rfl, hf, -⟩ := q
  exact ⟨by rw [hW2.1, hW.1], pnz_fr hW hW2 hA (fun j => hf 44 j (by omega)) hp⟩
set_option maxRecDepth 4000 in
theorem pnz_ring {w : ab_W} {S : fs_S} {wm : ab_W} {c : Int} (h : cy_I w S wm) (hok : fs_ok c S) (hcm : c ≤ 1000) (hp : pnz w) (rd0 : Int → Int) (hr0 : rd_ok rd0) : ab_Mt g_G g_rs mt_Tu_ring 10 0 0 [ab_R 0] w (fun r w2 => (cy_A (fa_ring S rd0) (fs_ring S rd0) wm) r w2 ∧ pnz w2) := by
  have hC := cy_ring h hok hcm rd0 hr0
  have hQ : ∀ r w2, (cy_A (fa_ring S rd0) (fs_ring S rd0) wm) r w2 → w2.length = w.length ∧ ∃ (N : Nat) (T : Nat → tm_S), tm_W N T w2 ∧ T 44 = tm_ai 0 42 (-2147483648) 2147483647 := fun r w2 q => pnz_q h q.2 (ru_ring S rd0)
  obtain ⟨x, ix, mk, tf, tl, rc, said, was, undone, images, ru⟩ := S
  obtain ⟨N, T, a, b, hF, hR, hag, himg, hrul⟩ := h
  obtain ⟨hW, hA, ⟨kn, kt, krc, ktl, ktf⟩, ⟨hrc, hN⟩, hrl, him, hac, hx, hmd, hix, hseg⟩ := id hF
  have hab := hA.ab
  refine pnz_an hC (tm_Tu_ring hW hA kn kt) (fun r w1 q => ?_) hQ
  obtain ⟨hW2, v, rfl, hf, -⟩ := q
  exact ⟨by rw [hW2.1, hW.1], pnz_fr hW hW2 hA (fun j => hf 44 j (by omega)) hp⟩
set_option maxRecDepth 4000 in
theorem pnz_rule {w : ab_W} {S : fs_S} {wm : ab_W} {c : Int} (h : cy_I w S wm) (hok : fs_ok c S) (hcm : c ≤ 1000) (hp : pnz w) : ab_Mt g_G g_rs mt_Tu_rule 36 2 401 [ab_R 0] w (fun r w2 => cy_A (fa_rule S) (fs_rule S) wm r w2 ∧ pnz w2) := by
  obtain ⟨x, ix, mk, tf, tl, rc, said, was, undone, images, ru⟩ := S
  obtain ⟨N, T, a, b, hF, hR, hag, himg, hrul⟩ := h
  obtain ⟨hW, hA, ⟨kn, kt, krc, ktl, ktf⟩, ⟨hrc, hN⟩, hrl, him, hac, hx, hmd, hix, hseg⟩ := id hF
  obtain ⟨o1, o2, o3, o4, o5, o6, o7, o8⟩ := hok
  have hab := hA.ab
  have hab2 : a = 3 ∨ a = 16 := by omega
  have t0 := tu_of hW hA kn kt krc
  have sA := sg_all o1.1
  have hT : is_Ta T 1 := hA.2.2.2.2.1
  have hL0 : 0 ≤ tl ∧ tl ≤ 400 := tm_kb (k := 1) (K := 1) hW hT.1 rfl rfl ktl
  have htie := all_tie (f := tf) hL0.1 hL0.2 (tx_fb hW hT.2 ktf)
  have hE : (a_all tf 2 tl (0, tk_sk tf tl 0, 0, [])).1 = ru_er tf tl := by
    unfold ru_er
    rcases hq : c_rall tf tl with e | ⟨c3, ks⟩
    · rw [hq] at htie
      exact htie.2
    · rw [hq] at htie
      exact htie.1
  refine (ty_Tu_rule hW hA kn kt rc krc tl ktl ktf hrl (by omega) (by omega)).conseq (fun r w2 h => ?_)
  obtain ⟨N2, T2, v, rc2, L2, rfl, hW2, hT2, hzz⟩ := h
  obtain ⟨hf, krc2, kL2, ⟨hr1, hr2, hN2⟩, hrl2, hvb, p1, p2, hzz⟩ := hzz
  obtain ⟨p3, p4⟩ := hzz
  have hlt : ∀ p, p < N → T p w2[p]? := fun p hp => by rw [← hT2 p hp]; exact hW2.2.1 p
  have hA2 := hA.cong (fun p hp => hT2 p (by omega))
  have ri2 : ri_at_j a said x w2 := rj_ce hR (bq_ri hW.2.1 (fun p q0 q1 => hlt p (by omega)) hA.ri (fun p j q0 q1 => hf p j (by omega) (by omega)))
  have ag2 : ag said was undone w2 := by
    obtain ⟨ki, f1, s1, nx, h1, h2⟩ := hag
    exact ⟨ki, f1, s1, nx, bq_ac hW.2.1 (fun p q0 q1 => hlt p (by omega)) hA.ac (fun p j q0 q1 => hf p j (by omega) (by omega)) h1, h2⟩
  have im2 : cy_im w2 mk ix images := by
    intro j j0 j1 ik hik
    obtain ⟨i2, -, k2, k3⟩ := him j j0 (by omega)
    have ei : i2 = ik := by omega
    subst ei
    have hce := bq_ri hW.2.1 (fun p q0 q1 => hlt p (by omega)) k2 (fun p q a b => hf p q (by omega) (by omega))
    obtain ⟨⟨g, y, q1, q3⟩, q2⟩ := himg j j0 j1 i2 hik
    exact ⟨⟨g, y, rj_ce q1 hce, q3⟩, fun z => rj_ce (q2 z) hce⟩
  have ruO : cy_ru w2 rc ru := by
    intro r r0 r1
    obtain ⟨q, n, cd, h1, h2, h3, h4, h5⟩ := hrul r r0 r1
    obtain ⟨q2, n2, g1, g2, g3, g4⟩ := hrl r r0 r1
    have eq : q2 = q := an_rr g1 h1
    subst eq
    exact ⟨q2, n, cd, (hf 31 r (by omega) (by omega)).trans h1, h2, (bq_o (hW.2.1 _) (hlt _ (by omega)) g2.1 (fun j => hf _ j (by omega) (by omega))).trans h3, (bq_ai (hW.2.1 _) (hlt _ (by omega)) g2.2.1 (fun j => hf _ j (by omega) (by omega))).trans h4, h5⟩
  have cf2 : ci_F N2 T2 w2 a b rc2 x ix mk tf L2 wm := by
    refine ⟨hW2, hA2, ⟨(hf 0 1 (by omega) (by omega)).trans kn, (hf 0 2 (by omega) (by omega)).trans kt, krc2, kL2, fun j => (hf 2 j (by omega) (by omega)).trans (ktf j)⟩, ⟨⟨by omega, hr2⟩, by omega⟩, hrl2, fun j j0 j1 => ?_, (hac.fr (fun k => hf _ k (by omega) (by omega)) (fun k => hf _ k (by omega) (by omega)) (fun k => hf _ k (by omega) (by omega))), (hf a 6 (by omega) (by omega)).trans hx, fun j j0 j1 => (hf 30 j (by omega) (by omega)).trans (hmd j j0 j1), fun j j0 j1 ik e => (hf ik 6 (by omega) (by omega)).trans (hix j j0 j1 ik e), fun i e hi => ?_⟩
    · obtain ⟨ik, k1, k2, k3⟩ := him j j0 j1
      exact ⟨ik, (hf 29 j (by omega) (by omega)).trans k1, k2.cong (fun p h1 h2 => hT2 p (by omega)), k3⟩
    · have hs := hseg i e hi
      have hl7 : 107 + i < N := by
        have h3 := hW.2.1 (107 + i)
        rw [hs] at h3
        have := tm_lt h3
        rw [hW.1] at this
        exact this
      exact (hT2 _ hl7).trans hs
  have hpz : pnz w2 := by
    obtain ⟨f, f1, f2⟩ := hp
    exact ⟨f, (bq_ai (hW.2.1 _) (hlt 44 (by omega)) hA.pl.2.2.2.2 (fun j => hf 44 j (by omega) (by omega))).trans f1, f2⟩
  refine ⟨?_, hpz⟩
  rw [hE] at p3 p4
  by_cases c6 : 6 ≤ rc
  · obtain ⟨e1, e2, e3⟩ := p1 c6
    have eA : fa_rule ⟨x, ix, mk, tf, tl, rc, said, was, undone, images, ru⟩ = v := (if_pos c6).trans e1.symm
    have eS : fs_rule ⟨x, ix, mk, tf, tl, rc, said, was, undone, images, ru⟩ = ⟨x, ix, mk, tf, tl, rc, said, was, undone, images, ru⟩ := if_pos c6
    subst e2
    subst e3
    rw [eA, eS]
    exact ⟨rfl, N2, T2, a, b, cf2, ri2, ag2, im2, ruO⟩
  · have e0 := p2 (by omega)
    subst e0
    by_cases hz : ru_er tf tl = 0
    · obtain ⟨e1, e2, e3, e4, e5, e6⟩ := p4 (by omega) hz
      have eA : fa_rule ⟨x, ix, mk, tf, tl, rc, said, was, undone, images, ru⟩ = v := (if_neg c6).trans ((if_pos hz).trans e1.symm)
      have eS : fs_rule ⟨x, ix, mk, tf, tl, rc, said, was, undone, images, ru⟩ = ⟨x, ix, mk, tf, 0, rc + 1, said, was, undone, images, ab_up ru rc (ru_ks tf tl)⟩ := (if_neg c6).trans (if_pos hz)
      subst e2
      rw [eA, eS]
      refine ⟨rfl, N2, T2, a, b, cf2, ri2, ag2, im2, fun r r0 r1 => ?_⟩
      by_cases er : r = rc
      · subst er
        rw [ab_upe]
        obtain ⟨q, n, s1, s2, -⟩ := hrl2 r r0 r1
        have eq : q = N := an_rr s1 e3
        subst eq
        obtain ⟨cd, cc, hcd⟩ := ai_of hW2 e5
        obtain ⟨cd2, cc2, -⟩ := ai_of hW2 s2.2.1
        have en := an_ln cc2 cc
        obtain ⟨vs, c0, cl, cv⟩ := tm_cell hW2 e4
        have evs : vs = [ab_R (q + 1)] := List.ext_getElem? (fun i => match i with
          | 0 => an_r (k := 0) cv rfl
          | i + 1 => by rw [List.getElem?_eq_none (by rw [cl]; exact Nat.le_add_left _ _)]; rfl)
        rw [evs] at c0
        have eks : (a_all tf 2 tl (0, tk_sk tf tl 0, 0, [])).2.2.2 = ((ru_ks tf tl).map a_cc).flatten := by
          unfold ru_ks
          unfold ru_er at hz
          rcases hq : c_rall tf tl with e | ⟨c3, ks⟩
          · rw [hq] at htie hz
            have hz : e = 0 := hz
            have := htie.1
            omega
          · rw [hq] at htie
            exact htie.2
        rw [eks] at cc e6 en
        exact ⟨q, _, cd, e3, by omega, c0, cc, ⟨rfl, by have := s2.2.2; omega⟩, fun k y hk => hcd _ _ (e6 k y hk)⟩
      · rw [ab_upn _ _ er]
        exact ruO r r0 (by omega)
    · obtain ⟨e1, e2⟩ := p3 (by omega) hz
      have eA : fa_rule ⟨x, ix, mk, tf, tl, rc, said, was, undone, images, ru⟩ = v := (if_neg c6).trans ((if_neg hz).trans e1.symm)
      have eS : fs_rule ⟨x, ix, mk, tf, tl, rc, said, was, undone, images, ru⟩ = ⟨x, ix, mk, tf, 0, rc, said, was, undone, images, ru⟩ := (if_neg c6).trans (if_neg hz)
      subst e2
      rw [eA, eS]
      exact ⟨rfl, N2, T2, a, b, cf2, ri2, ag2, im2, ruO⟩

/-! looking ahead: the class's ANGLE and HOUR n HOURS on, the reference's row that has turned so far -/
theorem pl_of {N : Nat} {T : Nat → tm_S} {w : ab_W} (hW : tm_W N T w) (hS : is_Pl T 40) (hp : pnz w) : ∃ (row best : Int → Int) (wv : Int) (angs had : Int → Int), pla 40 row best wv angs had w ∧ ∀ h : Int, 0 ≤ h → h < 7 → had h = 0 := by
  obtain ⟨t0, t1, t2, t3, t4⟩ := hS
  obtain ⟨vs, c0, cl, cv⟩ := tm_cell hW t0
  obtain ⟨row, c1, -⟩ := ai_of hW t1
  obtain ⟨best, c2, -⟩ := ai_of hW t2
  obtain ⟨angs, c3, -⟩ := ai_of hW t3
  obtain ⟨had, c4, hz⟩ := hp
  obtain ⟨v2, h2, b2, rfl, -⟩ := cv 2 _ rfl
  have ev := an_l5 cl (an_r (k := 0) cv rfl) (an_r (k := 1) cv rfl) h2 (an_r (k := 3) cv rfl) (an_r (k := 4) cv rfl)
  rw [ev] at c0
  exact ⟨row, best, b2, angs, had, ⟨c0, c1, c2, c3, c4⟩, hz⟩
theorem plan_b {B : Int} {f : Int → Int} (hI : sg_ok B f) (hB : B ≤ 29000) {n fr y : Int} (n0 : 1 ≤ n) (n5 : n ≤ 5) : -1000000 ≤ sp_plan f n fr y ∧ sp_plan f n fr y ≤ 1000000 := by
  have q := sp_pb_b hI hB n.toNat (by omega) fr (3 ^ n.toNat)
  have d := dg_b (sp_pb f n.toNat fr (3 ^ n.toNat)).1 (n - 1 - (y - 1)).toNat
  unfold sp_plan
  (repeat' split) <;> omega
set_option maxRecDepth 4000 in
theorem pnz_plan {w : ab_W} {S : fs_S} {wm : ab_W} {c : Int} (h : cy_I w S wm) (hok : fs_ok c S) (hcm : c ≤ 1000) (hp : pnz w) (y1 : Int) (hy1 : ab_in y1) (y2 : Int) (hy2 : y2 = 0 ∨ y2 = 1) (y3 : Int) (hy3 : ab_in y3) : ab_Mt g_G g_rs mt_Tu_plan 4 0 0 [ab_R 0, ab_I y1, ab_I y2, ab_I y3] w (fun r w2 => (cy_A (fa_plan S y1 y2 y3) S wm) r w2 ∧ pnz w2) := by
  obtain ⟨x, ix, mk, tf, tl, rc, said, was, undone, images, ru⟩ := S
  obtain ⟨N, T, a, b, hF, hR, hag, himg, hrul⟩ := h
  obtain ⟨hW, hA, ⟨kn, kt, krc, ktl, ktf⟩, ⟨hrc, hN⟩, hrl, him, hac, hx, hmd, hix, hseg⟩ := id hF
  obtain ⟨o1, o2, o3, o4, o5, o6, o7, o8⟩ := hok
  have hab := hA.ab
  have hab2 : a = 3 ∨ a = 16 := by omega
  have t0 := tu_of hW hA kn kt krc
  have sA := sg_all o1.1
  obtain ⟨row, best, wv, angs, had, hPl, hz⟩ := pl_of hW hA.pl hp
  have tb : (1 ≤ y1 ∧ y1 ≤ 5) → _ := fun z => plan_b (fr := y2) (y := y3) o1.1 (by omega) z.1 z.2
  refine (an_mt (co_Tu_plan o1.1 t0 hR (by omega) hab2 hPl hz y1 hy1 y2 hy2 y3 hy3) (tm_Tu_plan hW hA kn kt y1 (by omega) (by omega) y2 (by omega) (by omega) y3 (by omega) (by omega)) (fun r w' h => h.1) (fun r w' h => by rw [h.1.1, hW.1])).conseq (fun r w2 h => ?_)
  obtain ⟨⟨hW2, v, rfl, hf, hvb⟩, r1, w1, ⟨-, e1, had2, f1, f2⟩, sm, sr⟩ := h
  obtain ⟨g2, k1, k2⟩ := an_a sm hW2 hA.pl.2.2.2.2 (by decide) (by decide) f1
  have ev := an_int sr e1 rfl (by split; (have q := tb (by omega); constructor <;> omega); decide) ⟨by omega, by omega⟩
  exact ⟨⟨congrArg (fun z => some (ab_I z)) ev, N, T, a, b, cf_keep hF hW2 (fun p j hK => hf p j (by omega)) (hac.fr (fun k => hf _ k (by omega)) (fun k => hf _ k (by omega)) (fun k => hf _ k (by omega))), ri_fr hW hW2 hA.ri (fun p j q0 q1 => hf p j (by omega)) hR, ag_fr hW hW2 hA.ac (fun p j q0 q1 => hf p j (by omega)) hag, im_fr hW hW2 him (fun p j q0 q1 => hf p j (by omega)) himg, ru_fr hW hW2 hrl (fun p j q0 => hf p j (by omega)) hrul⟩, g2, k1, fun j j0 j1 => by rw [k2 j j0 (by omega) (by rw [f2 j j0 j1]; decide)]; exact f2 j j0 j1⟩
def lp_I (c : Int) (w : ab_W) : Prop := ∃ (S : fs_S) (wm : ab_W), cy_I w S wm ∧ my_I c S wm ∧ pnz w
theorem lp_mod {M : ab_M} {d : Nat} {av : List ab_V} {c c0 : Int} {S S0 : fs_S} {wm w : ab_W} {R : Option ab_V → Prop} (hm : ab_Mt g_G g_rs M d 0 0 (ab_R 0 :: av) wm (fun r w' => R r ∧ my_I c S w')) (hR : ∀ r, R r → ∃ v, r = some (ab_I v)) (hav : ∀ v ∈ av, ∃ a, v = ab_I a) (h0 : my_I c0 S0 wm) (hci : cy_I w S wm) (hp : pnz w) : ab_Mt g_G g_rs M d 0 0 (ab_R 107 :: av) w (fun r w3 => R r ∧ lp_I c w3) := by
  have hl := (my_len h0).1
  have h := ab_emb (o := 107) (B := w) hm (fun r w' q => by rw [(my_len q.2).1, hl]) (fun r w' q => hR r q.1) (cy_seg hci) (by rw [hl]; decide)
  have e : (ab_R 0 :: av).map (ab_shV 107) = ab_R 107 :: av := by
    rw [List.map_cons, lj_av hav]
    show (ab_R (if 0 < ab_sb then 107 + 0 else 0)) :: av = _
    rw [if_pos (by decide)]
  rw [e] at h
  refine h.conseq (fun r w3 q => ?_)
  obtain ⟨w', ⟨q1, q2⟩, rfl⟩ := q
  obtain ⟨k1, k2⟩ := my_len q2
  obtain ⟨f, f1, f2⟩ := hp
  exact ⟨q1, S, w', cy_put hci hl k1 k2, q2, f, (ab_put_out (by omega)).trans f1, f2⟩
