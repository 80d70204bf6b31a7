theorem is_Di.cong {T T2 : Nat → tm_S} {o : Nat} (h : is_Di T o) (e : ∀ p, o ≤ p → p < o + 5 → T2 p = T p) : is_Di T2 o := by
  obtain ⟨h0, h1, h2, h3, h4⟩ := h
  exact ⟨(e _ (by omega) (by omega)).trans h0, (e _ (by omega) (by omega)).trans h1, (e _ (by omega) (by omega)).trans h2, (e _ (by omega) (by omega)).trans h3, (e _ (by omega) (by omega)).trans h4⟩
theorem is_RiH.cong {T T2 : Nat → tm_S} {o : Nat} {hl hh : Int} (h : is_RiH T o hl hh) (e : ∀ p, o ≤ p → p < o + 13 → T2 p = T p) : is_RiH T2 o hl hh := by
  obtain ⟨h0, h1, h2, h3, h4, h5, h6, h7, h8, h9, h10, h11, h12⟩ := h
  exact ⟨(e _ (by omega) (by omega)).trans h0, (e _ (by omega) (by omega)).trans h1, (e _ (by omega) (by omega)).trans h2, (e _ (by omega) (by omega)).trans h3, (e _ (by omega) (by omega)).trans h4, (e _ (by omega) (by omega)).trans h5, (e _ (by omega) (by omega)).trans h6, (e _ (by omega) (by omega)).trans h7, (e _ (by omega) (by omega)).trans h8, (e _ (by omega) (by omega)).trans h9, (e _ (by omega) (by omega)).trans h10, (e _ (by omega) (by omega)).trans h11, (e _ (by omega) (by omega)).trans h12⟩
theorem is_Ta.cong {T T2 : Nat → tm_S} {o : Nat} (h : is_Ta T o) (e : ∀ p, o ≤ p → p < o + 2 → T2 p = T p) : is_Ta T2 o := by
  obtain ⟨h0, h1⟩ := h
  exact ⟨(e _ (by omega) (by omega)).trans h0, (e _ (by omega) (by omega)).trans h1⟩
theorem is_Ac.cong {T T2 : Nat → tm_S} {o : Nat} (h : is_Ac T o) (e : ∀ p, o ≤ p → p < o + 4 → T2 p = T p) : is_Ac T2 o := by
  obtain ⟨h0, h1, h2, h3⟩ := h
  exact ⟨(e _ (by omega) (by omega)).trans h0, (e _ (by omega) (by omega)).trans h1, (e _ (by omega) (by omega)).trans h2, (e _ (by omega) (by omega)).trans h3⟩
theorem is_Ru.cong {T T2 : Nat → tm_S} {o : Nat} (h : is_Ru T o) (e : ∀ p, o ≤ p → p < o + 2 → T2 p = T p) : is_Ru T2 o := by
  obtain ⟨h0, h1⟩ := h
  exact ⟨(e _ (by omega) (by omega)).trans h0, (e _ (by omega) (by omega)).trans h1⟩
theorem is_Ma.cong {T T2 : Nat → tm_S} {o : Nat} (h : is_Ma T o) (e : ∀ p, o ≤ p → p < o + 2 → T2 p = T p) : is_Ma T2 o := by
  obtain ⟨h0, h1⟩ := h
  exact ⟨(e _ (by omega) (by omega)).trans h0, (e _ (by omega) (by omega)).trans h1⟩
theorem is_Pl.cong {T T2 : Nat → tm_S} {o : Nat} (h : is_Pl T o) (e : ∀ p, o ≤ p → p < o + 5 → T2 p = T p) : is_Pl T2 o := by
  obtain ⟨h0, h1, h2, h3, h4⟩ := h
  exact ⟨(e _ (by omega) (by omega)).trans h0, (e _ (by omega) (by omega)).trans h1, (e _ (by omega) (by omega)).trans h2, (e _ (by omega) (by omega)).trans h3, (e _ (by omega) (by omega)).trans h4⟩
theorem is_Tr.cong {T T2 : Nat → tm_S} {o : Nat} (h : is_Tr T o) (e : ∀ p, o ≤ p → p < o + 6 → T2 p = T p) : is_Tr T2 o := by
  obtain ⟨h0, h1, h2, h3, h4, h5⟩ := h
  exact ⟨(e _ (by omega) (by omega)).trans h0, (e _ (by omega) (by omega)).trans h1, (e _ (by omega) (by omega)).trans h2, (e _ (by omega) (by omega)).trans h3, (e _ (by omega) (by omega)).trans h4, (e _ (by omega) (by omega)).trans h5⟩
theorem is_Gu.cong {T T2 : Nat → tm_S} {o : Nat} (h : is_Gu T o) (e : ∀ p, o ≤ p → p < o + 4 → T2 p = T p) : is_Gu T2 o := by
  obtain ⟨h0, h1, h2, h3⟩ := h
  exact ⟨(e _ (by omega) (by omega)).trans h0, (e _ (by omega) (by omega)).trans h1, (e _ (by omega) (by omega)).trans h2, (e _ (by omega) (by omega)).trans h3⟩
theorem is_Ro.cong {T T2 : Nat → tm_S} {o : Nat} {n : Nat} (h : is_Ro T o n) (e : ∀ p, o ≤ p → p < o + 2 → T2 p = T p) : is_Ro T2 o n := by
  obtain ⟨h0, h1, hn⟩ := h
  exact ⟨(e _ (by omega) (by omega)).trans h0, (e _ (by omega) (by omega)).trans h1, hn⟩
abbrev is_C (T : Nat → tm_S) (a b : Nat) : Prop := is_All T 0 1 29 30 31 32 36 38 40 45 51 a b
theorem is_C.cong {T T2 : Nat → tm_S} {a b : Nat} (h : is_C T a b) (e : ∀ p, p < 107 → T2 p = T p) : is_C T2 a b := by
  obtain ⟨h1, h2, h3, h4, h5, h6, h7, h8, h9, h10, h11, h12, h13, h14, h15⟩ := h
  exact ⟨(e _ (by omega)).trans h1, (e _ (by omega)).trans h2, (e _ (by omega)).trans h3, (e _ (by omega)).trans h4, h5.cong (fun p _ _ => e p (by omega)), h6.cong (fun p _ _ => e p (by omega)), h7.cong (fun p _ _ => e p (by omega)), h8.cong (fun p _ _ => e p (by omega)), h9.cong (fun p _ _ => e p (by omega)), h10.cong (fun p _ _ => e p (by omega)), h11.cong (fun p _ _ => e p (by omega)), h12.cong (fun p _ _ => e p (by omega)), h13.cong (fun p _ _ => e p (by omega)), h14, h15⟩
theorem is_C.swap {T : Nat → tm_S} {a b : Nat} (h : is_C T a b) : is_C T b a := by
  obtain ⟨h1, h2, h3, h4, h5, h6, h7, h8, h9, h10, h11, h12, h13, h14, h15⟩ := h
  exact ⟨h1, h2, h3, h4, h5, h6, h7, h8, h9, h10, h11, h13, h12, h14, h15.elim (fun z => Or.inr ⟨z.2, z.1⟩) (fun z => Or.inl ⟨z.2, z.1⟩)⟩
theorem is_C.ab {T : Nat → tm_S} {a b : Nat} (h : is_C T a b) : a = 3 ∧ b = 16 ∨ a = 16 ∧ b = 3 := h.2.2.2.2.2.2.2.2.2.2.2.2.2.2
def ci_F (N : Nat) (T : Nat → tm_S) (w : ab_W) (a b : Nat) (rc x : Int) (ix mk tf : Int → Int) (tl : Int) (wm : ab_W) : Prop :=
  tm_W N T w ∧ is_C T a b ∧ (tm_g w 0 1 = some (ab_R a) ∧ tm_g w 0 2 = some (ab_R b) ∧ tm_g w 0 6 = some (ab_I rc) ∧ tm_g w 1 1 = some (ab_I tl) ∧ ∀ j, tm_g w 2 j = some (ab_I (tf j))) ∧ ((0 ≤ rc ∧ rc ≤ 6) ∧ (N : Int) = 129 + 2 * rc) ∧ (∀ j : Int, 0 ≤ j → j < rc → ∃ q n : Nat, tm_g w 31 j = some (ab_R q) ∧ is_Ro T q n ∧ 129 ≤ q ∧ q + 1 < N) ∧ (∀ j : Int, 0 ≤ j → j < 4 → ∃ ik : Nat, tm_g w 29 j = some (ab_R ik) ∧ is_Ri T ik ∧ (ik : Int) = 55 + 13 * j) ∧ ac_ok w 32 ∧ tm_g w a 6 = some (ab_I x) ∧ (∀ j : Int, 0 ≤ j → j ≤ 3 → tm_g w 30 j = some (ab_I (mk j))) ∧ (∀ j : Int, 0 ≤ j → j ≤ 3 → ∀ ik : Nat, (ik : Int) = 55 + 13 * j → tm_g w ik 6 = some (ab_I (ix j))) ∧ (∀ (i : Nat) (e : ab_E), wm[i]? = some e → T (107 + i) = fun c => c = some (ab_shE 107 e))
def ci_I (w : ab_W) : ls_S → ab_W → Prop
  | ⟨x, ix, im, tf, tl, rc⟩, wm => ∃ (N : Nat) (T : Nat → tm_S) (a b : Nat), ci_F N T w a b rc x ix im tf tl wm
abbrev ci_Q (S : ls_S) (wm : ab_W) : Option ab_V → ab_W → Prop := fun r w2 => (∃ v, r = some (ab_I v)) ∧ ci_I w2 S wm
abbrev ci_A (A : Int) (S : ls_S) (wm : ab_W) : Option ab_V → ab_W → Prop := fun r w2 => r = some (ab_I A) ∧ ab_in A ∧ ci_I w2 S wm
theorem ci_keep {N : Nat} {T : Nat → tm_S} {w w2 : ab_W} {a b : Nat} {rc x tl : Int} {ix mk tf : Int → Int} {wm : ab_W} (h : ci_F N T w a b rc x ix mk tf tl wm) (hW : tm_W N T w2) (hk : ∀ (p : Nat) (j : Int), (p = 0 ∧ (j = 1 ∨ j = 2 ∨ j = 6) ∨ (p = 1 ∧ j = 1) ∨ p = 2 ∨ p = 31 ∨ p = 29 ∨ p = 30 ∨ (p = a ∧ j = 6) ∨ (55 ≤ p ∧ j = 6)) → tm_g w2 p j = tm_g w p j) (hac : ac_ok w2 32) : ci_I w2 ⟨x, ix, mk, tf, tl, rc⟩ wm := by
  obtain ⟨h1, h2, ⟨h3, h4, h5, h5a, h5b⟩, h6, h7, h8, h9, h10, h11, h12, h13⟩ := h
  refine ⟨N, T, a, b, hW, h2, ⟨(hk 0 1 (by omega)).trans h3, (hk 0 2 (by omega)).trans h4, (hk 0 6 (by omega)).trans h5, (hk 1 1 (by omega)).trans h5a, fun j => (hk 2 j (by omega)).trans (h5b j)⟩, h6, fun j j0 j1 => ?_, fun j j0 j1 => ?_, hac, (hk a 6 (by omega)).trans h10, fun j j0 j1 => (hk 30 j (by omega)).trans (h11 j j0 j1), fun j j0 j1 ik e => (hk ik 6 (by omega)).trans (h12 j j0 j1 ik e), h13⟩
  · obtain ⟨q, n, k1, k2⟩ := h7 j j0 j1
    exact ⟨q, n, (hk 31 j (by omega)).trans k1, k2⟩
  · obtain ⟨ik, k1, k2⟩ := h8 j j0 j1
    exact ⟨ik, (hk 29 j (by omega)).trans k1, k2⟩
set_option maxRecDepth 4000 in
theorem ci_house {w : ab_W} {S : ls_S} {wm : ab_W} (h : ci_I w S wm) (y1 : Int) (hy1 : ab_in y1) (y2 : Int) (hy2 : ab_in y2) : ab_Mt g_G g_rs mt_Tu_house 3 0 0 [ab_R 0, ab_I y1, ab_I y2] w (ci_Q S wm) := by
  obtain ⟨x, ix, mk, tf, tl, rc⟩ := S
  obtain ⟨N, T, a, b, hF⟩ := h
  obtain ⟨hW, hA, ⟨kn, kt, krc, ktl, ktf⟩, ⟨hrc, hN⟩, hrl, him, hac, hx, hmd, hix, hseg⟩ := id hF
  have hab := hA.ab
  refine (tm_Tu_house hW hA kn kt y1 (by omega) (by omega) y2 (by omega) (by omega)).conseq (fun r w2 h => ?_)
  obtain ⟨rfl, v, rfl, -⟩ := h
  exact ⟨⟨v, rfl⟩, N, T, a, b, hF⟩
set_option maxRecDepth 4000 in
theorem ci_direction {w : ab_W} {S : ls_S} {wm : ab_W} (h : ci_I w S wm) (y1 : Int) (hy1 : ab_in y1) (y2 : Int) (hy2 : ab_in y2) : ab_Mt g_G g_rs mt_Tu_direction 3 0 0 [ab_R 0, ab_I y1, ab_I y2] w (ci_Q S wm) := by
  obtain ⟨x, ix, mk, tf, tl, rc⟩ := S
  obtain ⟨N, T, a, b, hF⟩ := h
  obtain ⟨hW, hA, ⟨kn, kt, krc, ktl, ktf⟩, ⟨hrc, hN⟩, hrl, him, hac, hx, hmd, hix, hseg⟩ := id hF
  have hab := hA.ab
  refine (tm_Tu_direction hW hA kn kt y1 (by omega) (by omega) y2 (by omega) (by omega)).conseq (fun r w2 h => ?_)
  obtain ⟨rfl, v, rfl, -⟩ := h
  exact ⟨⟨v, rfl⟩, N, T, a, b, hF⟩
set_option maxRecDepth 4000 in
theorem ci_rateOf {w : ab_W} {S : ls_S} {wm : ab_W} (h : ci_I w S wm) (y1 : Int) (hy1 : ab_in y1) : ab_Mt g_G g_rs mt_Tu_rateOf 1 0 0 [ab_R 0, ab_I y1] w (ci_Q S wm) := by
  obtain ⟨x, ix, mk, tf, tl, rc⟩ := S
  obtain ⟨N, T, a, b, hF⟩ := h
  obtain ⟨hW, hA, ⟨kn, kt, krc, ktl, ktf⟩, ⟨hrc, hN⟩, hrl, him, hac, hx, hmd, hix, hseg⟩ := id hF
  have hab := hA.ab
  refine (tm_Tu_rateOf hW hA kn kt y1 (by omega) (by omega)).conseq (fun r w2 h => ?_)
  obtain ⟨rfl, v, rfl, -⟩ := h
  exact ⟨⟨v, rfl⟩, N, T, a, b, hF⟩
set_option maxRecDepth 4000 in
theorem ci_worn {w : ab_W} {S : ls_S} {wm : ab_W} (h : ci_I w S wm) (y1 : Int) (hy1 : ab_in y1) : ab_Mt g_G g_rs mt_Tu_worn 1 0 0 [ab_R 0, ab_I y1] w (ci_Q S wm) := by
  obtain ⟨x, ix, mk, tf, tl, rc⟩ := S
  obtain ⟨N, T, a, b, hF⟩ := h
  obtain ⟨hW, hA, ⟨kn, kt, krc, ktl, ktf⟩, ⟨hrc, hN⟩, hrl, him, hac, hx, hmd, hix, hseg⟩ := id hF
  have hab := hA.ab
  refine (tm_Tu_worn hW hA kn kt y1 (by omega) (by omega)).conseq (fun r w2 h => ?_)
  obtain ⟨rfl, v, rfl, -⟩ := h
  exact ⟨⟨v, rfl⟩, N, T, a, b, hF⟩
set_option maxRecDepth 4000 in
theorem ci_count {w : ab_W} {S : ls_S} {wm : ab_W} (h : ci_I w S wm) (y1 : Int) (hy1 : ab_in y1) : ab_Mt g_G g_rs mt_Tu_count 3 0 0 [ab_R 0, ab_I y1] w (ci_Q S wm) := by
  obtain ⟨x, ix, mk, tf, tl, rc⟩ := S
  obtain ⟨N, T, a, b, hF⟩ := h
  obtain ⟨hW, hA, ⟨kn, kt, krc, ktl, ktf⟩, ⟨hrc, hN⟩, hrl, him, hac, hx, hmd, hix, hseg⟩ := id hF
  have hab := hA.ab
  refine (tm_Tu_count hW hA kn kt y1 (by omega) (by omega)).conseq (fun r w2 h => ?_)
  obtain ⟨rfl, v, rfl, -⟩ := h
  exact ⟨⟨v, rfl⟩, N, T, a, b, hF⟩
set_option maxRecDepth 4000 in
theorem ci_faces {w : ab_W} {S : ls_S} {wm : ab_W} (h : ci_I w S wm) (y1 : Int) (hy1 : ab_in y1) (y2 : Int) (hy2 : ab_in y2) : ab_Mt g_G g_rs mt_Tu_faces 3 0 0 [ab_R 0, ab_I y1, ab_I y2] w (ci_Q S wm) := by
  obtain ⟨x, ix, mk, tf, tl, rc⟩ := S
  obtain ⟨N, T, a, b, hF⟩ := h
  obtain ⟨hW, hA, ⟨kn, kt, krc, ktl, ktf⟩, ⟨hrc, hN⟩, hrl, him, hac, hx, hmd, hix, hseg⟩ := id hF
  have hab := hA.ab
  refine (tm_Tu_faces hW hA kn kt y1 (by omega) (by omega) y2 (by omega) (by omega)).conseq (fun r w2 h => ?_)
  obtain ⟨rfl, v, rfl, -⟩ := h
  exact ⟨⟨v, rfl⟩, N, T, a, b, hF⟩
set_option maxRecDepth 4000 in
theorem ci_sees {w : ab_W} {S : ls_S} {wm : ab_W} (h : ci_I w S wm) (y1 : Int) (hy1 : ab_in y1) (y2 : Int) (hy2 : ab_in y2) : ab_Mt g_G g_rs mt_Tu_sees 3 0 0 [ab_R 0, ab_I y1, ab_I y2] w (ci_Q S wm) := by
  obtain ⟨x, ix, mk, tf, tl, rc⟩ := S
  obtain ⟨N, T, a, b, hF⟩ := h
  obtain ⟨hW, hA, ⟨kn, kt, krc, ktl, ktf⟩, ⟨hrc, hN⟩, hrl, him, hac, hx, hmd, hix, hseg⟩ := id hF
  have hab := hA.ab
  refine (tm_Tu_sees hW hA kn kt y1 (by omega) (by omega) y2 (by omega) (by omega)).conseq (fun r w2 h => ?_)
  obtain ⟨rfl, v, rfl, -⟩ := h
  exact ⟨⟨v, rfl⟩, N, T, a, b, hF⟩
set_option maxRecDepth 4000 in
theorem ci_day {w : ab_W} {S : ls_S} {wm : ab_W} (h : ci_I w S wm) (y1 : Int) (hy1 : ab_in y1) : ab_Mt g_G g_rs mt_Tu_day 3 0 0 [ab_R 0, ab_I y1] w (ci_Q S wm) := by
  obtain ⟨x, ix, mk, tf, tl, rc⟩ := S
  obtain ⟨N, T, a, b, hF⟩ := h
  obtain ⟨hW, hA, ⟨kn, kt, krc, ktl, ktf⟩, ⟨hrc, hN⟩, hrl, him, hac, hx, hmd, hix, hseg⟩ := id hF
  have hab := hA.ab
  refine (tm_Tu_day hW hA kn kt y1 (by omega) (by omega)).conseq (fun r w2 h => ?_)
  obtain ⟨rfl, v, rfl, -⟩ := h
  exact ⟨⟨v, rfl⟩, N, T, a, b, hF⟩
set_option maxRecDepth 4000 in
theorem ci_errand {w : ab_W} {S : ls_S} {wm : ab_W} (h : ci_I w S wm) (y1 : Int) (hy1 : ab_in y1) (y2 : Int) (hy2 : ab_in y2) (y3 : Int) (hy3 : ab_in y3) (y4 : Int) (hy4 : ab_in y4) : ab_Mt g_G g_rs mt_Tu_errand 2 0 0 [ab_R 0, ab_I y1, ab_I y2, ab_I y3, ab_I y4] w (ci_Q S wm) := by
  obtain ⟨x, ix, mk, tf, tl, rc⟩ := S
  obtain ⟨N, T, a, b, hF⟩ := h
  obtain ⟨hW, hA, ⟨kn, kt, krc, ktl, ktf⟩, ⟨hrc, hN⟩, hrl, him, hac, hx, hmd, hix, hseg⟩ := id hF
  have hab := hA.ab
  refine (tm_Tu_errand hW hA kn kt y1 (by omega) (by omega) y2 (by omega) (by omega) y3 (by omega) (by omega) y4 (by omega) (by omega)).conseq (fun r w2 h => ?_)
  obtain ⟨rfl, v, rfl, -⟩ := h
  exact ⟨⟨v, rfl⟩, N, T, a, b, hF⟩
set_option maxRecDepth 4000 in
theorem ci_stay {w : ab_W} {S : ls_S} {wm : ab_W} (h : ci_I w S wm) (y1 : Int) (hy1 : ab_in y1) : ab_Mt g_G g_rs mt_Tu_stay 4 0 0 [ab_R 0, ab_I y1] w (ci_Q S wm) := by
  obtain ⟨x, ix, mk, tf, tl, rc⟩ := S
  obtain ⟨N, T, a, b, hF⟩ := h
  obtain ⟨hW, hA, ⟨kn, kt, krc, ktl, ktf⟩, ⟨hrc, hN⟩, hrl, him, hac, hx, hmd, hix, hseg⟩ := id hF
  have hab := hA.ab
  refine (tm_Tu_stay hW hA kn kt y1 (by omega) (by omega)).conseq (fun r w2 h => ?_)
  obtain ⟨rfl, v, rfl, -⟩ := h
  exact ⟨⟨v, rfl⟩, N, T, a, b, hF⟩
set_option maxRecDepth 4000 in
theorem ci_swings {w : ab_W} {S : ls_S} {wm : ab_W} (h : ci_I w S wm) (y1 : Int) (hy1 : ab_in y1) : ab_Mt g_G g_rs mt_Tu_swings 2 0 0 [ab_R 0, ab_I y1] w (ci_Q S wm) := by
  obtain ⟨x, ix, mk, tf, tl, rc⟩ := S
  obtain ⟨N, T, a, b, hF⟩ := h
  obtain ⟨hW, hA, ⟨kn, kt, krc, ktl, ktf⟩, ⟨hrc, hN⟩, hrl, him, hac, hx, hmd, hix, hseg⟩ := id hF
  have hab := hA.ab
  refine (tm_Tu_swings hW hA kn kt y1 (by omega) (by omega)).conseq (fun r w2 h => ?_)
  obtain ⟨rfl, v, rfl, -⟩ := h
  exact ⟨⟨v, rfl⟩, N, T, a, b, hF⟩
set_option maxRecDepth 4000 in
theorem ci_spare {w : ab_W} {S : ls_S} {wm : ab_W} (h : ci_I w S wm) (y1 : Int) (hy1 : ab_in y1) (y2 : Int) (hy2 : ab_in y2) (y3 : Int) (hy3 : ab_in y3) : ab_Mt g_G g_rs mt_Tu_spare 2 0 0 [ab_R 0, ab_I y1, ab_I y2, ab_I y3] w (ci_Q S wm) := by
  obtain ⟨x, ix, mk, tf, tl, rc⟩ := S
  obtain ⟨N, T, a, b, hF⟩ := h
  obtain ⟨hW, hA, ⟨kn, kt, krc, ktl, ktf⟩, ⟨hrc, hN⟩, hrl, him, hac, hx, hmd, hix, hseg⟩ := id hF
  have hab := hA.ab
  refine (tm_Tu_spare hW hA kn kt y1 (by omega) (by omega) y2 (by omega) (by omega) y3 (by omega) (by omega)).conseq (fun r w2 h => ?_)
  obtain ⟨rfl, v, rfl, -⟩ := h
  exact ⟨⟨v, rfl⟩, N, T, a, b, hF⟩
set_option maxRecDepth 4000 in
theorem ci_trade {w : ab_W} {S : ls_S} {wm : ab_W} (h : ci_I w S wm) (y1 : Int) (hy1 : ab_in y1) : ab_Mt g_G g_rs mt_Tu_trade 4 0 0 [ab_R 0, ab_I y1] w (ci_Q S wm) := by
  obtain ⟨x, ix, mk, tf, tl, rc⟩ := S
  obtain ⟨N, T, a, b, hF⟩ := h
  obtain ⟨hW, hA, ⟨kn, kt, krc, ktl, ktf⟩, ⟨hrc, hN⟩, hrl, him, hac, hx, hmd, hix, hseg⟩ := id hF
  have hab := hA.ab
  refine (tm_Tu_trade hW hA kn kt y1 (by omega) (by omega)).conseq (fun r w2 h => ?_)
  obtain ⟨hW2, v, rfl, hf, -⟩ := h
  exact ⟨⟨v, rfl⟩, ci_keep hF hW2 (fun p j hK => hf p j (by omega)) (hac.fr (fun k => hf _ k (by omega)) (fun k => hf _ k (by omega)) (fun k => hf _ k (by omega)))⟩
set_option maxRecDepth 4000 in
theorem ci_turned {w : ab_W} {S : ls_S} {wm : ab_W} (h : ci_I w S wm) (y1 : Int) (hy1 : ab_in y1) : ab_Mt g_G g_rs mt_Tu_turned 4 0 0 [ab_R 0, ab_I y1] w (ci_Q S wm) := by
  obtain ⟨x, ix, mk, tf, tl, rc⟩ := S
  obtain ⟨N, T, a, b, hF⟩ := h
  obtain ⟨hW, hA, ⟨kn, kt, krc, ktl, ktf⟩, ⟨hrc, hN⟩, hrl, him, hac, hx, hmd, hix, hseg⟩ := id hF
  have hab := hA.ab
  refine (tm_Tu_turned hW hA kn kt y1 (by omega) (by omega)).conseq (fun r w2 h => ?_)
  obtain ⟨hW2, v, rfl, hf, -⟩ := h
  exact ⟨⟨v, rfl⟩, ci_keep hF hW2 (fun p j hK => hf p j (by omega)) (hac.fr (fun k => hf _ k (by omega)) (fun k => hf _ k (by omega)) (fun k => hf _ k (by omega)))⟩
set_option maxRecDepth 4000 in
theorem ci_look {w : ab_W} {S : ls_S} {wm : ab_W} (h : ci_I w S wm) (y1 : Int) (hy1 : ab_in y1) (y2 : Int) (hy2 : ab_in y2) : ab_Mt g_G g_rs mt_Tu_look 4 0 0 [ab_R 0, ab_I y1, ab_I y2] w (ci_Q S wm) := by
  obtain ⟨x, ix, mk, tf, tl, rc⟩ := S
  obtain ⟨N, T, a, b, hF⟩ := h
  obtain ⟨hW, hA, ⟨kn, kt, krc, ktl, ktf⟩, ⟨hrc, hN⟩, hrl, him, hac, hx, hmd, hix, hseg⟩ := id hF
  have hab := hA.ab
  refine (tm_Tu_look hW hA kn kt y1 (by omega) (by omega) y2 (by omega) (by omega)).conseq (fun r w2 h => ?_)
  obtain ⟨hW2, v, rfl, hf, -⟩ := h
  exact ⟨⟨v, rfl⟩, ci_keep hF hW2 (fun p j hK => hf p j (by omega)) (hac.fr (fun k => hf _ k (by omega)) (fun k => hf _ k (by omega)) (fun k => hf _ k (by omega)))⟩
set_option maxRecDepth 4000 in
theorem ci_days {w : ab_W} {S : ls_S} {wm : ab_W} (h : ci_I w S wm) (y1 : Int) (hy1 : ab_in y1) (y2 : Int) (hy2 : ab_in y2) (y3 : Int) (hy3 : ab_in y3) (y4 : Int) (hy4 : ab_in y4) : ab_Mt g_G g_rs mt_Tu_days 3 0 0 [ab_R 0, ab_I y1, ab_I y2, ab_I y3, ab_I y4] w (ci_Q S wm) := by
  obtain ⟨x, ix, mk, tf, tl, rc⟩ := S
  obtain ⟨N, T, a, b, hF⟩ := h
  obtain ⟨hW, hA, ⟨kn, kt, krc, ktl, ktf⟩, ⟨hrc, hN⟩, hrl, him, hac, hx, hmd, hix, hseg⟩ := id hF
  have hab := hA.ab
  refine (tm_Tu_days hW hA kn kt y1 (by omega) (by omega) y2 (by omega) (by omega) y3 (by omega) (by omega) y4 (by omega) (by omega)).conseq (fun r w2 h => ?_)
  obtain ⟨rfl, v, rfl, -⟩ := h
  exact ⟨⟨v, rfl⟩, N, T, a, b, hF⟩
set_option maxRecDepth 4000 in
theorem ci_hour {w : ab_W} {S : ls_S} {wm : ab_W} (h : ci_I w S wm) : ab_Mt g_G g_rs mt_Tu_hour 2 0 0 [ab_R 0] w (ci_Q S wm) := by
  obtain ⟨x, ix, mk, tf, tl, rc⟩ := S
  obtain ⟨N, T, a, b, hF⟩ := h
  obtain ⟨hW, hA, ⟨kn, kt, krc, ktl, ktf⟩, ⟨hrc, hN⟩, hrl, him, hac, hx, hmd, hix, hseg⟩ := id hF
  have hab := hA.ab
  refine (tm_Tu_hour hW hA kn kt hac).conseq (fun r w2 h => ?_)
  obtain ⟨hW2, v, rfl, hf, -, -, hac2⟩ := h
  exact ⟨⟨v, rfl⟩, ci_keep hF hW2 (fun p j hK => hf p j (by omega)) hac2⟩
set_option maxRecDepth 4000 in
theorem ci_rate {w : ab_W} {S : ls_S} {wm : ab_W} (h : ci_I w S wm) (y1 : Int) (hy1 : ab_in y1) (y2 : Int) (hy2 : ab_in y2) : ab_Mt g_G g_rs mt_Tu_rate 2 0 0 [ab_R 0, ab_I y1, ab_I y2] w (ci_Q S wm) := by
  obtain ⟨x, ix, mk, tf, tl, rc⟩ := S
  obtain ⟨N, T, a, b, hF⟩ := h
  obtain ⟨hW, hA, ⟨kn, kt, krc, ktl, ktf⟩, ⟨hrc, hN⟩, hrl, him, hac, hx, hmd, hix, hseg⟩ := id hF
  have hab := hA.ab
  refine (tm_Tu_rate hW hA kn kt y1 (by omega) (by omega) y2 (by omega) (by omega) hac).conseq (fun r w2 h => ?_)
  obtain ⟨hW2, v, rfl, hf, -, -, hac2⟩ := h
  exact ⟨⟨v, rfl⟩, ci_keep hF hW2 (fun p j hK => hf p j (by omega)) hac2⟩
set_option maxRecDepth 4000 in
theorem ci_swap {w : ab_W} {S : ls_S} {wm : ab_W} (h : ci_I w S wm) (y1 : Int) (hy1 : ab_in y1) (y2 : Int) (hy2 : ab_in y2) : ab_Mt g_G g_rs mt_Tu_swap 2 0 0 [ab_R 0, ab_I y1, ab_I y2] w (ci_Q S wm) := by
  obtain ⟨x, ix, mk, tf, tl, rc⟩ := S
  obtain ⟨N, T, a, b, hF⟩ := h
  obtain ⟨hW, hA, ⟨kn, kt, krc, ktl, ktf⟩, ⟨hrc, hN⟩, hrl, him, hac, hx, hmd, hix, hseg⟩ := id hF
  have hab := hA.ab
  refine (tm_Tu_swap hW hA kn kt y1 (by omega) (by omega) y2 (by omega) (by omega) hac).conseq (fun r w2 h => ?_)
  obtain ⟨hW2, v, rfl, hf, -, -, hac2⟩ := h
  exact ⟨⟨v, rfl⟩, ci_keep hF hW2 (fun p j hK => hf p j (by omega)) hac2⟩
set_option maxRecDepth 4000 in
theorem ci_stop {w : ab_W} {S : ls_S} {wm : ab_W} (h : ci_I w S wm) : ab_Mt g_G g_rs mt_Tu_stop 2 0 0 [ab_R 0] w (ci_Q S wm) := by
  obtain ⟨x, ix, mk, tf, tl, rc⟩ := S
  obtain ⟨N, T, a, b, hF⟩ := h
  obtain ⟨hW, hA, ⟨kn, kt, krc, ktl, ktf⟩, ⟨hrc, hN⟩, hrl, him, hac, hx, hmd, hix, hseg⟩ := id hF
  have hab := hA.ab
  refine (tm_Tu_stop hW hA kn kt hac).conseq (fun r w2 h => ?_)
  obtain ⟨hW2, v, rfl, hf, -, -, hac2⟩ := h
  exact ⟨⟨v, rfl⟩, ci_keep hF hW2 (fun p j hK => hf p j (by omega)) hac2⟩
set_option maxRecDepth 4000 in
theorem ci_undo {w : ab_W} {S : ls_S} {wm : ab_W} (h : ci_I w S wm) : ab_Mt g_G g_rs mt_Tu_undo 3 0 0 [ab_R 0] w (ci_Q S wm) := by
  obtain ⟨x, ix, mk, tf, tl, rc⟩ := S
  obtain ⟨N, T, a, b, hF⟩ := h
  obtain ⟨hW, hA, ⟨kn, kt, krc, ktl, ktf⟩, ⟨hrc, hN⟩, hrl, him, hac, hx, hmd, hix, hseg⟩ := id hF
  have hab := hA.ab
  refine (tm_Tu_undo hW hA kn kt hac).conseq (fun r w2 h => ?_)
  obtain ⟨hW2, v, rfl, hf, -⟩ := h
  exact ⟨⟨v, rfl⟩, ci_keep hF hW2 (fun p j hK => hf p j (by omega)) (hac.fr (fun k => hf _ k (by omega)) (fun k => hf _ k (by omega)) (fun k => hf _ k (by omega)))⟩
set_option maxRecDepth 4000 in
theorem ci_run {w : ab_W} {S : ls_S} {wm : ab_W} (h : ci_I w S wm) (y1 : Int) (hy1 : ab_in y1) (y2 : Int) (hy2 : ab_in y2) : ab_Mt g_G g_rs mt_Tu_run 6 0 0 [ab_R 0, ab_I y1, ab_I y2] w (ci_Q S wm) := by
  obtain ⟨x, ix, mk, tf, tl, rc⟩ := S
  obtain ⟨N, T, a, b, hF⟩ := h
  obtain ⟨hW, hA, ⟨kn, kt, krc, ktl, ktf⟩, ⟨hrc, hN⟩, hrl, him, hac, hx, hmd, hix, hseg⟩ := id hF
  have hab := hA.ab
  refine (tm_Tu_run hW hA kn kt y1 (by omega) (by omega) y2 (by omega) (by omega) rc krc (fun j h0 h1 => by obtain ⟨q, n, k1, k2, -⟩ := hrl j h0 h1; exact ⟨q, n, k1, k2⟩)).conseq (fun r w2 h => ?_)
  obtain ⟨hW2, v, rfl, hf, -⟩ := h
  exact ⟨⟨v, rfl⟩, ci_keep hF hW2 (fun p j hK => hf p j (by omega)) (hac.fr (fun k => hf _ k (by omega)) (fun k => hf _ k (by omega)) (fun k => hf _ k (by omega)))⟩
set_option maxRecDepth 4000 in
theorem ci_apart {w : ab_W} {S : ls_S} {wm : ab_W} (h : ci_I w S wm) (y1 : Int) (hy1 : ab_in y1) (y2 : Int) (hy2 : ab_in y2) (y3 : Int) (hy3 : ab_in y3) (y4 : Int) (hy4 : ab_in y4) (y5 : Int) (hy5 : ab_in y5) : ab_Mt g_G g_rs mt_Tu_apart 7 0 0 [ab_R 0, ab_I y1, ab_I y2, ab_I y3, ab_I y4, ab_I y5] w (ci_Q S wm) := by
  obtain ⟨x, ix, mk, tf, tl, rc⟩ := S
  obtain ⟨N, T, a, b, hF⟩ := h
  obtain ⟨hW, hA, ⟨kn, kt, krc, ktl, ktf⟩, ⟨hrc, hN⟩, hrl, him, hac, hx, hmd, hix, hseg⟩ := id hF
  have hab := hA.ab
  refine (tm_Tu_apart hW hA kn kt y1 (by omega) (by omega) y2 (by omega) (by omega) y3 (by omega) (by omega) y4 (by omega) (by omega) y5 (by omega) (by omega) rc krc (fun j h0 h1 => by obtain ⟨q, n, k1, k2, -⟩ := hrl j h0 h1; exact ⟨q, n, k1, k2⟩)).conseq (fun r w2 h => ?_)
  obtain ⟨hW2, v, rfl, hf, -⟩ := h
  exact ⟨⟨v, rfl⟩, ci_keep hF hW2 (fun p j hK => hf p j (by omega)) (hac.fr (fun k => hf _ k (by omega)) (fun k => hf _ k (by omega)) (fun k => hf _ k (by omega)))⟩
set_option maxRecDepth 4000 in
theorem ci_plan {w : ab_W} {S : ls_S} {wm : ab_W} (h : ci_I w S wm) (y1 : Int) (hy1 : ab_in y1) (y2 : Int) (hy2 : y2 = 0 ∨ y2 = 1) (y3 : Int) (hy3 : ab_in y3) : ab_Mt g_G g_rs mt_Tu_plan 4 0 0 [ab_R 0, ab_I y1, ab_I y2, ab_I y3] w (ci_Q S wm) := by
  obtain ⟨x, ix, mk, tf, tl, rc⟩ := S
  obtain ⟨N, T, a, b, hF⟩ := h
  obtain ⟨hW, hA, ⟨kn, kt, krc, ktl, ktf⟩, ⟨hrc, hN⟩, hrl, him, hac, hx, hmd, hix, hseg⟩ := id hF
  have hab := hA.ab
  refine (tm_Tu_plan hW hA kn kt y1 (by omega) (by omega) y2 (by omega) (by omega) y3 (by omega) (by omega)).conseq (fun r w2 h => ?_)
  obtain ⟨hW2, v, rfl, hf, -⟩ := h
  exact ⟨⟨v, rfl⟩, ci_keep hF hW2 (fun p j hK => hf p j (by omega)) (hac.fr (fun k => hf _ k (by omega)) (fun k => hf _ k (by omega)) (fun k => hf _ k (by omega)))⟩
set_option maxRecDepth 4000 in
theorem ci_diary {w : ab_W} {S : ls_S} {wm : ab_W} (h : ci_I w S wm) (y1 : Int) (hy1 : ab_in y1) (y2 : Int) (hy2 : ab_in y2) (y3 : Int) (hy3 : ab_in y3) (y4 : Int) (hy4 : y4 = 0 ∨ y4 = 1) : ab_Mt g_G g_rs mt_Tu_diary 1 0 0 [ab_R 0, ab_I y1, ab_I y2, ab_I y3, ab_I y4] w (ci_Q S wm) := by
  obtain ⟨x, ix, mk, tf, tl, rc⟩ := S
  obtain ⟨N, T, a, b, hF⟩ := h
  obtain ⟨hW, hA, ⟨kn, kt, krc, ktl, ktf⟩, ⟨hrc, hN⟩, hrl, him, hac, hx, hmd, hix, hseg⟩ := id hF
  have hab := hA.ab
  refine (tm_Tu_diary hW hA kn kt y1 (by omega) (by omega) y2 (by omega) (by omega) y3 (by omega) (by omega) y4 (by omega) (by omega)).conseq (fun r w2 h => ?_)
  obtain ⟨hW2, v, rfl, hf, -⟩ := h
  exact ⟨⟨v, rfl⟩, ci_keep hF hW2 (fun p j hK => hf p j (by omega)) (hac.fr (fun k => hf _ k (by omega)) (fun k => hf _ k (by omega)) (fun k => hf _ k (by omega)))⟩
set_option maxRecDepth 4000 in
theorem ci_seed {w : ab_W} {S : ls_S} {wm : ab_W} (h : ci_I w S wm) (y1 : Int) (hy1 : ab_in y1) : ab_Mt g_G g_rs mt_Tu_seed 0 0 0 [ab_R 0, ab_I y1] w (ci_A (la_seed S y1) (ls_seed S y1) wm) := by
  obtain ⟨x, ix, mk, tf, tl, rc⟩ := S
  obtain ⟨N, T, a, b, hF⟩ := h
  obtain ⟨hW, hA, ⟨kn, kt, krc, ktl, ktf⟩, ⟨hrc, hN⟩, hrl, him, hac, hx, hmd, hix, hseg⟩ := id hF
  have hab := hA.ab
  refine (tm_Tu_seed hW hA kn kt y1 (by omega) (by omega) x hx).conseq (fun r w2 h => ?_)
  obtain ⟨hW2, v, rfl, hf, x1, kx1, hvl, hvu, hp1, hp2⟩ := h
  have e : v = (if y1 < 0 then -1 else x) ∧ x1 = (if y1 < 0 then x else y1) := by split <;> omega
  obtain ⟨e1, e2⟩ := e
  have hvb : ab_in v := by omega
  show some (ab_I v) = some (ab_I (if y1 < 0 then -1 else x)) ∧ ab_in (if y1 < 0 then -1 else x) ∧ ci_I w2 ⟨if y1 < 0 then x else y1, ix, mk, tf, tl, rc⟩ wm
  rw [← e1, ← e2]
  refine ⟨rfl, hvb, N, T, a, b, hW2, hA, ⟨(hf 0 1 (by omega)).trans kn, (hf 0 2 (by omega)).trans kt, (hf 0 6 (by omega)).trans krc, (hf 1 1 (by omega)).trans ktl, fun j => (hf 2 j (by omega)).trans (ktf j)⟩, ⟨hrc, hN⟩, fun j j0 j1 => ?_, fun j j0 j1 => ?_, (hac.fr (fun k => hf _ k (by omega)) (fun k => hf _ k (by omega)) (fun k => hf _ k (by omega))), kx1, fun j j0 j1 => (hf 30 j (by omega)).trans (hmd j j0 j1), fun j j0 j1 ik e => (hf ik 6 (by omega)).trans (hix j j0 j1 ik e), hseg⟩
  · obtain ⟨q, n, k1, k2⟩ := hrl j j0 j1
    exact ⟨q, n, (hf 31 j (by omega)).trans k1, k2⟩
  · obtain ⟨ik, k1, k2⟩ := him j j0 j1
    exact ⟨ik, (hf 29 j (by omega)).trans k1, k2⟩
set_option maxRecDepth 4000 in
theorem ci_ring {w : ab_W} {S : ls_S} {wm : ab_W} (h : ci_I w S wm) (rd0 : Int → Int) : ab_Mt g_G g_rs mt_Tu_ring 10 0 0 [ab_R 0] w (ci_A (la_ring S rd0) (ls_ring S) wm) := by
  obtain ⟨x, ix, mk, tf, tl, rc⟩ := S
  obtain ⟨N, T, a, b, hF⟩ := h
  obtain ⟨hW, hA, ⟨kn, kt, krc, ktl, ktf⟩, ⟨hrc, hN⟩, hrl, him, hac, hx, hmd, hix, hseg⟩ := id hF
  have hab := hA.ab
  refine (tz_Tu_ring hW hA kn kt tl ktl ktf rd0).conseq (fun r w2 h => ?_)
  obtain ⟨hW2, v, rfl, hf, lv, uv, ⟨a2, b2, hab2, k1, k2, k3⟩, kl0, ev⟩ := h
  have eA : v = la_ring ⟨x, ix, mk, tf, tl, rc⟩ rd0 := ev
  rw [← eA]
  have hA2 : is_C T a2 b2 := by
    rcases hab2 with ⟨rfl, rfl⟩ | ⟨rfl, rfl⟩
    · exact hA
    · exact hA.swap
  refine ⟨rfl, ⟨lv, uv⟩, N, T, a2, b2, hW2, hA2, ⟨k1, k2, (hf 0 6 (by omega)).trans krc, kl0, fun j => (hf 2 j (by omega)).trans (ktf j)⟩, ⟨hrc, hN⟩, fun j j0 j1 => ?_, fun j j0 j1 => ?_, (hac.fr (fun k => hf _ k (by omega)) (fun k => hf _ k (by omega)) (fun k => hf _ k (by omega))), k3.trans hx, fun j j0 j1 => (hf 30 j (by omega)).trans (hmd j j0 j1), fun j j0 j1 ik e => (hf ik 6 (by omega)).trans (hix j j0 j1 ik e), hseg⟩
  · obtain ⟨q, n, k1, k2⟩ := hrl j j0 j1
    exact ⟨q, n, (hf 31 j (by omega)).trans k1, k2⟩
  · obtain ⟨ik, k1, k2⟩ := him j j0 j1
    exact ⟨ik, (hf 29 j (by omega)).trans k1, k2⟩
set_option maxRecDepth 4000 in
theorem ci_image {w : ab_W} {S : ls_S} {wm : ab_W} (h : ci_I w S wm) (y1 : Int) (hy1 : ab_in y1) : ab_Mt g_G g_rs mt_Tu_image 3 0 0 [ab_R 0, ab_I y1] w (ci_Q (ls_image S y1) wm) := by
  obtain ⟨x, ix, mk, tf, tl, rc⟩ := S
  obtain ⟨N, T, a, b, hF⟩ := h
  obtain ⟨hW, hA, ⟨kn, kt, krc, ktl, ktf⟩, ⟨hrc, hN⟩, hrl, him, hac, hx, hmd, hix, hseg⟩ := id hF
  have hab := hA.ab
  refine (tm_Tu_image hW hA kn kt y1 (by omega) (by omega) him).conseq (fun r w2 h => ?_)
  obtain ⟨hW2, v, rfl, hf, -, -, hp⟩ := h
  refine ⟨⟨v, rfl⟩, N, T, a, b, hW2, hA, ⟨(hf 0 1 (by omega)).trans kn, (hf 0 2 (by omega)).trans kt, (hf 0 6 (by omega)).trans krc, (hf 1 1 (by omega)).trans ktl, fun j => (hf 2 j (by omega)).trans (ktf j)⟩, ⟨hrc, hN⟩, fun j j0 j1 => ?_, fun j j0 j1 => ?_, (hac.fr (fun k => hf _ k (by omega)) (fun k => hf _ k (by omega)) (fun k => hf _ k (by omega))), (hf a 6 (by omega)).trans hx, fun j j0 j1 => ?_, fun j j0 j1 ik e => ?_, hseg⟩
  · obtain ⟨q, n, k1, k2⟩ := hrl j j0 j1
    exact ⟨q, n, (hf 31 j (by omega)).trans k1, k2⟩
  · obtain ⟨ik, k1, k2⟩ := him j j0 j1
    exact ⟨ik, (hf 29 j (by omega)).trans k1, k2⟩
  · by_cases g : 0 ≤ y1 ∧ y1 ≤ 3
    · rw [if_pos g]
      by_cases ej : j = y1
      · subst ej; rw [ab_upe]; exact (hp g).2
      · rw [ab_upn _ _ ej]; exact (hf 30 j (by omega)).trans (hmd j j0 j1)
    · rw [if_neg g]; exact (hf 30 j (by omega)).trans (hmd j j0 j1)
  · by_cases g : 0 ≤ y1 ∧ y1 ≤ 3
    · rw [if_pos g]
      by_cases ej : j = y1
      · subst ej; rw [ab_upe]; exact ((hp g).1 ik e).trans hx
      · rw [ab_upn _ _ ej]; exact (hf ik 6 (by omega)).trans (hix j j0 j1 ik e)
    · rw [if_neg g]; exact (hf ik 6 (by omega)).trans (hix j j0 j1 ik e)
set_option maxRecDepth 4000 in
theorem ci_back {w : ab_W} {S : ls_S} {wm : ab_W} (h : ci_I w S wm) (hmk : ∀ j, 0 ≤ j → j ≤ 3 → S.2.2.1 j = 0 ∨ S.2.2.1 j = 1) (y1 : Int) (hy1 : ab_in y1) : ab_Mt g_G g_rs mt_Tu_back 3 0 0 [ab_R 0, ab_I y1] w (ci_Q (ls_back S y1) wm) := by
  obtain ⟨x, ix, mk, tf, tl, rc⟩ := S
  obtain ⟨N, T, a, b, hF⟩ := h
  obtain ⟨hW, hA, ⟨kn, kt, krc, ktl, ktf⟩, ⟨hrc, hN⟩, hrl, him, hac, hx, hmd, hix, hseg⟩ := id hF
  have hab := hA.ab
  refine (tm_Tu_back hW hA kn kt y1 (by omega) (by omega) him (mk y1) (fun h0 h1 => hmd y1 h0 h1)).conseq (fun r w2 h => ?_)
  obtain ⟨hW2, v, rfl, hf, -, -, hp⟩ := h
  refine ⟨⟨v, rfl⟩, N, T, a, b, hW2, hA, ⟨(hf 0 1 (by omega)).trans kn, (hf 0 2 (by omega)).trans kt, (hf 0 6 (by omega)).trans krc, (hf 1 1 (by omega)).trans ktl, fun j => (hf 2 j (by omega)).trans (ktf j)⟩, ⟨hrc, hN⟩, fun j j0 j1 => ?_, fun j j0 j1 => ?_, (hac.fr (fun k => hf _ k (by omega)) (fun k => hf _ k (by omega)) (fun k => hf _ k (by omega))), ?_, fun j j0 j1 => (hf 30 j (by omega)).trans (hmd j j0 j1), fun j j0 j1 ik e => (hf ik 6 (by omega)).trans (hix j j0 j1 ik e), hseg⟩
  · obtain ⟨q, n, k1, k2⟩ := hrl j j0 j1
    exact ⟨q, n, (hf 31 j (by omega)).trans k1, k2⟩
  · obtain ⟨ik, k1, k2⟩ := him j j0 j1
    exact ⟨ik, (hf 29 j (by omega)).trans k1, k2⟩
  · by_cases g : (0 ≤ y1 ∧ y1 ≤ 3) ∧ mk y1 = 1
    · rw [if_pos g]
      obtain ⟨ik, k1, k2, k3⟩ := him y1 g.1.1 (by omega)
      exact (hp (by omega) ik k3).trans (hix y1 g.1.1 g.1.2 ik k3)
    · rw [if_neg g]
      refine (hf a 6 (fun z => g ?_)).trans hx
      obtain ⟨⟨z1, z2, z3⟩, -⟩ := z
      rcases hmk y1 z1 z2 with m0 | m1
      · exact absurd m0 z3
      · exact ⟨⟨z1, z2⟩, m1⟩
set_option maxRecDepth 4000 in
theorem ci_feed {w : ab_W} {S : ls_S} {wm : ab_W} (h : ci_I w S wm) (y1 : Int) (hy1 : ab_in y1) (y2 : Int) (hy2 : ab_in y2) (y3 : Int) (hy3 : ab_in y3) (y4 : Int) (hy4 : ab_in y4) (y5 : Int) (hy5 : ab_in y5) : ab_Mt g_G g_rs mt_Tu_feed 1 0 0 [ab_R 0, ab_I y1, ab_I y2, ab_I y3, ab_I y4, ab_I y5] w (ci_A (la_feed S) (ls_feed S y1 y2 y3 y4 y5) wm) := by
  obtain ⟨x, ix, mk, tf, tl, rc⟩ := S
  obtain ⟨N, T, a, b, hF⟩ := h
  obtain ⟨hW, hA, ⟨kn, kt, krc, ktl, ktf⟩, ⟨hrc, hN⟩, hrl, him, hac, hx, hmd, hix, hseg⟩ := id hF
  have hab := hA.ab
  have hL0 : 0 ≤ tl ∧ tl ≤ 400 := tm_kb (k := 1) (K := 1) hW hA.2.2.2.2.1.1 rfl rfl ktl
  refine (ty_Tu_feed hW hA kn kt y1 (by omega) (by omega) y2 (by omega) (by omega) y3 (by omega) (by omega) y4 (by omega) (by omega) y5 (by omega) (by omega) tl ktl ktf).conseq (fun r w2 h => ?_)
  obtain ⟨hW2, v, rfl, hf, e1, k1, k2⟩ := h
  show some (ab_I v) = some (ab_I (if tl ≤ 380 then tl + 4 + 4 + 4 + 4 + 4 else -1)) ∧ ab_in (if tl ≤ 380 then tl + 4 + 4 + 4 + 4 + 4 else -1) ∧ _
  refine ⟨by rw [e1], by split <;> omega, N, T, a, b, hW2, hA, ⟨(hf 0 1 (by omega)).trans kn, (hf 0 2 (by omega)).trans kt, (hf 0 6 (by omega)).trans krc, k1, k2⟩, ⟨hrc, hN⟩, fun j j0 j1 => ?_, fun j j0 j1 => ?_, (hac.fr (fun k => hf _ k (by omega)) (fun k => hf _ k (by omega)) (fun k => hf _ k (by omega))), (hf a 6 (by omega)).trans hx, fun j j0 j1 => (hf 30 j (by omega)).trans (hmd j j0 j1), fun j j0 j1 ik e => (hf ik 6 (by omega)).trans (hix j j0 j1 ik e), hseg⟩
  · obtain ⟨q, n, k1, k2⟩ := hrl j j0 j1
    exact ⟨q, n, (hf 31 j (by omega)).trans k1, k2⟩
  · obtain ⟨ik, k1, k2⟩ := him j j0 j1
    exact ⟨ik, (hf 29 j (by omega)).trans k1, k2⟩
set_option maxRecDepth 4000 in
theorem ci_end {w : ab_W} {S : ls_S} {wm : ab_W} (h : ci_I w S wm) (y1 : Int) (hy1 : ab_in y1) : ab_Mt g_G g_rs mt_Tu_end 0 0 0 [ab_R 0, ab_I y1] w (ci_A (la_end S y1) (ls_end S y1) wm) := by
  obtain ⟨x, ix, mk, tf, tl, rc⟩ := S
  obtain ⟨N, T, a, b, hF⟩ := h
  obtain ⟨hW, hA, ⟨kn, kt, krc, ktl, ktf⟩, ⟨hrc, hN⟩, hrl, him, hac, hx, hmd, hix, hseg⟩ := id hF
  have hab := hA.ab
  refine (ty_Tu_end hW hA kn kt y1 (by omega) (by omega) tl ktl).conseq (fun r w2 h => ?_)
  obtain ⟨hW2, v, rfl, hf, L1, k1, hvl, hvu, e1, e2⟩ := h
  show some (ab_I v) = some (ab_I (if 0 ≤ y1 ∧ y1 ≤ tl then y1 else -1)) ∧ ab_in (if 0 ≤ y1 ∧ y1 ≤ tl then y1 else -1) ∧ _
  refine ⟨by rw [e1], by rw [← e1]; omega, N, T, a, b, hW2, hA, ⟨(hf 0 1 (by omega)).trans kn, (hf 0 2 (by omega)).trans kt, (hf 0 6 (by omega)).trans krc, by rw [k1, e2], fun j => (hf 2 j (by omega)).trans (ktf j)⟩, ⟨hrc, hN⟩, fun j j0 j1 => ?_, fun j j0 j1 => ?_, (hac.fr (fun k => hf _ k (by omega)) (fun k => hf _ k (by omega)) (fun k => hf _ k (by omega))), (hf a 6 (by omega)).trans hx, fun j j0 j1 => (hf 30 j (by omega)).trans (hmd j j0 j1), fun j j0 j1 ik e => (hf ik 6 (by omega)).trans (hix j j0 j1 ik e), hseg⟩
  · obtain ⟨q, n, k1, k2⟩ := hrl j j0 j1
    exact ⟨q, n, (hf 31 j (by omega)).trans k1, k2⟩
  · obtain ⟨ik, k1, k2⟩ := him j j0 j1
    exact ⟨ik, (hf 29 j (by omega)).trans k1, k2⟩
set_option maxRecDepth 4000 in
theorem ci_rule {w : ab_W} {S : ls_S} {wm : ab_W} (h : ci_I w S wm) : ab_Mt g_G g_rs mt_Tu_rule 36 2 401 [ab_R 0] w (ci_A (la_rule S) (ls_rule S) wm) := by
  obtain ⟨x, ix, mk, tf, tl, rc⟩ := S
  obtain ⟨N, T, a, b, hF⟩ := h
  obtain ⟨hW, hA, ⟨kn, kt, krc, ktl, ktf⟩, ⟨hrc, hN⟩, hrl, him, hac, hx, hmd, hix, hseg⟩ := id hF
  have hab := hA.ab
  have hE : (a_all tf 2 tl (0, tk_sk tf tl 0, 0, [])).1 = ru_er tf tl := by
    have hT : is_Ta T 1 := hA.2.2.2.2.1
    have hL0 : 0 ≤ tl ∧ tl ≤ 400 := tm_kb (k := 1) (K := 1) hW hT.1 rfl rfl ktl
    have h := all_tie (f := tf) hL0.1 hL0.2 (tx_fb hW hT.2 ktf)
    unfold ru_er
    rcases hq : c_rall tf tl with e | ⟨c3, ks⟩
    · rw [hq] at h
      exact h.2
    · rw [hq] at h
      exact h.1
  refine (ty_Tu_rule hW hA kn kt rc krc tl ktl ktf hrl (by omega) (by omega)).conseq (fun r w2 h => ?_)
  obtain ⟨N2, T2, v, rc2, L2, rfl, hW2, hT, hf, krc2, kL2, ⟨hr1, hr2, hN2⟩, hrl2, hvb, p1, p2, p3, p4⟩ := h
  rw [hE] at p3 p4
  have e1 : la_rule ⟨x, ix, mk, tf, tl, rc⟩ = v := by
    show (if 6 ≤ rc then -1 else if ru_er tf tl = 0 then rc else -2 - ru_er tf tl) = v
    split
    · rename_i c; exact (p1 c).1.symm
    · rename_i c
      split
      · rename_i d; exact (p4 (by omega) d).1.symm
      · rename_i d; exact (p3 (by omega) d).1.symm
  have e2 : ls_rule ⟨x, ix, mk, tf, tl, rc⟩ = ⟨x, ix, mk, tf, L2, rc2⟩ := by
    show (if 6 ≤ rc then _ else if ru_er tf tl = 0 then _ else _) = _
    split
    · rename_i c; rw [(p1 c).2.1, (p1 c).2.2]
    · rename_i c
      have z := p2 (by omega)
      split
      · rename_i d; rw [(p4 (by omega) d).2.1, z]
      · rename_i d; rw [(p3 (by omega) d).2, z]
  rw [e1, e2]
  refine ⟨rfl, hvb, N2, T2, a, b, hW2, hA.cong (fun p hp => hT p (by omega)), ⟨(hf 0 1 (by omega) (by omega)).trans kn, (hf 0 2 (by omega) (by omega)).trans kt, krc2, kL2, fun j => (hf 2 j (by omega) (by omega)).trans (ktf j)⟩, ⟨⟨by omega, hr2⟩, by omega⟩, hrl2, fun j j0 j1 => ?_, hac.fr (fun k => hf _ k (by omega) (by omega)) (fun k => hf _ k (by omega) (by omega)) (fun k => hf _ k (by omega) (by omega)), (hf a 6 (by omega) (by omega)).trans hx, fun j j0 j1 => (hf 30 j (by omega) (by omega)).trans (hmd j j0 j1), fun j j0 j1 ik e => (hf ik 6 (by omega) (by omega)).trans (hix j j0 j1 ik e), fun i e hi => ?_⟩
  · obtain ⟨ik, k1, k2, k3⟩ := him j j0 j1
    exact ⟨ik, (hf 29 j (by omega) (by omega)).trans k1, k2.cong (fun p h1 h2 => hT p (by omega)), k3⟩
  · have hs := hseg i e hi
    have hlt : 107 + i < N := by
      have h3 := hW.2.1 (107 + i)
      rw [hs] at h3
      have := tm_lt h3
      rw [hW.1] at this
      exact this
    exact (hT _ hlt).trans hs
theorem ab_shE_ok {o n m : Nat} {e : ab_E} (h : ab_okE n e) (hm : o + n ≤ m) : ab_okE m (ab_shE o e) := by
  rcases e with ⟨t, k, f⟩ | ⟨k, f⟩ | ⟨t, k, f⟩ | ⟨c, fs⟩
  · trivial
  · trivial
  · intro j i hi
    have hi : (f j).map (fun i => if i < ab_sb then o + i else i) = some i := hi
    rcases hfj : f j with _ | i0
    · rw [hfj] at hi; cases hi
    · rw [hfj] at hi
      have hi : some (if i0 < ab_sb then o + i0 else i0) = some i := hi
      injection hi with hi
      rcases h j i0 hfj with h1 | h1
      · split at hi <;> omega
      · rw [if_neg (by omega)] at hi; right; omega
  · intro v hv
    have hv : v ∈ fs.map (ab_shV o) := hv
    obtain ⟨u, hu, rfl⟩ := List.mem_map.mp hv
    have h2 := h u hu
    rcases u with a | a | _ | i
    · trivial
    · trivial
    · trivial
    · show (if i < ab_sb then o + i else i) < m ∨ ab_sb ≤ (if i < ab_sb then o + i else i)
      rcases h2 with h1 | h1
      · split <;> omega
      · rw [if_neg (by omega)]; exact Or.inr h1
theorem ci_seg {w : ab_W} {S : ls_S} {wm : ab_W} (h : ci_I w S wm) : ∀ (i : Nat) (e : ab_E), wm[i]? = some e → w[107 + i]? = some (ab_shE 107 e) := by
  obtain ⟨x, ix, mk, tf, tl, rc⟩ := S
  obtain ⟨N, T, a, b, hF⟩ := h
  obtain ⟨hW, hA, -, -, -, -, -, -, -, -, hseg⟩ := hF
  intro i e hi
  have h3 := hW.2.1 (107 + i)
  rw [hseg i e hi] at h3
  exact h3
theorem ci_len {w : ab_W} {S : ls_S} {wm : ab_W} (h : ci_I w S wm) : 129 ≤ w.length ∧ w.length ≤ 141 ∧ ab_okW w := by
  obtain ⟨x, ix, mk, tf, tl, rc⟩ := S
  obtain ⟨N, T, a, b, hF⟩ := h
  obtain ⟨hW, hA, -, ⟨hrc, hN⟩, -⟩ := hF
  have := hW.1
  exact ⟨by omega, by omega, hW.2.2⟩
theorem ci_obj {w : ab_W} {S : ls_S} {wm : ab_W} (h : ci_I w S wm) : ∃ fs, w[0]? = some (ab_ob 10 fs) := by
  obtain ⟨x, ix, mk, tf, tl, rc⟩ := S
  obtain ⟨N, T, a, b, hF⟩ := h
  obtain ⟨hW, hA, -⟩ := hF
  obtain ⟨vs, hc, -⟩ := tm_cell hW hA.1
  exact ⟨vs, hc⟩
theorem tm_g_put {o p : Nat} {j : Int} {v B : ab_W} (h : ¬ (o ≤ p ∧ p < o + v.length)) : tm_g (ab_put o v B) p j = tm_g B p j := by
  unfold tm_g; rw [ab_put_out h]
theorem ci_put {w : ab_W} {S : ls_S} {wm wm2 : ab_W} (h : ci_I w S wm) (h1 : wm.length = 22) (h2 : wm2.length = 22) (hok : ab_okW wm2) : ci_I (ab_put 107 wm2 w) S wm2 := by
  have hseg0 := ci_seg h
  obtain ⟨x, ix, mk, tf, tl, rc⟩ := S
  obtain ⟨N, T, a, b, hF⟩ := h
  obtain ⟨hW, hA, ⟨kn, kt, krc, ktl, ktf⟩, ⟨hrc, hN⟩, hrl, him, hac, hx, hmd, hix, hseg⟩ := hF
  have hab := hA.ab
  have hwl := hW.1
  have hB : ∀ i, i < 22 → ∃ E, w[107 + i]? = some E := fun i hi => ⟨_, List.getElem?_eq_getElem (by omega)⟩
  have hg : ∀ (p : Nat) (j : Int), ¬ (107 ≤ p ∧ p < 129) → tm_g (ab_put 107 wm2 w) p j = tm_g w p j := fun p j hp => tm_g_put (by rw [h2]; omega)
  obtain ⟨T3, hT3⟩ : ∃ T3 : Nat → tm_S, T3 = fun p => if 107 ≤ p ∧ p < 129 then (fun c => c = (wm2[p - 107]?).map (ab_shE 107)) else T p := ⟨_, rfl⟩
  have hTo : ∀ p, ¬ (107 ≤ p ∧ p < 129) → T3 p = T p := fun p hp => by rw [hT3]; exact if_neg hp
  have hTi : ∀ (i : Nat) (e : ab_E), wm2[i]? = some e → T3 (107 + i) = fun c => c = some (ab_shE 107 e) := fun i e hi => by
    have := tm_lt hi
    rw [hT3]
    show (if 107 ≤ 107 + i ∧ 107 + i < 129 then (fun c => c = (wm2[107 + i - 107]?).map (ab_shE 107)) else T (107 + i)) = _
    rw [if_pos (by omega), show 107 + i - 107 = i by omega, hi]
    rfl
  have hW3 : tm_W N T3 (ab_put 107 wm2 w) := by
    refine ⟨by rw [ab_put_len]; exact hW.1, fun p => ?_, fun e he => ?_⟩
    · by_cases hp : 107 ≤ p ∧ p < 129
      · obtain ⟨i, rfl⟩ : ∃ i, p = 107 + i := ⟨p - 107, by omega⟩
        obtain ⟨e, he⟩ : ∃ e, wm2[i]? = some e := ⟨_, List.getElem?_eq_getElem (by omega)⟩
        obtain ⟨E, hE⟩ := hB i (by omega)
        rw [hTi i e he]
        exact ab_put_in he hE
      · rw [hTo p hp, ab_put_out (by rw [h2]; omega)]
        exact hW.2.1 p
    · rw [ab_put_len]
      obtain ⟨p, hp⟩ := List.mem_iff_getElem?.mp he
      by_cases hin : 107 ≤ p ∧ p < 129
      · obtain ⟨i, rfl⟩ : ∃ i, p = 107 + i := ⟨p - 107, by omega⟩
        obtain ⟨e', he'⟩ : ∃ e, wm2[i]? = some e := ⟨_, List.getElem?_eq_getElem (by omega)⟩
        obtain ⟨E, hE⟩ := hB i (by omega)
        rw [ab_put_in he' hE] at hp
        obtain rfl := Option.some.inj hp
        have h3 := hok _ (List.mem_of_getElem? he')
        rw [h2] at h3
        exact ab_shE_ok h3 (by omega)
      · rw [ab_put_out (by rw [h2]; omega)] at hp
        exact hW.2.2 e (List.mem_of_getElem? hp)
  refine ⟨N, T3, a, b, hW3, hA.cong (fun p hp => hTo p (by omega)), ⟨(hg 0 1 (by omega)).trans kn, (hg 0 2 (by omega)).trans kt, (hg 0 6 (by omega)).trans krc, (hg 1 1 (by omega)).trans ktl, fun j => (hg 2 j (by omega)).trans (ktf j)⟩, ⟨hrc, hN⟩, fun j j0 j1 => ?_, fun j j0 j1 => ?_, hac.fr (fun k => hg _ k (by omega)) (fun k => hg _ k (by omega)) (fun k => hg _ k (by omega)), (hg a 6 (by omega)).trans hx, fun j j0 j1 => (hg 30 j (by omega)).trans (hmd j j0 j1), fun j j0 j1 ik e => (hg ik 6 (by omega)).trans (hix j j0 j1 ik e), hTi⟩
  · obtain ⟨q, n, k1, k2, k3, k4⟩ := hrl j j0 j1
    exact ⟨q, n, (hg 31 j (by omega)).trans k1, k2.cong (fun p h5 h6 => hTo p (by omega)), k3, k4⟩
  · obtain ⟨ik, k1, k2, k3⟩ := him j j0 j1
    exact ⟨ik, (hg 29 j (by omega)).trans k1, k2.cong (fun p h5 h6 => hTo p (by omega)), k3⟩
theorem mi_len {c : Int} {S : ls_S} {wm : ab_W} (h : mi_I c S wm) : wm.length = 22 ∧ ab_okW wm := by
  obtain ⟨x, ix, mk, tape, taped, rules⟩ := S
  obtain ⟨sign, leng, clause, clauses, read, next, wrong, number, text, made, deep, lines, opn, opened, stack, top, word, said, was, undone, kept, sumOf, faced, slotAt, dayAt, row, bestRow, tMany, tMost, drawX, images, rfl, -⟩ := h
  exact ⟨rfl, ab_okW_of rfl⟩
theorem mi_mk {c : Int} {S : ls_S} {wm : ab_W} (h : mi_I c S wm) : ∀ j, 0 ≤ j → j ≤ 3 → S.2.2.1 j = 0 ∨ S.2.2.1 j = 1 := by
  obtain ⟨x, ix, mk, tape, taped, rules⟩ := S
  obtain ⟨sign, leng, clause, clauses, read, next, wrong, number, text, made, deep, lines, opn, opened, stack, top, word, said, was, undone, kept, sumOf, faced, slotAt, dayAt, row, bestRow, tMany, tMost, drawX, images, rfl, -, -, -, -, -, -, h7, -⟩ := h
  exact h7
