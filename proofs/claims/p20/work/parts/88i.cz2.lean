/-! an ERRAND: both ways of looking for it come to the same -/
theorem way_b (a b : Int) : 0 ≤ sp_way a b := by unfold sp_way; split <;> omega
theorem lv_b (F : Int → Int) (g : Int) : ∀ (n : Nat) (t : Int), t ≤ sp_lv F g n t ∧ sp_lv F g n t ≤ t + (n : Int)
  | 0, t => by unfold sp_lv; omega
  | n + 1, t => by
    have ih := lv_b F g n (t + 1)
    unfold sp_lv
    split <;> omega
theorem lv_cg {F G : Int → Int} (g : Int) : ∀ (n : Nat) (t : Int), (∀ j, t ≤ j → j < t + (n : Int) → F j = G j) → sp_lv F g n t = sp_lv G g n t
  | 0, _, _ => rfl
  | n + 1, t, e => by
    have ih := lv_cg g n (t + 1) (fun j a b => e j (by omega) (by omega))
    unfold sp_lv
    rw [e t (by omega) (by omega), ih]
theorem bk_cg {F G : Int → Int} (gs : Nat) (g lw : Int) : ∀ (n : Nat) (t : Int), (∀ j, t ≤ j → j < t + (n : Int) → F j = G j) → sp_bk F gs g lw n t = sp_bk G gs g lw n t
  | 0, _, _ => rfl
  | n + 1, t, e => by
    have ih := bk_cg gs g lw n (t + 1) (fun j a b => e j (by omega) (by omega))
    unfold sp_bk
    rw [e t (by omega) (by omega), ih]
theorem bk_skip (F : Int → Int) (gs : Nat) (g lw : Int) (n : Nat) : ∀ (m : Nat) (t : Int), t + (m : Int) ≤ lw → sp_bk F gs g lw (m + n) t = sp_bk F gs g lw n (t + (m : Int))
  | 0, t, _ => by rw [Nat.zero_add, show t + ((0 : Nat) : Int) = t by omega]
  | m + 1, t, h => by
    have ih := bk_skip F gs g lw n m (t + 1) (by omega)
    have wb := way_b g (F t)
    rw [show m + 1 + n = (m + n) + 1 by omega]
    show (if _ then _ else _) = _
    rw [if_neg (fun z => by omega), ih, show t + 1 + (m : Int) = t + ((m + 1 : Nat) : Int) by omega]
theorem errand_eq {B : Int} {f faced : Int → Int} (hI : sg_ok B f) {h g w what : Int} (h0 : 0 ≤ h) (w0 : 0 ≤ w) (w1 : w ≤ 24) : sp_errand f (sp_fc f h faced 97) g w what = ce_e f h g w what := by
  have ec : ∀ j, 0 ≤ j → j < 97 → sp_fc f h faced 97 j = ef f h j := fun j a b => by
    unfold sp_fc ef
    rw [if_pos ⟨a, by omega⟩]
    exact pn_faces hI j.toNat h0
  have e1 : sp_lv (sp_fc f h faced 97) g 49 0 = sp_lv (ef f h) g 49 0 := lv_cg g 49 0 (fun j a b => ec j a (by omega))
  have lb := lv_b (ef f h) g 49 0
  unfold sp_errand ce_e
  rw [e1]
  generalize sp_lv (ef f h) g 49 0 = lv at lb
  by_cases z : 48 < lv
  · show (if (if 48 < lv then -1 else _) < (0 : Int) then (-2 : Int) else _) = _
    rw [if_pos z, if_pos (by decide), if_pos z]
  · have e2 : sp_bk (sp_fc f h faced 97) (f 3).toNat g (lv + w) (97 - (lv + w)).toNat (lv + w) = ce_b f h g w lv := by
      unfold ce_b
      rw [show (97 - lv).toNat = w.toNat + (97 - (lv + w)).toNat by omega, bk_skip _ _ _ _ _ _ _ (by omega), show lv + (w.toNat : Int) = lv + w by omega]
      exact bk_cg _ _ _ _ _ (fun j a b => ec j (by omega) (by omega))
    show (if (if 48 < lv then -1 else sp_bk (sp_fc f h faced 97) (f 3).toNat g (lv + w) (97 - (lv + w)).toNat (lv + w)) < (0 : Int) then (-2 : Int) else if what = 0 then lv else (if 48 < lv then -1 else sp_bk (sp_fc f h faced 97) (f 3).toNat g (lv + w) (97 - (lv + w)).toNat (lv + w))) = _
    rw [if_neg z, if_neg z, e2]
    rfl
def fa_errand : fs_S → Int → Int → Int → Int → Int
  | ⟨x, ix, im, tape, taped, rules, said, was, undone, images, ru⟩, y1, y2, y3, y4 => if (0 ≤ y1 ∧ y1 < said 1) ∧ (0 ≤ y2 ∧ y2 ≤ 11) ∧ (said 3).toNat.testBit y2.toNat = true ∧ (0 ≤ y3 ∧ y3 ≤ 24) ∧ 0 ≤ y4 ∧ y4 ≤ 1 then ce_e said y1 y2 y3 y4 else -1
set_option maxRecDepth 4000 in
theorem mz_errand {c : Int} {S : fs_S} {wm : ab_W} (hc : 0 ≤ c) (hcm : c ≤ 1000) (h : my_I c S wm) (y1 : Int) (hy1 : ab_in y1) (y2 : Int) (hy2 : ab_in y2) (y3 : Int) (hy3 : ab_in y3) (y4 : Int) (hy4 : ab_in y4) : ab_Mt g_G g_rs mt_Mo_errand 4 0 0 [ab_R 0, ab_I y1, ab_I y2, ab_I y3, ab_I y4] wm (my_A c (fa_errand S y1 y2 y3 y4) S) := by
  obtain ⟨x, ix, mk, tape, taped, rules, said, was, undone, images, ru⟩ := S
  obtain ⟨sign, leng, clause, clauses, read, next, wrong, number, hzz⟩ := h
  obtain ⟨text, made, deep, lines, opn, opened, stack, top, hzz⟩ := hzz
  obtain ⟨word, kept, sumOf, faced, slotAt, dayAt, row, bestRow, hzz⟩ := hzz
  obtain ⟨tMany, tMost, drawX, rfl, ⟨m1, m2, m3, m4, m5, m6, m7, m8, m9⟩, m10⟩ := hzz
  refine (co_Mo_errand m3.1 (by decide) y1 y2 y3 y4 hy1 hy2 hy3 hy4).conseq (fun r w2 h => ?_)
  obtain ⟨rfl, rfl⟩ := h
  have e : (if (0 ≤ y1 ∧ y1 < said 1) ∧ (0 ≤ y2 ∧ y2 ≤ 11) ∧ (said 3).toNat.testBit y2.toNat = true ∧ (0 ≤ y3 ∧ y3 ≤ 24) ∧ 0 ≤ y4 ∧ y4 ≤ 1 then sp_errand said (sp_fc said y1 faced 97) y2 y3 y4 else -1 : Int) = fa_errand ⟨x, ix, mk, tape, taped, rules, said, was, undone, images, ru⟩ y1 y2 y3 y4 := by
    show _ = (if (0 ≤ y1 ∧ y1 < said 1) ∧ (0 ≤ y2 ∧ y2 ≤ 11) ∧ (said 3).toNat.testBit y2.toNat = true ∧ (0 ≤ y3 ∧ y3 ≤ 24) ∧ 0 ≤ y4 ∧ y4 ≤ 1 then ce_e said y1 y2 y3 y4 else -1 : Int)
    by_cases g : (0 ≤ y1 ∧ y1 < said 1) ∧ (0 ≤ y2 ∧ y2 ≤ 11) ∧ (said 3).toNat.testBit y2.toNat = true ∧ (0 ≤ y3 ∧ y3 ≤ 24) ∧ 0 ≤ y4 ∧ y4 ≤ 1
    · rw [if_pos g, if_pos g]
      exact errand_eq m3.1 g.1.1 g.2.2.2.1.1 g.2.2.2.1.2
    · rw [if_neg g, if_neg g]
  rw [← e]
  exact ⟨rfl, ⟨_, _, _, _, _, _, _, _, _, _, _, _, _, _, _, _, _, _, _, _, _, _, _, _, _, _, _, rfl, ⟨m1, m2, m3.mono, m4, ⟨m5.1, m5.2.mono⟩, m6, m7, (fun j h0 h1 h2 => (m8 j h0 h1 h2).mono), m9⟩, m10⟩⟩
set_option maxRecDepth 4000 in
theorem cz_errand {w : ab_W} {S : fs_S} {wm : ab_W} {c : Int} (h : cy_I w S wm) (hok : fs_ok c S) (hcm : c ≤ 1000) (y1 : Int) (hy1 : ab_in y1) (y2 : Int) (hy2 : ab_in y2) (y3 : Int) (hy3 : ab_in y3) (y4 : Int) (hy4 : ab_in y4) : ab_Mt g_G g_rs mt_Tu_errand 2 0 0 [ab_R 0, ab_I y1, ab_I y2, ab_I y3, ab_I y4] w (cy_A (fa_errand S y1 y2 y3 y4) S wm) := by
  obtain ⟨x, ix, mk, tf, tl, rc, said, was, undone, images, ru⟩ := S
  obtain ⟨N, T, a, b, hF, hR, hag, himg, hrul⟩ := h
  obtain ⟨hW, hA, ⟨kn, kt, krc, ktl, ktf⟩, ⟨hrc, hN⟩, hrl, him, hac, hx, hmd, hix, hseg⟩ := id hF
  obtain ⟨o1, o2, o3, o4, o5, o6, o7, o8⟩ := hok
  have hab := hA.ab
  have hab2 : a = 3 ∨ a = 16 := by omega
  have t0 := tu_of hW hA kn kt krc
  have sA := sg_all o1.1
  refine (co_Tu_errand o1.1 t0 hR y1 hy1 y2 hy2 y3 hy3 y4 hy4).conseq (fun r w2 h => ?_)
  obtain ⟨rfl, rfl⟩ := h
  exact ⟨rfl, N, T, a, b, hF, hR, hag, himg, hrul⟩