/-! the cells of a Ring, each told -/
def rgc (o : Nat) (told : Int) (an : Int) (hr : Int) (dy : Int) (sp : Int) (ss : Int) (x : Int) (ho : Int) (si : Int) (ga : Int) (sl : Int → Int) (fs : Int → Int) (vo : Int → Int) (li : Int → Int) (vw : Int → Int64) (ra : Int → Int) (wo : Int → Int) (dl : Int) (dh : Int → Int) (da : Int → Int) (ds : Int → Int) (dn : Int → Int) (w : ab_W) : Prop := w[o]? = some (ab_ob 5 [ab_I told, ab_I an, ab_I hr, ab_I dy, ab_I sp, ab_I ss, ab_I x, ab_I ho, ab_I si, ab_I ga, ab_R (o + 1), ab_R (o + 2), ab_R (o + 3), ab_R (o + 4), ab_R (o + 5), ab_R (o + 6), ab_R (o + 7), ab_R (o + 8)]) ∧ w[o + 1]? = some (ab_ai 0 7 sl) ∧ w[o + 2]? = some (ab_ai 0 7 fs) ∧ w[o + 3]? = some (ab_ai 0 7 vo) ∧ w[o + 4]? = some (ab_ai 0 35 li) ∧ w[o + 5]? = some (ab_al 24 vw) ∧ w[o + 6]? = some (ab_ai 0 24 ra) ∧ w[o + 7]? = some (ab_ai 0 12 wo) ∧ w[o + 8]? = some (ab_ob 1 [ab_I (dl), ab_R (o + 9), ab_R (o + 10), ab_R (o + 11), ab_R (o + 12)]) ∧ w[o + 9]? = some (ab_ai 0 10 dh) ∧ w[o + 10]? = some (ab_ai 0 10 da) ∧ w[o + 11]? = some (ab_ai 0 10 ds) ∧ w[o + 12]? = some (ab_ai 0 10 dn)
theorem ab_gn {w : ab_W} {i j : Nat} {e : Option ab_E} {E : ab_E} (h : w[j]? = e) (hn : i ≠ j) : (w.set i E)[j]? = e := by rw [List.getElem?_set_ne hn]; exact h
def fr_at (o n : Nat) (w w2 : ab_W) : Prop := w2.length = w.length ∧ ∀ i, (i < o ∨ o + n ≤ i) → w2[i]? = w[i]?
theorem fr_0 {o n : Nat} {w : ab_W} : fr_at o n w w := ⟨rfl, fun _ _ => rfl⟩
theorem fr_set {o n i : Nat} {w w2 : ab_W} {E : ab_E} (h : fr_at o n w w2) (h0 : o ≤ i) (h1 : i < o + n) : fr_at o n w (w2.set i E) := ⟨by rw [List.length_set]; exact h.1, fun j hj => by rw [List.getElem?_set_ne (by omega)]; exact h.2 j hj⟩
theorem ev_gen {G : ab_G} {rs : List String} {M : ab_M} {d bc bs pc : Nat} {l : ab_L} {st : List ab_V} {w : ab_W} {Q : Option ab_V → ab_W → Prop} {P : ab_W → Prop} (h : P w) (k : ∀ w1, P w1 → ab_Ev G rs M d bc bs pc l st w1 Q) : ab_Ev G rs M d bc bs pc l st w Q := k w h
theorem rgc_o {o : Nat} {told : Int} {an : Int} {hr : Int} {dy : Int} {sp : Int} {ss : Int} {x : Int} {ho : Int} {si : Int} {ga : Int} {sl : Int → Int} {fs : Int → Int} {vo : Int → Int} {li : Int → Int} {vw : Int → Int64} {ra : Int → Int} {wo : Int → Int} {dl : Int} {dh : Int → Int} {da : Int → Int} {ds : Int → Int} {dn : Int → Int} {w : ab_W} {told2 : Int} {an2 : Int} {hr2 : Int} {dy2 : Int} {sp2 : Int} {ss2 : Int} {x2 : Int} {ho2 : Int} {si2 : Int} {ga2 : Int} (h : (rgc o told an hr dy sp ss x ho si ga sl fs vo li vw ra wo dl dh da ds dn w)) : (rgc o (told2) (an2) (hr2) (dy2) (sp2) (ss2) (x2) (ho2) (si2) (ga2) sl fs vo li vw ra wo dl dh da ds dn (w.set o (ab_ob 5 [ab_I (told2), ab_I (an2), ab_I (hr2), ab_I (dy2), ab_I (sp2), ab_I (ss2), ab_I (x2), ab_I (ho2), ab_I (si2), ab_I (ga2), ab_R (o + 1), ab_R (o + 2), ab_R (o + 3), ab_R (o + 4), ab_R (o + 5), ab_R (o + 6), ab_R (o + 7), ab_R (o + 8)]))) := by obtain ⟨q0, q1, q2, q3, q4, q5, q6, q7, q8, q9, q10, q11, q12⟩ := h; exact ⟨(ab_gs q0), (ab_gn q1 (by omega)), (ab_gn q2 (by omega)), (ab_gn q3 (by omega)), (ab_gn q4 (by omega)), (ab_gn q5 (by omega)), (ab_gn q6 (by omega)), (ab_gn q7 (by omega)), (ab_gn q8 (by omega)), (ab_gn q9 (by omega)), (ab_gn q10 (by omega)), (ab_gn q11 (by omega)), (ab_gn q12 (by omega))⟩
theorem rgc_sl {o : Nat} {told : Int} {an : Int} {hr : Int} {dy : Int} {sp : Int} {ss : Int} {x : Int} {ho : Int} {si : Int} {ga : Int} {sl : Int → Int} {fs : Int → Int} {vo : Int → Int} {li : Int → Int} {vw : Int → Int64} {ra : Int → Int} {wo : Int → Int} {dl : Int} {dh : Int → Int} {da : Int → Int} {ds : Int → Int} {dn : Int → Int} {w : ab_W} {sl2 : Int → Int} (h : (rgc o told an hr dy sp ss x ho si ga sl fs vo li vw ra wo dl dh da ds dn w)) : (rgc o told an hr dy sp ss x ho si ga (sl2) fs vo li vw ra wo dl dh da ds dn (w.set (o + 1) (ab_ai 0 7 sl2))) := by obtain ⟨q0, q1, q2, q3, q4, q5, q6, q7, q8, q9, q10, q11, q12⟩ := h; exact ⟨(ab_gn q0 (by omega)), (ab_gs q1), (ab_gn q2 (by omega)), (ab_gn q3 (by omega)), (ab_gn q4 (by omega)), (ab_gn q5 (by omega)), (ab_gn q6 (by omega)), (ab_gn q7 (by omega)), (ab_gn q8 (by omega)), (ab_gn q9 (by omega)), (ab_gn q10 (by omega)), (ab_gn q11 (by omega)), (ab_gn q12 (by omega))⟩
theorem rgc_fs {o : Nat} {told : Int} {an : Int} {hr : Int} {dy : Int} {sp : Int} {ss : Int} {x : Int} {ho : Int} {si : Int} {ga : Int} {sl : Int → Int} {fs : Int → Int} {vo : Int → Int} {li : Int → Int} {vw : Int → Int64} {ra : Int → Int} {wo : Int → Int} {dl : Int} {dh : Int → Int} {da : Int → Int} {ds : Int → Int} {dn : Int → Int} {w : ab_W} {fs2 : Int → Int} (h : (rgc o told an hr dy sp ss x ho si ga sl fs vo li vw ra wo dl dh da ds dn w)) : (rgc o told an hr dy sp ss x ho si ga sl (fs2) vo li vw ra wo dl dh da ds dn (w.set (o + 2) (ab_ai 0 7 fs2))) := by obtain ⟨q0, q1, q2, q3, q4, q5, q6, q7, q8, q9, q10, q11, q12⟩ := h; exact ⟨(ab_gn q0 (by omega)), (ab_gn q1 (by omega)), (ab_gs q2), (ab_gn q3 (by omega)), (ab_gn q4 (by omega)), (ab_gn q5 (by omega)), (ab_gn q6 (by omega)), (ab_gn q7 (by omega)), (ab_gn q8 (by omega)), (ab_gn q9 (by omega)), (ab_gn q10 (by omega)), (ab_gn q11 (by omega)), (ab_gn q12 (by omega))⟩
theorem rgc_vo {o : Nat} {told : Int} {an : Int} {hr : Int} {dy : Int} {sp : Int} {ss : Int} {x : Int} {ho : Int} {si : Int} {ga : Int} {sl : Int → Int} {fs : Int → Int} {vo : Int → Int} {li : Int → Int} {vw : Int → Int64} {ra : Int → Int} {wo : Int → Int} {dl : Int} {dh : Int → Int} {da : Int → Int} {ds : Int → Int} {dn : Int → Int} {w : ab_W} {vo2 : Int → Int} (h : (rgc o told an hr dy sp ss x ho si ga sl fs vo li vw ra wo dl dh da ds dn w)) : (rgc o told an hr dy sp ss x ho si ga sl fs (vo2) li vw ra wo dl dh da ds dn (w.set (o + 3) (ab_ai 0 7 vo2))) := by obtain ⟨q0, q1, q2, q3, q4, q5, q6, q7, q8, q9, q10, q11, q12⟩ := h; exact ⟨(ab_gn q0 (by omega)), (ab_gn q1 (by omega)), (ab_gn q2 (by omega)), (ab_gs q3), (ab_gn q4 (by omega)), (ab_gn q5 (by omega)), (ab_gn q6 (by omega)), (ab_gn q7 (by omega)), (ab_gn q8 (by omega)), (ab_gn q9 (by omega)), (ab_gn q10 (by omega)), (ab_gn q11 (by omega)), (ab_gn q12 (by omega))⟩
theorem rgc_li {o : Nat} {told : Int} {an : Int} {hr : Int} {dy : Int} {sp : Int} {ss : Int} {x : Int} {ho : Int} {si : Int} {ga : Int} {sl : Int → Int} {fs : Int → Int} {vo : Int → Int} {li : Int → Int} {vw : Int → Int64} {ra : Int → Int} {wo : Int → Int} {dl : Int} {dh : Int → Int} {da : Int → Int} {ds : Int → Int} {dn : Int → Int} {w : ab_W} {li2 : Int → Int} (h : (rgc o told an hr dy sp ss x ho si ga sl fs vo li vw ra wo dl dh da ds dn w)) : (rgc o told an hr dy sp ss x ho si ga sl fs vo (li2) vw ra wo dl dh da ds dn (w.set (o + 4) (ab_ai 0 35 li2))) := by obtain ⟨q0, q1, q2, q3, q4, q5, q6, q7, q8, q9, q10, q11, q12⟩ := h; exact ⟨(ab_gn q0 (by omega)), (ab_gn q1 (by omega)), (ab_gn q2 (by omega)), (ab_gn q3 (by omega)), (ab_gs q4), (ab_gn q5 (by omega)), (ab_gn q6 (by omega)), (ab_gn q7 (by omega)), (ab_gn q8 (by omega)), (ab_gn q9 (by omega)), (ab_gn q10 (by omega)), (ab_gn q11 (by omega)), (ab_gn q12 (by omega))⟩
theorem rgc_vw {o : Nat} {told : Int} {an : Int} {hr : Int} {dy : Int} {sp : Int} {ss : Int} {x : Int} {ho : Int} {si : Int} {ga : Int} {sl : Int → Int} {fs : Int → Int} {vo : Int → Int} {li : Int → Int} {vw : Int → Int64} {ra : Int → Int} {wo : Int → Int} {dl : Int} {dh : Int → Int} {da : Int → Int} {ds : Int → Int} {dn : Int → Int} {w : ab_W} {vw2 : Int → Int64} (h : (rgc o told an hr dy sp ss x ho si ga sl fs vo li vw ra wo dl dh da ds dn w)) : (rgc o told an hr dy sp ss x ho si ga sl fs vo li (vw2) ra wo dl dh da ds dn (w.set (o + 5) (ab_al 24 vw2))) := by obtain ⟨q0, q1, q2, q3, q4, q5, q6, q7, q8, q9, q10, q11, q12⟩ := h; exact ⟨(ab_gn q0 (by omega)), (ab_gn q1 (by omega)), (ab_gn q2 (by omega)), (ab_gn q3 (by omega)), (ab_gn q4 (by omega)), (ab_gs q5), (ab_gn q6 (by omega)), (ab_gn q7 (by omega)), (ab_gn q8 (by omega)), (ab_gn q9 (by omega)), (ab_gn q10 (by omega)), (ab_gn q11 (by omega)), (ab_gn q12 (by omega))⟩
theorem rgc_ra {o : Nat} {told : Int} {an : Int} {hr : Int} {dy : Int} {sp : Int} {ss : Int} {x : Int} {ho : Int} {si : Int} {ga : Int} {sl : Int → Int} {fs : Int → Int} {vo : Int → Int} {li : Int → Int} {vw : Int → Int64} {ra : Int → Int} {wo : Int → Int} {dl : Int} {dh : Int → Int} {da : Int → Int} {ds : Int → Int} {dn : Int → Int} {w : ab_W} {ra2 : Int → Int} (h : (rgc o told an hr dy sp ss x ho si ga sl fs vo li vw ra wo dl dh da ds dn w)) : (rgc o told an hr dy sp ss x ho si ga sl fs vo li vw (ra2) wo dl dh da ds dn (w.set (o + 6) (ab_ai 0 24 ra2))) := by obtain ⟨q0, q1, q2, q3, q4, q5, q6, q7, q8, q9, q10, q11, q12⟩ := h; exact ⟨(ab_gn q0 (by omega)), (ab_gn q1 (by omega)), (ab_gn q2 (by omega)), (ab_gn q3 (by omega)), (ab_gn q4 (by omega)), (ab_gn q5 (by omega)), (ab_gs q6), (ab_gn q7 (by omega)), (ab_gn q8 (by omega)), (ab_gn q9 (by omega)), (ab_gn q10 (by omega)), (ab_gn q11 (by omega)), (ab_gn q12 (by omega))⟩
theorem rgc_wo {o : Nat} {told : Int} {an : Int} {hr : Int} {dy : Int} {sp : Int} {ss : Int} {x : Int} {ho : Int} {si : Int} {ga : Int} {sl : Int → Int} {fs : Int → Int} {vo : Int → Int} {li : Int → Int} {vw : Int → Int64} {ra : Int → Int} {wo : Int → Int} {dl : Int} {dh : Int → Int} {da : Int → Int} {ds : Int → Int} {dn : Int → Int} {w : ab_W} {wo2 : Int → Int} (h : (rgc o told an hr dy sp ss x ho si ga sl fs vo li vw ra wo dl dh da ds dn w)) : (rgc o told an hr dy sp ss x ho si ga sl fs vo li vw ra (wo2) dl dh da ds dn (w.set (o + 7) (ab_ai 0 12 wo2))) := by obtain ⟨q0, q1, q2, q3, q4, q5, q6, q7, q8, q9, q10, q11, q12⟩ := h; exact ⟨(ab_gn q0 (by omega)), (ab_gn q1 (by omega)), (ab_gn q2 (by omega)), (ab_gn q3 (by omega)), (ab_gn q4 (by omega)), (ab_gn q5 (by omega)), (ab_gn q6 (by omega)), (ab_gs q7), (ab_gn q8 (by omega)), (ab_gn q9 (by omega)), (ab_gn q10 (by omega)), (ab_gn q11 (by omega)), (ab_gn q12 (by omega))⟩
theorem rgc_dh {o : Nat} {told : Int} {an : Int} {hr : Int} {dy : Int} {sp : Int} {ss : Int} {x : Int} {ho : Int} {si : Int} {ga : Int} {sl : Int → Int} {fs : Int → Int} {vo : Int → Int} {li : Int → Int} {vw : Int → Int64} {ra : Int → Int} {wo : Int → Int} {dl : Int} {dh : Int → Int} {da : Int → Int} {ds : Int → Int} {dn : Int → Int} {w : ab_W} {dh2 : Int → Int} (h : (rgc o told an hr dy sp ss x ho si ga sl fs vo li vw ra wo dl dh da ds dn w)) : (rgc o told an hr dy sp ss x ho si ga sl fs vo li vw ra wo dl (dh2) da ds dn (w.set (o + 9) (ab_ai 0 10 dh2))) := by obtain ⟨q0, q1, q2, q3, q4, q5, q6, q7, q8, q9, q10, q11, q12⟩ := h; exact ⟨(ab_gn q0 (by omega)), (ab_gn q1 (by omega)), (ab_gn q2 (by omega)), (ab_gn q3 (by omega)), (ab_gn q4 (by omega)), (ab_gn q5 (by omega)), (ab_gn q6 (by omega)), (ab_gn q7 (by omega)), (ab_gn q8 (by omega)), (ab_gs q9), (ab_gn q10 (by omega)), (ab_gn q11 (by omega)), (ab_gn q12 (by omega))⟩
theorem rgc_da {o : Nat} {told : Int} {an : Int} {hr : Int} {dy : Int} {sp : Int} {ss : Int} {x : Int} {ho : Int} {si : Int} {ga : Int} {sl : Int → Int} {fs : Int → Int} {vo : Int → Int} {li : Int → Int} {vw : Int → Int64} {ra : Int → Int} {wo : Int → Int} {dl : Int} {dh : Int → Int} {da : Int → Int} {ds : Int → Int} {dn : Int → Int} {w : ab_W} {da2 : Int → Int} (h : (rgc o told an hr dy sp ss x ho si ga sl fs vo li vw ra wo dl dh da ds dn w)) : (rgc o told an hr dy sp ss x ho si ga sl fs vo li vw ra wo dl dh (da2) ds dn (w.set (o + 10) (ab_ai 0 10 da2))) := by obtain ⟨q0, q1, q2, q3, q4, q5, q6, q7, q8, q9, q10, q11, q12⟩ := h; exact ⟨(ab_gn q0 (by omega)), (ab_gn q1 (by omega)), (ab_gn q2 (by omega)), (ab_gn q3 (by omega)), (ab_gn q4 (by omega)), (ab_gn q5 (by omega)), (ab_gn q6 (by omega)), (ab_gn q7 (by omega)), (ab_gn q8 (by omega)), (ab_gn q9 (by omega)), (ab_gs q10), (ab_gn q11 (by omega)), (ab_gn q12 (by omega))⟩
theorem rgc_ds {o : Nat} {told : Int} {an : Int} {hr : Int} {dy : Int} {sp : Int} {ss : Int} {x : Int} {ho : Int} {si : Int} {ga : Int} {sl : Int → Int} {fs : Int → Int} {vo : Int → Int} {li : Int → Int} {vw : Int → Int64} {ra : Int → Int} {wo : Int → Int} {dl : Int} {dh : Int → Int} {da : Int → Int} {ds : Int → Int} {dn : Int → Int} {w : ab_W} {ds2 : Int → Int} (h : (rgc o told an hr dy sp ss x ho si ga sl fs vo li vw ra wo dl dh da ds dn w)) : (rgc o told an hr dy sp ss x ho si ga sl fs vo li vw ra wo dl dh da (ds2) dn (w.set (o + 11) (ab_ai 0 10 ds2))) := by obtain ⟨q0, q1, q2, q3, q4, q5, q6, q7, q8, q9, q10, q11, q12⟩ := h; exact ⟨(ab_gn q0 (by omega)), (ab_gn q1 (by omega)), (ab_gn q2 (by omega)), (ab_gn q3 (by omega)), (ab_gn q4 (by omega)), (ab_gn q5 (by omega)), (ab_gn q6 (by omega)), (ab_gn q7 (by omega)), (ab_gn q8 (by omega)), (ab_gn q9 (by omega)), (ab_gn q10 (by omega)), (ab_gs q11), (ab_gn q12 (by omega))⟩
theorem rgc_dn {o : Nat} {told : Int} {an : Int} {hr : Int} {dy : Int} {sp : Int} {ss : Int} {x : Int} {ho : Int} {si : Int} {ga : Int} {sl : Int → Int} {fs : Int → Int} {vo : Int → Int} {li : Int → Int} {vw : Int → Int64} {ra : Int → Int} {wo : Int → Int} {dl : Int} {dh : Int → Int} {da : Int → Int} {ds : Int → Int} {dn : Int → Int} {w : ab_W} {dn2 : Int → Int} (h : (rgc o told an hr dy sp ss x ho si ga sl fs vo li vw ra wo dl dh da ds dn w)) : (rgc o told an hr dy sp ss x ho si ga sl fs vo li vw ra wo dl dh da ds (dn2) (w.set (o + 12) (ab_ai 0 10 dn2))) := by obtain ⟨q0, q1, q2, q3, q4, q5, q6, q7, q8, q9, q10, q11, q12⟩ := h; exact ⟨(ab_gn q0 (by omega)), (ab_gn q1 (by omega)), (ab_gn q2 (by omega)), (ab_gn q3 (by omega)), (ab_gn q4 (by omega)), (ab_gn q5 (by omega)), (ab_gn q6 (by omega)), (ab_gn q7 (by omega)), (ab_gn q8 (by omega)), (ab_gn q9 (by omega)), (ab_gn q10 (by omega)), (ab_gn q11 (by omega)), (ab_gs q12)⟩
theorem rgc_dl {o : Nat} {told : Int} {an : Int} {hr : Int} {dy : Int} {sp : Int} {ss : Int} {x : Int} {ho : Int} {si : Int} {ga : Int} {sl : Int → Int} {fs : Int → Int} {vo : Int → Int} {li : Int → Int} {vw : Int → Int64} {ra : Int → Int} {wo : Int → Int} {dl : Int} {dh : Int → Int} {da : Int → Int} {ds : Int → Int} {dn : Int → Int} {w : ab_W} {dl2 : Int} (h : (rgc o told an hr dy sp ss x ho si ga sl fs vo li vw ra wo dl dh da ds dn w)) : (rgc o told an hr dy sp ss x ho si ga sl fs vo li vw ra wo (dl2) dh da ds dn (w.set (o + 8) (ab_ob 1 [ab_I (dl2), ab_R (o + 9), ab_R (o + 10), ab_R (o + 11), ab_R (o + 12)]))) := by obtain ⟨q0, q1, q2, q3, q4, q5, q6, q7, q8, q9, q10, q11, q12⟩ := h; exact ⟨(ab_gn q0 (by omega)), (ab_gn q1 (by omega)), (ab_gn q2 (by omega)), (ab_gn q3 (by omega)), (ab_gn q4 (by omega)), (ab_gn q5 (by omega)), (ab_gn q6 (by omega)), (ab_gn q7 (by omega)), (ab_gs q8), (ab_gn q9 (by omega)), (ab_gn q10 (by omega)), (ab_gn q11 (by omega)), (ab_gn q12 (by omega))⟩
theorem sp_sorts_c {f g : Int → Int} (d h : Int) : ∀ k : Nat, (∀ j, 95 ≤ j → j < 95 + 4 * (k : Int) → g j = f j) → sp_sorts g d h k = sp_sorts f d h k
  | 0, _ => rfl
  | k + 1, hj => by
    have ih := sp_sorts_c (f := f) (g := g) d h k (fun j a b => hj j a (by omega))
    unfold sp_sorts
    rw [ih, hj (95 + 4 * (k : Int)) (by omega) (by omega), hj (95 + 4 * (k : Int) + 1) (by omega) (by omega), hj (95 + 4 * (k : Int) + 2) (by omega) (by omega), hj (95 + 4 * (k : Int) + 3) (by omega) (by omega)]
theorem sp_sortsAt_c {f g : Int → Int} (d h : Int) (h2 : f 2 ≤ 12) (hj : ∀ j, (1 ≤ j ∧ j < 4) ∨ 46 ≤ j → g j = f j) : sp_sortsAt g d h = sp_sortsAt f d h := by
  unfold sp_sortsAt
  rw [hj 2 (by omega)]
  exact sp_sorts_c d h _ (fun j a b => hj j (by omega))
def cs_on (f : Int → Int) : Int → Int := if f 5 + 1 < 24 then ab_up f 5 (f 5 + 1) else ab_up (ab_up f 5 0) 6 (if f 6 + 1 < 999 then f 6 + 1 else 999)
def cs_passAt (r : Int) (f : Int → Int) : Int → Int := cs_on (sp_turns (sp_by (sp_n f r)) (ab_up f 7 0) (sp_n f r).natAbs)
theorem sp_turns_j (b : Int) (f : Int → Int) (hf : 0 ≤ f 4 ∧ f 4 ≤ 11) : ∀ k : Nat, (0 ≤ sp_turns b f k 4 ∧ sp_turns b f k 4 ≤ 11) ∧ ∀ j, j ≠ 4 → (j < 34 ∨ 46 ≤ j) → sp_turns b f k j = f j
  | 0 => ⟨hf, fun _ _ _ => rfl⟩
  | k + 1 => by
    have ih := sp_turns_j b f hf k
    refine ⟨?_, fun j h1 h2 => ?_⟩
    · show 0 ≤ sp_step b (sp_turns b f k) 4 ∧ sp_step b (sp_turns b f k) 4 ≤ 11
      unfold sp_step
      rw [ab_upe]
      omega
    · show sp_step b (sp_turns b f k) j = f j
      unfold sp_step
      rw [ab_upn _ _ h1, ab_upn _ _ (by omega)]
      exact ih.2 j h1 h2
theorem de_Ri_passHour_0 : decode prog_7_method_27_code 0 = .ok (.aload_n 0, 1) := by decide +kernel
theorem de_Ri_passHour_1 : decode prog_7_method_27_code 1 = .ok (.getfield 55, 3) := by decide +kernel
theorem de_Ri_passHour_4 : decode prog_7_method_27_code 4 = .ok (.ifCond .eq 7, 3) := by decide +kernel
theorem de_Ri_passHour_7 : decode prog_7_method_27_code 7 = .ok (.iconst 0, 1) := by decide +kernel
theorem de_Ri_passHour_8 : decode prog_7_method_27_code 8 = .ok (.goto 4, 3) := by decide +kernel
theorem de_Ri_passHour_11 : decode prog_7_method_27_code 11 = .ok (.iload_n 1, 1) := by decide +kernel
theorem de_Ri_passHour_12 : decode prog_7_method_27_code 12 = .ok (.istore_n 2, 1) := by decide +kernel
theorem de_Ri_passHour_13 : decode prog_7_method_27_code 13 = .ok (.iload_n 2, 1) := by decide +kernel
theorem de_Ri_passHour_14 : decode prog_7_method_27_code 14 = .ok (.ifCond .ge 7, 3) := by decide +kernel
theorem de_Ri_passHour_17 : decode prog_7_method_27_code 17 = .ok (.iconst (-1), 1) := by decide +kernel
theorem de_Ri_passHour_18 : decode prog_7_method_27_code 18 = .ok (.goto 4, 3) := by decide +kernel
theorem de_Ri_passHour_21 : decode prog_7_method_27_code 21 = .ok (.iconst 1, 1) := by decide +kernel
theorem de_Ri_passHour_22 : decode prog_7_method_27_code 22 = .ok (.istore_n 3, 1) := by decide +kernel
theorem de_Ri_passHour_23 : decode prog_7_method_27_code 23 = .ok (.iload_n 2, 1) := by decide +kernel
theorem de_Ri_passHour_24 : decode prog_7_method_27_code 24 = .ok (.invokestatic 140, 3) := by decide +kernel
theorem de_Ri_passHour_27 : decode prog_7_method_27_code 27 = .ok (.istore 4, 2) := by decide +kernel
theorem de_Ri_passHour_29 : decode prog_7_method_27_code 29 = .ok (.iload 4, 2) := by decide +kernel
theorem de_Ri_passHour_31 : decode prog_7_method_27_code 31 = .ok (.ifCond .le 35, 3) := by decide +kernel
theorem de_Ri_passHour_34 : decode prog_7_method_27_code 34 = .ok (.aload_n 0, 1) := by decide +kernel
theorem de_Ri_passHour_35 : decode prog_7_method_27_code 35 = .ok (.getfield 31, 3) := by decide +kernel
theorem de_Ri_passHour_38 : decode prog_7_method_27_code 38 = .ok (.aload_n 0, 1) := by decide +kernel
theorem de_Ri_passHour_39 : decode prog_7_method_27_code 39 = .ok (.getfield 45, 3) := by decide +kernel
theorem de_Ri_passHour_42 : decode prog_7_method_27_code 42 = .ok (.dup2, 1) := by decide +kernel
theorem de_Ri_passHour_43 : decode prog_7_method_27_code 43 = .ok (.iaload, 1) := by decide +kernel
theorem de_Ri_passHour_44 : decode prog_7_method_27_code 44 = .ok (.iconst 1, 1) := by decide +kernel
theorem de_Ri_passHour_45 : decode prog_7_method_27_code 45 = .ok (.iadd, 1) := by decide +kernel
theorem de_Ri_passHour_46 : decode prog_7_method_27_code 46 = .ok (.iastore, 1) := by decide +kernel
theorem de_Ri_passHour_47 : decode prog_7_method_27_code 47 = .ok (.aload_n 0, 1) := by decide +kernel
theorem de_Ri_passHour_48 : decode prog_7_method_27_code 48 = .ok (.aload_n 0, 1) := by decide +kernel
theorem de_Ri_passHour_49 : decode prog_7_method_27_code 49 = .ok (.getfield 45, 3) := by decide +kernel
theorem de_Ri_passHour_52 : decode prog_7_method_27_code 52 = .ok (.iload_n 3, 1) := by decide +kernel
theorem de_Ri_passHour_53 : decode prog_7_method_27_code 53 = .ok (.iadd, 1) := by decide +kernel
theorem de_Ri_passHour_54 : decode prog_7_method_27_code 54 = .ok (.invokestatic 131, 3) := by decide +kernel
theorem de_Ri_passHour_57 : decode prog_7_method_27_code 57 = .ok (.putfield 45, 3) := by decide +kernel
theorem de_Ri_passHour_60 : decode prog_7_method_27_code 60 = .ok (.iinc 4 (-1), 3) := by decide +kernel
theorem de_Ri_passHour_63 : decode prog_7_method_27_code 63 = .ok (.goto (-34), 3) := by decide +kernel
theorem de_Ri_passHour_66 : decode prog_7_method_27_code 66 = .ok (.aload_n 0, 1) := by decide +kernel
theorem de_Ri_passHour_67 : decode prog_7_method_27_code 67 = .ok (.iconst 0, 1) := by decide +kernel
theorem de_Ri_passHour_68 : decode prog_7_method_27_code 68 = .ok (.putfield 55, 3) := by decide +kernel
theorem de_Ri_passHour_71 : decode prog_7_method_27_code 71 = .ok (.aload_n 0, 1) := by decide +kernel
theorem de_Ri_passHour_72 : decode prog_7_method_27_code 72 = .ok (.dup, 1) := by decide +kernel
theorem de_Ri_passHour_73 : decode prog_7_method_27_code 73 = .ok (.getfield 49, 3) := by decide +kernel
theorem de_Ri_passHour_76 : decode prog_7_method_27_code 76 = .ok (.iconst 1, 1) := by decide +kernel
theorem de_Ri_passHour_77 : decode prog_7_method_27_code 77 = .ok (.iadd, 1) := by decide +kernel
theorem de_Ri_passHour_78 : decode prog_7_method_27_code 78 = .ok (.putfield 49, 3) := by decide +kernel
theorem de_Ri_passHour_81 : decode prog_7_method_27_code 81 = .ok (.aload_n 0, 1) := by decide +kernel
theorem de_Ri_passHour_82 : decode prog_7_method_27_code 82 = .ok (.getfield 49, 3) := by decide +kernel
theorem de_Ri_passHour_85 : decode prog_7_method_27_code 85 = .ok (.bipush 24, 2) := by decide +kernel
theorem de_Ri_passHour_87 : decode prog_7_method_27_code 87 = .ok (.if_icmp .ne 24, 3) := by decide +kernel
theorem de_Ri_passHour_90 : decode prog_7_method_27_code 90 = .ok (.aload_n 0, 1) := by decide +kernel
theorem de_Ri_passHour_91 : decode prog_7_method_27_code 91 = .ok (.iconst 0, 1) := by decide +kernel
theorem de_Ri_passHour_92 : decode prog_7_method_27_code 92 = .ok (.putfield 49, 3) := by decide +kernel
theorem de_Ri_passHour_95 : decode prog_7_method_27_code 95 = .ok (.aload_n 0, 1) := by decide +kernel
theorem de_Ri_passHour_96 : decode prog_7_method_27_code 96 = .ok (.aload_n 0, 1) := by decide +kernel
theorem de_Ri_passHour_97 : decode prog_7_method_27_code 97 = .ok (.getfield 52, 3) := by decide +kernel
theorem de_Ri_passHour_100 : decode prog_7_method_27_code 100 = .ok (.iconst 1, 1) := by decide +kernel
theorem de_Ri_passHour_101 : decode prog_7_method_27_code 101 = .ok (.iadd, 1) := by decide +kernel
theorem de_Ri_passHour_102 : decode prog_7_method_27_code 102 = .ok (.sipush 999, 3) := by decide +kernel
theorem de_Ri_passHour_105 : decode prog_7_method_27_code 105 = .ok (.invokestatic 118, 3) := by decide +kernel
theorem de_Ri_passHour_108 : decode prog_7_method_27_code 108 = .ok (.putfield 52, 3) := by decide +kernel
theorem de_Ri_passHour_111 : decode prog_7_method_27_code 111 = .ok (.iload_n 2, 1) := by decide +kernel
theorem de_Ri_passHour_112 : decode prog_7_method_27_code 112 = .ok (.ireturn, 1) := by decide +kernel
theorem cs_on_j (g : Int → Int) {j : Int} (h5 : j ≠ 5) (h6 : j ≠ 6) : cs_on g j = g j := by
  unfold cs_on
  split
  · rw [ab_upn _ _ h5]
  · rw [ab_upn _ _ h6, ab_upn _ _ h5]
theorem cs_on_5 (g : Int → Int) : cs_on g 5 = if g 5 + 1 < 24 then g 5 + 1 else 0 := by
  unfold cs_on
  split
  · rw [ab_upe]
  · rw [ab_upn _ _ (by decide), ab_upe]
theorem cs_on_6 (g : Int → Int) : cs_on g 6 = if g 5 + 1 < 24 then g 6 else (if g 6 + 1 < 999 then g 6 + 1 else 999) := by
  unfold cs_on
  split
  · rw [ab_upn _ _ (by decide)]
  · rw [ab_upe]