/-! looking ahead: the class's ANGLE and HOUR n HOURS on, the reference's row that has turned so far -/
theorem tn_4 {b : Int} (hb : b = 1 ∨ b = -1) {f : Int → Int} (hf : 0 ≤ f 4 ∧ f 4 ≤ 11) : ∀ k : Nat, sp_turns b f k 4 = (f 4 + b * (k : Int)) % 12
  | 0 => by
    show f 4 = (f 4 + b * ((0 : Nat) : Int)) % 12
    rcases hb with rfl | rfl <;> omega
  | k + 1 => by
    have ih := tn_4 hb hf k
    show sp_step b (sp_turns b f k) 4 = _
    unfold sp_step
    rw [ab_upe, ih]
    rcases hb with rfl | rfl <;> omega
theorem tn_by (r : Int) : sp_by r = 1 ∨ sp_by r = -1 := by
  unfold sp_by
  split
  · exact Or.inr rfl
  · exact Or.inl rfl
theorem pa_4 {r : Int} {f : Int → Int} (hf : 0 ≤ f 4 ∧ f 4 ≤ 11) : sp_passAt r f 4 = if f 7 = 1 then f 4 else (f 4 + r) % 12 := by
  have e7 : ab_up f 7 0 4 = f 4 := ab_upn _ _ (by decide)
  have e := tn_4 (tn_by (sp_n f r)) (f := ab_up f 7 0) (by rw [e7]; exact hf) (sp_n f r).natAbs
  rw [e7] at e
  unfold sp_passAt
  generalize sp_turns (sp_by (sp_n f r)) (ab_up f 7 0) (sp_n f r).natAbs = g at e
  have e2 : sp_goesOn g 4 = g 4 := by
    unfold sp_goesOn
    split
    · exact ab_upn _ _ (by decide)
    · rw [ab_upn _ _ (by decide), ab_upn _ _ (by decide), ab_upn _ _ (by decide)]
  rw [e2, e]
  by_cases h7 : f 7 = 1
  · have z : sp_n f r = 0 := if_pos h7
    have z1 : sp_by 0 = 1 := by decide
    rw [if_pos h7, z, z1]
    omega
  · have z : sp_n f r = r := if_neg h7
    rw [if_neg h7, z]
    unfold sp_by
    split
    · rw [show f 4 + -1 * (r.natAbs : Int) = f 4 + r by omega]
    · rw [show f 4 + 1 * (r.natAbs : Int) = f 4 + r by omega]
theorem pa_5 {r : Int} {f : Int → Int} (hf : 0 ≤ f 4 ∧ f 4 ≤ 11) : sp_passAt r f 5 = if f 5 + 1 < 24 then f 5 + 1 else 0 := by
  have e7 : ab_up f 7 0 4 = f 4 := ab_upn _ _ (by decide)
  have t := (sp_turns_j (sp_by (sp_n f r)) (ab_up f 7 0) (by rw [e7]; exact hf) (sp_n f r).natAbs).2 5 (by decide) (Or.inl (by decide))
  rw [ab_upn _ _ (by decide)] at t
  unfold sp_passAt
  generalize sp_turns (sp_by (sp_n f r)) (ab_up f 7 0) (sp_n f r).natAbs = g at t
  unfold sp_goesOn
  rw [t]
  split
  · exact ab_upe _ _ _
  · rw [ab_upn _ _ (by decide), ab_upe]
theorem pa_7 {r : Int} {f : Int → Int} (hf : 0 ≤ f 4 ∧ f 4 ≤ 11) : sp_passAt r f 7 = 0 := by
  have e7 : ab_up f 7 0 4 = f 4 := ab_upn _ _ (by decide)
  have t := (sp_turns_j (sp_by (sp_n f r)) (ab_up f 7 0) (by rw [e7]; exact hf) (sp_n f r).natAbs).2 7 (by decide) (Or.inl (by decide))
  rw [ab_upe] at t
  unfold sp_passAt
  generalize sp_turns (sp_by (sp_n f r)) (ab_up f 7 0) (sp_n f r).natAbs = g at t
  unfold sp_goesOn
  split
  · rw [ab_upn _ _ (by decide), t]
  · rw [ab_upn _ _ (by decide), ab_upn _ _ (by decide), ab_upn _ _ (by decide), t]
theorem pa_j {r : Int} {f : Int → Int} (hf : 0 ≤ f 4 ∧ f 4 ≤ 11) {j : Int} (j4 : j ≠ 4) (j5 : j ≠ 5) (j6 : j ≠ 6) (j7 : j ≠ 7) (hr : j < 34 ∨ 46 ≤ j) : sp_passAt r f j = f j := by
  have e7 : ab_up f 7 0 4 = f 4 := ab_upn _ _ (by decide)
  have t := (sp_turns_j (sp_by (sp_n f r)) (ab_up f 7 0) (by rw [e7]; exact hf) (sp_n f r).natAbs).2 j j4 hr
  rw [ab_upn _ _ j7] at t
  unfold sp_passAt
  generalize sp_turns (sp_by (sp_n f r)) (ab_up f 7 0) (sp_n f r).natAbs = g at t
  unfold sp_goesOn
  split
  · rw [ab_upn _ _ j5, t]
  · rw [ab_upn _ _ j6, ab_upn _ _ j5, ab_upn _ _ j5, t]
theorem pn_all {B : Int} {f : Int → Int} (hI : sg_ok B f) : ∀ k : Nat, sp_passN f k 4 = cs_ang f k ∧ sp_passN f k 5 = (f 5 + (k : Int)) % 24 ∧ sp_passN f k 7 = (if k = 0 then f 7 else 0) ∧ ∀ j, j ≠ 4 → j ≠ 5 → j ≠ 6 → j ≠ 7 → (j < 34 ∨ 46 ≤ j) → sp_passN f k j = f j := by
  have b5 := (sg_all hI).2.2.2.2.2.1
  intro k
  induction k with
  | zero =>
    refine ⟨rfl, ?_, rfl, fun _ _ _ _ _ _ => rfl⟩
    show f 5 = (f 5 + ((0 : Nat) : Int)) % 24
    omega
  | succ k ih =>
    obtain ⟨e4, e5, e7, ej⟩ := ih
    have b4 := cs_ang_b hI k
    have er : sp_rateNow (sp_passN f k) = f (10 + (f 5 + (k : Int)) % 24) := by
      unfold sp_rateNow
      rw [e5]
      exact ej _ (by omega) (by omega) (by omega) (by omega) (by omega)
    have h4 : 0 ≤ sp_passN f k 4 ∧ sp_passN f k 4 ≤ 11 := by rw [e4]; exact b4
    refine ⟨?_, ?_, ?_, fun j a b c d e => ?_⟩
    · show sp_passAt (sp_rateNow (sp_passN f k)) (sp_passN f k) 4 = cs_ab f (cs_ang f k) (k : Int)
      rw [pa_4 h4, er, e4, e7]
      unfold cs_ab
      by_cases z : k = 0
      · have zk : (k : Int) = 0 := by omega
        rw [if_pos z, zk]
        by_cases y : f 7 = 1
        · rw [if_pos y, if_pos ⟨y, rfl⟩]
        · rw [if_neg y, if_neg (fun v => y v.1)]
      · rw [if_neg z, if_neg (by decide), if_neg (fun v => z (by omega))]
    · show sp_passAt (sp_rateNow (sp_passN f k)) (sp_passN f k) 5 = _
      rw [pa_5 h4, e5]
      split <;> omega
    · show sp_passAt (sp_rateNow (sp_passN f k)) (sp_passN f k) 7 = _
      rw [pa_7 h4, if_neg (by omega)]
    · show sp_passAt (sp_rateNow (sp_passN f k)) (sp_passN f k) j = _
      rw [pa_j h4 a b c d e]
      exact ej j a b c d e
/-- what is seen, and liked, is told by what is told -/
theorem sa_cg {f g : Int → Int} (h2 : 0 ≤ f 2 ∧ f 2 ≤ 12) (e : ∀ j, (j = 2 ∨ (95 ≤ j ∧ j < 143)) → g j = f j) (d h : Int) : sp_sortsAt g d h = sp_sortsAt f d h := by
  unfold sp_sortsAt
  rw [e 2 (Or.inl rfl)]
  exact sp_sorts_c2 d h _ (fun j x1 x2 => e j (Or.inr ⟨x1, by omega⟩))
theorem sl_cg {f g : Int → Int} {h : Int} (h0 : 0 ≤ h) (h1 : h < 7) (set : Nat) (e : ∀ j, 60 ≤ j → j < 95 → g j = f j) : ∀ k : Nat, k ≤ 5 → sp_like g h set k = sp_like f h set k
  | 0, _ => rfl
  | k + 1, hk => by
    have ih := sl_cg h0 h1 set e k (by omega)
    unfold sp_like
    rw [ih, e (60 + 5 * h + (k : Int)) (by omega) (by omega)]
theorem li_cg {f g : Int → Int} {h : Int} (h0 : 0 ≤ h) (h1 : h < 7) (h2 : 0 ≤ f 2 ∧ f 2 ≤ 12) (e : ∀ j, (j = 2 ∨ (60 ≤ j ∧ j < 143)) → g j = f j) (d hr : Int) : sp_likesAt g h d hr = sp_likesAt f h d hr := by
  unfold sp_likesAt
  rw [sa_cg h2 (fun j hj => e j (by omega)) d hr]
  exact sl_cg h0 h1 _ (fun j x0 x1 => e j (by omega)) 5 (by decide)
theorem pn_j {B : Int} {f : Int → Int} (hI : sg_ok B f) (k : Nat) {j : Int} (hj : j < 4 ∨ (8 ≤ j ∧ j < 34) ∨ 46 ≤ j) : sp_passN f k j = f j := (pn_all hI k).2.2.2 j (by omega) (by omega) (by omega) (by omega) (by omega)
theorem pn_sorts {B : Int} {f : Int → Int} (hI : sg_ok B f) (k : Nat) (d h : Int) : sp_sortsAt (sp_passN f k) d h = sp_sortsAt f d h := sa_cg (sg_all hI).2.2.1 (fun j hj => pn_j hI k (by omega)) d h
theorem pn_likes {B : Int} {f : Int → Int} (hI : sg_ok B f) (k : Nat) {h : Int} (h0 : 0 ≤ h) (h1 : h < 7) (d hr : Int) : sp_likesAt (sp_passN f k) h d hr = sp_likesAt f h d hr := li_cg h0 h1 (sg_all hI).2.2.1 (fun j hj => pn_j hI k (by omega)) d hr
theorem pn_faces {B : Int} {f : Int → Int} (hI : sg_ok B f) (k : Nat) {h : Int} (h0 : 0 ≤ h) : sp_facesOf (sp_passN f k) h = (f (46 + h) + cs_ang f k) % 12 := by
  unfold sp_facesOf
  rw [pn_j hI k (by omega), (pn_all hI k).1]
theorem pn_day {B : Int} {f : Int → Int} (hI : sg_ok B f) {h : Int} (h0 : 0 ≤ h) (h1 : h < 7) (s : Int) : ∀ n : Nat, sp_dayT f h s n = cs_day f h s n
  | 0 => rfl
  | n + 1 => by
    have ih := pn_day hI h0 h1 s n
    have p := pn_all hI n
    unfold sp_dayT cs_day
    rw [ih, pn_likes hI n h0 h1, p.1, p.2.1]
set_option maxRecDepth 4000 in
theorem cz_faces {w : ab_W} {S : fs_S} {wm : ab_W} {c : Int} (h : cy_I w S wm) (hok : fs_ok c S) (hcm : c ≤ 1000) (y1 : Int) (hy1 : ab_in y1) (y2 : Int) (hy2 : ab_in y2) : ab_Mt g_G g_rs mt_Tu_faces 3 0 0 [ab_R 0, ab_I y1, ab_I y2] w (cy_A (fa_faces S y1 y2) S wm) := by
  obtain ⟨x, ix, mk, tf, tl, rc, said, was, undone, images, ru⟩ := S
  obtain ⟨N, T, a, b, hF, hR, hag, himg, hrul⟩ := h
  obtain ⟨hW, hA, ⟨kn, kt, krc, ktl, ktf⟩, ⟨hrc, hN⟩, hrl, him, hac, hx, hmd, hix, hseg⟩ := id hF
  obtain ⟨o1, o2, o3, o4, o5, o6, o7, o8⟩ := hok
  have hab := hA.ab
  have hab2 : a = 3 ∨ a = 16 := by omega
  have t0 := tu_of hW hA kn kt krc
  have sA := sg_all o1.1
  refine (co_Tu_faces o1.1 t0 hR y1 hy1 y2 hy2).conseq (fun r w2 h => ?_)
  obtain ⟨rfl, rfl⟩ := h
  have e : (if (0 ≤ y1 ∧ y1 < said 1) ∧ 0 ≤ y2 ∧ y2 ≤ 200 then (said (46 + y1) + cs_ang said y2.toNat) % 12 else -1 : Int) = fa_faces ⟨x, ix, mk, tf, tl, rc, said, was, undone, images, ru⟩ y1 y2 := by
    show _ = (if (0 ≤ y1 ∧ y1 < said 1) ∧ 0 ≤ y2 ∧ y2 ≤ 200 then sp_facesOf (sp_passN said y2.toNat) y1 else -1 : Int)
    by_cases g : (0 ≤ y1 ∧ y1 < said 1) ∧ 0 ≤ y2 ∧ y2 ≤ 200
    · rw [if_pos g, if_pos g]
      exact (pn_faces o1.1 y2.toNat g.1.1).symm
    · rw [if_neg g, if_neg g]
  rw [← e]
  exact ⟨rfl, N, T, a, b, hF, hR, hag, himg, hrul⟩
set_option maxRecDepth 4000 in
theorem cz_sees {w : ab_W} {S : fs_S} {wm : ab_W} {c : Int} (h : cy_I w S wm) (hok : fs_ok c S) (hcm : c ≤ 1000) (y1 : Int) (hy1 : ab_in y1) (y2 : Int) (hy2 : ab_in y2) : ab_Mt g_G g_rs mt_Tu_sees 3 0 0 [ab_R 0, ab_I y1, ab_I y2] w (cy_A (fa_sees S y1 y2) S wm) := by
  obtain ⟨x, ix, mk, tf, tl, rc, said, was, undone, images, ru⟩ := S
  obtain ⟨N, T, a, b, hF, hR, hag, himg, hrul⟩ := h
  obtain ⟨hW, hA, ⟨kn, kt, krc, ktl, ktf⟩, ⟨hrc, hN⟩, hrl, him, hac, hx, hmd, hix, hseg⟩ := id hF
  obtain ⟨o1, o2, o3, o4, o5, o6, o7, o8⟩ := hok
  have hab := hA.ab
  have hab2 : a = 3 ∨ a = 16 := by omega
  have t0 := tu_of hW hA kn kt krc
  have sA := sg_all o1.1
  refine (co_Tu_sees o1.1 t0 hR y1 hy1 y2 hy2).conseq (fun r w2 h => ?_)
  obtain ⟨rfl, rfl⟩ := h
  have e : (if (0 ≤ y1 ∧ y1 < said 1) ∧ 0 ≤ y2 ∧ y2 ≤ 200 then ((sp_sortsAt said ((said (46 + y1) + cs_ang said y2.toNat) % 12) ((said 5 + y2) % 24) : Nat) : Int) else -1 : Int) = fa_sees ⟨x, ix, mk, tf, tl, rc, said, was, undone, images, ru⟩ y1 y2 := by
    show _ = (if (0 ≤ y1 ∧ y1 < said 1) ∧ 0 ≤ y2 ∧ y2 ≤ 200 then ((sp_sortsAt (sp_passN said y2.toNat) (sp_facesOf (sp_passN said y2.toNat) y1) (sp_passN said y2.toNat 5) : Nat) : Int) else -1 : Int)
    by_cases g : (0 ≤ y1 ∧ y1 < said 1) ∧ 0 ≤ y2 ∧ y2 ≤ 200
    · rw [if_pos g, if_pos g]
      rw [pn_sorts o1.1, pn_faces o1.1 y2.toNat g.1.1, (pn_all o1.1 y2.toNat).2.1, Int.toNat_of_nonneg g.2.1]
    · rw [if_neg g, if_neg g]
  rw [← e]
  exact ⟨rfl, N, T, a, b, hF, hR, hag, himg, hrul⟩
set_option maxRecDepth 4000 in
theorem cz_day {w : ab_W} {S : fs_S} {wm : ab_W} {c : Int} (h : cy_I w S wm) (hok : fs_ok c S) (hcm : c ≤ 1000) (y1 : Int) (hy1 : ab_in y1) : ab_Mt g_G g_rs mt_Tu_day 3 0 0 [ab_R 0, ab_I y1] w (cy_A (fa_day S y1) S wm) := by
  obtain ⟨x, ix, mk, tf, tl, rc, said, was, undone, images, ru⟩ := S
  obtain ⟨N, T, a, b, hF, hR, hag, himg, hrul⟩ := h
  obtain ⟨hW, hA, ⟨kn, kt, krc, ktl, ktf⟩, ⟨hrc, hN⟩, hrl, him, hac, hx, hmd, hix, hseg⟩ := id hF
  obtain ⟨o1, o2, o3, o4, o5, o6, o7, o8⟩ := hok
  have hab := hA.ab
  have hab2 : a = 3 ∨ a = 16 := by omega
  have t0 := tu_of hW hA kn kt krc
  have sA := sg_all o1.1
  refine (co_Tu_day o1.1 t0 hR y1 hy1).conseq (fun r w2 h => ?_)
  obtain ⟨rfl, rfl⟩ := h
  have e : (if 0 ≤ y1 ∧ y1 < said 1 then cs_day said y1 (said (46 + y1)) 24 else -100000 : Int) = fa_day ⟨x, ix, mk, tf, tl, rc, said, was, undone, images, ru⟩ y1 := by
    show _ = (if 0 ≤ y1 ∧ y1 < said 1 then sp_dayIn said y1 (said (46 + y1)) else -100000 : Int)
    by_cases g : 0 ≤ y1 ∧ y1 < said 1
    · rw [if_pos g, if_pos g]
      unfold sp_dayIn
      rw [pn_day o1.1 g.1 (by omega)]
    · rw [if_neg g, if_neg g]
  rw [← e]
  exact ⟨rfl, N, T, a, b, hF, hR, hag, himg, hrul⟩
