/-! the ACTS: the class's log against the reference's rows -/
def ax (nx i : Int) : Int := (nx + 19 - i) % 20
def at_ (said was : Int → Int) (u i : Int) : Int → Int := if i = 0 then said else sp_snap was (u - i)
def ar (said was : Int → Int) (u nx : Int) (ki f1 s1 : Int → Int) : Prop := ∀ i, 0 ≤ i → i < u → ac_v (said 1) (ki (ax nx i)) (f1 (ax nx i)) (s1 (ax nx i)) ∧ ∀ j, 0 ≤ j → j < 53 → cs_ua (ki (ax nx i)) (f1 (ax nx i)) (s1 (ax nx i)) (at_ said was u i) j = at_ said was u (i + 1) j
/-- the log, the rows: what holds between calls -/
def ag (said was : Int → Int) (u : Int) (w : ab_W) : Prop := ∃ (ki f1 s1 : Int → Int) (nx : Int), acl 32 ki f1 s1 u nx w ∧ (0 ≤ nx ∧ nx < 20) ∧ (0 ≤ u ∧ u ≤ 20) ∧ (∀ k, 0 ≤ k → k < 20 → ab_in (ki k) ∧ ab_in (f1 k) ∧ ab_in (s1 k)) ∧ ar said was u nx ki f1 s1
theorem ar_0 {said was : Int → Int} {nx : Int} {ki f1 s1 : Int → Int} : ar said was 0 nx ki f1 s1 := fun i h0 h1 => by omega
theorem ar_cg {said was : Int → Int} {u nx : Int} {ki f1 s1 k2 f2 s2 : Int → Int} (h : ar said was u nx ki f1 s1) (e : ∀ k, 0 ≤ k → k < 20 → k2 k = ki k ∧ f2 k = f1 k ∧ s2 k = s1 k) : ar said was u nx k2 f2 s2 := by
  intro i h0 h1
  have hb : 0 ≤ ax nx i ∧ ax nx i < 20 := by unfold ax; omega
  obtain ⟨e1, e2, e3⟩ := e _ hb.1 hb.2
  rw [e1, e2, e3]
  exact h i h0 h1
/-- cs_ua looks at the first 53 alone -/
theorem ua_cg {h k p q : Int} {f g : Int → Int} (hv : ac_v h k p q) (h7 : h ≤ 7) (f4 : 0 ≤ f 4 ∧ f 4 ≤ 11) (e : ∀ j, 0 ≤ j → j < 53 → g j = f j) : ∀ j, 0 ≤ j → j < 53 → cs_ua k p q g j = cs_ua k p q f j := by
  intro j j0 j1
  unfold cs_ua
  rcases hv with ⟨rfl, p0, p1, -⟩ | ⟨rfl, ⟨p0, p1⟩, -⟩ | ⟨rfl, ⟨p0, p1⟩, q0, q1⟩ | ⟨rfl, -, -⟩
  · rw [if_pos rfl, if_pos rfl]
    have key : ∀ n : Nat, ∀ i, 0 ≤ i → i < 53 → cs_uns (sp_by p) g n i = cs_uns (sp_by p) f n i := by
      intro n
      induction n with
      | zero => exact e
      | succ n ih =>
        intro i i0 i1
        show cs_un (sp_by p) (cs_uns (sp_by p) g n) i = cs_un (sp_by p) (cs_uns (sp_by p) f n) i
        have e4 := ih 4 (by decide) (by decide)
        have hm := (cs_uns_j (sp_by p) f f4 n).1
        unfold cs_un
        rw [e4]
        have m0 := Int.emod_nonneg (cs_uns (sp_by p) f n 4 - sp_by p) (show (12 : Int) ≠ 0 by decide)
        have m1 := Int.emod_lt_of_pos (cs_uns (sp_by p) f n 4 - sp_by p) (show (0 : Int) < 12 by decide)
        generalize (cs_uns (sp_by p) f n 4 - sp_by p) % 12 = r at m0 m1
        rw [ih (34 + r) (by omega) (by omega)]
        unfold ab_up
        rw [ih i i0 i1]
    have k5 := key p.natAbs 5 (by decide) (by decide)
    have k6 := key p.natAbs 6 (by decide) (by decide)
    have kj := key p.natAbs j j0 j1
    unfold cs_back cs_off
    rw [k5, k6]
    by_cases c : cs_uns (sp_by p) f p.natAbs 5 - 1 < 0
    · rw [if_pos c, if_pos c]
      unfold ab_up
      rw [kj]
    · rw [if_neg c, if_neg c]
      unfold ab_up
      rw [kj]
  · rw [if_neg (by decide), if_pos rfl, if_neg (by decide), if_pos rfl]
    unfold ab_up
    rw [e j j0 j1]
  · rw [if_neg (by decide), if_neg (by decide), if_pos rfl, if_neg (by decide), if_neg (by decide), if_pos rfl]
    unfold cs_swap ab_up
    rw [e j j0 j1, e (46 + p) (by omega) (by omega), e (46 + q) (by omega) (by omega)]
  · rw [if_neg (by decide), if_neg (by decide), if_neg (by decide), if_neg (by decide), if_neg (by decide), if_neg (by decide)]
    unfold ab_up
    rw [e j j0 j1, e 8 (by decide) (by decide)]
theorem sn_new {said was : Int → Int} {u : Int} : ∀ j, 0 ≤ j → j < 53 → sp_snap (sp_kw said was u) (sp_ku u) j = said j := by
  intro j j0 j1
  unfold sp_snap sp_kw sp_kp
  rw [if_pos (by omega)]
  congr 1
  omega
theorem sn_old {said was : Int → Int} {u : Int} (hu : 0 ≤ u ∧ u ≤ 20) : ∀ i, 1 ≤ i → i ≤ sp_ku u → ∀ j, 0 ≤ j → j < 53 → sp_snap (sp_kw said was u) (sp_ku u - i) j = sp_snap was (u - i) j := by
  intro i i0 i1 j j0 j1
  unfold sp_snap sp_kw sp_kp
  by_cases c : u = 20
  · have e : sp_ku u = 19 := if_pos c
    rw [e] at i1 ⊢
    rw [if_neg (by omega), if_pos c]
    unfold sp_sh
    rw [if_pos (by omega)]
    congr 1
    omega
  · have e : sp_ku u = u := if_neg c
    rw [e] at i1 ⊢
    rw [if_neg (by omega), if_neg c]
/-- an ACT more -/
theorem ar_keep {said said2 was : Int → Int} {u nx k p q : Int} {ki f1 s1 : Int → Int} (h : ar said was u nx ki f1 s1) (hnx : 0 ≤ nx ∧ nx < 20) (hu : 0 ≤ u ∧ u ≤ 20) (h7 : said 1 ≤ 7) (h4 : ∀ i, 0 ≤ i → i ≤ u → 0 ≤ at_ said was u i 4 ∧ at_ said was u i 4 ≤ 11) (h1 : said2 1 = said 1) (hv : ac_v (said 1) k p q) (hb : ∀ j, 0 ≤ j → j < 53 → cs_ua k p q said2 j = said j) : ar said2 (sp_kw said was u) (sp_ku u + 1) ((nx + 1) % 20) (ab_up ki nx k) (ab_up f1 nx p) (ab_up s1 nx q) := by
  intro i h0 hi
  have hku : sp_ku u = if u = 20 then 19 else u := rfl
  have hle : sp_ku u ≤ u ∧ sp_ku u ≤ 19 ∧ 0 ≤ sp_ku u := by rw [hku]; split <;> omega
  have snap0 := sn_new (said := said) (was := was) (u := u)
  have snapn := sn_old (said := said) (was := was) hu
  have et : ∀ m, 1 ≤ m → m ≤ sp_ku u + 1 → ∀ j, 0 ≤ j → j < 53 → at_ said2 (sp_kw said was u) (sp_ku u + 1) m j = at_ said was u (m - 1) j := by
    intro m m1 m2 j j0 j1
    unfold at_
    rw [if_neg (by omega)]
    by_cases c : m - 1 = 0
    · rw [if_pos c, show sp_ku u + 1 - m = sp_ku u by omega, snap0 j j0 j1]
    · rw [if_neg c, show sp_ku u + 1 - m = sp_ku u - (m - 1) by omega, snapn (m - 1) (by omega) (by omega) j j0 j1]
  by_cases hz : i = 0
  · subst hz
    have ea : ax ((nx + 1) % 20) 0 = nx := by unfold ax; omega
    rw [ea, ab_upe, ab_upe, ab_upe, h1]
    refine ⟨hv, fun j j0 j1 => ?_⟩
    have e1 : at_ said2 (sp_kw said was u) (sp_ku u + 1) 0 = said2 := if_pos rfl
    have e3 : at_ said was u (0 + 1 - 1) = said := if_pos (by decide)
    rw [e1, et (0 + 1) (by decide) (by omega) j j0 j1, e3]
    exact hb j j0 j1
  · have ea : ax ((nx + 1) % 20) i = ax nx (i - 1) := by unfold ax; omega
    have hne : ¬ ax nx (i - 1) = nx := by unfold ax; omega
    rw [ea, ab_upn _ _ hne, ab_upn _ _ hne, ab_upn _ _ hne, h1]
    have q := h (i - 1) (by omega) (by omega)
    refine ⟨q.1, fun j j0 j1 => ?_⟩
    rw [et (i + 1) (by omega) (by omega) j j0 j1, show i + 1 - 1 = i - 1 + 1 by omega, ← q.2 j j0 j1]
    exact ua_cg q.1 h7 (h4 (i - 1) (by omega) (by omega)) (et i (by omega) (by omega)) j j0 j1
theorem ua_j {h k p q : Int} {f : Int → Int} (hv : ac_v h k p q) (h7 : h ≤ 7) (f4 : 0 ≤ f 4 ∧ f 4 ≤ 11) : cs_ua k p q f 1 = f 1 ∧ ∀ j, 53 ≤ j → cs_ua k p q f j = f j := by
  have key : ∀ j, (j = 1 ∨ 53 ≤ j) → cs_ua k p q f j = f j := by
    intro j hj
    unfold cs_ua
    rcases hv with ⟨rfl, p0, p1, -⟩ | ⟨rfl, ⟨p0, p1⟩, -⟩ | ⟨rfl, ⟨p0, p1⟩, q0, q1⟩ | ⟨rfl, -, -⟩
    · rw [if_pos rfl]
      unfold cs_back
      rw [cs_off_j _ _ (by omega) (by omega) (by omega)]
      exact (cs_uns_j (sp_by p) f f4 p.natAbs).2 j (by omega) (by omega)
    · rw [if_neg (by decide), if_pos rfl, ab_upn _ _ (by omega)]
    · rw [if_neg (by decide), if_neg (by decide), if_pos rfl]
      unfold cs_swap
      rw [ab_upn _ _ (by omega), ab_upn _ _ (by omega)]
    · rw [if_neg (by decide), if_neg (by decide), if_neg (by decide), ab_upn _ _ (by omega), ab_upn _ _ (by omega)]
  exact ⟨key 1 (Or.inl rfl), fun j hj => key j (Or.inr hj)⟩
/-- an ACT undone -/
theorem ar_undo {said was : Int → Int} {u nx : Int} {ki f1 s1 : Int → Int} (h : ar said was u nx ki f1 s1) (hnx : 0 ≤ nx ∧ nx < 20) (hu : 0 < u ∧ u ≤ 20) (h7 : said 1 ≤ 7) (h4 : ∀ i, 0 ≤ i → i ≤ u → 0 ≤ at_ said was u i 4 ∧ at_ said was u i 4 ≤ 11) : ar (sp_cp (sp_snap was (u - 1)) said 53) was (u - 1) ((nx + 19) % 20) ki f1 s1 ∧ ∀ j, 0 ≤ j → j < 191 → sp_cp (sp_snap was (u - 1)) said 53 j = cs_ua (ki ((nx + 19) % 20)) (f1 ((nx + 19) % 20)) (s1 ((nx + 19) % 20)) said j := by
  have e0 : at_ said was u 0 = said := if_pos rfl
  have e1 : at_ said was u (0 + 1) = sp_snap was (u - 1) := by
    unfold at_
    rw [if_neg (by decide), show u - (0 + 1) = u - 1 by omega]
  have q0 := h 0 (by omega) (by omega)
  have ea : ax nx 0 = (nx + 19) % 20 := by unfold ax; rw [show nx + 19 - 0 = nx + 19 by omega]
  have f4 := h4 0 (by omega) (by omega)
  rw [ea, e0, e1] at q0
  rw [e0] at f4
  have uj := ua_j (f := said) q0.1 h7 f4
  have lo : ∀ j, 0 ≤ j → j < 53 → sp_cp (sp_snap was (u - 1)) said 53 j = sp_snap was (u - 1) j := fun j j0 j1 => if_pos ⟨j0, j1⟩
  have hi : ∀ j, 53 ≤ j → sp_cp (sp_snap was (u - 1)) said 53 j = said j := fun j j0 => if_neg (fun z => by have := z.2; omega)
  have h1 : sp_cp (sp_snap was (u - 1)) said 53 1 = said 1 := by
    rw [lo 1 (by decide) (by decide), ← q0.2 1 (by decide) (by decide)]
    exact uj.1
  refine ⟨fun i i0 i1 => ?_, fun j j0 j1 => ?_⟩
  · have q := h (i + 1) (by omega) (by omega)
    have ei : ax ((nx + 19) % 20) i = ax nx (i + 1) := by unfold ax; omega
    rw [ei, h1]
    have et : ∀ m, 0 ≤ m → m ≤ u - 1 → ∀ j, 0 ≤ j → j < 53 → at_ (sp_cp (sp_snap was (u - 1)) said 53) was (u - 1) m j = at_ said was u (m + 1) j := by
      intro m m0 m1 j j0 j1
      unfold at_
      rw [if_neg (show ¬ m + 1 = 0 by omega)]
      by_cases c : m = 0
      · rw [if_pos c, lo j j0 j1, show u - (m + 1) = u - 1 by omega]
      · rw [if_neg c, show u - 1 - m = u - (m + 1) by omega]
    refine ⟨q.1, fun j j0 j1 => ?_⟩
    rw [et (i + 1) (by omega) (by omega) j j0 j1, ← q.2 j j0 j1]
    exact ua_cg q.1 h7 (h4 (i + 1) (by omega) (by omega)) (et i (by omega) (by omega)) j j0 j1
  · rcases Int.lt_or_le j 53 with c | c
    · rw [lo j j0 c, q0.2 j j0 c]
    · rw [hi j c, uj.2 j c]
/-- what an HOUR did is taken back -/
theorem un_step {b : Int} {g : Int → Int} (h : 0 ≤ g 4 ∧ g 4 ≤ 11) : cs_un b (sp_step b g) = g := by
  have e4 : sp_step b g 4 = (g 4 + b) % 12 := ab_upe _ _ _
  have er : (sp_step b g 4 - b) % 12 = g 4 := by rw [e4]; omega
  have ew : sp_step b g (34 + g 4) = g (34 + g 4) + 1 := by
    unfold sp_step
    rw [ab_upn _ _ (by omega), ab_upe]
  funext j
  unfold cs_un
  rw [er, ew]
  by_cases c : j = 34 + g 4
  · subst c
    rw [ab_upe]
    omega
  · rw [ab_upn _ _ c]
    by_cases d : j = 4
    · subst d
      rw [ab_upe]
    · rw [ab_upn _ _ d]
      unfold sp_step
      rw [ab_upn _ _ d, ab_upn _ _ c]
theorem uns_turns {b : Int} {g : Int → Int} (h : 0 ≤ g 4 ∧ g 4 ≤ 11) : ∀ n : Nat, cs_uns b (sp_turns b g n) n = g
  | 0 => rfl
  | n + 1 => by
    have ht := (sp_turns_j b g h n).1
    show cs_uns b (sp_step b (sp_turns b g n)) (n + 1) = g
    rw [← cs_uns_s, un_step ht]
    exact uns_turns h n
theorem un_up {b k v : Int} {g : Int → Int} (hk : k = 5 ∨ k = 6) : cs_un b (ab_up g k v) = ab_up (cs_un b g) k v := by
  have e4 : ab_up g k v 4 = g 4 := ab_upn _ _ (by omega)
  funext j
  unfold cs_un
  rw [e4]
  have m0 := Int.emod_nonneg (g 4 - b) (show (12 : Int) ≠ 0 by decide)
  have m1 := Int.emod_lt_of_pos (g 4 - b) (show (0 : Int) < 12 by decide)
  generalize (g 4 - b) % 12 = r at m0 m1
  rw [ab_upn g v (show ¬ 34 + r = k by omega)]
  by_cases c : j = k
  · subst c
    rw [ab_upe, ab_upn _ _ (by omega), ab_upn _ _ (by omega), ab_upe]
  · rw [ab_upn _ _ c]
    unfold ab_up
    rw [if_neg c]
theorem uns_up {b k v : Int} (hk : k = 5 ∨ k = 6) : ∀ (n : Nat) (g : Int → Int), cs_uns b (ab_up g k v) n = ab_up (cs_uns b g n) k v
  | 0, _ => rfl
  | n + 1, g => by
    show cs_un b (cs_uns b (ab_up g k v) n) = ab_up (cs_un b (cs_uns b g n)) k v
    rw [uns_up hk n g, un_up hk]
theorem back_pass {r : Int} {f : Int → Int} (h4 : 0 ≤ f 4 ∧ f 4 ≤ 11) (h5 : 0 ≤ f 5 ∧ f 5 ≤ 23) (j : Int) : cs_back (sp_n f r) (f 7) (sp_passAt r f) j = f j := by
  unfold sp_passAt cs_back
  have tj := (sp_turns_j (sp_by (sp_n f r)) (ab_up f 7 0) h4 (sp_n f r).natAbs).2
  have e5 : sp_turns (sp_by (sp_n f r)) (ab_up f 7 0) (sp_n f r).natAbs 5 = f 5 := tj 5 (by decide) (by decide)
  have e6 : sp_turns (sp_by (sp_n f r)) (ab_up f 7 0) (sp_n f r).natAbs 6 = f 6 := tj 6 (by decide) (by decide)
  have hu := uns_turns (b := sp_by (sp_n f r)) (g := ab_up f 7 0) h4 (sp_n f r).natAbs
  generalize (sp_n f r).natAbs = n at *
  generalize sp_by (sp_n f r) = b at *
  unfold sp_goesOn
  rw [e5, e6]
  by_cases c : f 5 + 1 < 24
  · rw [if_pos c, uns_up (Or.inl rfl), hu]
    unfold cs_off
    have g5 : ab_up (ab_up f 7 0) 5 (f 5 + 1) 5 = f 5 + 1 := ab_upe _ _ _
    rw [g5, if_neg (by omega)]
    unfold ab_up
    repeat' split
    all_goals first | rfl | (rename_i z; subst z; omega) | (subst_vars; omega) | (subst_vars; rfl)
  · rw [if_neg c, uns_up (Or.inr rfl), uns_up (Or.inl rfl), uns_up (Or.inl rfl), hu]
    unfold cs_off
    have g5 : ab_up (ab_up (ab_up (ab_up f 7 0) 5 (f 5 + 1)) 5 0) 6 (f 6 + 1) 5 = 0 := rfl
    have g6 : ab_up (ab_up (ab_up (ab_up f 7 0) 5 (f 5 + 1)) 5 0) 6 (f 6 + 1) 6 = f 6 + 1 := rfl
    rw [g5, g6, if_pos (by omega)]
    have e23 : f 5 = 23 := by omega
    unfold ab_up
    repeat' split
    all_goals first | rfl | (subst_vars; omega) | (subst_vars; rfl)
theorem ua_hour {r : Int} {f : Int → Int} (h4 : 0 ≤ f 4 ∧ f 4 ≤ 11) (h5 : 0 ≤ f 5 ∧ f 5 ≤ 23) (j : Int) : cs_ua 0 (sp_n f r) (f 7) (sp_passAt r f) j = f j := back_pass h4 h5 j
theorem ua_rate {f : Int → Int} {y v : Int} (j : Int) : cs_ua 1 y (f (10 + y)) (ab_up f (10 + y) v) j = f j := by
  show ab_up (ab_up f (10 + y) v) (10 + y) (f (10 + y)) j = f j
  unfold ab_up
  split
  · rename_i z; rw [z]
  · rfl
theorem ua_swap {f : Int → Int} {a b : Int} (j : Int) : cs_ua 2 a b (ab_up (ab_up f (46 + a) (f (46 + b))) (46 + b) (f (46 + a))) j = f j := by
  show cs_swap a b (ab_up (ab_up f (46 + a) (f (46 + b))) (46 + b) (f (46 + a))) j = f j
  unfold cs_swap ab_up
  by_cases c : b = a
  · subst c
    by_cases z : j = 46 + b
    · subst z; simp
    · simp [z]
  · by_cases z : j = 46 + b
    · subst z
      have : ¬ 46 + a = 46 + b := by omega
      simp [this]
    · by_cases y : j = 46 + a
      · subst y
        have : ¬ 46 + b = 46 + a := by omega
        simp [z, this]
      · simp [z, y]
theorem ua_stop {f : Int → Int} (h7 : f 7 = 0) (j : Int) : cs_ua 3 0 0 (ab_up (ab_up f 7 1) 8 (f 8 + 1)) j = f j := by
  show ab_up (ab_up (ab_up (ab_up f 7 1) 8 (f 8 + 1)) 7 0) 8 (f 8 + 1 - 1) j = f j
  unfold ab_up
  repeat' split
  all_goals first | rfl | (subst_vars; omega)
