/-! two contracts of one method: both of its one end -/
theorem an_met {l : Launch} {y : MethodName} {ws : List Cond} {rm : Room} {Pc : Array Value → State → Prop} {Q1 Q2 : Array Value → State → Outcome → State → Prop} {mc ms : Nat} {free : Addr → Prop} (h1 : Met l y ws rm Pc Q1 mc ms free) (h2 : Met l y ws rm Pc Q2 mc ms free) : Met l y ws rm Pc (fun a s o t => Q1 a s o t ∧ Q2 a s o t) mc ms free := by
  intro p e ha hf hc s m args below hfr hap hP hK
  obtain ⟨n1, o1, w1, r1, e1, q1, L1⟩ := h1 p e ha hf hc s m args below hfr hap hP hK
  obtain ⟨n2, o2, w2, r2, e2, q2, L2⟩ := h2 p e ha hf hc s m args below hfr hap hP hK
  obtain ⟨e3, e4⟩ := the_end_unique (f := fun k => stepsAlone p.tables e k s) w1 e1 w2 e2
  subst e3
  subst e4
  exact ⟨n1, o1, w1, r1, e1, ⟨q1, q2⟩, L1⟩
/-- two worlds that the machine can't tell apart -/
def an_sm (w1 w2 : ab_W) : Prop :=
  (∀ (p t n t' : Nat) (f g : Int → Int), w1[p]? = some (ab_ai t n f) → w2[p]? = some (ab_ai t' n g) → ∀ k : Nat, k < n → Int32.ofInt (f (k : Int)) = Int32.ofInt (g (k : Int))) ∧
  (∀ (p n : Nat) (f g : Int → Int64), w1[p]? = some (ab_al n f) → w2[p]? = some (ab_al n g) → ∀ k : Nat, k < n → f (k : Int) = g (k : Int)) ∧
  (∀ (p c : Nat) (r : vw_C) (fs gs : List ab_V), g_G.1[c]? = some r → w1[p]? = some (ab_ob c fs) → w2[p]? = some (ab_ob c gs) → ∀ (k : Nat) (a b : Int), k < r.2.2 → fs[k]? = some (ab_I a) → gs[k]? = some (ab_I b) → Int32.ofInt a = Int32.ofInt b)
def an_sr (r1 r2 : Option ab_V) : Prop := ∀ a b : Int, r1 = some (ab_I a) → r2 = some (ab_I b) → Int32.ofInt a = Int32.ofInt b
theorem an_cw {dA : Nat → ClassId} {as : Nat → Nat} {w : ab_W} {p : Nat} {e : ab_E} (h : w[p]? = some e) : (ab_cw dA as w)[p]? = some (as p, ab_ce dA as e) := by
  unfold ab_cw
  rw [List.getElem?_mapIdx, h]
  rfl
theorem an_arr {cI cJ : ClassId} {n : Nat} {f g : Nat → Value} (h : arrV cI n f = arrV cJ n g) {k : Nat} (hk : k < n) : f k = g k := by
  have h1 := arrV_read cI f hk
  rw [h, arrV_read cJ g hk] at h1
  exact (Option.some.inj h1).symm
theorem an_of {D : va_G} {dA : Nat → ClassId} {as : Nat → Nat} {w1 w2 : ab_W} {H : Heap} (h1 : va_P D g_G.1 (ab_cw dA as w1) H) (h2 : va_P D g_G.1 (ab_cw dA as w2) H) : an_sm w1 w2 := by
  refine ⟨fun p t n t' f g e1 e2 k hk => ?_, fun p n f g e1 e2 k hk => ?_, fun p c r fs gs hr e1 e2 k a b hk ha hb => ?_⟩
  · have a1 : H[as p]? = some (vp_cell (dA t) (n, .inl (fun k => Int32.ofInt (f (k : Int))))) := h1 p _ (an_cw e1)
    have a2 : H[as p]? = some (vp_cell (dA t') (n, .inl (fun k => Int32.ofInt (g (k : Int))))) := h2 p _ (an_cw e2)
    rw [a1] at a2
    have a3 := Option.some.inj a2
    rw [vp_cell_i, vp_cell_i] at a3
    have a4 := an_arr a3 hk
    injection a4
  · have a1 : H[as p]? = some (vp_cell (dA 3) (n, .inr (.inl (fun k => f (k : Int))))) := h1 p _ (an_cw e1)
    have a2 : H[as p]? = some (vp_cell (dA 3) (n, .inr (.inl (fun k => g (k : Int))))) := h2 p _ (an_cw e2)
    rw [a1] at a2
    have a3 := Option.some.inj a2
    rw [vp_cell_l, vp_cell_l] at a3
    have a4 := an_arr a3 hk
    injection a4
  · obtain ⟨r1, hr1, c1, q1, -, -, z1⟩ : ∃ r : vw_C, g_G.1[c]? = some r ∧ t_OB (as p) (D.1 c) r.2.2 (D.2 c) H (vp_V (fs.map (ab_cv as))) := h1 p _ (an_cw e1)
    obtain ⟨r2, hr2, c2, q2, -, -, z2⟩ : ∃ r : vw_C, g_G.1[c]? = some r ∧ t_OB (as p) (D.1 c) r.2.2 (D.2 c) H (vp_V (gs.map (ab_cv as))) := h2 p _ (an_cw e2)
    rw [hr] at hr1 hr2
    obtain rfl := Option.some.inj hr1
    obtain rfl := Option.some.inj hr2
    rw [q1] at q2
    obtain rfl := Option.some.inj q2
    have y1 := z1 k hk
    have y2 := z2 k hk
    rw [y1] at y2
    have y3 := Option.some.inj y2
    have v1 : vp_V (fs.map (ab_cv as)) k = .int (Int32.ofInt a) := by
      unfold vp_V
      rw [List.getD_eq_getElem?_getD, List.getElem?_map, ha]
      rfl
    have v2 : vp_V (gs.map (ab_cv as)) k = .int (Int32.ofInt b) := by
      unfold vp_V
      rw [List.getD_eq_getElem?_getD, List.getElem?_map, hb]
      rfl
    rw [v1, v2] at y3
    injection y3
theorem an_mt {M : ab_M} {d mc ms : Nat} {av : List ab_V} {w : ab_W} {Q1 Q2 : Option ab_V → ab_W → Prop} (h1 : ab_Mt g_G g_rs M d mc ms av w Q1) (h2 : ab_Mt g_G g_rs M d mc ms av w Q2) (l1 : ∀ r w', Q1 r w' → w'.length = w.length) (l2 : ∀ r w', Q2 r w' → w'.length = w.length) : ab_Mt g_G g_rs M d mc ms av w (fun r w' => Q2 r w' ∧ ∃ r1 w1, Q1 r1 w1 ∧ an_sm w1 w' ∧ an_sr r1 r) := by
  intro l D dA aK aV as sz hs
  refine MetFree.mono (an_met (h1 l D dA aK aV as sz hs) (h2 l D dA aK aV as sz hs)) (fun _ _ q => q) (fun _ _ _ _ _ q => q) (fun a st o t _ q => ?_)
  obtain ⟨⟨⟨⟨r1, w1, as1, q1, k1, k2, k3, k4, k5, k6⟩, F1⟩, ⟨⟨r2, w2, as2, q2, m1, m2, m3, m4, m5, m6⟩, F2⟩⟩, q4⟩ := q
  have e1 := k3 (l1 _ _ q1)
  have e2 := m3 (l2 _ _ q2)
  subst e1
  subst e2
  refine ⟨⟨⟨r2, w2, as2, ⟨q2, r1, w1, q1, an_of k5 m5, fun a b ha hb => ?_⟩, m1, m2, m3, m4, m5, m6⟩, F2⟩, q4⟩
  subst ha
  subst hb
  rw [k4] at m4
  have z := Outcome.returned.inj m4
  have z2 := Option.some.inj z
  injection z2
