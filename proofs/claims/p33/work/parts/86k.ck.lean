/-! the rate that a RULE's CLAUSES ask for, once for both -/
def ck_v (word : Int → Int64) (l : List Int) : Int64 := match vl_r word l [] with
  | some (v :: _) => v
  | _ => 0
def ck_r (word : Int → Int64) : List c_C → Int64
  | [] => 0
  | k :: ks => match k.2 with
    | none => ck_v word k.1
    | some l => if ck_v word l = 1 then ck_v word k.1 else ck_r word ks
def ck_E (ks : List c_C) (f : Int → Int) : Int := sp_clamp (ck_r (sp_wf f) ks)
theorem ck_E_b (ks : List c_C) (f : Int → Int) : -3 ≤ ck_E ks f ∧ ck_E ks f ≤ 3 := sp_clamp_b _
theorem vg_app {word : Int → Int64} {z : Option Int} {l2 : List Int} : ∀ (l : List Int) (A C : List Int64), vm_l word l A = some C → (∀ x ∈ l, -33 ≤ x) → vm_go word (l ++ l2) A = vm_go word l2 C
  | [], A, C, h, _ => by
    have e : A = C := Option.some.inj h
    rw [e]
    rfl
  | o :: l, A, C, h, hb => by
    have h2 : (match vm_1 word o A with
      | some st' => vm_l word l st'
      | none => none) = some C := h
    have ho := hb o List.mem_cons_self
    show (if o = -34 then _ else if o = -35 then _ else match vm_1 word o A with
      | some st' => vm_go word (l ++ l2) st'
      | none => none) = _
    rw [if_neg (by omega), if_neg (by omega)]
    rcases he : vm_1 word o A with _ | A1
    · rw [he] at h2; cases h2
    · rw [he] at h2
      exact vg_app (z := z) l A1 C h2 (fun x hx => hb x (List.mem_cons_of_mem _ hx))
theorem op_ext {word : Int → Int64} {o : Int} {A C : List Int64} (E : List Int64) (h : sp_op word o A = some C) : sp_op word o (A ++ E) = some (C ++ E) := by
  have c := sp_op_in h
  unfold sp_op at h ⊢
  rw [if_pos c] at h ⊢
  by_cases h0 : o % 16 = 0
  · rw [if_pos h0] at h ⊢
    cases h
    rfl
  · rw [if_neg h0] at h ⊢
    by_cases h1 : o % 16 = 1
    · rw [if_pos h1] at h ⊢
      by_cases h2 : o / 16 ≤ 11
      · rw [if_pos h2] at h ⊢
        cases h
        rfl
      · rw [if_neg h2] at h; cases h
    · rw [if_neg h1] at h ⊢
      by_cases h2 : o % 16 = 11
      · rw [if_pos h2] at h ⊢
        rcases A with _ | ⟨y, r⟩
        · cases h
        · cases h
          rfl
      · rw [if_neg h2] at h ⊢
        rcases A with _ | ⟨y, _ | ⟨x, r⟩⟩
        · cases h
        · cases h
        · cases h
          rfl
theorem vl_ext {word : Int → Int64} {D : List Int64} {E : List Int64} : ∀ (l : List Int) (A C : List Int64), vl_r word l A = some C → ∀ F, vl_r word l (A ++ E) = some F → F = C ++ E
  | [], A, C, h, F, h2 => by
    have e1 : A = C := Option.some.inj h
    have e2 : A ++ E = F := Option.some.inj h2
    rw [← e2, e1]
  | o :: l, A, C, h, F, h2 => by
    have h3 : (match sp_op word o A with
      | some st' => if st'.length ≤ 60 then vl_r word l st' else none
      | none => none) = some C := h
    have h4 : (match sp_op word o (A ++ E) with
      | some st' => if st'.length ≤ 60 then vl_r word l st' else none
      | none => none) = some F := h2
    rcases he : sp_op word o A with _ | A1
    · rw [he] at h3; cases h3
    · rw [he] at h3
      rw [op_ext E he] at h4
      dsimp only at h3 h4
      split at h3
      · split at h4
        · exact vl_ext (D := D) l A1 C h3 F h4
        · cases h4
      · cases h3
theorem ck_same {word : Int → Int64} {l : List Int} {v2 v3 : Int64} {E : List Int64} (h2 : vl_r word l ([] ++ []) = some [v2]) (h3 : vl_r word l ([] ++ E) = some (v3 :: E)) : v3 = v2 := by
  have z := vl_ext (D := []) (E := E) l [] [v2] h2 _ h3
  injection z
/-- the class's Machine on the whole code -/
theorem ck_vm (word : Int → Int64) : ∀ ks : List c_C, (∀ k ∈ ks, gc k) → vm_go word ((ks.map a_cc).flatten) [] = some (sp_clamp (ck_r word ks))
  | [], _ => by
    show some 0 = some (sp_clamp 0)
    rfl
  | k :: ks, h => by
    have ih := ck_vm word ks (fun k hk => h k (List.mem_cons_of_mem _ hk))
    obtain ⟨g1, g2⟩ := h k List.mem_cons_self
    obtain ⟨v1, -, r1, s1, b1⟩ := g1 word [] [] rfl (fun z => (by cases z)) (by decide)
    have e1 : ck_v word k.1 = v1 := by
      unfold ck_v
      rw [show vl_r word k.1 [] = some [v1] from r1]
    obtain ⟨ka, kb⟩ := k
    rcases kb with _ | l
    · show vm_go word ((ka.map a_cd ++ [-34]) ++ (ks.map a_cc).flatten) [] = some (sp_clamp (ck_v word ka))
      rw [List.append_assoc, vg_app (z := none) _ [] [v1] s1 (fun x hx => (b1 x hx).1), e1]
      rfl
    · obtain ⟨v2, k2, r2, s2, b2⟩ := g2 l rfl word [] [] rfl (fun _ y hy => (by cases hy)) (by decide)
      obtain ⟨v3, k3, r3, s3, b3⟩ := g2 l rfl word [] [v1] rfl (fun _ y hy => (by cases hy)) (Nat.le_of_ble_eq_true rfl)
      have e2 : ck_v word l = v2 := by
        unfold ck_v
        rw [show vl_r word l [] = some [v2] from r2]
      have e3 : v3 = v2 := ck_same r2 r3
      subst e3
      show vm_go word ((ka.map a_cd ++ l.map a_cd ++ [-35]) ++ (ks.map a_cc).flatten) [] = some (sp_clamp (if ck_v word l = 1 then ck_v word ka else ck_r word ks))
      rw [List.append_assoc, List.append_assoc, vg_app (z := none) _ [] [v1] s1 (fun x hx => (b1 x hx).1), vg_app (z := none) _ [v1] [v3, v1] s3 (fun x hx => (b3 x hx).1), e1, e2]
      show (if v3 = 0 then vm_go word ((ks.map a_cc).flatten) [] else some (sp_clamp v1)) = _
      rcases k2 rfl with z | z
      · rw [if_pos z, if_neg (by rw [z]; decide)]
        exact ih
      · rw [if_neg (by rw [z]; decide), if_pos z]
theorem ck_bd : ∀ ks : List c_C, (∀ k ∈ ks, gc k) → ∀ x ∈ (ks.map a_cc).flatten, -35 ≤ x ∧ x ≤ 99999 ∧ (x ≤ -21 ∨ -12 ≤ x) := by
  intro ks h x hx
  obtain ⟨c, hc, hx2⟩ := List.mem_flatten.mp hx
  obtain ⟨k, hk, rfl⟩ := List.mem_map.mp hc
  obtain ⟨g1, g2⟩ := h k hk
  obtain ⟨v1, -, r1, s1, b1⟩ := g1 (fun _ => 0) [] [] rfl (fun z => (by cases z)) (by decide)
  obtain ⟨ka, kb⟩ := k
  rcases kb with _ | l
  · rcases List.mem_append.mp hx2 with z | z
    · have := b1 x z; omega
    · have e := List.mem_singleton.mp z; omega
  · obtain ⟨v2, -, r2, s2, b2⟩ := g2 l rfl (fun _ => 0) [] [] rfl (fun _ y hy => (by cases hy)) (by decide)
    rcases List.mem_append.mp hx2 with z | z
    · rcases List.mem_append.mp z with z | z
      · have := b1 x z; omega
      · have := b2 x z; omega
    · have e := List.mem_singleton.mp z; omega
/-! the reference's rows -/
theorem rk_vl (word : Int → Int64) (code : Int → Int) : ∀ (l : List Int) (b : Int) (st : List Int64), (∀ (i : Nat) (x : Int), l[i]? = some x → code (b + i) = x) → sp_rk word code l.length b st = vl_r word l st
  | [], _, _, _ => rfl
  | o :: l, b, st, h => by
    have h0 := h 0 o rfl
    rw [show b + ((0 : Nat) : Int) = b by omega] at h0
    show (match sp_op word (code b) st with
      | some st' => if st'.length ≤ 60 then sp_rk word code l.length (b + 1) st' else none
      | none => none) = (match sp_op word o st with
      | some st' => if st'.length ≤ 60 then vl_r word l st' else none
      | none => none)
    rw [h0]
    rcases sp_op word o st with _ | s
    · rfl
    · dsimp only
      rw [rk_vl word code l (b + 1) s (fun i x hi => by rw [show b + 1 + (i : Int) = b + ((i + 1 : Nat) : Int) by omega]; exact h (i + 1) x hi)]
theorem em_le (t : Int) : ∀ (l : List Int) (z : (Int → Int) × (Int → Int)), (em t l z).1 t = z.1 t + l.length
  | [], z => by show z.1 t = z.1 t + ((0 : Nat) : Int); omega
  | s :: l, z => by
    show (em t l (em1 t s z)).1 t = _
    rw [em_le t l (em1 t s z)]
    have e : (em1 t s z).1 t = z.1 t + 1 := ab_upe _ _ _
    rw [e, List.length_cons]
    omega
theorem em_lo (t : Int) : ∀ (l : List Int) (z : (Int → Int) × (Int → Int)) (k : Int), k < 400 * t + z.1 t → (em t l z).2 k = z.2 k
  | [], _, _, _ => rfl
  | s :: l, z, k, h => by
    show (em t l (em1 t s z)).2 k = _
    have e : (em1 t s z).1 t = z.1 t + 1 := ab_upe _ _ _
    rw [em_lo t l (em1 t s z) k (by omega)]
    exact ab_upn _ _ (by omega)
theorem em_at (t : Int) : ∀ (l : List Int) (z : (Int → Int) × (Int → Int)) (i : Nat) (x : Int), l[i]? = some x → (em t l z).2 (400 * t + (z.1 t + i)) = x
  | [], _, _, _, h => by cases h
  | s :: l, z, 0, x, h => by
    obtain rfl := Option.some.inj h
    show (em t l (em1 t s z)).2 _ = _
    have e : (em1 t s z).1 t = z.1 t + 1 := ab_upe _ _ _
    rw [em_lo t l (em1 t s z) _ (by omega), show 400 * t + (z.1 t + ((0 : Nat) : Int)) = 400 * t + z.1 t by omega]
    exact ab_upe _ _ _
  | s :: l, z, i + 1, x, h => by
    show (em t l (em1 t s z)).2 _ = _
    have e : (em1 t s z).1 t = z.1 t + 1 := ab_upe _ _ _
    have q := em_at t l (em1 t s z) i x h
    rw [e] at q
    rw [show z.1 t + ((i + 1 : Nat) : Int) = z.1 t + 1 + (i : Int) by omega]
    exact q
theorem lay_fr (t : Int) : ∀ (ks : List c_C) (lines : Int) (z : (Int → Int) × (Int → Int)) (cl : Int → Int), (∀ k, k < 400 * t + z.1 t → (c_lay t ks lines z cl).2.1 k = z.2 k) ∧ (∀ k, k < 48 * t + 4 * lines → (c_lay t ks lines z cl).2.2 k = cl k)
  | [], _, _, _ => ⟨fun _ _ => rfl, fun _ _ => rfl⟩
  | k :: ks, lines, z, cl => by
    have ih := lay_fr t ks (lines + 1) (c_z2 t k z) (rs_row cl (48 * t + 4 * lines) (z.1 t) ((c_z1 t k z).1 t) (if k.2.isSome then (c_z1 t k z).1 t else -1) ((c_z2 t k z).1 t))
    have e1 : (c_z1 t k z).1 t = z.1 t + (k.1.length : Int) := em_le t _ _
    have e2 : (c_z2 t k z).1 t = z.1 t + (k.1.length : Int) + ((k.2.getD []).length : Int) := by
      show (em t (k.2.getD []) (em t k.1 z)).1 t = _
      rw [em_le, em_le]
    refine ⟨fun j hj => ?_, fun j hj => ?_⟩
    · show (c_lay t ks (lines + 1) (c_z2 t k z) _).2.1 j = _
      rw [ih.1 j (by omega)]
      show (em t (k.2.getD []) (em t k.1 z)).2 j = _
      have e3 := em_le t k.1 z
      rw [em_lo t _ _ j (by omega), em_lo t _ _ j hj]
    · show (c_lay t ks (lines + 1) (c_z2 t k z) _).2.2 j = _
      rw [ih.2 j (by omega)]
      unfold rs_row
      rw [ab_upn _ _ (by omega), ab_upn _ _ (by omega), ab_upn _ _ (by omega), ab_upn _ _ (by omega)]
theorem ev_of {word : Int → Int64} {code : Int → Int} {l : List Int} {b e : Int} {v : Int64} (he : e = b + l.length) (h : ∀ (i : Nat) (x : Int), l[i]? = some x → code (b + i) = x) (hv : vl_r word l [] = some [v]) : sp_ev word code b e = some v := by
  unfold sp_ev
  rw [show (e - b).toNat = l.length by omega, rk_vl word code l b [] h, hv]
theorem lay_rb (word : Int → Int64) (t : Int) : ∀ (ks : List c_C) (lines : Int) (z : (Int → Int) × (Int → Int)) (cl : Int → Int), (∀ k ∈ ks, gc k) → 0 ≤ z.1 t → sp_rb word (c_lay t ks lines z cl).2.1 (c_lay t ks lines z cl).2.2 t ks.length lines = some (ck_r word ks)
  | [], _, _, _, _, _ => rfl
  | k :: ks, lines, z, cl, h, h0 => by
    obtain ⟨g1, g2⟩ := h k List.mem_cons_self
    obtain ⟨v1, -, r1, -, -⟩ := g1 word [] [] rfl (fun z => (by cases z)) (by decide)
    have e1 : (c_z1 t k z).1 t = z.1 t + (k.1.length : Int) := em_le t _ _
    have e2 : (c_z2 t k z).1 t = z.1 t + (k.1.length : Int) + ((k.2.getD []).length : Int) := by
      show (em t (k.2.getD []) (em t k.1 z)).1 t = _
      rw [em_le, em_le]
    have ih := lay_rb word t ks (lines + 1) (c_z2 t k z) (rs_row cl (48 * t + 4 * lines) (z.1 t) ((c_z1 t k z).1 t) (if k.2.isSome then (c_z1 t k z).1 t else -1) ((c_z2 t k z).1 t)) (fun k hk => h k (List.mem_cons_of_mem _ hk)) (by omega)
    have fr := lay_fr t ks (lines + 1) (c_z2 t k z) (rs_row cl (48 * t + 4 * lines) (z.1 t) ((c_z1 t k z).1 t) (if k.2.isSome then (c_z1 t k z).1 t else -1) ((c_z2 t k z).1 t))
    have el : c_lay t (k :: ks) lines z cl = c_lay t ks (lines + 1) (c_z2 t k z) (rs_row cl (48 * t + 4 * lines) (z.1 t) ((c_z1 t k z).1 t) (if k.2.isSome then (c_z1 t k z).1 t else -1) ((c_z2 t k z).1 t)) := rfl
    rw [el]
    generalize hX : c_lay t ks (lines + 1) (c_z2 t k z) (rs_row cl (48 * t + 4 * lines) (z.1 t) ((c_z1 t k z).1 t) (if k.2.isSome then (c_z1 t k z).1 t else -1) ((c_z2 t k z).1 t)) = X at ih fr ⊢
    have k0 : X.2.2 (48 * t + 4 * lines) = z.1 t := by
      rw [fr.2 _ (by omega)]
      unfold rs_row
      rw [ab_upn _ _ (by omega), ab_upn _ _ (by omega), ab_upn _ _ (by omega), ab_upe]
    have k1 : X.2.2 (48 * t + 4 * lines + 1) = z.1 t + (k.1.length : Int) := by
      rw [fr.2 _ (by omega)]
      unfold rs_row
      rw [ab_upn _ _ (by omega), ab_upn _ _ (by omega), ab_upe, e1]
    have k2 : X.2.2 (48 * t + 4 * lines + 2) = if k.2.isSome then z.1 t + (k.1.length : Int) else -1 := by
      rw [fr.2 _ (by omega)]
      unfold rs_row
      rw [ab_upn _ _ (by omega), ab_upe, e1]
    have k3 : X.2.2 (48 * t + 4 * lines + 3) = z.1 t + (k.1.length : Int) + ((k.2.getD []).length : Int) := by
      rw [fr.2 _ (by omega)]
      unfold rs_row
      rw [ab_upe, e2]
    have s1 : ∀ (i : Nat) (x : Int), k.1[i]? = some x → X.2.1 (400 * t + (z.1 t + i)) = x := by
      intro i x hi
      have hl : i < k.1.length := (List.getElem?_eq_some_iff.mp hi).1
      rw [fr.1 _ (by omega)]
      show (em t (k.2.getD []) (em t k.1 z)).2 _ = x
      have e3 := em_le t k.1 z
      rw [em_lo t _ _ _ (by omega)]
      exact em_at t k.1 z i x hi
    have ev1 : sp_ev word (fun j => X.2.1 (400 * t + j)) (X.2.2 (48 * t + 4 * lines)) (X.2.2 (48 * t + 4 * lines + 1)) = some v1 := ev_of (l := k.1) (by rw [k0, k1]) (fun i x hi => by show X.2.1 (400 * t + (X.2.2 (48 * t + 4 * lines) + i)) = x; rw [k0]; exact s1 i x hi) r1
    have c1 : ck_v word k.1 = v1 := by
      unfold ck_v
      rw [show vl_r word k.1 [] = some [v1] from r1]
    rw [List.length_cons, sp_rb]
    obtain ⟨ka, kb⟩ := k
    rcases kb with _ | l
    · have k2n : X.2.2 (48 * t + 4 * lines + 2) = -1 := k2
      rw [if_pos (by rw [k2n]; decide), ev1]
      show some v1 = some (ck_v word ka)
      rw [c1]
    · obtain ⟨v2, kk2, r2, -, -⟩ := g2 l rfl word [] [] rfl (fun _ y hy => (by cases hy)) (by decide)
      have c2 : ck_v word l = v2 := by
        unfold ck_v
        rw [show vl_r word l [] = some [v2] from r2]
      have k2' : X.2.2 (48 * t + 4 * lines + 2) = z.1 t + (ka.length : Int) := k2
      have k3' : X.2.2 (48 * t + 4 * lines + 3) = z.1 t + (ka.length : Int) + (l.length : Int) := k3
      have e2' : (c_z2 t (ka, some l) z).1 t = z.1 t + (ka.length : Int) + (l.length : Int) := e2
      have s2 : ∀ (i : Nat) (x : Int), l[i]? = some x → X.2.1 (400 * t + (z.1 t + (ka.length : Int) + i)) = x := by
        intro i x hi
        have hl : i < l.length := (List.getElem?_eq_some_iff.mp hi).1
        rw [fr.1 _ (by omega)]
        show (em t l (em t ka z)).2 _ = x
        have q := em_at t l (em t ka z) i x hi
        rw [em_le] at q
        exact q
      have ev2 : sp_ev word (fun j => X.2.1 (400 * t + j)) (X.2.2 (48 * t + 4 * lines + 2)) (X.2.2 (48 * t + 4 * lines + 3)) = some v2 := ev_of (l := l) (by rw [k2', k3']) (fun i x hi => by show X.2.1 (400 * t + (X.2.2 (48 * t + 4 * lines + 2) + i)) = x; rw [k2']; exact s2 i x hi) r2
      rw [if_neg (by rw [k2']; omega), ev2, ev1]
      show (if v2 = 1 then some v1 else sp_rb word X.2.1 X.2.2 t ks.length (lines + 1)) = some (if ck_v word l = 1 then ck_v word ka else ck_r word ks)
      rw [c1, c2, ih]
      by_cases q : v2 = 1
      · rw [if_pos q, if_pos q]
      · rw [if_neg q, if_neg q]
theorem lay_E {t : Int} {ks : List c_C} {z : (Int → Int) × (Int → Int)} {cl : Int → Int} (h : ∀ k ∈ ks, gc k) (h0 : 0 ≤ z.1 t) (g : Int → Int) : sp_E (c_lay t ks 0 z cl).2.1 (c_lay t ks 0 z cl).2.2 t ks.length g = ck_E ks g := by
  unfold sp_E ck_E
  rw [Int.toNat_natCast, lay_rb (sp_wf g) t ks 0 z cl h h0]
  rfl
