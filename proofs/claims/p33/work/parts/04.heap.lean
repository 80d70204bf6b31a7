/-! rules: stores into locals -/
theorem ab_cl_len (l : ab_L) (i : Nat) : (ab_cl l i).length = l.length := by
  cases i with
  | zero => rfl
  | succ j => simp only [ab_cl]; split <;> simp
theorem ab_cl_get {l : ab_L} {i j : Nat} {u : ab_V} (h : (ab_cl l i)[j]? = some (some u)) : l[j]? = some (some u) ∧ (j + 1 = i → ab_c1 u = true) := by
  cases i with
  | zero => exact ⟨h, fun q => by omega⟩
  | succ k =>
    simp only [ab_cl] at h
    split at h
    · rename_i hk
      by_cases hjk : k = j
      · subst hjk
        rw [List.getElem?_set] at h
        split at h
        · split at h <;> simp at h
        · rename_i q; exact absurd rfl q
      · rw [List.getElem?_set_ne hjk] at h
        exact ⟨h, fun q => by omega⟩
    · rename_i hk
      refine ⟨h, fun q => ?_⟩
      have e : j = k := by omega
      subst e
      rw [h] at hk
      rcases u with a | a | _ | a <;> first | rfl | exact absurd rfl hk
theorem ab_c1_cat {as : Nat → Nat} {v : ab_V} (h : ab_c1 v = true) : ((ab_cv as v).category == 2) = false := by rw [ab_cat h]; rfl
theorem ab_lo_s1 {as : Nat → Nat} {ls' : Array Slot} {nL i : Nat} {l : ab_L} {lv : List (Nat × Value)} {v : ab_V} (hlen : l.length = nL) (hm : ∀ (j : Nat) (u : ab_V), l[j]? = some (some u) → (j, ab_cv as u) ∈ lv) (h' : lv_has ls' nL ((i, ab_cv as v) :: lv.filter (fun q => !(q.1 == i) && !(q.1 + 1 == i && q.2.category == 2)))) : ab_lo as ls' nL (ab_s1 l i v) := by
  refine ⟨by unfold ab_s1; rw [List.length_set, ab_cl_len, hlen], _, h', fun j u hj => ?_⟩
  unfold ab_s1 at hj
  rw [List.getElem?_set] at hj
  split at hj
  · rename_i e
    subst e
    split at hj
    · cases hj
      exact List.mem_cons_self
    · simp at hj
  · rename_i e
    obtain ⟨h1, h2⟩ := ab_cl_get hj
    refine List.mem_cons_of_mem _ (List.mem_filter.mpr ⟨hm j u h1, ?_⟩)
    have e1 : (j == i) = false := by simp; omega
    by_cases e2 : j + 1 = i
    · simp only [e1, ab_c1_cat (h2 e2)]; simp
    · have e3 : (j + 1 == i) = false := by simp; omega
      simp only [e1, e3]; simp
theorem ab_lo_s2 {as : Nat → Nat} {ls' : Array Slot} {nL i : Nat} {l : ab_L} {lv : List (Nat × Value)} {v : ab_V} (hlen : l.length = nL) (hm : ∀ (j : Nat) (u : ab_V), l[j]? = some (some u) → (j, ab_cv as u) ∈ lv) (h' : lv_has ls' nL ((i, ab_cv as v) :: lv.filter (fun q => !(q.1 == i) && (!(q.1 == i + 1) && !(q.1 + 1 == i && q.2.category == 2))))) : ab_lo as ls' nL (ab_s2 l i v) := by
  refine ⟨by unfold ab_s2; rw [List.length_set, List.length_set, ab_cl_len, hlen], _, h', fun j u hj => ?_⟩
  unfold ab_s2 at hj
  rw [List.getElem?_set] at hj
  split at hj
  · split at hj <;> simp at hj
  · rename_i e0
    rw [List.getElem?_set] at hj
    split at hj
    · rename_i e
      subst e
      split at hj
      · cases hj
        exact List.mem_cons_self
      · simp at hj
    · rename_i e
      obtain ⟨h1, h2⟩ := ab_cl_get hj
      refine List.mem_cons_of_mem _ (List.mem_filter.mpr ⟨hm j u h1, ?_⟩)
      have e1 : (j == i) = false := by simp; omega
      have e4 : (j == i + 1) = false := by simp; omega
      by_cases e2 : j + 1 = i
      · simp only [e1, e4, ab_c1_cat (h2 e2)]; simp
      · have e3 : (j + 1 == i) = false := by simp; omega
        simp only [e1, e3, e4]; simp
section EVB
variable {G : ab_G} {rs : List String} {M : ab_M} {d bc bs pc : Nat} {l l' : ab_L} {st : List ab_V} {w : ab_W} {Q : Option ab_V → ab_W → Prop}
theorem ab_gol {pc' : Nat} {st st' : List ab_V}
    (h : ∀ {p : Program} {la : Launch} {e : Env} {R : Room} {s : State} {m : MethodId} {args : Array Value} {below : List Frame} {meth : Method} {c : Code} {H : Heap} {locs : List Loc} {cells slots : Nat} {Qz : State → Prop} {ls : Array Slot} (as : Nat → Nat), p.tables.exec = Jvm.exec → c.code = M.2.1 → ab_lo as ls M.2.2.1 l →
      (∀ ls' : Array Slot, ab_lo as ls' M.2.2.1 l' → W p la e R s m args below meth c H locs cells slots Qz (F0 m pc' ls' (st'.map (ab_cv as)))) → W p la e R s m args below meth c H locs cells slots Qz (F0 m pc ls (st.map (ab_cv as))))
    (k : ab_Ev G rs M d bc bs pc' l' st' w Q) : ab_Ev G rs M d bc bs pc l st w Q := by
  intro p la e R s m args below meth c H locs cells slots D dA aK aV as A ls Qc free hF hs hP hD hS hl h1 h2 hR
  exact h as hF.1 hF.2.1 hl (fun ls' hl' => k p la e R s m args below meth c H locs cells slots D dA aK aV as A ls' Qc free hF hs hP hD hS hl' h1 h2 hR)
theorem ev_istore_n {k : Fin 4} {i : Nat} {a : Int} (hd : decode M.2.1 pc = .ok (.istore_n k, 1)) (hi : (k : Nat) = i) (hn : i < l.length) (hl : ab_s1 l i (.inl a) = l') (kk : ab_Ev G rs M d bc bs (pc + 1) l' st w Q) : ab_Ev G rs M d bc bs pc l (.inl a :: st) w Q := ab_gol (fun _ hx hb hL kk => by
  obtain ⟨h1, lv, h2, h3⟩ := hL
  subst hl
  exact lv_istore_n hx hb hd hi h2 (by omega) rfl (fun ls' h' => kk ls' (ab_lo_s1 h1 h3 h'))) kk
theorem ev_istore {i : Nat} {a : Int} (hd : decode M.2.1 pc = .ok (.istore i, 2)) (hn : i < l.length) (hl : ab_s1 l i (.inl a) = l') (kk : ab_Ev G rs M d bc bs (pc + 2) l' st w Q) : ab_Ev G rs M d bc bs pc l (.inl a :: st) w Q := ab_gol (fun _ hx hb hL kk => by
  obtain ⟨h1, lv, h2, h3⟩ := hL
  subst hl
  exact lv_istore hx hb hd h2 (by omega) rfl (fun ls' h' => kk ls' (ab_lo_s1 h1 h3 h'))) kk
theorem ev_astore_n {k : Fin 4} {i : Nat} {a : Nat} (hd : decode M.2.1 pc = .ok (.astore_n k, 1)) (hi : (k : Nat) = i) (hn : i < l.length) (hl : ab_s1 l i (.inr (.inr (some a))) = l') (kk : ab_Ev G rs M d bc bs (pc + 1) l' st w Q) : ab_Ev G rs M d bc bs pc l (.inr (.inr (some a)) :: st) w Q := ab_gol (fun _ hx hb hL kk => by
  obtain ⟨h1, lv, h2, h3⟩ := hL
  subst hl
  exact lv_astore_n hx hb hd hi h2 (by omega) rfl (fun ls' h' => kk ls' (ab_lo_s1 h1 h3 h'))) kk
theorem ev_lstore_n {k : Fin 4} {i : Nat} {a : Int64} (hd : decode M.2.1 pc = .ok (.lstore_n k, 1)) (hi : (k : Nat) = i) (hn : i + 1 < l.length) (hl : ab_s2 l i (.inr (.inl a)) = l') (kk : ab_Ev G rs M d bc bs (pc + 1) l' st w Q) : ab_Ev G rs M d bc bs pc l (.inr (.inl a) :: st) w Q := ab_gol (fun _ hx hb hL kk => by
  obtain ⟨h1, lv, h2, h3⟩ := hL
  subst hl
  exact lv_lstore_n hx hb hd hi h2 (by omega) rfl (fun ls' h' => kk ls' (ab_lo_s2 h1 h3 h'))) kk
theorem ev_lstore {i : Nat} {a : Int64} (hd : decode M.2.1 pc = .ok (.lstore i, 2)) (hn : i + 1 < l.length) (hl : ab_s2 l i (.inr (.inl a)) = l') (kk : ab_Ev G rs M d bc bs (pc + 2) l' st w Q) : ab_Ev G rs M d bc bs pc l (.inr (.inl a) :: st) w Q := ab_gol (fun _ hx hb hL kk => by
  obtain ⟨h1, lv, h2, h3⟩ := hL
  subst hl
  exact lv_lstore hx hb hd h2 (by omega) rfl (fun ls' h' => kk ls' (ab_lo_s2 h1 h3 h'))) kk
theorem ev_iinc {i : Nat} {n a : Int} (hd : decode M.2.1 pc = .ok (.iinc i n, 3)) (hi : l[i]? = some (some (.inl a))) (hl : ab_s1 l i (.inl (a + n)) = l') (kk : ab_Ev G rs M d bc bs (pc + 3) l' st w Q) : ab_Ev G rs M d bc bs pc l st w Q := ab_gol (fun as hx hb hL kk => by
  obtain ⟨h1, lv, h2, h3⟩ := hL
  subst hl
  have hm := h3 i _ hi
  obtain ⟨k, hk⟩ := List.getElem?_of_mem hm
  have hlt : i < l.length := (List.getElem?_eq_some_iff.mp hi).1
  exact lv_iinc hx hb hd h2 hk (Int32.ofInt_add a n).symm (by omega) rfl (fun ls' h' => kk ls' (ab_lo_s1 h1 h3 h'))) kk
end EVB
/-! worlds -/
theorem ab_cw_get {dA : Nat → ClassId} {as : Nat → Nat} {w : ab_W} {o : Nat} {e : ab_E} (h : w[o]? = some e) : (ab_cw dA as w)[o]? = some (as o, ab_ce dA as e) := by
  unfold ab_cw
  rw [List.getElem?_mapIdx, h]
  rfl
theorem ab_cw_of {dA : Nat → ClassId} {as : Nat → Nat} {w : ab_W} {o : Nat} {q : Nat × va_E} (h : (ab_cw dA as w)[o]? = some q) : ∃ e, w[o]? = some e ∧ q = (as o, ab_ce dA as e) := by
  unfold ab_cw at h
  rw [List.getElem?_mapIdx] at h
  cases hw : w[o]? with
  | none => rw [hw] at h; simp at h
  | some e => rw [hw] at h; exact ⟨e, rfl, (Option.some.inj h).symm⟩
theorem ab_cw_set (dA : Nat → ClassId) (as : Nat → Nat) (w : ab_W) (o : Nat) (e : ab_E) : (ab_cw dA as w).set o (as o, ab_ce dA as e) = ab_cw dA as (w.set o e) := by
  apply List.ext_getElem?
  intro i
  unfold ab_cw
  rw [List.getElem?_mapIdx, List.getElem?_set, List.getElem?_set, List.length_mapIdx, List.getElem?_mapIdx]
  split
  · rename_i e1
    subst e1
    split <;> rfl
  · rfl
theorem ab_Rt.len {G : ab_G} {s : State} {args : Array Value} {D : va_G} {dA : Nat → ClassId} {as : Nat → Nat} {A : Nat → Prop} {w w1 : ab_W} {Q : Option ab_V → ab_W → Prop} {Qc : Array Value → State → Outcome → State → Prop} {free : Addr → Prop} (h : ab_Rt G s args D dA as A w Q Qc free) (e : w1.length = w.length) : ab_Rt G s args D dA as A w1 Q Qc free := by
  intro r w' as' H' locs' h1 h2 h3 h4 h5 h6 h7
  exact h r w' as' H' locs' h1 (by omega) (fun i hi => h3 i (by omega)) (fun q => h4 (by omega)) h5 h6 h7
def ab_ft : FieldType → ab_V → Prop
  | .int, .inl _ => True
  | .boolean, .inl a => a = 0 ∨ a = 1
  | .long, .inr (.inl _) => True
  | .object _, .inr (.inr _) => True
  | .array _, .inr (.inr _) => True
  | _, _ => False
theorem ab_ft_ok {ty : FieldType} {v : ab_V} {as : Nat → Nat} (h : ab_ft ty v) : narrow ty (ab_cv as v) = ab_cv as v ∧ fits ty (ab_cv as v) = true := by
  cases ty <;> rcases v with a | a | _ | a <;> first | exact absurd h id | exact ⟨rfl, rfl⟩ | skip
  rcases h with rfl | rfl <;> exact ⟨rfl, rfl⟩
/-- a field's word: by the class's own link, or a nest mate's -/
def ab_lk (G : ab_G) (own : String) (idx : Nat) (q : String × String × String × Bool) : Prop := Cond.fieldLink own idx q.1 q.2.1 q.2.2.1 ∈ G.2.1 ∨ ∃ h, Cond.fieldLinkNest own idx q.1 q.2.1 q.2.2.1 h ∈ G.2.2.1
def ab_fl (G : ab_G) (own : String) (idx ci k : Nat) : Prop := ∃ (C : String) (T : u_T) (N : Nat), G.1[ci]? = some (C, T, N) ∧ k < N ∧ (∀ x ∈ u_ws C T N, x ∈ G.2.1) ∧ ab_lk G own idx (T k)
def ab_fp (G : ab_G) (own nm : String) (idx ci k : Nat) (ty : FieldType) : Prop := ∃ (C : String) (T : u_T) (N : Nat) (ty0 : Nat → FieldType), G.1[ci]? = some (C, T, N) ∧ k < N ∧ (∀ x ∈ u_ws C T N, x ∈ G.2.1) ∧ (∀ j, j < N → parseFieldDescriptor (T j).2.2.1 = some (ty0 j)) ∧ (∀ a, a < N → ∀ b, b < N → a ≠ b → (T a).2.1 ≠ (T b).2.1) ∧ ty0 k = ty ∧
  ((ab_lk G own idx (T k) ∧ (T k).2.2.2 = false) ∨ (Cond.fieldLink own idx (T k).1 (T k).2.1 (T k).2.2.1 ∈ G.2.1 ∧ (T k).2.2.2 = true ∧ nm = "<init>" ∧ (T k).1 = own))
section EVC
variable {G : ab_G} {rs : List String} {M : ab_M} {d bc bs pc : Nat} {l : ab_L} {st : List ab_V} {w : ab_W} {Q : Option ab_V → ab_W → Prop}
theorem ev_getfield {o ci k idx : Nat} {fs : List ab_V} {v : ab_V} (hd : decode M.2.1 pc = .ok (.getfield idx, 3)) (hw : w[o]? = some (ab_ob ci fs)) (hf : ab_fl G M.1.cls idx ci k) (hv : fs[k]? = some v) (kk : ab_Ev G rs M d bc bs (pc + 3) l (v :: st) w Q) : ab_Ev G rs M d bc bs pc l (.inr (.inr (some o)) :: st) w Q := by
  intro p la e R s m args below meth c H locs cells slots D dA aK aV as A ls Qc free hF hs hP hD hS hl h1 h2 hR
  have kk := kk p la e R s m args below meth c H locs cells slots D dA aK aV as A ls Qc free hF hs hP hD hS hl h1 h2 hR
  obtain ⟨hx, hb, -, -, -, ho, -, ht, -, -, hC, -⟩ := hF
  obtain ⟨C, T, N, g1, g2, g3, g4⟩ := hf
  have hv' : (fs.map (ab_cv as))[k]? = some (ab_cv as v) := by rw [List.getElem?_map, hv]; rfl
  rcases g4 with g4 | ⟨h, g4⟩
  · exact va_get hx hb ht (fun x hx => List.mem_cons_of_mem _ (g3 x hx)) ho hC.1 hP o (ab_cw_get hw) g1 k g2 (ht _ (List.mem_cons_of_mem _ g4)) (fun _ h => h) hv' hd kk
  · exact va_getN hx hb ht (fun x hx => List.mem_cons_of_mem _ (g3 x hx)) ho hC.1 hP o (ab_cw_get hw) g1 k g2 (va_Nw.use rfl (hC.2.2.1 _ g4)) (fun _ h => h) hv' hd kk
theorem ev_putfield {o ci k idx : Nat} {fs : List ab_V} {v : ab_V} {ty : FieldType} (hd : decode M.2.1 pc = .ok (.putfield idx, 3)) (hw : w[o]? = some (ab_ob ci fs)) (hf : ab_fp G M.1.cls M.1.name idx ci k ty) (hk : k < fs.length) (hv : ab_ft ty v) (kk : ab_Ev G rs M d bc bs (pc + 3) l st (w.set o (ab_ob ci (fs.set k v))) Q) : ab_Ev G rs M d bc bs pc l (v :: .inr (.inr (some o)) :: st) w Q := by
  intro p la e R s m args below meth c H locs cells slots D dA aK aV as A ls Qc free hF hs hP hD hS hl h1 h2 hR
  have kk := fun H1 locs1 hP1 hD1 hS1 => kk p la e R s m args below meth c H1 locs1 cells slots D dA aK aV as A ls Qc free hF hs hP1 hD1 hS1 hl h1 h2 (hR.len (List.length_set ..))
  obtain ⟨hx, hb, -, -, -, ho, hn, ht, -, -, hC, -⟩ := hF
  obtain ⟨C, T, N, ty0, g1, g2, g3, g5, g6, g7, g4⟩ := hf
  subst g7
  have e1 : ab_cw dA as (w.set o (ab_ob ci (fs.set k v))) = (ab_cw dA as w).set o (as o, .inr (ci, (fs.map (ab_cv as)).set k (ab_cv as v))) := by
    rw [← ab_cw_set]
    show _ = _
    rw [← List.map_set]
    rfl
  rw [e1] at kk
  have hv' := ab_ft_ok (as := as) hv
  rcases g4 with ⟨g4 | ⟨h, g4⟩, gf⟩ | ⟨g4, gf, gi, gc⟩
  · exact va_put hx hb ht (fun x hx => List.mem_cons_of_mem _ (g3 x hx)) ty0 g5 g6 ho hC.1 hP hD hS o (ab_cw_get hw) g1 k g2 (ht _ (List.mem_cons_of_mem _ g4)) (fun _ h => h) gf (g5 k g2) hv'.1 hv'.2 (by simpa using hk) hd kk
  · exact va_putN hx hb ht (fun x hx => List.mem_cons_of_mem _ (g3 x hx)) ty0 g5 g6 ho hC.1 hP hD hS o (ab_cw_get hw) g1 k g2 (va_Nw.use rfl (hC.2.2.1 _ g4)) (fun _ h => h) gf (g5 k g2) hv'.1 hv'.2 (by simpa using hk) hd kk
  · exact va_putF hx hb ht (fun x hx => List.mem_cons_of_mem _ (g3 x hx)) ty0 g5 g6 ho hC.1 hP hD hS o (ab_cw_get hw) g1 k g2 (ht _ (List.mem_cons_of_mem _ g4)) (fun _ h => h) gf (hn.trans gi) gc (g5 k g2) hv'.1 hv'.2 (by simpa using hk) hd kk

theorem ev_iaload {o n : Nat} {f : Int → Int} {j : Int} (hd : decode M.2.1 pc = .ok (.iaload, 1)) (hw : w[o]? = some (ab_ai 0 n f)) (h0 : 0 ≤ j) (hn : j < n) (hj : ab_in j) (kk : ab_Ev G rs M d bc bs (pc + 1) l (.inl (f j) :: st) w Q) : ab_Ev G rs M d bc bs pc l (.inl j :: .inr (.inr (some o)) :: st) w Q := by
  intro p la e R s m args below meth c H locs cells slots D dA aK aV as A ls Qc free hF hs hP hD hS hl h1 h2 hR
  have kk := kk p la e R s m args below meth c H locs cells slots D dA aK aV as A ls Qc free hF hs hP hD hS hl h1 h2 hR
  obtain ⟨hx, hb, -, -, -, ho, -, ht, -, -, hC, -⟩ := hF
  refine va_iald hx hb hC.1 hP o 0 (ab_cw_get hw) rfl (ab_ix h0 hn hj) hd ?_
  rw [ab_tn hj]
  have e1 : ((j.toNat : Nat) : Int) = j := Int.toNat_of_nonneg h0
  show W p la e R s m args below meth c H locs cells slots _ (F0 m (pc + 1) ls (.int (Int32.ofInt (f ((j.toNat : Nat) : Int))) :: _))
  rw [e1]
  exact kk
theorem ev_baload {o n : Nat} {f : Int → Int} {j : Int} (hd : decode M.2.1 pc = .ok (.baload, 1)) (hw : w[o]? = some (ab_ai 1 n f)) (h0 : 0 ≤ j) (hn : j < n) (hj : ab_in j) (kk : ab_Ev G rs M d bc bs (pc + 1) l (.inl (f j) :: st) w Q) : ab_Ev G rs M d bc bs pc l (.inl j :: .inr (.inr (some o)) :: st) w Q := by
  intro p la e R s m args below meth c H locs cells slots D dA aK aV as A ls Qc free hF hs hP hD hS hl h1 h2 hR
  have kk := kk p la e R s m args below meth c H locs cells slots D dA aK aV as A ls Qc free hF hs hP hD hS hl h1 h2 hR
  obtain ⟨hx, hb, -, -, -, ho, -, ht, -, -, hC, -⟩ := hF
  refine va_bald hx hb hC.1 hP o 1 (ab_cw_get hw) rfl (ab_ix h0 hn hj) hd ?_
  rw [ab_tn hj]
  have e1 : ((j.toNat : Nat) : Int) = j := Int.toNat_of_nonneg h0
  show W p la e R s m args below meth c H locs cells slots _ (F0 m (pc + 1) ls (.int (Int32.ofInt (f ((j.toNat : Nat) : Int))) :: _))
  rw [e1]
  exact kk
theorem ev_zaload {o n : Nat} {f : Int → Int} {j : Int} (hd : decode M.2.1 pc = .ok (.baload, 1)) (hw : w[o]? = some (ab_ai 2 n f)) (h0 : 0 ≤ j) (hn : j < n) (hj : ab_in j) (kk : ab_Ev G rs M d bc bs (pc + 1) l (.inl (f j) :: st) w Q) : ab_Ev G rs M d bc bs pc l (.inl j :: .inr (.inr (some o)) :: st) w Q := by
  intro p la e R s m args below meth c H locs cells slots D dA aK aV as A ls Qc free hF hs hP hD hS hl h1 h2 hR
  have kk := kk p la e R s m args below meth c H locs cells slots D dA aK aV as A ls Qc free hF hs hP hD hS hl h1 h2 hR
  obtain ⟨hx, hb, -, -, -, ho, -, ht, -, -, hC, -⟩ := hF
  refine va_zald hx hb hC.1 hP o 2 (ab_cw_get hw) rfl (ab_ix h0 hn hj) hd ?_
  rw [ab_tn hj]
  have e1 : ((j.toNat : Nat) : Int) = j := Int.toNat_of_nonneg h0
  show W p la e R s m args below meth c H locs cells slots _ (F0 m (pc + 1) ls (.int (Int32.ofInt (f ((j.toNat : Nat) : Int))) :: _))
  rw [e1]
  exact kk
theorem ev_laload {o n : Nat} {f : Int → Int64} {j : Int} (hd : decode M.2.1 pc = .ok (.laload, 1)) (hw : w[o]? = some (ab_al n f)) (h0 : 0 ≤ j) (hn : j < n) (hj : ab_in j) (kk : ab_Ev G rs M d bc bs (pc + 1) l (.inr (.inl (f j)) :: st) w Q) : ab_Ev G rs M d bc bs pc l (.inl j :: .inr (.inr (some o)) :: st) w Q := by
  intro p la e R s m args below meth c H locs cells slots D dA aK aV as A ls Qc free hF hs hP hD hS hl h1 h2 hR
  have kk := kk p la e R s m args below meth c H locs cells slots D dA aK aV as A ls Qc free hF hs hP hD hS hl h1 h2 hR
  obtain ⟨hx, hb, -, -, -, ho, -, ht, -, -, hC, -⟩ := hF
  refine va_lald hx hb hC.1 hP o 3 (ab_cw_get hw) rfl (ab_ix h0 hn hj) hd ?_
  rw [ab_tn hj]
  have e1 : ((j.toNat : Nat) : Int) = j := Int.toNat_of_nonneg h0
  show W p la e R s m args below meth c H locs cells slots _ (F0 m (pc + 1) ls (.long (f ((j.toNat : Nat) : Int)) :: _))
  rw [e1]
  exact kk
theorem ab_upok {n : Nat} {f : Int → Int} {j : Int} {x : Int} (h0 : 0 ≤ j) : upd (fun k : Nat => Int32.ofInt (f (k : Int))) j.toNat (Int32.ofInt x) = fun k : Nat => Int32.ofInt (ab_up f j x (k : Int)) := by
  funext k
  unfold upd ab_up
  by_cases h : k = j.toNat
  · rw [if_pos h, if_pos (by omega)]
  · rw [if_neg h, if_neg (by omega)]
theorem ab_upokL {f : Int → Int64} {j : Int} {x : Int64} (h0 : 0 ≤ j) : vp_updL (fun k : Nat => f (k : Int)) j.toNat x = fun k : Nat => ab_up f j x (k : Int) := by
  funext k
  unfold vp_updL ab_up
  by_cases h : k = j.toNat
  · rw [if_pos h, if_pos (by omega)]
  · rw [if_neg h, if_neg (by omega)]
theorem ab_upokR {f : Int → Option Nat} {as : Nat → Nat} {j : Int} {x : Nat} (h0 : 0 ≤ j) : va_up (fun k : Nat => (f (k : Int)).map as) j.toNat (some (as x)) = fun k : Nat => (ab_up f j (some x) (k : Int)).map as := by
  funext k
  unfold va_up ab_up
  by_cases h : k = j.toNat
  · rw [if_pos h, if_pos (by omega)]; rfl
  · rw [if_neg h, if_neg (by omega)]
theorem ev_iastore {o n : Nat} {f : Int → Int} {j x : Int} (hd : decode M.2.1 pc = .ok (.iastore, 1)) (hw : w[o]? = some (ab_ai 0 n f)) (h0 : 0 ≤ j) (hn : j < n) (hj : ab_in j) (kk : ab_Ev G rs M d bc bs (pc + 1) l st (w.set o (ab_ai 0 n (ab_up f j x))) Q) : ab_Ev G rs M d bc bs pc l (.inl x :: .inl j :: .inr (.inr (some o)) :: st) w Q := by
  intro p la e R s m args below meth c H locs cells slots D dA aK aV as A ls Qc free hF hs hP hD hS hl h1 h2 hR
  have kk := fun H1 locs1 hP1 hD1 hS1 => kk p la e R s m args below meth c H1 locs1 cells slots D dA aK aV as A ls Qc free hF hs hP1 hD1 hS1 hl h1 h2 (hR.len (List.length_set ..))
  obtain ⟨hx, hb, -, -, -, ho, hn, ht, -, -, hC, -⟩ := hF
  rw [← ab_cw_set] at kk
  refine va_iast hx hb hC.1 hP hD hS o 0 (ab_cw_get hw) rfl (ab_ix h0 ‹_› hj) hd ?_
  rw [ab_tn hj, ab_upok (n := n) h0]
  exact kk
theorem ev_bastore {o n : Nat} {f : Int → Int} {j x : Int} (hd : decode M.2.1 pc = .ok (.bastore, 1)) (hw : w[o]? = some (ab_ai 1 n f)) (h0 : 0 ≤ j) (hn : j < n) (hj : ab_in j) (kk : ab_Ev G rs M d bc bs (pc + 1) l st (w.set o (ab_ai 1 n (ab_up f j (x.bmod 256)))) Q) : ab_Ev G rs M d bc bs pc l (.inl x :: .inl j :: .inr (.inr (some o)) :: st) w Q := by
  intro p la e R s m args below meth c H locs cells slots D dA aK aV as A ls Qc free hF hs hP hD hS hl h1 h2 hR
  have kk := fun H1 locs1 hP1 hD1 hS1 => kk p la e R s m args below meth c H1 locs1 cells slots D dA aK aV as A ls Qc free hF hs hP1 hD1 hS1 hl h1 h2 (hR.len (List.length_set ..))
  obtain ⟨hx, hb, -, -, -, ho, hn, ht, -, -, hC, -⟩ := hF
  rw [← ab_cw_set] at kk
  refine va_bast hx hb hC.1 hP hD hS o 1 (ab_cw_get hw) rfl (ab_ix h0 ‹_› hj) hd ?_
  rw [ab_tn hj, vp_nar_byte, ab_i2b, ab_upok (n := n) h0]
  exact kk
theorem ev_zastore {o n : Nat} {f : Int → Int} {j x : Int} (hd : decode M.2.1 pc = .ok (.bastore, 1)) (hw : w[o]? = some (ab_ai 2 n f)) (h0 : 0 ≤ j) (hn : j < n) (hj : ab_in j) (hx : x = 0 ∨ x = 1) (kk : ab_Ev G rs M d bc bs (pc + 1) l st (w.set o (ab_ai 2 n (ab_up f j x))) Q) : ab_Ev G rs M d bc bs pc l (.inl x :: .inl j :: .inr (.inr (some o)) :: st) w Q := by
  intro p la e R s m args below meth c H locs cells slots D dA aK aV as A ls Qc free hF hs hP hD hS hl h1 h2 hR
  have kk := fun H1 locs1 hP1 hD1 hS1 => kk p la e R s m args below meth c H1 locs1 cells slots D dA aK aV as A ls Qc free hF hs hP1 hD1 hS1 hl h1 h2 (hR.len (List.length_set ..))
  obtain ⟨hx', hb, -, -, -, ho, hn, ht, -, -, hC, -⟩ := hF
  rw [← ab_cw_set] at kk
  refine va_zast hx' hb hC.1 hP hD hS o 2 (ab_cw_get hw) rfl (ab_ix h0 ‹_› hj) hd ?_
  have e : vp_nar .boolean (Int32.ofInt x) = Int32.ofInt x := by rcases hx with rfl | rfl <;> decide
  rw [ab_tn hj, e, ab_upok (n := n) h0]
  exact kk
theorem ev_lastore {o n : Nat} {f : Int → Int64} {j : Int} {x : Int64} (hd : decode M.2.1 pc = .ok (.lastore, 1)) (hw : w[o]? = some (ab_al n f)) (h0 : 0 ≤ j) (hn : j < n) (hj : ab_in j) (kk : ab_Ev G rs M d bc bs (pc + 1) l st (w.set o (ab_al n (ab_up f j x))) Q) : ab_Ev G rs M d bc bs pc l (.inr (.inl x) :: .inl j :: .inr (.inr (some o)) :: st) w Q := by
  intro p la e R s m args below meth c H locs cells slots D dA aK aV as A ls Qc free hF hs hP hD hS hl h1 h2 hR
  have kk := fun H1 locs1 hP1 hD1 hS1 => kk p la e R s m args below meth c H1 locs1 cells slots D dA aK aV as A ls Qc free hF hs hP1 hD1 hS1 hl h1 h2 (hR.len (List.length_set ..))
  obtain ⟨hx, hb, -, -, -, ho, hn, ht, -, -, hC, -⟩ := hF
  rw [← ab_cw_set] at kk
  refine va_last hx hb hC.1 hP hD hS o 3 (ab_cw_get hw) rfl (ab_ix h0 ‹_› hj) hd ?_
  rw [ab_tn hj, ab_upokL h0]
  exact kk
theorem ab_tyR {G : ab_G} {rs : List String} {dA : Nat → ClassId} {t : Nat} {C : String} (h : rs[t]? = some C) : (ab_ty G rs dA)[4 + t]? = some (dA (4 + t), .object C) := by
  unfold ab_ty
  rw [List.getElem?_append_right (by simp)]
  simp only [List.length_cons, List.length_nil]
  rw [List.getElem?_mapIdx, show 4 + t - (0 + 1 + 1 + 1 + 1) = t by omega, h]
  rfl
theorem ev_aaload {o n t x : Nat} {C : String} {f : Int → Option Nat} {j : Int} (hd : decode M.2.1 pc = .ok (.aaload, 1)) (hw : w[o]? = some (ab_ar (4 + t) n f)) (ht : rs[t]? = some C) (h0 : 0 ≤ j) (hn : j < n) (hj : ab_in j) (hx : f j = some x) (kk : ab_Ev G rs M d bc bs (pc + 1) l (.inr (.inr (some x)) :: st) w Q) : ab_Ev G rs M d bc bs pc l (.inl j :: .inr (.inr (some o)) :: st) w Q := by
  intro p la e R s m args below meth c H locs cells slots D dA aK aV as A ls Qc free hF hs hP hD hS hl h1 h2 hR
  have kk := kk p la e R s m args below meth c H locs cells slots D dA aK aV as A ls Qc free hF hs hP hD hS hl h1 h2 hR
  obtain ⟨hx', hb, -, -, -, ho, -, -, -, -, hC, -⟩ := hF
  refine va_aldq hx' hb hC.1 hP o (4 + t) (ab_cw_get hw) (ab_tyR ht) (ab_ix h0 hn hj) hd ?_
  rw [ab_tn hj]
  have e1 : ((j.toNat : Nat) : Int) = j := Int.toNat_of_nonneg h0
  show W p la e R s m args below meth c H locs cells slots _ (F0 m (pc + 1) ls (va_rf ((f ((j.toNat : Nat) : Int)).map as) :: _))
  rw [e1, hx]
  exact kk
theorem ev_aastore {o n t x ci : Nat} {r : vw_C} {fs : List ab_V} {f : Int → Option Nat} {j : Int} (hd : decode M.2.1 pc = .ok (.aastore, 1)) (hw : w[o]? = some (ab_ar (4 + t) n f)) (ht : rs[t]? = some r.1) (hc : G.1[ci]? = some r) (hv : w[x]? = some (ab_ob ci fs)) (h0 : 0 ≤ j) (hn : j < n) (hj : ab_in j) (kk : ab_Ev G rs M d bc bs (pc + 1) l st (w.set o (ab_ar (4 + t) n (ab_up f j (some x)))) Q) : ab_Ev G rs M d bc bs pc l (.inr (.inr (some x)) :: .inl j :: .inr (.inr (some o)) :: st) w Q := by
  intro p la e R s m args below meth c H locs cells slots D dA aK aV as A ls Qc free hF hs hP hD hS hl h1 h2 hR
  have kk := fun H1 locs1 hP1 hD1 hS1 => kk p la e R s m args below meth c H1 locs1 cells slots D dA aK aV as A ls Qc free hF hs hP1 hD1 hS1 hl h1 h2 (hR.len (List.length_set ..))
  obtain ⟨hx', hb, -, -, -, ho, -, -, -, -, hC, -⟩ := hF
  rw [← ab_cw_set] at kk
  refine va_astq hx' hb hC.1 hP hD hS o (4 + t) x ci (ab_cw_get hw) (ab_tyR ht) (ab_cw_get hv) hc (ab_ix h0 ‹_› hj) hd ?_
  rw [ab_tn hj, ab_upokR h0]
  exact kk
theorem ev_alen {o : Nat} {E : ab_E} {n : Nat} {t : Nat} (hd : decode M.2.1 pc = .ok (.arraylength, 1)) (hw : w[o]? = some E) (hE : (∃ t f, t < 3 ∧ E = ab_ai t n f) ∨ (∃ f, E = ab_al n f) ∨ ∃ t f C, rs[t]? = some C ∧ E = ab_ar (4 + t) n f) (kk : ab_Ev G rs M d bc bs (pc + 1) l (.inl (n : Int) :: st) w Q) : ab_Ev G rs M d bc bs pc l (.inr (.inr (some o)) :: st) w Q := by
  intro p la e R s m args below meth c H locs cells slots D dA aK aV as A ls Qc free hF hs hP hD hS hl h1 h2 hR
  have kk := kk p la e R s m args below meth c H locs cells slots D dA aK aV as A ls Qc free hF hs hP hD hS hl h1 h2 hR
  obtain ⟨hx', hb, -, -, -, ho, -, -, -, -, hC, -⟩ := hF
  rcases hE with ⟨t, f, h3, rfl⟩ | ⟨f, rfl⟩ | ⟨t, f, C, h3, rfl⟩
  · have ht : ∃ ty, (ab_ty G rs dA)[t]? = some (dA t, ty) := by
      rcases (by omega : t = 0 ∨ t = 1 ∨ t = 2) with rfl | rfl | rfl <;> exact ⟨_, rfl⟩
    obtain ⟨ty, ht⟩ := ht
    exact va_alen hx' hb hC.1 hP o t (ab_cw_get hw) ht rfl hd kk
  · exact va_alen hx' hb hC.1 hP o 3 (ab_cw_get hw) (ty := .long) rfl rfl hd kk
  · exact va_alen hx' hb hC.1 hP o (4 + t) (ab_cw_get hw) (ab_tyR h3) rfl hd kk
/-! returns -/
theorem ab_ret {r : Option ab_V} {s : State} {args : Array Value} {D : va_G} {dA : Nat → ClassId} {as : Nat → Nat} {A : Nat → Prop} {Qc : Array Value → State → Outcome → State → Prop} {free : Addr → Prop} {H : Heap} {locs : List Loc} (hR : ab_Rt G s args D dA as A w Q Qc free) (hq : Q r w) (hP : va_P D G.1 (ab_cw dA as w) H) (hD : va_D A (ab_cw dA as w)) (hS : va_S A s.heap H locs) : (∀ t : State, t.heap = H → s.WarmedH t.vm → Qc args s (.returned (r.map (ab_cv as))) t) ∧ ∀ q ∈ locs, free q.base := hR r w as H locs hq (Nat.le_refl _) (fun _ _ => rfl) (fun _ => rfl) hP hD hS
theorem ev_return (hd : decode M.2.1 pc = .ok (.return_, 1)) (hr : M.2.2.2 = none) (hq : Q none w) : ab_Ev G rs M d bc bs pc l [] w Q := by
  intro p la e R s m args below meth c H locs cells slots D dA aK aV as A ls Qc free hF hs hP hD hS hl h1 h2 hR
  obtain ⟨hx, hb, -, hr', hlk, -⟩ := hF
  have h := ab_ret hR hq hP hD hS
  exact W.widen (k := R.cells) (n := R.slots) (by omega) (by omega) (W.vret hx hb (hr'.trans hr) h.1 h.2 hd)
theorem ev_ireturn {a : Int} (hd : decode M.2.1 pc = .ok (.ireturn, 1)) (hr : M.2.2.2 = some .int) (hq : Q (some (.inl a)) w) : ab_Ev G rs M d bc bs pc l [.inl a] w Q := by
  intro p la e R s m args below meth c H locs cells slots D dA aK aV as A ls Qc free hF hs hP hD hS hl h1 h2 hR
  obtain ⟨hx, hb, -, hr', hlk, -⟩ := hF
  have h := ab_ret hR hq hP hD hS
  exact W.widen (k := R.cells) (n := R.slots) (by omega) (by omega) (W.iret hx hb (hr'.trans hr) h.1 h.2 hd)
theorem ev_zreturn {a : Int} (hd : decode M.2.1 pc = .ok (.ireturn, 1)) (hr : M.2.2.2 = some .boolean) (ha : a = 0 ∨ a = 1) (hq : Q (some (.inl a)) w) : ab_Ev G rs M d bc bs pc l [.inl a] w Q := by
  intro p la e R s m args below meth c H locs cells slots D dA aK aV as A ls Qc free hF hs hP hD hS hl h1 h2 hR
  obtain ⟨hx, hb, -, hr', hlk, -⟩ := hF
  have h := ab_ret hR hq hP hD hS
  exact W.widen (k := R.cells) (n := R.slots) (by omega) (by omega) (W.zret hx hb (hr'.trans hr) (by rcases ha with rfl | rfl <;> decide) h.1 h.2 hd)
theorem ev_lreturn {a : Int64} (hd : decode M.2.1 pc = .ok (.lreturn, 1)) (hr : M.2.2.2 = some .long) (hq : Q (some (.inr (.inl a))) w) : ab_Ev G rs M d bc bs pc l [.inr (.inl a)] w Q := by
  intro p la e R s m args below meth c H locs cells slots D dA aK aV as A ls Qc free hF hs hP hD hS hl h1 h2 hR
  obtain ⟨hx, hb, -, hr', hlk, -⟩ := hF
  have h := ab_ret hR hq hP hD hS
  exact W.widen (k := R.cells) (n := R.slots) (by omega) (by omega) (W.lret hx hb (hr'.trans hr) h.1 h.2 hd)
theorem ev_areturn {a : Nat} {rt : FieldType} (hd : decode M.2.1 pc = .ok (.areturn, 1)) (hr : M.2.2.2 = some rt) (hrt : (∃ n, rt = .object n) ∨ ∃ t, rt = .array t) (hq : Q (some (.inr (.inr (some a)))) w) : ab_Ev G rs M d bc bs pc l [.inr (.inr (some a))] w Q := by
  intro p la e R s m args below meth c H locs cells slots D dA aK aV as A ls Qc free hF hs hP hD hS hl h1 h2 hR
  obtain ⟨hx, hb, -, hr', hlk, -⟩ := hF
  have h := ab_ret hR hq hP hD hS
  exact W.widen (k := R.cells) (n := R.slots) (by omega) (by omega) (W.aret hx hb (hr'.trans hr) hrt (Or.inr ⟨_, rfl⟩) h.1 h.2 hd)
end EVC
