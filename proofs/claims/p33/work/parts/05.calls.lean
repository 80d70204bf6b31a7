/-! rules: calls, what is made, copies -/
def ab_ok (n : Nat) : ab_V → Prop
  | .inr (.inr (some i)) => i < n ∨ ab_sb ≤ i
  | _ => True
def ab_okL (n : Nat) (l : ab_L) : Prop := ∀ (i : Nat) (v : ab_V), l[i]? = some (some v) → ab_ok n v
def ab_okS (n : Nat) (st : List ab_V) : Prop := ∀ v ∈ st, ab_ok n v
def ab_okE (n : Nat) : ab_E → Prop
  | .inr (.inr (.inl (_, _, f))) => ∀ (k : Int) (i : Nat), f k = some i → i < n ∨ ab_sb ≤ i
  | .inr (.inr (.inr (_, fs))) => ab_okS n fs
  | _ => True
def ab_okW (w : ab_W) : Prop := ∀ e ∈ w, ab_okE w.length e
theorem ab_ok_cv {n : Nat} {v : ab_V} {as as1 : Nat → Nat} (h : ab_ok n v) (ha : ∀ i, (i < n ∨ ab_sb ≤ i) → as1 i = as i) : ab_cv as1 v = ab_cv as v := by
  rcases v with a | a | _ | i <;> first | rfl | (show Value.ref (as1 i) = Value.ref (as i); rw [ha i h])
theorem ab_ok_map {n : Nat} {st : List ab_V} {as as1 : Nat → Nat} (h : ab_okS n st) (ha : ∀ i, (i < n ∨ ab_sb ≤ i) → as1 i = as i) : st.map (ab_cv as1) = st.map (ab_cv as) := List.map_congr_left (fun v hv => ab_ok_cv (h v hv) ha)
theorem ab_ok_lo {n nL : Nat} {l : ab_L} {ls : Array Slot} {as as1 : Nat → Nat} (h : ab_okL n l) (ha : ∀ i, (i < n ∨ ab_sb ≤ i) → as1 i = as i) (hl : ab_lo as ls nL l) : ab_lo as1 ls nL l := by
  obtain ⟨h1, lv, h2, h3⟩ := hl
  exact ⟨h1, lv, h2, fun i v hi => by rw [ab_ok_cv (h i v hi) ha]; exact h3 i v hi⟩
theorem ab_ok_ce {n : Nat} {E : ab_E} {dA : Nat → ClassId} {as as1 : Nat → Nat} (h : ab_okE n E) (ha : ∀ i, (i < n ∨ ab_sb ≤ i) → as1 i = as i) : ab_ce dA as1 E = ab_ce dA as E := by
  rcases E with ⟨t, m, f⟩ | ⟨m, f⟩ | ⟨t, m, f⟩ | ⟨ci, fs⟩
  · rfl
  · rfl
  · have e : (fun k : Nat => (f (k : Int)).map as1) = fun k : Nat => (f (k : Int)).map as := by
      funext k
      cases hf : f (k : Int) with
      | none => rfl
      | some i => exact congrArg some (ha i (h k i hf))
    show Sum.inl _ = Sum.inl _
    rw [e]
  · show Sum.inr _ = Sum.inr _
    rw [ab_ok_map h ha]
theorem ab_cw_push {w : ab_W} {E : ab_E} {dA : Nat → ClassId} {as as1 : Nat → Nat} (h : ab_okW w) (ha : ∀ i, (i < w.length ∨ ab_sb ≤ i) → as1 i = as i) : ab_cw dA as1 (w ++ [E]) = ab_cw dA as w ++ [(as1 w.length, ab_ce dA as1 E)] := by
  apply List.ext_getElem?
  intro i
  unfold ab_cw
  rw [List.getElem?_mapIdx]
  by_cases hi : i < w.length
  · rw [List.getElem?_append_left hi, List.getElem?_append_left (by rw [List.length_mapIdx]; exact hi), List.getElem?_mapIdx, List.getElem?_eq_getElem hi]
    show some (as1 i, ab_ce dA as1 w[i]) = some (as i, ab_ce dA as w[i])
    rw [ha i (Or.inl hi), ab_ok_ce (h _ (List.getElem_mem hi)) ha]
  · rw [List.getElem?_append_right (by omega), List.getElem?_append_right (by rw [List.length_mapIdx]; omega), List.length_mapIdx]
    by_cases he : i = w.length
    · subst he
      simp
    · rw [List.getElem?_eq_none (by simp; omega), List.getElem?_eq_none (by simp; omega)]
      rfl
theorem ab_sub {dA : Nat → ClassId} {as : Nat → Nat} {w : ab_W} {A : Nat → Prop} {H0 H : Heap} {locs : List Loc} (hD : va_D A (ab_cw dA as w)) (hS : va_S A H0 H locs) (hA : ∀ q, H0.size ≤ q → A q) : ∀ q, va_A (ab_cw dA as w) H.size q → A q := by
  intro q h
  rcases h with ⟨k, e, h⟩ | h
  · exact hD.2 k (q, e) h
  · exact hA q (Nat.le_trans hS.1 h)
/-- what a contract says at its end -/
def ab_Qc (G : ab_G) (D : va_G) (dA : Nat → ClassId) (as : Nat → Nat) (w : ab_W) (sz : Nat) (Q : Option ab_V → ab_W → Prop) : Array Value → State → Outcome → State → Prop := fun _ st oc t => (∃ (r : Option ab_V) (w' : ab_W) (as' : Nat → Nat), Q r w' ∧ w.length ≤ w'.length ∧ (∀ i, (i < w.length ∨ ab_sb ≤ i) → as' i = as i) ∧ (w'.length = w.length → as' = as) ∧ oc = .returned (r.map (ab_cv as')) ∧ va_P D G.1 (ab_cw dA as' w') t.heap ∧ va_D (va_A (ab_cw dA as w) sz) (ab_cw dA as' w')) ∧ va_F (va_A (ab_cw dA as w) sz) st t
def ab_Pc (G : ab_G) (rs : List String) (D : va_G) (dA : Nat → ClassId) (aK aV as : Nat → Nat) (w : ab_W) (sz : Nat) : State → Prop := fun U => U.heap.size = sz ∧ va_P D G.1 (ab_cw dA as w) U.heap ∧ va_D (fun _ => True) (ab_cw dA as w) ∧ ab_Cx G rs D dA aK aV (va_A (ab_cw dA as w) sz) U U.heap
theorem ab_Pc_blind {G : ab_G} {rs : List String} {D : va_G} {dA : Nat → ClassId} {aK aV as : Nat → Nat} {w : ab_W} {sz : Nat} {av : List Value} : FrameBlind (va_Pc av (ab_Pc G rs D dA aK aV as w sz)) := fun a U g mk q => ⟨q.1, q.2.1, q.2.2.1, q.2.2.2.1, ab_Cx.same (u := U) (U := U.calling g mk a) rfl q.2.2.2.2⟩
theorem ab_Pc_at {G : ab_G} {rs : List String} {M : ab_M} {d : Nat} {p : Program} {R : Room} {s : State} {m : MethodId} {args : Array Value} {meth : Method} {c : Code} {D : va_G} {dA : Nat → ClassId} {aK aV as : Nat → Nat} {A : Nat → Prop} {w : ab_W} {H : Heap} {locs : List Loc} {av : List Value} (hF : ab_Fx G rs M d p R s m args meth c D dA aK aV A) (hP : va_P D G.1 (ab_cw dA as w) H) (hD : va_D A (ab_cw dA as w)) (hS : va_S A s.heap H locs) : ∀ U : State, U.heap = H → s.WarmedH U.vm → va_Pc av (ab_Pc G rs D dA aK aV as w H.size) av.toArray U := by
  intro U hU hW
  obtain ⟨-, -, -, -, -, -, -, -, -, -, hC, hA⟩ := hF
  refine ⟨rfl, by rw [hU], by rw [hU]; exact hP, hD.weaken (fun _ _ _ _ => trivial), ?_⟩
  rw [hU]
  exact hC.warm hW hS.2.1 (ab_sub hD hS hA)
section EVD
variable {G : ab_G} {rs : List String} {M : ab_M} {d bc bs pc : Nat} {l : ab_L} {st : List ab_V} {w : ab_W} {Q : Option ab_V → ab_W → Prop}
theorem ab_after {Q1 : Option ab_V → ab_W → Prop} {mc ms : Nat} {p : Program} {la : Launch} {e : Env} {R : Room} {s : State} {m : MethodId} {args : Array Value} {below : List Frame} {meth : Method} {c : Code} {H : Heap} {locs : List Loc} {cells slots : Nat} {D : va_G} {dA : Nat → ClassId} {aK aV as : Nat → Nat} {A : Nat → Prop} {ls : Array Slot} {Qc : Array Value → State → Outcome → State → Prop} {free : Addr → Prop} {st0 : List Value} {a : Array Value}
    (hF : ab_Fx G rs M d p R s m args meth c D dA aK aV A) (hs : ab_hs G aK aV as) (hP : va_P D G.1 (ab_cw dA as w) H) (hD : va_D A (ab_cw dA as w)) (hS : va_S A s.heap H locs) (hl : ab_lo as ls M.2.2.1 l) (h1 : cells + (bc + mc) ≤ R.cells) (h2 : slots + (bs + ms) ≤ R.slots) (hR : ab_Rt G s args D dA as A w Q Qc free)
    (hrun : va_Run p la e R s m args below meth c H locs cells slots mc ms (F0 m pc ls st0) (st.map (ab_cv as)) (ab_Qc G D dA as w H.size Q1 a) (va_A (ab_cw dA as w) H.size))
    (hok : (∀ r w1, Q1 r w1 → w1.length = w.length) ∨ (ab_okL w.length l ∧ ab_okS w.length st))
    (kk : ∀ r w1, Q1 r w1 → ab_Ev G rs M d bc bs (pc + 3) l (r.toList ++ st) w1 Q) : W p la e R s m args below meth c H locs cells slots (MQ below Qc args s R.cells R.slots free) (F0 m pc ls st0) := by
  have hA := hF.2.2.2.2.2.2.2.2.2.2.2
  have hsub := ab_sub hD hS hA
  intro T hT X
  obtain ⟨v, st₀, t, T', L, h0, X', hL, e1, e2, ⟨⟨r, w1, as1, q1, q2, q3, q4, q5, q6, q7⟩, hz, hk⟩, stp⟩ := hrun T hT X
  cases q5
  rw [h0] at hz hk
  have hlo : ab_lo as1 ls M.2.2.1 l ∧ st.map (ab_cv as1) = st.map (ab_cv as) := by
    rcases hok with h | h
    · rw [q4 (h r w1 q1)]
      exact ⟨hl, rfl⟩
    · exact ⟨ab_ok_lo h.1 q3 hl, ab_ok_map h.2 q3⟩
  have hS1 : va_S A s.heap T'.heap (locs ++ L) := ⟨Nat.le_trans hS.1 (by rw [e1]; exact hz), fun q g1 g2 => by rw [e1, hk q (Nat.lt_of_lt_of_le g1 hS.1) (fun z => g2 (hsub q z))]; exact hS.2.1 q g1 g2, fun q hq => by
      rcases List.mem_append.mp hq with h | h
      · exact hS.2.2 q h
      · exact hsub _ (hL q h)⟩
  have hR1 : ab_Rt G s args D dA as1 A w1 Q Qc free := by
    intro r' w' as' H' locs' g1 g2 g3 g4 g5 g6 g7
    refine hR r' w' as' H' locs' g1 (by omega) (fun i hi => ?_) (fun z => ?_) g5 g6 g7
    · rw [g3 i (by omega), q3 i hi]
    · rw [g4 (by omega), q4 (by omega)]
  obtain ⟨t2, a1, b1⟩ := kk r w1 q1 p la e R s m args below meth c T'.heap (locs ++ L) (cells + mc) (slots + ms) D dA aK aV as1 A ls Qc free hF (hs.to (fun i hi => q3 i (Or.inr hi))) (by rw [e1]; exact q6) (q7.weaken (fun k q _ h => hsub q.1 h)) hS1 hlo.1 (by omega) (by omega) hR1 T' rfl X'
  refine ⟨t2, stp t2 ?_, b1⟩
  have e3 : (r.map (ab_cv as1)).toList ++ st.map (ab_cv as) = (r.toList ++ st).map (ab_cv as1) := by
    rw [← hlo.2]
    cases r <;> simp
  show Steps p.tables e below (T'.setTop (F0 m (pc + 3) ls ((r.map (ab_cv as1)).toList ++ st.map (ab_cv as)))) t2
  rw [e3]
  exact a1
/-- the words of a call -/
def ab_kb (G : ab_G) (own : String) (idx : Nat) (cm : ab_M) (n : Nat) : Prop := (∀ x ∈ G.2.1, goodWord x = true) ∧ Cond.code cm.1 cm.2.1 cm.2.2.1 cm.2.2.2 ∈ G.2.1 ∧ Cond.initialized cm.1.cls ∈ G.2.1 ∧ (Cond.methodLink own idx cm.1 ∈ G.2.1 ∨ ∃ h, Cond.methodLinkNest own idx cm.1 h ∈ G.2.2.1) ∧ (cm.1.cls ≠ "java/lang/invoke/MethodHandle" ∧ cm.1.cls ≠ "java/lang/invoke/VarHandle" ∧ (parseMethodDescriptor cm.1.desc).map (fun q => q.parameters.length) = some n) ∧ cm.2.2.1 ≤ 40
theorem ab_kgood {own : String} {idx n : Nat} {cm : ab_M} (h : ab_kb G own idx cm n) : GoodIn (ab_ws G M) (ab_ws G cm) := by
  intro x hx
  rcases List.mem_cons.mp hx with rfl | hx
  · exact ⟨List.mem_cons_of_mem _ h.2.1, good_of_word (h.1 _ h.2.1)⟩
  · exact ⟨List.mem_cons_of_mem _ hx, good_of_word (h.1 _ hx)⟩
theorem ab_wsum (as : Nat → Nat) : ∀ st : List ab_V, ((st.map (ab_cv as)).map fun v => v.category).sum = ab_wd st
  | [] => rfl
  | .inl a :: vs => by rw [List.map_cons, List.map_cons, List.sum_cons, ab_wsum as vs]; rfl
  | .inr (.inl a) :: vs => by rw [List.map_cons, List.map_cons, List.sum_cons, ab_wsum as vs]; rfl
  | .inr (.inr none) :: vs => by rw [List.map_cons, List.map_cons, List.sum_cons, ab_wsum as vs]; rfl
  | .inr (.inr (some a)) :: vs => by rw [List.map_cons, List.map_cons, List.sum_cons, ab_wsum as vs]; rfl
theorem ev_static {cm : ab_M} {idx d' mc ms : Nat} {av st0 : List ab_V} {Q1 : Option ab_V → ab_W → Prop} (hd : decode M.2.1 pc = .ok (.invokestatic idx, 3)) (hm : ab_Mt G rs cm d' mc ms av w Q1) (hk : ab_kb G M.1.cls idx cm av.length) (hst : Cond.static cm.1 ∈ G.2.1) (h0 : st0 = av.reverse ++ st) (hw : ab_wd st ≤ 8) (hdd : d' + 1 ≤ d) (hok : (∀ r w1, Q1 r w1 → w1.length = w.length) ∨ (ab_okL w.length l ∧ ab_okS w.length st))
    (kk : ∀ r w1, Q1 r w1 → ab_Ev G rs M d bc bs (pc + 3) l (r.toList ++ st) w1 Q) : ab_Ev G rs M d (bc + mc) (bs + ms) pc l st0 w Q := by
  intro p la e R s m args below meth c H locs cells slots D dA aK aV as A ls Qc free hF hs hP hD hS hl h1 h2 hR
  refine ab_after (a := (av.map (ab_cv as)).toArray) hF hs hP hD hS hl h1 h2 hR ?_ hok kk
  have hF' := hF
  obtain ⟨hx, hb, hml, -, -, ho, -, ht, hfr, hlc, hC, hA⟩ := hF'
  have hM := hm la D dA aK aV as H.size hs
  have hpre : PreS s H (va_Pc (av.map (ab_cv as)) (ab_Pc G rs D dA aK aV as w H.size)) (av.map (ab_cv as)) := ⟨ab_Pc_blind, ab_Pc_at hF hP hD hS⟩
  have hrm : (ab_rm d' mc ms).frames + 1 ≤ R.frames ∧ 8 + (cm.2.2.1 + 11) + (ab_rm d' mc ms).locals ≤ R.locals := by
    have := hk.2.2.2.2.2
    rw [hfr, hlc]
    show d' + 1 ≤ d ∧ 8 + (cm.2.2.1 + 11) + 60 * d' ≤ 60 * d
    omega
  have hstk : st0.map (ab_cv as) = (av.map (ab_cv as)).reverse ++ st.map (ab_cv as) := by rw [h0]; simp
  have hwd : 2 * (F0 m pc ls (st0.map (ab_cv as))).monitorRoom + ((st.map (ab_cv as)).map fun v => v.category).sum ≤ 8 := lv_room (by rw [ab_wsum]; exact hw)
  have hsz : (F0 m pc ls (st0.map (ab_cv as))).locals.size = M.2.2.1 := by obtain ⟨-, lv, z, -⟩ := hl; exact z.1
  rcases hk.2.2.2.1 with hlk | ⟨h, hlk⟩
  · exact va_runS ⟨hx, hb, hml, ho, ht⟩ hM ⟨callB_of av.length ht (ab_kgood hk) rfl rfl rfl (ht _ (List.mem_cons_of_mem _ hk.2.2.1)) (ht _ (List.mem_cons_of_mem _ hlk)) hk.2.2.2.2.1 hrm, ht _ (List.mem_cons_of_mem _ hst)⟩ hpre rfl (List.length_map ..) hsz hstk hwd hd ⟨by omega, by omega⟩
  · exact va_runSN ⟨hx, hb, hml, ho, ht⟩ hM ⟨va_cnB av.length ht (ab_kgood hk) rfl rfl rfl (hC.2.2.1 _ hlk) (ht _ (List.mem_cons_of_mem _ hk.2.2.1)) hk.2.2.2.2.1 hrm, ht _ (List.mem_cons_of_mem _ hst), trivial⟩ hpre rfl (List.length_map ..) hsz hstk hwd hd ⟨by omega, by omega⟩
theorem ev_virtual {cm : ab_M} {idx d' mc ms o ci N : Nat} {T : u_T} {fs av st0 : List ab_V} {Q1 : Option ab_V → ab_W → Prop} (hd : decode M.2.1 pc = .ok (.invokevirtual idx, 3)) (hm : ab_Mt G rs cm d' mc ms (.inr (.inr (some o)) :: av) w Q1) (hk : ab_kb G M.1.cls idx cm av.length) (hst : Cond.instanceMethod cm.1 ∈ G.2.1 ∧ Cond.selects cm.1.cls cm.1 cm.1 ∈ G.2.1) (hcl : G.1[ci]? = some (cm.1.cls, T, N)) (hwo : w[o]? = some (ab_ob ci fs)) (h0 : st0 = av.reverse ++ .inr (.inr (some o)) :: st) (hw : ab_wd st ≤ 8) (hdd : d' + 1 ≤ d) (hok : (∀ r w1, Q1 r w1 → w1.length = w.length) ∨ (ab_okL w.length l ∧ ab_okS w.length st))
    (kk : ∀ r w1, Q1 r w1 → ab_Ev G rs M d bc bs (pc + 3) l (r.toList ++ st) w1 Q) : ab_Ev G rs M d (bc + mc) (bs + ms) pc l st0 w Q := by
  intro p la e R s m args below meth c H locs cells slots D dA aK aV as A ls Qc free hF hs hP hD hS hl h1 h2 hR
  refine ab_after (a := (Value.ref (as o) :: av.map (ab_cv as)).toArray) hF hs hP hD hS hl h1 h2 hR ?_ hok kk
  have hF' := hF
  obtain ⟨hx, hb, hml, -, -, ho, -, ht, hfr, hlc, hC, hA⟩ := hF'
  have hM := hm la D dA aK aV as H.size hs
  have hpre : PreV s H cm.1.cls (as o) (va_Pc ((Sum.inr (Sum.inr (some o)) :: av).map (ab_cv as)) (ab_Pc G rs D dA aK aV as w H.size)) (av.map (ab_cv as)) := ⟨ab_Pc_blind, va_recv (q := (cm.1.cls, T, N)) hC.1 hP hcl (ab_cw_get hwo), ab_Pc_at hF hP hD hS⟩
  have hrm : (ab_rm d' mc ms).frames + 1 ≤ R.frames ∧ 8 + (cm.2.2.1 + 11) + (ab_rm d' mc ms).locals ≤ R.locals := by
    have := hk.2.2.2.2.2
    rw [hfr, hlc]
    show d' + 1 ≤ d ∧ 8 + (cm.2.2.1 + 11) + 60 * d' ≤ 60 * d
    omega
  have hstk : st0.map (ab_cv as) = (av.map (ab_cv as)).reverse ++ Value.ref (as o) :: st.map (ab_cv as) := by rw [h0]; simp [ab_cv]
  have hwd : 2 * (F0 m pc ls (st0.map (ab_cv as))).monitorRoom + ((st.map (ab_cv as)).map fun v => v.category).sum ≤ 8 := lv_room (by rw [ab_wsum]; exact hw)
  have hsz : (F0 m pc ls (st0.map (ab_cv as))).locals.size = M.2.2.1 := by obtain ⟨-, lv, z, -⟩ := hl; exact z.1
  rcases hk.2.2.2.1 with hlk | ⟨h, hlk⟩
  · exact va_runV (C := cm.1.cls) ⟨hx, hb, hml, ho, ht⟩ hM ⟨callB_of av.length ht (ab_kgood hk) rfl rfl rfl (ht _ (List.mem_cons_of_mem _ hk.2.2.1)) (ht _ (List.mem_cons_of_mem _ hlk)) hk.2.2.2.2.1 hrm, ht _ (List.mem_cons_of_mem _ hst.1), ht _ (List.mem_cons_of_mem _ hst.2)⟩ hpre rfl (List.length_map ..) hsz hstk hwd hd ⟨by omega, by omega⟩
  · exact va_runVN (C := cm.1.cls) ⟨hx, hb, hml, ho, ht⟩ hM ⟨va_cnB av.length ht (ab_kgood hk) rfl rfl rfl (hC.2.2.1 _ hlk) (ht _ (List.mem_cons_of_mem _ hk.2.2.1)) hk.2.2.2.2.1 hrm, ht _ (List.mem_cons_of_mem _ hst.1), ht _ (List.mem_cons_of_mem _ hst.2)⟩ hpre rfl (List.length_map ..) hsz hstk hwd hd ⟨by omega, by omega⟩
theorem ev_special {cm : ab_M} {idx d' mc ms o : Nat} {av st0 : List ab_V} {Q1 : Option ab_V → ab_W → Prop} (hd : decode M.2.1 pc = .ok (.invokespecial idx, 3)) (hm : ab_Mt G rs cm d' mc ms (.inr (.inr (some o)) :: av) w Q1) (hk : ab_kb G M.1.cls idx cm av.length) (hst : Cond.instanceMethod cm.1 ∈ G.2.1 ∧ cm.1.name = "<init>" ∧ cm.2.2.2 = none) (h0 : st0 = av.reverse ++ .inr (.inr (some o)) :: st) (hw : ab_wd st ≤ 8) (hdd : d' + 1 ≤ d) (hok : (∀ r w1, Q1 r w1 → w1.length = w.length) ∨ (ab_okL w.length l ∧ ab_okS w.length st))
    (kk : ∀ r w1, Q1 r w1 → ab_Ev G rs M d bc bs (pc + 3) l (r.toList ++ st) w1 Q) : ab_Ev G rs M d (bc + mc) (bs + ms) pc l st0 w Q := by
  intro p la e R s m args below meth c H locs cells slots D dA aK aV as A ls Qc free hF hs hP hD hS hl h1 h2 hR
  refine ab_after (a := (Value.ref (as o) :: av.map (ab_cv as)).toArray) hF hs hP hD hS hl h1 h2 hR ?_ hok kk
  have hF' := hF
  obtain ⟨hx, hb, hml, -, -, ho, -, ht, hfr, hlc, hC, hA⟩ := hF'
  have hM := hm la D dA aK aV as H.size hs
  have hpre : PreS s H (va_Pc ((Sum.inr (Sum.inr (some o)) :: av).map (ab_cv as)) (ab_Pc G rs D dA aK aV as w H.size)) (Value.ref (as o) :: av.map (ab_cv as)) := ⟨ab_Pc_blind, ab_Pc_at hF hP hD hS⟩
  have hrm : (ab_rm d' mc ms).frames + 1 ≤ R.frames ∧ 8 + (cm.2.2.1 + 11) + (ab_rm d' mc ms).locals ≤ R.locals := by
    have := hk.2.2.2.2.2
    rw [hfr, hlc]
    show d' + 1 ≤ d ∧ 8 + (cm.2.2.1 + 11) + 60 * d' ≤ 60 * d
    omega
  have hstk : st0.map (ab_cv as) = (av.map (ab_cv as)).reverse ++ Value.ref (as o) :: st.map (ab_cv as) := by rw [h0]; simp [ab_cv]
  have hwd : 2 * (F0 m pc ls (st0.map (ab_cv as))).monitorRoom + ((st.map (ab_cv as)).map fun v => v.category).sum ≤ 8 := lv_room (by rw [ab_wsum]; exact hw)
  have hsz : (F0 m pc ls (st0.map (ab_cv as))).locals.size = M.2.2.1 := by obtain ⟨-, lv, z, -⟩ := hl; exact z.1
  have hkc := callB_of (R := R) (rm := ab_rm d' mc ms) (mc := mc) (ms := ms) (own := M.1.cls) (index := idx) (y := cm.1) (bytes := cm.2.1) (maxL := cm.2.2.1) (ret := cm.2.2.2) (ws := ab_ws G cm) (ws' := G.2.1) av.length ht (ab_kgood hk) rfl rfl rfl (ht _ (List.mem_cons_of_mem _ hk.2.2.1))
  have hkn := fun host => va_cnB (R := R) (rm := ab_rm d' mc ms) (mc := mc) (ms := ms) (own := M.1.cls) (index := idx) (host := host) (y := cm.1) (bytes := cm.2.1) (maxL := cm.2.2.1) (ret := cm.2.2.2) (ws := ab_ws G cm) (ws' := G.2.1) av.length ht (ab_kgood hk) rfl rfl rfl
  rw [hst.2.2] at hkc hkn
  rcases hk.2.2.2.1 with hlk | ⟨h, hlk⟩
  · exact va_runI ⟨hx, hb, hml, ho, ht⟩ hM ⟨hkc (ht _ (List.mem_cons_of_mem _ hlk)) hk.2.2.2.2.1 hrm, hst.2.1, ht _ (List.mem_cons_of_mem _ hst.1)⟩ hpre rfl (List.length_map ..) hsz hstk hwd hd ⟨by omega, by omega⟩
  · exact va_runIN ⟨hx, hb, hml, ho, ht⟩ hM ⟨hkn h (hC.2.2.1 _ hlk) (ht _ (List.mem_cons_of_mem _ hk.2.2.1)) hk.2.2.2.2.1 hrm, hst.2.1, ht _ (List.mem_cons_of_mem _ hst.1)⟩ hpre rfl (List.length_map ..) hsz hstk hwd hd ⟨by omega, by omega⟩
end EVD
