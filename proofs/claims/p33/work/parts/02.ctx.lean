/-! what is fixed for a claim: the classes, the words, the words of nest mates, the string constants (own class, entry, text, number; lengths, bytes) -/
abbrev ab_M : Type := MethodName × ByteArray × Nat × Option FieldType
abbrev ab_T : Type := List (String × Nat × String × Nat)
abbrev ab_G : Type := List vw_C × List Cond × List Cond × ab_T × List Nat × List (List Int32)
/-- array classes by their numbers: int, byte, boolean, long, then those of references -/
def ab_ty (G : ab_G) (rs : List String) (dA : Nat → ClassId) : List (ClassId × FieldType) := [(dA 0, .int), (dA 1, .byte), (dA 2, .boolean), (dA 3, .long)] ++ rs.mapIdx (fun i C => (dA (4 + i), .object C))
def ab_sb : Nat := 1000000
/-- string constants, what they hold, and the one static that is only carried, by their places -/
def ab_hs (G : ab_G) (aK aV as : Nat → Nat) : Prop := (∀ i, i < G.2.2.2.2.1.length → as (ab_sb + i) = aK i ∧ as (ab_sb + 500 + i) = aV i) ∧ as (ab_sb + 900) = aV 900
theorem ab_hs.to {G : ab_G} {aK aV as as1 : Nat → Nat} (h : ab_hs G aK aV as) (ha : ∀ i, ab_sb ≤ i → as1 i = as i) : ab_hs G aK aV as1 := ⟨fun i hi => ⟨by rw [ha _ (Nat.le_add_right _ _)]; exact (h.1 i hi).1, by rw [ha _ (by omega)]; exact (h.1 i hi).2⟩, by rw [ha _ (Nat.le_add_right _ _)]; exact h.2⟩
/-- what holds of a state: the tables, the words of nest mates, the string constants -/
def ab_Cx (G : ab_G) (rs : List String) (D : va_G) (dA : Nat → ClassId) (aK aV : Nat → Nat) (A : Nat → Prop) (U : State) (H : Heap) : Prop :=
  va_K D G.1 (ab_ty G rs dA) U ∧ (∀ c ∈ G.2.2.1, (∃ a i x h, c = Cond.methodLinkNest a i x h) ∨ (∃ a i b n d h, c = Cond.fieldLinkNest a i b n d h) ∨ ∃ C T, c = Cond.castable C T) ∧ (∀ c ∈ G.2.2.1, va_Nw c U) ∧ vk_S G.2.2.2.2.1.length G.2.2.2.2.1 G.2.2.2.2.2 aK aV A U H ∧ (∀ q ∈ G.2.2.2.1, vk_R q.1 q.2.1 q.2.2.1 (aK q.2.2.2) U) ∧ va_Z "java/lang/String" "COMPACT_STRINGS" "Z" (.int 1) A U H ∧ (∀ C ∈ rs, va_AO C U) ∧ (va_Z "jdk/internal/util/Preconditions" "SIOOBE_FORMATTER" "Ljava/util/function/BiFunction;" .null A U H ∨ va_Z "jdk/internal/util/Preconditions" "SIOOBE_FORMATTER" "Ljava/util/function/BiFunction;" (.ref (aV 900)) A U H)
theorem ab_Cx.warm {G : ab_G} {rs : List String} {D : va_G} {dA : Nat → ClassId} {aK aV : Nat → Nat} {A B : Nat → Prop} {s U : State} {H H1 : Heap} (h : ab_Cx G rs D dA aK aV A s H) (hW : s.WarmedH U.vm) (hq : ∀ a : Nat, a < H.size → ¬ A a → H1[a]? = H[a]?) (hAB : ∀ q, B q → A q) : ab_Cx G rs D dA aK aV B U H1 := by
  obtain ⟨h1, h2, h3, h4, h5, h6, h7, h8⟩ := h
  refine ⟨h1.moved hW.alike, h2, fun c hc => ?_, ((h4.moved hW.alike).kept hq).narrow hAB, fun q hq => (h5 q hq).warm hW, ?_, fun C hc => (h7 C hc).moved hW.alike, h8.imp (fun h => ((h.moved hW.alike).kept hq).narrow hAB) (fun h => ((h.moved hW.alike).kept hq).narrow hAB)⟩
  · rcases h2 c hc with ⟨a, i, x, h, rfl⟩ | ⟨a, i, b, n, d, h, rfl⟩ | ⟨C, T, rfl⟩
    · exact va_Nw.warmM hW (h3 _ hc)
    · exact va_Nw.warmF hW (h3 _ hc)
    · exact va_Nw.warmC hW (h3 _ hc)
  · exact ((h6.moved hW.alike).kept hq).narrow hAB
theorem ab_Cx.same {G : ab_G} {rs : List String} {D : va_G} {dA : Nat → ClassId} {aK aV : Nat → Nat} {A : Nat → Prop} {u U : State} {H : Heap} (hv : U.vm = u.vm) (h : ab_Cx G rs D dA aK aV A u H) : ab_Cx G rs D dA aK aV A U H := by
  obtain ⟨h1, h2, h3, h4, h5, h6, h7, h8⟩ := h
  have hl : u.vm.Alike U.vm := by rw [hv]; exact Vm.Alike.refl _
  refine ⟨h1.moved hl, h2, fun c hc => ?_, h4.moved hl, fun q hq => (h5 q hq).same hv, h6.moved hl, fun C hc => (h7 C hc).moved hl, h8.imp (fun h => h.moved hl) (fun h => h.moved hl)⟩
  rcases h2 c hc with ⟨a, i, x, h, rfl⟩ | ⟨a, i, b, n, d, h, rfl⟩ | ⟨C, T, rfl⟩
  · exact va_Nw.same rfl hv.symm (h3 _ hc)
  · exact va_Nw.same rfl hv.symm (h3 _ hc)
  · exact va_Nw.same rfl hv.symm (h3 _ hc)
/-- locals -/
def ab_lo (as : Nat → Nat) (ls : Array Slot) (nL : Nat) (l : ab_L) : Prop := l.length = nL ∧ ∃ lv, lv_has ls nL lv ∧ ∀ (i : Nat) (v : ab_V), l[i]? = some (some v) → (i, ab_cv as v) ∈ lv
theorem ab_lo.at {as : Nat → Nat} {ls : Array Slot} {nL : Nat} {l : ab_L} (h : ab_lo as ls nL l) {i : Nat} {v : ab_V} (hi : l[i]? = some (some v)) : ls[i]? = some (.val (ab_cv as v)) := by
  obtain ⟨-, lv, h1, h2⟩ := h
  exact h1.2.2 _ (h2 i v hi)
def ab_rm (d mc ms : Nat) : Room := { frames := d, cells := mc, slots := ms, locals := 60 * d }
def ab_ws (G : ab_G) (M : ab_M) : List Cond := Cond.code M.1 M.2.1 M.2.2.1 M.2.2.2 :: G.2.1
/-- a method's contract, at any place -/
def ab_Mt (G : ab_G) (rs : List String) (M : ab_M) (d mc ms : Nat) (av : List ab_V) (w : ab_W) (Q : Option ab_V → ab_W → Prop) : Prop :=
  ∀ (l : Launch) (D : va_G) (dA : Nat → ClassId) (aK aV as : Nat → Nat) (sz : Nat), ab_hs G aK aV as →
    Met l M.1 (ab_ws G M) (ab_rm d mc ms) (va_Pc (av.map (ab_cv as)) (fun U => U.heap.size = sz ∧ va_P D G.1 (ab_cw dA as w) U.heap ∧ va_D (fun _ => True) (ab_cw dA as w) ∧ ab_Cx G rs D dA aK aV (va_A (ab_cw dA as w) sz) U U.heap))
      (fun _ st oc t => (∃ (r : Option ab_V) (w' : ab_W) (as' : Nat → Nat), Q r w' ∧ w.length ≤ w'.length ∧ (∀ i, (i < w.length ∨ ab_sb ≤ i) → as' i = as i) ∧ (w'.length = w.length → as' = as) ∧ oc = .returned (r.map (ab_cv as')) ∧ va_P D G.1 (ab_cw dA as' w') t.heap ∧ va_D (va_A (ab_cw dA as w) sz) (ab_cw dA as' w')) ∧ va_F (va_A (ab_cw dA as w) sz) st t)
      mc ms (va_A (ab_cw dA as w) sz)
/-- what stays through a method's body -/
def ab_Fx (G : ab_G) (rs : List String) (M : ab_M) (d : Nat) (p : Program) (R : Room) (s : State) (m : MethodId) (args : Array Value) (meth : Method) (c : Code) (D : va_G) (dA : Nat → ClassId) (aK aV : Nat → Nat) (A : Nat → Prop) : Prop :=
  p.tables.exec = Jvm.exec ∧ c.code = M.2.1 ∧ c.maxLocals = M.2.2.1 ∧ meth.sig.returnType = M.2.2.2 ∧ meth.locks = false ∧ s.vm.findClass M.1.cls = some m.cls ∧ meth.name = M.1.name ∧ (∀ x ∈ ab_ws G M, x.before args s = true) ∧ R.frames = d ∧ R.locals = 60 * d ∧ ab_Cx G rs D dA aK aV A s s.heap ∧ ∀ q, s.heap.size ≤ q → A q
/-- what a return owes -/
def ab_Rt (G : ab_G) (s : State) (args : Array Value) (D : va_G) (dA : Nat → ClassId) (as : Nat → Nat) (A : Nat → Prop) (w : ab_W) (Q : Option ab_V → ab_W → Prop) (Qc : Array Value → State → Outcome → State → Prop) (free : Addr → Prop) : Prop :=
  ∀ (r : Option ab_V) (w' : ab_W) (as' : Nat → Nat) (H' : Heap) (locs' : List Loc), Q r w' → w.length ≤ w'.length → (∀ i, (i < w.length ∨ ab_sb ≤ i) → as' i = as i) → (w'.length = w.length → as' = as) → va_P D G.1 (ab_cw dA as' w') H' → va_D A (ab_cw dA as' w') → va_S A s.heap H' locs' → (∀ t : State, t.heap = H' → s.WarmedH t.vm → Qc args s (.returned (r.map (ab_cv as'))) t) ∧ ∀ q ∈ locs', free q.base
def ab_Ev (G : ab_G) (rs : List String) (M : ab_M) (d bc bs : Nat) (pc : Nat) (l : ab_L) (st : List ab_V) (w : ab_W) (Q : Option ab_V → ab_W → Prop) : Prop :=
  ∀ (p : Program) (la : Launch) (e : Env) (R : Room) (s : State) (m : MethodId) (args : Array Value) (below : List Frame) (meth : Method) (c : Code) (H : Heap) (locs : List Loc) (cells slots : Nat) (D : va_G) (dA : Nat → ClassId) (aK aV as : Nat → Nat) (A : Nat → Prop) (ls : Array Slot) (Qc : Array Value → State → Outcome → State → Prop) (free : Addr → Prop),
    ab_Fx G rs M d p R s m args meth c D dA aK aV A → ab_hs G aK aV as → va_P D G.1 (ab_cw dA as w) H → va_D A (ab_cw dA as w) → va_S A s.heap H locs → ab_lo as ls M.2.2.1 l → cells + bc ≤ R.cells → slots + bs ≤ R.slots → ab_Rt G s args D dA as A w Q Qc free →
    W p la e R s m args below meth c H locs cells slots (MQ below Qc args s R.cells R.slots free) (F0 m pc ls (st.map (ab_cv as)))
theorem ab_lg (as : Nat → Nat) : ∀ (av : List ab_V) (k : Nat), (ab_en av).length = (lg_sl (av.map (ab_cv as))).length ∧ ∀ (i : Nat) (v : ab_V), (ab_en av)[i]? = some (some v) → (k + i, ab_cv as v) ∈ lv_args k (av.map (ab_cv as))
  | [], k => ⟨rfl, fun i v h => by simp [ab_en] at h⟩
  | .inl a :: vs, k => by
    obtain ⟨h1, h2⟩ := ab_lg as vs (k + 1)
    refine ⟨by simp [ab_en, lg_sl, ab_cv, Value.category] at h1 ⊢; omega, fun i v h => ?_⟩
    cases i with
    | zero => simp [ab_en] at h; subst h; simp [lv_args]
    | succ i =>
      have h3 := h2 i v (by simpa [ab_en] using h)
      rw [show k + (i + 1) = k + 1 + i by omega]
      exact List.mem_cons_of_mem _ h3
  | .inr (.inl a) :: vs, k => by
    obtain ⟨h1, h2⟩ := ab_lg as vs (k + 2)
    refine ⟨by simp [ab_en, lg_sl, ab_cv, Value.category] at h1 ⊢; omega, fun i v h => ?_⟩
    rcases i with _ | _ | i
    · simp [ab_en] at h; subst h; simp [lv_args]
    · simp [ab_en] at h
    · have h3 := h2 i v (by simpa [ab_en] using h)
      rw [show k + (i + 1 + 1) = k + 2 + i by omega]
      exact List.mem_cons_of_mem _ h3
  | .inr (.inr none) :: vs, k => by
    obtain ⟨h1, h2⟩ := ab_lg as vs (k + 1)
    refine ⟨by simp [ab_en, lg_sl, ab_cv, Value.category] at h1 ⊢; omega, fun i v h => ?_⟩
    cases i with
    | zero => simp [ab_en] at h; subst h; simp [lv_args]
    | succ i =>
      have h3 := h2 i v (by simpa [ab_en] using h)
      rw [show k + (i + 1) = k + 1 + i by omega]
      exact List.mem_cons_of_mem _ h3
  | .inr (.inr (some a)) :: vs, k => by
    obtain ⟨h1, h2⟩ := ab_lg as vs (k + 1)
    refine ⟨by simp [ab_en, lg_sl, ab_cv, Value.category] at h1 ⊢; omega, fun i v h => ?_⟩
    cases i with
    | zero => simp [ab_en] at h; subst h; simp [lv_args]
    | succ i =>
      have h3 := h2 i v (by simpa [ab_en] using h)
      rw [show k + (i + 1) = k + 1 + i by omega]
      exact List.mem_cons_of_mem _ h3
/-- a contract out of the walk of the body -/
theorem ab_Mt.of {G : ab_G} {rs : List String} {M : ab_M} {d mc ms : Nat} {av : List ab_V} {w : ab_W} {Q : Option ab_V → ab_W → Prop} (hy : plainName M.1.cls = true) (hl : (ab_en av).length ≤ M.2.2.1) (h : ab_Ev G rs M d mc ms 0 (ab_pd (ab_en av) M.2.2.1) [] w Q) : ab_Mt G rs M d mc ms av w Q := by
  intro l D dA aK aV as sz hsK
  refine Met.ofW (cc := M.2.1) (maxL := M.2.2.1) (ret := M.2.2.2) hy rfl ?_
  intro p e s m args below meth c s₁ B hml hv
  obtain ⟨rfl, hsz, hP, hD0, hC⟩ := hv
  subst hsz
  have hg := ab_lg as av 0
  have hle := lv_entry (av.map (ab_cv as)) (n := M.2.2.1) (by rw [← hg.1]; exact hl)
  rw [lg_entry_eq]
  generalize (lg_sl (av.map (ab_cv as)) ++ List.replicate (M.2.2.1 - (lg_sl (av.map (ab_cv as))).length) Slot.unset).toArray = ls at hle ⊢
  have hD := hD0.self (sz := s.heap.size)
  refine h p l e _ s m _ below meth c s.heap [] 0 0 D dA aK aV as (va_A (ab_cw dA as w) s.heap.size) ls _ _ ⟨B.exec, B.bytes, hml, B.returns, B.notSynchronized, findClass_of_methodNamed B.named, (name_of_methodNamed B.named B.method).1, atoms_spec (ws := ab_ws G M) B.pre, rfl, rfl, hC, fun q hq => Or.inr hq⟩ hsK hP hD va_S.rf ⟨?_, _, hle, ?_⟩ ?_ ?_ ?_
  · simp only [ab_pd, List.length_append, List.length_replicate]; omega
  · intro i v hi
    rw [← Nat.zero_add i]
    refine hg.2 i v ?_
    unfold ab_pd at hi
    by_cases hlt : i < (ab_en av).length
    · rwa [List.getElem?_append_left hlt] at hi
    · rw [List.getElem?_append_right (by omega)] at hi
      have := List.eq_of_mem_replicate (List.mem_of_getElem? hi)
      cases this
  · exact Nat.le_of_eq (Nat.zero_add _)
  · exact Nat.le_of_eq (Nat.zero_add _)
  · intro r w' as' H' locs' h1 h2 h3 h4 h5 h6 h7
    refine ⟨fun t ht hW => ⟨⟨r, w', as', h1, h2, h3, h4, rfl, by rw [ht]; exact h5, h6⟩, h7.F ht⟩, fun q hq => h7.2.2 q hq⟩
