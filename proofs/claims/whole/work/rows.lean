section
/-! an abstract machine: ints as whole numbers, cells by their places in a list -/
abbrev ab_V : Type := Int ⊕ (Int64 ⊕ Option Nat)
abbrev ab_E : Type := (Nat × Nat × (Int → Int)) ⊕ ((Nat × (Int → Int64)) ⊕ ((Nat × Nat × (Int → Option Nat)) ⊕ (Nat × List ab_V)))
abbrev ab_W : Type := List ab_E
abbrev ab_L : Type := List (Option ab_V)
abbrev ab_in (a : Int) : Prop := -2147483648 ≤ a ∧ a ≤ 2147483647
abbrev ab_I (a : Int) : ab_V := .inl a
abbrev ab_J (a : Int64) : ab_V := .inr (.inl a)
abbrev ab_R (i : Nat) : ab_V := .inr (.inr (some i))
abbrev ab_N : ab_V := .inr (.inr none)
abbrev ab_ai (t n : Nat) (f : Int → Int) : ab_E := .inl (t, n, f)
abbrev ab_al (n : Nat) (f : Int → Int64) : ab_E := .inr (.inl (n, f))
abbrev ab_ar (t n : Nat) (f : Int → Option Nat) : ab_E := .inr (.inr (.inl (t, n, f)))
abbrev ab_ob (c : Nat) (fs : List ab_V) : ab_E := .inr (.inr (.inr (c, fs)))
def ab_up {α : Type} (f : Int → α) (k : Int) (v : α) : Int → α := fun j => if j = k then v else f j
def ab_cp {α : Type} (f g : Int → α) (sp dp n : Int) : Int → α := fun k => if dp ≤ k ∧ k < dp + n then f (sp + (k - dp)) else g k
def ab_sz : ab_E → Nat
  | .inl (_, n, _) => n
  | .inr (.inl (n, _)) => n
  | .inr (.inr (.inl (_, n, _))) => n
  | .inr (.inr (.inr (_, fs))) => fs.length
def ab_sl (w : ab_W) : Nat := (w.map ab_sz).sum
/-- what the machine holds for an abstract value, cell, world -/
def ab_cv (as : Nat → Nat) : ab_V → Value
  | .inl a => .int (Int32.ofInt a)
  | .inr (.inl x) => .long x
  | .inr (.inr none) => .null
  | .inr (.inr (some i)) => .ref (as i)
def ab_ce (dA : Nat → ClassId) (as : Nat → Nat) : ab_E → va_E
  | .inl (t, n, f) => .inl (dA t, n, .inl (fun k => Int32.ofInt (f (k : Int))))
  | .inr (.inl (n, f)) => .inl (dA 3, n, .inr (.inl (fun k => f (k : Int))))
  | .inr (.inr (.inl (t, n, f))) => .inl (dA t, n, .inr (.inr (.inr (.inr (fun k => (f (k : Int)).map as)))))
  | .inr (.inr (.inr (ci, fs))) => .inr (ci, fs.map (ab_cv as))
def ab_cw (dA : Nat → ClassId) (as : Nat → Nat) (w : ab_W) : va_W := w.mapIdx (fun i e => (as i, ab_ce dA as e))
/-- locals -/
def ab_l2 : Option (Option ab_V) → Bool
  | some (some (.inr (.inl _))) => true
  | _ => false
def ab_cl (l : ab_L) : Nat → ab_L
  | 0 => l
  | j + 1 => if ab_l2 l[j]? then l.set j none else l
def ab_s1 (l : ab_L) (i : Nat) (v : ab_V) : ab_L := (ab_cl l i).set i (some v)
def ab_s2 (l : ab_L) (i : Nat) (v : ab_V) : ab_L := ((ab_cl l i).set i (some v)).set (i + 1) none
def ab_en : List ab_V → ab_L
  | [] => []
  | .inr (.inl x) :: vs => some (.inr (.inl x)) :: none :: ab_en vs
  | v :: vs => some v :: ab_en vs
def ab_pd (l : ab_L) (n : Nat) : ab_L := l ++ List.replicate (n - l.length) none
def ab_wd : List ab_V → Nat
  | [] => 0
  | .inr (.inl _) :: vs => 2 + ab_wd vs
  | _ :: vs => 1 + ab_wd vs
/-- numbers -/
theorem ab_lt {a b : Int} (ha : ab_in a) (hb : ab_in b) : Int32.ofInt a < Int32.ofInt b ↔ a < b := by
  rw [Int32.lt_iff_toInt_lt, Int32.toInt_ofInt_of_le (by omega) (by omega), Int32.toInt_ofInt_of_le (by omega) (by omega)]
theorem ab_le {a b : Int} (ha : ab_in a) (hb : ab_in b) : Int32.ofInt a ≤ Int32.ofInt b ↔ a ≤ b := by
  rw [Int32.le_iff_toInt_le, Int32.toInt_ofInt_of_le (by omega) (by omega), Int32.toInt_ofInt_of_le (by omega) (by omega)]
theorem ab_eq {a b : Int} (ha : ab_in a) (hb : ab_in b) : Int32.ofInt a = Int32.ofInt b ↔ a = b := by
  constructor
  · intro h
    have h2 := congrArg Int32.toInt h
    rwa [Int32.toInt_ofInt_of_le (by omega) (by omega), Int32.toInt_ofInt_of_le (by omega) (by omega)] at h2
  · intro h; rw [h]
theorem ab_ti {a : Int} (ha : ab_in a) : (Int32.ofInt a).toInt = a := Int32.toInt_ofInt_of_le (by omega) (by omega)
theorem ab_tn {a : Int} (ha : ab_in a) : (Int32.ofInt a).toNatClampNeg = a.toNat := by
  show (Int32.ofInt a).toInt.toNat = _
  rw [ab_ti ha]
theorem ab_ix {a : Int} {n : Nat} (h0 : 0 ≤ a) (h1 : a < n) (hi : ab_in a) : vp_in (Int32.ofInt a) n := by
  intro h
  rcases h with h | h
  · have h2 : Int32.ofInt a < Int32.ofInt 0 := h
    rw [ab_lt hi (by omega)] at h2
    omega
  · rw [ab_tn hi] at h
    omega
theorem ab_of (x : Int32) : Int32.ofInt x.toInt = x := Int32.ofInt_toInt x
theorem ab_toin (x : Int32) : ab_in x.toInt := by
  have h1 : -2147483648 ≤ x.toInt := Int32.le_toInt x
  have h2 : x.toInt ≤ 2147483647 := Int32.toInt_le x
  exact ⟨h1, h2⟩
end
section
/-! what is fixed for a claim: the classes, the words, the words of nest mates, the string constants (own class, entry, text, number; lengths, bytes) -/
abbrev ab_M : Type := MethodName × ByteArray × Nat × Option FieldType
abbrev ab_T : Type := List (String × Nat × String × Nat)
abbrev ab_G : Type := List vw_C × List Cond × List Cond × ab_T × List Nat × List (List Int32)
/-- array classes by their numbers: int, byte, boolean, long, then those of references -/
def ab_ty (G : ab_G) (rs : List String) (dA : Nat → ClassId) : List (ClassId × FieldType) := [(dA 0, .int), (dA 1, .byte), (dA 2, .boolean), (dA 3, .long)] ++ rs.mapIdx (fun i C => (dA (4 + i), .object C))
def ab_sb : Nat := 1000000
/-- what holds of a state: the tables, the words of nest mates, the string constants -/
def ab_Cx (G : ab_G) (rs : List String) (D : va_G) (dA : Nat → ClassId) (aK aV : Nat → Nat) (A : Nat → Prop) (U : State) (H : Heap) : Prop :=
  va_K D G.1 (ab_ty G rs dA) U ∧ (∀ c ∈ G.2.2.1, (∃ a i x h, c = Cond.methodLinkNest a i x h) ∨ ∃ a i b n d h, c = Cond.fieldLinkNest a i b n d h) ∧ (∀ c ∈ G.2.2.1, va_Nw c U) ∧ vk_S G.2.2.2.2.1.length G.2.2.2.2.1 G.2.2.2.2.2 aK aV A U H ∧ (∀ q ∈ G.2.2.2.1, vk_R q.1 q.2.1 q.2.2.1 (aK q.2.2.2) U) ∧ va_Z "java/lang/String" "COMPACT_STRINGS" "Z" (.int 1) A U H ∧ ∀ C ∈ rs, va_AO C U
theorem ab_Cx.warm {G : ab_G} {rs : List String} {D : va_G} {dA : Nat → ClassId} {aK aV : Nat → Nat} {A B : Nat → Prop} {s U : State} {H H1 : Heap} (h : ab_Cx G rs D dA aK aV A s H) (hW : s.WarmedH U.vm) (hq : ∀ a : Nat, a < H.size → ¬ A a → H1[a]? = H[a]?) (hAB : ∀ q, B q → A q) : ab_Cx G rs D dA aK aV B U H1 := by
  obtain ⟨h1, h2, h3, h4, h5, h6, h7⟩ := h
  refine ⟨h1.moved hW.alike, h2, fun c hc => ?_, ((h4.moved hW.alike).kept hq).narrow hAB, fun q hq => (h5 q hq).warm hW, ?_, fun C hc => (h7 C hc).moved hW.alike⟩
  · rcases h2 c hc with ⟨a, i, x, h, rfl⟩ | ⟨a, i, b, n, d, h, rfl⟩
    · exact va_Nw.warmM hW (h3 _ hc)
    · exact va_Nw.warmF hW (h3 _ hc)
  · exact ((h6.moved hW.alike).kept hq).narrow hAB
theorem ab_Cx.same {G : ab_G} {rs : List String} {D : va_G} {dA : Nat → ClassId} {aK aV : Nat → Nat} {A : Nat → Prop} {u U : State} {H : Heap} (hv : U.vm = u.vm) (h : ab_Cx G rs D dA aK aV A u H) : ab_Cx G rs D dA aK aV A U H := by
  obtain ⟨h1, h2, h3, h4, h5, h6, h7⟩ := h
  have hl : u.vm.Alike U.vm := by rw [hv]; exact Vm.Alike.refl _
  refine ⟨h1.moved hl, h2, fun c hc => ?_, h4.moved hl, fun q hq => (h5 q hq).same hv, h6.moved hl, fun C hc => (h7 C hc).moved hl⟩
  rcases h2 c hc with ⟨a, i, x, h, rfl⟩ | ⟨a, i, b, n, d, h, rfl⟩
  · exact va_Nw.same rfl hv.symm (h3 _ hc)
  · exact va_Nw.same rfl hv.symm (h3 _ hc)
/-- locals -/
def ab_lo (as : Nat → Nat) (ls : Array Slot) (nL : Nat) (l : ab_L) : Prop := l.length = nL ∧ ∃ lv, lv_has ls nL lv ∧ ∀ (i : Nat) (v : ab_V), l[i]? = some (some v) → (i, ab_cv as v) ∈ lv
theorem ab_lo.at {as : Nat → Nat} {ls : Array Slot} {nL : Nat} {l : ab_L} (h : ab_lo as ls nL l) {i : Nat} {v : ab_V} (hi : l[i]? = some (some v)) : ls[i]? = some (.val (ab_cv as v)) := by
  obtain ⟨-, lv, h1, h2⟩ := h
  exact h1.2.2 _ (h2 i v hi)
def ab_rm (d mc ms : Nat) : Room := { frames := d, cells := mc, slots := ms, locals := 60 * d }
def ab_ws (G : ab_G) (M : ab_M) : List Cond := Cond.code M.1 M.2.1 M.2.2.1 M.2.2.2 :: G.2.1
/-- a method's contract, at any place -/
def ab_Mt (G : ab_G) (rs : List String) (M : ab_M) (d mc ms : Nat) (av : List ab_V) (w : ab_W) (Q : Option ab_V → ab_W → Prop) : Prop :=
  ∀ (l : Launch) (D : va_G) (dA : Nat → ClassId) (aK aV as : Nat → Nat) (sz : Nat), (∀ i, i < G.2.2.2.2.1.length → as (ab_sb + i) = aK i) →
    Met l M.1 (ab_ws G M) (ab_rm d mc ms) (va_Pc (av.map (ab_cv as)) (fun U => U.heap.size = sz ∧ va_P D G.1 (ab_cw dA as w) U.heap ∧ va_D (fun _ => True) (ab_cw dA as w) ∧ ab_Cx G rs D dA aK aV (va_A (ab_cw dA as w) sz) U U.heap))
      (fun _ st oc t => (∃ (r : Option ab_V) (w' : ab_W) (as' : Nat → Nat), Q r w' ∧ w.length ≤ w'.length ∧ (∀ i, (i < w.length ∨ ab_sb ≤ i) → as' i = as i) ∧ (w'.length = w.length → as' = as) ∧ oc = .returned (r.map (ab_cv as')) ∧ va_P D G.1 (ab_cw dA as' w') t.heap ∧ va_D (va_A (ab_cw dA as w) sz) (ab_cw dA as' w')) ∧ va_F (va_A (ab_cw dA as w) sz) st t)
      mc ms (va_A (ab_cw dA as w) sz)
/-- what stays through a method's body -/
def ab_Fx (G : ab_G) (rs : List String) (M : ab_M) (d : Nat) (p : Program) (R : Room) (s : State) (m : MethodId) (args : Array Value) (meth : Method) (c : Code) (D : va_G) (dA : Nat → ClassId) (aK aV : Nat → Nat) (A : Nat → Prop) : Prop :=
  p.tables.exec = Jvm.exec ∧ c.code = M.2.1 ∧ c.maxLocals = M.2.2.1 ∧ meth.sig.returnType = M.2.2.2 ∧ meth.locks = false ∧ s.vm.findClass M.1.cls = some m.cls ∧ meth.name = M.1.name ∧ (∀ x ∈ ab_ws G M, x.before args s = true) ∧ R.frames = d ∧ R.locals = 60 * d ∧ ab_Cx G rs D dA aK aV A s s.heap ∧ ∀ q, s.heap.size ≤ q → A q
/-- what a return owes -/
def ab_Rt (G : ab_G) (s : State) (args : Array Value) (D : va_G) (dA : Nat → ClassId) (as : Nat → Nat) (A : Nat → Prop) (w : ab_W) (Q : Option ab_V → ab_W → Prop) (Qc : Array Value → State → Outcome → State → Prop) (free : Addr → Prop) : Prop :=
  ∀ (r : Option ab_V) (w' : ab_W) (as' : Nat → Nat) (H' : Heap) (locs' : List Loc), Q r w' → w.length ≤ w'.length → (∀ i, (i < w.length ∨ ab_sb ≤ i) → as' i = as i) → (w'.length = w.length → as' = as) → va_P D G.1 (ab_cw dA as' w') H' → va_D A (ab_cw dA as' w') → va_S A s.heap H' locs' → (∀ t : State, t.heap = H' → s.WarmedH t.vm → Qc args s (.returned (r.map (ab_cv as'))) t) ∧ ∀ q ∈ locs', free q.base
def ab_Ev (G : ab_G) (rs : List String) (M : ab_M) (d bc bs : Nat) (pc : Nat) (l : ab_L) (st : List ab_V) (w : ab_W) (Q : Option ab_V → ab_W → Prop) : Prop :=
  ∀ (p : Program) (la : Launch) (e : Env) (R : Room) (s : State) (m : MethodId) (args : Array Value) (below : List Frame) (meth : Method) (c : Code) (H : Heap) (locs : List Loc) (cells slots : Nat) (D : va_G) (dA : Nat → ClassId) (aK aV as : Nat → Nat) (A : Nat → Prop) (ls : Array Slot) (Qc : Array Value → State → Outcome → State → Prop) (free : Addr → Prop),
    ab_Fx G rs M d p R s m args meth c D dA aK aV A → (∀ i, i < G.2.2.2.2.1.length → as (ab_sb + i) = aK i) → va_P D G.1 (ab_cw dA as w) H → va_D A (ab_cw dA as w) → va_S A s.heap H locs → ab_lo as ls M.2.2.1 l → cells + bc ≤ R.cells → slots + bs ≤ R.slots → ab_Rt G s args D dA as A w Q Qc free →
    W p la e R s m args below meth c H locs cells slots (MQ below Qc args s R.cells R.slots free) (F0 m pc ls (st.map (ab_cv as)))
theorem ab_lg (as : Nat → Nat) : ∀ (av : List ab_V) (k : Nat), (ab_en av).length = (lg_sl (av.map (ab_cv as))).length ∧ ∀ (i : Nat) (v : ab_V), (ab_en av)[i]? = some (some v) → (k + i, ab_cv as v) ∈ lv_args k (av.map (ab_cv as))
  | [], k => ⟨rfl, fun i v h => by simp [ab_en] at h⟩
  | .inl a :: vs, k => by
    obtain ⟨h1, h2⟩ := ab_lg as vs (k + 1)
    refine ⟨by simp [ab_en, lg_sl, ab_cv, Value.category] at h1 ⊢; omega, fun i v h => ?_⟩
    cases i with
    | zero => simp [ab_en] at h; subst h; simp [lv_args]
    | succ i =>
      have h3 := h2 i v (by simpa [ab_en] using h)
      rw [show k + (i + 1) = k + 1 + i by omega]
      exact List.mem_cons_of_mem _ h3
  | .inr (.inl a) :: vs, k => by
    obtain ⟨h1, h2⟩ := ab_lg as vs (k + 2)
    refine ⟨by simp [ab_en, lg_sl, ab_cv, Value.category] at h1 ⊢; omega, fun i v h => ?_⟩
    rcases i with _ | _ | i
    · simp [ab_en] at h; subst h; simp [lv_args]
    · simp [ab_en] at h
    · have h3 := h2 i v (by simpa [ab_en] using h)
      rw [show k + (i + 1 + 1) = k + 2 + i by omega]
      exact List.mem_cons_of_mem _ h3
  | .inr (.inr none) :: vs, k => by
    obtain ⟨h1, h2⟩ := ab_lg as vs (k + 1)
    refine ⟨by simp [ab_en, lg_sl, ab_cv, Value.category] at h1 ⊢; omega, fun i v h => ?_⟩
    cases i with
    | zero => simp [ab_en] at h; subst h; simp [lv_args]
    | succ i =>
      have h3 := h2 i v (by simpa [ab_en] using h)
      rw [show k + (i + 1) = k + 1 + i by omega]
      exact List.mem_cons_of_mem _ h3
  | .inr (.inr (some a)) :: vs, k => by
    obtain ⟨h1, h2⟩ := ab_lg as vs (k + 1)
    refine ⟨by simp [ab_en, lg_sl, ab_cv, Value.category] at h1 ⊢; omega, fun i v h => ?_⟩
    cases i with
    | zero => simp [ab_en] at h; subst h; simp [lv_args]
    | succ i =>
      have h3 := h2 i v (by simpa [ab_en] using h)
      rw [show k + (i + 1) = k + 1 + i by omega]
      exact List.mem_cons_of_mem _ h3
/-- a contract out of the walk of the body -/
theorem ab_Mt.of {G : ab_G} {rs : List String} {M : ab_M} {d mc ms : Nat} {av : List ab_V} {w : ab_W} {Q : Option ab_V → ab_W → Prop} (hy : plainName M.1.cls = true) (hl : (ab_en av).length ≤ M.2.2.1) (h : ab_Ev G rs M d mc ms 0 (ab_pd (ab_en av) M.2.2.1) [] w Q) : ab_Mt G rs M d mc ms av w Q := by
  intro l D dA aK aV as sz hsK
  refine Met.ofW (cc := M.2.1) (maxL := M.2.2.1) (ret := M.2.2.2) hy rfl ?_
  intro p e s m args below meth c s₁ B hml hv
  obtain ⟨rfl, hsz, hP, hD0, hC⟩ := hv
  subst hsz
  have hg := ab_lg as av 0
  have hle := lv_entry (av.map (ab_cv as)) (n := M.2.2.1) (by rw [← hg.1]; exact hl)
  rw [lg_entry_eq]
  generalize (lg_sl (av.map (ab_cv as)) ++ List.replicate (M.2.2.1 - (lg_sl (av.map (ab_cv as))).length) Slot.unset).toArray = ls at hle ⊢
  have hD := hD0.self (sz := s.heap.size)
  refine h p l e _ s m _ below meth c s.heap [] 0 0 D dA aK aV as (va_A (ab_cw dA as w) s.heap.size) ls _ _ ⟨B.exec, B.bytes, hml, B.returns, B.notSynchronized, findClass_of_methodNamed B.named, (name_of_methodNamed B.named B.method).1, atoms_spec (ws := ab_ws G M) B.pre, rfl, rfl, hC, fun q hq => Or.inr hq⟩ hsK hP hD va_S.rf ⟨?_, _, hle, ?_⟩ ?_ ?_ ?_
  · simp only [ab_pd, List.length_append, List.length_replicate]; omega
  · intro i v hi
    rw [← Nat.zero_add i]
    refine hg.2 i v ?_
    unfold ab_pd at hi
    by_cases hlt : i < (ab_en av).length
    · rwa [List.getElem?_append_left hlt] at hi
    · rw [List.getElem?_append_right (by omega)] at hi
      have := List.eq_of_mem_replicate (List.mem_of_getElem? hi)
      cases this
  · exact Nat.le_of_eq (Nat.zero_add _)
  · exact Nat.le_of_eq (Nat.zero_add _)
  · intro r w' as' H' locs' h1 h2 h3 h4 h5 h6 h7
    refine ⟨fun t ht hW => ⟨⟨r, w', as', h1, h2, h3, h4, rfl, by rw [ht]; exact h5, h6⟩, h7.F ht⟩, fun q hq => h7.2.2 q hq⟩
end
section
/-! rules, an instruction each: numbers, locals, stack -/
theorem ab_sh : ∀ n : Nat, n < 32 → ((nI n &&& 31).toBitVec.smod 32).toNat = n := by decide +kernel
theorem ab_shu : ∀ n : Nat, n < 32 → (((nI n).toUInt32 &&& Int32.toUInt32 31).toBitVec % 32).toNat = n := by decide +kernel
theorem ab_nI {k : Int} (h : 0 ≤ k) : Int32.ofInt k = nI k.toNat := by
  obtain ⟨n, rfl⟩ := Int.eq_ofNat_of_zero_le h
  rfl
theorem ab_shl {a k : Int} (h0 : 0 ≤ k) (h1 : k < 32) : Int32.ofInt a <<< (Int32.ofInt k &&& 31) = Int32.ofInt (a * 2 ^ k.toNat) := by
  rw [ab_nI h0]
  apply Int32.toBitVec_inj.mp
  apply BitVec.eq_of_toNat_eq
  rw [pk_shl _ _ k.toNat (ab_sh _ (by omega))]
  show (BitVec.ofInt 32 a).toNat * 2 ^ k.toNat % 2 ^ 32 = (BitVec.ofInt 32 (a * 2 ^ k.toNat)).toNat
  rw [BitVec.toNat_ofInt, BitVec.toNat_ofInt]
  have h2 : ((a * 2 ^ k.toNat) % ((2 ^ 32 : Nat) : Int)) = ((a % ((2 ^ 32 : Nat) : Int)) * 2 ^ k.toNat) % ((2 ^ 32 : Nat) : Int) := by rw [Int.mul_emod, Int.mul_emod (a % ((2 ^ 32 : Nat) : Int)) (2 ^ k.toNat), Int.emod_emod_of_dvd a (Int.dvd_refl _)]
  rw [h2]
  have h3 : 0 ≤ a % ((2 ^ 32 : Nat) : Int) := Int.emod_nonneg _ (by decide)
  generalize a % ((2 ^ 32 : Nat) : Int) = z at h3 ⊢
  obtain ⟨n, rfl⟩ := Int.eq_ofNat_of_zero_le h3
  generalize k.toNat = m
  have h4 : ((n : Int) * 2 ^ m) % ((2 ^ 32 : Nat) : Int) = ((n * 2 ^ m % 2 ^ 32 : Nat) : Int) := by rw [Int.natCast_emod, Int.natCast_mul, Int.natCast_pow]; rfl
  rw [h4]
  exact (Int.toNat_natCast _).symm
theorem ab_shr {a k : Int} (ha : ab_in a) (h0 : 0 ≤ k) (h1 : k < 32) : Int32.ofInt a >>> (Int32.ofInt k &&& 31) = Int32.ofInt (a / 2 ^ k.toNat) := by
  rw [ab_nI h0]
  have h := pk_shr (Int32.ofInt a) (nI k.toNat &&& 31) k.toNat (ab_sh _ (by omega))
  rw [ab_ti ha, Int.shiftRight_eq_div_pow] at h
  rw [← ab_of (Int32.ofInt a >>> (nI k.toNat &&& 31)), h]
  congr 1
theorem ab_ushr {a k : Int} (ha : ab_in a) (h0 : 0 ≤ k) (h1 : k < 32) : ((Int32.ofInt a).toUInt32 >>> ((Int32.ofInt k).toUInt32 &&& Int32.toUInt32 31)).toInt32 = Int32.ofInt ((a % 4294967296) / 2 ^ k.toNat) := by
  rw [ab_nI h0]
  apply Int32.toBitVec_inj.mp
  apply BitVec.eq_of_toNat_eq
  rw [pk_ushr _ _ k.toNat (ab_shu _ (by omega))]
  show (BitVec.ofInt 32 a).toNat / 2 ^ k.toNat = (BitVec.ofInt 32 ((a % 4294967296) / 2 ^ k.toNat)).toNat
  rw [BitVec.toNat_ofInt, BitVec.toNat_ofInt]
  have h3 : 0 ≤ a % 4294967296 := Int.emod_nonneg _ (by decide)
  have h4 : a % 4294967296 < 4294967296 := Int.emod_lt_of_pos _ (by decide)
  show (a % 4294967296).toNat / 2 ^ k.toNat = ((a % 4294967296 / 2 ^ k.toNat) % 4294967296).toNat
  generalize a % 4294967296 = z at h3 h4 ⊢
  obtain ⟨n, rfl⟩ := Int.eq_ofNat_of_zero_le h3
  generalize k.toNat = m
  have h5 : ((n : Int) / 2 ^ m) = ((n / 2 ^ m : Nat) : Int) := by push_cast; rfl
  rw [h5]
  have h6 : n / 2 ^ m ≤ n := Nat.div_le_self _ _
  rw [Int.toNat_natCast]
  generalize n / 2 ^ m = q at h6 ⊢
  rw [Int.emod_eq_of_lt (by omega) (by omega)]
  rfl
theorem ab_i2b (a : Int) : (Int32.ofInt a).toInt8.toInt32 = Int32.ofInt (a.bmod 256) := by
  rw [Int32.toInt8_ofInt]
  rw [← ab_of (Int8.ofInt a).toInt32, Int8.toInt_toInt32, Int8.toInt_ofInt]
theorem ab_i2l {a : Int} (ha : ab_in a) : (Int32.ofInt a).toInt64 = Int64.ofInt a := by
  rw [← Int64.ofInt_toInt (Int32.ofInt a).toInt64, Int32.toInt_toInt64, ab_ti ha]
theorem ab_tdiv {a b : Int} (ha : ab_in a) (hb : ab_in b) : Int32.ofInt (a.tdiv b) = Int32.ofInt a / Int32.ofInt b := by
  apply Int32.ofInt_tdiv
  all_goals first | exact ha.1 | exact hb.1 | exact ha.2 | exact hb.2 | (have h1 := ha.2; have h2 := hb.2; first | exact Int.lt_of_le_of_lt ha.2 (by decide) | exact Int.lt_of_le_of_lt hb.2 (by decide))
theorem ab_tmod {a b : Int} (ha : ab_in a) (hb : ab_in b) : Int32.ofInt (a.tmod b) = Int32.ofInt a - Int32.ofInt a / Int32.ofInt b * Int32.ofInt b := by
  rw [← ab_tdiv ha hb, ← Int32.ofInt_mul, ← Int32.ofInt_sub, Int.tmod_def, Int.mul_comm]
def ab_cmp (x y : Int64) : Int := if x > y then 1 else if x = y then 0 else -1
theorem ab_cmp_ok (x y : Int64) : lg_cmp x y = Int32.ofInt (ab_cmp x y) := by
  unfold lg_cmp ab_cmp
  split
  · rfl
  · split <;> rfl
section EVA
variable {G : ab_G} {rs : List String} {M : ab_M} {d bc bs pc : Nat} {l : ab_L} {st : List ab_V} {w : ab_W} {Q : Option ab_V → ab_W → Prop}
theorem ab_go {pc' : Nat} {st st' : List ab_V}
    (h : ∀ {p : Program} {la : Launch} {e : Env} {R : Room} {s : State} {m : MethodId} {args : Array Value} {below : List Frame} {meth : Method} {c : Code} {H : Heap} {locs : List Loc} {cells slots : Nat} {Qz : State → Prop} {ls : Array Slot} (as : Nat → Nat), p.tables.exec = Jvm.exec → c.code = M.2.1 → s.vm.findClass M.1.cls = some m.cls → (∀ x ∈ ab_ws G M, x.before args s = true) → ab_lo as ls M.2.2.1 l →
      W p la e R s m args below meth c H locs cells slots Qz (F0 m pc' ls (st'.map (ab_cv as))) → W p la e R s m args below meth c H locs cells slots Qz (F0 m pc ls (st.map (ab_cv as))))
    (k : ab_Ev G rs M d bc bs pc' l st' w Q) : ab_Ev G rs M d bc bs pc l st w Q := by
  intro p la e R s m args below meth c H locs cells slots D dA aK aV as A ls Qc free hF hs hP hD hS hl h1 h2 hR
  exact h as hF.1 hF.2.1 hF.2.2.2.2.2.1 hF.2.2.2.2.2.2.2.1 hl (k p la e R s m args below meth c H locs cells slots D dA aK aV as A ls Qc free hF hs hP hD hS hl h1 h2 hR)
theorem ev_top {a b : ab_V} (h : a = b) (k : ab_Ev G rs M d bc bs pc l (b :: st) w Q) : ab_Ev G rs M d bc bs pc l (a :: st) w Q := by rw [h]; exact k
theorem ev_world {w' : ab_W} (h : w = w') (k : ab_Ev G rs M d bc bs pc l st w' Q) : ab_Ev G rs M d bc bs pc l st w Q := by rw [h]; exact k
theorem ev_iconst {n : Int} (hd : decode M.2.1 pc = .ok (.iconst n, 1)) (k : ab_Ev G rs M d bc bs (pc + 1) l (.inl n :: st) w Q) : ab_Ev G rs M d bc bs pc l st w Q := ab_go (fun _ hx hb _ _ _ kk => lv_iconst hx hb hd rfl kk) k
theorem ev_bipush {n : Int} (hd : decode M.2.1 pc = .ok (.bipush n, 2)) (hn : (Int8.ofInt n).toInt32 = Int32.ofInt n) (k : ab_Ev G rs M d bc bs (pc + 2) l (.inl n :: st) w Q) : ab_Ev G rs M d bc bs pc l st w Q := ab_go (fun _ hx hb _ _ _ kk => lv_bipush hx hb hd hn kk) k
theorem ev_sipush {n : Int} (hd : decode M.2.1 pc = .ok (.sipush n, 3)) (hn : (Int16.ofInt n).toInt32 = Int32.ofInt n) (k : ab_Ev G rs M d bc bs (pc + 3) l (.inl n :: st) w Q) : ab_Ev G rs M d bc bs pc l st w Q := ab_go (fun _ hx hb _ _ _ kk => lv_sipush hx hb hd hn kk) k
theorem ev_ldc {n : Int} {v : Int32} {idx : Nat} (hd : decode M.2.1 pc = .ok (.ldc idx, 2)) (hc : Cond.constant M.1.cls idx v ∈ G.2.1) (hn : v = Int32.ofInt n) (k : ab_Ev G rs M d bc bs (pc + 2) l (.inl n :: st) w Q) : ab_Ev G rs M d bc bs pc l st w Q := ab_go (fun _ hx hb ho ht _ kk => lv_ldc hx hb ho (ht _ (List.mem_cons_of_mem _ hc)) hd (by rw [hn]; exact kk)) k
theorem ev_ldcw {n : Int} {v : Int32} {idx : Nat} (hd : decode M.2.1 pc = .ok (.ldc_w idx, 3)) (hc : Cond.constant M.1.cls idx v ∈ G.2.1) (hn : v = Int32.ofInt n) (k : ab_Ev G rs M d bc bs (pc + 3) l (.inl n :: st) w Q) : ab_Ev G rs M d bc bs pc l st w Q := ab_go (fun _ hx hb ho ht _ kk => lv_ldcw hx hb ho (ht _ (List.mem_cons_of_mem _ hc)) hd (by rw [hn]; exact kk)) k
theorem ev_ldc2 {v : Int64} {idx : Nat} (hd : decode M.2.1 pc = .ok (.ldc2_w idx, 3)) (hc : Cond.constantLong M.1.cls idx v ∈ G.2.1) (k : ab_Ev G rs M d bc bs (pc + 3) l (.inr (.inl v) :: st) w Q) : ab_Ev G rs M d bc bs pc l st w Q := ab_go (fun _ hx hb ho ht _ kk => lv_ldc2 hx hb ho (ht _ (List.mem_cons_of_mem _ hc)) hd kk) k
theorem ev_lconst {n : Fin 2} (hd : decode M.2.1 pc = .ok (.lconst n, 1)) (k : ab_Ev G rs M d bc bs (pc + 1) l (.inr (.inl (Int64.ofNat (n : Nat))) :: st) w Q) : ab_Ev G rs M d bc bs pc l st w Q := ab_go (fun _ hx hb _ _ _ kk => lv_lconst hx hb hd rfl kk) k
theorem ev_iload_n {k : Fin 4} {i : Nat} {a : Int} (hd : decode M.2.1 pc = .ok (.iload_n k, 1)) (hi : (k : Nat) = i) (hl : l[i]? = some (some (.inl a))) (kk : ab_Ev G rs M d bc bs (pc + 1) l (.inl a :: st) w Q) : ab_Ev G rs M d bc bs pc l st w Q := ab_go (fun _ hx hb _ _ hL kk => lv_iload_n hx hb hd hi (hL.at hl) kk) kk
theorem ev_iload {i : Nat} {a : Int} (hd : decode M.2.1 pc = .ok (.iload i, 2)) (hl : l[i]? = some (some (.inl a))) (kk : ab_Ev G rs M d bc bs (pc + 2) l (.inl a :: st) w Q) : ab_Ev G rs M d bc bs pc l st w Q := ab_go (fun _ hx hb _ _ hL kk => lv_iload hx hb hd (hL.at hl) kk) kk
theorem ev_lload_n {k : Fin 4} {i : Nat} {a : Int64} (hd : decode M.2.1 pc = .ok (.lload_n k, 1)) (hi : (k : Nat) = i) (hl : l[i]? = some (some (.inr (.inl a)))) (kk : ab_Ev G rs M d bc bs (pc + 1) l (.inr (.inl a) :: st) w Q) : ab_Ev G rs M d bc bs pc l st w Q := ab_go (fun _ hx hb _ _ hL kk => lv_lload_n hx hb hd hi (hL.at hl) kk) kk
theorem ev_lload {i : Nat} {a : Int64} (hd : decode M.2.1 pc = .ok (.lload i, 2)) (hl : l[i]? = some (some (.inr (.inl a)))) (kk : ab_Ev G rs M d bc bs (pc + 2) l (.inr (.inl a) :: st) w Q) : ab_Ev G rs M d bc bs pc l st w Q := ab_go (fun _ hx hb _ _ hL kk => lv_lload hx hb hd (hL.at hl) kk) kk
theorem ev_aload_n {k : Fin 4} {i : Nat} {a : Nat} (hd : decode M.2.1 pc = .ok (.aload_n k, 1)) (hi : (k : Nat) = i) (hl : l[i]? = some (some (.inr (.inr (some a))))) (kk : ab_Ev G rs M d bc bs (pc + 1) l (.inr (.inr (some a)) :: st) w Q) : ab_Ev G rs M d bc bs pc l st w Q := ab_go (fun _ hx hb _ _ hL kk => lv_aload_n hx hb hd hi (hL.at hl) kk) kk
theorem ev_aload {i : Nat} {a : Nat} (hd : decode M.2.1 pc = .ok (.aload i, 2)) (hl : l[i]? = some (some (.inr (.inr (some a))))) (kk : ab_Ev G rs M d bc bs (pc + 2) l (.inr (.inr (some a)) :: st) w Q) : ab_Ev G rs M d bc bs pc l st w Q := ab_go (fun _ hx hb _ _ hL kk => lv_aload hx hb hd (hL.at hl) kk) kk
theorem ev_iadd {a b : Int} (hd : decode M.2.1 pc = .ok (.iadd, 1)) (k : ab_Ev G rs M d bc bs (pc + 1) l (.inl (a + b) :: st) w Q) : ab_Ev G rs M d bc bs pc l (.inl b :: .inl a :: st) w Q := ab_go (fun _ hx hb _ _ _ kk => lv_iadd hx hb hd (by rw [← Int32.ofInt_add]; exact kk)) k
theorem ev_isub {a b : Int} (hd : decode M.2.1 pc = .ok (.isub, 1)) (k : ab_Ev G rs M d bc bs (pc + 1) l (.inl (a - b) :: st) w Q) : ab_Ev G rs M d bc bs pc l (.inl b :: .inl a :: st) w Q := ab_go (fun _ hx hb _ _ _ kk => lv_isub hx hb hd (by rw [← Int32.ofInt_sub]; exact kk)) k
theorem ev_imul {a b : Int} (hd : decode M.2.1 pc = .ok (.imul, 1)) (k : ab_Ev G rs M d bc bs (pc + 1) l (.inl (a * b) :: st) w Q) : ab_Ev G rs M d bc bs pc l (.inl b :: .inl a :: st) w Q := ab_go (fun _ hx hb _ _ _ kk => lv_imul hx hb hd (by rw [← Int32.ofInt_mul]; exact kk)) k
theorem ev_ineg {a : Int} (hd : decode M.2.1 pc = .ok (.ineg, 1)) (k : ab_Ev G rs M d bc bs (pc + 1) l (.inl (-a) :: st) w Q) : ab_Ev G rs M d bc bs pc l (.inl a :: st) w Q := ab_go (fun _ hx hb _ _ _ kk => lv_ineg hx hb hd (by rw [← Int32.ofInt_neg]; exact kk)) k
theorem ev_idiv {a b : Int} (hd : decode M.2.1 pc = .ok (.idiv, 1)) (ha : ab_in a) (hb' : ab_in b) (h0 : b ≠ 0) (k : ab_Ev G rs M d bc bs (pc + 1) l (.inl (a.tdiv b) :: st) w Q) : ab_Ev G rs M d bc bs pc l (.inl b :: .inl a :: st) w Q := ab_go (fun _ hx hb _ _ _ kk => lv_idiv hx hb hd (fun h => h0 ((ab_eq hb' (by omega)).mp h)) (by rw [← ab_tdiv ha hb']; exact kk)) k
theorem ev_irem {a b : Int} (hd : decode M.2.1 pc = .ok (.irem, 1)) (ha : ab_in a) (hb' : ab_in b) (h0 : b ≠ 0) (k : ab_Ev G rs M d bc bs (pc + 1) l (.inl (a.tmod b) :: st) w Q) : ab_Ev G rs M d bc bs pc l (.inl b :: .inl a :: st) w Q := ab_go (fun _ hx hb _ _ _ kk => lv_irem hx hb hd (fun h => h0 ((ab_eq hb' (by omega)).mp h)) (by rw [← ab_tmod ha hb']; exact kk)) k
theorem ev_ishl {a b : Int} (hd : decode M.2.1 pc = .ok (.ishl, 1)) (h0 : 0 ≤ b) (h1 : b < 32) (k : ab_Ev G rs M d bc bs (pc + 1) l (.inl (a * 2 ^ b.toNat) :: st) w Q) : ab_Ev G rs M d bc bs pc l (.inl b :: .inl a :: st) w Q := ab_go (fun _ hx hb _ _ _ kk => lv_ishl hx hb hd (by rw [ab_shl h0 h1]; exact kk)) k
theorem ev_ishr {a b : Int} (hd : decode M.2.1 pc = .ok (.ishr, 1)) (ha : ab_in a) (h0 : 0 ≤ b) (h1 : b < 32) (k : ab_Ev G rs M d bc bs (pc + 1) l (.inl (a / 2 ^ b.toNat) :: st) w Q) : ab_Ev G rs M d bc bs pc l (.inl b :: .inl a :: st) w Q := ab_go (fun _ hx hb _ _ _ kk => lv_ishr hx hb hd (by rw [ab_shr ha h0 h1]; exact kk)) k
theorem ev_iushr {a b : Int} (hd : decode M.2.1 pc = .ok (.iushr, 1)) (ha : ab_in a) (h0 : 0 ≤ b) (h1 : b < 32) (k : ab_Ev G rs M d bc bs (pc + 1) l (.inl (a % 4294967296 / 2 ^ b.toNat) :: st) w Q) : ab_Ev G rs M d bc bs pc l (.inl b :: .inl a :: st) w Q := ab_go (fun _ hx hb _ _ _ kk => lv_iushr hx hb hd (ab_ushr ha h0 h1) kk) k
def ab_iand (a b : Int) : Int := (Int32.ofInt a &&& Int32.ofInt b).toInt
theorem ev_iand {a b : Int} (hd : decode M.2.1 pc = .ok (.iand, 1)) (k : ab_Ev G rs M d bc bs (pc + 1) l (.inl (ab_iand a b) :: st) w Q) : ab_Ev G rs M d bc bs pc l (.inl b :: .inl a :: st) w Q := ab_go (fun _ hx hb _ _ _ kk => lv_iand hx hb hd (by rw [← ab_of (Int32.ofInt a &&& Int32.ofInt b)]; exact kk)) k
def ab_ior (a b : Int) : Int := (Int32.ofInt a ||| Int32.ofInt b).toInt
theorem ev_ior {a b : Int} (hd : decode M.2.1 pc = .ok (.ior, 1)) (k : ab_Ev G rs M d bc bs (pc + 1) l (.inl (ab_ior a b) :: st) w Q) : ab_Ev G rs M d bc bs pc l (.inl b :: .inl a :: st) w Q := ab_go (fun _ hx hb _ _ _ kk => lv_ior hx hb hd (by rw [← ab_of (Int32.ofInt a ||| Int32.ofInt b)]; exact kk)) k
def ab_ixor (a b : Int) : Int := (Int32.ofInt a ^^^ Int32.ofInt b).toInt
theorem ev_ixor {a b : Int} (hd : decode M.2.1 pc = .ok (.ixor, 1)) (k : ab_Ev G rs M d bc bs (pc + 1) l (.inl (ab_ixor a b) :: st) w Q) : ab_Ev G rs M d bc bs pc l (.inl b :: .inl a :: st) w Q := ab_go (fun _ hx hb _ _ _ kk => lv_ixor hx hb hd (by rw [← ab_of (Int32.ofInt a ^^^ Int32.ofInt b)]; exact kk)) k
theorem ev_i2b {a : Int} (hd : decode M.2.1 pc = .ok (.i2b, 1)) (k : ab_Ev G rs M d bc bs (pc + 1) l (.inl (a.bmod 256) :: st) w Q) : ab_Ev G rs M d bc bs pc l (.inl a :: st) w Q := ab_go (fun _ hx hb _ _ _ kk => lv_i2b hx hb hd (ab_i2b a) kk) k
theorem ev_i2l {a : Int} (hd : decode M.2.1 pc = .ok (.i2l, 1)) (ha : ab_in a) (k : ab_Ev G rs M d bc bs (pc + 1) l (.inr (.inl (Int64.ofInt a)) :: st) w Q) : ab_Ev G rs M d bc bs pc l (.inl a :: st) w Q := ab_go (fun _ hx hb _ _ _ kk => lv_i2l hx hb hd (ab_i2l ha) kk) k
theorem ev_l2i {a : Int64} (hd : decode M.2.1 pc = .ok (.l2i, 1)) (k : ab_Ev G rs M d bc bs (pc + 1) l (.inl a.toInt32.toInt :: st) w Q) : ab_Ev G rs M d bc bs pc l (.inr (.inl a) :: st) w Q := ab_go (fun _ hx hb _ _ _ kk => lv_l2i hx hb hd (ab_of _).symm kk) k
theorem ev_lcmp {a b : Int64} (hd : decode M.2.1 pc = .ok (.lcmp, 1)) (k : ab_Ev G rs M d bc bs (pc + 1) l (.inl (ab_cmp a b) :: st) w Q) : ab_Ev G rs M d bc bs pc l (.inr (.inl b) :: .inr (.inl a) :: st) w Q := ab_go (fun _ hx hb _ _ _ kk => W.lcmp hx hb hd (by rw [ab_cmp_ok]; exact kk)) k
theorem ev_ladd {a b : Int64} (hd : decode M.2.1 pc = .ok (.ladd, 1)) (k : ab_Ev G rs M d bc bs (pc + 1) l (.inr (.inl (a + b)) :: st) w Q) : ab_Ev G rs M d bc bs pc l (.inr (.inl b) :: .inr (.inl a) :: st) w Q := ab_go (fun _ hx hb _ _ _ kk => lv_ladd hx hb hd kk) k
theorem ev_lsub {a b : Int64} (hd : decode M.2.1 pc = .ok (.lsub, 1)) (k : ab_Ev G rs M d bc bs (pc + 1) l (.inr (.inl (a - b)) :: st) w Q) : ab_Ev G rs M d bc bs pc l (.inr (.inl b) :: .inr (.inl a) :: st) w Q := ab_go (fun _ hx hb _ _ _ kk => lv_lsub hx hb hd kk) k
theorem ev_lmul {a b : Int64} (hd : decode M.2.1 pc = .ok (.lmul, 1)) (k : ab_Ev G rs M d bc bs (pc + 1) l (.inr (.inl (a * b)) :: st) w Q) : ab_Ev G rs M d bc bs pc l (.inr (.inl b) :: .inr (.inl a) :: st) w Q := ab_go (fun _ hx hb _ _ _ kk => lv_lmul hx hb hd kk) k
theorem ev_land {a b : Int64} (hd : decode M.2.1 pc = .ok (.land, 1)) (k : ab_Ev G rs M d bc bs (pc + 1) l (.inr (.inl (a &&& b)) :: st) w Q) : ab_Ev G rs M d bc bs pc l (.inr (.inl b) :: .inr (.inl a) :: st) w Q := ab_go (fun _ hx hb _ _ _ kk => lv_land hx hb hd kk) k
theorem ev_lor {a b : Int64} (hd : decode M.2.1 pc = .ok (.lor, 1)) (k : ab_Ev G rs M d bc bs (pc + 1) l (.inr (.inl (a ||| b)) :: st) w Q) : ab_Ev G rs M d bc bs pc l (.inr (.inl b) :: .inr (.inl a) :: st) w Q := ab_go (fun _ hx hb _ _ _ kk => lv_lor hx hb hd kk) k
theorem ev_ldiv {a b : Int64} (hd : decode M.2.1 pc = .ok (.ldiv, 1)) (h0 : ¬ b = 0) (k : ab_Ev G rs M d bc bs (pc + 1) l (.inr (.inl (a / b)) :: st) w Q) : ab_Ev G rs M d bc bs pc l (.inr (.inl b) :: .inr (.inl a) :: st) w Q := ab_go (fun _ hx hb _ _ _ kk => lv_ldiv hx hb hd h0 kk) k
theorem ev_lrem {a b : Int64} (hd : decode M.2.1 pc = .ok (.lrem, 1)) (h0 : ¬ b = 0) (k : ab_Ev G rs M d bc bs (pc + 1) l (.inr (.inl (a - a / b * b)) :: st) w Q) : ab_Ev G rs M d bc bs pc l (.inr (.inl b) :: .inr (.inl a) :: st) w Q := ab_go (fun _ hx hb _ _ _ kk => lv_lrem hx hb hd h0 kk) k
theorem ev_lshl {a : Int64} {b : Int} (hd : decode M.2.1 pc = .ok (.lshl, 1)) (k : ab_Ev G rs M d bc bs (pc + 1) l (.inr (.inl (a <<< ((Int32.ofInt b).toInt64 &&& 63))) :: st) w Q) : ab_Ev G rs M d bc bs pc l (.inl b :: .inr (.inl a) :: st) w Q := ab_go (fun _ hx hb _ _ _ kk => lv_lshl hx hb hd rfl kk) k
theorem ev_lushr {a : Int64} {b : Int} (hd : decode M.2.1 pc = .ok (.lushr, 1)) (k : ab_Ev G rs M d bc bs (pc + 1) l (.inr (.inl (a.toUInt64 >>> ((Int32.ofInt b).toInt64.toUInt64 &&& Int64.toUInt64 63)).toInt64) :: st) w Q) : ab_Ev G rs M d bc bs pc l (.inl b :: .inr (.inl a) :: st) w Q := ab_go (fun _ hx hb _ _ _ kk => lv_lushr hx hb hd rfl kk) k
def ab_c1 : ab_V → Bool
  | .inr (.inl _) => false
  | _ => true
theorem ab_cat {as : Nat → Nat} {v : ab_V} (h : ab_c1 v = true) : (ab_cv as v).category = 1 := by
  rcases v with a | a | _ | a <;> first | rfl | cases h
theorem ev_dup {v : ab_V} (hd : decode M.2.1 pc = .ok (.dup, 1)) (hv : ab_c1 v = true) (k : ab_Ev G rs M d bc bs (pc + 1) l (v :: v :: st) w Q) : ab_Ev G rs M d bc bs pc l (v :: st) w Q := ab_go (fun _ hx hb _ _ _ kk => lv_dup hx hb hd (ab_cat hv) kk) k
theorem ev_pop {v : ab_V} (hd : decode M.2.1 pc = .ok (.pop, 1)) (hv : ab_c1 v = true) (k : ab_Ev G rs M d bc bs (pc + 1) l st w Q) : ab_Ev G rs M d bc bs pc l (v :: st) w Q := ab_go (fun _ hx hb _ _ _ kk => lv_pop hx hb hd (ab_cat hv) kk) k
theorem ev_dup2 {u v : ab_V} (hd : decode M.2.1 pc = .ok (.dup2, 1)) (hv : ab_c1 v = true) (hu : ab_c1 u = true) (k : ab_Ev G rs M d bc bs (pc + 1) l (u :: v :: u :: v :: st) w Q) : ab_Ev G rs M d bc bs pc l (u :: v :: st) w Q := ab_go (fun _ hx hb _ _ _ kk => lv_dup2_11 hx hb hd (ab_cat hu) (ab_cat hv) kk) k
theorem ev_goto {off : Int} {tgt : Nat} (hd : decode M.2.1 pc = .ok (.goto off, 3)) (ht : (pc : Int) + off = (tgt : Int)) (k : ab_Ev G rs M d bc bs tgt l st w Q) : ab_Ev G rs M d bc bs pc l st w Q := ab_go (fun _ hx hb _ _ _ kk => lv_goto hx hb hd ht kk) k
theorem ab_go2 {pc1 pc2 : Nat} {st st' : List ab_V} {C : Prop}
    (h : ∀ {p : Program} {la : Launch} {e : Env} {R : Room} {s : State} {m : MethodId} {args : Array Value} {below : List Frame} {meth : Method} {c : Code} {H : Heap} {locs : List Loc} {cells slots : Nat} {Qz : State → Prop} {ls : Array Slot} (as : Nat → Nat), p.tables.exec = Jvm.exec → c.code = M.2.1 →
      (C → W p la e R s m args below meth c H locs cells slots Qz (F0 m pc1 ls (st'.map (ab_cv as)))) → (¬ C → W p la e R s m args below meth c H locs cells slots Qz (F0 m pc2 ls (st'.map (ab_cv as)))) → W p la e R s m args below meth c H locs cells slots Qz (F0 m pc ls (st.map (ab_cv as))))
    (k1 : C → ab_Ev G rs M d bc bs pc1 l st' w Q) (k2 : ¬ C → ab_Ev G rs M d bc bs pc2 l st' w Q) : ab_Ev G rs M d bc bs pc l st w Q := by
  intro p la e R s m args below meth c H locs cells slots D dA aK aV as A ls Qc free hF hs hP hD hS hl h1 h2 hR
  exact h as hF.1 hF.2.1 (fun q => k1 q p la e R s m args below meth c H locs cells slots D dA aK aV as A ls Qc free hF hs hP hD hS hl h1 h2 hR) (fun q => k2 q p la e R s m args below meth c H locs cells slots D dA aK aV as A ls Qc free hF hs hP hD hS hl h1 h2 hR)
theorem ab_in0 : ab_in 0 := by decide
theorem ev_icmp_ne {a b : Int} {off : Int} {tgt : Nat} (hd : decode M.2.1 pc = .ok (.if_icmp .ne off, 3)) (ht : (pc : Int) + off = (tgt : Int)) (ha : ab_in a) (hb : ab_in b) (k1 : ¬ a = b → ab_Ev G rs M d bc bs tgt l st w Q) (k2 : a = b → ab_Ev G rs M d bc bs (pc + 3) l st w Q) : ab_Ev G rs M d bc bs pc l (.inl b :: .inl a :: st) w Q := ab_go2 (C := ¬ a = b) (fun _ hx hc q1 q2 => lv_icmp_ne hx hc hd ht (fun h => q1 (fun z => h ((ab_eq ha hb).mpr z))) (fun h => q2 (fun z => z ((ab_eq ha hb).mp h)))) k1 (fun z => k2 (Decidable.of_not_not z))
theorem ev_if_ne {a : Int} {off : Int} {tgt : Nat} (hd : decode M.2.1 pc = .ok (.ifCond .ne off, 3)) (ht : (pc : Int) + off = (tgt : Int)) (ha : ab_in a) (k1 : ¬ a = 0 → ab_Ev G rs M d bc bs tgt l st w Q) (k2 : a = 0 → ab_Ev G rs M d bc bs (pc + 3) l st w Q) : ab_Ev G rs M d bc bs pc l (.inl a :: st) w Q := ab_go2 (C := ¬ a = 0) (fun _ hx hc q1 q2 => lv_if_ne hx hc hd ht (fun h => q1 (fun z => h ((ab_eq ha ab_in0).mpr z))) (fun h => q2 (fun z => z ((ab_eq ha ab_in0).mp h)))) k1 (fun z => k2 (Decidable.of_not_not z))
theorem ev_icmp_eq {a b : Int} {off : Int} {tgt : Nat} (hd : decode M.2.1 pc = .ok (.if_icmp .eq off, 3)) (ht : (pc : Int) + off = (tgt : Int)) (ha : ab_in a) (hb : ab_in b) (k1 : a = b → ab_Ev G rs M d bc bs tgt l st w Q) (k2 : ¬ (a = b) → ab_Ev G rs M d bc bs (pc + 3) l st w Q) : ab_Ev G rs M d bc bs pc l (.inl b :: .inl a :: st) w Q := ab_go2 (fun _ hx hc q1 q2 => lv_icmp_eq hx hc hd ht (fun h => q1 ((ab_eq ha hb).mp h)) (fun h => q2 (fun z => h ((ab_eq ha hb).mpr z)))) k1 k2
theorem ev_if_eq {a : Int} {off : Int} {tgt : Nat} (hd : decode M.2.1 pc = .ok (.ifCond .eq off, 3)) (ht : (pc : Int) + off = (tgt : Int)) (ha : ab_in a) (k1 : a = 0 → ab_Ev G rs M d bc bs tgt l st w Q) (k2 : ¬ (a = 0) → ab_Ev G rs M d bc bs (pc + 3) l st w Q) : ab_Ev G rs M d bc bs pc l (.inl a :: st) w Q := ab_go2 (fun _ hx hc q1 q2 => lv_if_eq hx hc hd ht (fun h => q1 ((ab_eq ha ab_in0).mp h)) (fun h => q2 (fun z => h ((ab_eq ha ab_in0).mpr z)))) k1 k2
theorem ev_icmp_lt {a b : Int} {off : Int} {tgt : Nat} (hd : decode M.2.1 pc = .ok (.if_icmp .lt off, 3)) (ht : (pc : Int) + off = (tgt : Int)) (ha : ab_in a) (hb : ab_in b) (k1 : a < b → ab_Ev G rs M d bc bs tgt l st w Q) (k2 : ¬ (a < b) → ab_Ev G rs M d bc bs (pc + 3) l st w Q) : ab_Ev G rs M d bc bs pc l (.inl b :: .inl a :: st) w Q := ab_go2 (fun _ hx hc q1 q2 => lv_icmp_lt hx hc hd ht (fun h => q1 ((ab_lt ha hb).mp h)) (fun h => q2 (fun z => h ((ab_lt ha hb).mpr z)))) k1 k2
theorem ev_if_lt {a : Int} {off : Int} {tgt : Nat} (hd : decode M.2.1 pc = .ok (.ifCond .lt off, 3)) (ht : (pc : Int) + off = (tgt : Int)) (ha : ab_in a) (k1 : a < 0 → ab_Ev G rs M d bc bs tgt l st w Q) (k2 : ¬ (a < 0) → ab_Ev G rs M d bc bs (pc + 3) l st w Q) : ab_Ev G rs M d bc bs pc l (.inl a :: st) w Q := ab_go2 (fun _ hx hc q1 q2 => lv_if_lt hx hc hd ht (fun h => q1 ((ab_lt ha ab_in0).mp h)) (fun h => q2 (fun z => h ((ab_lt ha ab_in0).mpr z)))) k1 k2
theorem ev_icmp_ge {a b : Int} {off : Int} {tgt : Nat} (hd : decode M.2.1 pc = .ok (.if_icmp .ge off, 3)) (ht : (pc : Int) + off = (tgt : Int)) (ha : ab_in a) (hb : ab_in b) (k1 : b ≤ a → ab_Ev G rs M d bc bs tgt l st w Q) (k2 : ¬ (b ≤ a) → ab_Ev G rs M d bc bs (pc + 3) l st w Q) : ab_Ev G rs M d bc bs pc l (.inl b :: .inl a :: st) w Q := ab_go2 (fun _ hx hc q1 q2 => lv_icmp_ge hx hc hd ht (fun h => q1 ((ab_le hb ha).mp h)) (fun h => q2 (fun z => h ((ab_le hb ha).mpr z)))) k1 k2
theorem ev_if_ge {a : Int} {off : Int} {tgt : Nat} (hd : decode M.2.1 pc = .ok (.ifCond .ge off, 3)) (ht : (pc : Int) + off = (tgt : Int)) (ha : ab_in a) (k1 : 0 ≤ a → ab_Ev G rs M d bc bs tgt l st w Q) (k2 : ¬ (0 ≤ a) → ab_Ev G rs M d bc bs (pc + 3) l st w Q) : ab_Ev G rs M d bc bs pc l (.inl a :: st) w Q := ab_go2 (fun _ hx hc q1 q2 => lv_if_ge hx hc hd ht (fun h => q1 ((ab_le ab_in0 ha).mp h)) (fun h => q2 (fun z => h ((ab_le ab_in0 ha).mpr z)))) k1 k2
theorem ev_icmp_gt {a b : Int} {off : Int} {tgt : Nat} (hd : decode M.2.1 pc = .ok (.if_icmp .gt off, 3)) (ht : (pc : Int) + off = (tgt : Int)) (ha : ab_in a) (hb : ab_in b) (k1 : b < a → ab_Ev G rs M d bc bs tgt l st w Q) (k2 : ¬ (b < a) → ab_Ev G rs M d bc bs (pc + 3) l st w Q) : ab_Ev G rs M d bc bs pc l (.inl b :: .inl a :: st) w Q := ab_go2 (fun _ hx hc q1 q2 => lv_icmp_gt hx hc hd ht (fun h => q1 ((ab_lt hb ha).mp h)) (fun h => q2 (fun z => h ((ab_lt hb ha).mpr z)))) k1 k2
theorem ev_if_gt {a : Int} {off : Int} {tgt : Nat} (hd : decode M.2.1 pc = .ok (.ifCond .gt off, 3)) (ht : (pc : Int) + off = (tgt : Int)) (ha : ab_in a) (k1 : 0 < a → ab_Ev G rs M d bc bs tgt l st w Q) (k2 : ¬ (0 < a) → ab_Ev G rs M d bc bs (pc + 3) l st w Q) : ab_Ev G rs M d bc bs pc l (.inl a :: st) w Q := ab_go2 (fun _ hx hc q1 q2 => lv_if_gt hx hc hd ht (fun h => q1 ((ab_lt ab_in0 ha).mp h)) (fun h => q2 (fun z => h ((ab_lt ab_in0 ha).mpr z)))) k1 k2
theorem ev_icmp_le {a b : Int} {off : Int} {tgt : Nat} (hd : decode M.2.1 pc = .ok (.if_icmp .le off, 3)) (ht : (pc : Int) + off = (tgt : Int)) (ha : ab_in a) (hb : ab_in b) (k1 : a ≤ b → ab_Ev G rs M d bc bs tgt l st w Q) (k2 : ¬ (a ≤ b) → ab_Ev G rs M d bc bs (pc + 3) l st w Q) : ab_Ev G rs M d bc bs pc l (.inl b :: .inl a :: st) w Q := ab_go2 (fun _ hx hc q1 q2 => lv_icmp_le hx hc hd ht (fun h => q1 ((ab_le ha hb).mp h)) (fun h => q2 (fun z => h ((ab_le ha hb).mpr z)))) k1 k2
theorem ev_if_le {a : Int} {off : Int} {tgt : Nat} (hd : decode M.2.1 pc = .ok (.ifCond .le off, 3)) (ht : (pc : Int) + off = (tgt : Int)) (ha : ab_in a) (k1 : a ≤ 0 → ab_Ev G rs M d bc bs tgt l st w Q) (k2 : ¬ (a ≤ 0) → ab_Ev G rs M d bc bs (pc + 3) l st w Q) : ab_Ev G rs M d bc bs pc l (.inl a :: st) w Q := ab_go2 (fun _ hx hc q1 q2 => lv_if_le hx hc hd ht (fun h => q1 ((ab_le ha ab_in0).mp h)) (fun h => q2 (fun z => h ((ab_le ha ab_in0).mpr z)))) k1 k2
theorem ev_tableOut {dflt lo hi : Int} {offs : Array Int} {len : Nat} {a : Int} {tgt : Nat} (hd : decode M.2.1 pc = .ok (.tableswitch dflt lo hi offs, len)) (ha : ab_in a) (h : a < lo ∨ hi < a) (ht : (pc : Int) + dflt = (tgt : Int)) (k : ab_Ev G rs M d bc bs tgt l st w Q) : ab_Ev G rs M d bc bs pc l (.inl a :: st) w Q := ab_go (fun _ hx hb _ _ _ kk => lv_tableOut hx hb hd (by rw [ab_ti ha]; exact h) ht kk) k
theorem ev_tableIn {dflt lo hi : Int} {offs : Array Int} {len : Nat} {a off : Int} {tgt : Nat} (hd : decode M.2.1 pc = .ok (.tableswitch dflt lo hi offs, len)) (ha : ab_in a) (h1 : ¬ a < lo) (h2 : ¬ hi < a) (ho : offs[(a - lo).toNat]? = some off) (ht : (pc : Int) + off = (tgt : Int)) (k : ab_Ev G rs M d bc bs tgt l st w Q) : ab_Ev G rs M d bc bs pc l (.inl a :: st) w Q := ab_go (fun _ hx hb _ _ _ kk => lv_tableIn hx hb hd (by rw [ab_ti ha]; exact h1) (by rw [ab_ti ha]; exact h2) (by rw [ab_ti ha]; exact ho) ht kk) k
theorem ev_lookup {dflt : Int} {ps : Array (Int × Int)} {len : Nat} {a off : Int} {tgt : Nat} (hd : decode M.2.1 pc = .ok (.lookupswitch dflt ps, len)) (hp : (ps.toList.zip (ps.toList.drop 1)).all (fun (a, next) => a.1 < next.1) = true) (ha : ab_in a) (ho : Op.lookupswitch.offset ps.toList dflt a = off) (ht : (pc : Int) + off = (tgt : Int)) (k : ab_Ev G rs M d bc bs tgt l st w Q) : ab_Ev G rs M d bc bs pc l (.inl a :: st) w Q := ab_go (fun _ hx hb _ _ _ kk => lv_lookup hx hb hd hp (by rw [ab_ti ha]; exact ho) ht kk) k
end EVA
end
section
/-! rules: stores into locals -/
theorem ab_cl_len (l : ab_L) (i : Nat) : (ab_cl l i).length = l.length := by
  cases i with
  | zero => rfl
  | succ j => simp only [ab_cl]; split <;> simp
theorem ab_cl_get {l : ab_L} {i j : Nat} {u : ab_V} (h : (ab_cl l i)[j]? = some (some u)) : l[j]? = some (some u) ∧ (j + 1 = i → ab_c1 u = true) := by
  cases i with
  | zero => exact ⟨h, fun q => by omega⟩
  | succ k =>
    simp only [ab_cl] at h
    split at h
    · rename_i hk
      by_cases hjk : k = j
      · subst hjk
        rw [List.getElem?_set] at h
        split at h
        · split at h <;> simp at h
        · rename_i q; exact absurd rfl q
      · rw [List.getElem?_set_ne hjk] at h
        exact ⟨h, fun q => by omega⟩
    · rename_i hk
      refine ⟨h, fun q => ?_⟩
      have e : j = k := by omega
      subst e
      rw [h] at hk
      rcases u with a | a | _ | a <;> first | rfl | exact absurd rfl hk
theorem ab_c1_cat {as : Nat → Nat} {v : ab_V} (h : ab_c1 v = true) : ((ab_cv as v).category == 2) = false := by rw [ab_cat h]; rfl
theorem ab_lo_s1 {as : Nat → Nat} {ls' : Array Slot} {nL i : Nat} {l : ab_L} {lv : List (Nat × Value)} {v : ab_V} (hlen : l.length = nL) (hm : ∀ (j : Nat) (u : ab_V), l[j]? = some (some u) → (j, ab_cv as u) ∈ lv) (h' : lv_has ls' nL ((i, ab_cv as v) :: lv.filter (fun q => !(q.1 == i) && !(q.1 + 1 == i && q.2.category == 2)))) : ab_lo as ls' nL (ab_s1 l i v) := by
  refine ⟨by unfold ab_s1; rw [List.length_set, ab_cl_len, hlen], _, h', fun j u hj => ?_⟩
  unfold ab_s1 at hj
  rw [List.getElem?_set] at hj
  split at hj
  · rename_i e
    subst e
    split at hj
    · cases hj
      exact List.mem_cons_self
    · simp at hj
  · rename_i e
    obtain ⟨h1, h2⟩ := ab_cl_get hj
    refine List.mem_cons_of_mem _ (List.mem_filter.mpr ⟨hm j u h1, ?_⟩)
    have e1 : (j == i) = false := by simp; omega
    by_cases e2 : j + 1 = i
    · simp only [e1, ab_c1_cat (h2 e2)]; simp
    · have e3 : (j + 1 == i) = false := by simp; omega
      simp only [e1, e3]; simp
theorem ab_lo_s2 {as : Nat → Nat} {ls' : Array Slot} {nL i : Nat} {l : ab_L} {lv : List (Nat × Value)} {v : ab_V} (hlen : l.length = nL) (hm : ∀ (j : Nat) (u : ab_V), l[j]? = some (some u) → (j, ab_cv as u) ∈ lv) (h' : lv_has ls' nL ((i, ab_cv as v) :: lv.filter (fun q => !(q.1 == i) && (!(q.1 == i + 1) && !(q.1 + 1 == i && q.2.category == 2))))) : ab_lo as ls' nL (ab_s2 l i v) := by
  refine ⟨by unfold ab_s2; rw [List.length_set, List.length_set, ab_cl_len, hlen], _, h', fun j u hj => ?_⟩
  unfold ab_s2 at hj
  rw [List.getElem?_set] at hj
  split at hj
  · split at hj <;> simp at hj
  · rename_i e0
    rw [List.getElem?_set] at hj
    split at hj
    · rename_i e
      subst e
      split at hj
      · cases hj
        exact List.mem_cons_self
      · simp at hj
    · rename_i e
      obtain ⟨h1, h2⟩ := ab_cl_get hj
      refine List.mem_cons_of_mem _ (List.mem_filter.mpr ⟨hm j u h1, ?_⟩)
      have e1 : (j == i) = false := by simp; omega
      have e4 : (j == i + 1) = false := by simp; omega
      by_cases e2 : j + 1 = i
      · simp only [e1, e4, ab_c1_cat (h2 e2)]; simp
      · have e3 : (j + 1 == i) = false := by simp; omega
        simp only [e1, e3, e4]; simp
section EVB
variable {G : ab_G} {rs : List String} {M : ab_M} {d bc bs pc : Nat} {l l' : ab_L} {st : List ab_V} {w : ab_W} {Q : Option ab_V → ab_W → Prop}
theorem ab_gol {pc' : Nat} {st st' : List ab_V}
    (h : ∀ {p : Program} {la : Launch} {e : Env} {R : Room} {s : State} {m : MethodId} {args : Array Value} {below : List Frame} {meth : Method} {c : Code} {H : Heap} {locs : List Loc} {cells slots : Nat} {Qz : State → Prop} {ls : Array Slot} (as : Nat → Nat), p.tables.exec = Jvm.exec → c.code = M.2.1 → ab_lo as ls M.2.2.1 l →
      (∀ ls' : Array Slot, ab_lo as ls' M.2.2.1 l' → W p la e R s m args below meth c H locs cells slots Qz (F0 m pc' ls' (st'.map (ab_cv as)))) → W p la e R s m args below meth c H locs cells slots Qz (F0 m pc ls (st.map (ab_cv as))))
    (k : ab_Ev G rs M d bc bs pc' l' st' w Q) : ab_Ev G rs M d bc bs pc l st w Q := by
  intro p la e R s m args below meth c H locs cells slots D dA aK aV as A ls Qc free hF hs hP hD hS hl h1 h2 hR
  exact h as hF.1 hF.2.1 hl (fun ls' hl' => k p la e R s m args below meth c H locs cells slots D dA aK aV as A ls' Qc free hF hs hP hD hS hl' h1 h2 hR)
theorem ev_istore_n {k : Fin 4} {i : Nat} {a : Int} (hd : decode M.2.1 pc = .ok (.istore_n k, 1)) (hi : (k : Nat) = i) (hn : i < l.length) (hl : ab_s1 l i (.inl a) = l') (kk : ab_Ev G rs M d bc bs (pc + 1) l' st w Q) : ab_Ev G rs M d bc bs pc l (.inl a :: st) w Q := ab_gol (fun _ hx hb hL kk => by
  obtain ⟨h1, lv, h2, h3⟩ := hL
  subst hl
  exact lv_istore_n hx hb hd hi h2 (by omega) rfl (fun ls' h' => kk ls' (ab_lo_s1 h1 h3 h'))) kk
theorem ev_istore {i : Nat} {a : Int} (hd : decode M.2.1 pc = .ok (.istore i, 2)) (hn : i < l.length) (hl : ab_s1 l i (.inl a) = l') (kk : ab_Ev G rs M d bc bs (pc + 2) l' st w Q) : ab_Ev G rs M d bc bs pc l (.inl a :: st) w Q := ab_gol (fun _ hx hb hL kk => by
  obtain ⟨h1, lv, h2, h3⟩ := hL
  subst hl
  exact lv_istore hx hb hd h2 (by omega) rfl (fun ls' h' => kk ls' (ab_lo_s1 h1 h3 h'))) kk
theorem ev_astore_n {k : Fin 4} {i : Nat} {a : Nat} (hd : decode M.2.1 pc = .ok (.astore_n k, 1)) (hi : (k : Nat) = i) (hn : i < l.length) (hl : ab_s1 l i (.inr (.inr (some a))) = l') (kk : ab_Ev G rs M d bc bs (pc + 1) l' st w Q) : ab_Ev G rs M d bc bs pc l (.inr (.inr (some a)) :: st) w Q := ab_gol (fun _ hx hb hL kk => by
  obtain ⟨h1, lv, h2, h3⟩ := hL
  subst hl
  exact lv_astore_n hx hb hd hi h2 (by omega) rfl (fun ls' h' => kk ls' (ab_lo_s1 h1 h3 h'))) kk
theorem ev_astore {i : Nat} {a : Nat} (hd : decode M.2.1 pc = .ok (.astore i, 2)) (hn : i < l.length) (hl : ab_s1 l i (.inr (.inr (some a))) = l') (kk : ab_Ev G rs M d bc bs (pc + 2) l' st w Q) : ab_Ev G rs M d bc bs pc l (.inr (.inr (some a)) :: st) w Q := ab_gol (fun _ hx hb hL kk => by
  obtain ⟨h1, lv, h2, h3⟩ := hL
  subst hl
  exact lv_astore hx hb hd h2 (by omega) rfl (fun ls' h' => kk ls' (ab_lo_s1 h1 h3 h'))) kk
theorem ev_lstore_n {k : Fin 4} {i : Nat} {a : Int64} (hd : decode M.2.1 pc = .ok (.lstore_n k, 1)) (hi : (k : Nat) = i) (hn : i + 1 < l.length) (hl : ab_s2 l i (.inr (.inl a)) = l') (kk : ab_Ev G rs M d bc bs (pc + 1) l' st w Q) : ab_Ev G rs M d bc bs pc l (.inr (.inl a) :: st) w Q := ab_gol (fun _ hx hb hL kk => by
  obtain ⟨h1, lv, h2, h3⟩ := hL
  subst hl
  exact lv_lstore_n hx hb hd hi h2 (by omega) rfl (fun ls' h' => kk ls' (ab_lo_s2 h1 h3 h'))) kk
theorem ev_lstore {i : Nat} {a : Int64} (hd : decode M.2.1 pc = .ok (.lstore i, 2)) (hn : i + 1 < l.length) (hl : ab_s2 l i (.inr (.inl a)) = l') (kk : ab_Ev G rs M d bc bs (pc + 2) l' st w Q) : ab_Ev G rs M d bc bs pc l (.inr (.inl a) :: st) w Q := ab_gol (fun _ hx hb hL kk => by
  obtain ⟨h1, lv, h2, h3⟩ := hL
  subst hl
  exact lv_lstore hx hb hd h2 (by omega) rfl (fun ls' h' => kk ls' (ab_lo_s2 h1 h3 h'))) kk
theorem ev_iinc {i : Nat} {n a : Int} (hd : decode M.2.1 pc = .ok (.iinc i n, 3)) (hi : l[i]? = some (some (.inl a))) (hl : ab_s1 l i (.inl (a + n)) = l') (kk : ab_Ev G rs M d bc bs (pc + 3) l' st w Q) : ab_Ev G rs M d bc bs pc l st w Q := ab_gol (fun as hx hb hL kk => by
  obtain ⟨h1, lv, h2, h3⟩ := hL
  subst hl
  have hm := h3 i _ hi
  obtain ⟨k, hk⟩ := List.getElem?_of_mem hm
  have hlt : i < l.length := (List.getElem?_eq_some_iff.mp hi).1
  exact lv_iinc hx hb hd h2 hk (Int32.ofInt_add a n).symm (by omega) rfl (fun ls' h' => kk ls' (ab_lo_s1 h1 h3 h'))) kk
end EVB
/-! worlds -/
theorem ab_cw_get {dA : Nat → ClassId} {as : Nat → Nat} {w : ab_W} {o : Nat} {e : ab_E} (h : w[o]? = some e) : (ab_cw dA as w)[o]? = some (as o, ab_ce dA as e) := by
  unfold ab_cw
  rw [List.getElem?_mapIdx, h]
  rfl
theorem ab_cw_of {dA : Nat → ClassId} {as : Nat → Nat} {w : ab_W} {o : Nat} {q : Nat × va_E} (h : (ab_cw dA as w)[o]? = some q) : ∃ e, w[o]? = some e ∧ q = (as o, ab_ce dA as e) := by
  unfold ab_cw at h
  rw [List.getElem?_mapIdx] at h
  cases hw : w[o]? with
  | none => rw [hw] at h; simp at h
  | some e => rw [hw] at h; exact ⟨e, rfl, (Option.some.inj h).symm⟩
theorem ab_cw_set (dA : Nat → ClassId) (as : Nat → Nat) (w : ab_W) (o : Nat) (e : ab_E) : (ab_cw dA as w).set o (as o, ab_ce dA as e) = ab_cw dA as (w.set o e) := by
  apply List.ext_getElem?
  intro i
  unfold ab_cw
  rw [List.getElem?_mapIdx, List.getElem?_set, List.getElem?_set, List.length_mapIdx, List.getElem?_mapIdx]
  split
  · rename_i e1
    subst e1
    split <;> rfl
  · rfl
theorem ab_Rt.len {G : ab_G} {s : State} {args : Array Value} {D : va_G} {dA : Nat → ClassId} {as : Nat → Nat} {A : Nat → Prop} {w w1 : ab_W} {Q : Option ab_V → ab_W → Prop} {Qc : Array Value → State → Outcome → State → Prop} {free : Addr → Prop} (h : ab_Rt G s args D dA as A w Q Qc free) (e : w1.length = w.length) : ab_Rt G s args D dA as A w1 Q Qc free := by
  intro r w' as' H' locs' h1 h2 h3 h4 h5 h6 h7
  exact h r w' as' H' locs' h1 (by omega) (fun i hi => h3 i (by omega)) (fun q => h4 (by omega)) h5 h6 h7
def ab_ft : FieldType → ab_V → Prop
  | .int, .inl _ => True
  | .boolean, .inl a => a = 0 ∨ a = 1
  | .long, .inr (.inl _) => True
  | .object _, .inr (.inr _) => True
  | .array _, .inr (.inr _) => True
  | _, _ => False
theorem ab_ft_ok {ty : FieldType} {v : ab_V} {as : Nat → Nat} (h : ab_ft ty v) : narrow ty (ab_cv as v) = ab_cv as v ∧ fits ty (ab_cv as v) = true := by
  cases ty <;> rcases v with a | a | _ | a <;> first | exact absurd h id | exact ⟨rfl, rfl⟩ | skip
  rcases h with rfl | rfl <;> exact ⟨rfl, rfl⟩
/-- a field's word: by the class's own link, or a nest mate's -/
def ab_lk (G : ab_G) (own : String) (idx : Nat) (q : String × String × String × Bool) : Prop := Cond.fieldLink own idx q.1 q.2.1 q.2.2.1 ∈ G.2.1 ∨ ∃ h, Cond.fieldLinkNest own idx q.1 q.2.1 q.2.2.1 h ∈ G.2.2.1
def ab_fl (G : ab_G) (own : String) (idx ci k : Nat) : Prop := ∃ (C : String) (T : u_T) (N : Nat), G.1[ci]? = some (C, T, N) ∧ k < N ∧ (∀ x ∈ u_ws C T N, x ∈ G.2.1) ∧ ab_lk G own idx (T k)
def ab_fp (G : ab_G) (own nm : String) (idx ci k : Nat) (ty : FieldType) : Prop := ∃ (C : String) (T : u_T) (N : Nat) (ty0 : Nat → FieldType), G.1[ci]? = some (C, T, N) ∧ k < N ∧ (∀ x ∈ u_ws C T N, x ∈ G.2.1) ∧ (∀ j, j < N → parseFieldDescriptor (T j).2.2.1 = some (ty0 j)) ∧ (∀ a, a < N → ∀ b, b < N → a ≠ b → (T a).2.1 ≠ (T b).2.1) ∧ ty0 k = ty ∧
  ((ab_lk G own idx (T k) ∧ (T k).2.2.2 = false) ∨ (Cond.fieldLink own idx (T k).1 (T k).2.1 (T k).2.2.1 ∈ G.2.1 ∧ (T k).2.2.2 = true ∧ nm = "<init>" ∧ (T k).1 = own))
section EVC
variable {G : ab_G} {rs : List String} {M : ab_M} {d bc bs pc : Nat} {l : ab_L} {st : List ab_V} {w : ab_W} {Q : Option ab_V → ab_W → Prop}
theorem ev_getfield {o ci k idx : Nat} {fs : List ab_V} {v : ab_V} (hd : decode M.2.1 pc = .ok (.getfield idx, 3)) (hw : w[o]? = some (ab_ob ci fs)) (hf : ab_fl G M.1.cls idx ci k) (hv : fs[k]? = some v) (kk : ab_Ev G rs M d bc bs (pc + 3) l (v :: st) w Q) : ab_Ev G rs M d bc bs pc l (.inr (.inr (some o)) :: st) w Q := by
  intro p la e R s m args below meth c H locs cells slots D dA aK aV as A ls Qc free hF hs hP hD hS hl h1 h2 hR
  have kk := kk p la e R s m args below meth c H locs cells slots D dA aK aV as A ls Qc free hF hs hP hD hS hl h1 h2 hR
  obtain ⟨hx, hb, -, -, -, ho, -, ht, -, -, hC, -⟩ := hF
  obtain ⟨C, T, N, g1, g2, g3, g4⟩ := hf
  have hv' : (fs.map (ab_cv as))[k]? = some (ab_cv as v) := by rw [List.getElem?_map, hv]; rfl
  rcases g4 with g4 | ⟨h, g4⟩
  · exact va_get hx hb ht (fun x hx => List.mem_cons_of_mem _ (g3 x hx)) ho hC.1 hP o (ab_cw_get hw) g1 k g2 (ht _ (List.mem_cons_of_mem _ g4)) (fun _ h => h) hv' hd kk
  · exact va_getN hx hb ht (fun x hx => List.mem_cons_of_mem _ (g3 x hx)) ho hC.1 hP o (ab_cw_get hw) g1 k g2 (va_Nw.use rfl (hC.2.2.1 _ g4)) (fun _ h => h) hv' hd kk
theorem ev_putfield {o ci k idx : Nat} {fs : List ab_V} {v : ab_V} {ty : FieldType} (hd : decode M.2.1 pc = .ok (.putfield idx, 3)) (hw : w[o]? = some (ab_ob ci fs)) (hf : ab_fp G M.1.cls M.1.name idx ci k ty) (hk : k < fs.length) (hv : ab_ft ty v) (kk : ab_Ev G rs M d bc bs (pc + 3) l st (w.set o (ab_ob ci (fs.set k v))) Q) : ab_Ev G rs M d bc bs pc l (v :: .inr (.inr (some o)) :: st) w Q := by
  intro p la e R s m args below meth c H locs cells slots D dA aK aV as A ls Qc free hF hs hP hD hS hl h1 h2 hR
  have kk := fun H1 locs1 hP1 hD1 hS1 => kk p la e R s m args below meth c H1 locs1 cells slots D dA aK aV as A ls Qc free hF hs hP1 hD1 hS1 hl h1 h2 (hR.len (List.length_set ..))
  obtain ⟨hx, hb, -, -, -, ho, hn, ht, -, -, hC, -⟩ := hF
  obtain ⟨C, T, N, ty0, g1, g2, g3, g5, g6, g7, g4⟩ := hf
  subst g7
  have e1 : ab_cw dA as (w.set o (ab_ob ci (fs.set k v))) = (ab_cw dA as w).set o (as o, .inr (ci, (fs.map (ab_cv as)).set k (ab_cv as v))) := by
    rw [← ab_cw_set]
    show _ = _
    rw [← List.map_set]
    rfl
  rw [e1] at kk
  have hv' := ab_ft_ok (as := as) hv
  rcases g4 with ⟨g4 | ⟨h, g4⟩, gf⟩ | ⟨g4, gf, gi, gc⟩
  · exact va_put hx hb ht (fun x hx => List.mem_cons_of_mem _ (g3 x hx)) ty0 g5 g6 ho hC.1 hP hD hS o (ab_cw_get hw) g1 k g2 (ht _ (List.mem_cons_of_mem _ g4)) (fun _ h => h) gf (g5 k g2) hv'.1 hv'.2 (by simpa using hk) hd kk
  · exact va_putN hx hb ht (fun x hx => List.mem_cons_of_mem _ (g3 x hx)) ty0 g5 g6 ho hC.1 hP hD hS o (ab_cw_get hw) g1 k g2 (va_Nw.use rfl (hC.2.2.1 _ g4)) (fun _ h => h) gf (g5 k g2) hv'.1 hv'.2 (by simpa using hk) hd kk
  · exact va_putF hx hb ht (fun x hx => List.mem_cons_of_mem _ (g3 x hx)) ty0 g5 g6 ho hC.1 hP hD hS o (ab_cw_get hw) g1 k g2 (ht _ (List.mem_cons_of_mem _ g4)) (fun _ h => h) gf (hn.trans gi) gc (g5 k g2) hv'.1 hv'.2 (by simpa using hk) hd kk

theorem ev_iaload {o n : Nat} {f : Int → Int} {j : Int} (hd : decode M.2.1 pc = .ok (.iaload, 1)) (hw : w[o]? = some (ab_ai 0 n f)) (h0 : 0 ≤ j) (hn : j < n) (hj : ab_in j) (kk : ab_Ev G rs M d bc bs (pc + 1) l (.inl (f j) :: st) w Q) : ab_Ev G rs M d bc bs pc l (.inl j :: .inr (.inr (some o)) :: st) w Q := by
  intro p la e R s m args below meth c H locs cells slots D dA aK aV as A ls Qc free hF hs hP hD hS hl h1 h2 hR
  have kk := kk p la e R s m args below meth c H locs cells slots D dA aK aV as A ls Qc free hF hs hP hD hS hl h1 h2 hR
  obtain ⟨hx, hb, -, -, -, ho, -, ht, -, -, hC, -⟩ := hF
  refine va_iald hx hb hC.1 hP o 0 (ab_cw_get hw) rfl (ab_ix h0 hn hj) hd ?_
  rw [ab_tn hj]
  have e1 : ((j.toNat : Nat) : Int) = j := Int.toNat_of_nonneg h0
  show W p la e R s m args below meth c H locs cells slots _ (F0 m (pc + 1) ls (.int (Int32.ofInt (f ((j.toNat : Nat) : Int))) :: _))
  rw [e1]
  exact kk
theorem ev_baload {o n : Nat} {f : Int → Int} {j : Int} (hd : decode M.2.1 pc = .ok (.baload, 1)) (hw : w[o]? = some (ab_ai 1 n f)) (h0 : 0 ≤ j) (hn : j < n) (hj : ab_in j) (kk : ab_Ev G rs M d bc bs (pc + 1) l (.inl (f j) :: st) w Q) : ab_Ev G rs M d bc bs pc l (.inl j :: .inr (.inr (some o)) :: st) w Q := by
  intro p la e R s m args below meth c H locs cells slots D dA aK aV as A ls Qc free hF hs hP hD hS hl h1 h2 hR
  have kk := kk p la e R s m args below meth c H locs cells slots D dA aK aV as A ls Qc free hF hs hP hD hS hl h1 h2 hR
  obtain ⟨hx, hb, -, -, -, ho, -, ht, -, -, hC, -⟩ := hF
  refine va_bald hx hb hC.1 hP o 1 (ab_cw_get hw) rfl (ab_ix h0 hn hj) hd ?_
  rw [ab_tn hj]
  have e1 : ((j.toNat : Nat) : Int) = j := Int.toNat_of_nonneg h0
  show W p la e R s m args below meth c H locs cells slots _ (F0 m (pc + 1) ls (.int (Int32.ofInt (f ((j.toNat : Nat) : Int))) :: _))
  rw [e1]
  exact kk
theorem ev_zaload {o n : Nat} {f : Int → Int} {j : Int} (hd : decode M.2.1 pc = .ok (.baload, 1)) (hw : w[o]? = some (ab_ai 2 n f)) (h0 : 0 ≤ j) (hn : j < n) (hj : ab_in j) (kk : ab_Ev G rs M d bc bs (pc + 1) l (.inl (f j) :: st) w Q) : ab_Ev G rs M d bc bs pc l (.inl j :: .inr (.inr (some o)) :: st) w Q := by
  intro p la e R s m args below meth c H locs cells slots D dA aK aV as A ls Qc free hF hs hP hD hS hl h1 h2 hR
  have kk := kk p la e R s m args below meth c H locs cells slots D dA aK aV as A ls Qc free hF hs hP hD hS hl h1 h2 hR
  obtain ⟨hx, hb, -, -, -, ho, -, ht, -, -, hC, -⟩ := hF
  refine va_zald hx hb hC.1 hP o 2 (ab_cw_get hw) rfl (ab_ix h0 hn hj) hd ?_
  rw [ab_tn hj]
  have e1 : ((j.toNat : Nat) : Int) = j := Int.toNat_of_nonneg h0
  show W p la e R s m args below meth c H locs cells slots _ (F0 m (pc + 1) ls (.int (Int32.ofInt (f ((j.toNat : Nat) : Int))) :: _))
  rw [e1]
  exact kk
theorem ev_laload {o n : Nat} {f : Int → Int64} {j : Int} (hd : decode M.2.1 pc = .ok (.laload, 1)) (hw : w[o]? = some (ab_al n f)) (h0 : 0 ≤ j) (hn : j < n) (hj : ab_in j) (kk : ab_Ev G rs M d bc bs (pc + 1) l (.inr (.inl (f j)) :: st) w Q) : ab_Ev G rs M d bc bs pc l (.inl j :: .inr (.inr (some o)) :: st) w Q := by
  intro p la e R s m args below meth c H locs cells slots D dA aK aV as A ls Qc free hF hs hP hD hS hl h1 h2 hR
  have kk := kk p la e R s m args below meth c H locs cells slots D dA aK aV as A ls Qc free hF hs hP hD hS hl h1 h2 hR
  obtain ⟨hx, hb, -, -, -, ho, -, ht, -, -, hC, -⟩ := hF
  refine va_lald hx hb hC.1 hP o 3 (ab_cw_get hw) rfl (ab_ix h0 hn hj) hd ?_
  rw [ab_tn hj]
  have e1 : ((j.toNat : Nat) : Int) = j := Int.toNat_of_nonneg h0
  show W p la e R s m args below meth c H locs cells slots _ (F0 m (pc + 1) ls (.long (f ((j.toNat : Nat) : Int)) :: _))
  rw [e1]
  exact kk
theorem ab_upok {n : Nat} {f : Int → Int} {j : Int} {x : Int} (h0 : 0 ≤ j) : upd (fun k : Nat => Int32.ofInt (f (k : Int))) j.toNat (Int32.ofInt x) = fun k : Nat => Int32.ofInt (ab_up f j x (k : Int)) := by
  funext k
  unfold upd ab_up
  by_cases h : k = j.toNat
  · rw [if_pos h, if_pos (by omega)]
  · rw [if_neg h, if_neg (by omega)]
theorem ab_upokL {f : Int → Int64} {j : Int} {x : Int64} (h0 : 0 ≤ j) : vp_updL (fun k : Nat => f (k : Int)) j.toNat x = fun k : Nat => ab_up f j x (k : Int) := by
  funext k
  unfold vp_updL ab_up
  by_cases h : k = j.toNat
  · rw [if_pos h, if_pos (by omega)]
  · rw [if_neg h, if_neg (by omega)]
theorem ab_upokR {f : Int → Option Nat} {as : Nat → Nat} {j : Int} {x : Nat} (h0 : 0 ≤ j) : va_up (fun k : Nat => (f (k : Int)).map as) j.toNat (some (as x)) = fun k : Nat => (ab_up f j (some x) (k : Int)).map as := by
  funext k
  unfold va_up ab_up
  by_cases h : k = j.toNat
  · rw [if_pos h, if_pos (by omega)]; rfl
  · rw [if_neg h, if_neg (by omega)]
theorem ev_iastore {o n : Nat} {f : Int → Int} {j x : Int} (hd : decode M.2.1 pc = .ok (.iastore, 1)) (hw : w[o]? = some (ab_ai 0 n f)) (h0 : 0 ≤ j) (hn : j < n) (hj : ab_in j) (kk : ab_Ev G rs M d bc bs (pc + 1) l st (w.set o (ab_ai 0 n (ab_up f j x))) Q) : ab_Ev G rs M d bc bs pc l (.inl x :: .inl j :: .inr (.inr (some o)) :: st) w Q := by
  intro p la e R s m args below meth c H locs cells slots D dA aK aV as A ls Qc free hF hs hP hD hS hl h1 h2 hR
  have kk := fun H1 locs1 hP1 hD1 hS1 => kk p la e R s m args below meth c H1 locs1 cells slots D dA aK aV as A ls Qc free hF hs hP1 hD1 hS1 hl h1 h2 (hR.len (List.length_set ..))
  obtain ⟨hx, hb, -, -, -, ho, hn, ht, -, -, hC, -⟩ := hF
  rw [← ab_cw_set] at kk
  refine va_iast hx hb hC.1 hP hD hS o 0 (ab_cw_get hw) rfl (ab_ix h0 ‹_› hj) hd ?_
  rw [ab_tn hj, ab_upok (n := n) h0]
  exact kk
theorem ev_bastore {o n : Nat} {f : Int → Int} {j x : Int} (hd : decode M.2.1 pc = .ok (.bastore, 1)) (hw : w[o]? = some (ab_ai 1 n f)) (h0 : 0 ≤ j) (hn : j < n) (hj : ab_in j) (kk : ab_Ev G rs M d bc bs (pc + 1) l st (w.set o (ab_ai 1 n (ab_up f j (x.bmod 256)))) Q) : ab_Ev G rs M d bc bs pc l (.inl x :: .inl j :: .inr (.inr (some o)) :: st) w Q := by
  intro p la e R s m args below meth c H locs cells slots D dA aK aV as A ls Qc free hF hs hP hD hS hl h1 h2 hR
  have kk := fun H1 locs1 hP1 hD1 hS1 => kk p la e R s m args below meth c H1 locs1 cells slots D dA aK aV as A ls Qc free hF hs hP1 hD1 hS1 hl h1 h2 (hR.len (List.length_set ..))
  obtain ⟨hx, hb, -, -, -, ho, hn, ht, -, -, hC, -⟩ := hF
  rw [← ab_cw_set] at kk
  refine va_bast hx hb hC.1 hP hD hS o 1 (ab_cw_get hw) rfl (ab_ix h0 ‹_› hj) hd ?_
  rw [ab_tn hj, vp_nar_byte, ab_i2b, ab_upok (n := n) h0]
  exact kk
theorem ev_zastore {o n : Nat} {f : Int → Int} {j x : Int} (hd : decode M.2.1 pc = .ok (.bastore, 1)) (hw : w[o]? = some (ab_ai 2 n f)) (h0 : 0 ≤ j) (hn : j < n) (hj : ab_in j) (hx : x = 0 ∨ x = 1) (kk : ab_Ev G rs M d bc bs (pc + 1) l st (w.set o (ab_ai 2 n (ab_up f j x))) Q) : ab_Ev G rs M d bc bs pc l (.inl x :: .inl j :: .inr (.inr (some o)) :: st) w Q := by
  intro p la e R s m args below meth c H locs cells slots D dA aK aV as A ls Qc free hF hs hP hD hS hl h1 h2 hR
  have kk := fun H1 locs1 hP1 hD1 hS1 => kk p la e R s m args below meth c H1 locs1 cells slots D dA aK aV as A ls Qc free hF hs hP1 hD1 hS1 hl h1 h2 (hR.len (List.length_set ..))
  obtain ⟨hx', hb, -, -, -, ho, hn, ht, -, -, hC, -⟩ := hF
  rw [← ab_cw_set] at kk
  refine va_zast hx' hb hC.1 hP hD hS o 2 (ab_cw_get hw) rfl (ab_ix h0 ‹_› hj) hd ?_
  have e : vp_nar .boolean (Int32.ofInt x) = Int32.ofInt x := by rcases hx with rfl | rfl <;> decide
  rw [ab_tn hj, e, ab_upok (n := n) h0]
  exact kk
theorem ev_lastore {o n : Nat} {f : Int → Int64} {j : Int} {x : Int64} (hd : decode M.2.1 pc = .ok (.lastore, 1)) (hw : w[o]? = some (ab_al n f)) (h0 : 0 ≤ j) (hn : j < n) (hj : ab_in j) (kk : ab_Ev G rs M d bc bs (pc + 1) l st (w.set o (ab_al n (ab_up f j x))) Q) : ab_Ev G rs M d bc bs pc l (.inr (.inl x) :: .inl j :: .inr (.inr (some o)) :: st) w Q := by
  intro p la e R s m args below meth c H locs cells slots D dA aK aV as A ls Qc free hF hs hP hD hS hl h1 h2 hR
  have kk := fun H1 locs1 hP1 hD1 hS1 => kk p la e R s m args below meth c H1 locs1 cells slots D dA aK aV as A ls Qc free hF hs hP1 hD1 hS1 hl h1 h2 (hR.len (List.length_set ..))
  obtain ⟨hx, hb, -, -, -, ho, hn, ht, -, -, hC, -⟩ := hF
  rw [← ab_cw_set] at kk
  refine va_last hx hb hC.1 hP hD hS o 3 (ab_cw_get hw) rfl (ab_ix h0 ‹_› hj) hd ?_
  rw [ab_tn hj, ab_upokL h0]
  exact kk
theorem ab_tyR {G : ab_G} {rs : List String} {dA : Nat → ClassId} {t : Nat} {C : String} (h : rs[t]? = some C) : (ab_ty G rs dA)[4 + t]? = some (dA (4 + t), .object C) := by
  unfold ab_ty
  rw [List.getElem?_append_right (by simp)]
  simp only [List.length_cons, List.length_nil]
  rw [List.getElem?_mapIdx, show 4 + t - (0 + 1 + 1 + 1 + 1) = t by omega, h]
  rfl
theorem ev_aaload {o n t x : Nat} {C : String} {f : Int → Option Nat} {j : Int} (hd : decode M.2.1 pc = .ok (.aaload, 1)) (hw : w[o]? = some (ab_ar (4 + t) n f)) (ht : rs[t]? = some C) (h0 : 0 ≤ j) (hn : j < n) (hj : ab_in j) (hx : f j = some x) (kk : ab_Ev G rs M d bc bs (pc + 1) l (.inr (.inr (some x)) :: st) w Q) : ab_Ev G rs M d bc bs pc l (.inl j :: .inr (.inr (some o)) :: st) w Q := by
  intro p la e R s m args below meth c H locs cells slots D dA aK aV as A ls Qc free hF hs hP hD hS hl h1 h2 hR
  have kk := kk p la e R s m args below meth c H locs cells slots D dA aK aV as A ls Qc free hF hs hP hD hS hl h1 h2 hR
  obtain ⟨hx', hb, -, -, -, ho, -, -, -, -, hC, -⟩ := hF
  refine va_aldq hx' hb hC.1 hP o (4 + t) (ab_cw_get hw) (ab_tyR ht) (ab_ix h0 hn hj) hd ?_
  rw [ab_tn hj]
  have e1 : ((j.toNat : Nat) : Int) = j := Int.toNat_of_nonneg h0
  show W p la e R s m args below meth c H locs cells slots _ (F0 m (pc + 1) ls (va_rf ((f ((j.toNat : Nat) : Int)).map as) :: _))
  rw [e1, hx]
  exact kk
theorem ev_aastore {o n t x ci : Nat} {r : vw_C} {fs : List ab_V} {f : Int → Option Nat} {j : Int} (hd : decode M.2.1 pc = .ok (.aastore, 1)) (hw : w[o]? = some (ab_ar (4 + t) n f)) (ht : rs[t]? = some r.1) (hc : G.1[ci]? = some r) (hv : w[x]? = some (ab_ob ci fs)) (h0 : 0 ≤ j) (hn : j < n) (hj : ab_in j) (kk : ab_Ev G rs M d bc bs (pc + 1) l st (w.set o (ab_ar (4 + t) n (ab_up f j (some x)))) Q) : ab_Ev G rs M d bc bs pc l (.inr (.inr (some x)) :: .inl j :: .inr (.inr (some o)) :: st) w Q := by
  intro p la e R s m args below meth c H locs cells slots D dA aK aV as A ls Qc free hF hs hP hD hS hl h1 h2 hR
  have kk := fun H1 locs1 hP1 hD1 hS1 => kk p la e R s m args below meth c H1 locs1 cells slots D dA aK aV as A ls Qc free hF hs hP1 hD1 hS1 hl h1 h2 (hR.len (List.length_set ..))
  obtain ⟨hx', hb, -, -, -, ho, -, -, -, -, hC, -⟩ := hF
  rw [← ab_cw_set] at kk
  refine va_astq hx' hb hC.1 hP hD hS o (4 + t) x ci (ab_cw_get hw) (ab_tyR ht) (ab_cw_get hv) hc (ab_ix h0 ‹_› hj) hd ?_
  rw [ab_tn hj, ab_upokR h0]
  exact kk
theorem ev_alen {o : Nat} {E : ab_E} {n : Nat} {t : Nat} (hd : decode M.2.1 pc = .ok (.arraylength, 1)) (hw : w[o]? = some E) (hE : (∃ t f, t < 3 ∧ E = ab_ai t n f) ∨ (∃ f, E = ab_al n f) ∨ ∃ t f C, rs[t]? = some C ∧ E = ab_ar (4 + t) n f) (kk : ab_Ev G rs M d bc bs (pc + 1) l (.inl (n : Int) :: st) w Q) : ab_Ev G rs M d bc bs pc l (.inr (.inr (some o)) :: st) w Q := by
  intro p la e R s m args below meth c H locs cells slots D dA aK aV as A ls Qc free hF hs hP hD hS hl h1 h2 hR
  have kk := kk p la e R s m args below meth c H locs cells slots D dA aK aV as A ls Qc free hF hs hP hD hS hl h1 h2 hR
  obtain ⟨hx', hb, -, -, -, ho, -, -, -, -, hC, -⟩ := hF
  rcases hE with ⟨t, f, h3, rfl⟩ | ⟨f, rfl⟩ | ⟨t, f, C, h3, rfl⟩
  · have ht : ∃ ty, (ab_ty G rs dA)[t]? = some (dA t, ty) := by
      rcases (by omega : t = 0 ∨ t = 1 ∨ t = 2) with rfl | rfl | rfl <;> exact ⟨_, rfl⟩
    obtain ⟨ty, ht⟩ := ht
    exact va_alen hx' hb hC.1 hP o t (ab_cw_get hw) ht rfl hd kk
  · exact va_alen hx' hb hC.1 hP o 3 (ab_cw_get hw) (ty := .long) rfl rfl hd kk
  · exact va_alen hx' hb hC.1 hP o (4 + t) (ab_cw_get hw) (ab_tyR h3) rfl hd kk
/-! returns -/
theorem ab_ret {r : Option ab_V} {s : State} {args : Array Value} {D : va_G} {dA : Nat → ClassId} {as : Nat → Nat} {A : Nat → Prop} {Qc : Array Value → State → Outcome → State → Prop} {free : Addr → Prop} {H : Heap} {locs : List Loc} (hR : ab_Rt G s args D dA as A w Q Qc free) (hq : Q r w) (hP : va_P D G.1 (ab_cw dA as w) H) (hD : va_D A (ab_cw dA as w)) (hS : va_S A s.heap H locs) : (∀ t : State, t.heap = H → s.WarmedH t.vm → Qc args s (.returned (r.map (ab_cv as))) t) ∧ ∀ q ∈ locs, free q.base := hR r w as H locs hq (Nat.le_refl _) (fun _ _ => rfl) (fun _ => rfl) hP hD hS
theorem ev_return (hd : decode M.2.1 pc = .ok (.return_, 1)) (hr : M.2.2.2 = none) (hq : Q none w) : ab_Ev G rs M d bc bs pc l [] w Q := by
  intro p la e R s m args below meth c H locs cells slots D dA aK aV as A ls Qc free hF hs hP hD hS hl h1 h2 hR
  obtain ⟨hx, hb, -, hr', hlk, -⟩ := hF
  have h := ab_ret hR hq hP hD hS
  exact W.widen (k := R.cells) (n := R.slots) (by omega) (by omega) (W.vret hx hb (hr'.trans hr) h.1 h.2 hd)
theorem ev_ireturn {a : Int} (hd : decode M.2.1 pc = .ok (.ireturn, 1)) (hr : M.2.2.2 = some .int) (hq : Q (some (.inl a)) w) : ab_Ev G rs M d bc bs pc l [.inl a] w Q := by
  intro p la e R s m args below meth c H locs cells slots D dA aK aV as A ls Qc free hF hs hP hD hS hl h1 h2 hR
  obtain ⟨hx, hb, -, hr', hlk, -⟩ := hF
  have h := ab_ret hR hq hP hD hS
  exact W.widen (k := R.cells) (n := R.slots) (by omega) (by omega) (W.iret hx hb (hr'.trans hr) h.1 h.2 hd)
theorem ev_zreturn {a : Int} (hd : decode M.2.1 pc = .ok (.ireturn, 1)) (hr : M.2.2.2 = some .boolean) (ha : a = 0 ∨ a = 1) (hq : Q (some (.inl a)) w) : ab_Ev G rs M d bc bs pc l [.inl a] w Q := by
  intro p la e R s m args below meth c H locs cells slots D dA aK aV as A ls Qc free hF hs hP hD hS hl h1 h2 hR
  obtain ⟨hx, hb, -, hr', hlk, -⟩ := hF
  have h := ab_ret hR hq hP hD hS
  exact W.widen (k := R.cells) (n := R.slots) (by omega) (by omega) (W.zret hx hb (hr'.trans hr) (by rcases ha with rfl | rfl <;> decide) h.1 h.2 hd)
theorem ev_lreturn {a : Int64} (hd : decode M.2.1 pc = .ok (.lreturn, 1)) (hr : M.2.2.2 = some .long) (hq : Q (some (.inr (.inl a))) w) : ab_Ev G rs M d bc bs pc l [.inr (.inl a)] w Q := by
  intro p la e R s m args below meth c H locs cells slots D dA aK aV as A ls Qc free hF hs hP hD hS hl h1 h2 hR
  obtain ⟨hx, hb, -, hr', hlk, -⟩ := hF
  have h := ab_ret hR hq hP hD hS
  exact W.widen (k := R.cells) (n := R.slots) (by omega) (by omega) (W.lret hx hb (hr'.trans hr) h.1 h.2 hd)
theorem ev_areturn {a : Nat} {rt : FieldType} (hd : decode M.2.1 pc = .ok (.areturn, 1)) (hr : M.2.2.2 = some rt) (hrt : (∃ n, rt = .object n) ∨ ∃ t, rt = .array t) (hq : Q (some (.inr (.inr (some a)))) w) : ab_Ev G rs M d bc bs pc l [.inr (.inr (some a))] w Q := by
  intro p la e R s m args below meth c H locs cells slots D dA aK aV as A ls Qc free hF hs hP hD hS hl h1 h2 hR
  obtain ⟨hx, hb, -, hr', hlk, -⟩ := hF
  have h := ab_ret hR hq hP hD hS
  exact W.widen (k := R.cells) (n := R.slots) (by omega) (by omega) (W.aret hx hb (hr'.trans hr) hrt (Or.inr ⟨_, rfl⟩) h.1 h.2 hd)
end EVC
end
section
/-! rules: calls, what is made, copies -/
def ab_ok (n : Nat) : ab_V → Prop
  | .inr (.inr (some i)) => i < n ∨ ab_sb ≤ i
  | _ => True
def ab_okL (n : Nat) (l : ab_L) : Prop := ∀ (i : Nat) (v : ab_V), l[i]? = some (some v) → ab_ok n v
def ab_okS (n : Nat) (st : List ab_V) : Prop := ∀ v ∈ st, ab_ok n v
def ab_okE (n : Nat) : ab_E → Prop
  | .inr (.inr (.inl (_, _, f))) => ∀ (k : Int) (i : Nat), f k = some i → i < n ∨ ab_sb ≤ i
  | .inr (.inr (.inr (_, fs))) => ab_okS n fs
  | _ => True
def ab_okW (w : ab_W) : Prop := ∀ e ∈ w, ab_okE w.length e
theorem ab_ok_cv {n : Nat} {v : ab_V} {as as1 : Nat → Nat} (h : ab_ok n v) (ha : ∀ i, (i < n ∨ ab_sb ≤ i) → as1 i = as i) : ab_cv as1 v = ab_cv as v := by
  rcases v with a | a | _ | i <;> first | rfl | (show Value.ref (as1 i) = Value.ref (as i); rw [ha i h])
theorem ab_ok_map {n : Nat} {st : List ab_V} {as as1 : Nat → Nat} (h : ab_okS n st) (ha : ∀ i, (i < n ∨ ab_sb ≤ i) → as1 i = as i) : st.map (ab_cv as1) = st.map (ab_cv as) := List.map_congr_left (fun v hv => ab_ok_cv (h v hv) ha)
theorem ab_ok_lo {n nL : Nat} {l : ab_L} {ls : Array Slot} {as as1 : Nat → Nat} (h : ab_okL n l) (ha : ∀ i, (i < n ∨ ab_sb ≤ i) → as1 i = as i) (hl : ab_lo as ls nL l) : ab_lo as1 ls nL l := by
  obtain ⟨h1, lv, h2, h3⟩ := hl
  exact ⟨h1, lv, h2, fun i v hi => by rw [ab_ok_cv (h i v hi) ha]; exact h3 i v hi⟩
theorem ab_ok_ce {n : Nat} {E : ab_E} {dA : Nat → ClassId} {as as1 : Nat → Nat} (h : ab_okE n E) (ha : ∀ i, (i < n ∨ ab_sb ≤ i) → as1 i = as i) : ab_ce dA as1 E = ab_ce dA as E := by
  rcases E with ⟨t, m, f⟩ | ⟨m, f⟩ | ⟨t, m, f⟩ | ⟨ci, fs⟩
  · rfl
  · rfl
  · have e : (fun k : Nat => (f (k : Int)).map as1) = fun k : Nat => (f (k : Int)).map as := by
      funext k
      cases hf : f (k : Int) with
      | none => rfl
      | some i => exact congrArg some (ha i (h k i hf))
    show Sum.inl _ = Sum.inl _
    rw [e]
  · show Sum.inr _ = Sum.inr _
    rw [ab_ok_map h ha]
theorem ab_cw_push {w : ab_W} {E : ab_E} {dA : Nat → ClassId} {as as1 : Nat → Nat} (h : ab_okW w) (ha : ∀ i, (i < w.length ∨ ab_sb ≤ i) → as1 i = as i) : ab_cw dA as1 (w ++ [E]) = ab_cw dA as w ++ [(as1 w.length, ab_ce dA as1 E)] := by
  apply List.ext_getElem?
  intro i
  unfold ab_cw
  rw [List.getElem?_mapIdx]
  by_cases hi : i < w.length
  · rw [List.getElem?_append_left hi, List.getElem?_append_left (by rw [List.length_mapIdx]; exact hi), List.getElem?_mapIdx, List.getElem?_eq_getElem hi]
    show some (as1 i, ab_ce dA as1 w[i]) = some (as i, ab_ce dA as w[i])
    rw [ha i (Or.inl hi), ab_ok_ce (h _ (List.getElem_mem hi)) ha]
  · rw [List.getElem?_append_right (by omega), List.getElem?_append_right (by rw [List.length_mapIdx]; omega), List.length_mapIdx]
    by_cases he : i = w.length
    · subst he
      simp
    · rw [List.getElem?_eq_none (by simp; omega), List.getElem?_eq_none (by simp; omega)]
      rfl
theorem ab_sub {dA : Nat → ClassId} {as : Nat → Nat} {w : ab_W} {A : Nat → Prop} {H0 H : Heap} {locs : List Loc} (hD : va_D A (ab_cw dA as w)) (hS : va_S A H0 H locs) (hA : ∀ q, H0.size ≤ q → A q) : ∀ q, va_A (ab_cw dA as w) H.size q → A q := by
  intro q h
  rcases h with ⟨k, e, h⟩ | h
  · exact hD.2 k (q, e) h
  · exact hA q (Nat.le_trans hS.1 h)
/-- what a contract says at its end -/
def ab_Qc (G : ab_G) (D : va_G) (dA : Nat → ClassId) (as : Nat → Nat) (w : ab_W) (sz : Nat) (Q : Option ab_V → ab_W → Prop) : Array Value → State → Outcome → State → Prop := fun _ st oc t => (∃ (r : Option ab_V) (w' : ab_W) (as' : Nat → Nat), Q r w' ∧ w.length ≤ w'.length ∧ (∀ i, (i < w.length ∨ ab_sb ≤ i) → as' i = as i) ∧ (w'.length = w.length → as' = as) ∧ oc = .returned (r.map (ab_cv as')) ∧ va_P D G.1 (ab_cw dA as' w') t.heap ∧ va_D (va_A (ab_cw dA as w) sz) (ab_cw dA as' w')) ∧ va_F (va_A (ab_cw dA as w) sz) st t
def ab_Pc (G : ab_G) (rs : List String) (D : va_G) (dA : Nat → ClassId) (aK aV as : Nat → Nat) (w : ab_W) (sz : Nat) : State → Prop := fun U => U.heap.size = sz ∧ va_P D G.1 (ab_cw dA as w) U.heap ∧ va_D (fun _ => True) (ab_cw dA as w) ∧ ab_Cx G rs D dA aK aV (va_A (ab_cw dA as w) sz) U U.heap
theorem ab_Pc_blind {G : ab_G} {rs : List String} {D : va_G} {dA : Nat → ClassId} {aK aV as : Nat → Nat} {w : ab_W} {sz : Nat} {av : List Value} : FrameBlind (va_Pc av (ab_Pc G rs D dA aK aV as w sz)) := fun a U g mk q => ⟨q.1, q.2.1, q.2.2.1, q.2.2.2.1, ab_Cx.same (u := U) (U := U.calling g mk a) rfl q.2.2.2.2⟩
theorem ab_Pc_at {G : ab_G} {rs : List String} {M : ab_M} {d : Nat} {p : Program} {R : Room} {s : State} {m : MethodId} {args : Array Value} {meth : Method} {c : Code} {D : va_G} {dA : Nat → ClassId} {aK aV as : Nat → Nat} {A : Nat → Prop} {w : ab_W} {H : Heap} {locs : List Loc} {av : List Value} (hF : ab_Fx G rs M d p R s m args meth c D dA aK aV A) (hP : va_P D G.1 (ab_cw dA as w) H) (hD : va_D A (ab_cw dA as w)) (hS : va_S A s.heap H locs) : ∀ U : State, U.heap = H → s.WarmedH U.vm → va_Pc av (ab_Pc G rs D dA aK aV as w H.size) av.toArray U := by
  intro U hU hW
  obtain ⟨-, -, -, -, -, -, -, -, -, -, hC, hA⟩ := hF
  refine ⟨rfl, by rw [hU], by rw [hU]; exact hP, hD.weaken (fun _ _ _ _ => trivial), ?_⟩
  rw [hU]
  exact hC.warm hW hS.2.1 (ab_sub hD hS hA)
section EVD
variable {G : ab_G} {rs : List String} {M : ab_M} {d bc bs pc : Nat} {l : ab_L} {st : List ab_V} {w : ab_W} {Q : Option ab_V → ab_W → Prop}
theorem ab_after {Q1 : Option ab_V → ab_W → Prop} {mc ms : Nat} {p : Program} {la : Launch} {e : Env} {R : Room} {s : State} {m : MethodId} {args : Array Value} {below : List Frame} {meth : Method} {c : Code} {H : Heap} {locs : List Loc} {cells slots : Nat} {D : va_G} {dA : Nat → ClassId} {aK aV as : Nat → Nat} {A : Nat → Prop} {ls : Array Slot} {Qc : Array Value → State → Outcome → State → Prop} {free : Addr → Prop} {st0 : List Value} {a : Array Value}
    (hF : ab_Fx G rs M d p R s m args meth c D dA aK aV A) (hs : ∀ i, i < G.2.2.2.2.1.length → as (ab_sb + i) = aK i) (hP : va_P D G.1 (ab_cw dA as w) H) (hD : va_D A (ab_cw dA as w)) (hS : va_S A s.heap H locs) (hl : ab_lo as ls M.2.2.1 l) (h1 : cells + (bc + mc) ≤ R.cells) (h2 : slots + (bs + ms) ≤ R.slots) (hR : ab_Rt G s args D dA as A w Q Qc free)
    (hrun : va_Run p la e R s m args below meth c H locs cells slots mc ms (F0 m pc ls st0) (st.map (ab_cv as)) (ab_Qc G D dA as w H.size Q1 a) (va_A (ab_cw dA as w) H.size))
    (hok : (∀ r w1, Q1 r w1 → w1.length = w.length) ∨ (ab_okL w.length l ∧ ab_okS w.length st))
    (kk : ∀ r w1, Q1 r w1 → ab_Ev G rs M d bc bs (pc + 3) l (r.toList ++ st) w1 Q) : W p la e R s m args below meth c H locs cells slots (MQ below Qc args s R.cells R.slots free) (F0 m pc ls st0) := by
  have hA := hF.2.2.2.2.2.2.2.2.2.2.2
  have hsub := ab_sub hD hS hA
  intro T hT X
  obtain ⟨v, st₀, t, T', L, h0, X', hL, e1, e2, ⟨⟨r, w1, as1, q1, q2, q3, q4, q5, q6, q7⟩, hz, hk⟩, stp⟩ := hrun T hT X
  cases q5
  rw [h0] at hz hk
  have hlo : ab_lo as1 ls M.2.2.1 l ∧ st.map (ab_cv as1) = st.map (ab_cv as) := by
    rcases hok with h | h
    · rw [q4 (h r w1 q1)]
      exact ⟨hl, rfl⟩
    · exact ⟨ab_ok_lo h.1 q3 hl, ab_ok_map h.2 q3⟩
  have hS1 : va_S A s.heap T'.heap (locs ++ L) := ⟨Nat.le_trans hS.1 (by rw [e1]; exact hz), fun q g1 g2 => by rw [e1, hk q (Nat.lt_of_lt_of_le g1 hS.1) (fun z => g2 (hsub q z))]; exact hS.2.1 q g1 g2, fun q hq => by
      rcases List.mem_append.mp hq with h | h
      · exact hS.2.2 q h
      · exact hsub _ (hL q h)⟩
  have hR1 : ab_Rt G s args D dA as1 A w1 Q Qc free := by
    intro r' w' as' H' locs' g1 g2 g3 g4 g5 g6 g7
    refine hR r' w' as' H' locs' g1 (by omega) (fun i hi => ?_) (fun z => ?_) g5 g6 g7
    · rw [g3 i (by omega), q3 i hi]
    · rw [g4 (by omega), q4 (by omega)]
  obtain ⟨t2, a1, b1⟩ := kk r w1 q1 p la e R s m args below meth c T'.heap (locs ++ L) (cells + mc) (slots + ms) D dA aK aV as1 A ls Qc free hF (fun i hi => by rw [q3 _ (Or.inr (Nat.le_add_right _ _))]; exact hs i hi) (by rw [e1]; exact q6) (q7.weaken (fun k q _ h => hsub q.1 h)) hS1 hlo.1 (by omega) (by omega) hR1 T' rfl X'
  refine ⟨t2, stp t2 ?_, b1⟩
  have e3 : (r.map (ab_cv as1)).toList ++ st.map (ab_cv as) = (r.toList ++ st).map (ab_cv as1) := by
    rw [← hlo.2]
    cases r <;> simp
  show Steps p.tables e below (T'.setTop (F0 m (pc + 3) ls ((r.map (ab_cv as1)).toList ++ st.map (ab_cv as)))) t2
  rw [e3]
  exact a1
/-- the words of a call -/
def ab_kb (G : ab_G) (own : String) (idx : Nat) (cm : ab_M) (n : Nat) : Prop := (∀ x ∈ G.2.1, goodWord x = true) ∧ Cond.code cm.1 cm.2.1 cm.2.2.1 cm.2.2.2 ∈ G.2.1 ∧ Cond.initialized cm.1.cls ∈ G.2.1 ∧ (Cond.methodLink own idx cm.1 ∈ G.2.1 ∨ ∃ h, Cond.methodLinkNest own idx cm.1 h ∈ G.2.2.1) ∧ (cm.1.cls ≠ "java/lang/invoke/MethodHandle" ∧ cm.1.cls ≠ "java/lang/invoke/VarHandle" ∧ (parseMethodDescriptor cm.1.desc).map (fun q => q.parameters.length) = some n) ∧ cm.2.2.1 ≤ 40
theorem ab_kgood {own : String} {idx n : Nat} {cm : ab_M} (h : ab_kb G own idx cm n) : GoodIn (ab_ws G M) (ab_ws G cm) := by
  intro x hx
  rcases List.mem_cons.mp hx with rfl | hx
  · exact ⟨List.mem_cons_of_mem _ h.2.1, good_of_word (h.1 _ h.2.1)⟩
  · exact ⟨List.mem_cons_of_mem _ hx, good_of_word (h.1 _ hx)⟩
theorem ab_wsum (as : Nat → Nat) : ∀ st : List ab_V, ((st.map (ab_cv as)).map fun v => v.category).sum = ab_wd st
  | [] => rfl
  | .inl a :: vs => by rw [List.map_cons, List.map_cons, List.sum_cons, ab_wsum as vs]; rfl
  | .inr (.inl a) :: vs => by rw [List.map_cons, List.map_cons, List.sum_cons, ab_wsum as vs]; rfl
  | .inr (.inr none) :: vs => by rw [List.map_cons, List.map_cons, List.sum_cons, ab_wsum as vs]; rfl
  | .inr (.inr (some a)) :: vs => by rw [List.map_cons, List.map_cons, List.sum_cons, ab_wsum as vs]; rfl
theorem ev_static {cm : ab_M} {idx d' mc ms : Nat} {av st0 : List ab_V} {Q1 : Option ab_V → ab_W → Prop} (hd : decode M.2.1 pc = .ok (.invokestatic idx, 3)) (hm : ab_Mt G rs cm d' mc ms av w Q1) (hk : ab_kb G M.1.cls idx cm av.length) (hst : Cond.static cm.1 ∈ G.2.1) (h0 : st0 = av.reverse ++ st) (hw : ab_wd st ≤ 8) (hdd : d' + 1 ≤ d) (hok : (∀ r w1, Q1 r w1 → w1.length = w.length) ∨ (ab_okL w.length l ∧ ab_okS w.length st))
    (kk : ∀ r w1, Q1 r w1 → ab_Ev G rs M d bc bs (pc + 3) l (r.toList ++ st) w1 Q) : ab_Ev G rs M d (bc + mc) (bs + ms) pc l st0 w Q := by
  intro p la e R s m args below meth c H locs cells slots D dA aK aV as A ls Qc free hF hs hP hD hS hl h1 h2 hR
  refine ab_after (a := (av.map (ab_cv as)).toArray) hF hs hP hD hS hl h1 h2 hR ?_ hok kk
  have hF' := hF
  obtain ⟨hx, hb, hml, -, -, ho, -, ht, hfr, hlc, hC, hA⟩ := hF'
  have hM := hm la D dA aK aV as H.size hs
  have hpre : PreS s H (va_Pc (av.map (ab_cv as)) (ab_Pc G rs D dA aK aV as w H.size)) (av.map (ab_cv as)) := ⟨ab_Pc_blind, ab_Pc_at hF hP hD hS⟩
  have hrm : (ab_rm d' mc ms).frames + 1 ≤ R.frames ∧ 8 + (cm.2.2.1 + 11) + (ab_rm d' mc ms).locals ≤ R.locals := by
    have := hk.2.2.2.2.2
    rw [hfr, hlc]
    show d' + 1 ≤ d ∧ 8 + (cm.2.2.1 + 11) + 60 * d' ≤ 60 * d
    omega
  have hstk : st0.map (ab_cv as) = (av.map (ab_cv as)).reverse ++ st.map (ab_cv as) := by rw [h0]; simp
  have hwd : 2 * (F0 m pc ls (st0.map (ab_cv as))).monitorRoom + ((st.map (ab_cv as)).map fun v => v.category).sum ≤ 8 := lv_room (by rw [ab_wsum]; exact hw)
  have hsz : (F0 m pc ls (st0.map (ab_cv as))).locals.size = M.2.2.1 := by obtain ⟨-, lv, z, -⟩ := hl; exact z.1
  rcases hk.2.2.2.1 with hlk | ⟨h, hlk⟩
  · exact va_runS ⟨hx, hb, hml, ho, ht⟩ hM ⟨callB_of av.length ht (ab_kgood hk) rfl rfl rfl (ht _ (List.mem_cons_of_mem _ hk.2.2.1)) (ht _ (List.mem_cons_of_mem _ hlk)) hk.2.2.2.2.1 hrm, ht _ (List.mem_cons_of_mem _ hst)⟩ hpre rfl (List.length_map ..) hsz hstk hwd hd ⟨by omega, by omega⟩
  · exact va_runSN ⟨hx, hb, hml, ho, ht⟩ hM ⟨va_cnB av.length ht (ab_kgood hk) rfl rfl rfl (hC.2.2.1 _ hlk) (ht _ (List.mem_cons_of_mem _ hk.2.2.1)) hk.2.2.2.2.1 hrm, ht _ (List.mem_cons_of_mem _ hst), trivial⟩ hpre rfl (List.length_map ..) hsz hstk hwd hd ⟨by omega, by omega⟩
theorem ev_virtual {cm : ab_M} {idx d' mc ms o ci N : Nat} {T : u_T} {fs av st0 : List ab_V} {Q1 : Option ab_V → ab_W → Prop} (hd : decode M.2.1 pc = .ok (.invokevirtual idx, 3)) (hm : ab_Mt G rs cm d' mc ms (.inr (.inr (some o)) :: av) w Q1) (hk : ab_kb G M.1.cls idx cm av.length) (hst : Cond.instanceMethod cm.1 ∈ G.2.1 ∧ Cond.selects cm.1.cls cm.1 cm.1 ∈ G.2.1) (hcl : G.1[ci]? = some (cm.1.cls, T, N)) (hwo : w[o]? = some (ab_ob ci fs)) (h0 : st0 = av.reverse ++ .inr (.inr (some o)) :: st) (hw : ab_wd st ≤ 8) (hdd : d' + 1 ≤ d) (hok : (∀ r w1, Q1 r w1 → w1.length = w.length) ∨ (ab_okL w.length l ∧ ab_okS w.length st))
    (kk : ∀ r w1, Q1 r w1 → ab_Ev G rs M d bc bs (pc + 3) l (r.toList ++ st) w1 Q) : ab_Ev G rs M d (bc + mc) (bs + ms) pc l st0 w Q := by
  intro p la e R s m args below meth c H locs cells slots D dA aK aV as A ls Qc free hF hs hP hD hS hl h1 h2 hR
  refine ab_after (a := (Value.ref (as o) :: av.map (ab_cv as)).toArray) hF hs hP hD hS hl h1 h2 hR ?_ hok kk
  have hF' := hF
  obtain ⟨hx, hb, hml, -, -, ho, -, ht, hfr, hlc, hC, hA⟩ := hF'
  have hM := hm la D dA aK aV as H.size hs
  have hpre : PreV s H cm.1.cls (as o) (va_Pc ((Sum.inr (Sum.inr (some o)) :: av).map (ab_cv as)) (ab_Pc G rs D dA aK aV as w H.size)) (av.map (ab_cv as)) := ⟨ab_Pc_blind, va_recv (q := (cm.1.cls, T, N)) hC.1 hP hcl (ab_cw_get hwo), ab_Pc_at hF hP hD hS⟩
  have hrm : (ab_rm d' mc ms).frames + 1 ≤ R.frames ∧ 8 + (cm.2.2.1 + 11) + (ab_rm d' mc ms).locals ≤ R.locals := by
    have := hk.2.2.2.2.2
    rw [hfr, hlc]
    show d' + 1 ≤ d ∧ 8 + (cm.2.2.1 + 11) + 60 * d' ≤ 60 * d
    omega
  have hstk : st0.map (ab_cv as) = (av.map (ab_cv as)).reverse ++ Value.ref (as o) :: st.map (ab_cv as) := by rw [h0]; simp [ab_cv]
  have hwd : 2 * (F0 m pc ls (st0.map (ab_cv as))).monitorRoom + ((st.map (ab_cv as)).map fun v => v.category).sum ≤ 8 := lv_room (by rw [ab_wsum]; exact hw)
  have hsz : (F0 m pc ls (st0.map (ab_cv as))).locals.size = M.2.2.1 := by obtain ⟨-, lv, z, -⟩ := hl; exact z.1
  rcases hk.2.2.2.1 with hlk | ⟨h, hlk⟩
  · exact va_runV (C := cm.1.cls) ⟨hx, hb, hml, ho, ht⟩ hM ⟨callB_of av.length ht (ab_kgood hk) rfl rfl rfl (ht _ (List.mem_cons_of_mem _ hk.2.2.1)) (ht _ (List.mem_cons_of_mem _ hlk)) hk.2.2.2.2.1 hrm, ht _ (List.mem_cons_of_mem _ hst.1), ht _ (List.mem_cons_of_mem _ hst.2)⟩ hpre rfl (List.length_map ..) hsz hstk hwd hd ⟨by omega, by omega⟩
  · exact va_runVN (C := cm.1.cls) ⟨hx, hb, hml, ho, ht⟩ hM ⟨va_cnB av.length ht (ab_kgood hk) rfl rfl rfl (hC.2.2.1 _ hlk) (ht _ (List.mem_cons_of_mem _ hk.2.2.1)) hk.2.2.2.2.1 hrm, ht _ (List.mem_cons_of_mem _ hst.1), ht _ (List.mem_cons_of_mem _ hst.2)⟩ hpre rfl (List.length_map ..) hsz hstk hwd hd ⟨by omega, by omega⟩
theorem ev_special {cm : ab_M} {idx d' mc ms o : Nat} {av st0 : List ab_V} {Q1 : Option ab_V → ab_W → Prop} (hd : decode M.2.1 pc = .ok (.invokespecial idx, 3)) (hm : ab_Mt G rs cm d' mc ms (.inr (.inr (some o)) :: av) w Q1) (hk : ab_kb G M.1.cls idx cm av.length) (hst : Cond.instanceMethod cm.1 ∈ G.2.1 ∧ cm.1.name = "<init>" ∧ cm.2.2.2 = none) (h0 : st0 = av.reverse ++ .inr (.inr (some o)) :: st) (hw : ab_wd st ≤ 8) (hdd : d' + 1 ≤ d) (hok : (∀ r w1, Q1 r w1 → w1.length = w.length) ∨ (ab_okL w.length l ∧ ab_okS w.length st))
    (kk : ∀ r w1, Q1 r w1 → ab_Ev G rs M d bc bs (pc + 3) l (r.toList ++ st) w1 Q) : ab_Ev G rs M d (bc + mc) (bs + ms) pc l st0 w Q := by
  intro p la e R s m args below meth c H locs cells slots D dA aK aV as A ls Qc free hF hs hP hD hS hl h1 h2 hR
  refine ab_after (a := (Value.ref (as o) :: av.map (ab_cv as)).toArray) hF hs hP hD hS hl h1 h2 hR ?_ hok kk
  have hF' := hF
  obtain ⟨hx, hb, hml, -, -, ho, -, ht, hfr, hlc, hC, hA⟩ := hF'
  have hM := hm la D dA aK aV as H.size hs
  have hpre : PreS s H (va_Pc ((Sum.inr (Sum.inr (some o)) :: av).map (ab_cv as)) (ab_Pc G rs D dA aK aV as w H.size)) (Value.ref (as o) :: av.map (ab_cv as)) := ⟨ab_Pc_blind, ab_Pc_at hF hP hD hS⟩
  have hrm : (ab_rm d' mc ms).frames + 1 ≤ R.frames ∧ 8 + (cm.2.2.1 + 11) + (ab_rm d' mc ms).locals ≤ R.locals := by
    have := hk.2.2.2.2.2
    rw [hfr, hlc]
    show d' + 1 ≤ d ∧ 8 + (cm.2.2.1 + 11) + 60 * d' ≤ 60 * d
    omega
  have hstk : st0.map (ab_cv as) = (av.map (ab_cv as)).reverse ++ Value.ref (as o) :: st.map (ab_cv as) := by rw [h0]; simp [ab_cv]
  have hwd : 2 * (F0 m pc ls (st0.map (ab_cv as))).monitorRoom + ((st.map (ab_cv as)).map fun v => v.category).sum ≤ 8 := lv_room (by rw [ab_wsum]; exact hw)
  have hsz : (F0 m pc ls (st0.map (ab_cv as))).locals.size = M.2.2.1 := by obtain ⟨-, lv, z, -⟩ := hl; exact z.1
  have hkc := callB_of (R := R) (rm := ab_rm d' mc ms) (mc := mc) (ms := ms) (own := M.1.cls) (index := idx) (y := cm.1) (bytes := cm.2.1) (maxL := cm.2.2.1) (ret := cm.2.2.2) (ws := ab_ws G cm) (ws' := G.2.1) av.length ht (ab_kgood hk) rfl rfl rfl (ht _ (List.mem_cons_of_mem _ hk.2.2.1))
  have hkn := fun host => va_cnB (R := R) (rm := ab_rm d' mc ms) (mc := mc) (ms := ms) (own := M.1.cls) (index := idx) (host := host) (y := cm.1) (bytes := cm.2.1) (maxL := cm.2.2.1) (ret := cm.2.2.2) (ws := ab_ws G cm) (ws' := G.2.1) av.length ht (ab_kgood hk) rfl rfl rfl
  rw [hst.2.2] at hkc hkn
  rcases hk.2.2.2.1 with hlk | ⟨h, hlk⟩
  · exact va_runI ⟨hx, hb, hml, ho, ht⟩ hM ⟨hkc (ht _ (List.mem_cons_of_mem _ hlk)) hk.2.2.2.2.1 hrm, hst.2.1, ht _ (List.mem_cons_of_mem _ hst.1)⟩ hpre rfl (List.length_map ..) hsz hstk hwd hd ⟨by omega, by omega⟩
  · exact va_runIN ⟨hx, hb, hml, ho, ht⟩ hM ⟨hkn h (hC.2.2.1 _ hlk) (ht _ (List.mem_cons_of_mem _ hk.2.2.1)) hk.2.2.2.2.1 hrm, hst.2.1, ht _ (List.mem_cons_of_mem _ hst.1)⟩ hpre rfl (List.length_map ..) hsz hstk hwd hd ⟨by omega, by omega⟩
end EVD
end
section
/-! rules: cells that are made, copies, string constants -/
section EVE
variable {G : ab_G} {rs : List String} {M : ab_M} {d bc bs pc : Nat} {l : ab_L} {st : List ab_V} {w : ab_W} {Q : Option ab_V → ab_W → Prop}
theorem ab_grow {E : ab_E} {pc' : Nat} (hlt : w.length < ab_sb) (hW : ab_okW w) (hE : ab_okE w.length E) (hL : ab_okL w.length l) (hSt : ab_okS w.length st) (kk : ab_Ev G rs M d bc bs pc' l (.inr (.inr (some w.length)) :: st) (w ++ [E]) Q)
    {p : Program} {la : Launch} {e : Env} {R : Room} {s : State} {m : MethodId} {args : Array Value} {below : List Frame} {meth : Method} {c : Code} {locs : List Loc} {cells slots : Nat} {D : va_G} {dA : Nat → ClassId} {aK aV as : Nat → Nat} {A : Nat → Prop} {ls : Array Slot} {Qc : Array Value → State → Outcome → State → Prop} {free : Addr → Prop}
    (hF : ab_Fx G rs M d p R s m args meth c D dA aK aV A) (hs : ∀ i, i < G.2.2.2.2.1.length → as (ab_sb + i) = aK i) (hl : ab_lo as ls M.2.2.1 l) (hR : ab_Rt G s args D dA as A w Q Qc free) (h1 : cells + bc ≤ R.cells) (h2 : slots + bs ≤ R.slots)
    {q : Nat} {H1 : Heap} (hP1 : va_P D G.1 (ab_cw dA as w ++ [(q, ab_ce dA as E)]) H1) (hD1 : va_D A (ab_cw dA as w ++ [(q, ab_ce dA as E)])) (hS1 : va_S A s.heap H1 locs) :
    W p la e R s m args below meth c H1 locs cells slots (MQ below Qc args s R.cells R.slots free) (F0 m pc' ls (.ref q :: st.map (ab_cv as))) := by
  obtain ⟨as1, has⟩ : ∃ as1 : Nat → Nat, as1 = fun i => if i = w.length then q else as i := ⟨_, rfl⟩
  have ha : ∀ i, (i < w.length ∨ ab_sb ≤ i) → as1 i = as i := by
    intro i hi
    rw [has]
    exact if_neg (by omega)
  have hq : as1 w.length = q := by rw [has]; exact if_pos rfl
  have ew : ab_cw dA as1 (w ++ [E]) = ab_cw dA as w ++ [(q, ab_ce dA as E)] := by
    rw [ab_cw_push hW ha, hq, ab_ok_ce hE ha]
  have hR1 : ab_Rt G s args D dA as1 A (w ++ [E]) Q Qc free := by
    intro r' w' as' H' locs' g1 g2 g3 g4 g5 g6 g7
    rw [List.length_append, List.length_singleton] at g2 g3 g4
    refine hR r' w' as' H' locs' g1 (by omega) (fun i hi => ?_) (fun z => by omega) g5 g6 g7
    rw [g3 i (by omega), ha i hi]
  have k := kk p la e R s m args below meth c H1 locs cells slots D dA aK aV as1 A ls Qc free hF (fun i hi => by rw [ha _ (Or.inr (Nat.le_add_right _ _))]; exact hs i hi) (by rw [ew]; exact hP1) (by rw [ew]; exact hD1) hS1 (ab_ok_lo hL ha hl) h1 h2 hR1
  have es : (Sum.inr (Sum.inr (some w.length)) :: st : List ab_V).map (ab_cv as1) = Value.ref q :: st.map (ab_cv as) := by
    rw [List.map_cons, ab_ok_map hSt ha]
    show Value.ref (as1 w.length) :: _ = _
    rw [hq]
  rw [es] at k
  exact k
/-- a class's words for new -/
def ab_nw (G : ab_G) (own : String) (idx ci N : Nat) (fs : List ab_V) : Prop := ∃ (C : String) (T : u_T) (ty0 : Nat → FieldType), G.1[ci]? = some (C, T, N) ∧ (∀ x ∈ u_ws C T N, x ∈ G.2.1) ∧ (∀ j, j < N → parseFieldDescriptor (T j).2.2.1 = some (ty0 j)) ∧ Cond.classLink own idx C ∈ G.2.1 ∧ Cond.instantiable C N ∈ G.2.1 ∧ Cond.initialized C ∈ G.2.1 ∧ (∀ (as : Nat → Nat) (j : Nat), j < N → defaultValue (ty0 j) = vp_V (fs.map (ab_cv as)) j)
theorem ev_new {idx ci N : Nat} {fs : List ab_V} (hd : decode M.2.1 pc = .ok (.new idx, 3)) (hn : ab_nw G M.1.cls idx ci N fs) (hlt : w.length < ab_sb) (hW : ab_okW w) (hE : ab_okS w.length fs) (hL : ab_okL w.length l) (hSt : ab_okS w.length st) (kk : ab_Ev G rs M d bc bs (pc + 3) l (.inr (.inr (some w.length)) :: st) (w ++ [ab_ob ci fs]) Q) : ab_Ev G rs M d (bc + 1) (bs + N) pc l st w Q := by
  intro p la e R s m args below meth c H locs cells slots D dA aK aV as A ls Qc free hF hs hP hD hS hl h1 h2 hR
  have hF' := hF
  obtain ⟨hx, hb, hml, -, -, ho, -, ht, hfr, hlc, hC, hA⟩ := hF'
  obtain ⟨C, T, ty0, g1, g2, g3, g4, g5, g6, g7⟩ := hn
  exact va_new hx hb ht (fun x hx => List.mem_cons_of_mem _ (g2 x hx)) ty0 g3 ho (ht _ (List.mem_cons_of_mem _ g4)) (ht _ (List.mem_cons_of_mem _ g5)) (ht _ (List.mem_cons_of_mem _ g6)) hC.1 hP hD hS hA g1 (fs := fs.map (ab_cv as)) (g7 as) (by omega) (by omega) hd (fun q H1 hP1 hD1 hS1 => ab_grow (E := ab_ob ci fs) hlt hW hE hL hSt kk hF hs hl hR (by omega) (by omega) hP1 hD1 hS1)
theorem ev_newai {n : Int} (hd : decode M.2.1 pc = .ok (.newarray .int, 2)) (hc : Cond.arrayClass .int ∈ G.2.1) (h0 : 0 ≤ n) (hn : n ≤ 100000) (hlt : w.length < ab_sb) (hW : ab_okW w) (hL : ab_okL w.length l) (hSt : ab_okS w.length st) (kk : ab_Ev G rs M d bc bs (pc + 2) l (.inr (.inr (some w.length)) :: st) (w ++ [ab_ai 0 n.toNat (fun _ => 0)]) Q) : ab_Ev G rs M d (bc + 1) (bs + n.toNat) pc l (.inl n :: st) w Q := by
  intro p la e R s m args below meth c H locs cells slots D dA aK aV as A ls Qc free hF hs hP hD hS hl h1 h2 hR
  have hF' := hF
  obtain ⟨hx, hb, hml, -, -, ho, -, ht, hfr, hlc, hC, hA⟩ := hF'
  have hi : ab_in n := by omega
  refine va_newa (atype := .int) (ty := .int) (N' := n.toNat) (a0 := (n.toNat, .inl (fun _ => 0))) hx hb (ht _ (List.mem_cons_of_mem _ hc)) rfl hC.1 hP hD hS hA (fun _ => rfl) (fun z => ?_) (ab_tn hi) ?_ (by omega) (by omega) hd (fun q cA H1 hK1 hP1 hD1 hS1 => ?_)
  · have z2 : Int32.ofInt n < Int32.ofInt 0 := z
    rw [ab_lt hi ab_in0] at z2
    omega
  · have : componentBytes .int ≤ 8 := by decide
    have := Nat.mul_le_mul (show n.toNat ≤ 100000 by omega) this
    omega
  · have e1 : cA = dA 0 := by
      have r1 := (hK1.2 (ab_ty G rs dA).length (cA, .int) (by rw [List.getElem?_append_right (Nat.le_refl _), Nat.sub_self]; rfl)).2
      have r2 := (hC.1.2 0 (dA 0, .int) rfl).2
      exact Option.some.inj (Eq.trans (Eq.symm r1) r2)
    subst e1
    exact ab_grow (E := ab_ai 0 n.toNat (fun _ => 0)) hlt hW trivial hL hSt kk hF hs hl hR (by omega) (by omega) hP1 hD1 hS1
theorem ev_newab {n : Int} (hd : decode M.2.1 pc = .ok (.newarray .byte, 2)) (hc : Cond.arrayClass .byte ∈ G.2.1) (h0 : 0 ≤ n) (hn : n ≤ 100000) (hlt : w.length < ab_sb) (hW : ab_okW w) (hL : ab_okL w.length l) (hSt : ab_okS w.length st) (kk : ab_Ev G rs M d bc bs (pc + 2) l (.inr (.inr (some w.length)) :: st) (w ++ [ab_ai 1 n.toNat (fun _ => 0)]) Q) : ab_Ev G rs M d (bc + 1) (bs + n.toNat) pc l (.inl n :: st) w Q := by
  intro p la e R s m args below meth c H locs cells slots D dA aK aV as A ls Qc free hF hs hP hD hS hl h1 h2 hR
  have hF' := hF
  obtain ⟨hx, hb, hml, -, -, ho, -, ht, hfr, hlc, hC, hA⟩ := hF'
  have hi : ab_in n := by omega
  refine va_newa (atype := .byte) (ty := .byte) (N' := n.toNat) (a0 := (n.toNat, .inl (fun _ => 0))) hx hb (ht _ (List.mem_cons_of_mem _ hc)) rfl hC.1 hP hD hS hA (fun _ => rfl) (fun z => ?_) (ab_tn hi) ?_ (by omega) (by omega) hd (fun q cA H1 hK1 hP1 hD1 hS1 => ?_)
  · have z2 : Int32.ofInt n < Int32.ofInt 0 := z
    rw [ab_lt hi ab_in0] at z2
    omega
  · have : componentBytes .byte ≤ 8 := by decide
    have := Nat.mul_le_mul (show n.toNat ≤ 100000 by omega) this
    omega
  · have e1 : cA = dA 1 := by
      have r1 := (hK1.2 (ab_ty G rs dA).length (cA, .byte) (by rw [List.getElem?_append_right (Nat.le_refl _), Nat.sub_self]; rfl)).2
      have r2 := (hC.1.2 1 (dA 1, .byte) rfl).2
      exact Option.some.inj (Eq.trans (Eq.symm r1) r2)
    subst e1
    exact ab_grow (E := ab_ai 1 n.toNat (fun _ => 0)) hlt hW trivial hL hSt kk hF hs hl hR (by omega) (by omega) hP1 hD1 hS1
theorem ev_newaz {n : Int} (hd : decode M.2.1 pc = .ok (.newarray .boolean, 2)) (hc : Cond.arrayClass .boolean ∈ G.2.1) (h0 : 0 ≤ n) (hn : n ≤ 100000) (hlt : w.length < ab_sb) (hW : ab_okW w) (hL : ab_okL w.length l) (hSt : ab_okS w.length st) (kk : ab_Ev G rs M d bc bs (pc + 2) l (.inr (.inr (some w.length)) :: st) (w ++ [ab_ai 2 n.toNat (fun _ => 0)]) Q) : ab_Ev G rs M d (bc + 1) (bs + n.toNat) pc l (.inl n :: st) w Q := by
  intro p la e R s m args below meth c H locs cells slots D dA aK aV as A ls Qc free hF hs hP hD hS hl h1 h2 hR
  have hF' := hF
  obtain ⟨hx, hb, hml, -, -, ho, -, ht, hfr, hlc, hC, hA⟩ := hF'
  have hi : ab_in n := by omega
  refine va_newa (atype := .boolean) (ty := .boolean) (N' := n.toNat) (a0 := (n.toNat, .inl (fun _ => 0))) hx hb (ht _ (List.mem_cons_of_mem _ hc)) rfl hC.1 hP hD hS hA (fun _ => rfl) (fun z => ?_) (ab_tn hi) ?_ (by omega) (by omega) hd (fun q cA H1 hK1 hP1 hD1 hS1 => ?_)
  · have z2 : Int32.ofInt n < Int32.ofInt 0 := z
    rw [ab_lt hi ab_in0] at z2
    omega
  · have : componentBytes .boolean ≤ 8 := by decide
    have := Nat.mul_le_mul (show n.toNat ≤ 100000 by omega) this
    omega
  · have e1 : cA = dA 2 := by
      have r1 := (hK1.2 (ab_ty G rs dA).length (cA, .boolean) (by rw [List.getElem?_append_right (Nat.le_refl _), Nat.sub_self]; rfl)).2
      have r2 := (hC.1.2 2 (dA 2, .boolean) rfl).2
      exact Option.some.inj (Eq.trans (Eq.symm r1) r2)
    subst e1
    exact ab_grow (E := ab_ai 2 n.toNat (fun _ => 0)) hlt hW trivial hL hSt kk hF hs hl hR (by omega) (by omega) hP1 hD1 hS1
theorem ev_newal {n : Int} (hd : decode M.2.1 pc = .ok (.newarray .long, 2)) (hc : Cond.arrayClass .long ∈ G.2.1) (h0 : 0 ≤ n) (hn : n ≤ 100000) (hlt : w.length < ab_sb) (hW : ab_okW w) (hL : ab_okL w.length l) (hSt : ab_okS w.length st) (kk : ab_Ev G rs M d bc bs (pc + 2) l (.inr (.inr (some w.length)) :: st) (w ++ [ab_al n.toNat (fun _ => 0)]) Q) : ab_Ev G rs M d (bc + 1) (bs + n.toNat) pc l (.inl n :: st) w Q := by
  intro p la e R s m args below meth c H locs cells slots D dA aK aV as A ls Qc free hF hs hP hD hS hl h1 h2 hR
  have hF' := hF
  obtain ⟨hx, hb, hml, -, -, ho, -, ht, hfr, hlc, hC, hA⟩ := hF'
  have hi : ab_in n := by omega
  refine va_newa (atype := .long) (ty := .long) (N' := n.toNat) (a0 := (n.toNat, .inr (.inl (fun _ => 0)))) hx hb (ht _ (List.mem_cons_of_mem _ hc)) rfl hC.1 hP hD hS hA (fun _ => rfl) (fun z => ?_) (ab_tn hi) ?_ (by omega) (by omega) hd (fun q cA H1 hK1 hP1 hD1 hS1 => ?_)
  · have z2 : Int32.ofInt n < Int32.ofInt 0 := z
    rw [ab_lt hi ab_in0] at z2
    omega
  · have : componentBytes .long ≤ 8 := by decide
    have := Nat.mul_le_mul (show n.toNat ≤ 100000 by omega) this
    omega
  · have e1 : cA = dA 3 := by
      have r1 := (hK1.2 (ab_ty G rs dA).length (cA, .long) (by rw [List.getElem?_append_right (Nat.le_refl _), Nat.sub_self]; rfl)).2
      have r2 := (hC.1.2 3 (dA 3, .long) rfl).2
      exact Option.some.inj (Eq.trans (Eq.symm r1) r2)
    subst e1
    exact ab_grow (E := ab_al n.toNat (fun _ => 0)) hlt hW trivial hL hSt kk hF hs hl hR (by omega) (by omega) hP1 hD1 hS1
theorem ev_newar {n : Int} {idx t : Nat} {C : String} (hd : decode M.2.1 pc = .ok (.anewarray idx, 3)) (hc : Cond.classLink M.1.cls idx C ∈ G.2.1) (hr : rs[t]? = some C) (h0 : 0 ≤ n) (hn : n ≤ 100000) (hlt : w.length < ab_sb) (hW : ab_okW w) (hL : ab_okL w.length l) (hSt : ab_okS w.length st) (kk : ab_Ev G rs M d bc bs (pc + 3) l (.inr (.inr (some w.length)) :: st) (w ++ [ab_ar (4 + t) n.toNat (fun _ => none)]) Q) : ab_Ev G rs M d (bc + 1) (bs + n.toNat) pc l (.inl n :: st) w Q := by
  intro p la e R s m args below meth c H locs cells slots D dA aK aV as A ls Qc free hF hs hP hD hS hl h1 h2 hR
  have hF' := hF
  obtain ⟨hx, hb, hml, -, -, ho, -, ht, hfr, hlc, hC, hA⟩ := hF'
  have hi : ab_in n := by omega
  have hao : va_AO C s := hC.2.2.2.2.2.2 C (List.mem_of_getElem? hr)
  refine va_newq (N' := n.toNat) hx hb ho (ht _ (List.mem_cons_of_mem _ hc)) hao hC.1 hP hD hS hA (fun z => ?_) (ab_tn hi) (by omega) (by omega) (by omega) hd (fun q cA H1 hK1 hP1 hD1 hS1 => ?_)
  · have z2 : Int32.ofInt n < Int32.ofInt 0 := z
    rw [ab_lt hi ab_in0] at z2
    omega
  · have e1 : cA = dA (4 + t) := by
      obtain ⟨k1, c1, -, -, -, r1⟩ := (hK1.2 (ab_ty G rs dA).length (cA, .object C) (by rw [List.getElem?_append_right (Nat.le_refl _), Nat.sub_self]; rfl)).2
      obtain ⟨k2, c2, -, -, -, r2⟩ := (hC.1.2 (4 + t) _ (ab_tyR hr)).2
      exact Option.some.inj (r1.symm.trans r2)
    subst e1
    exact ab_grow (E := ab_ar (4 + t) n.toNat (fun _ => none)) hlt hW (fun _ _ h => by cases h) hL hSt kk hF hs hl hR (by omega) (by omega) hP1 hD1 hS1
theorem ev_objInit {idx o : Nat} (hd : decode M.2.1 pc = .ok (.invokespecial idx, 3)) (hk : Cond.methodLink M.1.cls idx Lib.objectInit ∈ G.2.1 ∧ Cond.instanceMethod Lib.objectInit ∈ G.2.1 ∧ Cond.code Lib.objectInit ⟨#[0xb1]⟩ 1 none ∈ G.2.1) (hw : ab_wd st ≤ 8) (hdd : 1 ≤ d) (kk : ab_Ev G rs M d bc bs (pc + 3) l st w Q) : ab_Ev G rs M d bc bs pc l (.inr (.inr (some o)) :: st) w Q := by
  intro p la e R s m args below meth c H locs cells slots D dA aK aV as A ls Qc free hF hs hP hD hS hl h1 h2 hR
  have kk := kk p la e R s m args below meth c H locs cells slots D dA aK aV as A ls Qc free hF hs hP hD hS hl h1 h2 hR
  obtain ⟨hx, hb, hml, -, -, ho, -, ht, hfr, hlc, hC, hA⟩ := hF
  refine W.objInit hx hb ho (ht _ (List.mem_cons_of_mem _ hk.1)) (ht _ (List.mem_cons_of_mem _ hk.2.1)) (ht _ (List.mem_cons_of_mem _ hk.2.2)) rfl (by rw [hml]; obtain ⟨-, lv, z, -⟩ := hl; exact z.1) (rest := st.map (ab_cv as)) rfl hd (by omega) ?_ kk
  show 2 * 0 + _ + 12 ≤ _
  rw [ab_wsum]
  omega
theorem ab_cpok {f g : Int → Int} {sp dp n : Int} (h0 : 0 ≤ sp) (h1 : 0 ≤ dp) (h2 : 0 ≤ n) : va_cpy (fun k : Nat => Int32.ofInt (f (k : Int))) (fun k : Nat => Int32.ofInt (g (k : Int))) sp.toNat dp.toNat n.toNat = fun k : Nat => Int32.ofInt (ab_cp f g sp dp n (k : Int)) := by
  funext k
  unfold va_cpy ab_cp
  by_cases h : dp.toNat ≤ k ∧ k < dp.toNat + n.toNat
  · rw [if_pos h, if_pos (by omega)]
    have e : ((sp.toNat + (k - dp.toNat) : Nat) : Int) = sp + ((k : Int) - dp) := by omega
    show Int32.ofInt (f ((sp.toNat + (k - dp.toNat) : Nat) : Int)) = _
    rw [e]
  · rw [if_neg h, if_neg (by omega)]
theorem ab_cpokL {f g : Int → Int64} {sp dp n : Int} (h0 : 0 ≤ sp) (h1 : 0 ≤ dp) (h2 : 0 ≤ n) : va_cpy (fun k : Nat => f (k : Int)) (fun k : Nat => g (k : Int)) sp.toNat dp.toNat n.toNat = fun k : Nat => ab_cp f g sp dp n (k : Int) := by
  funext k
  unfold va_cpy ab_cp
  by_cases h : dp.toNat ≤ k ∧ k < dp.toNat + n.toNat
  · rw [if_pos h, if_pos (by omega)]
    have e : ((sp.toNat + (k - dp.toNat) : Nat) : Int) = sp + ((k : Int) - dp) := by omega
    show f ((sp.toNat + (k - dp.toNat) : Nat) : Int) = _
    rw [e]
  · rw [if_neg h, if_neg (by omega)]
def ab_ck (G : ab_G) (own : String) (idx : Nat) : Prop := Cond.methodLink own idx arraycopyName ∈ G.2.1 ∧ Cond.native arraycopyName ∈ G.2.1 ∧ Cond.static arraycopyName ∈ G.2.1 ∧ Cond.initialized "java/lang/System" ∈ G.2.1
theorem ab_ni {a : Int} (h : ab_in a) (h0 : 0 ≤ a) : ¬ Int32.ofInt a < 0 := fun z => by
  have z2 : Int32.ofInt a < Int32.ofInt 0 := z
  rw [ab_lt h ab_in0] at z2
  omega
theorem ev_copyi {idx o1 o2 n1 n2 t : Nat} {f g : Int → Int} {sp dp n : Int} (hd : decode M.2.1 pc = .ok (.invokestatic idx, 3)) (hk : ab_ck G M.1.cls idx) (ht : t < 3) (h1 : w[o1]? = some (ab_ai t n1 f)) (h2 : w[o2]? = some (ab_ai t n2 g)) (h3 : 0 ≤ sp ∧ 0 ≤ dp ∧ 0 ≤ n ∧ sp + n ≤ n1 ∧ dp + n ≤ n2) (hi : ab_in sp ∧ ab_in dp ∧ ab_in n) (hfit : t = 0 ∨ (t = 1 ∧ ∀ k, sp ≤ k → k < sp + n → -128 ≤ f k ∧ f k ≤ 127) ∨ (t = 2 ∧ ∀ k, sp ≤ k → k < sp + n → f k = 0 ∨ f k = 1)) (hw : ab_wd st ≤ 8) (hdd : 1 ≤ d)
    (kk : ab_Ev G rs M d bc bs (pc + 3) l st (w.set o2 (ab_ai t n2 (ab_cp f g sp dp n))) Q) : ab_Ev G rs M d bc bs pc l (.inl n :: .inl dp :: .inr (.inr (some o2)) :: .inl sp :: .inr (.inr (some o1)) :: st) w Q := by
  intro p la e R s m args below meth c H locs cells slots D dA aK aV as A ls Qc free hF hs hP hD hS hl hc1 hc2 hR
  have kk := fun H1 locs1 hP1 hD1 hS1 => kk p la e R s m args below meth c H1 locs1 cells slots D dA aK aV as A ls Qc free hF hs hP1 hD1 hS1 hl hc1 hc2 (hR.len (List.length_set ..))
  obtain ⟨hx, hb, hml, -, -, ho, -, htt, hfr, hlc, hC, hA⟩ := hF
  rw [← ab_cw_set] at kk
  obtain ⟨g1, g2, g3, g4, g5⟩ := h3
  obtain ⟨i1, i2, i3⟩ := hi
  have hty : ∃ ty, (ab_ty G rs dA)[t]? = some (dA t, ty) ∧ refKind ty = false ∧ ∀ i : Nat, i < (Int32.ofInt n).toNatClampNeg → fits ty (.int (Int32.ofInt (f (((Int32.ofInt sp).toNatClampNeg + i : Nat) : Int)))) = true := by
    rw [ab_tn i3, ab_tn i1]
    rcases hfit with rfl | ⟨rfl, hf⟩ | ⟨rfl, hf⟩
    · exact ⟨.int, rfl, rfl, fun i hi => rfl⟩
    · refine ⟨.byte, rfl, rfl, fun i hi => ?_⟩
      have hq := hf (((sp.toNat + i : Nat) : Int)) (by omega) (by omega)
      generalize f (((sp.toNat + i : Nat) : Int)) = z at hq
      have hz : ab_in z := by omega
      have e1 : Int32.ofInt (-128) ≤ Int32.ofInt z := (ab_le (by decide) hz).mpr hq.1
      have e2 : Int32.ofInt z ≤ Int32.ofInt 127 := (ab_le hz (by decide)).mpr hq.2
      show (decide ((-128 : Int32) ≤ Int32.ofInt z) && decide (Int32.ofInt z ≤ (127 : Int32))) = true
      rw [Bool.and_eq_true, decide_eq_true_eq, decide_eq_true_eq]
      exact ⟨e1, e2⟩
    · refine ⟨.boolean, rfl, rfl, fun i hi => ?_⟩
      rcases hf (((sp.toNat + i : Nat) : Int)) (by omega) (by omega) with hq | hq <;> rw [hq] <;> rfl
  obtain ⟨ty, t1, t2, t3⟩ := hty
  refine va_copyi hx hb (by rw [hml]; obtain ⟨-, lv, z, -⟩ := hl; exact z.1.symm) ho (htt _ (List.mem_cons_of_mem _ hk.1)) (htt _ (List.mem_cons_of_mem _ hk.2.1)) (htt _ (List.mem_cons_of_mem _ hk.2.2.1)) (htt _ (List.mem_cons_of_mem _ hk.2.2.2)) hC.1 hP hD hS o1 o2 t t (ab_cw_get h1) (ab_cw_get h2) t1 t1 t2 (ab_ni i1 g1) (ab_ni i2 g2) (ab_ni i3 g3) (by rw [ab_tn i1, ab_tn i3]; omega) (by rw [ab_tn i2, ab_tn i3]; omega) t3 (by omega) ?_ hd ?_
  · rw [ab_wsum]
    have : nativeFrameWords "java/lang/System" "arraycopy" 5 + 11 ≤ 40 := by decide
    omega
  · rw [ab_tn i1, ab_tn i2, ab_tn i3, ab_cpok g1 g2 g3]
    exact kk
theorem ev_copyl {idx o1 o2 n1 n2 : Nat} {f g : Int → Int64} {sp dp n : Int} (hd : decode M.2.1 pc = .ok (.invokestatic idx, 3)) (hk : ab_ck G M.1.cls idx) (h1 : w[o1]? = some (ab_al n1 f)) (h2 : w[o2]? = some (ab_al n2 g)) (h3 : 0 ≤ sp ∧ 0 ≤ dp ∧ 0 ≤ n ∧ sp + n ≤ n1 ∧ dp + n ≤ n2) (hi : ab_in sp ∧ ab_in dp ∧ ab_in n) (hw : ab_wd st ≤ 8) (hdd : 1 ≤ d)
    (kk : ab_Ev G rs M d bc bs (pc + 3) l st (w.set o2 (ab_al n2 (ab_cp f g sp dp n))) Q) : ab_Ev G rs M d bc bs pc l (.inl n :: .inl dp :: .inr (.inr (some o2)) :: .inl sp :: .inr (.inr (some o1)) :: st) w Q := by
  intro p la e R s m args below meth c H locs cells slots D dA aK aV as A ls Qc free hF hs hP hD hS hl hc1 hc2 hR
  have kk := fun H1 locs1 hP1 hD1 hS1 => kk p la e R s m args below meth c H1 locs1 cells slots D dA aK aV as A ls Qc free hF hs hP1 hD1 hS1 hl hc1 hc2 (hR.len (List.length_set ..))
  obtain ⟨hx, hb, hml, -, -, ho, -, htt, hfr, hlc, hC, hA⟩ := hF
  rw [← ab_cw_set] at kk
  obtain ⟨g1, g2, g3, g4, g5⟩ := h3
  obtain ⟨i1, i2, i3⟩ := hi
  refine va_copyl hx hb (by rw [hml]; obtain ⟨-, lv, z, -⟩ := hl; exact z.1.symm) ho (htt _ (List.mem_cons_of_mem _ hk.1)) (htt _ (List.mem_cons_of_mem _ hk.2.1)) (htt _ (List.mem_cons_of_mem _ hk.2.2.1)) (htt _ (List.mem_cons_of_mem _ hk.2.2.2)) hC.1 hP hD hS o1 o2 3 3 (ab_cw_get h1) (ab_cw_get h2) (ty := .long) rfl rfl rfl (ab_ni i1 g1) (ab_ni i2 g2) (ab_ni i3 g3) (by rw [ab_tn i1, ab_tn i3]; omega) (by rw [ab_tn i2, ab_tn i3]; omega) (fun _ _ => rfl) (by omega) ?_ hd ?_
  · rw [ab_wsum]
    have : nativeFrameWords "java/lang/System" "arraycopy" 5 + 11 ≤ 40 := by decide
    omega
  · rw [ab_tn i1, ab_tn i2, ab_tn i3, ab_cpokL g1 g2 g3]
    exact kk
theorem ev_ldcS {idx k : Nat} {tx : String} (hd : decode M.2.1 pc = .ok (.ldc idx, 2)) (hq : (M.1.cls, idx, tx, k) ∈ G.2.2.2.1) (hk : k < G.2.2.2.2.1.length) (kk : ab_Ev G rs M d bc bs (pc + 2) l (.inr (.inr (some (ab_sb + k))) :: st) w Q) : ab_Ev G rs M d bc bs pc l st w Q := by
  intro p la e R s m args below meth c H locs cells slots D dA aK aV as A ls Qc free hF hs hP hD hS hl h1 h2 hR
  have kk := kk p la e R s m args below meth c H locs cells slots D dA aK aV as A ls Qc free hF hs hP hD hS hl h1 h2 hR
  obtain ⟨hx, hb, hml, -, -, ho, -, ht, hfr, hlc, hC, hA⟩ := hF
  have hv := hC.2.2.2.2.1 _ hq
  dsimp only at hv
  rw [← hs k hk] at hv
  exact va_ldcS hx hb ho hv hd kk
end EVE
end
