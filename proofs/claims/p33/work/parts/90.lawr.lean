/-! the law's walk: a judgement with the script beside the world; its end is 1 on the stack -/
def ab_wl (G : ab_G) : List Cond := G.2.1
def ab_Fl (G : ab_G) (rs : List String) (M : ab_M) (d : Nat) (p : Program) (R : Room) (s : State) (m : MethodId) (args : Array Value) (meth : Method) (c : Code) (D : va_G) (dA : Nat → ClassId) (aK aV : Nat → Nat) (A : Nat → Prop) : Prop :=
  p.tables.exec = Jvm.exec ∧ c.code = M.2.1 ∧ c.maxLocals = M.2.2.1 ∧ True ∧ True ∧ s.vm.findClass M.1.cls = some m.cls ∧ True ∧ (∀ x ∈ ab_wl G, x.before args s = true) ∧ d ≤ R.frames ∧ 60 * d ≤ R.locals ∧ ab_Cx G rs D dA aK aV A s s.heap ∧ ∀ q, s.heap.size ≤ q → A q
def ab_Xs (b L : Nat) (xs : Nat → Int32) (G : ab_G) (aK aV as : Nat → Nat) (s : State) (A : Nat → Prop) : Prop := ab_hs G aK aV as ∧ as (ab_sb + 1000) = b ∧ va_X b L xs s s.heap ∧ b < s.heap.size ∧ ¬ A b
def ab_Ex (b L : Nat) (xs : Nat → Int32) (G : ab_G) (rs : List String) (M : ab_M) (d bc bs : Nat) (pc : Nat) (l : ab_L) (st : List ab_V) (w : ab_W) (_ : Unit) : Prop :=
  ∀ (p : Program) (la : Launch) (e : Env) (R : Room) (s : State) (m : MethodId) (args : Array Value) (below : List Frame) (meth : Method) (c : Code) (H : Heap) (locs : List Loc) (cells slots : Nat) (D : va_G) (dA : Nat → ClassId) (aK aV as : Nat → Nat) (A : Nat → Prop) (ls : Array Slot) (Qz : State → Prop),
    ab_Fl G rs M d p R s m args meth c D dA aK aV A → ab_Xs b L xs G aK aV as s A → va_P D G.1 (ab_cw dA as w) H → va_D A (ab_cw dA as w) → va_S A s.heap H locs → ab_lo as ls M.2.2.1 l → cells + bc ≤ R.cells → slots + bs ≤ R.slots →
    (∀ (pc : Nat) (ls : Array Slot) (H : Heap) (locs : List Loc) (cells slots : Nat), decode M.2.1 pc = .ok (.ireturn, 1) → va_S A s.heap H locs → cells ≤ R.cells → slots ≤ R.slots → W p la e R s m args below meth c H locs cells slots Qz (F0 m pc ls [.int 1])) →
    W p la e R s m args below meth c H locs cells slots Qz (F0 m pc ls (st.map (ab_cv as)))
section EXA
variable {b L : Nat} {xs : Nat → Int32} {G : ab_G} {rs : List String} {M : ab_M} {d bc bs pc : Nat} {l l' : ab_L} {st : List ab_V} {w w' : ab_W} {Q : Unit}
theorem ex_top {a c : ab_V} (h : a = c) (k : ab_Ex b L xs G rs M d bc bs pc l (c :: st) w Q) : ab_Ex b L xs G rs M d bc bs pc l (a :: st) w Q := by rw [h]; exact k
theorem ex_world (h : w = w') (k : ab_Ex b L xs G rs M d bc bs pc l st w' Q) : ab_Ex b L xs G rs M d bc bs pc l st w Q := by rw [h]; exact k
theorem ax_go {pc' : Nat} {st st' : List ab_V}
    (h : ∀ {p : Program} {la : Launch} {e : Env} {R : Room} {s : State} {m : MethodId} {args : Array Value} {below : List Frame} {meth : Method} {c : Code} {H : Heap} {locs : List Loc} {cells slots : Nat} {Qz : State → Prop} {ls : Array Slot} (as : Nat → Nat), p.tables.exec = Jvm.exec → c.code = M.2.1 → s.vm.findClass M.1.cls = some m.cls → (∀ x ∈ ab_wl G, x.before args s = true) → ab_lo as ls M.2.2.1 l →
      W p la e R s m args below meth c H locs cells slots Qz (F0 m pc' ls (st'.map (ab_cv as))) → W p la e R s m args below meth c H locs cells slots Qz (F0 m pc ls (st.map (ab_cv as))))
    (k : ab_Ex b L xs G rs M d bc bs pc' l st' w Q) : ab_Ex b L xs G rs M d bc bs pc l st w Q := by
  intro p la e R s m args below meth c H locs cells slots D dA aK aV as A ls Qz hF hs hP hD hS hl h1 h2 hR
  exact h as hF.1 hF.2.1 hF.2.2.2.2.2.1 hF.2.2.2.2.2.2.2.1 hl (k p la e R s m args below meth c H locs cells slots D dA aK aV as A ls Qz hF hs hP hD hS hl h1 h2 hR)
theorem ax_go2 {pc1 pc2 : Nat} {st st' : List ab_V} {C : Prop}
    (h : ∀ {p : Program} {la : Launch} {e : Env} {R : Room} {s : State} {m : MethodId} {args : Array Value} {below : List Frame} {meth : Method} {c : Code} {H : Heap} {locs : List Loc} {cells slots : Nat} {Qz : State → Prop} {ls : Array Slot} (as : Nat → Nat), p.tables.exec = Jvm.exec → c.code = M.2.1 →
      (C → W p la e R s m args below meth c H locs cells slots Qz (F0 m pc1 ls (st'.map (ab_cv as)))) → (¬ C → W p la e R s m args below meth c H locs cells slots Qz (F0 m pc2 ls (st'.map (ab_cv as)))) → W p la e R s m args below meth c H locs cells slots Qz (F0 m pc ls (st.map (ab_cv as))))
    (k1 : C → ab_Ex b L xs G rs M d bc bs pc1 l st' w Q) (k2 : ¬ C → ab_Ex b L xs G rs M d bc bs pc2 l st' w Q) : ab_Ex b L xs G rs M d bc bs pc l st w Q := by
  intro p la e R s m args below meth c H locs cells slots D dA aK aV as A ls Qz hF hs hP hD hS hl h1 h2 hR
  exact h as hF.1 hF.2.1 (fun q => k1 q p la e R s m args below meth c H locs cells slots D dA aK aV as A ls Qz hF hs hP hD hS hl h1 h2 hR) (fun q => k2 q p la e R s m args below meth c H locs cells slots D dA aK aV as A ls Qz hF hs hP hD hS hl h1 h2 hR)
theorem ax_gol {pc' : Nat} {st st' : List ab_V}
    (h : ∀ {p : Program} {la : Launch} {e : Env} {R : Room} {s : State} {m : MethodId} {args : Array Value} {below : List Frame} {meth : Method} {c : Code} {H : Heap} {locs : List Loc} {cells slots : Nat} {Qz : State → Prop} {ls : Array Slot} (as : Nat → Nat), p.tables.exec = Jvm.exec → c.code = M.2.1 → ab_lo as ls M.2.2.1 l →
      (∀ ls' : Array Slot, ab_lo as ls' M.2.2.1 l' → W p la e R s m args below meth c H locs cells slots Qz (F0 m pc' ls' (st'.map (ab_cv as)))) → W p la e R s m args below meth c H locs cells slots Qz (F0 m pc ls (st.map (ab_cv as))))
    (k : ab_Ex b L xs G rs M d bc bs pc' l' st' w Q) : ab_Ex b L xs G rs M d bc bs pc l st w Q := by
  intro p la e R s m args below meth c H locs cells slots D dA aK aV as A ls Qz hF hs hP hD hS hl h1 h2 hR
  exact h as hF.1 hF.2.1 hl (fun ls' hl' => k p la e R s m args below meth c H locs cells slots D dA aK aV as A ls' Qz hF hs hP hD hS hl' h1 h2 hR)
theorem ex_iconst {n : Int} (hd : decode M.2.1 pc = .ok (.iconst n, 1)) (k : ab_Ex b L xs G rs M d bc bs (pc + 1) l (.inl n :: st) w Q) : ab_Ex b L xs G rs M d bc bs pc l st w Q := ax_go (fun _ hx hb _ _ _ kk => lv_iconst hx hb hd rfl kk) k
theorem ex_bipush {n : Int} (hd : decode M.2.1 pc = .ok (.bipush n, 2)) (hn : (Int8.ofInt n).toInt32 = Int32.ofInt n) (k : ab_Ex b L xs G rs M d bc bs (pc + 2) l (.inl n :: st) w Q) : ab_Ex b L xs G rs M d bc bs pc l st w Q := ax_go (fun _ hx hb _ _ _ kk => lv_bipush hx hb hd hn kk) k
theorem ex_iload_n {k : Fin 4} {i : Nat} {a : Int} (hd : decode M.2.1 pc = .ok (.iload_n k, 1)) (hi : (k : Nat) = i) (hl : l[i]? = some (some (.inl a))) (kk : ab_Ex b L xs G rs M d bc bs (pc + 1) l (.inl a :: st) w Q) : ab_Ex b L xs G rs M d bc bs pc l st w Q := ax_go (fun _ hx hb _ _ hL kk => lv_iload_n hx hb hd hi (hL.at hl) kk) kk
theorem ex_aload_n {k : Fin 4} {i : Nat} {a : Nat} (hd : decode M.2.1 pc = .ok (.aload_n k, 1)) (hi : (k : Nat) = i) (hl : l[i]? = some (some (.inr (.inr (some a))))) (kk : ab_Ex b L xs G rs M d bc bs (pc + 1) l (.inr (.inr (some a)) :: st) w Q) : ab_Ex b L xs G rs M d bc bs pc l st w Q := ax_go (fun _ hx hb _ _ hL kk => lv_aload_n hx hb hd hi (hL.at hl) kk) kk
theorem ex_iadd {a c : Int} (hd : decode M.2.1 pc = .ok (.iadd, 1)) (k : ab_Ex b L xs G rs M d bc bs (pc + 1) l (.inl (a + c) :: st) w Q) : ab_Ex b L xs G rs M d bc bs pc l (.inl c :: .inl a :: st) w Q := ax_go (fun _ hx hb _ _ _ kk => lv_iadd hx hb hd (by rw [← Int32.ofInt_add]; exact kk)) k
theorem ex_isub {a c : Int} (hd : decode M.2.1 pc = .ok (.isub, 1)) (k : ab_Ex b L xs G rs M d bc bs (pc + 1) l (.inl (a - c) :: st) w Q) : ab_Ex b L xs G rs M d bc bs pc l (.inl c :: .inl a :: st) w Q := ax_go (fun _ hx hb _ _ _ kk => lv_isub hx hb hd (by rw [← Int32.ofInt_sub]; exact kk)) k
theorem ex_iand {a c : Int} (hd : decode M.2.1 pc = .ok (.iand, 1)) (k : ab_Ex b L xs G rs M d bc bs (pc + 1) l (.inl (ab_iand a c) :: st) w Q) : ab_Ex b L xs G rs M d bc bs pc l (.inl c :: .inl a :: st) w Q := ax_go (fun _ hx hb _ _ _ kk => lv_iand hx hb hd (by rw [← ab_of (Int32.ofInt a &&& Int32.ofInt c)]; exact kk)) k
theorem ex_dup {v : ab_V} (hd : decode M.2.1 pc = .ok (.dup, 1)) (hv : ab_c1 v = true) (k : ab_Ex b L xs G rs M d bc bs (pc + 1) l (v :: v :: st) w Q) : ab_Ex b L xs G rs M d bc bs pc l (v :: st) w Q := ax_go (fun _ hx hb _ _ _ kk => lv_dup hx hb hd (ab_cat hv) kk) k
theorem ex_pop {v : ab_V} (hd : decode M.2.1 pc = .ok (.pop, 1)) (hv : ab_c1 v = true) (k : ab_Ex b L xs G rs M d bc bs (pc + 1) l st w Q) : ab_Ex b L xs G rs M d bc bs pc l (v :: st) w Q := ax_go (fun _ hx hb _ _ _ kk => lv_pop hx hb hd (ab_cat hv) kk) k
theorem ex_goto {off : Int} {tgt : Nat} (hd : decode M.2.1 pc = .ok (.goto off, 3)) (ht : (pc : Int) + off = (tgt : Int)) (k : ab_Ex b L xs G rs M d bc bs tgt l st w Q) : ab_Ex b L xs G rs M d bc bs pc l st w Q := ax_go (fun _ hx hb _ _ _ kk => lv_goto hx hb hd ht kk) k
theorem ex_icmp_gt {a c : Int} {off : Int} {tgt : Nat} (hd : decode M.2.1 pc = .ok (.if_icmp .gt off, 3)) (ht : (pc : Int) + off = (tgt : Int)) (ha : ab_in a) (hb : ab_in c) (k1 : c < a → ab_Ex b L xs G rs M d bc bs tgt l st w Q) (k2 : ¬ (c < a) → ab_Ex b L xs G rs M d bc bs (pc + 3) l st w Q) : ab_Ex b L xs G rs M d bc bs pc l (.inl c :: .inl a :: st) w Q := ax_go2 (fun _ hx hc q1 q2 => lv_icmp_gt hx hc hd ht (fun h => q1 ((ab_lt hb ha).mp h)) (fun h => q2 (fun z => h ((ab_lt hb ha).mpr z)))) k1 k2
theorem ex_if_eq {a : Int} {off : Int} {tgt : Nat} (hd : decode M.2.1 pc = .ok (.ifCond .eq off, 3)) (ht : (pc : Int) + off = (tgt : Int)) (ha : ab_in a) (k1 : a = 0 → ab_Ex b L xs G rs M d bc bs tgt l st w Q) (k2 : ¬ (a = 0) → ab_Ex b L xs G rs M d bc bs (pc + 3) l st w Q) : ab_Ex b L xs G rs M d bc bs pc l (.inl a :: st) w Q := ax_go2 (fun _ hx hc q1 q2 => lv_if_eq hx hc hd ht (fun h => q1 ((ab_eq ha ab_in0).mp h)) (fun h => q2 (fun z => h ((ab_eq ha ab_in0).mpr z)))) k1 k2
theorem ex_tableIn {dflt lo hi : Int} {offs : Array Int} {len : Nat} {a off : Int} {tgt : Nat} (hd : decode M.2.1 pc = .ok (.tableswitch dflt lo hi offs, len)) (ha : ab_in a) (h1 : ¬ a < lo) (h2 : ¬ hi < a) (ho : offs[(a - lo).toNat]? = some off) (ht : (pc : Int) + off = (tgt : Int)) (k : ab_Ex b L xs G rs M d bc bs tgt l st w Q) : ab_Ex b L xs G rs M d bc bs pc l (.inl a :: st) w Q := ax_go (fun _ hx hb _ _ _ kk => lv_tableIn hx hb hd (by rw [ab_ti ha]; exact h1) (by rw [ab_ti ha]; exact h2) (by rw [ab_ti ha]; exact ho) ht kk) k
theorem ex_istore_n {k : Fin 4} {i : Nat} {a : Int} (hd : decode M.2.1 pc = .ok (.istore_n k, 1)) (hi : (k : Nat) = i) (hn : i < l.length) (hl : ab_s1 l i (.inl a) = l') (kk : ab_Ex b L xs G rs M d bc bs (pc + 1) l' st w Q) : ab_Ex b L xs G rs M d bc bs pc l (.inl a :: st) w Q := ax_gol (fun _ hx hb hL kk => by
  obtain ⟨h1, lv, h2, h3⟩ := hL
  subst hl
  exact lv_istore_n hx hb hd hi h2 (by omega) rfl (fun ls' h' => kk ls' (ab_lo_s1 h1 h3 h'))) kk
theorem ex_astore_n {k : Fin 4} {i : Nat} {a : Nat} (hd : decode M.2.1 pc = .ok (.astore_n k, 1)) (hi : (k : Nat) = i) (hn : i < l.length) (hl : ab_s1 l i (.inr (.inr (some a))) = l') (kk : ab_Ex b L xs G rs M d bc bs (pc + 1) l' st w Q) : ab_Ex b L xs G rs M d bc bs pc l (.inr (.inr (some a)) :: st) w Q := ax_gol (fun _ hx hb hL kk => by
  obtain ⟨h1, lv, h2, h3⟩ := hL
  subst hl
  exact lv_astore_n hx hb hd hi h2 (by omega) rfl (fun ls' h' => kk ls' (ab_lo_s1 h1 h3 h'))) kk
theorem ex_iinc {i : Nat} {n a : Int} (hd : decode M.2.1 pc = .ok (.iinc i n, 3)) (hi : l[i]? = some (some (.inl a))) (hl : ab_s1 l i (.inl (a + n)) = l') (kk : ab_Ex b L xs G rs M d bc bs (pc + 3) l' st w Q) : ab_Ex b L xs G rs M d bc bs pc l st w Q := ax_gol (fun as hx hb hL kk => by
  obtain ⟨h1, lv, h2, h3⟩ := hL
  subst hl
  have hm := h3 i _ hi
  obtain ⟨k, hk⟩ := List.getElem?_of_mem hm
  have hlt : i < l.length := (List.getElem?_eq_some_iff.mp hi).1
  exact lv_iinc hx hb hd h2 hk (Int32.ofInt_add a n).symm (by omega) rfl (fun ls' h' => kk ls' (ab_lo_s1 h1 h3 h'))) kk
theorem ex_ireturn (hd : decode M.2.1 pc = .ok (.ireturn, 1)) : ab_Ex b L xs G rs M d bc bs pc l [.inl 1] w Q := by
  intro p la e R s m args below meth c H locs cells slots D dA aK aV as A ls Qz hF hs hP hD hS hl h1 h2 hR
  exact hR pc ls H locs cells slots hd hS (by omega) (by omega)
theorem ex_slen (hd : decode M.2.1 pc = .ok (.arraylength, 1)) (kk : ab_Ex b L xs G rs M d bc bs (pc + 1) l (.inl (L : Int) :: st) w Q) : ab_Ex b L xs G rs M d bc bs pc l (.inr (.inr (some (ab_sb + 1000))) :: st) w Q := by
  intro p la e R s m args below meth c H locs cells slots D dA aK aV as A ls Qz hF hs hP hD hS hl h1 h2 hR
  have k := kk p la e R s m args below meth c H locs cells slots D dA aK aV as A ls Qz hF hs hP hD hS hl h1 h2 hR
  obtain ⟨-, hb, hX, hlt, hnA⟩ := hs
  show W p la e R s m args below meth c H locs cells slots Qz (F0 m pc ls (.ref (as (ab_sb + 1000)) :: _))
  rw [hb]
  exact va_slen hF.1 hF.2.1 hX hlt hnA hS hd k
theorem ex_sld {j a : Int} (hd : decode M.2.1 pc = .ok (.iaload, 1)) (h0 : 0 ≤ j) (hn : j < L) (hj : ab_in j) (ha : (xs j.toNat).toInt = a) (kk : ab_Ex b L xs G rs M d bc bs (pc + 1) l (.inl a :: st) w Q) : ab_Ex b L xs G rs M d bc bs pc l (.inl j :: .inr (.inr (some (ab_sb + 1000))) :: st) w Q := by
  intro p la e R s m args below meth c H locs cells slots D dA aK aV as A ls Qz hF hs hP hD hS hl h1 h2 hR
  have k := kk p la e R s m args below meth c H locs cells slots D dA aK aV as A ls Qz hF hs hP hD hS hl h1 h2 hR
  obtain ⟨-, hb, hX, hlt, hnA⟩ := hs
  show W p la e R s m args below meth c H locs cells slots Qz (F0 m pc ls (.int (Int32.ofInt j) :: .ref (as (ab_sb + 1000)) :: _))
  rw [hb]
  refine va_sld hF.1 hF.2.1 hX hlt hnA hS (ab_ix h0 hn hj) hd ?_
  rw [ab_tn hj]
  have e1 : xs j.toNat = Int32.ofInt a := by rw [← ha, ab_of]
  rw [e1]
  exact k
theorem ab_Pl_at {p : Program} {R : Room} {s : State} {m : MethodId} {args : Array Value} {meth : Method} {c : Code} {D : va_G} {dA : Nat → ClassId} {aK aV as : Nat → Nat} {A : Nat → Prop} {H : Heap} {locs : List Loc} {av : List Value} (hF : ab_Fl G rs M d p R s m args meth c D dA aK aV A) (hP : va_P D G.1 (ab_cw dA as w) H) (hD : va_D A (ab_cw dA as w)) (hS : va_S A s.heap H locs) : ∀ U : State, U.heap = H → s.WarmedH U.vm → va_Pc av (ab_Pc G rs D dA aK aV as w H.size) av.toArray U := by
  intro U hU hW
  obtain ⟨-, -, -, -, -, -, -, -, -, -, hC, hA⟩ := hF
  refine ⟨rfl, by rw [hU], by rw [hU]; exact hP, hD.weaken (fun _ _ _ _ => trivial), ?_⟩
  rw [hU]
  exact hC.warm hW hS.2.1 (ab_sub hD hS hA)
theorem ax_after {Q1 : Option ab_V → ab_W → Prop} {mc ms : Nat} {p : Program} {la : Launch} {e : Env} {R : Room} {s : State} {m : MethodId} {args : Array Value} {below : List Frame} {meth : Method} {c : Code} {H : Heap} {locs : List Loc} {cells slots : Nat} {D : va_G} {dA : Nat → ClassId} {aK aV as : Nat → Nat} {A : Nat → Prop} {ls : Array Slot} {Qz : State → Prop} {st0 : List Value} {a : Array Value}
    (hF : ab_Fl G rs M d p R s m args meth c D dA aK aV A) (hs : ab_Xs b L xs G aK aV as s A) (_hP : va_P D G.1 (ab_cw dA as w) H) (hD : va_D A (ab_cw dA as w)) (hS : va_S A s.heap H locs) (hl : ab_lo as ls M.2.2.1 l) (h1 : cells + (bc + mc) ≤ R.cells) (h2 : slots + (bs + ms) ≤ R.slots)
    (hR : ∀ (pc : Nat) (ls : Array Slot) (H : Heap) (locs : List Loc) (cells slots : Nat), decode M.2.1 pc = .ok (.ireturn, 1) → va_S A s.heap H locs → cells ≤ R.cells → slots ≤ R.slots → W p la e R s m args below meth c H locs cells slots Qz (F0 m pc ls [.int 1]))
    (hrun : va_Run p la e R s m args below meth c H locs cells slots mc ms (F0 m pc ls st0) (st.map (ab_cv as)) (ab_Qc G D dA as w H.size Q1 a) (va_A (ab_cw dA as w) H.size))
    (hok : (∀ r w1, Q1 r w1 → w1.length = w.length) ∨ (ab_okL w.length l ∧ ab_okS w.length st))
    (kk : ∀ r w1, Q1 r w1 → ab_Ex b L xs G rs M d bc bs (pc + 3) l (r.toList ++ st) w1 Q) : W p la e R s m args below meth c H locs cells slots Qz (F0 m pc ls st0) := by
  have hA := hF.2.2.2.2.2.2.2.2.2.2.2
  have hsub := ab_sub hD hS hA
  intro T hT X
  obtain ⟨v, st₀, t, T', L1, h0, X', hL, e1, e2, ⟨⟨r, w1, as1, q1, q2, q3, q4, q5, q6, q7⟩, hz, hk⟩, stp⟩ := hrun T hT X
  cases q5
  rw [h0] at hz hk
  have hlo : ab_lo as1 ls M.2.2.1 l ∧ st.map (ab_cv as1) = st.map (ab_cv as) := by
    rcases hok with h | h
    · rw [q4 (h r w1 q1)]
      exact ⟨hl, rfl⟩
    · exact ⟨ab_ok_lo h.1 q3 hl, ab_ok_map h.2 q3⟩
  have hS1 : va_S A s.heap T'.heap (locs ++ L1) := ⟨Nat.le_trans hS.1 (by rw [e1]; exact hz), fun q g1 g2 => by rw [e1, hk q (Nat.lt_of_lt_of_le g1 hS.1) (fun z => g2 (hsub q z))]; exact hS.2.1 q g1 g2, fun q hq => by
      rcases List.mem_append.mp hq with h | h
      · exact hS.2.2 q h
      · exact hsub _ (hL q h)⟩
  have hs1 : ab_Xs b L xs G aK aV as1 s A := ⟨hs.1.to (fun i hi => q3 i (Or.inr hi)), by rw [q3 _ (Or.inr (Nat.le_add_right _ _))]; exact hs.2.1, hs.2.2⟩
  obtain ⟨t2, a1, b1⟩ := kk r w1 q1 p la e R s m args below meth c T'.heap (locs ++ L1) (cells + mc) (slots + ms) D dA aK aV as1 A ls Qz hF hs1 (by rw [e1]; exact q6) (q7.weaken (fun k q _ h => hsub q.1 h)) hS1 hlo.1 (by omega) (by omega) hR T' rfl X'
  refine ⟨t2, stp t2 ?_, b1⟩
  have e3 : (r.map (ab_cv as1)).toList ++ st.map (ab_cv as) = (r.toList ++ st).map (ab_cv as1) := by
    rw [← hlo.2]
    cases r <;> simp
  show Steps p.tables e below (T'.setTop (F0 m (pc + 3) ls ((r.map (ab_cv as1)).toList ++ st.map (ab_cv as)))) t2
  rw [e3]
  exact a1
theorem ax_kgood {own : String} {idx n : Nat} {cm : ab_M} (h : ab_kb G own idx cm n) : GoodIn (ab_wl G) (ab_ws G cm) := by
  intro x hx
  rcases List.mem_cons.mp hx with rfl | hx
  · exact ⟨h.2.1, good_of_word (h.1 _ h.2.1)⟩
  · exact ⟨hx, good_of_word (h.1 _ hx)⟩
theorem ex_virtual {cm : ab_M} {idx d' mc ms o ci N : Nat} {T : u_T} {fs av st0 : List ab_V} {Q1 : Option ab_V → ab_W → Prop} (hd : decode M.2.1 pc = .ok (.invokevirtual idx, 3)) (hm : ab_Mt G rs cm d' mc ms (.inr (.inr (some o)) :: av) w Q1) (hk : ab_kb G M.1.cls idx cm av.length) (hst : Cond.instanceMethod cm.1 ∈ G.2.1 ∧ Cond.selects cm.1.cls cm.1 cm.1 ∈ G.2.1) (hcl : G.1[ci]? = some (cm.1.cls, T, N)) (hwo : w[o]? = some (ab_ob ci fs)) (h0 : st0 = av.reverse ++ .inr (.inr (some o)) :: st) (hw : ab_wd st ≤ 8) (hdd : d' + 1 ≤ d) (hok : (∀ r w1, Q1 r w1 → w1.length = w.length) ∨ (ab_okL w.length l ∧ ab_okS w.length st))
    (kk : ∀ r w1, Q1 r w1 → ab_Ex b L xs G rs M d bc bs (pc + 3) l (r.toList ++ st) w1 Q) : ab_Ex b L xs G rs M d (bc + mc) (bs + ms) pc l st0 w Q := by
  intro p la e R s m args below meth c H locs cells slots D dA aK aV as A ls Qz hF hs hP hD hS hl h1 h2 hR
  refine ax_after (a := (Value.ref (as o) :: av.map (ab_cv as)).toArray) hF hs hP hD hS hl h1 h2 hR ?_ hok kk
  have hF' := hF
  obtain ⟨hx, hb, hml, -, -, ho, -, ht, hfr, hlc, hC, hA⟩ := hF'
  have hM := hm la D dA aK aV as H.size hs.1
  have hpre : PreV s H cm.1.cls (as o) (va_Pc ((Sum.inr (Sum.inr (some o)) :: av).map (ab_cv as)) (ab_Pc G rs D dA aK aV as w H.size)) (av.map (ab_cv as)) := ⟨ab_Pc_blind, va_recv (q := (cm.1.cls, T, N)) hC.1 hP hcl (ab_cw_get hwo), ab_Pl_at hF hP hD hS⟩
  have hrm : (ab_rm d' mc ms).frames + 1 ≤ R.frames ∧ 8 + (cm.2.2.1 + 11) + (ab_rm d' mc ms).locals ≤ R.locals := by
    have := hk.2.2.2.2.2
    show d' + 1 ≤ R.frames ∧ 8 + (cm.2.2.1 + 11) + 60 * d' ≤ R.locals
    omega
  have hstk : st0.map (ab_cv as) = (av.map (ab_cv as)).reverse ++ Value.ref (as o) :: st.map (ab_cv as) := by rw [h0]; simp [ab_cv]
  have hwd : 2 * (F0 m pc ls (st0.map (ab_cv as))).monitorRoom + ((st.map (ab_cv as)).map fun v => v.category).sum ≤ 8 := lv_room (by rw [ab_wsum]; exact hw)
  have hsz : (F0 m pc ls (st0.map (ab_cv as))).locals.size = M.2.2.1 := by obtain ⟨-, lv, z, -⟩ := hl; exact z.1
  rcases hk.2.2.2.1 with hlk | ⟨h, hlk⟩
  · exact va_runV (C := cm.1.cls) ⟨hx, hb, hml, ho, ht⟩ hM ⟨callB_of av.length ht (ax_kgood hk) rfl rfl rfl (ht _ hk.2.2.1) (ht _ hlk) hk.2.2.2.2.1 hrm, ht _ hst.1, ht _ hst.2⟩ hpre rfl (List.length_map ..) hsz hstk hwd hd ⟨by omega, by omega⟩
  · exact va_runVN (C := cm.1.cls) ⟨hx, hb, hml, ho, ht⟩ hM ⟨va_cnB av.length ht (ax_kgood hk) rfl rfl rfl (hC.2.2.1 _ hlk) (ht _ hk.2.2.1) hk.2.2.2.2.1 hrm, ht _ hst.1, ht _ hst.2⟩ hpre rfl (List.length_map ..) hsz hstk hwd hd ⟨by omega, by omega⟩
theorem ex_special {cm : ab_M} {idx d' mc ms o : Nat} {av st0 : List ab_V} {Q1 : Option ab_V → ab_W → Prop} (hd : decode M.2.1 pc = .ok (.invokespecial idx, 3)) (hm : ab_Mt G rs cm d' mc ms (.inr (.inr (some o)) :: av) w Q1) (hk : ab_kb G M.1.cls idx cm av.length) (hst : Cond.instanceMethod cm.1 ∈ G.2.1 ∧ cm.1.name = "<init>" ∧ cm.2.2.2 = none) (h0 : st0 = av.reverse ++ .inr (.inr (some o)) :: st) (hw : ab_wd st ≤ 8) (hdd : d' + 1 ≤ d) (hok : (∀ r w1, Q1 r w1 → w1.length = w.length) ∨ (ab_okL w.length l ∧ ab_okS w.length st))
    (kk : ∀ r w1, Q1 r w1 → ab_Ex b L xs G rs M d bc bs (pc + 3) l (r.toList ++ st) w1 Q) : ab_Ex b L xs G rs M d (bc + mc) (bs + ms) pc l st0 w Q := by
  intro p la e R s m args below meth c H locs cells slots D dA aK aV as A ls Qz hF hs hP hD hS hl h1 h2 hR
  refine ax_after (a := (Value.ref (as o) :: av.map (ab_cv as)).toArray) hF hs hP hD hS hl h1 h2 hR ?_ hok kk
  have hF' := hF
  obtain ⟨hx, hb, hml, -, -, ho, -, ht, hfr, hlc, hC, hA⟩ := hF'
  have hM := hm la D dA aK aV as H.size hs.1
  have hpre : PreS s H (va_Pc ((Sum.inr (Sum.inr (some o)) :: av).map (ab_cv as)) (ab_Pc G rs D dA aK aV as w H.size)) (Value.ref (as o) :: av.map (ab_cv as)) := ⟨ab_Pc_blind, ab_Pl_at hF hP hD hS⟩
  have hrm : (ab_rm d' mc ms).frames + 1 ≤ R.frames ∧ 8 + (cm.2.2.1 + 11) + (ab_rm d' mc ms).locals ≤ R.locals := by
    have := hk.2.2.2.2.2
    show d' + 1 ≤ R.frames ∧ 8 + (cm.2.2.1 + 11) + 60 * d' ≤ R.locals
    omega
  have hstk : st0.map (ab_cv as) = (av.map (ab_cv as)).reverse ++ Value.ref (as o) :: st.map (ab_cv as) := by rw [h0]; simp [ab_cv]
  have hwd : 2 * (F0 m pc ls (st0.map (ab_cv as))).monitorRoom + ((st.map (ab_cv as)).map fun v => v.category).sum ≤ 8 := lv_room (by rw [ab_wsum]; exact hw)
  have hsz : (F0 m pc ls (st0.map (ab_cv as))).locals.size = M.2.2.1 := by obtain ⟨-, lv, z, -⟩ := hl; exact z.1
  have hkc := callB_of (R := R) (rm := ab_rm d' mc ms) (mc := mc) (ms := ms) (own := M.1.cls) (index := idx) (y := cm.1) (bytes := cm.2.1) (maxL := cm.2.2.1) (ret := cm.2.2.2) (ws := ab_ws G cm) (ws' := G.2.1) av.length ht (ax_kgood hk) rfl rfl rfl (ht _ hk.2.2.1)
  have hkn := fun host => va_cnB (R := R) (rm := ab_rm d' mc ms) (mc := mc) (ms := ms) (own := M.1.cls) (index := idx) (host := host) (y := cm.1) (bytes := cm.2.1) (maxL := cm.2.2.1) (ret := cm.2.2.2) (ws := ab_ws G cm) (ws' := G.2.1) av.length ht (ax_kgood hk) rfl rfl rfl
  rw [hst.2.2] at hkc hkn
  rcases hk.2.2.2.1 with hlk | ⟨h, hlk⟩
  · exact va_runI ⟨hx, hb, hml, ho, ht⟩ hM ⟨hkc (ht _ hlk) hk.2.2.2.2.1 hrm, hst.2.1, ht _ hst.1⟩ hpre rfl (List.length_map ..) hsz hstk hwd hd ⟨by omega, by omega⟩
  · exact va_runIN ⟨hx, hb, hml, ho, ht⟩ hM ⟨hkn h (hC.2.2.1 _ hlk) (ht _ hk.2.2.1) hk.2.2.2.2.1 hrm, hst.2.1, ht _ hst.1⟩ hpre rfl (List.length_map ..) hsz hstk hwd hd ⟨by omega, by omega⟩
theorem ax_grow {E : ab_E} {pc' : Nat} (hlt : w.length < ab_sb) (hW : ab_okW w) (hE : ab_okE w.length E) (hL : ab_okL w.length l) (hSt : ab_okS w.length st) (kk : ab_Ex b L xs G rs M d bc bs pc' l (.inr (.inr (some w.length)) :: st) (w ++ [E]) Q)
    {p : Program} {la : Launch} {e : Env} {R : Room} {s : State} {m : MethodId} {args : Array Value} {below : List Frame} {meth : Method} {c : Code} {locs : List Loc} {cells slots : Nat} {D : va_G} {dA : Nat → ClassId} {aK aV as : Nat → Nat} {A : Nat → Prop} {ls : Array Slot} {Qz : State → Prop}
    (hF : ab_Fl G rs M d p R s m args meth c D dA aK aV A) (hs : ab_Xs b L xs G aK aV as s A) (hl : ab_lo as ls M.2.2.1 l)
    (hR : ∀ (pc : Nat) (ls : Array Slot) (H : Heap) (locs : List Loc) (cells slots : Nat), decode M.2.1 pc = .ok (.ireturn, 1) → va_S A s.heap H locs → cells ≤ R.cells → slots ≤ R.slots → W p la e R s m args below meth c H locs cells slots Qz (F0 m pc ls [.int 1]))
    (h1 : cells + bc ≤ R.cells) (h2 : slots + bs ≤ R.slots)
    {q : Nat} {H1 : Heap} (hP1 : va_P D G.1 (ab_cw dA as w ++ [(q, ab_ce dA as E)]) H1) (hD1 : va_D A (ab_cw dA as w ++ [(q, ab_ce dA as E)])) (hS1 : va_S A s.heap H1 locs) :
    W p la e R s m args below meth c H1 locs cells slots Qz (F0 m pc' ls (.ref q :: st.map (ab_cv as))) := by
  obtain ⟨as1, has⟩ : ∃ as1 : Nat → Nat, as1 = fun i => if i = w.length then q else as i := ⟨_, rfl⟩
  have ha : ∀ i, (i < w.length ∨ ab_sb ≤ i) → as1 i = as i := by
    intro i hi
    rw [has]
    exact if_neg (by omega)
  have hq : as1 w.length = q := by rw [has]; exact if_pos rfl
  have ew : ab_cw dA as1 (w ++ [E]) = ab_cw dA as w ++ [(q, ab_ce dA as E)] := by
    rw [ab_cw_push hW ha, hq, ab_ok_ce hE ha]
  have hs1 : ab_Xs b L xs G aK aV as1 s A := ⟨hs.1.to (fun i hi => ha i (Or.inr hi)), by rw [ha _ (Or.inr (Nat.le_add_right _ _))]; exact hs.2.1, hs.2.2⟩
  have k := kk p la e R s m args below meth c H1 locs cells slots D dA aK aV as1 A ls Qz hF hs1 (by rw [ew]; exact hP1) (by rw [ew]; exact hD1) hS1 (ab_ok_lo hL ha hl) h1 h2 hR
  have es : (Sum.inr (Sum.inr (some w.length)) :: st : List ab_V).map (ab_cv as1) = Value.ref q :: st.map (ab_cv as) := by
    rw [List.map_cons, ab_ok_map hSt ha]
    show Value.ref (as1 w.length) :: _ = _
    rw [hq]
  rw [es] at k
  exact k
theorem ex_new {idx ci N : Nat} {fs : List ab_V} (hd : decode M.2.1 pc = .ok (.new idx, 3)) (hn : ab_nw G M.1.cls idx ci N fs) (hlt : w.length < ab_sb) (hW : ab_okW w) (hE : ab_okS w.length fs) (hL : ab_okL w.length l) (hSt : ab_okS w.length st) (kk : ab_Ex b L xs G rs M d bc bs (pc + 3) l (.inr (.inr (some w.length)) :: st) (w ++ [ab_ob ci fs]) Q) : ab_Ex b L xs G rs M d (bc + 1) (bs + N) pc l st w Q := by
  intro p la e R s m args below meth c H locs cells slots D dA aK aV as A ls Qz hF hs hP hD hS hl h1 h2 hR
  have hF' := hF
  obtain ⟨hx, hb, hml, -, -, ho, -, ht, hfr, hlc, hC, hA⟩ := hF'
  obtain ⟨C, T, ty0, g1, g2, g3, g4, g5, g6, g7⟩ := hn
  exact va_new hx hb ht (fun x hx => g2 x hx) ty0 g3 ho (ht _ g4) (ht _ g5) (ht _ g6) hC.1 hP hD hS hA g1 (fs := fs.map (ab_cv as)) (g7 as) (by omega) (by omega) hd (fun q H1 hP1 hD1 hS1 => ax_grow (E := ab_ob ci fs) hlt hW hE hL hSt kk hF hs hl hR (by omega) (by omega) hP1 hD1 hS1)
theorem ex_xn {cm : ab_M} {idx d' mc ms o : Nat} {av st0 : List ab_V} (hd : decode M.2.1 pc = .ok (.invokespecial idx, 3)) (hm : ab_Mt G rs cm d' mc ms (.inr (.inr (some o)) :: av) w (ab_is none w')) (hk : ab_kb G M.1.cls idx cm av.length) (hst : Cond.instanceMethod cm.1 ∈ G.2.1 ∧ cm.1.name = "<init>" ∧ cm.2.2.2 = none) (h0 : st0 = av.reverse ++ .inr (.inr (some o)) :: st) (hw : ab_wd st ≤ 8) (hdd : d' + 1 ≤ d) (hL : ab_okL w.length l) (hS : ab_okS w.length st)
    (kk : ab_Ex b L xs G rs M d bc bs (pc + 3) l st w' Q) : ab_Ex b L xs G rs M d (bc + mc) (bs + ms) pc l st0 w Q := ex_special hd hm hk hst h0 hw hdd (Or.inr ⟨hL, hS⟩) (fun r w1 h => by obtain ⟨rfl, rfl⟩ := h; exact kk)
theorem ex_room {bc2 bs2 : Nat} (h1 : bc ≤ bc2) (h2 : bs ≤ bs2) (k : ab_Ex b L xs G rs M d bc bs pc l st w Q) : ab_Ex b L xs G rs M d bc2 bs2 pc l st w Q := by
  intro p la e R s m args below meth c H locs cells slots D dA aK aV as A ls Qz hF hs hP hD hS hl g1 g2 hR
  exact k p la e R s m args below meth c H locs cells slots D dA aK aV as A ls Qz hF hs hP hD hS hl (by omega) (by omega) hR
theorem ex_icmp_same {a : Int} {off : Int} {tgt : Nat} (hd : decode M.2.1 pc = .ok (.if_icmp .eq off, 3)) (ht : (pc : Int) + off = (tgt : Int)) (k : ab_Ex b L xs G rs M d bc bs tgt l st w Q) : ab_Ex b L xs G rs M d bc bs pc l (.inl a :: .inl a :: st) w Q := ax_go2 (C := True) (fun _ hx hc q1 q2 => lv_icmp_eq hx hc hd ht (fun _ => q1 trivial) (fun h => absurd rfl h)) (fun _ => k) (fun h => (absurd trivial h : ab_Ex b L xs G rs M d bc bs (pc + 3) l st w Q))
end EXA
