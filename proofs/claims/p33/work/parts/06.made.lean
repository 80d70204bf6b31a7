/-! rules: cells that are made, copies, string constants -/
section EVE
variable {G : ab_G} {rs : List String} {M : ab_M} {d bc bs pc : Nat} {l : ab_L} {st : List ab_V} {w : ab_W} {Q : Option ab_V → ab_W → Prop}
theorem ab_grow {E : ab_E} {pc' : Nat} (hlt : w.length < ab_sb) (hW : ab_okW w) (hE : ab_okE w.length E) (hL : ab_okL w.length l) (hSt : ab_okS w.length st) (kk : ab_Ev G rs M d bc bs pc' l (.inr (.inr (some w.length)) :: st) (w ++ [E]) Q)
    {p : Program} {la : Launch} {e : Env} {R : Room} {s : State} {m : MethodId} {args : Array Value} {below : List Frame} {meth : Method} {c : Code} {locs : List Loc} {cells slots : Nat} {D : va_G} {dA : Nat → ClassId} {aK aV as : Nat → Nat} {A : Nat → Prop} {ls : Array Slot} {Qc : Array Value → State → Outcome → State → Prop} {free : Addr → Prop}
    (hF : ab_Fx G rs M d p R s m args meth c D dA aK aV A) (hs : ab_hs G aK aV as) (hl : ab_lo as ls M.2.2.1 l) (hR : ab_Rt G s args D dA as A w Q Qc free) (h1 : cells + bc ≤ R.cells) (h2 : slots + bs ≤ R.slots)
    {q : Nat} {H1 : Heap} (hP1 : va_P D G.1 (ab_cw dA as w ++ [(q, ab_ce dA as E)]) H1) (hD1 : va_D A (ab_cw dA as w ++ [(q, ab_ce dA as E)])) (hS1 : va_S A s.heap H1 locs) :
    W p la e R s m args below meth c H1 locs cells slots (MQ below Qc args s R.cells R.slots free) (F0 m pc' ls (.ref q :: st.map (ab_cv as))) := by
  obtain ⟨as1, has⟩ : ∃ as1 : Nat → Nat, as1 = fun i => if i = w.length then q else as i := ⟨_, rfl⟩
  have ha : ∀ i, (i < w.length ∨ ab_sb ≤ i) → as1 i = as i := by
    intro i hi
    rw [has]
    exact if_neg (by omega)
  have hq : as1 w.length = q := by rw [has]; exact if_pos rfl
  have ew : ab_cw dA as1 (w ++ [E]) = ab_cw dA as w ++ [(q, ab_ce dA as E)] := by
    rw [ab_cw_push hW ha, hq, ab_ok_ce hE ha]
  have hR1 : ab_Rt G s args D dA as1 A (w ++ [E]) Q Qc free := by
    intro r' w' as' H' locs' g1 g2 g3 g4 g5 g6 g7
    rw [List.length_append, List.length_singleton] at g2 g3 g4
    refine hR r' w' as' H' locs' g1 (by omega) (fun i hi => ?_) (fun z => by omega) g5 g6 g7
    rw [g3 i (by omega), ha i hi]
  have k := kk p la e R s m args below meth c H1 locs cells slots D dA aK aV as1 A ls Qc free hF (hs.to (fun i hi => ha i (Or.inr hi))) (by rw [ew]; exact hP1) (by rw [ew]; exact hD1) hS1 (ab_ok_lo hL ha hl) h1 h2 hR1
  have es : (Sum.inr (Sum.inr (some w.length)) :: st : List ab_V).map (ab_cv as1) = Value.ref q :: st.map (ab_cv as) := by
    rw [List.map_cons, ab_ok_map hSt ha]
    show Value.ref (as1 w.length) :: _ = _
    rw [hq]
  rw [es] at k
  exact k
/-- a class's words for new -/
def ab_nw (G : ab_G) (own : String) (idx ci N : Nat) (fs : List ab_V) : Prop := ∃ (C : String) (T : u_T) (ty0 : Nat → FieldType), G.1[ci]? = some (C, T, N) ∧ (∀ x ∈ u_ws C T N, x ∈ G.2.1) ∧ (∀ j, j < N → parseFieldDescriptor (T j).2.2.1 = some (ty0 j)) ∧ Cond.classLink own idx C ∈ G.2.1 ∧ Cond.instantiable C N ∈ G.2.1 ∧ Cond.initialized C ∈ G.2.1 ∧ (∀ (as : Nat → Nat) (j : Nat), j < N → defaultValue (ty0 j) = vp_V (fs.map (ab_cv as)) j)
theorem ev_new {idx ci N : Nat} {fs : List ab_V} (hd : decode M.2.1 pc = .ok (.new idx, 3)) (hn : ab_nw G M.1.cls idx ci N fs) (hlt : w.length < ab_sb) (hW : ab_okW w) (hE : ab_okS w.length fs) (hL : ab_okL w.length l) (hSt : ab_okS w.length st) (kk : ab_Ev G rs M d bc bs (pc + 3) l (.inr (.inr (some w.length)) :: st) (w ++ [ab_ob ci fs]) Q) : ab_Ev G rs M d (bc + 1) (bs + N) pc l st w Q := by
  intro p la e R s m args below meth c H locs cells slots D dA aK aV as A ls Qc free hF hs hP hD hS hl h1 h2 hR
  have hF' := hF
  obtain ⟨hx, hb, hml, -, -, ho, -, ht, hfr, hlc, hC, hA⟩ := hF'
  obtain ⟨C, T, ty0, g1, g2, g3, g4, g5, g6, g7⟩ := hn
  exact va_new hx hb ht (fun x hx => List.mem_cons_of_mem _ (g2 x hx)) ty0 g3 ho (ht _ (List.mem_cons_of_mem _ g4)) (ht _ (List.mem_cons_of_mem _ g5)) (ht _ (List.mem_cons_of_mem _ g6)) hC.1 hP hD hS hA g1 (fs := fs.map (ab_cv as)) (g7 as) (by omega) (by omega) hd (fun q H1 hP1 hD1 hS1 => ab_grow (E := ab_ob ci fs) hlt hW hE hL hSt kk hF hs hl hR (by omega) (by omega) hP1 hD1 hS1)
theorem ev_newai {n : Int} (hd : decode M.2.1 pc = .ok (.newarray .int, 2)) (hc : Cond.arrayClass .int ∈ G.2.1) (h0 : 0 ≤ n) (hn : n ≤ 100000) (hlt : w.length < ab_sb) (hW : ab_okW w) (hL : ab_okL w.length l) (hSt : ab_okS w.length st) (kk : ab_Ev G rs M d bc bs (pc + 2) l (.inr (.inr (some w.length)) :: st) (w ++ [ab_ai 0 n.toNat (fun _ => 0)]) Q) : ab_Ev G rs M d (bc + 1) (bs + n.toNat) pc l (.inl n :: st) w Q := by
  intro p la e R s m args below meth c H locs cells slots D dA aK aV as A ls Qc free hF hs hP hD hS hl h1 h2 hR
  have hF' := hF
  obtain ⟨hx, hb, hml, -, -, ho, -, ht, hfr, hlc, hC, hA⟩ := hF'
  have hi : ab_in n := by omega
  refine va_newa (atype := .int) (ty := .int) (N' := n.toNat) (a0 := (n.toNat, .inl (fun _ => 0))) hx hb (ht _ (List.mem_cons_of_mem _ hc)) rfl hC.1 hP hD hS hA (fun _ => rfl) (fun z => ?_) (ab_tn hi) ?_ (by omega) (by omega) hd (fun q cA H1 hK1 hP1 hD1 hS1 => ?_)
  · have z2 : Int32.ofInt n < Int32.ofInt 0 := z
    rw [ab_lt hi ab_in0] at z2
    omega
  · have : componentBytes .int ≤ 8 := by decide
    have := Nat.mul_le_mul (show n.toNat ≤ 100000 by omega) this
    omega
  · have e1 : cA = dA 0 := by
      have r1 := (hK1.2 (ab_ty G rs dA).length (cA, .int) (by rw [List.getElem?_append_right (Nat.le_refl _), Nat.sub_self]; rfl)).2
      have r2 := (hC.1.2 0 (dA 0, .int) rfl).2
      exact Option.some.inj (Eq.trans (Eq.symm r1) r2)
    subst e1
    exact ab_grow (E := ab_ai 0 n.toNat (fun _ => 0)) hlt hW trivial hL hSt kk hF hs hl hR (by omega) (by omega) hP1 hD1 hS1
theorem ev_newab {n : Int} (hd : decode M.2.1 pc = .ok (.newarray .byte, 2)) (hc : Cond.arrayClass .byte ∈ G.2.1) (h0 : 0 ≤ n) (hn : n ≤ 100000) (hlt : w.length < ab_sb) (hW : ab_okW w) (hL : ab_okL w.length l) (hSt : ab_okS w.length st) (kk : ab_Ev G rs M d bc bs (pc + 2) l (.inr (.inr (some w.length)) :: st) (w ++ [ab_ai 1 n.toNat (fun _ => 0)]) Q) : ab_Ev G rs M d (bc + 1) (bs + n.toNat) pc l (.inl n :: st) w Q := by
  intro p la e R s m args below meth c H locs cells slots D dA aK aV as A ls Qc free hF hs hP hD hS hl h1 h2 hR
  have hF' := hF
  obtain ⟨hx, hb, hml, -, -, ho, -, ht, hfr, hlc, hC, hA⟩ := hF'
  have hi : ab_in n := by omega
  refine va_newa (atype := .byte) (ty := .byte) (N' := n.toNat) (a0 := (n.toNat, .inl (fun _ => 0))) hx hb (ht _ (List.mem_cons_of_mem _ hc)) rfl hC.1 hP hD hS hA (fun _ => rfl) (fun z => ?_) (ab_tn hi) ?_ (by omega) (by omega) hd (fun q cA H1 hK1 hP1 hD1 hS1 => ?_)
  · have z2 : Int32.ofInt n < Int32.ofInt 0 := z
    rw [ab_lt hi ab_in0] at z2
    omega
  · have : componentBytes .byte ≤ 8 := by decide
    have := Nat.mul_le_mul (show n.toNat ≤ 100000 by omega) this
    omega
  · have e1 : cA = dA 1 := by
      have r1 := (hK1.2 (ab_ty G rs dA).length (cA, .byte) (by rw [List.getElem?_append_right (Nat.le_refl _), Nat.sub_self]; rfl)).2
      have r2 := (hC.1.2 1 (dA 1, .byte) rfl).2
      exact Option.some.inj (Eq.trans (Eq.symm r1) r2)
    subst e1
    exact ab_grow (E := ab_ai 1 n.toNat (fun _ => 0)) hlt hW trivial hL hSt kk hF hs hl hR (by omega) (by omega) hP1 hD1 hS1
theorem ev_newaz {n : Int} (hd : decode M.2.1 pc = .ok (.newarray .boolean, 2)) (hc : Cond.arrayClass .boolean ∈ G.2.1) (h0 : 0 ≤ n) (hn : n ≤ 100000) (hlt : w.length < ab_sb) (hW : ab_okW w) (hL : ab_okL w.length l) (hSt : ab_okS w.length st) (kk : ab_Ev G rs M d bc bs (pc + 2) l (.inr (.inr (some w.length)) :: st) (w ++ [ab_ai 2 n.toNat (fun _ => 0)]) Q) : ab_Ev G rs M d (bc + 1) (bs + n.toNat) pc l (.inl n :: st) w Q := by
  intro p la e R s m args below meth c H locs cells slots D dA aK aV as A ls Qc free hF hs hP hD hS hl h1 h2 hR
  have hF' := hF
  obtain ⟨hx, hb, hml, -, -, ho, -, ht, hfr, hlc, hC, hA⟩ := hF'
  have hi : ab_in n := by omega
  refine va_newa (atype := .boolean) (ty := .boolean) (N' := n.toNat) (a0 := (n.toNat, .inl (fun _ => 0))) hx hb (ht _ (List.mem_cons_of_mem _ hc)) rfl hC.1 hP hD hS hA (fun _ => rfl) (fun z => ?_) (ab_tn hi) ?_ (by omega) (by omega) hd (fun q cA H1 hK1 hP1 hD1 hS1 => ?_)
  · have z2 : Int32.ofInt n < Int32.ofInt 0 := z
    rw [ab_lt hi ab_in0] at z2
    omega
  · have : componentBytes .boolean ≤ 8 := by decide
    have := Nat.mul_le_mul (show n.toNat ≤ 100000 by omega) this
    omega
  · have e1 : cA = dA 2 := by
      have r1 := (hK1.2 (ab_ty G rs dA).length (cA, .boolean) (by rw [List.getElem?_append_right (Nat.le_refl _), Nat.sub_self]; rfl)).2
      have r2 := (hC.1.2 2 (dA 2, .boolean) rfl).2
      exact Option.some.inj (Eq.trans (Eq.symm r1) r2)
    subst e1
    exact ab_grow (E := ab_ai 2 n.toNat (fun _ => 0)) hlt hW trivial hL hSt kk hF hs hl hR (by omega) (by omega) hP1 hD1 hS1
theorem ev_newal {n : Int} (hd : decode M.2.1 pc = .ok (.newarray .long, 2)) (hc : Cond.arrayClass .long ∈ G.2.1) (h0 : 0 ≤ n) (hn : n ≤ 100000) (hlt : w.length < ab_sb) (hW : ab_okW w) (hL : ab_okL w.length l) (hSt : ab_okS w.length st) (kk : ab_Ev G rs M d bc bs (pc + 2) l (.inr (.inr (some w.length)) :: st) (w ++ [ab_al n.toNat (fun _ => 0)]) Q) : ab_Ev G rs M d (bc + 1) (bs + n.toNat) pc l (.inl n :: st) w Q := by
  intro p la e R s m args below meth c H locs cells slots D dA aK aV as A ls Qc free hF hs hP hD hS hl h1 h2 hR
  have hF' := hF
  obtain ⟨hx, hb, hml, -, -, ho, -, ht, hfr, hlc, hC, hA⟩ := hF'
  have hi : ab_in n := by omega
  refine va_newa (atype := .long) (ty := .long) (N' := n.toNat) (a0 := (n.toNat, .inr (.inl (fun _ => 0)))) hx hb (ht _ (List.mem_cons_of_mem _ hc)) rfl hC.1 hP hD hS hA (fun _ => rfl) (fun z => ?_) (ab_tn hi) ?_ (by omega) (by omega) hd (fun q cA H1 hK1 hP1 hD1 hS1 => ?_)
  · have z2 : Int32.ofInt n < Int32.ofInt 0 := z
    rw [ab_lt hi ab_in0] at z2
    omega
  · have : componentBytes .long ≤ 8 := by decide
    have := Nat.mul_le_mul (show n.toNat ≤ 100000 by omega) this
    omega
  · have e1 : cA = dA 3 := by
      have r1 := (hK1.2 (ab_ty G rs dA).length (cA, .long) (by rw [List.getElem?_append_right (Nat.le_refl _), Nat.sub_self]; rfl)).2
      have r2 := (hC.1.2 3 (dA 3, .long) rfl).2
      exact Option.some.inj (Eq.trans (Eq.symm r1) r2)
    subst e1
    exact ab_grow (E := ab_al n.toNat (fun _ => 0)) hlt hW trivial hL hSt kk hF hs hl hR (by omega) (by omega) hP1 hD1 hS1
theorem ev_newar {n : Int} {idx t : Nat} {C : String} (hd : decode M.2.1 pc = .ok (.anewarray idx, 3)) (hc : Cond.classLink M.1.cls idx C ∈ G.2.1) (hr : rs[t]? = some C) (h0 : 0 ≤ n) (hn : n ≤ 100000) (hlt : w.length < ab_sb) (hW : ab_okW w) (hL : ab_okL w.length l) (hSt : ab_okS w.length st) (kk : ab_Ev G rs M d bc bs (pc + 3) l (.inr (.inr (some w.length)) :: st) (w ++ [ab_ar (4 + t) n.toNat (fun _ => none)]) Q) : ab_Ev G rs M d (bc + 1) (bs + n.toNat) pc l (.inl n :: st) w Q := by
  intro p la e R s m args below meth c H locs cells slots D dA aK aV as A ls Qc free hF hs hP hD hS hl h1 h2 hR
  have hF' := hF
  obtain ⟨hx, hb, hml, -, -, ho, -, ht, hfr, hlc, hC, hA⟩ := hF'
  have hi : ab_in n := by omega
  have hao : va_AO C s := hC.2.2.2.2.2.2.1 C (List.mem_of_getElem? hr)
  refine va_newq (N' := n.toNat) hx hb ho (ht _ (List.mem_cons_of_mem _ hc)) hao hC.1 hP hD hS hA (fun z => ?_) (ab_tn hi) (by omega) (by omega) (by omega) hd (fun q cA H1 hK1 hP1 hD1 hS1 => ?_)
  · have z2 : Int32.ofInt n < Int32.ofInt 0 := z
    rw [ab_lt hi ab_in0] at z2
    omega
  · have e1 : cA = dA (4 + t) := by
      obtain ⟨k1, c1, -, -, -, r1⟩ := (hK1.2 (ab_ty G rs dA).length (cA, .object C) (by rw [List.getElem?_append_right (Nat.le_refl _), Nat.sub_self]; rfl)).2
      obtain ⟨k2, c2, -, -, -, r2⟩ := (hC.1.2 (4 + t) _ (ab_tyR hr)).2
      exact Option.some.inj (r1.symm.trans r2)
    subst e1
    exact ab_grow (E := ab_ar (4 + t) n.toNat (fun _ => none)) hlt hW (fun _ _ h => by cases h) hL hSt kk hF hs hl hR (by omega) (by omega) hP1 hD1 hS1
theorem ev_objInit {idx o : Nat} (hd : decode M.2.1 pc = .ok (.invokespecial idx, 3)) (hk : Cond.methodLink M.1.cls idx Lib.objectInit ∈ G.2.1 ∧ Cond.instanceMethod Lib.objectInit ∈ G.2.1 ∧ Cond.code Lib.objectInit ⟨#[0xb1]⟩ 1 none ∈ G.2.1) (hw : ab_wd st ≤ 8) (hdd : 1 ≤ d) (kk : ab_Ev G rs M d bc bs (pc + 3) l st w Q) : ab_Ev G rs M d bc bs pc l (.inr (.inr (some o)) :: st) w Q := by
  intro p la e R s m args below meth c H locs cells slots D dA aK aV as A ls Qc free hF hs hP hD hS hl h1 h2 hR
  have kk := kk p la e R s m args below meth c H locs cells slots D dA aK aV as A ls Qc free hF hs hP hD hS hl h1 h2 hR
  obtain ⟨hx, hb, hml, -, -, ho, -, ht, hfr, hlc, hC, hA⟩ := hF
  refine W.objInit hx hb ho (ht _ (List.mem_cons_of_mem _ hk.1)) (ht _ (List.mem_cons_of_mem _ hk.2.1)) (ht _ (List.mem_cons_of_mem _ hk.2.2)) rfl (by rw [hml]; obtain ⟨-, lv, z, -⟩ := hl; exact z.1) (rest := st.map (ab_cv as)) rfl hd (by omega) ?_ kk
  show 2 * 0 + _ + 12 ≤ _
  rw [ab_wsum]
  omega
theorem ab_cpok {f g : Int → Int} {sp dp n : Int} (h0 : 0 ≤ sp) (h1 : 0 ≤ dp) (h2 : 0 ≤ n) : va_cpy (fun k : Nat => Int32.ofInt (f (k : Int))) (fun k : Nat => Int32.ofInt (g (k : Int))) sp.toNat dp.toNat n.toNat = fun k : Nat => Int32.ofInt (ab_cp f g sp dp n (k : Int)) := by
  funext k
  unfold va_cpy ab_cp
  by_cases h : dp.toNat ≤ k ∧ k < dp.toNat + n.toNat
  · rw [if_pos h, if_pos (by omega)]
    have e : ((sp.toNat + (k - dp.toNat) : Nat) : Int) = sp + ((k : Int) - dp) := by omega
    show Int32.ofInt (f ((sp.toNat + (k - dp.toNat) : Nat) : Int)) = _
    rw [e]
  · rw [if_neg h, if_neg (by omega)]
theorem ab_cpokL {f g : Int → Int64} {sp dp n : Int} (h0 : 0 ≤ sp) (h1 : 0 ≤ dp) (h2 : 0 ≤ n) : va_cpy (fun k : Nat => f (k : Int)) (fun k : Nat => g (k : Int)) sp.toNat dp.toNat n.toNat = fun k : Nat => ab_cp f g sp dp n (k : Int) := by
  funext k
  unfold va_cpy ab_cp
  by_cases h : dp.toNat ≤ k ∧ k < dp.toNat + n.toNat
  · rw [if_pos h, if_pos (by omega)]
    have e : ((sp.toNat + (k - dp.toNat) : Nat) : Int) = sp + ((k : Int) - dp) := by omega
    show f ((sp.toNat + (k - dp.toNat) : Nat) : Int) = _
    rw [e]
  · rw [if_neg h, if_neg (by omega)]
def ab_ck (G : ab_G) (own : String) (idx : Nat) : Prop := Cond.methodLink own idx arraycopyName ∈ G.2.1 ∧ Cond.native arraycopyName ∈ G.2.1 ∧ Cond.static arraycopyName ∈ G.2.1 ∧ Cond.initialized "java/lang/System" ∈ G.2.1
theorem ab_ni {a : Int} (h : ab_in a) (h0 : 0 ≤ a) : ¬ Int32.ofInt a < 0 := fun z => by
  have z2 : Int32.ofInt a < Int32.ofInt 0 := z
  rw [ab_lt h ab_in0] at z2
  omega
theorem ev_copyi {idx o1 o2 n1 n2 t : Nat} {f g : Int → Int} {sp dp n : Int} (hd : decode M.2.1 pc = .ok (.invokestatic idx, 3)) (hk : ab_ck G M.1.cls idx) (ht : t < 3) (h1 : w[o1]? = some (ab_ai t n1 f)) (h2 : w[o2]? = some (ab_ai t n2 g)) (h3 : 0 ≤ sp ∧ 0 ≤ dp ∧ 0 ≤ n ∧ sp + n ≤ n1 ∧ dp + n ≤ n2) (hi : ab_in sp ∧ ab_in dp ∧ ab_in n) (hfit : t = 0 ∨ (t = 1 ∧ ∀ k, sp ≤ k → k < sp + n → -128 ≤ f k ∧ f k ≤ 127) ∨ (t = 2 ∧ ∀ k, sp ≤ k → k < sp + n → f k = 0 ∨ f k = 1)) (hw : ab_wd st ≤ 8) (hdd : 1 ≤ d)
    (kk : ab_Ev G rs M d bc bs (pc + 3) l st (w.set o2 (ab_ai t n2 (ab_cp f g sp dp n))) Q) : ab_Ev G rs M d bc bs pc l (.inl n :: .inl dp :: .inr (.inr (some o2)) :: .inl sp :: .inr (.inr (some o1)) :: st) w Q := by
  intro p la e R s m args below meth c H locs cells slots D dA aK aV as A ls Qc free hF hs hP hD hS hl hc1 hc2 hR
  have kk := fun H1 locs1 hP1 hD1 hS1 => kk p la e R s m args below meth c H1 locs1 cells slots D dA aK aV as A ls Qc free hF hs hP1 hD1 hS1 hl hc1 hc2 (hR.len (List.length_set ..))
  obtain ⟨hx, hb, hml, -, -, ho, -, htt, hfr, hlc, hC, hA⟩ := hF
  rw [← ab_cw_set] at kk
  obtain ⟨g1, g2, g3, g4, g5⟩ := h3
  obtain ⟨i1, i2, i3⟩ := hi
  have hty : ∃ ty, (ab_ty G rs dA)[t]? = some (dA t, ty) ∧ refKind ty = false ∧ ∀ i : Nat, i < (Int32.ofInt n).toNatClampNeg → fits ty (.int (Int32.ofInt (f (((Int32.ofInt sp).toNatClampNeg + i : Nat) : Int)))) = true := by
    rw [ab_tn i3, ab_tn i1]
    rcases hfit with rfl | ⟨rfl, hf⟩ | ⟨rfl, hf⟩
    · exact ⟨.int, rfl, rfl, fun i hi => rfl⟩
    · refine ⟨.byte, rfl, rfl, fun i hi => ?_⟩
      have hq := hf (((sp.toNat + i : Nat) : Int)) (by omega) (by omega)
      generalize f (((sp.toNat + i : Nat) : Int)) = z at hq
      have hz : ab_in z := by omega
      have e1 : Int32.ofInt (-128) ≤ Int32.ofInt z := (ab_le (by decide) hz).mpr hq.1
      have e2 : Int32.ofInt z ≤ Int32.ofInt 127 := (ab_le hz (by decide)).mpr hq.2
      show (decide ((-128 : Int32) ≤ Int32.ofInt z) && decide (Int32.ofInt z ≤ (127 : Int32))) = true
      rw [Bool.and_eq_true, decide_eq_true_eq, decide_eq_true_eq]
      exact ⟨e1, e2⟩
    · refine ⟨.boolean, rfl, rfl, fun i hi => ?_⟩
      rcases hf (((sp.toNat + i : Nat) : Int)) (by omega) (by omega) with hq | hq <;> rw [hq] <;> rfl
  obtain ⟨ty, t1, t2, t3⟩ := hty
  refine va_copyi hx hb (by rw [hml]; obtain ⟨-, lv, z, -⟩ := hl; exact z.1.symm) ho (htt _ (List.mem_cons_of_mem _ hk.1)) (htt _ (List.mem_cons_of_mem _ hk.2.1)) (htt _ (List.mem_cons_of_mem _ hk.2.2.1)) (htt _ (List.mem_cons_of_mem _ hk.2.2.2)) hC.1 hP hD hS o1 o2 t t (ab_cw_get h1) (ab_cw_get h2) t1 t1 t2 (ab_ni i1 g1) (ab_ni i2 g2) (ab_ni i3 g3) (by rw [ab_tn i1, ab_tn i3]; omega) (by rw [ab_tn i2, ab_tn i3]; omega) t3 (by omega) ?_ hd ?_
  · rw [ab_wsum]
    have : nativeFrameWords "java/lang/System" "arraycopy" 5 + 11 ≤ 40 := by decide
    omega
  · rw [ab_tn i1, ab_tn i2, ab_tn i3, ab_cpok g1 g2 g3]
    exact kk
theorem ev_copyl {idx o1 o2 n1 n2 : Nat} {f g : Int → Int64} {sp dp n : Int} (hd : decode M.2.1 pc = .ok (.invokestatic idx, 3)) (hk : ab_ck G M.1.cls idx) (h1 : w[o1]? = some (ab_al n1 f)) (h2 : w[o2]? = some (ab_al n2 g)) (h3 : 0 ≤ sp ∧ 0 ≤ dp ∧ 0 ≤ n ∧ sp + n ≤ n1 ∧ dp + n ≤ n2) (hi : ab_in sp ∧ ab_in dp ∧ ab_in n) (hw : ab_wd st ≤ 8) (hdd : 1 ≤ d)
    (kk : ab_Ev G rs M d bc bs (pc + 3) l st (w.set o2 (ab_al n2 (ab_cp f g sp dp n))) Q) : ab_Ev G rs M d bc bs pc l (.inl n :: .inl dp :: .inr (.inr (some o2)) :: .inl sp :: .inr (.inr (some o1)) :: st) w Q := by
  intro p la e R s m args below meth c H locs cells slots D dA aK aV as A ls Qc free hF hs hP hD hS hl hc1 hc2 hR
  have kk := fun H1 locs1 hP1 hD1 hS1 => kk p la e R s m args below meth c H1 locs1 cells slots D dA aK aV as A ls Qc free hF hs hP1 hD1 hS1 hl hc1 hc2 (hR.len (List.length_set ..))
  obtain ⟨hx, hb, hml, -, -, ho, -, htt, hfr, hlc, hC, hA⟩ := hF
  rw [← ab_cw_set] at kk
  obtain ⟨g1, g2, g3, g4, g5⟩ := h3
  obtain ⟨i1, i2, i3⟩ := hi
  refine va_copyl hx hb (by rw [hml]; obtain ⟨-, lv, z, -⟩ := hl; exact z.1.symm) ho (htt _ (List.mem_cons_of_mem _ hk.1)) (htt _ (List.mem_cons_of_mem _ hk.2.1)) (htt _ (List.mem_cons_of_mem _ hk.2.2.1)) (htt _ (List.mem_cons_of_mem _ hk.2.2.2)) hC.1 hP hD hS o1 o2 3 3 (ab_cw_get h1) (ab_cw_get h2) (ty := .long) rfl rfl rfl (ab_ni i1 g1) (ab_ni i2 g2) (ab_ni i3 g3) (by rw [ab_tn i1, ab_tn i3]; omega) (by rw [ab_tn i2, ab_tn i3]; omega) (fun _ _ => rfl) (by omega) ?_ hd ?_
  · rw [ab_wsum]
    have : nativeFrameWords "java/lang/System" "arraycopy" 5 + 11 ≤ 40 := by decide
    omega
  · rw [ab_tn i1, ab_tn i2, ab_tn i3, ab_cpokL g1 g2 g3]
    exact kk
theorem ev_ldcS {idx k : Nat} {tx : String} (hd : decode M.2.1 pc = .ok (.ldc idx, 2)) (hq : (M.1.cls, idx, tx, k) ∈ G.2.2.2.1) (hk : k < G.2.2.2.2.1.length) (kk : ab_Ev G rs M d bc bs (pc + 2) l (.inr (.inr (some (ab_sb + k))) :: st) w Q) : ab_Ev G rs M d bc bs pc l st w Q := by
  intro p la e R s m args below meth c H locs cells slots D dA aK aV as A ls Qc free hF hs hP hD hS hl h1 h2 hR
  have kk := kk p la e R s m args below meth c H locs cells slots D dA aK aV as A ls Qc free hF hs hP hD hS hl h1 h2 hR
  obtain ⟨hx, hb, hml, -, -, ho, -, ht, hfr, hlc, hC, hA⟩ := hF
  have hv := hC.2.2.2.2.1 _ hq
  dsimp only at hv
  rw [← (hs.1 k hk).1] at hv
  exact va_ldcS hx hb ho hv hd kk
end EVE
