set_option maxRecDepth 4000 in
theorem g_unM {w : Cond} (h : w ∈ g_G.2.2.1) : w ∈ lw_tbl ∧ ab_isN w = true := (List.mem_filter (p := ab_isN) (as := lw_tbl)).mp h
theorem g_nest : ∀ c ∈ g_G.2.2.1, (∃ a i x h, c = Cond.methodLinkNest a i x h) ∨ (∃ a i b n d h, c = Cond.fieldLinkNest a i b n d h) ∨ ∃ C T, c = Cond.castable C T := by
  intro c hc
  have h2 : ab_isN c = true := (g_unM hc).2
  cases c with
  | methodLinkNest a i x h => exact Or.inl ⟨a, i, x, h, rfl⟩
  | fieldLinkNest a i b n d h => exact Or.inr (Or.inl ⟨a, i, b, n, d, h, rfl⟩)
  | castable C T => exact Or.inr (Or.inr ⟨C, T, rfl⟩)
  | _ => cases h2
theorem g_arr {s : State} {args : Array Value} {ty : FieldType} (h : (Cond.arrayClass ty).before args s = true) (hp : ∀ cA : ClassId, s.vm.findClass ("[" ++ ty.toString) = some cA → va_RA s cA ty) : ∃ cA : ClassId, ArrOfT s cA ty ∧ va_RA s cA ty := by
  obtain ⟨cA, kA, comp, f1, f2, f3⟩ := Cond.arrayClass_spec (args := args) (first := s) (o := none) (s := s) (idx := []) h
  exact ⟨cA, fun n z => ⟨fun k h => (by cases h), kA, f2, comp, f3⟩, hp cA f1⟩
theorem g_arq {s : State} {args : Array Value} {C : String} (h : (Cond.arrayOver (.object C)).before args s = true) : ∃ cA : ClassId, ArrOfT s cA (.object C) ∧ va_RA s cA (.object C) := by
  obtain ⟨comp, cA, kA, h1, h2, h3, h4, h5⟩ := Cond.arrayOver_spec (args := args) (first := s) (o := none) (s := s) (idx := []) h
  exact ⟨cA, fun n z => ⟨fun k h => (by cases h), kA, h3, comp, h4⟩, kA, comp, h3, h4, h1, h5⟩
def g_tm : Nat → Term := fun i => match i with
  | 0 => .string "TurnRing$Tape" 15
  | 1 => .string "TurnRing$RingReader" 11
  | _ => .string "TurnRing$RuleReader" 15
theorem g_sx : ∀ i : Nat, i < 3 → (Cond.exactly (g_tm i) "java/lang/String") ∈ flatC (Jvm.Cond.and given_1 narrow_1) := by decide +kernel
theorem g_sc : ∀ i : Nat, i < 3 → (Cond.eq (.field (g_tm i) "java/lang/String" "coder" "B") (.int 0)) ∈ flatC (Jvm.Cond.and given_1 narrow_1) := by decide +kernel
theorem g_sa : ∀ i : Nat, i < 3 → (Cond.arrayOf (.field (g_tm i) "java/lang/String" "value" "[B") .byte) ∈ flatC (Jvm.Cond.and given_1 narrow_1) := by decide +kernel
theorem g_sl : ∀ i : Nat, i < 3 → (Cond.eq (.length (.field (g_tm i) "java/lang/String" "value" "[B")) (.int (Int32.ofNat (g_ln.getD i 0)))) ∈ flatC (Jvm.Cond.and given_1 narrow_1) := by decide +kernel
theorem g_se : ∀ i : Nat, i < 3 → ∀ j : Nat, j < g_ln.getD i 0 → (Cond.eq (.elem (.field (g_tm i) "java/lang/String" "value" "[B") (.int (Int32.ofNat j))) (.int ((g_by.getD i []).getD j 0))) ∈ flatC (Jvm.Cond.and given_1 narrow_1) := by decide +kernel
theorem g_sn : ∀ i : Nat, i < 3 → ∀ j : Nat, j < 3 → i ≠ j → (Cond.not (Cond.eq (g_tm i) (g_tm j))) ∈ flatC (Jvm.Cond.and given_1 narrow_1) ∨ (Cond.not (Cond.eq (g_tm j) (g_tm i))) ∈ flatC (Jvm.Cond.and given_1 narrow_1) := by decide +kernel
theorem g_s31 : ∀ i : Nat, i < 3 → g_ln.getD i 0 < 2 ^ 31 := by decide +kernel
theorem g_cs : (Cond.eq (.static "java/lang/String" "COMPACT_STRINGS" "Z") (.int 1)) ∈ flatC (Jvm.Cond.and given_1 narrow_1) := by decide +kernel
theorem g_si : (Cond.isRef (.static "jdk/internal/util/Preconditions" "SIOOBE_FORMATTER" "Ljava/util/function/BiFunction;")) ∈ flatC (Jvm.Cond.and given_1 narrow_1) := by decide +kernel
theorem vk_S_cong {N : Nat} {len : List Nat} {byt : List (List Int32)} {aK aV aW : Nat → Nat} {A : Nat → Prop} {U : State} {H : Heap} (h : vk_S N len byt aK aV A U H) (e : ∀ i, i < N → aW i = aV i) : vk_S N len byt aK aW A U H := by
  exact ⟨fun i hi => ⟨(h.1 i hi).1, (h.1 i hi).2.1, by rw [e i hi]; exact (h.1 i hi).2.2.1, by rw [e i hi]; exact (h.1 i hi).2.2.2⟩, h.2⟩
theorem g_Cx {s : State} {b : Nat} (hts : ∀ w ∈ lw_tbl, w.before #[Value.ref b] s = true) (hgv : (Jvm.Cond.and given_1 narrow_1).before #[Value.ref b] s = true) : ∃ (D : va_G) (dA : Nat → ClassId) (aK aV : Nat → Nat), ab_Cx g_G g_rs D dA aK aV (fun q : Nat => s.heap.size ≤ q) s s.heap := by
  have hg := flat_of_before _ hgv
  have hG : ∀ x ∈ g_G.2.1, x.before #[Value.ref b] s = true := fun x hx => hts x (List.mem_filter.mp hx).1
  have hA : ∀ a : Nat, a < s.heap.size → ¬ (fun q : Nat => s.heap.size ≤ q) a := fun a h => Nat.not_le.mpr h
  obtain ⟨c0, i0, K0⟩ := u_known (C := "TurnRing$ActLog") (T := tf_Ac) (N := 5) (n := 5) hG uw_Ac (hts _ (g_t1 210 rfl))
  obtain ⟨c1, i1, K1⟩ := u_known (C := "TurnRing$Diary") (T := tf_Di) (N := 5) (n := 5) hG uw_Di (hts _ (g_t1 82 rfl))
  obtain ⟨c2, i2, K2⟩ := u_known (C := "TurnRing$Guesser") (T := tf_Gu) (N := 6) (n := 6) hG uw_Gu (hts _ (g_t2 71 rfl))
  obtain ⟨c3, i3, K3⟩ := u_known (C := "TurnRing$Machine") (T := tf_Ma) (N := 2) (n := 2) hG uw_Ma (hts _ (g_t2 10 rfl))
  obtain ⟨c4, i4, K4⟩ := u_known (C := "TurnRing$Planner") (T := tf_Pl) (N := 5) (n := 5) hG uw_Pl (hts _ (g_t2 23 rfl))
  obtain ⟨c5, i5, K5⟩ := u_known (C := "TurnRing$Ring") (T := tf_Ri) (N := 18) (n := 18) hG uw_Ri (hts _ (g_t1 76 rfl))
  obtain ⟨c6, i6, K6⟩ := u_known (C := "TurnRing$Rule") (T := tf_Ro) (N := 1) (n := 1) hG uw_Ro (hts _ (g_t3 97 rfl))
  obtain ⟨c7, i7, K7⟩ := u_known (C := "TurnRing$RuleReader") (T := tf_Ru) (N := 3) (n := 3) hG uw_Ru (hts _ (g_t1 234 rfl))
  obtain ⟨c8, i8, K8⟩ := u_known (C := "TurnRing$Tape") (T := tf_Ta) (N := 9) (n := 9) hG uw_Ta (hts _ (g_t1 31 rfl))
  obtain ⟨c9, i9, K9⟩ := u_known (C := "TurnRing$Trader") (T := tf_Tr) (N := 5) (n := 5) hG uw_Tr (hts _ (g_t2 47 rfl))
  obtain ⟨c10, i10, K10⟩ := u_known (C := "TurnRing") (T := tf_Tu) (N := 13) (n := 13) hG uw_Tu (hts _ (g_t1 23 rfl))
  obtain ⟨c11, i11, K11⟩ := u_known (C := "TurnRingModel") (T := tf_Mo) (N := 37) (n := 37) hG uw_Mo (hts _ (g_t5 53 rfl))
  obtain ⟨a0, A0⟩ := g_arr (hts (.arrayClass .int) (g_t1 110 rfl)) (fun _ h => h)
  obtain ⟨a1, A1⟩ := g_arr (hts (.arrayClass .byte) (g_t1 74 rfl)) (fun _ h => h)
  obtain ⟨a2, A2⟩ := g_arr (hts (.arrayClass .boolean) (g_t1 232 rfl)) (fun _ h => h)
  obtain ⟨a3, A3⟩ := g_arr (hts (.arrayClass .long) (g_t1 111 rfl)) (fun _ h => h)
  obtain ⟨a4, A4⟩ := g_arq (hts (.arrayOver (.object "TurnRing$Ring")) (g_t1 206 rfl))
  obtain ⟨a5, A5⟩ := g_arq (hts (.arrayOver (.object "TurnRing$Rule")) (g_t1 208 rfl))
  obtain ⟨aK, aV, hS, hT⟩ := vk_Sof (args := #[Value.ref b]) (s := s) (N := 3) (tm := g_tm) (len := g_ln) (byt := g_by) (A := fun q : Nat => s.heap.size ≤ q) g_s31 (fun i hi => hg _ (g_sx i hi)) (fun i hi => hg _ (g_sc i hi)) (fun i hi => hg _ (g_sa i hi)) (fun i hi => hg _ (g_sl i hi)) (fun i hi j hj => hg _ (g_se i hi j hj)) (fun i j hi hj hn => (g_sn i hi j hj hn).imp (fun h => hg _ h) (fun h => hg _ h)) hA
  have hq9 := va_Zqof (args := #[Value.ref b]) (A := fun q : Nat => s.heap.size ≤ q) (hts _ (g_t2 201 rfl)) (hts _ (g_t1 15 rfl)) (hg _ g_si) hA
  obtain ⟨t9, hq9⟩ : ∃ t9 : Nat, va_Z "jdk/internal/util/Preconditions" "SIOOBE_FORMATTER" "Ljava/util/function/BiFunction;" .null (fun q : Nat => s.heap.size ≤ q) s s.heap ∨ va_Z "jdk/internal/util/Preconditions" "SIOOBE_FORMATTER" "Ljava/util/function/BiFunction;" (.ref t9) (fun q : Nat => s.heap.size ≤ q) s s.heap := hq9.elim (fun h => ⟨0, Or.inl h⟩) (fun h => h.elim (fun t h => ⟨t, Or.inr h⟩))
  obtain ⟨aW, haW⟩ : ∃ aW : Nat → Nat, aW = fun i => if i = 900 then t9 else aV i := ⟨_, rfl⟩
  have hW0 : ∀ i, i < 3 → aW i = aV i := fun i hi => by rw [haW]; exact if_neg (by omega)
  have hW9 : aW 900 = t9 := by rw [haW]; exact if_pos rfl
  have hS : vk_S 3 g_ln g_by aK aW (fun q : Nat => s.heap.size ≤ q) s s.heap := vk_S_cong hS hW0
  rw [← hW9] at hq9
  refine ⟨(fun k => [c0, c1, c2, c3, c4, c5, c6, c7, c8, c9, c10, c11].getD k c0, fun k => [i0, i1, i2, i3, i4, i5, i6, i7, i8, i9, i10, i11].getD k i0), fun k => [a0, a1, a2, a3, a4, a5].getD k a0, aK, aW, ⟨?_, ?_⟩, g_nest, ?_, hS, ?_, ?_, ?_, hq9⟩
  · intro k q hq
    have hk : k < 12 := (List.getElem?_eq_some_iff.mp hq).1
    rcases (by omega : k = 0 ∨ k = 1 ∨ k = 2 ∨ k = 3 ∨ k = 4 ∨ k = 5 ∨ k = 6 ∨ k = 7 ∨ k = 8 ∨ k = 9 ∨ k = 10 ∨ k = 11) with rfl | rfl | rfl | rfl | rfl | rfl | rfl | rfl | rfl | rfl | rfl | rfl
    · cases hq; exact K0
    · cases hq; exact K1
    · cases hq; exact K2
    · cases hq; exact K3
    · cases hq; exact K4
    · cases hq; exact K5
    · cases hq; exact K6
    · cases hq; exact K7
    · cases hq; exact K8
    · cases hq; exact K9
    · cases hq; exact K10
    · cases hq; exact K11
  · intro k q hq
    have hk : k < 6 := (List.getElem?_eq_some_iff.mp hq).1
    rcases (by omega : k = 0 ∨ k = 1 ∨ k = 2 ∨ k = 3 ∨ k = 4 ∨ k = 5) with rfl | rfl | rfl | rfl | rfl | rfl
    · cases hq; exact A0
    · cases hq; exact A1
    · cases hq; exact A2
    · cases hq; exact A3
    · cases hq; exact A4
    · cases hq; exact A5
  · intro c hc
    have h2 := hts c (g_unM hc).1
    rcases g_nest c hc with ⟨_, _, _, _, rfl⟩ | ⟨_, _, _, _, _, _, rfl⟩ | ⟨_, _, rfl⟩
    · exact va_Nw.of rfl h2
    · exact va_Nw.of rfl h2
    · exact va_Nw.of rfl h2
  · intro q hq
    have hq2 : q ∈ g_ST := hq
    unfold g_ST at hq2
    simp only [List.mem_cons, List.not_mem_nil, or_false] at hq2
    rcases hq2 with rfl | rfl | rfl
    · exact vk_R.of (A := #[Value.ref b]) (hts _ (g_t1 36 rfl)) (hT 0 (by decide))
    · exact vk_R.of (A := #[Value.ref b]) (hts _ (g_t2 159 rfl)) (hT 1 (by decide))
    · exact vk_R.of (A := #[Value.ref b]) (hts _ (g_t3 60 rfl)) (hT 2 (by decide))
  · exact va_Zof (hts _ (g_t2 185 rfl)) (hts _ (g_t1 13 rfl)) (va_eqt (hg _ g_cs)) hA
  · intro C hC
    have hC2 : C ∈ g_rs := hC
    unfold g_rs at hC2
    simp only [List.mem_cons, List.not_mem_nil, or_false] at hC2
    rcases hC2 with rfl | rfl
    · exact va_AO.of (hts (.arrayOver (.object "TurnRing$Ring")) (g_t1 206 rfl))
    · exact va_AO.of (hts (.arrayOver (.object "TurnRing$Rule")) (g_t1 208 rfl))
/-! THE CLAIM OUT OF ONE WALK OF THE LAW'S BODY. Your part is whole_start (and what it stands on); all else here is the same for every law, but numbers. -/
def R_law : String := "TurnRingLaw"
def lw_P (b : Addr) (xs : List Int32) (args : Array Value) (s : State) : Prop := args = #[.ref b] ∧ s.IntsAt b xs ∧ xs.length ≤ 3072 ∧ (Jvm.Cond.and given_1 narrow_1).before args s = true
def lw_Q (_ : Array Value) (s : State) (o : Outcome) (t : State) : Prop := o = .returned (some (.int 1)) ∧ Framed s o t [] 600000 7302250
def lw_Z (below : List Frame) (a : Array Value) (s : State) : State → Prop := fun t => ∃ o, t.status = .running ∧ Ended t below o ∧ lw_Q a s o t
/-- the law's own end, with 1 on the stack, nothing written that was there before, its room as the claim has it -/
theorem lw_ret {p : Program} {l : Launch} {e : Env} {s : State} {m : MethodId} {below : List Frame} {meth : Method} {c : Code} {b : Nat} (hx : p.tables.exec = Jvm.exec) (hb : c.code = code) (hr : meth.sig.returnType = ret) (hlocks : meth.locks = false) {pc : Nat} {H : Heap} {ls : Array Slot} (hdg : decode code pc = .ok (.ireturn, 1)) : W p l e room_1 s m #[Value.ref b] below meth c H [] 600000 7302250 (lw_Z below #[Value.ref b] s) (F0 m pc ls [.int 1]) := by
  intro T hT X
  obtain ⟨fs, hret, hrun, hended, hW, hframe⟩ := X.leave (v := some (.int 1)) (hlocks := hlocks) (fun h => by rw [hr] at h; cases h)
  have hmeth' : T.vm.method? m = some meth := X.method'
  refine ⟨T.setFrames fs, ?_, .returned (some (.int 1)), hrun, hended, rfl, ⟨_, rfl⟩, hW, hframe⟩
  jvm_step X.here [X.here.top, hx, hb, hdg, hmeth', hr, ret, narrow_b1]
  (try refine ⟨rfl, ?_⟩); (try refine ⟨rfl, ?_⟩)
  first | (intro acts; rw [hret _ acts rfl rfl rfl]) | rw [hret _ _ rfl rfl rfl]
  exact Steps.refl _
/-- what holds at the law's entry: the machine, the code, the tables' words (any of lw_tbl by 'hts w (by decide +kernel)'), the script of L ints xs at the cell b, what the Statement gives of the start (any of its parts by flat_of_before) -/
def lw_At (p : Program) (s : State) (m : MethodId) (meth : Method) (c : Code) (b L : Nat) (xs : Nat → Int32) : Prop :=
  p.tables.exec = Jvm.exec ∧ c.code = code ∧ meth.sig.returnType = ret ∧ c.maxLocals = 4 ∧ s.vm.findClass R_law = some m.cls ∧ (∀ w ∈ lw_tbl, w.before #[Value.ref b] s = true) ∧ va_X b L xs s s.heap ∧ b < s.heap.size ∧ meth.locks = false ∧ (Jvm.Cond.and given_1 narrow_1).before #[Value.ref b] s = true
/-- from the entry, for every script, the law comes to its end with true -/
theorem whole_start {p : Program} {e : Env} {s : State} {m : MethodId} {below : List Frame} {meth : Method} {c : Code} (l : Launch) {b L : Nat} {xs : Nat → Int32} (hL : L ≤ 3072) (C0 : lw_At p s m meth c b L xs) : W p l e room_1 s m #[Value.ref b] below meth c s.heap [] 0 0 (lw_Z below #[Value.ref b] s) (entryFrame m ([Value.ref b] : List Value).toArray 4) := by
  obtain ⟨hx, hb, hr, hml, hown, hts, hX, hbl, hlocks, hgv⟩ := id C0
  have hA : ∀ q : Nat, s.heap.size ≤ q → (fun q : Nat => s.heap.size ≤ q) q := fun _ h => h
  have hbA : ¬ (fun q : Nat => s.heap.size ≤ q) b := Nat.not_le.mpr hbl
  have hG : ∀ x ∈ g_G.2.1, x.before #[Value.ref b] s = true := fun x hx => hts x (List.mem_filter.mp hx).1
  obtain ⟨D, dA, aK, aV, hC⟩ := g_Cx hts hgv
  have hl := lv_entry ([.ref b]) (n := 4) (Nat.le_of_ble_eq_true rfl)
  rw [lg_entry_eq]
  generalize (lg_sl ([.ref b]) ++ List.replicate (4 - (lg_sl ([.ref b])).length) Slot.unset).toArray = ls at hl ⊢
  have hl : lv_has ls 4 [(0, .ref b)] := hl
  obtain ⟨as, has⟩ : ∃ as : Nat → Nat, as = fun i => if i = ab_sb + 1000 then b else if i < ab_sb + 500 then aK (i - ab_sb) else if i = ab_sb + 900 then aV 900 else aV (i - (ab_sb + 500)) := ⟨_, rfl⟩
  have ha0 : as (ab_sb + 1000) = b := by rw [has]; exact if_pos rfl
  refine la_start (b := b) (L := L) (xs := xs) hL p l e room_1 s m #[Value.ref b] below meth c s.heap [] 0 0 D dA aK aV as (fun q : Nat => s.heap.size ≤ q) ls _ ⟨hx, hb, hml, trivial, trivial, hown, trivial, hG, by decide, by decide, hC, hA⟩ ⟨⟨fun i hi => ?_, ?_⟩, ha0, hX, hbl, hbA⟩ (fun k q h => by simp [ab_cw] at h) ⟨fun i j p q h => by simp [ab_cw] at h, fun k q h => by simp [ab_cw] at h⟩ va_S.rf ⟨rfl, _, hl, ?_⟩ (by decide) (by decide) ?_
  · have hi2 : i < 3 := hi
    rw [has]
    refine ⟨?_, ?_⟩
    · show (if ab_sb + i = ab_sb + 1000 then b else if ab_sb + i < ab_sb + 500 then aK (ab_sb + i - ab_sb) else if ab_sb + i = ab_sb + 900 then aV 900 else aV (ab_sb + i - (ab_sb + 500))) = aK i
      rw [if_neg (by omega), if_pos (by omega), Nat.add_sub_cancel_left]
    · show (if ab_sb + 500 + i = ab_sb + 1000 then b else if ab_sb + 500 + i < ab_sb + 500 then aK (ab_sb + 500 + i - ab_sb) else if ab_sb + 500 + i = ab_sb + 900 then aV 900 else aV (ab_sb + 500 + i - (ab_sb + 500))) = aV i
      rw [if_neg (by omega), if_neg (by omega), if_neg (by omega), Nat.add_sub_cancel_left]
  · rw [has]
    show (if ab_sb + 900 = ab_sb + 1000 then b else if ab_sb + 900 < ab_sb + 500 then aK (ab_sb + 900 - ab_sb) else if ab_sb + 900 = ab_sb + 900 then aV 900 else aV (ab_sb + 900 - (ab_sb + 500))) = aV 900
    rw [if_neg (by omega), if_neg (by omega), if_pos rfl]
  · intro i v hi
    rcases i with _ | _ | _ | _ | i
    · cases hi
      show (0, Value.ref (as (ab_sb + 1000))) ∈ _
      rw [ha0]
      exact List.mem_cons_self
    · cases hi
    · cases hi
    · cases hi
    · cases hi
  · intro pc ls H locs cells slots hd hS h1 h2
    refine va_forget (fun q hq => hS.2.2 q hq) ?_
    exact W.widen (k := 600000) (n := 7302250) h1 h2 (lw_ret hx hb hr hlocks hd)
set_option maxHeartbeats 4000000 in
theorem lw_walk (l : Launch) (b : Addr) (xs : List Int32) : MetFree l x (headSpec (Jvm.Cond.code x code maxLocals ret :: tables_1) room_1) (lw_P b xs) (fun _ _ _ _ _ => True) lw_Q := by
  refine MetFree.of_bodyS (code := code) (maxLocals := maxLocals) (ret := ret) (by decide) ?_ ?_
  · intro args s m h hn
    obtain ⟨meth, c, h1, h2, h3, h4, h5, h6, -, -⟩ := Cond.code_spec hn (atoms_spec (ws := Jvm.Cond.code x code maxLocals ret :: tables_1) h _ List.mem_cons_self)
    exact ⟨meth, c, h1, h2, h3, h4, h5, h6⟩
  · intro p e s m args below meth c s₁ B hml0 hP _
    obtain ⟨rfl, hx, hbd, hgv⟩ := hP
    obtain ⟨scr, harrAt, hlist, hof, hsmall⟩ := hx
    obtain ⟨hcb, hkn, -, -⟩ := State.arrayAt?_spec harrAt
    have hown : s.vm.findClass R_law = some m.cls := findClass_of_methodNamed B.named
    have hts0 : ∀ c ∈ (Jvm.Cond.code x code maxLocals ret :: tables_1), c.before #[Value.ref b] s = true := atoms_spec (ws := Jvm.Cond.code x code maxLocals ret :: tables_1) B.pre
    have hts : ∀ w ∈ lw_tbl, w.before #[Value.ref b] s = true := k2_hts_sels lw_privs (fun w hw => hts0 w (List.mem_cons_of_mem _ hw)) lw_privs_ok
    have hml : c.maxLocals = 4 := B.maxLocals_eq (hts0 _ List.mem_cons_self)
    have X₀ : Stand p l e room_1 s m #[Value.ref b] below meth c s₁ [] 0 0 := Stand.of_body B
    have hh0 : s₁.heap = s.heap := by rw [B.state]; rfl
    have hsz : scr.slots.size = xs.length := by rw [← Array.length_toList, hlist, List.length_map]
    have hval : ∀ j : Nat, j < xs.length → scr.slots[j]? = some (.int (xs.getD j 0)) := fun j hj => by
      rw [← Array.getElem?_toList, hlist]
      simp [hj]
    have hbl : b < s.heap.size := (Array.getElem?_eq_some_iff.mp hcb).1
    have hX : va_X b xs.length (fun j => xs.getD j 0) s s.heap := ⟨scr, hcb, hof, hkn, hsz, hval⟩
    have K : W p l e room_1 s m #[Value.ref b] below meth c s₁.heap [] 0 0 (lw_Z below #[Value.ref b] s) (entryFrame m ([Value.ref b] : List Value).toArray 4) := by
      rw [hh0]
      exact whole_start l hbd ⟨B.exec, B.bytes, B.returns, hml, hown, hts, hX, hbl, B.notSynchronized, hgv⟩
    obtain ⟨t, a1, o, b1, b2, b3⟩ := K s₁ rfl X₀
    exact ⟨t, o, a1, b1, b2, b3⟩
theorem lw_pre_spec {args : Array Value} {s : State} (h : (Jvm.Cond.and given_1 narrow_1).before args s = true) (hr : rest_1_c.before args s = true) : ∃ (b : Addr) (xs : List Int32), lw_P b xs args s := by
  have hs := flat_of_before _ h
  have hq := flat_of_before _ hr
  have hc : (Cond.count 1).before args s = true := hs _ (by decide +kernel)
  have harr : (Cond.arrayOf (.arg 0) .int).before args s = true := hs _ (by decide +kernel)
  have hle : (Cond.le (.length (.arg 0)) (.int 3072)).before args s = true := hs _ (by decide +kernel)
  have hlen : (Cond.isInt (.length (.arg 0))).before args s = true := hq _ (by decide +kernel)
  have hall : (Cond.all (.arg 0) (.isInt (.elem (.arg 0) (.index 0)))).before args s = true := hq _ (by decide +kernel)
  obtain ⟨b, xs, hb, hx⟩ := State.ints_of_pre rfl harr hlen hall
  have hsm : xs.length < 2 ^ 31 := hx.choose_spec.2.2.2
  have hev : (Term.length (.arg 0)).eval args s none [] s = some (.int xs.length.toInt32) := hx.length_eval hb
  have hv := Cond.le_ints hev (show (Term.int 3072).eval args s none [] s = some (.int 3072) from rfl)
  have hd : xs.length.toInt32 ≤ 3072 := by
    simpa [Cond.before, Cond.holds, hv] using hle
  have hN : xs.length ≤ 3072 := (Int32.ofNat_le_ofNat hsm (by decide)).mp (show Int32.ofNat xs.length ≤ Int32.ofNat 3072 from hd)
  exact ⟨b, xs, Cond.one_arg hc (show args[0]? = some (.ref b) from hb), hx, hN, h⟩
theorem lw_comes (l : Launch) : Comes l x (Jvm.Cond.code x code maxLocals ret :: tables_1) room_1 (fun tb e args s => Calls_1 tb e args s ∧ rest_1 tb e args s ∧ Pre_1 tb e args s)
    (fun _ _ args s o t => lw_Q args s o t) := by
  intro p e ha hc hk s m args below hf hfit hheap happ hpre
  obtain ⟨b, xs, hP⟩ := lw_pre_spec hpre.2.2 hpre.2.1
  obtain ⟨k, o, h1, h2, h3, hQ⟩ := lw_walk l b xs p e ha hc hk s m args below hf ((Spec.applies_iff_loose hf).mp happ).1 hP trivial
  exact ⟨k, o, h1, h2, h3, hQ⟩
theorem lw_frame {s t : State} {o : Outcome} {args : Array Value} (h : Framed s o t [] 600000 7302250) :
    Framed s o t (fieldLocs frame_1_writes args s ++ arrayLocs frame_1_arrays args s ++ staticLocs frame_1_statics s) 600000 7302250 := h
theorem lw_limb (L : Cond) (hL : ∀ (args : Array Value) (s t : State), L.after args s (.returned (some (.int 1))) t = true) :
    ArmFor flags0 classFile x code maxLocals ret World_1 tables_1 room_1 Calls_1 rest_1 Pre_1
      (fun tb e a s o t => postC L tb e a s o t ∧ Framed s o t (fieldLocs frame_1_writes a s ++ arrayLocs frame_1_arrays a s ++ staticLocs frame_1_statics s) 600000 7302250) := by
  intro l _ _ _ p e ha hc hk s m args below hf hfit hheap happ hpre
  obtain ⟨k, o, h1, h2, h3, rfl, hF⟩ := lw_comes l p e ha hc hk s m args below hf hfit hheap happ hpre
  exact ⟨k, _, h1, h2, h3, hL args s _, lw_frame hF⟩
theorem i_vc : Claimed_1_1 ∧ Claimed_1_2 := ⟨lw_limb limb_1_1 (fun args s t => by simp [limb_1_1, Cond.after, Cond.holds, Cond.value]), lw_limb limb_1_2 (fun args s t => Cond.after_iff.mpr (by
  first | (rw [show limb_1_2 = Cond.eq .result (.int 1) from rfl, Cond.eq_ints (x := 1) (y := 1) rfl rfl]; simp; done) | (simp [limb_1_2, Cond.value, Term.eval]; done)))⟩
