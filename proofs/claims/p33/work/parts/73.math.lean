/-! Math's own: max, min, abs -/
def ab_mk (G : ab_G) (own : String) (idx : Nat) (nm : MethodName) (cd : ByteArray) (n : Nat) (rt : FieldType) : Prop := Cond.methodLink own idx nm ∈ G.2.1 ∧ Cond.static nm ∈ G.2.1 ∧ Cond.initialized "java/lang/Math" ∈ G.2.1 ∧ Cond.code nm cd n (some rt) ∈ G.2.1
section EVM
variable {G : ab_G} {rs : List String} {M : ab_M} {d bc bs pc : Nat} {l : ab_L} {st : List ab_V} {w : ab_W} {Q : Option ab_V → ab_W → Prop}
theorem ev_mmax {a b : Int} (ha : ab_in a) (hb0 : ab_in b) {idx : Nat} (hd : decode M.2.1 pc = .ok (.invokestatic idx, 3)) (hk : ab_mk G M.1.cls idx Lib.Math.max.name Lib.Math.max.code 2 .int) (hw : ab_wd st ≤ 8) (hdd : 1 ≤ d) (kk : ab_Ev G rs M d bc bs (pc + 3) l (.inl (if a < b then b else a) :: st) w Q) : ab_Ev G rs M d bc bs pc l (.inl b :: .inl a :: st) w Q := by
  intro p la e R s m args below meth c H locs cells slots D dA aK aV as A ls Qc free hF hs hP hD hS hl h1 h2 hR
  have k := kk p la e R s m args below meth c H locs cells slots D dA aK aV as A ls Qc free hF hs hP hD hS hl h1 h2 hR
  obtain ⟨hx, hb, hml, -, -, ho, -, ht, hfr, hlc, hC, hA⟩ := hF
  have hsz : c.maxLocals = ls.size := by obtain ⟨-, lv, z, -⟩ := hl; rw [hml, z.1]
  have hsum := ab_wsum as st
  refine va_mmax hx hb hsz ho (ht _ (List.mem_cons_of_mem _ hk.1)) (ht _ (List.mem_cons_of_mem _ hk.2.1)) (ht _ (List.mem_cons_of_mem _ hk.2.2.1)) (ht _ (List.mem_cons_of_mem _ hk.2.2.2)) (by omega) (by rw [hsum]; omega) (by omega) (by omega) hd ?_
  have e : (if Int32.ofInt a < Int32.ofInt b then Int32.ofInt b else Int32.ofInt a) = Int32.ofInt (if a < b then b else a) := by
    by_cases z : a < b
    · rw [if_pos z, if_pos ((ab_lt ha hb0).mpr z)]
    · rw [if_neg z, if_neg (fun q => z ((ab_lt ha hb0).mp q))]
  rw [e]
  exact k
theorem ev_mmin {a b : Int} (ha : ab_in a) (hb0 : ab_in b) {idx : Nat} (hd : decode M.2.1 pc = .ok (.invokestatic idx, 3)) (hk : ab_mk G M.1.cls idx Lib.Math.min.name Lib.Math.min.code 2 .int) (hw : ab_wd st ≤ 8) (hdd : 1 ≤ d) (kk : ab_Ev G rs M d bc bs (pc + 3) l (.inl (if b < a then b else a) :: st) w Q) : ab_Ev G rs M d bc bs pc l (.inl b :: .inl a :: st) w Q := by
  intro p la e R s m args below meth c H locs cells slots D dA aK aV as A ls Qc free hF hs hP hD hS hl h1 h2 hR
  have k := kk p la e R s m args below meth c H locs cells slots D dA aK aV as A ls Qc free hF hs hP hD hS hl h1 h2 hR
  obtain ⟨hx, hb, hml, -, -, ho, -, ht, hfr, hlc, hC, hA⟩ := hF
  have hsz : c.maxLocals = ls.size := by obtain ⟨-, lv, z, -⟩ := hl; rw [hml, z.1]
  have hsum := ab_wsum as st
  refine va_mmin hx hb hsz ho (ht _ (List.mem_cons_of_mem _ hk.1)) (ht _ (List.mem_cons_of_mem _ hk.2.1)) (ht _ (List.mem_cons_of_mem _ hk.2.2.1)) (ht _ (List.mem_cons_of_mem _ hk.2.2.2)) (by omega) (by rw [hsum]; omega) (by omega) (by omega) hd ?_
  have e : (if Int32.ofInt b < Int32.ofInt a then Int32.ofInt b else Int32.ofInt a) = Int32.ofInt (if b < a then b else a) := by
    by_cases z : b < a
    · rw [if_pos z, if_pos ((ab_lt hb0 ha).mpr z)]
    · rw [if_neg z, if_neg (fun q => z ((ab_lt hb0 ha).mp q))]
  rw [e]
  exact k
theorem ev_mabs {a : Int} (ha : ab_in a) {idx : Nat} (hd : decode M.2.1 pc = .ok (.invokestatic idx, 3)) (hk : ab_mk G M.1.cls idx Lib.Math.abs.name Lib.Math.abs.code 1 .int) (hw : ab_wd st ≤ 8) (hdd : 1 ≤ d) (kk : ab_Ev G rs M d bc bs (pc + 3) l (.inl (if 0 ≤ a then a else 0 - a) :: st) w Q) : ab_Ev G rs M d bc bs pc l (.inl a :: st) w Q := by
  intro p la e R s m args below meth c H locs cells slots D dA aK aV as A ls Qc free hF hs hP hD hS hl h1 h2 hR
  have k := kk p la e R s m args below meth c H locs cells slots D dA aK aV as A ls Qc free hF hs hP hD hS hl h1 h2 hR
  obtain ⟨hx, hb, hml, -, -, ho, -, ht, hfr, hlc, hC, hA⟩ := hF
  have hsz : c.maxLocals = ls.size := by obtain ⟨-, lv, z, -⟩ := hl; rw [hml, z.1]
  have hsum := ab_wsum as st
  refine va_mabs hx hb hsz ho (ht _ (List.mem_cons_of_mem _ hk.1)) (ht _ (List.mem_cons_of_mem _ hk.2.1)) (ht _ (List.mem_cons_of_mem _ hk.2.2.1)) (ht _ (List.mem_cons_of_mem _ hk.2.2.2)) (by omega) (by rw [hsum]; omega) (by omega) (by omega) hd ?_
  have e : (if 0 ≤ Int32.ofInt a then Int32.ofInt a else 0 - Int32.ofInt a) = Int32.ofInt (if 0 ≤ a then a else 0 - a) := by
    by_cases z : 0 ≤ a
    · have hz : (0 : Int32) ≤ Int32.ofInt a := (ab_le ab_in0 ha).mpr z
      rw [if_pos z, if_pos hz]
    · have hz : ¬ (0 : Int32) ≤ Int32.ofInt a := fun q => z ((ab_le ab_in0 ha).mp q)
      rw [if_neg z, if_neg hz, Int32.ofInt_sub]
      rfl
  rw [e]
  exact k
theorem ev_mmax_long {a b : Int64} {idx : Nat} (hd : decode M.2.1 pc = .ok (.invokestatic idx, 3)) (hk : ab_mk G M.1.cls idx Lib.MathLoose.max_long.x Lib.MathLoose.max_long.code 4 .long) (hw : ab_wd st ≤ 8) (hdd : 1 ≤ d) (kk : ab_Ev G rs M d bc bs (pc + 3) l (.inr (.inl (if b < a then a else b)) :: st) w Q) : ab_Ev G rs M d bc bs pc l (.inr (.inl b) :: .inr (.inl a) :: st) w Q := by
  intro p la e R s m args below meth c H locs cells slots D dA aK aV as A ls Qc free hF hs hP hD hS hl h1 h2 hR
  have k := kk p la e R s m args below meth c H locs cells slots D dA aK aV as A ls Qc free hF hs hP hD hS hl h1 h2 hR
  obtain ⟨hx, hb, hml, -, -, ho, -, ht, hfr, hlc, hC, hA⟩ := hF
  have hsz : c.maxLocals = ls.size := by obtain ⟨-, lv, z, -⟩ := hl; rw [hml, z.1]
  have hsum := ab_wsum as st
  refine va_mmax_long hx hb hsz ho (ht _ (List.mem_cons_of_mem _ hk.1)) (ht _ (List.mem_cons_of_mem _ hk.2.1)) (ht _ (List.mem_cons_of_mem _ hk.2.2.1)) (ht _ (List.mem_cons_of_mem _ hk.2.2.2)) (by omega) (by rw [hsum]; omega) (by omega) (by omega) hd ?_
  exact k
theorem ev_mmin_long {a b : Int64} {idx : Nat} (hd : decode M.2.1 pc = .ok (.invokestatic idx, 3)) (hk : ab_mk G M.1.cls idx Lib.MathLoose.min_long.x Lib.MathLoose.min_long.code 4 .long) (hw : ab_wd st ≤ 8) (hdd : 1 ≤ d) (kk : ab_Ev G rs M d bc bs (pc + 3) l (.inr (.inl (if b < a then b else a)) :: st) w Q) : ab_Ev G rs M d bc bs pc l (.inr (.inl b) :: .inr (.inl a) :: st) w Q := by
  intro p la e R s m args below meth c H locs cells slots D dA aK aV as A ls Qc free hF hs hP hD hS hl h1 h2 hR
  have k := kk p la e R s m args below meth c H locs cells slots D dA aK aV as A ls Qc free hF hs hP hD hS hl h1 h2 hR
  obtain ⟨hx, hb, hml, -, -, ho, -, ht, hfr, hlc, hC, hA⟩ := hF
  have hsz : c.maxLocals = ls.size := by obtain ⟨-, lv, z, -⟩ := hl; rw [hml, z.1]
  have hsum := ab_wsum as st
  refine va_mmin_long hx hb hsz ho (ht _ (List.mem_cons_of_mem _ hk.1)) (ht _ (List.mem_cons_of_mem _ hk.2.1)) (ht _ (List.mem_cons_of_mem _ hk.2.2.1)) (ht _ (List.mem_cons_of_mem _ hk.2.2.2)) (by omega) (by rw [hsum]; omega) (by omega) (by omega) hd ?_
  exact k
end EVM
theorem mk_Rr_63 : ab_mk g_G "TurnRing$RingReader" 63 Lib.Math.max.name Lib.Math.max.code 2 .int := ⟨g_memT (g_t3 14 rfl) rfl, g_memT (g_t3 15 rfl) rfl, g_memT (g_t1 18 rfl) rfl, g_memT (g_t3 16 rfl) rfl⟩
theorem mk_Ri_140 : ab_mk g_G "TurnRing$Ring" 140 Lib.Math.abs.name Lib.Math.abs.code 1 .int := ⟨g_memT (g_t3 221 rfl) rfl, g_memT (g_t3 222 rfl) rfl, g_memT (g_t1 18 rfl) rfl, g_memT (g_t3 223 rfl) rfl⟩
theorem mk_Ri_118 : ab_mk g_G "TurnRing$Ring" 118 Lib.Math.min.name Lib.Math.min.code 2 .int := ⟨g_memT (g_t3 224 rfl) rfl, g_memT (g_t3 113 rfl) rfl, g_memT (g_t1 18 rfl) rfl, g_memT (g_t3 114 rfl) rfl⟩
theorem mk_Ac_26 : ab_mk g_G "TurnRing$ActLog" 26 Lib.Math.min.name Lib.Math.min.code 2 .int := ⟨g_memT (g_t3 229 rfl) rfl, g_memT (g_t3 113 rfl) rfl, g_memT (g_t1 18 rfl) rfl, g_memT (g_t3 114 rfl) rfl⟩
theorem mk_Ri_113 : ab_mk g_G "TurnRing$Ring" 113 Lib.Math.max.name Lib.Math.max.code 2 .int := ⟨g_memT (g_t4 44 rfl) rfl, g_memT (g_t3 15 rfl) rfl, g_memT (g_t1 18 rfl) rfl, g_memT (g_t3 16 rfl) rfl⟩
theorem mk_Ma_53 : ab_mk g_G "TurnRing$Machine" 53 Lib.MathLoose.min_long.x Lib.MathLoose.min_long.code 4 .long := ⟨g_memT (g_t4 72 rfl) rfl, g_memT (g_t4 73 rfl) rfl, g_memT (g_t1 18 rfl) rfl, g_memT (g_t4 74 rfl) rfl⟩
theorem mk_Ma_59 : ab_mk g_G "TurnRing$Machine" 59 Lib.MathLoose.max_long.x Lib.MathLoose.max_long.code 4 .long := ⟨g_memT (g_t4 75 rfl) rfl, g_memT (g_t4 76 rfl) rfl, g_memT (g_t1 18 rfl) rfl, g_memT (g_t4 77 rfl) rfl⟩
theorem mk_Tu_259 : ab_mk g_G "TurnRing" 259 Lib.Math.abs.name Lib.Math.abs.code 1 .int := ⟨g_memT (g_t4 140 rfl) rfl, g_memT (g_t3 222 rfl) rfl, g_memT (g_t1 18 rfl) rfl, g_memT (g_t3 223 rfl) rfl⟩
theorem mk_Tu_264 : ab_mk g_G "TurnRing" 264 Lib.Math.min.name Lib.Math.min.code 2 .int := ⟨g_memT (g_t4 141 rfl) rfl, g_memT (g_t3 113 rfl) rfl, g_memT (g_t1 18 rfl) rfl, g_memT (g_t3 114 rfl) rfl⟩
theorem mk_Pl_76 : ab_mk g_G "TurnRing$Planner" 76 Lib.Math.min.name Lib.Math.min.code 2 .int := ⟨g_memT (g_t4 173 rfl) rfl, g_memT (g_t3 113 rfl) rfl, g_memT (g_t1 18 rfl) rfl, g_memT (g_t3 114 rfl) rfl⟩
theorem mk_Tr_64 : ab_mk g_G "TurnRing$Trader" 64 Lib.Math.max.name Lib.Math.max.code 2 .int := ⟨g_memT (g_t4 215 rfl) rfl, g_memT (g_t3 15 rfl) rfl, g_memT (g_t1 18 rfl) rfl, g_memT (g_t3 16 rfl) rfl⟩
theorem mk_Tu_299 : ab_mk g_G "TurnRing" 299 Lib.Math.max.name Lib.Math.max.code 2 .int := ⟨g_memT (g_t4 232 rfl) rfl, g_memT (g_t3 15 rfl) rfl, g_memT (g_t1 18 rfl) rfl, g_memT (g_t3 16 rfl) rfl⟩
theorem mk_Gu_79 : ab_mk g_G "TurnRing$Guesser" 79 Lib.Math.max.name Lib.Math.max.code 2 .int := ⟨g_memT (g_t5 38 rfl) rfl, g_memT (g_t3 15 rfl) rfl, g_memT (g_t1 18 rfl) rfl, g_memT (g_t3 16 rfl) rfl⟩
