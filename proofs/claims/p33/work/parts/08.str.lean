/-! rules: what string constants hold, the statics that String asks; chars and bytes returned -/
section EVS
variable {G : ab_G} {rs : List String} {M : ab_M} {d bc bs pc : Nat} {l : ab_L} {st : List ab_V} {w : ab_W} {Q : Option ab_V → ab_W → Prop}
theorem ev_compact {idx : Nat} (hd : decode M.2.1 pc = .ok (.getstatic idx, 3)) (hk : Cond.fieldLink M.1.cls idx "java/lang/String" "COMPACT_STRINGS" "Z" ∈ G.2.1) (kk : ab_Ev G rs M d bc bs (pc + 3) l (.inl 1 :: st) w Q) : ab_Ev G rs M d bc bs pc l st w Q := by
  intro p la e R s m args below meth c H locs cells slots D dA aK aV as A ls Qc free hF hs hP hD hS hl h1 h2 hR
  have k := kk p la e R s m args below meth c H locs cells slots D dA aK aV as A ls Qc free hF hs hP hD hS hl h1 h2 hR
  obtain ⟨hx, hb, hml, -, -, ho, -, ht, hfr, hlc, hC, hA⟩ := hF
  exact va_gets hx hb hC.2.2.2.2.2.1 hS ho (ht _ (List.mem_cons_of_mem _ hk)) (fun _ h => h) hd k
theorem ev_siob {idx : Nat} (hd : decode M.2.1 pc = .ok (.getstatic idx, 3)) (hk : Cond.fieldLink M.1.cls idx "jdk/internal/util/Preconditions" "SIOOBE_FORMATTER" "Ljava/util/function/BiFunction;" ∈ G.2.1) (k1 : ab_Ev G rs M d bc bs (pc + 3) l (.inr (.inr none) :: st) w Q) (k2 : ab_Ev G rs M d bc bs (pc + 3) l (.inr (.inr (some (ab_sb + 900))) :: st) w Q) : ab_Ev G rs M d bc bs pc l st w Q := by
  intro p la e R s m args below meth c H locs cells slots D dA aK aV as A ls Qc free hF hs hP hD hS hl h1 h2 hR
  have k1 := k1 p la e R s m args below meth c H locs cells slots D dA aK aV as A ls Qc free hF hs hP hD hS hl h1 h2 hR
  have k2 := k2 p la e R s m args below meth c H locs cells slots D dA aK aV as A ls Qc free hF hs hP hD hS hl h1 h2 hR
  obtain ⟨hx, hb, hml, -, -, ho, -, ht, hfr, hlc, hC, hA⟩ := hF
  rcases hC.2.2.2.2.2.2.2 with hZ | hZ
  · exact va_gets hx hb hZ hS ho (ht _ (List.mem_cons_of_mem _ hk)) (fun _ h => h) hd k1
  · rw [← hs.2] at hZ
    exact va_gets hx hb hZ hS ho (ht _ (List.mem_cons_of_mem _ hk)) (fun _ h => h) hd k2
theorem ev_coder {idx k : Nat} (hd : decode M.2.1 pc = .ok (.getfield idx, 3)) (hl : Cond.fieldLink M.1.cls idx "java/lang/String" "coder" "B" ∈ G.2.1) (hk : k < G.2.2.2.2.1.length) (kk : ab_Ev G rs M d bc bs (pc + 3) l (.inl 0 :: st) w Q) : ab_Ev G rs M d bc bs pc l (.inr (.inr (some (ab_sb + k))) :: st) w Q := by
  intro p la e R s m args below meth c H locs cells slots D dA aK aV as A ls Qc free hF hs hP hD hS hll h1 h2 hR
  have q := kk p la e R s m args below meth c H locs cells slots D dA aK aV as A ls Qc free hF hs hP hD hS hll h1 h2 hR
  obtain ⟨hx, hb, hml, -, -, ho, -, ht, hfr, hlc, hC, hA⟩ := hF
  have hO := (hC.2.2.2.1.1 k hk).2.1
  rw [← (hs.1 k hk).1] at hO
  exact vk_getf hx hb hO hS ho (ht _ (List.mem_cons_of_mem _ hl)) (fun _ h => h) hd q
theorem ev_value {idx k : Nat} (hd : decode M.2.1 pc = .ok (.getfield idx, 3)) (hl : Cond.fieldLink M.1.cls idx "java/lang/String" "value" "[B" ∈ G.2.1) (hk : k < G.2.2.2.2.1.length) (kk : ab_Ev G rs M d bc bs (pc + 3) l (.inr (.inr (some (ab_sb + 500 + k))) :: st) w Q) : ab_Ev G rs M d bc bs pc l (.inr (.inr (some (ab_sb + k))) :: st) w Q := by
  intro p la e R s m args below meth c H locs cells slots D dA aK aV as A ls Qc free hF hs hP hD hS hll h1 h2 hR
  have q := kk p la e R s m args below meth c H locs cells slots D dA aK aV as A ls Qc free hF hs hP hD hS hll h1 h2 hR
  obtain ⟨hx, hb, hml, -, -, ho, -, ht, hfr, hlc, hC, hA⟩ := hF
  have hO := (hC.2.2.2.1.1 k hk).2.2.1
  rw [← (hs.1 k hk).1, ← (hs.1 k hk).2] at hO
  exact vk_getf hx hb hO hS ho (ht _ (List.mem_cons_of_mem _ hl)) (fun _ h => h) hd q
theorem ev_valen {k n : Nat} (hd : decode M.2.1 pc = .ok (.arraylength, 1)) (hk : k < G.2.2.2.2.1.length) (hn : G.2.2.2.2.1.getD k 0 = n) (kk : ab_Ev G rs M d bc bs (pc + 1) l (.inl (n : Int) :: st) w Q) : ab_Ev G rs M d bc bs pc l (.inr (.inr (some (ab_sb + 500 + k))) :: st) w Q := by
  intro p la e R s m args below meth c H locs cells slots D dA aK aV as A ls Qc free hF hs hP hD hS hll h1 h2 hR
  have q := kk p la e R s m args below meth c H locs cells slots D dA aK aV as A ls Qc free hF hs hP hD hS hll h1 h2 hR
  obtain ⟨hx, hb, hml, -, -, ho, -, ht, hfr, hlc, hC, hA⟩ := hF
  have hT := (hC.2.2.2.1.1 k hk).2.2.2
  rw [← (hs.1 k hk).2, hn] at hT
  exact va_tlen hx hb hT hS rfl hd q
theorem ev_vald {k n : Nat} {j : Int} {b : Int} (hd : decode M.2.1 pc = .ok (.baload, 1)) (hk : k < G.2.2.2.2.1.length) (hn : G.2.2.2.2.1.getD k 0 = n) (h0 : 0 ≤ j) (hj : j < n) (hi : ab_in j) (hb0 : (G.2.2.2.2.2.getD k []).getD j.toNat 0 = Int32.ofInt b) (kk : ab_Ev G rs M d bc bs (pc + 1) l (.inl b :: st) w Q) : ab_Ev G rs M d bc bs pc l (.inl j :: .inr (.inr (some (ab_sb + 500 + k))) :: st) w Q := by
  intro p la e R s m args below meth c H locs cells slots D dA aK aV as A ls Qc free hF hs hP hD hS hll h1 h2 hR
  have q := kk p la e R s m args below meth c H locs cells slots D dA aK aV as A ls Qc free hF hs hP hD hS hll h1 h2 hR
  obtain ⟨hx, hb, hml, -, -, ho, -, ht, hfr, hlc, hC, hA⟩ := hF
  have hT := (hC.2.2.2.1.1 k hk).2.2.2
  rw [← (hs.1 k hk).2, hn] at hT
  refine va_tb hx hb hT hS (ab_ix h0 hj hi) ?_ hd q
  rw [ab_tn hi, hb0]
  rfl
theorem ev_nreturn {a : Int} {ty : FieldType} (hd : decode M.2.1 pc = .ok (.ireturn, 1)) (hr : M.2.2.2 = some ty) (ha : narrow ty (.int (Int32.ofInt a)) = .int (Int32.ofInt a)) (hq : Q (some (.inl a)) w) : ab_Ev G rs M d bc bs pc l [.inl a] w Q := by
  intro p la e R s m args below meth c H locs cells slots D dA aK aV as A ls Qc free hF hs hP hD hS hl h1 h2 hR
  obtain ⟨hx, hb, -, hr', hlk, -⟩ := hF
  have h := ab_ret hR hq hP hD hS
  exact W.widen (k := R.cells) (n := R.slots) (by omega) (by omega) (W.zret hx hb (hr'.trans hr) ha h.1 h.2 hd)
theorem ev_i2c {a b : Int} (hd : decode M.2.1 pc = .ok (.i2c, 1)) (hv : ((Int32.ofInt a).toUInt32 % 65536).toInt32 = Int32.ofInt b) (k : ab_Ev G rs M d bc bs (pc + 1) l (.inl b :: st) w Q) : ab_Ev G rs M d bc bs pc l (.inl a :: st) w Q := ab_go (fun _ hx hb _ _ _ kk => lv_i2c hx hb hd hv kk) k
end EVS
