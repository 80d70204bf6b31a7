/-! T-mode: what shape each cell keeps; what a slot holds; what stays -/
abbrev tm_F : Type := ab_V → Prop
abbrev tm_S : Type := Option ab_E → Prop
def tm_i (lo hi : Int) : tm_F := fun v => ∃ a : Int, v = ab_I a ∧ lo ≤ a ∧ a ≤ hi
def tm_r (p : Nat) : tm_F := fun v => v = ab_R p
def tm_rr (a b : Nat) : tm_F := fun v => v = ab_R a ∨ v = ab_R b
def tm_s : tm_F := fun v => ∃ k : Nat, v = ab_R (ab_sb + k) ∧ k < g_ln.length
def tm_ai (t n : Nat) (lo hi : Int) : tm_S := fun c => ∃ f : Int → Int, c = some (ab_ai t n f) ∧ ∀ k, lo ≤ f k ∧ f k ≤ hi
def tm_al (n : Nat) : tm_S := fun c => ∃ f : Int → Int64, c = some (ab_al n f)
def tm_ar (t n : Nat) : tm_S := fun c => ∃ f : Int → Option Nat, c = some (ab_ar t n f)
def tm_o (ci : Nat) (fs : List tm_F) : tm_S := fun c => ∃ vs : List ab_V, c = some (ab_ob ci vs) ∧ vs.length = fs.length ∧ ∀ (k : Nat) (F : tm_F), fs[k]? = some F → ∃ v, vs[k]? = some v ∧ F v
def tm_W (N : Nat) (T : Nat → tm_S) (w : ab_W) : Prop := w.length = N ∧ (∀ p, T p w[p]?) ∧ ab_okW w
def tm_gE (e : Option ab_E) (k : Int) : Option ab_V := match e with
  | some (.inl (_, _, f)) => some (ab_I (f k))
  | some (.inr (.inl (_, f))) => some (ab_J (f k))
  | some (.inr (.inr (.inl (_, _, f)))) => some (.inr (.inr (f k)))
  | some (.inr (.inr (.inr (_, vs)))) => if 0 ≤ k then vs[k.toNat]? else none
  | none => none
def tm_g (w : ab_W) (p : Nat) (k : Int) : Option ab_V := tm_gE w[p]? k
theorem tm_lt {w : ab_W} {o : Nat} {e : ab_E} (h : w[o]? = some e) : o < w.length := by
  rcases Nat.lt_or_ge o w.length with h1 | h1
  · exact h1
  · rw [List.getElem?_eq_none h1] at h; cases h
theorem tm_set {N : Nat} {T : Nat → tm_S} {w : ab_W} {o : Nat} {e E : ab_E} (hW : tm_W N T w) (h : w[o]? = some e) (hE : T o (some E)) (hok : ab_okE w.length E) : tm_W N T (w.set o E) := by
  refine ⟨by rw [List.length_set]; exact hW.1, fun p => ?_, fun e he => ?_⟩
  rotate_left
  · rw [List.length_set]
    rcases List.mem_or_eq_of_mem_set he with h2 | h2
    · exact hW.2.2 e h2
    · rw [h2]; exact hok
  rcases Nat.decEq p o with hn | rfl
  · rw [List.getElem?_set_ne (fun z => hn z.symm)]; exact hW.2.1 p
  · rw [List.getElem?_set_self (tm_lt h)]; exact hE
theorem tm_g_ne {w : ab_W} {o p : Nat} {E : ab_E} {k : Int} (h : ¬ p = o) : tm_g (w.set o E) p k = tm_g w p k := by
  unfold tm_g; rw [List.getElem?_set_ne (fun z => h z.symm)]
theorem tm_g_set {w : ab_W} {o : Nat} {e E : ab_E} {k : Int} (h : w[o]? = some e) : tm_g (w.set o E) o k = tm_gE (some E) k := by
  unfold tm_g; rw [List.getElem?_set_self (tm_lt h)]
theorem tm_gob {w : ab_W} {o ci k : Nat} {K : Int} {vs : List ab_V} {v : ab_V} (hK : K = (k : Int)) (h : w[o]? = some (ab_ob ci vs)) (hv : vs[k]? = some v) : tm_g w o K = some v := by
  subst hK
  unfold tm_g; rw [h]; show (if (0 : Int) ≤ (k : Int) then vs[(k : Int).toNat]? else none) = _
  rw [if_pos (by omega), Int.toNat_natCast]; exact hv
theorem tm_gob2 {w : ab_W} {o ci k : Nat} {K : Int} {vs : List ab_V} {v : ab_V} (hK : K = (k : Int)) (h : w[o]? = some (ab_ob ci vs)) (hv : tm_g w o K = some v) : vs[k]? = some v := by
  subst hK
  unfold tm_g at hv; rw [h] at hv
  have hv : (if (0 : Int) ≤ (k : Int) then vs[(k : Int).toNat]? else none) = some v := hv
  rwa [if_pos (by omega), Int.toNat_natCast] at hv
theorem tm_cell {N : Nat} {T : Nat → tm_S} {w : ab_W} {o ci : Nat} {fs : List tm_F} (hW : tm_W N T w) (hS : T o = tm_o ci fs) : ∃ vs, w[o]? = some (ab_ob ci vs) ∧ vs.length = fs.length ∧ ∀ (k : Nat) (F : tm_F), fs[k]? = some F → ∃ v, vs[k]? = some v ∧ F v := by
  have h := hW.2.1 o
  rw [hS] at h
  exact h
theorem tm_peek {N : Nat} {T : Nat → tm_S} {w : ab_W} {o ci k : Nat} {K lo hi : Int} {fs : List tm_F} (hW : tm_W N T w) (hS : T o = tm_o ci fs) (hK : K = (k : Int)) (hk : fs[k]? = some (tm_i lo hi)) : ∃ a : Int, tm_g w o K = some (ab_I a) ∧ lo ≤ a ∧ a ≤ hi := by
  obtain ⟨vs, hc, -, hv⟩ := tm_cell hW hS
  obtain ⟨v, hvk, a, rfl, h0, h1⟩ := hv k _ hk
  exact ⟨a, tm_gob hK hc hvk, h0, h1⟩
theorem tm_peekA {N : Nat} {T : Nat → tm_S} {w : ab_W} {o t n : Nat} {K lo hi : Int} (hW : tm_W N T w) (hS : T o = tm_ai t n lo hi) : ∃ a : Int, tm_g w o K = some (ab_I a) ∧ lo ≤ a ∧ a ≤ hi := by
  have h := hW.2.1 o
  rw [hS] at h
  obtain ⟨f, hc, hb⟩ := h
  exact ⟨f K, by unfold tm_g; rw [hc]; rfl, (hb K).1, (hb K).2⟩
theorem tm_setob {N : Nat} {T : Nat → tm_S} {w : ab_W} {o ci k : Nat} {K : Int} {fs : List tm_F} {F : tm_F} {vs : List ab_V} {v : ab_V} (hW : tm_W N T w) (hS : T o = tm_o ci fs) (hK : K = (k : Int)) (hk : fs[k]? = some F) (hF : F v) (hok : ab_ok N v) (hc : w[o]? = some (ab_ob ci vs)) (hl : vs.length = fs.length) (hv : ∀ (k : Nat) (F : tm_F), fs[k]? = some F → ∃ v, vs[k]? = some v ∧ F v) :
    k < vs.length ∧ tm_W N T (w.set o (ab_ob ci (vs.set k v))) ∧ tm_g (w.set o (ab_ob ci (vs.set k v))) o K = some v ∧ ∀ (p : Nat) (j : Int), ¬ (p = o ∧ j = K) → tm_g (w.set o (ab_ob ci (vs.set k v))) p j = tm_g w p j := by
  have hlt : k < vs.length := by
    obtain ⟨u, hu, -⟩ := hv k F hk
    rcases Nat.lt_or_ge k vs.length with h1 | h1
    · exact h1
    · rw [List.getElem?_eq_none h1] at hu; cases hu
  refine ⟨hlt, tm_set hW hc ?_ ?_, tm_gob hK (ab_gs hc) (List.getElem?_set_self hlt), fun p j hn => ?_⟩
  · rw [hS]
    refine ⟨_, rfl, by rw [List.length_set]; exact hl, fun i F2 h2 => ?_⟩
    rcases Nat.decEq i k with hn | rfl
    · rw [List.getElem?_set_ne (fun z => hn z.symm)]; exact hv i F2 h2
    · rw [hk] at h2
      obtain rfl := Option.some.inj h2
      exact ⟨v, List.getElem?_set_self hlt, hF⟩
  · intro u hu
    rcases List.mem_or_eq_of_mem_set hu with h2 | h2
    · exact hW.2.2 _ (List.mem_of_getElem? hc) u h2
    · rw [h2, hW.1]; exact hok
  · rcases Nat.decEq p o with hp | rfl
    · exact tm_g_ne hp
    · rw [tm_g_set hc]
      unfold tm_g; rw [hc]
      show (if 0 ≤ j then (vs.set k v)[j.toNat]? else none) = (if 0 ≤ j then vs[j.toNat]? else none)
      by_cases h0 : 0 ≤ j
      · rw [if_pos h0, if_pos h0, List.getElem?_set_ne (fun z => hn ⟨rfl, by omega⟩)]
      · rw [if_neg h0, if_neg h0]
theorem tm_setai {N : Nat} {T : Nat → tm_S} {w : ab_W} {o t n : Nat} {lo hi j x : Int} {f : Int → Int} (hW : tm_W N T w) (hS : T o = tm_ai t n lo hi) (hc : w[o]? = some (ab_ai t n f)) (hb : ∀ k, lo ≤ f k ∧ f k ≤ hi) (h0 : lo ≤ x) (h1 : x ≤ hi) :
    tm_W N T (w.set o (ab_ai t n (ab_up f j x))) ∧ tm_g (w.set o (ab_ai t n (ab_up f j x))) o j = some (ab_I x) ∧ ∀ (p : Nat) (i : Int), ¬ (p = o ∧ i = j) → tm_g (w.set o (ab_ai t n (ab_up f j x))) p i = tm_g w p i := by
  refine ⟨tm_set hW hc ?_ trivial, ?_, fun p i hn => ?_⟩
  · rw [hS]
    refine ⟨_, rfl, fun k => ?_⟩
    unfold ab_up
    split
    · exact ⟨h0, h1⟩
    · exact hb k
  · rw [tm_g_set hc]; show some (ab_I (ab_up f j x j)) = _; rw [ab_upe]
  · rcases Nat.decEq p o with hp | rfl
    · exact tm_g_ne hp
    · rw [tm_g_set hc]
      unfold tm_g; rw [hc]
      show some (ab_I (ab_up f j x i)) = some (ab_I (f i))
      rw [ab_upn _ _ (fun z => hn ⟨rfl, z⟩)]
theorem tm_iand_b (a b : Int) : ab_in (ab_iand a b) ∧ (0 ≤ a → a ≤ 2147483647 → 0 ≤ ab_iand a b ∧ ab_iand a b ≤ a) ∧ (0 ≤ b → b ≤ 2147483647 → 0 ≤ ab_iand a b ∧ ab_iand a b ≤ b) := by
  have key : ∀ x y : Int, 0 ≤ y → y ≤ 2147483647 → 0 ≤ ab_iand x y ∧ ab_iand x y ≤ y := by
    intro x y h0 h1
    have hb := ab_natbv h0 h1
    have hle : (Int32.ofInt x &&& Int32.ofInt y).toBitVec.toNat ≤ y.toNat := by
      have : (Int32.ofInt x &&& Int32.ofInt y).toBitVec = (Int32.ofInt x).toBitVec &&& (Int32.ofInt y).toBitVec := rfl
      rw [this, BitVec.toNat_and, hb]
      exact Nat.and_le_right
    have h2 := ab_bvint (x := Int32.ofInt x &&& Int32.ofInt y) rfl (by omega)
    unfold ab_iand
    rw [h2]
    omega
  refine ⟨ab_toin _, fun h0 h1 => ?_, fun h0 h1 => key a b h0 h1⟩
  have h := key b a h0 h1
  have e : ab_iand a b = ab_iand b a := by
    unfold ab_iand
    congr 1
    apply Int32.toBitVec_inj.mp
    show (Int32.ofInt a).toBitVec &&& (Int32.ofInt b).toBitVec = (Int32.ofInt b).toBitVec &&& (Int32.ofInt a).toBitVec
    exact BitVec.and_comm ..
  rw [e]; exact h
theorem tm_ior_b (a b : Int) : ab_in (ab_ior a b) ∧ (0 ≤ a → a ≤ 127 → 0 ≤ b → b ≤ 127 → 0 ≤ ab_ior a b ∧ ab_ior a b ≤ 127) := by
  refine ⟨ab_toin _, fun h0 h1 h2 h3 => ?_⟩
  rw [ab_ior_nat h0 (by omega) h2 (by omega)]
  have h4 : (a.toNat ||| b.toNat) < 2 ^ 7 := Nat.or_lt_two_pow (by omega) (by omega)
  omega
theorem tm_pow_b : ∀ n : Nat, n ≤ 30 → (1 : Int) ≤ 2 ^ n ∧ (2 : Int) ^ n ≤ 1073741824 ∧ (n ≤ 6 → (2 : Int) ^ n ≤ 64) ∧ (n ≤ 7 → (2 : Int) ^ n ≤ 128) := by decide
theorem tm_shr_b {a : Int} (n : Nat) (ha : ab_in a) : ab_in (a / 2 ^ n) ∧ (0 ≤ a → 0 ≤ a / 2 ^ n ∧ a / 2 ^ n ≤ a) := by
  have hp : (0 : Int) < 2 ^ n := Int.pow_pos (by decide)
  have hq : (1 : Int) ≤ 2 ^ n := hp
  have key : 0 ≤ a → 0 ≤ a / 2 ^ n ∧ a / 2 ^ n ≤ a := fun h => ⟨Int.ediv_nonneg h (Int.le_of_lt hp), Int.ediv_le_self _ h⟩
  refine ⟨?_, key⟩
  rcases Int.lt_or_le a 0 with h | h
  · have h1 : a / 2 ^ n < 0 := Int.ediv_neg_of_neg_of_pos h hp
    have h2 : a ≤ a / 2 ^ n := by
      rw [Int.le_ediv_iff_mul_le hp]
      have : a * 2 ^ n ≤ a * 1 := Int.mul_le_mul_of_nonpos_left (Int.le_of_lt h) hq
      omega
    omega
  · have := key h; omega
theorem tm_tmod_b (a b : Int) (hb : 0 < b) : -b < a.tmod b ∧ a.tmod b < b ∧ (0 ≤ a → 0 ≤ a.tmod b ∧ a.tmod b ≤ a) ∧ (a ≤ 0 → a.tmod b ≤ 0) := by
  obtain ⟨h1, h2⟩ := ab_tme a b hb
  have m1 := Int.emod_nonneg a (Int.ne_of_gt hb)
  have m2 := Int.emod_lt_of_pos a hb
  have m3 := Int.emod_nonneg (-a) (Int.ne_of_gt hb)
  have m4 := Int.emod_lt_of_pos (-a) hb
  rcases Int.lt_or_le a 0 with h | h
  · rw [h2 h]; omega
  · rw [h1 h]
    have m5 : a % b ≤ a := by
      rw [Int.emod_def]
      have := Int.mul_nonneg (Int.le_of_lt hb) (Int.ediv_nonneg h (Int.le_of_lt hb))
      omega
    omega
theorem tm_tdiv_b (a b : Int) (ha : ab_in a) (hb : 0 < b) : ab_in (a.tdiv b) ∧ (0 ≤ a → 0 ≤ a.tdiv b ∧ a.tdiv b ≤ a) := by
  obtain ⟨h1, h2⟩ := ab_tde a b hb
  have m1 : ∀ c : Int, 0 ≤ c → 0 ≤ c / b ∧ c / b ≤ c := fun c hc => ⟨Int.ediv_nonneg hc (Int.le_of_lt hb), Int.ediv_le_self _ hc⟩
  rcases Int.lt_or_le a 0 with h | h
  · rw [h2 h]; have := m1 (-a) (by omega); omega
  · rw [h1 h]; have := m1 a h; omega
abbrev tm_P (w : ab_W) (P : Int → Prop) : Option ab_V → ab_W → Prop := fun r w2 => w2 = w ∧ ∃ v : Int, r = some (ab_I v) ∧ P v
abbrev tm_PJ (w : ab_W) (P : Int64 → Prop) : Option ab_V → ab_W → Prop := fun r w2 => w2 = w ∧ ∃ v : Int64, r = some (ab_J v) ∧ P v
abbrev tm_Qi (N : Nat) (T : Nat → tm_S) (R : Int → ab_W → Prop) : Option ab_V → ab_W → Prop := fun r w2 => tm_W N T w2 ∧ ∃ v : Int, r = some (ab_I v) ∧ R v w2
abbrev tm_Qj (N : Nat) (T : Nat → tm_S) (R : Int64 → ab_W → Prop) : Option ab_V → ab_W → Prop := fun r w2 => tm_W N T w2 ∧ ∃ v : Int64, r = some (ab_J v) ∧ R v w2
abbrev tm_Qv (N : Nat) (T : Nat → tm_S) (R : ab_W → Prop) : Option ab_V → ab_W → Prop := fun r w2 => tm_W N T w2 ∧ r = none ∧ R w2
section TM
variable {G : ab_G} {rs : List String} {M : ab_M} {d bc bs pc : Nat} {l : ab_L} {st : List ab_V} {w : ab_W} {Q : Option ab_V → ab_W → Prop} {N : Nat} {T : Nat → tm_S}
theorem tm_any {a : Int} (kk : ∀ v : Int, ab_in v → (ab_in a → v = a) → ab_Ev G rs M d bc bs pc l (.inl v :: st) w Q) : ab_Ev G rs M d bc bs pc l (.inl a :: st) w Q := by
  refine ab_go (pc' := pc) (st' := .inl (Int32.ofInt a).toInt :: st) (fun as _ _ _ _ _ kk => ?_) (kk (Int32.ofInt a).toInt (ab_toin _) (fun h => ab_ti h))
  have e : List.map (ab_cv as) (.inl a :: st) = List.map (ab_cv as) (.inl (Int32.ofInt a).toInt :: st) := by
    show Value.int (Int32.ofInt a) :: _ = Value.int (Int32.ofInt (Int32.ofInt a).toInt) :: _
    rw [ab_of]
  rw [e]; exact kk
theorem tm_getI {o ci k idx : Nat} {K lo hi : Int} {fs : List tm_F} (hd : decode M.2.1 pc = .ok (.getfield idx, 3)) (hW : tm_W N T w) (hS : T o = tm_o ci fs) (hf : ab_fl G M.1.cls idx ci k) (hK : K = (k : Int)) (hk : fs[k]? = some (tm_i lo hi)) (kk : ∀ a : Int, tm_g w o K = some (ab_I a) → lo ≤ a → a ≤ hi → ab_Ev G rs M d bc bs (pc + 3) l (.inl a :: st) w Q) : ab_Ev G rs M d bc bs pc l (.inr (.inr (some o)) :: st) w Q := by
  obtain ⟨vs, hc, -, hv⟩ := tm_cell hW hS
  obtain ⟨v, hvk, a, rfl, h0, h1⟩ := hv k _ hk
  exact ev_getfield hd hc hf hvk (kk a (tm_gob hK hc hvk) h0 h1)
theorem tm_getK {o ci k idx : Nat} {K : Int} {fs : List tm_F} {v : ab_V} (hd : decode M.2.1 pc = .ok (.getfield idx, 3)) (hW : tm_W N T w) (hS : T o = tm_o ci fs) (hf : ab_fl G M.1.cls idx ci k) (hK : K = (k : Int)) (hg : tm_g w o K = some v) (kk : ab_Ev G rs M d bc bs (pc + 3) l (v :: st) w Q) : ab_Ev G rs M d bc bs pc l (.inr (.inr (some o)) :: st) w Q := by
  obtain ⟨vs, hc, -, hv⟩ := tm_cell hW hS
  exact ev_getfield hd hc hf (tm_gob2 hK hc hg) kk
theorem tm_getR {o ci k idx q : Nat} {fs : List tm_F} (hd : decode M.2.1 pc = .ok (.getfield idx, 3)) (hW : tm_W N T w) (hS : T o = tm_o ci fs) (hf : ab_fl G M.1.cls idx ci k) (hk : fs[k]? = some (tm_r q)) (kk : ab_Ev G rs M d bc bs (pc + 3) l (.inr (.inr (some q)) :: st) w Q) : ab_Ev G rs M d bc bs pc l (.inr (.inr (some o)) :: st) w Q := by
  obtain ⟨vs, hc, -, hv⟩ := tm_cell hW hS
  obtain ⟨v, hvk, rfl⟩ := hv k _ hk
  exact ev_getfield hd hc hf hvk kk
theorem tm_putV {o ci k idx : Nat} {K : Int} {fs : List tm_F} {F : tm_F} {v : ab_V} {ty : FieldType} (hd : decode M.2.1 pc = .ok (.putfield idx, 3)) (hW : tm_W N T w) (hS : T o = tm_o ci fs) (hf : ab_fp G M.1.cls M.1.name idx ci k ty) (hK : K = (k : Int)) (hk : fs[k]? = some F) (hty : ab_ft ty v) (hF : F v) (hok : ab_ok N v) (kk : ∀ w', tm_W N T w' → tm_g w' o K = some v → (∀ (p : Nat) (j : Int), ¬ (p = o ∧ j = K) → tm_g w' p j = tm_g w p j) → ab_Ev G rs M d bc bs (pc + 3) l st w' Q) : ab_Ev G rs M d bc bs pc l (v :: .inr (.inr (some o)) :: st) w Q := by
  obtain ⟨vs, hc, hl, hv⟩ := tm_cell hW hS
  obtain ⟨h1, h2, h3, h4⟩ := tm_setob hW hS hK hk hF hok hc hl hv
  exact ev_putfield hd hc hf h1 hty (kk _ h2 h3 h4)
theorem tm_putI {o ci k idx : Nat} {K lo hi v : Int} {fs : List tm_F} {ty : FieldType} (hd : decode M.2.1 pc = .ok (.putfield idx, 3)) (hW : tm_W N T w) (hS : T o = tm_o ci fs) (hf : ab_fp G M.1.cls M.1.name idx ci k ty) (hK : K = (k : Int)) (hk : fs[k]? = some (tm_i lo hi)) (hty : ab_ft ty (.inl v)) (h0 : lo ≤ v) (h1 : v ≤ hi) (kk : ∀ w', tm_W N T w' → tm_g w' o K = some (ab_I v) → (∀ (p : Nat) (j : Int), ¬ (p = o ∧ j = K) → tm_g w' p j = tm_g w p j) → ab_Ev G rs M d bc bs (pc + 3) l st w' Q) : ab_Ev G rs M d bc bs pc l (.inl v :: .inr (.inr (some o)) :: st) w Q :=
  tm_putV hd hW hS hf hK hk hty ⟨v, rfl, h0, h1⟩ trivial kk
theorem tm_iaload {o n : Nat} {lo hi j : Int} (hd : decode M.2.1 pc = .ok (.iaload, 1)) (hW : tm_W N T w) (hS : T o = tm_ai 0 n lo hi) (h0 : 0 ≤ j) (hn : j < n) (hj : ab_in j) (kk : ∀ a : Int, tm_g w o j = some (ab_I a) → lo ≤ a → a ≤ hi → ab_Ev G rs M d bc bs (pc + 1) l (.inl a :: st) w Q) : ab_Ev G rs M d bc bs pc l (.inl j :: .inr (.inr (some o)) :: st) w Q := by
  have h := hW.2.1 o
  rw [hS] at h
  obtain ⟨f, hc, hb⟩ := h
  exact ev_iaload hd hc h0 hn hj (kk (f j) (by unfold tm_g; rw [hc]; rfl) (hb j).1 (hb j).2)
theorem tm_zaload {o n : Nat} {lo hi j : Int} (hd : decode M.2.1 pc = .ok (.baload, 1)) (hW : tm_W N T w) (hS : T o = tm_ai 2 n lo hi) (h0 : 0 ≤ j) (hn : j < n) (hj : ab_in j) (kk : ∀ a : Int, tm_g w o j = some (ab_I a) → lo ≤ a → a ≤ hi → ab_Ev G rs M d bc bs (pc + 1) l (.inl a :: st) w Q) : ab_Ev G rs M d bc bs pc l (.inl j :: .inr (.inr (some o)) :: st) w Q := by
  have h := hW.2.1 o
  rw [hS] at h
  obtain ⟨f, hc, hb⟩ := h
  exact ev_zaload hd hc h0 hn hj (kk (f j) (by unfold tm_g; rw [hc]; rfl) (hb j).1 (hb j).2)
theorem tm_iaK {o n : Nat} {lo hi j a : Int} (hd : decode M.2.1 pc = .ok (.iaload, 1)) (hW : tm_W N T w) (hS : T o = tm_ai 0 n lo hi) (h0 : 0 ≤ j) (hn : j < n) (hj : ab_in j) (hg : tm_g w o j = some (ab_I a)) (kk : ab_Ev G rs M d bc bs (pc + 1) l (.inl a :: st) w Q) : ab_Ev G rs M d bc bs pc l (.inl j :: .inr (.inr (some o)) :: st) w Q := by
  have h := hW.2.1 o
  rw [hS] at h
  obtain ⟨f, hc, hb⟩ := h
  refine ev_iaload hd hc h0 hn hj ?_
  have e : f j = a := by
    unfold tm_g at hg; rw [hc] at hg
    have hg : some (ab_I (f j)) = some (ab_I a) := hg
    injection hg with hg; injection hg
  rw [e]; exact kk
theorem tm_laload {o n : Nat} {j : Int} (hd : decode M.2.1 pc = .ok (.laload, 1)) (hW : tm_W N T w) (hS : T o = tm_al n) (h0 : 0 ≤ j) (hn : j < n) (hj : ab_in j) (kk : ∀ a : Int64, ab_Ev G rs M d bc bs (pc + 1) l (.inr (.inl a) :: st) w Q) : ab_Ev G rs M d bc bs pc l (.inl j :: .inr (.inr (some o)) :: st) w Q := by
  have h := hW.2.1 o
  rw [hS] at h
  obtain ⟨f, hc⟩ := h
  exact ev_laload hd hc h0 hn hj (kk (f j))
theorem tm_aaload {o n t x : Nat} {C : String} {j : Int} (hd : decode M.2.1 pc = .ok (.aaload, 1)) (hW : tm_W N T w) (hS : T o = tm_ar (4 + t) n) (ht : rs[t]? = some C) (h0 : 0 ≤ j) (hn : j < n) (hj : ab_in j) (hg : tm_g w o j = some (ab_R x)) (kk : ab_Ev G rs M d bc bs (pc + 1) l (.inr (.inr (some x)) :: st) w Q) : ab_Ev G rs M d bc bs pc l (.inl j :: .inr (.inr (some o)) :: st) w Q := by
  have h := hW.2.1 o
  rw [hS] at h
  obtain ⟨f, hc⟩ := h
  refine ev_aaload hd hc ht h0 hn hj ?_ kk
  unfold tm_g at hg; rw [hc] at hg
  have hg : some ((.inr (.inr (f j)) : ab_V)) = some (ab_R x) := hg
  injection hg with hg; injection hg with hg; injection hg
theorem tm_iastore {o n : Nat} {lo hi j x : Int} (hd : decode M.2.1 pc = .ok (.iastore, 1)) (hW : tm_W N T w) (hS : T o = tm_ai 0 n lo hi) (h0 : 0 ≤ j) (hn : j < n) (hj : ab_in j) (hx0 : lo ≤ x) (hx1 : x ≤ hi) (kk : ∀ w', tm_W N T w' → tm_g w' o j = some (ab_I x) → (∀ (p : Nat) (i : Int), ¬ (p = o ∧ i = j) → tm_g w' p i = tm_g w p i) → ab_Ev G rs M d bc bs (pc + 1) l st w' Q) : ab_Ev G rs M d bc bs pc l (.inl x :: .inl j :: .inr (.inr (some o)) :: st) w Q := by
  have h := hW.2.1 o
  rw [hS] at h
  obtain ⟨f, hc, hb⟩ := h
  obtain ⟨h2, h3, h4⟩ := tm_setai (j := j) hW hS hc hb hx0 hx1
  exact ev_iastore hd hc h0 hn hj (kk _ h2 h3 h4)
theorem tm_zastore {o n : Nat} {j x : Int} (hd : decode M.2.1 pc = .ok (.bastore, 1)) (hW : tm_W N T w) (hS : T o = tm_ai 2 n 0 1) (h0 : 0 ≤ j) (hn : j < n) (hj : ab_in j) (hx0 : 0 ≤ x) (hx1 : x ≤ 1) (kk : ∀ w', tm_W N T w' → tm_g w' o j = some (ab_I x) → (∀ (p : Nat) (i : Int), ¬ (p = o ∧ i = j) → tm_g w' p i = tm_g w p i) → ab_Ev G rs M d bc bs (pc + 1) l st w' Q) : ab_Ev G rs M d bc bs pc l (.inl x :: .inl j :: .inr (.inr (some o)) :: st) w Q := by
  have h := hW.2.1 o
  rw [hS] at h
  obtain ⟨f, hc, hb⟩ := h
  obtain ⟨h2, h3, h4⟩ := tm_setai (j := j) hW hS hc hb hx0 hx1
  exact ev_zastore hd hc h0 hn hj (by omega) (kk _ h2 h3 h4)
theorem tm_lastore {o n : Nat} {j : Int} {x : Int64} (hd : decode M.2.1 pc = .ok (.lastore, 1)) (hW : tm_W N T w) (hS : T o = tm_al n) (h0 : 0 ≤ j) (hn : j < n) (hj : ab_in j) (kk : ∀ w', tm_W N T w' → (∀ (p : Nat) (i : Int), ¬ (p = o) → tm_g w' p i = tm_g w p i) → ab_Ev G rs M d bc bs (pc + 1) l st w' Q) : ab_Ev G rs M d bc bs pc l (.inr (.inl x) :: .inl j :: .inr (.inr (some o)) :: st) w Q := by
  have h := hW.2.1 o
  rw [hS] at h
  obtain ⟨f, hc⟩ := h
  exact ev_lastore hd hc h0 hn hj (kk _ (tm_set hW hc (by rw [hS]; exact ⟨_, rfl⟩) trivial) (fun p i hn => tm_g_ne hn))
theorem tm_alen {o n t : Nat} {lo hi : Int} (hd : decode M.2.1 pc = .ok (.arraylength, 1)) (hW : tm_W N T w) (hS : T o = tm_ai t n lo hi) (ht : t < 3) (kk : ab_Ev G rs M d bc bs (pc + 1) l (.inl (n : Int) :: st) w Q) : ab_Ev G rs M d bc bs pc l (.inr (.inr (some o)) :: st) w Q := by
  have h := hW.2.1 o
  rw [hS] at h
  obtain ⟨f, hc, hb⟩ := h
  exact ev_alen (t := t) hd hc (Or.inl ⟨t, f, ht, rfl⟩) kk
theorem tm_copyi {idx o1 o2 n1 n2 : Nat} {lo hi lo2 hi2 n : Int} (hd : decode M.2.1 pc = .ok (.invokestatic idx, 3)) (hk : ab_ck G M.1.cls idx) (hW : tm_W N T w) (h1 : T o1 = tm_ai 0 n1 lo hi) (h2 : T o2 = tm_ai 0 n2 lo2 hi2) (hl : lo2 ≤ lo) (hh : hi ≤ hi2) (h3 : 0 ≤ n ∧ n ≤ n1 ∧ n ≤ n2) (hi0 : ab_in n) (hw : ab_wd st ≤ 8) (hdd : 1 ≤ d) (kk : ∀ w', tm_W N T w' → (∀ (p : Nat) (i : Int), ¬ (p = o2) → tm_g w' p i = tm_g w p i) → ab_Ev G rs M d bc bs (pc + 3) l st w' Q) : ab_Ev G rs M d bc bs pc l (.inl n :: .inl 0 :: .inr (.inr (some o2)) :: .inl 0 :: .inr (.inr (some o1)) :: st) w Q := by
  have h := hW.2.1 o1
  rw [h1] at h
  obtain ⟨f, hc, hb⟩ := h
  have h := hW.2.1 o2
  rw [h2] at h
  obtain ⟨g, hc2, hb2⟩ := h
  refine ev_copyi hd hk (by decide) hc hc2 (by omega) (by omega) (Or.inl rfl) hw hdd (kk _ (tm_set hW hc2 ?_ trivial) (fun p i hn => tm_g_ne hn))
  rw [h2]
  refine ⟨_, rfl, fun k => ?_⟩
  unfold ab_cp
  split
  · have := hb (0 + (k - 0)); omega
  · exact hb2 k
theorem tm_copyl {idx o1 o2 n1 n2 : Nat} {n : Int} (hd : decode M.2.1 pc = .ok (.invokestatic idx, 3)) (hk : ab_ck G M.1.cls idx) (hW : tm_W N T w) (h1 : T o1 = tm_al n1) (h2 : T o2 = tm_al n2) (h3 : 0 ≤ n ∧ n ≤ n1 ∧ n ≤ n2) (hi0 : ab_in n) (hw : ab_wd st ≤ 8) (hdd : 1 ≤ d) (kk : ∀ w', tm_W N T w' → (∀ (p : Nat) (i : Int), ¬ (p = o2) → tm_g w' p i = tm_g w p i) → ab_Ev G rs M d bc bs (pc + 3) l st w' Q) : ab_Ev G rs M d bc bs pc l (.inl n :: .inl 0 :: .inr (.inr (some o2)) :: .inl 0 :: .inr (.inr (some o1)) :: st) w Q := by
  have h := hW.2.1 o1
  rw [h1] at h
  obtain ⟨f, hc⟩ := h
  have h := hW.2.1 o2
  rw [h2] at h
  obtain ⟨g, hc2⟩ := h
  exact ev_copyl hd hk hc hc2 (by omega) (by omega) hw hdd (kk _ (tm_set hW hc2 (by rw [h2]; exact ⟨_, rfl⟩) trivial) (fun p i hn => tm_g_ne hn))
theorem tm_irem {a b : Int} (hd : decode M.2.1 pc = .ok (.irem, 1)) (ha : ab_in a) (hb : ab_in b) (hb0 : 0 < b) (kk : ∀ v : Int, -b < v → v < b → (0 ≤ a → 0 ≤ v ∧ v ≤ a) → (a ≤ 0 → v ≤ 0) → ab_Ev G rs M d bc bs (pc + 1) l (.inl v :: st) w Q) : ab_Ev G rs M d bc bs pc l (.inl b :: .inl a :: st) w Q := by
  obtain ⟨h1, h2, h3, h4⟩ := tm_tmod_b a b hb0
  exact ev_irem hd ha hb (by omega) (kk _ h1 h2 h3 h4)
theorem tm_idiv {a b : Int} (hd : decode M.2.1 pc = .ok (.idiv, 1)) (ha : ab_in a) (hb : ab_in b) (hb0 : 0 < b) (kk : ∀ v : Int, ab_in v → (0 ≤ a → 0 ≤ v ∧ v ≤ a) → ab_Ev G rs M d bc bs (pc + 1) l (.inl v :: st) w Q) : ab_Ev G rs M d bc bs pc l (.inl b :: .inl a :: st) w Q := by
  obtain ⟨h1, h2⟩ := tm_tdiv_b a b ha hb0
  exact ev_idiv hd ha hb (by omega) (kk _ h1 h2)
theorem tm_shl1 {b : Int} (hd : decode M.2.1 pc = .ok (.ishl, 1)) (h0 : 0 ≤ b) (h1 : b ≤ 30) (kk : ∀ v : Int, 1 ≤ v → v ≤ 1073741824 → (b ≤ 6 → v ≤ 64) → (b ≤ 7 → v ≤ 128) → ab_Ev G rs M d bc bs (pc + 1) l (.inl v :: st) w Q) : ab_Ev G rs M d bc bs pc l (.inl b :: .inl 1 :: st) w Q := by
  obtain ⟨q1, q2, q3, q4⟩ := tm_pow_b b.toNat (by omega)
  refine ev_ishl hd h0 (by omega) ?_
  rw [Int.one_mul]
  exact kk _ q1 q2 (fun h => q3 (by omega)) (fun h => q4 (by omega))
theorem tm_ishr {a b : Int} (hd : decode M.2.1 pc = .ok (.ishr, 1)) (ha : ab_in a) (h0 : 0 ≤ b) (h1 : b < 32) (kk : ∀ v : Int, ab_in v → (0 ≤ a → 0 ≤ v ∧ v ≤ a) → ab_Ev G rs M d bc bs (pc + 1) l (.inl v :: st) w Q) : ab_Ev G rs M d bc bs pc l (.inl b :: .inl a :: st) w Q := by
  obtain ⟨q1, q2⟩ := tm_shr_b b.toNat ha
  exact ev_ishr hd ha h0 h1 (kk _ q1 q2)
theorem tm_iand {a b : Int} (hd : decode M.2.1 pc = .ok (.iand, 1)) (ha : ab_in a) (hb : ab_in b) (kk : ∀ v : Int, ab_in v → (0 ≤ a → 0 ≤ v ∧ v ≤ a) → (0 ≤ b → 0 ≤ v ∧ v ≤ b) → ab_Ev G rs M d bc bs (pc + 1) l (.inl v :: st) w Q) : ab_Ev G rs M d bc bs pc l (.inl b :: .inl a :: st) w Q := by
  obtain ⟨q1, q2, q3⟩ := tm_iand_b a b
  exact ev_iand hd (kk _ q1 (fun h => q2 h ha.2) (fun h => q3 h hb.2))
theorem tm_ior {a b : Int} (hd : decode M.2.1 pc = .ok (.ior, 1)) (kk : ∀ v : Int, ab_in v → (0 ≤ a → a ≤ 127 → 0 ≤ b → b ≤ 127 → 0 ≤ v ∧ v ≤ 127) → ab_Ev G rs M d bc bs (pc + 1) l (.inl v :: st) w Q) : ab_Ev G rs M d bc bs pc l (.inl b :: .inl a :: st) w Q := by
  obtain ⟨q1, q2⟩ := tm_ior_b a b
  exact ev_ior hd (kk _ q1 q2)
theorem tm_l2i {a : Int64} (hd : decode M.2.1 pc = .ok (.l2i, 1)) (kk : ∀ v : Int, ab_in v → ab_Ev G rs M d bc bs (pc + 1) l (.inl v :: st) w Q) : ab_Ev G rs M d bc bs pc l (.inr (.inl a) :: st) w Q := ev_l2i hd (kk _ (ab_toin _))
theorem tm_lcmp {a b : Int64} (hd : decode M.2.1 pc = .ok (.lcmp, 1)) (kk : ∀ v : Int, -1 ≤ v → v ≤ 1 → (¬ v = 0 → ¬ a = b) → ab_Ev G rs M d bc bs (pc + 1) l (.inl v :: st) w Q) : ab_Ev G rs M d bc bs pc l (.inr (.inl b) :: .inr (.inl a) :: st) w Q := by
  obtain ⟨-, -, h3, h4, h5⟩ := ab_cmp0 a b
  exact ev_lcmp hd (kk _ h4 h5 (fun h z => h (h3.mpr z)))
theorem tm_sp {cm : ab_M} {idx d' : Nat} {av st0 : List ab_V} {P : Int → Prop} (hd : decode M.2.1 pc = .ok (.invokestatic idx, 3)) (hm : ab_Mt G rs cm d' 0 0 av w (tm_P w P)) (hk : ab_kb G M.1.cls idx cm av.length) (hst : Cond.static cm.1 ∈ G.2.1) (h0 : st0 = av.reverse ++ st) (hw : ab_wd st ≤ 8) (hdd : d' + 1 ≤ d) (kk : ∀ v : Int, P v → ab_Ev G rs M d bc bs (pc + 3) l (.inl v :: st) w Q) : ab_Ev G rs M d bc bs pc l st0 w Q :=
  ev_static (mc := 0) (ms := 0) hd hm hk hst h0 hw hdd (Or.inl (fun r w1 h => by rw [h.1])) (fun r w1 h => by obtain ⟨rfl, v, rfl, hp⟩ := h; exact kk v hp)
theorem tm_spJ {cm : ab_M} {idx d' : Nat} {av st0 : List ab_V} {P : Int64 → Prop} (hd : decode M.2.1 pc = .ok (.invokestatic idx, 3)) (hm : ab_Mt G rs cm d' 0 0 av w (tm_PJ w P)) (hk : ab_kb G M.1.cls idx cm av.length) (hst : Cond.static cm.1 ∈ G.2.1) (h0 : st0 = av.reverse ++ st) (hw : ab_wd st ≤ 8) (hdd : d' + 1 ≤ d) (kk : ∀ v : Int64, P v → ab_Ev G rs M d bc bs (pc + 3) l (.inr (.inl v) :: st) w Q) : ab_Ev G rs M d bc bs pc l st0 w Q :=
  ev_static (mc := 0) (ms := 0) hd hm hk hst h0 hw hdd (Or.inl (fun r w1 h => by rw [h.1])) (fun r w1 h => by obtain ⟨rfl, v, rfl, hp⟩ := h; exact kk v hp)
theorem tm_vp {cm : ab_M} {idx d' o ci N1 : Nat} {T1 : u_T} {fs : List tm_F} {av st0 : List ab_V} {P : Int → Prop} (hd : decode M.2.1 pc = .ok (.invokevirtual idx, 3)) (hm : ab_Mt G rs cm d' 0 0 (.inr (.inr (some o)) :: av) w (tm_P w P)) (hk : ab_kb G M.1.cls idx cm av.length) (hst : Cond.instanceMethod cm.1 ∈ G.2.1 ∧ Cond.selects cm.1.cls cm.1 cm.1 ∈ G.2.1) (hcl : G.1[ci]? = some (cm.1.cls, T1, N1)) (hW : tm_W N T w) (hS : T o = tm_o ci fs) (h0 : st0 = av.reverse ++ .inr (.inr (some o)) :: st) (hw : ab_wd st ≤ 8) (hdd : d' + 1 ≤ d) (kk : ∀ v : Int, P v → ab_Ev G rs M d bc bs (pc + 3) l (.inl v :: st) w Q) : ab_Ev G rs M d bc bs pc l st0 w Q := by
  obtain ⟨vs, hc, -, -⟩ := tm_cell hW hS
  exact ev_virtual (mc := 0) (ms := 0) hd hm hk hst hcl hc h0 hw hdd (Or.inl (fun r w1 h => by rw [h.1])) (fun r w1 h => by obtain ⟨rfl, v, rfl, hp⟩ := h; exact kk v hp)
theorem tm_si {cm : ab_M} {idx d' : Nat} {av st0 : List ab_V} {R : Int → ab_W → Prop} (hd : decode M.2.1 pc = .ok (.invokestatic idx, 3)) (hm : ab_Mt G rs cm d' 0 0 av w (tm_Qi N T R)) (hk : ab_kb G M.1.cls idx cm av.length) (hst : Cond.static cm.1 ∈ G.2.1) (hW : tm_W N T w) (h0 : st0 = av.reverse ++ st) (hw : ab_wd st ≤ 8) (hdd : d' + 1 ≤ d) (kk : ∀ w2 (v : Int), tm_W N T w2 → R v w2 → ab_Ev G rs M d bc bs (pc + 3) l (.inl v :: st) w2 Q) : ab_Ev G rs M d bc bs pc l st0 w Q :=
  ev_static (mc := 0) (ms := 0) hd hm hk hst h0 hw hdd (Or.inl (fun r w1 h => h.1.1.trans hW.1.symm)) (fun r w1 h => by obtain ⟨hw1, v, rfl, hp⟩ := h; exact kk w1 v hw1 hp)
theorem tm_sv {cm : ab_M} {idx d' : Nat} {av st0 : List ab_V} {R : ab_W → Prop} (hd : decode M.2.1 pc = .ok (.invokestatic idx, 3)) (hm : ab_Mt G rs cm d' 0 0 av w (tm_Qv N T R)) (hk : ab_kb G M.1.cls idx cm av.length) (hst : Cond.static cm.1 ∈ G.2.1) (hW : tm_W N T w) (h0 : st0 = av.reverse ++ st) (hw : ab_wd st ≤ 8) (hdd : d' + 1 ≤ d) (kk : ∀ w2, tm_W N T w2 → R w2 → ab_Ev G rs M d bc bs (pc + 3) l st w2 Q) : ab_Ev G rs M d bc bs pc l st0 w Q :=
  ev_static (mc := 0) (ms := 0) hd hm hk hst h0 hw hdd (Or.inl (fun r w1 h => h.1.1.trans hW.1.symm)) (fun r w1 h => by obtain ⟨hw1, rfl, hp⟩ := h; exact kk w1 hw1 hp)
theorem tm_vi {cm : ab_M} {idx d' o ci N1 : Nat} {T1 : u_T} {fs : List tm_F} {av st0 : List ab_V} {R : Int → ab_W → Prop} (hd : decode M.2.1 pc = .ok (.invokevirtual idx, 3)) (hm : ab_Mt G rs cm d' 0 0 (.inr (.inr (some o)) :: av) w (tm_Qi N T R)) (hk : ab_kb G M.1.cls idx cm av.length) (hst : Cond.instanceMethod cm.1 ∈ G.2.1 ∧ Cond.selects cm.1.cls cm.1 cm.1 ∈ G.2.1) (hcl : G.1[ci]? = some (cm.1.cls, T1, N1)) (hW : tm_W N T w) (hS : T o = tm_o ci fs) (h0 : st0 = av.reverse ++ .inr (.inr (some o)) :: st) (hw : ab_wd st ≤ 8) (hdd : d' + 1 ≤ d) (kk : ∀ w2 (v : Int), tm_W N T w2 → R v w2 → ab_Ev G rs M d bc bs (pc + 3) l (.inl v :: st) w2 Q) : ab_Ev G rs M d bc bs pc l st0 w Q := by
  obtain ⟨vs, hc, -, -⟩ := tm_cell hW hS
  exact ev_virtual (mc := 0) (ms := 0) hd hm hk hst hcl hc h0 hw hdd (Or.inl (fun r w1 h => h.1.1.trans hW.1.symm)) (fun r w1 h => by obtain ⟨hw1, v, rfl, hp⟩ := h; exact kk w1 v hw1 hp)
theorem tm_vj {cm : ab_M} {idx d' o ci N1 : Nat} {T1 : u_T} {fs : List tm_F} {av st0 : List ab_V} {R : Int64 → ab_W → Prop} (hd : decode M.2.1 pc = .ok (.invokevirtual idx, 3)) (hm : ab_Mt G rs cm d' 0 0 (.inr (.inr (some o)) :: av) w (tm_Qj N T R)) (hk : ab_kb G M.1.cls idx cm av.length) (hst : Cond.instanceMethod cm.1 ∈ G.2.1 ∧ Cond.selects cm.1.cls cm.1 cm.1 ∈ G.2.1) (hcl : G.1[ci]? = some (cm.1.cls, T1, N1)) (hW : tm_W N T w) (hS : T o = tm_o ci fs) (h0 : st0 = av.reverse ++ .inr (.inr (some o)) :: st) (hw : ab_wd st ≤ 8) (hdd : d' + 1 ≤ d) (kk : ∀ w2 (v : Int64), tm_W N T w2 → R v w2 → ab_Ev G rs M d bc bs (pc + 3) l (.inr (.inl v) :: st) w2 Q) : ab_Ev G rs M d bc bs pc l st0 w Q := by
  obtain ⟨vs, hc, -, -⟩ := tm_cell hW hS
  exact ev_virtual (mc := 0) (ms := 0) hd hm hk hst hcl hc h0 hw hdd (Or.inl (fun r w1 h => h.1.1.trans hW.1.symm)) (fun r w1 h => by obtain ⟨hw1, v, rfl, hp⟩ := h; exact kk w1 v hw1 hp)
theorem tm_vv {cm : ab_M} {idx d' o ci N1 : Nat} {T1 : u_T} {fs : List tm_F} {av st0 : List ab_V} {R : ab_W → Prop} (hd : decode M.2.1 pc = .ok (.invokevirtual idx, 3)) (hm : ab_Mt G rs cm d' 0 0 (.inr (.inr (some o)) :: av) w (tm_Qv N T R)) (hk : ab_kb G M.1.cls idx cm av.length) (hst : Cond.instanceMethod cm.1 ∈ G.2.1 ∧ Cond.selects cm.1.cls cm.1 cm.1 ∈ G.2.1) (hcl : G.1[ci]? = some (cm.1.cls, T1, N1)) (hW : tm_W N T w) (hS : T o = tm_o ci fs) (h0 : st0 = av.reverse ++ .inr (.inr (some o)) :: st) (hw : ab_wd st ≤ 8) (hdd : d' + 1 ≤ d) (kk : ∀ w2, tm_W N T w2 → R w2 → ab_Ev G rs M d bc bs (pc + 3) l st w2 Q) : ab_Ev G rs M d bc bs pc l st0 w Q := by
  obtain ⟨vs, hc, -, -⟩ := tm_cell hW hS
  exact ev_virtual (mc := 0) (ms := 0) hd hm hk hst hcl hc h0 hw hdd (Or.inl (fun r w1 h => h.1.1.trans hW.1.symm)) (fun r w1 h => by obtain ⟨hw1, rfl, hp⟩ := h; exact kk w1 hw1 hp)
theorem tm_lk {dflt : Int} {ps : Array (Int × Int)} {len : Nat} {a off : Int} {tgt : Nat} (hd : decode M.2.1 pc = .ok (.lookupswitch dflt ps, len)) (hp : (ps.toList.zip (ps.toList.drop 1)).all (fun (a, next) => a.1 < next.1) = true) (ha : ab_in a) (ho : Op.lookupswitch.offset ps.toList dflt a = off) (ht : (pc : Int) + off = (tgt : Int)) (k : ab_Ev G rs M d bc bs tgt l st w Q) : ab_Ev G rs M d bc bs pc l (.inl a :: st) w Q := ev_lookup hd hp ha ho ht k
end TM
theorem tm_fillI {N : Nat} {T : Nat → tm_S} {w : ab_W} {o n : Nat} {lo hi : Int} (hW : tm_W N T w) (hS : T o = tm_ai 0 n lo hi) (hn : n ≤ 100000) (v : Int) (h0 : lo ≤ v) (h1 : v ≤ hi) : ab_Mt g_G g_rs mt_Ar_fill_AIIV 0 0 0 [ab_R o, ab_I v] w (tm_Qv N T (fun w2 => ∀ (p : Nat) (j : Int), ¬ (p = o) → tm_g w2 p j = tm_g w p j)) := by
  have h := hW.2.1 o
  rw [hS] at h
  obtain ⟨f, hc, hb⟩ := h
  refine (co_Ar_fill_AIIV w o n f v hc hn).conseq (fun r w2 h => ?_)
  obtain ⟨rfl, rfl⟩ := h
  refine ⟨tm_set hW hc ?_ trivial, rfl, fun p j hp => tm_g_ne hp⟩
  rw [hS]
  refine ⟨_, rfl, fun k => ?_⟩
  unfold ab_fv
  split
  · exact ⟨h0, h1⟩
  · exact hb k
def tm_le : ab_L → ab_L → Prop
  | [], [] => True
  | none :: l, _ :: l' => tm_le l l'
  | some v :: l, x :: l' => x = some v ∧ tm_le l l'
  | _, _ => False
theorem tm_le_0 : tm_le [] [] := trivial
theorem tm_le_n {l l' : ab_L} {x : Option ab_V} (h : tm_le l l') : tm_le (none :: l) (x :: l') := h
theorem tm_le_s {l l' : ab_L} {v : ab_V} (h : tm_le l l') : tm_le (some v :: l) (some v :: l') := ⟨rfl, h⟩
theorem tm_le_ok : ∀ (l l' : ab_L), tm_le l l' → l.length = l'.length ∧ ∀ (i : Nat) (v : ab_V), l[i]? = some (some v) → l'[i]? = some (some v)
  | [], [], _ => ⟨rfl, fun i v h => h⟩
  | none :: l, x :: l', h => by
    obtain ⟨h1, h2⟩ := tm_le_ok l l' h
    refine ⟨by rw [List.length_cons, List.length_cons, h1], fun i v hi => ?_⟩
    cases i with
    | zero => cases hi
    | succ i => exact h2 i v hi
  | some u :: l, x :: l', h => by
    obtain ⟨h1, h2⟩ := tm_le_ok l l' h.2
    refine ⟨by rw [List.length_cons, List.length_cons, h1], fun i v hi => ?_⟩
    cases i with
    | zero => rw [h.1]; exact hi
    | succ i => exact h2 i v hi
  | [], _ :: _, h => h.elim
  | none :: _, [], h => h.elim
  | some _ :: _, [], h => h.elim
section TN
variable {G : ab_G} {rs : List String} {M : ab_M} {d bc bs pc : Nat} {l l' : ab_L} {st : List ab_V} {w : ab_W} {Q : Option ab_V → ab_W → Prop} {N : Nat} {T : Nat → tm_S}
theorem tm_loc (h : tm_le l l') (k : ab_Ev G rs M d bc bs pc l st w Q) : ab_Ev G rs M d bc bs pc l' st w Q := by
  intro p la e R s m args below meth c H locs cells slots D dA aK aV as A ls Qc free hF hs hP hD hS hl h1 h2 hR
  refine k p la e R s m args below meth c H locs cells slots D dA aK aV as A ls Qc free hF hs hP hD hS ?_ h1 h2 hR
  obtain ⟨q1, q2⟩ := tm_le_ok l l' h
  obtain ⟨e1, lv, e2, e3⟩ := hl
  exact ⟨q1.trans e1, lv, e2, fun i v hi => e3 i v (q2 i v hi)⟩
theorem tm_max {a b : Int} (ha : ab_in a) (hb0 : ab_in b) {idx : Nat} (hd : decode M.2.1 pc = .ok (.invokestatic idx, 3)) (hk : ab_mk G M.1.cls idx Lib.Math.max.name Lib.Math.max.code 2 .int) (hw : ab_wd st ≤ 8) (hdd : 1 ≤ d) (kk : ∀ v : Int, a ≤ v → b ≤ v → (v = a ∨ v = b) → ab_Ev G rs M d bc bs (pc + 3) l (.inl v :: st) w Q) : ab_Ev G rs M d bc bs pc l (.inl b :: .inl a :: st) w Q := by
  refine ev_mmax ha hb0 hd hk hw hdd (kk _ ?_ ?_ ?_) <;> split <;> omega
theorem tm_min {a b : Int} (ha : ab_in a) (hb0 : ab_in b) {idx : Nat} (hd : decode M.2.1 pc = .ok (.invokestatic idx, 3)) (hk : ab_mk G M.1.cls idx Lib.Math.min.name Lib.Math.min.code 2 .int) (hw : ab_wd st ≤ 8) (hdd : 1 ≤ d) (kk : ∀ v : Int, v ≤ a → v ≤ b → (v = a ∨ v = b) → ab_Ev G rs M d bc bs (pc + 3) l (.inl v :: st) w Q) : ab_Ev G rs M d bc bs pc l (.inl b :: .inl a :: st) w Q := by
  refine ev_mmin ha hb0 hd hk hw hdd (kk _ ?_ ?_ ?_) <;> split <;> omega
theorem tm_abs {a : Int} (ha : ab_in a) {idx : Nat} (hd : decode M.2.1 pc = .ok (.invokestatic idx, 3)) (hk : ab_mk G M.1.cls idx Lib.Math.abs.name Lib.Math.abs.code 1 .int) (hw : ab_wd st ≤ 8) (hdd : 1 ≤ d) (kk : ∀ v : Int, ab_in v → (-2147483648 < a → 0 ≤ v ∧ (v = a ∨ v = -a)) → ab_Ev G rs M d bc bs (pc + 3) l (.inl v :: st) w Q) : ab_Ev G rs M d bc bs pc l (.inl a :: st) w Q := by
  refine ev_mabs ha hd hk hw hdd (tm_any (fun v hv he => kk v hv (fun h => ?_)))
  have e := he (by split <;> omega)
  rw [e]
  split <;> omega
theorem tm_lookD {ps : List (Int × Int)} {dflt a : Int} (h : ∀ q ∈ ps, ¬ q.1 = a) : Op.lookupswitch.offset ps dflt a = dflt := by
  induction ps with
  | nil => rfl
  | cons q r ih =>
    obtain ⟨x, o⟩ := q
    rw [Op.lookupswitch.offset_cons, if_neg (h (x, o) List.mem_cons_self), ih (fun q hq => h q (List.mem_cons_of_mem _ hq))]
end TN
def tm_up (T : Nat → tm_S) (o : Nat) (S : tm_S) : Nat → tm_S := fun p => if p = o then S else T p
theorem tm_upe {T : Nat → tm_S} {o : Nat} {S : tm_S} : tm_up T o S o = S := if_pos rfl
theorem tm_upn {T : Nat → tm_S} {o p : Nat} {S : tm_S} (h : ¬ p = o) : tm_up T o S p = T p := if_neg h
theorem tm_wide {N : Nat} {T : Nat → tm_S} {w : ab_W} {o : Nat} {S : tm_S} (hW : tm_W N T w) (h : ∀ c, T o c → S c) : tm_W N (tm_up T o S) w := by
  refine ⟨hW.1, fun p => ?_, hW.2.2⟩
  rcases Nat.decEq p o with hp | rfl
  · rw [tm_upn hp]; exact hW.2.1 p
  · rw [tm_upe]; exact h _ (hW.2.1 p)
theorem tm_nar {N : Nat} {T : Nat → tm_S} {w : ab_W} {o : Nat} {S : tm_S} (hW : tm_W N (tm_up T o S) w) (h : S w[o]? → T o w[o]?) : tm_W N T w := by
  refine ⟨hW.1, fun p => ?_, hW.2.2⟩
  have hp0 := hW.2.1 p
  rcases Nat.decEq p o with hp | rfl
  · rw [tm_upn hp] at hp0; exact hp0
  · rw [tm_upe] at hp0; exact h hp0
/-- one field's bounds made wider, or narrower again where its value is known -/
theorem tm_o_wide {ci k : Nat} {fs : List tm_F} {lo hi lo2 hi2 : Int} {c : Option ab_E} (hk : fs[k]? = some (tm_i lo hi)) (h0 : lo2 ≤ lo) (h1 : hi ≤ hi2) (h : tm_o ci fs c) : tm_o ci (fs.set k (tm_i lo2 hi2)) c := by
  obtain ⟨vs, hc, hl, hv⟩ := h
  have hlt : k < fs.length := by
    rcases Nat.lt_or_ge k fs.length with h1 | h1
    · exact h1
    · rw [List.getElem?_eq_none h1] at hk; cases hk
  refine ⟨vs, hc, by rw [List.length_set]; exact hl, fun i F hi => ?_⟩
  rcases Nat.decEq i k with hn | rfl
  · rw [List.getElem?_set_ne (fun z => hn z.symm)] at hi; exact hv i F hi
  · rw [List.getElem?_set_self hlt] at hi
    obtain rfl := Option.some.inj hi
    obtain ⟨v, hvk, a, rfl, q0, q1⟩ := hv i _ hk
    exact ⟨_, hvk, a, rfl, by omega, by omega⟩
theorem tm_o_nar {w : ab_W} {o ci k : Nat} {K : Int} {fs : List tm_F} {lo hi lo2 hi2 a : Int} (hK : K = (k : Int)) (hk : fs[k]? = some (tm_i lo hi)) (hg : tm_g w o K = some (ab_I a)) (h0 : lo ≤ a) (h1 : a ≤ hi) (h : tm_o ci (fs.set k (tm_i lo2 hi2)) w[o]?) : tm_o ci fs w[o]? := by
  obtain ⟨vs, hc, hl, hv⟩ := h
  have hlt : k < fs.length := by
    rcases Nat.lt_or_ge k fs.length with h1 | h1
    · exact h1
    · rw [List.getElem?_eq_none h1] at hk; cases hk
  refine ⟨vs, hc, by rw [List.length_set] at hl; exact hl, fun i F hi => ?_⟩
  rcases Nat.decEq i k with hn | rfl
  · exact hv i F (by rw [List.getElem?_set_ne (fun z => hn z.symm)]; exact hi)
  · rw [hk] at hi
    obtain rfl := Option.some.inj hi
    exact ⟨_, tm_gob2 hK hc hg, a, rfl, h0, h1⟩
