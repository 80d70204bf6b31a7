/-! what is to be seen: five bits a direction in the class, a row of SIGHTS in the reference -/
def cs_s1 (v : Int64) (d : Int) : Int := ab_iand ((v.toUInt64 >>> ((Int32.ofInt (d * 5)).toInt64.toUInt64 &&& Int64.toUInt64 63)).toInt64.toInt32.toInt) 31
theorem cs_s1_eq (vw : Int → Int64) (d h : Int) : cs_sorts vw d h = cs_s1 (vw h) d := rfl
theorem cs_sh : ∀ d : Nat, d ≤ 11 → ((Int32.ofInt ((d : Int) * 5)).toInt64.toUInt64 &&& Int64.toUInt64 63).toNat = 5 * d := by decide +kernel
theorem cs_bit : ∀ k : Nat, k ≤ 59 → (Int64.ofInt 1 <<< ((Int32.ofInt (k : Int)).toInt64 &&& 63)).toUInt64.toNat = 2 ^ k := by decide +kernel
theorem cs_pw : ∀ d : Nat, d ≤ 11 → ∀ b : Nat, b ≤ 11 → ∀ a : Nat, a ≤ 4 → (2 ^ (5 * b + a) >>> (5 * d)) % 2 ^ 5 = if d = b then 2 ^ a else 0 := by decide +kernel
theorem cs_s1_n (v : Int64) {d : Int} (h0 : 0 ≤ d) (h1 : d ≤ 11) : cs_s1 v d = (((v.toUInt64.toNat >>> (5 * d.toNat)) % 2 ^ 5 : Nat) : Int) := by
  obtain ⟨n, rfl⟩ : ∃ n : Nat, d = (n : Int) := ⟨d.toNat, by omega⟩
  have hs := cs_sh n (by omega)
  unfold cs_s1
  generalize (Int32.ofInt ((n : Int) * 5)).toInt64.toUInt64 &&& Int64.toUInt64 63 = s at hs
  have hy : (v.toUInt64 >>> s).toNat = v.toUInt64.toNat >>> (5 * n) := by
    rw [UInt64.toNat_shiftRight, hs, Nat.mod_eq_of_lt (by omega)]
  generalize v.toUInt64 >>> s = y at hy
  rw [Int.toNat_natCast, ← hy]
  unfold ab_iand
  rw [ab_of]
  have hz : (y.toInt64.toInt32 &&& Int32.ofInt 31).toBitVec.toNat = y.toNat % 2 ^ 5 := by
    have e1 : (y.toInt64.toInt32 &&& Int32.ofInt 31).toBitVec = y.toInt64.toInt32.toBitVec &&& (Int32.ofInt 31).toBitVec := rfl
    have e2 : y.toInt64.toInt32.toBitVec = y.toBitVec.signExtend 32 := rfl
    have e3 : (Int32.ofInt 31).toBitVec.toNat = 2 ^ 5 - 1 := by decide
    rw [e1, BitVec.toNat_and, e2, BitVec.signExtend_eq_setWidth_of_le _ (by decide), BitVec.toNat_setWidth, e3, Nat.and_two_pow_sub_one_eq_mod, show y.toBitVec.toNat = y.toNat from rfl]
    omega
  have hb := ab_bvint hz (by have : y.toNat % 2 ^ 5 < 2 ^ 5 := Nat.mod_lt _ (by decide); omega)
  exact hb
theorem cs_s1_or (v : Int64) {d b a : Int} (h0 : 0 ≤ d) (h1 : d ≤ 11) (b0 : 0 ≤ b) (b1 : b ≤ 11) (a0 : 0 ≤ a) (a1 : a ≤ 4) {n : Nat} (hn : cs_s1 v d = (n : Int)) : cs_s1 (v ||| (Int64.ofInt 1 <<< ((Int32.ofInt (b * 5 + a)).toInt64 &&& 63))) d = ((if d = b then n ||| 2 ^ a.toNat else n : Nat) : Int) := by
  rw [cs_s1_n v h0 h1] at hn
  rw [cs_s1_n _ h0 h1]
  have hk := cs_bit (5 * b.toNat + a.toNat) (by omega)
  rw [show ((5 * b.toNat + a.toNat : Nat) : Int) = b * 5 + a by omega] at hk
  generalize Int64.ofInt 1 <<< ((Int32.ofInt (b * 5 + a)).toInt64 &&& 63) = bt at hk
  have eo : (v ||| bt).toUInt64.toNat = v.toUInt64.toNat ||| bt.toUInt64.toNat := by
    have e : (v ||| bt).toUInt64.toBitVec = v.toUInt64.toBitVec ||| bt.toUInt64.toBitVec := rfl
    show (v ||| bt).toUInt64.toBitVec.toNat = _
    rw [e, BitVec.toNat_or]
    rfl
  have hp := cs_pw d.toNat (by omega) b.toNat (by omega) a.toNat (by omega)
  rw [eo, hk, Nat.shiftRight_or_distrib, Nat.or_mod_two_pow, hp]
  have hn2 : (v.toUInt64.toNat >>> (5 * d.toNat)) % 2 ^ 5 = n := by omega
  rw [hn2]
  by_cases e : d = b
  · rw [if_pos e, if_pos (by omega)]
  · rw [if_neg e, if_neg (by omega), Nat.or_zero]
theorem cs_s1_0 {d : Int} (h0 : 0 ≤ d) (h1 : d ≤ 11) : cs_s1 0 d = 0 := by
  rw [cs_s1_n 0 h0 h1]
  show (((0 >>> (5 * d.toNat)) % 2 ^ 5 : Nat) : Int) = 0
  rw [Nat.zero_shiftRight]
  rfl
def b_vw (o : Nat) (rd : Int → Int) (w : ab_W) : Prop := (0 ≤ rd 2 ∧ rd 2 ≤ 12) ∧ ∀ h : Int, 0 ≤ h → h ≤ 23 → ∃ v : Int64, tm_g w (o + 5) h = some (ab_J v) ∧ ∀ d, 0 ≤ d → d ≤ 11 → cs_s1 v d = ((sp_sortsAt rd d h : Nat) : Int)
theorem sp_sorts_c2 {f g : Int → Int} (d h : Int) : ∀ k : Nat, (∀ j, 95 ≤ j → j < 95 + 4 * (k : Int) → g j = f j) → sp_sorts g d h k = sp_sorts f d h k
  | 0, _ => rfl
  | k + 1, hj => by
    have ih := sp_sorts_c2 (f := f) (g := g) d h k (fun j a b => hj j a (by omega))
    unfold sp_sorts
    rw [ih, hj (95 + 4 * (k : Int)) (by omega) (by omega), hj (95 + 4 * (k : Int) + 1) (by omega) (by omega), hj (95 + 4 * (k : Int) + 2) (by omega) (by omega), hj (95 + 4 * (k : Int) + 3) (by omega) (by omega)]
theorem b_vm {o : Nat} {rd rd2 : Int → Int} {w w2 : ab_W} (h : b_vw o rd w) (e : ∀ j, tm_g w2 (o + 5) j = tm_g w (o + 5) j) (e2 : rd2 2 = rd 2) (e3 : ∀ j, 95 ≤ j → j < 143 → rd2 j = rd j) : b_vw o rd2 w2 := by
  refine ⟨by rw [e2]; exact h.1, fun h0 a b => ?_⟩
  obtain ⟨v, k1, k2⟩ := h.2 h0 a b
  refine ⟨v, (e h0).trans k1, fun d d0 d1 => ?_⟩
  have hb := h.1
  have es : sp_sortsAt rd2 d h0 = sp_sortsAt rd d h0 := by
    unfold sp_sortsAt
    rw [e2]
    exact sp_sorts_c2 d h0 _ (fun j x1 x2 => e3 j x1 (by omega))
  rw [es]
  exact k2 d d0 d1
theorem tm_alV {N : Nat} {T : Nat → tm_S} {w : ab_W} {p n : Nat} (hW : tm_W N T w) (hS : T p = tm_al n) : ∃ V : Int → Int64, ∀ j, tm_g w p j = some (ab_J (V j)) := by
  have h := hW.2.1 p
  rw [hS] at h
  obtain ⟨f, hc⟩ := h
  exact ⟨f, fun j => by unfold tm_g; rw [hc]; rfl⟩
section VL
variable {G : ab_G} {rs : List String} {M : ab_M} {d bc bs pc : Nat} {l : ab_L} {st : List ab_V} {w : ab_W} {Q : Option ab_V → ab_W → Prop} {N : Nat} {T : Nat → tm_S}
theorem tm_laloadK {o n : Nat} {j : Int} {x : Int64} (hd : decode M.2.1 pc = .ok (.laload, 1)) (hW : tm_W N T w) (hS : T o = tm_al n) (h0 : 0 ≤ j) (hn : j < n) (hj : ab_in j) (hg : tm_g w o j = some (ab_J x)) (kk : ab_Ev G rs M d bc bs (pc + 1) l (.inr (.inl x) :: st) w Q) : ab_Ev G rs M d bc bs pc l (.inl j :: .inr (.inr (some o)) :: st) w Q := by
  have h := hW.2.1 o
  rw [hS] at h
  obtain ⟨f, hc⟩ := h
  unfold tm_g at hg
  rw [hc] at hg
  have hg2 : some (ab_J (f j)) = some (ab_J x) := hg
  injection hg2 with hg2
  injection hg2 with hg2
  injection hg2 with hg2
  subst hg2
  exact ev_laload hd hc h0 hn hj kk
theorem tm_lastoreK {o n : Nat} {j : Int} {x : Int64} (hd : decode M.2.1 pc = .ok (.lastore, 1)) (hW : tm_W N T w) (hS : T o = tm_al n) (h0 : 0 ≤ j) (hn : j < n) (hj : ab_in j) (kk : ∀ w', tm_W N T w' → tm_g w' o j = some (ab_J x) → (∀ (p : Nat) (i : Int), ¬ (p = o ∧ i = j) → tm_g w' p i = tm_g w p i) → ab_Ev G rs M d bc bs (pc + 1) l st w' Q) : ab_Ev G rs M d bc bs pc l (.inr (.inl x) :: .inl j :: .inr (.inr (some o)) :: st) w Q := by
  have h := hW.2.1 o
  rw [hS] at h
  obtain ⟨f, hc⟩ := h
  refine ev_lastore hd hc h0 hn hj (kk _ (tm_set hW hc (by rw [hS]; exact ⟨_, rfl⟩) trivial) ?_ (fun p i hn => ?_))
  · refine (tm_g_set hc).trans ?_
    show some (ab_J (ab_up f j x j)) = _
    rw [ab_upe]
  · rcases Nat.decEq p o with hp | rfl
    · exact tm_g_ne hp
    · rw [tm_g_set hc]
      unfold tm_g
      rw [hc]
      show some (ab_J (ab_up f j x i)) = some (ab_J (f i))
      rw [ab_upn _ _ (fun z => hn ⟨rfl, z⟩)]
end VL
theorem tm_fillJK {N : Nat} {T : Nat → tm_S} {w : ab_W} {o n : Nat} (hW : tm_W N T w) (hS : T o = tm_al n) (hn : n ≤ 100000) (v : Int64) : ab_Mt g_G g_rs mt_Ar_fill_AJJV 0 0 0 [ab_R o, ab_J v] w (tm_Qv N T (fun w2 => (∀ (p : Nat) (j : Int), ¬ (p = o) → tm_g w2 p j = tm_g w p j) ∧ ∀ j : Int, 0 ≤ j → j < n → tm_g w2 o j = some (ab_J v))) := by
  have h := hW.2.1 o
  rw [hS] at h
  obtain ⟨f, hc⟩ := h
  refine (co_Ar_fill_AJJV w o n f v hc hn).conseq (fun r w2 h => ?_)
  obtain ⟨rfl, rfl⟩ := h
  refine ⟨tm_set hW hc (by rw [hS]; exact ⟨_, rfl⟩) trivial, rfl, fun p j hp => tm_g_ne hp, fun j g0 g1 => ?_⟩
  refine (tm_g_set hc).trans ?_
  show some (ab_J (ab_fv f v (n : Int) j)) = _
  unfold ab_fv
  rw [if_pos ⟨g0, g1⟩]
theorem b_vs {o : Nat} {w w2 : ab_W} {V : Int → Int64} {c i : Int} {bt : Int64} (q : ∀ j : Int, tm_g w (o + 5) j = some (ab_J (if c ≤ j ∧ j < i then V j ||| bt else V j))) (kk : tm_g w2 (o + 5) i = some (ab_J (V i ||| bt))) (hf : ∀ (p : Nat) (j : Int), ¬ (p = o + 5 ∧ j = i) → tm_g w2 p j = tm_g w p j) (hc : c ≤ i) : ∀ j : Int, tm_g w2 (o + 5) j = some (ab_J (if c ≤ j ∧ j < i + 1 then V j ||| bt else V j)) := by
  intro j
  by_cases z : j = i
  · subst z
    rw [if_pos (by omega)]
    exact kk
  · rw [hf _ _ (by omega), q j]
    by_cases y : c ≤ j ∧ j < i
    · rw [if_pos y, if_pos (by omega)]
    · rw [if_neg y, if_neg (by omega)]
