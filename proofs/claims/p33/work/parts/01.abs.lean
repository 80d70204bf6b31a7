/-! an abstract machine: ints as whole numbers, cells by their places in a list -/
abbrev ab_V : Type := Int ⊕ (Int64 ⊕ Option Nat)
abbrev ab_E : Type := (Nat × Nat × (Int → Int)) ⊕ ((Nat × (Int → Int64)) ⊕ ((Nat × Nat × (Int → Option Nat)) ⊕ (Nat × List ab_V)))
abbrev ab_W : Type := List ab_E
abbrev ab_L : Type := List (Option ab_V)
abbrev ab_in (a : Int) : Prop := -2147483648 ≤ a ∧ a ≤ 2147483647
abbrev ab_I (a : Int) : ab_V := .inl a
abbrev ab_J (a : Int64) : ab_V := .inr (.inl a)
abbrev ab_R (i : Nat) : ab_V := .inr (.inr (some i))
abbrev ab_N : ab_V := .inr (.inr none)
abbrev ab_ai (t n : Nat) (f : Int → Int) : ab_E := .inl (t, n, f)
abbrev ab_al (n : Nat) (f : Int → Int64) : ab_E := .inr (.inl (n, f))
abbrev ab_ar (t n : Nat) (f : Int → Option Nat) : ab_E := .inr (.inr (.inl (t, n, f)))
abbrev ab_ob (c : Nat) (fs : List ab_V) : ab_E := .inr (.inr (.inr (c, fs)))
def ab_up {α : Type} (f : Int → α) (k : Int) (v : α) : Int → α := fun j => if j = k then v else f j
def ab_cp {α : Type} (f g : Int → α) (sp dp n : Int) : Int → α := fun k => if dp ≤ k ∧ k < dp + n then f (sp + (k - dp)) else g k
/-- what the machine holds for an abstract value, cell, world -/
def ab_cv (as : Nat → Nat) : ab_V → Value
  | .inl a => .int (Int32.ofInt a)
  | .inr (.inl x) => .long x
  | .inr (.inr none) => .null
  | .inr (.inr (some i)) => .ref (as i)
def ab_ce (dA : Nat → ClassId) (as : Nat → Nat) : ab_E → va_E
  | .inl (t, n, f) => .inl (dA t, n, .inl (fun k => Int32.ofInt (f (k : Int))))
  | .inr (.inl (n, f)) => .inl (dA 3, n, .inr (.inl (fun k => f (k : Int))))
  | .inr (.inr (.inl (t, n, f))) => .inl (dA t, n, .inr (.inr (.inr (.inr (fun k => (f (k : Int)).map as)))))
  | .inr (.inr (.inr (ci, fs))) => .inr (ci, fs.map (ab_cv as))
def ab_cw (dA : Nat → ClassId) (as : Nat → Nat) (w : ab_W) : va_W := w.mapIdx (fun i e => (as i, ab_ce dA as e))
/-- locals -/
def ab_l2 : Option (Option ab_V) → Bool
  | some (some (.inr (.inl _))) => true
  | _ => false
def ab_cl (l : ab_L) : Nat → ab_L
  | 0 => l
  | j + 1 => if ab_l2 l[j]? then l.set j none else l
def ab_s1 (l : ab_L) (i : Nat) (v : ab_V) : ab_L := (ab_cl l i).set i (some v)
def ab_s2 (l : ab_L) (i : Nat) (v : ab_V) : ab_L := ((ab_cl l i).set i (some v)).set (i + 1) none
def ab_en : List ab_V → ab_L
  | [] => []
  | .inr (.inl x) :: vs => some (.inr (.inl x)) :: none :: ab_en vs
  | v :: vs => some v :: ab_en vs
def ab_pd (l : ab_L) (n : Nat) : ab_L := l ++ List.replicate (n - l.length) none
def ab_wd : List ab_V → Nat
  | [] => 0
  | .inr (.inl _) :: vs => 2 + ab_wd vs
  | _ :: vs => 1 + ab_wd vs
/-- numbers -/
theorem ab_lt {a b : Int} (ha : ab_in a) (hb : ab_in b) : Int32.ofInt a < Int32.ofInt b ↔ a < b := by
  rw [Int32.lt_iff_toInt_lt, Int32.toInt_ofInt_of_le (by omega) (by omega), Int32.toInt_ofInt_of_le (by omega) (by omega)]
theorem ab_le {a b : Int} (ha : ab_in a) (hb : ab_in b) : Int32.ofInt a ≤ Int32.ofInt b ↔ a ≤ b := by
  rw [Int32.le_iff_toInt_le, Int32.toInt_ofInt_of_le (by omega) (by omega), Int32.toInt_ofInt_of_le (by omega) (by omega)]
theorem ab_eq {a b : Int} (ha : ab_in a) (hb : ab_in b) : Int32.ofInt a = Int32.ofInt b ↔ a = b := by
  constructor
  · intro h
    have h2 := congrArg Int32.toInt h
    rwa [Int32.toInt_ofInt_of_le (by omega) (by omega), Int32.toInt_ofInt_of_le (by omega) (by omega)] at h2
  · intro h; rw [h]
theorem ab_ti {a : Int} (ha : ab_in a) : (Int32.ofInt a).toInt = a := Int32.toInt_ofInt_of_le (by omega) (by omega)
theorem ab_tn {a : Int} (ha : ab_in a) : (Int32.ofInt a).toNatClampNeg = a.toNat := by
  show (Int32.ofInt a).toInt.toNat = _
  rw [ab_ti ha]
theorem ab_ix {a : Int} {n : Nat} (h0 : 0 ≤ a) (h1 : a < n) (hi : ab_in a) : vp_in (Int32.ofInt a) n := by
  intro h
  rcases h with h | h
  · have h2 : Int32.ofInt a < Int32.ofInt 0 := h
    rw [ab_lt hi (by omega)] at h2
    omega
  · rw [ab_tn hi] at h
    omega
theorem ab_of (x : Int32) : Int32.ofInt x.toInt = x := Int32.ofInt_toInt x
theorem ab_toin (x : Int32) : ab_in x.toInt := by
  have h1 : -2147483648 ≤ x.toInt := Int32.le_toInt x
  have h2 : x.toInt ≤ 2147483647 := Int32.toInt_le x
  exact ⟨h1, h2⟩
