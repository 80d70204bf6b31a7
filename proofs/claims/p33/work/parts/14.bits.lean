theorem bit_z {a k : Nat} : bit_at a k = 0 ↔ a.testBit k = false := by unfold bit_at; cases a.testBit k <;> simp
theorem bit_nz {a k : Nat} : ¬ bit_at a k = 0 ↔ a.testBit k = true := by unfold bit_at; cases a.testBit k <;> simp
theorem sp_likesOf_b {B : Int} {f : Int → Int} (h : sg_ok B f) {x : Int} (hx : 0 ≤ x) (hx1 : x < 7) : -45 ≤ sp_likesOf f x ∧ sp_likesOf f x ≤ 45 := sp_likesAt_b h hx hx1 _ _
theorem sp_facesOf_b (f : Int → Int) (x : Int) : 0 ≤ sp_facesOf f x ∧ sp_facesOf f x ≤ 11 := by unfold sp_facesOf; omega
theorem sp_sumL_b {B : Int} {f : Int → Int} (h : sg_ok B f) (k : Nat) (hk : k ≤ 7) : -45 * (k : Int) ≤ sp_sum (sp_likesOf f) k ∧ sp_sum (sp_likesOf f) k ≤ 45 * (k : Int) := sp_sum_b k (fun j h0 h1 => sp_likesOf_b h h0 (by omega))
theorem sp_sumV_b {B : Int} {f : Int → Int} (h : sg_ok B f) (set k : Nat) (hk : k ≤ 7) : 0 * (k : Int) ≤ sp_sum (fun h => if set.testBit h.toNat then f (53 + h) else 0) k ∧ sp_sum (fun h => if set.testBit h.toNat then f (53 + h) else 0) k ≤ 9 * (k : Int) := sp_sum_b k (fun j h0 h1 => by
  obtain ⟨-, -, -, -, -, -, -, -, hzz⟩ := sg_all h
  obtain ⟨-, -, -, -, i12, -⟩ := hzz
  have q := i12 (53 + j) (by omega) (by omega)
  split <;> omega)
theorem sp_sumG_b (f : Int → Int) (k : Nat) : 0 * (k : Int) ≤ sp_sum (fun h => bit_at (f 3).toNat (sp_facesOf f h).toNat) k ∧ sp_sum (fun h => bit_at (f 3).toNat (sp_facesOf f h).toNat) k ≤ 1 * (k : Int) := sp_sum_b k (fun j h0 h1 => by
  have := bit_01 (f 3).toNat (sp_facesOf f j).toNat
  omega)
