section EVI
variable {G : ab_G} {rs : List String} {M : ab_M} {d bc bs pc : Nat} {l : ab_L} {st : List ab_V} {w : ab_W} {Q : Option ab_V → ab_W → Prop}
theorem ev_ldc2i {n : Int} {v : Int64} {idx : Nat} (hd : decode M.2.1 pc = .ok (.ldc2_w idx, 3)) (hc : Cond.constantLong M.1.cls idx v ∈ G.2.1) (hn : v = Int64.ofInt n) (k : ab_Ev G rs M d bc bs (pc + 3) l (.inr (.inl (Int64.ofInt n)) :: st) w Q) : ab_Ev G rs M d bc bs pc l st w Q := by subst hn; exact ev_ldc2 hd hc k
theorem ev_lconsti {n : Int} {j : Fin 2} (hd : decode M.2.1 pc = .ok (.lconst j, 1)) (hn : Int64.ofNat (j : Nat) = Int64.ofInt n) (k : ab_Ev G rs M d bc bs (pc + 1) l (.inr (.inl (Int64.ofInt n)) :: st) w Q) : ab_Ev G rs M d bc bs pc l st w Q := by refine ev_lconst hd ?_; rw [hn]; exact k
end EVI
theorem ab_cmpI {a b : Int} (ha : ab_in a) (hb : ab_in b) : (ab_cmp (Int64.ofInt a) (Int64.ofInt b) < 0 ↔ a < b) ∧ (0 < ab_cmp (Int64.ofInt a) (Int64.ofInt b) ↔ b < a) ∧ -1 ≤ ab_cmp (Int64.ofInt a) (Int64.ofInt b) ∧ ab_cmp (Int64.ofInt a) (Int64.ofInt b) ≤ 1 := by
  have ta : (Int64.ofInt a).toInt = a := Int64.toInt_ofInt_of_le (by omega) (by omega)
  have tb : (Int64.ofInt b).toInt = b := Int64.toInt_ofInt_of_le (by omega) (by omega)
  have e1 : (Int64.ofInt a > Int64.ofInt b) ↔ b < a := by
    show Int64.ofInt b < Int64.ofInt a ↔ _
    rw [Int64.lt_iff_toInt_lt, ta, tb]
  have e2 : (Int64.ofInt a = Int64.ofInt b) ↔ a = b := by
    rw [← Int64.toInt_inj, ta, tb]
  unfold ab_cmp
  by_cases h1 : b < a
  · rw [if_pos (e1.mpr h1)]; omega
  · rw [if_neg (fun z => h1 (e1.mp z))]
    by_cases h2 : a = b
    · rw [if_pos (e2.mpr h2)]; omega
    · rw [if_neg (fun z => h2 (e2.mp z))]; omega
