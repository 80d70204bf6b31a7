theorem ev_loc {G : ab_G} {rs : List String} {M : ab_M} {d bc bs pc : Nat} {l l2 : ab_L} {st : List ab_V} {w : ab_W} {Q : Option ab_V → ab_W → Prop} (h : l = l2) (k : ab_Ev G rs M d bc bs pc l2 st w Q) : ab_Ev G rs M d bc bs pc l st w Q := by rw [h]; exact k
theorem ev_conseq {G : ab_G} {rs : List String} {M : ab_M} {d bc bs pc : Nat} {l : ab_L} {st : List ab_V} {w : ab_W} {Q Q' : Option ab_V → ab_W → Prop} (h : ∀ r w2, Q r w2 → Q' r w2) (k : ab_Ev G rs M d bc bs pc l st w Q) : ab_Ev G rs M d bc bs pc l st w Q' := by
  intro p la e R s m args below meth c H locs cells slots D dA aK aV as A ls Qc free hF hs hP hD hS hl h1 h2 hR
  exact k p la e R s m args below meth c H locs cells slots D dA aK aV as A ls Qc free hF hs hP hD hS hl h1 h2 (fun r w' as' H' locs' q => hR r w' as' H' locs' (h r w' q))
/-! what is made in a world without rows of references, by deciding -/
def ab_okb (n : Nat) : ab_V → Bool
  | .inr (.inr (some i)) => decide (i < n) || decide (ab_sb ≤ i)
  | _ => true
def ab_okEb (n : Nat) : ab_E → Bool
  | .inr (.inr (.inl _)) => false
  | .inr (.inr (.inr (_, fs))) => fs.all (ab_okb n)
  | _ => true
theorem ab_okb_ok {n : Nat} {v : ab_V} (h : ab_okb n v = true) : ab_ok n v := by
  rcases v with a | a | _ | i
  · exact trivial
  · exact trivial
  · exact trivial
  · have h2 : (decide (i < n) || decide (ab_sb ≤ i)) = true := h
    rw [Bool.or_eq_true, decide_eq_true_eq, decide_eq_true_eq] at h2
    exact h2
theorem ab_okS_of {n : Nat} {st : List ab_V} (h : st.all (ab_okb n) = true) : ab_okS n st := fun v hv => ab_okb_ok (List.all_eq_true.mp h v hv)
theorem ab_okL_of {n : Nat} {l : ab_L} (h : l.all (fun o => match o with | some v => ab_okb n v | none => true) = true) : ab_okL n l := by
  intro i v hi
  exact ab_okb_ok (List.all_eq_true.mp h (some v) (List.mem_of_getElem? hi))
theorem ab_okW_of {w : ab_W} (h : w.all (ab_okEb w.length) = true) : ab_okW w := by
  intro e he
  have h2 := List.all_eq_true.mp h e he
  rcases e with ⟨t, m, f⟩ | ⟨m, f⟩ | ⟨t, m, f⟩ | ⟨ci, fs⟩
  · exact trivial
  · exact trivial
  · cases h2
  · exact ab_okS_of h2
