/-! worlds with rows of references; constructors; rows filled -/
def ab_isr : ab_E → Bool
  | .inr (.inr (.inl _)) => true
  | _ => false
def ab_okEc (n : Nat) : ab_E → Bool
  | .inr (.inr (.inr (_, fs))) => fs.all (ab_okb n)
  | _ => true
theorem ab_okW_r {w : ab_W} {ars : List ab_E} (h : w.all (ab_okEc w.length) = true) (hf : w.filter ab_isr = ars) (hr : ∀ e ∈ ars, ab_okE w.length e) : ab_okW w := by
  intro e he
  have h2 := List.all_eq_true.mp h e he
  have h3 : ab_isr e = true → ab_okE w.length e := fun z => hr e (by rw [← hf]; exact List.mem_filter.mpr ⟨he, z⟩)
  rcases e with ⟨t, m, f⟩ | ⟨m, f⟩ | ⟨t, m, f⟩ | ⟨ci, fs⟩
  · exact trivial
  · exact trivial
  · exact h3 rfl
  · exact ab_okS_of h2
theorem ab_all1 {P : ab_E → Prop} {a : ab_E} (h : P a) : ∀ e ∈ [a], P e := by
  intro e he
  rw [List.mem_singleton.mp he]
  exact h
theorem ab_all2 {P : ab_E → Prop} {a b : ab_E} (h : P a) (h2 : P b) : ∀ e ∈ [a, b], P e := by
  intro e he
  rcases List.mem_cons.mp he with rfl | he
  · exact h
  · exact ab_all1 h2 e he
theorem ab_okr0 {n t m : Nat} : ab_okE n (ab_ar t m (fun _ => none)) := fun k i h => by cases h
theorem ab_okru {n t m i : Nat} {f : Int → Option Nat} {k : Int} (hi : i < n) (h : ab_okE n (ab_ar t m f)) : ab_okE n (ab_ar t m (ab_up f k (some i))) := by
  intro j x hx
  have hx2 : (if j = k then some i else f j) = some x := hx
  by_cases e : j = k
  · rw [if_pos e] at hx2
    cases hx2
    exact Or.inl hi
  · rw [if_neg e] at hx2
    exact h j x hx2
section EVX
variable {G : ab_G} {rs : List String} {M : ab_M} {d bc bs pc : Nat} {l : ab_L} {st : List ab_V} {w w' : ab_W} {Q : Option ab_V → ab_W → Prop}
theorem ev_xn {cm : ab_M} {idx d' mc ms o : Nat} {av st0 : List ab_V} (hd : decode M.2.1 pc = .ok (.invokespecial idx, 3)) (hm : ab_Mt G rs cm d' mc ms (.inr (.inr (some o)) :: av) w (ab_is none w')) (hk : ab_kb G M.1.cls idx cm av.length) (hst : Cond.instanceMethod cm.1 ∈ G.2.1 ∧ cm.1.name = "<init>" ∧ cm.2.2.2 = none) (h0 : st0 = av.reverse ++ .inr (.inr (some o)) :: st) (hw : ab_wd st ≤ 8) (hdd : d' + 1 ≤ d) (hL : ab_okL w.length l) (hS : ab_okS w.length st)
    (kk : ab_Ev G rs M d bc bs (pc + 3) l st w' Q) : ab_Ev G rs M d (bc + mc) (bs + ms) pc l st0 w Q := ev_special hd hm hk hst h0 hw hdd (Or.inr ⟨hL, hS⟩) (fun r w1 h => by obtain ⟨rfl, rfl⟩ := h; exact kk)
end EVX
def ab_fv {α : Type} (f : Int → α) (v : α) (n : Int) : Int → α := fun k => if 0 ≤ k ∧ k < n then v else f k
theorem ab_fv0 {α : Type} (f : Int → α) (v : α) : ab_fv f v 0 = f := by
  funext k
  exact if_neg (by omega)
theorem ab_fvS {α : Type} (f : Int → α) (v : α) {n : Int} (h : 0 ≤ n) : ab_up (ab_fv f v n) n v = ab_fv f v (n + 1) := by
  funext k
  unfold ab_up ab_fv
  by_cases e : k = n
  · rw [if_pos e, if_pos (by omega)]
  · rw [if_neg e]
    by_cases e2 : 0 ≤ k ∧ k < n
    · rw [if_pos e2, if_pos (by omega)]
    · rw [if_neg e2, if_neg (by omega)]
theorem ab_gs {w : ab_W} {o : Nat} {e E : ab_E} (h : w[o]? = some e) : (w.set o E)[o]? = some E := by
  have h2 : o < w.length := (List.getElem?_eq_some_iff.mp h).1
  rw [List.getElem?_set_self h2]
theorem ab_s0 {w : ab_W} {o : Nat} {e : ab_E} (h : w[o]? = some e) : w.set o e = w := by
  obtain ⟨h2, h3⟩ := List.getElem?_eq_some_iff.mp h
  rw [← h3, List.set_getElem_self]
