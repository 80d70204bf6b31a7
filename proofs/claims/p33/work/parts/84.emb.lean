/-! a world within a larger one: what holds of the smaller holds there, and the rest stays -/
def ab_shV (o : Nat) : ab_V → ab_V
  | .inr (.inr (some i)) => .inr (.inr (some (if i < ab_sb then o + i else i)))
  | v => v
def ab_shE (o : Nat) : ab_E → ab_E
  | .inr (.inr (.inl (t, n, f))) => .inr (.inr (.inl (t, n, fun k => (f k).map (fun i => if i < ab_sb then o + i else i))))
  | .inr (.inr (.inr (c, vs))) => .inr (.inr (.inr (c, vs.map (ab_shV o))))
  | e => e
def ab_shA (o : Nat) (as : Nat → Nat) : Nat → Nat := fun i => as (if i < ab_sb then o + i else i)
theorem ab_shV_cv (o : Nat) (as : Nat → Nat) (v : ab_V) : ab_cv as (ab_shV o v) = ab_cv (ab_shA o as) v := by
  rcases v with a | a | _ | i <;> rfl
theorem ab_shE_ce (o : Nat) (dA : Nat → ClassId) (as : Nat → Nat) (e : ab_E) : ab_ce dA as (ab_shE o e) = ab_ce dA (ab_shA o as) e := by
  rcases e with ⟨t, k, f⟩ | ⟨k, f⟩ | ⟨t, k, f⟩ | ⟨c, fs⟩
  · rfl
  · rfl
  · show (Sum.inl (dA t, k, .inr (.inr (.inr (.inr (fun j : Nat => (((f (j : Int)).map (fun i => if i < ab_sb then o + i else i))).map as))))) : va_E) = Sum.inl (dA t, k, .inr (.inr (.inr (.inr (fun j : Nat => (f (j : Int)).map (ab_shA o as))))))
    have e : (fun j : Nat => ((f (j : Int)).map (fun i => if i < ab_sb then o + i else i)).map as) = fun j : Nat => (f (j : Int)).map (ab_shA o as) := by
      funext j
      rw [Option.map_map]
      rfl
    rw [e]
  · show (Sum.inr (c, (fs.map (ab_shV o)).map (ab_cv as)) : va_E) = Sum.inr (c, fs.map (ab_cv (ab_shA o as)))
    rw [List.map_map]
    have e : ab_cv as ∘ ab_shV o = ab_cv (ab_shA o as) := funext (fun v => ab_shV_cv o as v)
    rw [e]
def ab_put (o : Nat) (v B : ab_W) : ab_W := B.mapIdx (fun p e => if o ≤ p ∧ p < o + v.length then ab_shE o (v.getD (p - o) e) else e)
theorem ab_put_len (o : Nat) (v B : ab_W) : (ab_put o v B).length = B.length := List.length_mapIdx
theorem ab_put_out {o p : Nat} {v B : ab_W} (h : ¬ (o ≤ p ∧ p < o + v.length)) : (ab_put o v B)[p]? = B[p]? := by
  unfold ab_put
  rw [List.getElem?_mapIdx]
  rcases B[p]? with _ | e
  · rfl
  · show some (if o ≤ p ∧ p < o + v.length then _ else e) = some e
    rw [if_neg h]
theorem ab_put_in {o i : Nat} {v B : ab_W} {e E : ab_E} (hv : v[i]? = some e) (hB : B[o + i]? = some E) : (ab_put o v B)[o + i]? = some (ab_shE o e) := by
  have hi := tm_lt hv
  unfold ab_put
  rw [List.getElem?_mapIdx, hB]
  show some (if o ≤ o + i ∧ o + i < o + v.length then ab_shE o (v.getD (o + i - o) E) else E) = _
  rw [if_pos (by omega), show o + i - o = i by omega, List.getD_eq_getElem?_getD, hv]
  rfl
theorem ab_emb {G : ab_G} {rs : List String} {M : ab_M} {d o : Nat} {av : List ab_V} {w B : ab_W} {Q : Option ab_V → ab_W → Prop} (hm : ab_Mt G rs M d 0 0 av w Q) (hlen : ∀ r w', Q r w' → w'.length = w.length) (hr : ∀ r w', Q r w' → ∃ v, r = some (ab_I v)) (hB : ∀ i e, w[i]? = some e → B[o + i]? = some (ab_shE o e)) (hsm : w.length ≤ ab_sb) : ab_Mt G rs M d 0 0 (av.map (ab_shV o)) B (fun r B2 => ∃ w', Q r w' ∧ B2 = ab_put o w' B) := by
  intro l D dA aK aV as sz hs
  have hs' : ab_hs G aK aV (ab_shA o as) := hs.to (fun i hi => by
    show as (if i < ab_sb then o + i else i) = as i
    rw [if_neg (by omega)])
  have hbig : ∀ (k : Nat) (q : Nat × va_E), (ab_cw dA (ab_shA o as) w)[k]? = some q → (ab_cw dA as B)[o + k]? = some q := by
    intro k q hk
    obtain ⟨e, he, rfl⟩ := ab_cw_of hk
    rw [ab_cw_get (hB k e he), ab_shE_ce]
    have h1 := tm_lt he
    show some (as (o + k), _) = some (as (if k < ab_sb then o + k else k), _)
    rw [if_pos (by omega)]
  have hsub : ∀ q, va_A (ab_cw dA (ab_shA o as) w) sz q → va_A (ab_cw dA as B) sz q := by
    intro q hq
    rcases hq with ⟨k, e, hk⟩ | hq
    · exact Or.inl ⟨o + k, e, hbig k _ hk⟩
    · exact Or.inr hq
  refine MetFree.mono (hm l D dA aK aV (ab_shA o as) sz hs') (fun a U q => ?_) (fun _ _ _ _ _ q => q) (fun a st oc t q0 q => ?_)
  · obtain ⟨qa, q1, q2, q3, q4⟩ := q
    refine ⟨?_, q1, q2.by (fun k => o + k) hbig, q3.by (fun k => o + k) hbig (fun i j _ _ h => by omega), q4.warm (State.WarmedH.refl U) (fun _ _ _ => rfl) hsub⟩
    rw [qa, List.map_map]
    have e : ab_cv as ∘ ab_shV o = ab_cv (ab_shA o as) := funext (fun v => ab_shV_cv o as v)
    rw [e]
  · obtain ⟨⟨⟨r, w', as1, p1, p2, p3, p4, p5, p6, p7⟩, hz, hk⟩, L, hL1, hL2⟩ := q
    have hl := hlen r w' p1
    have e := p4 hl
    subst e
    obtain ⟨qa, q1, q2, q3, q4⟩ := q0
    obtain ⟨v, rfl⟩ := hr r w' p1
    refine ⟨⟨⟨some (ab_I v), ab_put o w' B, as, ⟨w', p1, rfl⟩, by rw [ab_put_len]; exact Nat.le_refl _, fun _ _ => rfl, fun _ => rfl, p5, ?_, ?_⟩, hz, fun q g1 g2 => hk q g1 (fun z => g2 (hsub q z))⟩, L, hL1, fun q hq => hsub _ (hL2 q hq)⟩
    · intro k q hkq
      obtain ⟨e, he, rfl⟩ := ab_cw_of hkq
      by_cases hin : o ≤ k ∧ k < o + w'.length
      · obtain ⟨i, rfl⟩ : ∃ i, k = o + i := ⟨k - o, by omega⟩
        obtain ⟨e', he'⟩ : ∃ e', w'[i]? = some e' := ⟨_, List.getElem?_eq_getElem (by omega)⟩
        obtain ⟨e0, he0⟩ : ∃ e0, w[i]? = some e0 := ⟨_, List.getElem?_eq_getElem (by omega)⟩
        rw [ab_put_in he' (hB i e0 he0)] at he
        obtain rfl := Option.some.inj he
        have h := p6 i _ (ab_cw_get he')
        rw [ab_shE_ce]
        have e2 : ab_shA o as i = as (o + i) := by
          show as (if i < ab_sb then o + i else i) = _
          rw [if_pos (by omega)]
        rw [e2] at h
        exact h
      · rw [ab_put_out hin] at he
        have h := q2 k _ (ab_cw_get he)
        have hlt := h.lt
        refine h.kept (hk _ hlt (fun z => ?_))
        rcases z with ⟨i, e', hi⟩ | z
        · have h2 := q3.1 (o + i) k _ _ (hbig i _ hi) (ab_cw_get he) rfl
          obtain ⟨e3, h3, -⟩ := ab_cw_of hi
          have := tm_lt h3
          omega
        · have hlt : as k < st.heap.size := hlt
          have z : sz ≤ as k := z
          omega
    · refine ⟨fun i j p q hi hj hpq => ?_, fun k q hk2 => ?_⟩
      · obtain ⟨e1, h1, rfl⟩ := ab_cw_of hi
        obtain ⟨e2, h2, rfl⟩ := ab_cw_of hj
        have g1 := tm_lt h1
        have g2 := tm_lt h2
        rw [ab_put_len] at g1 g2
        exact q3.1 i j _ _ (ab_cw_get (List.getElem?_eq_getElem g1)) (ab_cw_get (List.getElem?_eq_getElem g2)) hpq
      · obtain ⟨e1, h1, rfl⟩ := ab_cw_of hk2
        have g1 := tm_lt h1
        rw [ab_put_len] at g1
        exact Or.inl ⟨k, _, ab_cw_get (List.getElem?_eq_getElem g1)⟩
