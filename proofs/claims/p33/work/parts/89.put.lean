/-! the two worlds together -/
theorem ab_shE_ok {o n m : Nat} {e : ab_E} (h : ab_okE n e) (hm : o + n ≤ m) : ab_okE m (ab_shE o e) := by
  rcases e with ⟨t, k, f⟩ | ⟨k, f⟩ | ⟨t, k, f⟩ | ⟨c, fs⟩
  · trivial
  · trivial
  · intro j i hi
    have hi : (f j).map (fun i => if i < ab_sb then o + i else i) = some i := hi
    rcases hfj : f j with _ | i0
    · rw [hfj] at hi; cases hi
    · rw [hfj] at hi
      have hi : some (if i0 < ab_sb then o + i0 else i0) = some i := hi
      injection hi with hi
      rcases h j i0 hfj with h1 | h1
      · split at hi <;> omega
      · rw [if_neg (by omega)] at hi; right; omega
  · intro v hv
    have hv : v ∈ fs.map (ab_shV o) := hv
    obtain ⟨u, hu, rfl⟩ := List.mem_map.mp hv
    have h2 := h u hu
    rcases u with a | a | _ | i
    · trivial
    · trivial
    · trivial
    · show (if i < ab_sb then o + i else i) < m ∨ ab_sb ≤ (if i < ab_sb then o + i else i)
      rcases h2 with h1 | h1
      · split <;> omega
      · rw [if_neg (by omega)]; exact Or.inr h1
theorem tm_g_put {o p : Nat} {j : Int} {v B : ab_W} (h : ¬ (o ≤ p ∧ p < o + v.length)) : tm_g (ab_put o v B) p j = tm_g B p j := by
  unfold tm_g; rw [ab_put_out h]
theorem cy_seg {w : ab_W} {S : fs_S} {wm : ab_W} (h : cy_I w S wm) : ∀ (i : Nat) (e : ab_E), wm[i]? = some e → w[107 + i]? = some (ab_shE 107 e) := by
  obtain ⟨x, ix, mk, tf, tl, rc, said, was, undone, images, ru⟩ := S
  obtain ⟨N, T, a, b, hF, -⟩ := h
  obtain ⟨hW, hA, -, -, -, -, -, -, -, -, hseg⟩ := hF
  intro i e hi
  have h3 := hW.2.1 (107 + i)
  rw [hseg i e hi] at h3
  exact h3
theorem cy_len {w : ab_W} {S : fs_S} {wm : ab_W} (h : cy_I w S wm) : 129 ≤ w.length ∧ w.length ≤ 141 ∧ ab_okW w := by
  obtain ⟨x, ix, mk, tf, tl, rc, said, was, undone, images, ru⟩ := S
  obtain ⟨N, T, a, b, hF, -⟩ := h
  obtain ⟨hW, hA, -, ⟨hrc, hN⟩, -⟩ := hF
  have := hW.1
  exact ⟨by omega, by omega, hW.2.2⟩
theorem cy_obj {w : ab_W} {S : fs_S} {wm : ab_W} (h : cy_I w S wm) : ∃ fs, w[0]? = some (ab_ob 10 fs) := by
  obtain ⟨x, ix, mk, tf, tl, rc, said, was, undone, images, ru⟩ := S
  obtain ⟨N, T, a, b, hF, -⟩ := h
  obtain ⟨hW, hA, -⟩ := hF
  obtain ⟨vs, hc, -⟩ := tm_cell hW hA.1
  exact ⟨vs, hc⟩
theorem cy_put {w : ab_W} {S : fs_S} {wm wm2 : ab_W} (h : cy_I w S wm) (h1 : wm.length = 22) (h2 : wm2.length = 22) (hok : ab_okW wm2) : cy_I (ab_put 107 wm2 w) S wm2 := by
  have hseg0 := cy_seg h
  obtain ⟨x, ix, mk, tf, tl, rc, said, was, undone, images, ru⟩ := S
  obtain ⟨N, T, a, b, hF, hR, hag, himg, hrul⟩ := h
  obtain ⟨hW, hA, ⟨kn, kt, krc, ktl, ktf⟩, ⟨hrc, hN⟩, hrl, him, hac, hx, hmd, hix, hseg⟩ := hF
  have hab := hA.ab
  have hwl := hW.1
  have hB : ∀ i, i < 22 → ∃ E, w[107 + i]? = some E := fun i hi => ⟨_, List.getElem?_eq_getElem (by omega)⟩
  have hg : ∀ (p : Nat) (j : Int), ¬ (107 ≤ p ∧ p < 129) → tm_g (ab_put 107 wm2 w) p j = tm_g w p j := fun p j hp => tm_g_put (by rw [h2]; omega)
  obtain ⟨T3, hT3⟩ : ∃ T3 : Nat → tm_S, T3 = fun p => if 107 ≤ p ∧ p < 129 then (fun c => c = (wm2[p - 107]?).map (ab_shE 107)) else T p := ⟨_, rfl⟩
  have hTo : ∀ p, ¬ (107 ≤ p ∧ p < 129) → T3 p = T p := fun p hp => by rw [hT3]; exact if_neg hp
  have hTi : ∀ (i : Nat) (e : ab_E), wm2[i]? = some e → T3 (107 + i) = fun c => c = some (ab_shE 107 e) := fun i e hi => by
    have := tm_lt hi
    rw [hT3]
    show (if 107 ≤ 107 + i ∧ 107 + i < 129 then (fun c => c = (wm2[107 + i - 107]?).map (ab_shE 107)) else T (107 + i)) = _
    rw [if_pos (by omega), show 107 + i - 107 = i by omega, hi]
    rfl
  have hW3 : tm_W N T3 (ab_put 107 wm2 w) := by
    refine ⟨by rw [ab_put_len]; exact hW.1, fun p => ?_, fun e he => ?_⟩
    · by_cases hp : 107 ≤ p ∧ p < 129
      · obtain ⟨i, rfl⟩ : ∃ i, p = 107 + i := ⟨p - 107, by omega⟩
        obtain ⟨e, he⟩ : ∃ e, wm2[i]? = some e := ⟨_, List.getElem?_eq_getElem (by omega)⟩
        obtain ⟨E, hE⟩ := hB i (by omega)
        rw [hTi i e he]
        exact ab_put_in he hE
      · rw [hTo p hp, ab_put_out (by rw [h2]; omega)]
        exact hW.2.1 p
    · rw [ab_put_len]
      obtain ⟨p, hp⟩ := List.mem_iff_getElem?.mp he
      by_cases hin : 107 ≤ p ∧ p < 129
      · obtain ⟨i, rfl⟩ : ∃ i, p = 107 + i := ⟨p - 107, by omega⟩
        obtain ⟨e', he'⟩ : ∃ e, wm2[i]? = some e := ⟨_, List.getElem?_eq_getElem (by omega)⟩
        obtain ⟨E, hE⟩ := hB i (by omega)
        rw [ab_put_in he' hE] at hp
        obtain rfl := Option.some.inj hp
        have h3 := hok _ (List.mem_of_getElem? he')
        rw [h2] at h3
        exact ab_shE_ok h3 (by omega)
      · rw [ab_put_out (by rw [h2]; omega)] at hp
        exact hW.2.2 e (List.mem_of_getElem? hp)
  have hcl : ∀ p : Nat, ¬ (107 ≤ p ∧ p < 129) → (ab_put 107 wm2 w)[p]? = w[p]? := fun p hp => ab_put_out (by rw [h2]; omega)
  refine ⟨N, T3, a, b, ⟨hW3, hA.cong (fun p hp => hTo p (by omega)), ⟨(hg 0 1 (by omega)).trans kn, (hg 0 2 (by omega)).trans kt, (hg 0 6 (by omega)).trans krc, (hg 1 1 (by omega)).trans ktl, fun j => (hg 2 j (by omega)).trans (ktf j)⟩, ⟨hrc, hN⟩, fun j j0 j1 => ?_, fun j j0 j1 => ?_, hac.fr (fun k => hg _ k (by omega)) (fun k => hg _ k (by omega)) (fun k => hg _ k (by omega)), (hg a 6 (by omega)).trans hx, fun j j0 j1 => (hg 30 j (by omega)).trans (hmd j j0 j1), fun j j0 j1 ik e => (hg ik 6 (by omega)).trans (hix j j0 j1 ik e), hTi⟩, rj_ce hR (fun p q0 q1 => hcl p (by omega)), ?_, fun j j0 j1 ik e => ?_, fun r r0 r1 => ?_⟩
  · obtain ⟨q, n, k1, k2, k3, k4⟩ := hrl j j0 j1
    exact ⟨q, n, (hg 31 j (by omega)).trans k1, k2.cong (fun p h5 h6 => hTo p (by omega)), k3, k4⟩
  · obtain ⟨ik, k1, k2, k3⟩ := him j j0 j1
    exact ⟨ik, (hg 29 j (by omega)).trans k1, k2.cong (fun p h5 h6 => hTo p (by omega)), k3⟩
  · obtain ⟨ki, f1, s1, nx, ⟨a0, a1, a2, a3⟩, g2⟩ := hag
    exact ⟨ki, f1, s1, nx, ⟨(hcl 32 (by omega)).trans a0, (hcl 33 (by omega)).trans a1, (hcl 34 (by omega)).trans a2, (hcl 35 (by omega)).trans a3⟩, g2⟩
  · obtain ⟨⟨g, y, q1, q3⟩, q2⟩ := himg j j0 j1 ik e
    exact ⟨⟨g, y, rj_ce q1 (fun p x0 x1 => hcl p (by omega)), q3⟩, fun z => rj_ce (q2 z) (fun p x0 x1 => hcl p (by omega))⟩
  · obtain ⟨q, n, cd, k1, k2, k3, k4, k5⟩ := hrul r r0 r1
    exact ⟨q, n, cd, (hg 31 r (by omega)).trans k1, k2, (hcl q (by omega)).trans k3, (hcl (q + 1) (by omega)).trans k4, k5⟩
theorem my_len {c : Int} {S : fs_S} {wm : ab_W} (h : my_I c S wm) : wm.length = 22 ∧ ab_okW wm := by
  obtain ⟨x, ix, mk, tape, taped, rules, said, was, undone, images, ru⟩ := S
  obtain ⟨sign, leng, clause, clauses, read, next, wrong, number, hzz⟩ := h
  obtain ⟨text, made, deep, lines, opn, opened, stack, top, hzz⟩ := hzz
  obtain ⟨word, kept, sumOf, faced, slotAt, dayAt, row, bestRow, hzz⟩ := hzz
  obtain ⟨tMany, tMost, drawX, rfl, -⟩ := hzz
  exact ⟨rfl, ab_okW_of rfl⟩
theorem my_obj {c : Int} {S : fs_S} {wm : ab_W} (h : my_I c S wm) : ∃ fs, wm[0]? = some (ab_ob 11 fs) := by
  obtain ⟨x, ix, mk, tape, taped, rules, said, was, undone, images, ru⟩ := S
  obtain ⟨sign, leng, clause, clauses, read, next, wrong, number, hzz⟩ := h
  obtain ⟨text, made, deep, lines, opn, opened, stack, top, hzz⟩ := hzz
  obtain ⟨word, kept, sumOf, faced, slotAt, dayAt, row, bestRow, hzz⟩ := hzz
  obtain ⟨tMany, tMost, drawX, rfl, -⟩ := hzz
  exact ⟨_, rfl⟩
def lj_I (c : Int) (w : ab_W) : Prop := ∃ (S : fs_S) (wm : ab_W), cy_I w S wm ∧ my_I c S wm
theorem lj_obj {c : Int} {S S2 : fs_S} {wm w : ab_W} (h : my_I c S wm) (h2 : cy_I w S2 wm) : ∃ fs, w[107]? = some (ab_ob 11 fs) := by
  obtain ⟨fs, hf⟩ := my_obj h
  exact ⟨_, cy_seg h2 0 _ hf⟩
theorem lj_av {av : List ab_V} (h : ∀ v ∈ av, ∃ a, v = ab_I a) : av.map (ab_shV 107) = av := by
  induction av with
  | nil => rfl
  | cons v r ih =>
    obtain ⟨a, rfl⟩ := h v List.mem_cons_self
    rw [List.map_cons, ih (fun u hu => h u (List.mem_cons_of_mem _ hu))]
    rfl
theorem lj_mod {M : ab_M} {d : Nat} {av : List ab_V} {c c0 : Int} {S S0 : fs_S} {wm w : ab_W} {R : Option ab_V → Prop} (hm : ab_Mt g_G g_rs M d 0 0 (ab_R 0 :: av) wm (fun r w' => R r ∧ my_I c S w')) (hR : ∀ r, R r → ∃ v, r = some (ab_I v)) (hav : ∀ v ∈ av, ∃ a, v = ab_I a) (h0 : my_I c0 S0 wm) (hci : cy_I w S wm) : ab_Mt g_G g_rs M d 0 0 (ab_R 107 :: av) w (fun r w3 => R r ∧ lj_I c w3) := by
  have hl := (my_len h0).1
  have h := ab_emb (o := 107) (B := w) hm (fun r w' q => by rw [(my_len q.2).1, hl]) (fun r w' q => hR r q.1) (cy_seg hci) (by rw [hl]; decide)
  have e : (ab_R 0 :: av).map (ab_shV 107) = ab_R 107 :: av := by
    rw [List.map_cons, lj_av hav]
    show (ab_R (if 0 < ab_sb then 107 + 0 else 0)) :: av = _
    rw [if_pos (by decide)]
  rw [e] at h
  refine h.conseq (fun r w3 q => ?_)
  obtain ⟨w', ⟨q1, q2⟩, rfl⟩ := q
  obtain ⟨k1, k2⟩ := my_len q2
  exact ⟨q1, S, w', cy_put hci hl k1 k2, q2⟩
