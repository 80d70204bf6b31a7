/-! clone() and checkcast of an int row; room to spare; worlds that grow -/
section EVC
variable {G : ab_G} {rs : List String} {M : ab_M} {d bc bs pc : Nat} {l : ab_L} {st : List ab_V} {w : ab_W} {Q : Option ab_V → ab_W → Prop}
theorem ev_cloneI {o n idx : Nat} {f : Int → Int} (hd : decode M.2.1 pc = .ok (.invokevirtual idx, 3)) (hk1 : Cond.methodLink M.1.cls idx ⟨"[I", "clone", "()Ljava/lang/Object;"⟩ ∈ G.2.1) (hk2 : Cond.sameMethod "[I" "java/lang/Object" "clone" "()Ljava/lang/Object;" ∈ G.2.1) (hk3 : Cond.native ⟨"java/lang/Object", "clone", "()Ljava/lang/Object;"⟩ ∈ G.2.1) (hk4 : Cond.instanceMethod ⟨"java/lang/Object", "clone", "()Ljava/lang/Object;"⟩ ∈ G.2.1) (hk5 : Cond.selects "[I" ⟨"[I", "clone", "()Ljava/lang/Object;"⟩ ⟨"java/lang/Object", "clone", "()Ljava/lang/Object;"⟩ ∈ G.2.1) (hk6 : Cond.castable "[I" "java/lang/Cloneable" ∈ G.2.2.1) (hwo : w[o]? = some (ab_ai 0 n f)) (hlt : w.length < ab_sb) (hW : ab_okW w) (hL : ab_okL w.length l) (hSt : ab_okS w.length st) (hw : ab_wd st ≤ 8) (hdd : 1 ≤ d) (kk : ab_Ev G rs M d bc bs (pc + 3) l (.inr (.inr (some w.length)) :: st) (w ++ [ab_ai 0 n f]) Q) : ab_Ev G rs M d (bc + 1) (bs + n) pc l (.inr (.inr (some o)) :: st) w Q := by
  intro p la e R s m args below meth c H locs cells slots D dA aK aV as A ls Qc free hF hs hP hD hS hl h1 h2 hR
  have hF' := hF
  obtain ⟨hx, hb, hml, -, -, ho, -, ht, hfr, hlc, hC, hA⟩ := hF'
  have hsz : ls.size = M.2.2.1 := by obtain ⟨-, lv, z, -⟩ := hl; exact z.1
  refine va_clone hx hb (hml.trans hsz.symm) ho (ht _ (List.mem_cons_of_mem _ hk1)) (ht _ (List.mem_cons_of_mem _ hk2)) (ht _ (List.mem_cons_of_mem _ hk3)) (ht _ (List.mem_cons_of_mem _ hk4)) (ht _ (List.mem_cons_of_mem _ hk5)) (hC.2.2.1 _ hk6) hC.1 hP hD hS hA o 0 (ab_cw_get hwo) rfl (va_nm_int (hC.1.2 0 (dA 0, .int) rfl).2) (fun i v hv => va_fit (ty := .int) (fun _ _ => rfl) i v hv) (by rw [hfr]; exact hdd) ?_ (by omega) ?_ hd (fun q H1 hK1 hP1 hD1 hS1 => ab_grow (E := ab_ai 0 n f) hlt hW trivial hL hSt kk hF hs hl hR (by omega) ?_ hP1 hD1 hS1)
  · rw [ab_wsum, hlc]; omega
  · show slots + n ≤ R.slots
    omega
  · show slots + n + bs ≤ R.slots
    omega
theorem ev_castI {o n idx : Nat} {f : Int → Int} (hd : decode M.2.1 pc = .ok (.checkcast idx, 3)) (hk : Cond.classLink M.1.cls idx "[I" ∈ G.2.1) (hwo : w[o]? = some (ab_ai 0 n f)) (kk : ab_Ev G rs M d bc bs (pc + 3) l (.inr (.inr (some o)) :: st) w Q) : ab_Ev G rs M d bc bs pc l (.inr (.inr (some o)) :: st) w Q := by
  intro p la e R s m args below meth c H locs cells slots D dA aK aV as A ls Qc free hF hs hP hD hS hl h1 h2 hR
  have kk := kk p la e R s m args below meth c H locs cells slots D dA aK aV as A ls Qc free hF hs hP hD hS hl h1 h2 hR
  obtain ⟨hx, hb, hml, -, -, ho, -, ht, hfr, hlc, hC, hA⟩ := hF
  exact va_castA hx hb ho (ht _ (List.mem_cons_of_mem _ hk)) hP o (ab_cw_get hwo) (va_nm_int (hC.1.2 0 (dA 0, .int) rfl).2) hd kk
theorem tm_room {bc2 bs2 : Nat} (h1 : bc ≤ bc2) (h2 : bs ≤ bs2) (k : ab_Ev G rs M d bc bs pc l st w Q) : ab_Ev G rs M d bc2 bs2 pc l st w Q := by
  intro p la e R s m args below meth c H locs cells slots D dA aK aV as A ls Qc free hF hs hP hD hS hl g1 g2 hR
  exact k p la e R s m args below meth c H locs cells slots D dA aK aV as A ls Qc free hF hs hP hD hS hl (by omega) (by omega) hR
end EVC
theorem ab_ga {w : ab_W} {o : Nat} {e : ab_E} {v : ab_W} (h : w[o]? = some e) : (w ++ v)[o]? = some e := by
  rw [List.getElem?_append_left (tm_lt h)]; exact h
theorem ab_gl {w : ab_W} {e : ab_E} : (w ++ [e])[w.length]? = some e := by
  rw [List.getElem?_append_right (Nat.le_refl _), Nat.sub_self]; rfl
theorem ab_sl1 {w : ab_W} {e E : ab_E} : (w ++ [e]).set w.length E = w ++ [E] := by
  rw [List.set_append_right _ _ (Nat.le_refl _), Nat.sub_self]; rfl
theorem ab_sl2 {w : ab_W} {e E x : ab_E} : ((w ++ [e]) ++ [x]).set w.length E = w ++ [E, x] := by
  rw [List.append_assoc, List.set_append_right _ _ (Nat.le_refl _), Nat.sub_self]; rfl
theorem ab_ok_mono {n m : Nat} (h : n ≤ m) {v : ab_V} (hv : ab_ok n v) : ab_ok m v := by
  rcases v with a | a | _ | i
  · trivial
  · trivial
  · trivial
  · rcases hv with h1 | h1
    · exact Or.inl (Nat.lt_of_lt_of_le h1 h)
    · exact Or.inr h1
theorem ab_okE_mono {n m : Nat} (h : n ≤ m) {e : ab_E} (he : ab_okE n e) : ab_okE m e := by
  rcases e with ⟨t, k, f⟩ | ⟨k, f⟩ | ⟨t, k, f⟩ | ⟨c, fs⟩
  · trivial
  · trivial
  · intro j i hi
    rcases he j i hi with h1 | h1
    · exact Or.inl (Nat.lt_of_lt_of_le h1 h)
    · exact Or.inr h1
  · exact fun v hv => ab_ok_mono h (he v hv)
theorem ab_okW_app {w v : ab_W} (hw : ab_okW w) (hv : ∀ e ∈ v, ab_okE (w.length + v.length) e) : ab_okW (w ++ v) := by
  intro e he
  rw [List.length_append]
  rcases List.mem_append.mp he with h | h
  · exact ab_okE_mono (Nat.le_add_right _ _) (hw e h)
  · exact hv e h
theorem ab_okW_1 {w : ab_W} {e : ab_E} (hw : ab_okW w) (he : ab_okE (w.length + 1) e) : ab_okW (w ++ [e]) := ab_okW_app hw (fun x hx => by
  rw [List.mem_singleton.mp hx]; exact he)
theorem ab_okL2 {n i j : Nat} {x : Int} (h : i < n) : ab_okL n [some (ab_R i), some (ab_I x)] := by
  intro k v hk
  match k with
  | 0 => cases hk; exact Or.inl h
  | 1 => cases hk; trivial
  | k + 2 => cases hk
theorem ab_okS_n {n : Nat} : ab_okS n [] := fun v hv => by cases hv
theorem ab_okS_i {n : Nat} {a : Int} {st : List ab_V} (h : ab_okS n st) : ab_okS n (ab_I a :: st) := fun v hv => by
  rcases List.mem_cons.mp hv with rfl | h2
  · trivial
  · exact h v h2
theorem ab_okS_r {n i : Nat} {st : List ab_V} (hi : i < n) (h : ab_okS n st) : ab_okS n (ab_R i :: st) := fun v hv => by
  rcases List.mem_cons.mp hv with rfl | h2
  · exact Or.inl hi
  · exact h v h2
theorem ab_okS_z {n : Nat} {st : List ab_V} (h : ab_okS n st) : ab_okS n (ab_N :: st) := fun v hv => by
  rcases List.mem_cons.mp hv with rfl | h2
  · trivial
  · exact h v h2
/-- a world with two cells more -/
theorem tm_app2 {N : Nat} {T : Nat → tm_S} {w : ab_W} {e1 e2 : ab_E} {S1 S2 : tm_S} (hW : tm_W N T w) (h1 : S1 (some e1)) (h2 : S2 (some e2)) (k1 : ab_okE (N + 2) e1) (k2 : ab_okE (N + 2) e2) : tm_W (N + 2) (tm_up (tm_up T N S1) (N + 1) S2) (w ++ [e1, e2]) := by
  have hl := hW.1
  refine ⟨by rw [List.length_append, hl]; rfl, fun p => ?_, ab_okW_app hW.2.2 (fun e he => ?_)⟩
  · rcases Nat.lt_trichotomy p N with hp | hp | hp
    · rw [tm_upn (by omega), tm_upn (by omega), List.getElem?_append_left (by omega)]
      exact hW.2.1 p
    · subst hp
      rw [tm_upn (by omega), tm_upe, List.getElem?_append_right (by omega), hl, Nat.sub_self]
      exact h1
    · rcases Nat.decEq p (N + 1) with hq | hq
      · rw [tm_upn hq, tm_upn (by omega), List.getElem?_eq_none (by rw [List.length_append, hl]; show N + 2 ≤ p; omega)]
        have h3 := hW.2.1 p
        rw [List.getElem?_eq_none (by omega)] at h3
        exact h3
      · subst hq
        rw [tm_upe, List.getElem?_append_right (by omega), hl, show N + 1 - N = 1 by omega]
        exact h2
  · rw [hl]
    rcases List.mem_cons.mp he with rfl | h3
    · exact k1
    · rw [List.mem_singleton.mp h3]; exact k2
theorem tm_g_app {w v : ab_W} {p : Nat} {j : Int} (h : p < w.length) : tm_g (w ++ v) p j = tm_g w p j := by
  unfold tm_g; rw [List.getElem?_append_left h]
theorem tm_setar {N : Nat} {T : Nat → tm_S} {w : ab_W} {o t n x : Nat} {j : Int} {f : Int → Option Nat} (hW : tm_W N T w) (hS : T o = tm_ar t n) (hc : w[o]? = some (ab_ar t n f)) (hx : x < N) :
    tm_W N T (w.set o (ab_ar t n (ab_up f j (some x)))) ∧ tm_g (w.set o (ab_ar t n (ab_up f j (some x)))) o j = some (ab_R x) ∧ ∀ (p : Nat) (i : Int), ¬ (p = o ∧ i = j) → tm_g (w.set o (ab_ar t n (ab_up f j (some x)))) p i = tm_g w p i := by
  refine ⟨tm_set hW hc (by rw [hS]; exact ⟨_, rfl⟩) ?_, ?_, fun p i hn => ?_⟩
  · rw [hW.1]
    exact ab_okru hx (by have := hW.2.2 _ (List.mem_of_getElem? hc); rw [hW.1] at this; exact this)
  · rw [tm_g_set hc]; show some ((.inr (.inr (ab_up f j (some x) j)) : ab_V)) = _; rw [ab_upe]
  · rcases Nat.decEq p o with hp | rfl
    · exact tm_g_ne hp
    · rw [tm_g_set hc]
      unfold tm_g; rw [hc]
      show some ((.inr (.inr (ab_up f j (some x) i)) : ab_V)) = some (.inr (.inr (f i)))
      rw [ab_upn _ _ (fun z => hn ⟨rfl, z⟩)]
theorem tm_aastore {G : ab_G} {rs : List String} {M : ab_M} {d bc bs pc : Nat} {l : ab_L} {st : List ab_V} {w : ab_W} {Q : Option ab_V → ab_W → Prop} {N : Nat} {T : Nat → tm_S} {o n t x ci : Nat} {r : vw_C} {fs : List tm_F} {j : Int} (hd : decode M.2.1 pc = .ok (.aastore, 1)) (hW : tm_W N T w) (hS : T o = tm_ar (4 + t) n) (ht : rs[t]? = some r.1) (hc : G.1[ci]? = some r) (hX : T x = tm_o ci fs) (h0 : 0 ≤ j) (hn : j < n) (hj : ab_in j) (kk : ∀ w', tm_W N T w' → tm_g w' o j = some (ab_R x) → (∀ (p : Nat) (i : Int), ¬ (p = o ∧ i = j) → tm_g w' p i = tm_g w p i) → ab_Ev G rs M d bc bs (pc + 1) l st w' Q) : ab_Ev G rs M d bc bs pc l (.inr (.inr (some x)) :: .inl j :: .inr (.inr (some o)) :: st) w Q := by
  have h := hW.2.1 o
  rw [hS] at h
  obtain ⟨f, hcf⟩ := h
  obtain ⟨vs, hv, -, -⟩ := tm_cell hW hX
  obtain ⟨h2, h3, h4⟩ := tm_setar (j := j) hW hS hcf (tm_ltN hW hX)
  exact ev_aastore hd hcf ht hc hv h0 hn hj (kk _ h2 h3 h4)
