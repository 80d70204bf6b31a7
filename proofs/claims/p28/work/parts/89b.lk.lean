/-! turned, look: the class's answers -/
theorem an_l6 {vs : List ab_V} {v0 v1 v2 v3 v4 v5 : ab_V} (hl : vs.length = 6) (h0 : vs[0]? = some v0) (h1 : vs[1]? = some v1) (h2 : vs[2]? = some v2) (h3 : vs[3]? = some v3) (h4 : vs[4]? = some v4) (h5 : vs[5]? = some v5) : vs = [v0, v1, v2, v3, v4, v5] := List.ext_getElem? (fun i => match i with
  | 0 => h0
  | 1 => h1
  | 2 => h2
  | 3 => h3
  | 4 => h4
  | 5 => h5
  | i + 6 => by rw [List.getElem?_eq_none (by omega)]; rfl)
theorem gu_of {N : Nat} {T : Nat → tm_S} {w : ab_W} {g : Nat} (hW : tm_W N T w) (hS : is_Gu T g) : ∃ (an ra : Int → Int) (tu : Int) (sn : Int → Int) (la gp : Int), gua g an ra tu sn la gp w := by
  obtain ⟨t0, t1, t2, t3⟩ := hS
  obtain ⟨vs, c0, cl, cv⟩ := tm_cell hW t0
  obtain ⟨an, c1, -⟩ := ai_of hW t1
  obtain ⟨ra, c2, -⟩ := ai_of hW t2
  obtain ⟨sn, c3, -⟩ := ai_of hW t3
  obtain ⟨v2, h2, b2, rfl, -⟩ := cv 2 _ rfl
  obtain ⟨v4, h4, b4, rfl, -⟩ := cv 4 _ rfl
  obtain ⟨v5, h5, b5, rfl, -⟩ := cv 5 _ rfl
  have ev := an_l6 cl (an_r (k := 0) cv rfl) (an_r (k := 1) cv rfl) h2 (an_r (k := 3) cv rfl) h4 h5
  rw [ev] at c0
  exact ⟨an, ra, b2, sn, b4, b5, c0, c1, c2, c3⟩
theorem look_b {f : Int → Int} (h7 : 0 ≤ f 1 ∧ f 1 ≤ 7) (n y : Int) : -1000 ≤ sp_look f n y ∧ sp_look f n y ≤ 1000000 := by
  have q := sp_lk_b f n 84 (by decide) (5 * f 1).toNat
  unfold sp_look
  (repeat' split) <;> omega
set_option maxRecDepth 4000 in
theorem cz_look {w : ab_W} {S : fs_S} {wm : ab_W} {c : Int} (h : cy_I w S wm) (hok : fs_ok c S) (hcm : c ≤ 1000) (hdg : fs_dg S) (y1 : Int) (hy1 : ab_in y1) (y2 : Int) (hy2 : ab_in y2) : ab_Mt g_G g_rs mt_Tu_look 4 0 0 [ab_R 0, ab_I y1, ab_I y2] w (cy_A (fa_look S y1 y2) S wm) := by
  obtain ⟨x, ix, mk, tf, tl, rc, said, was, undone, images, ru⟩ := S
  obtain ⟨N, T, a, b, hF, hR, hag, himg, hrul⟩ := h
  obtain ⟨hW, hA, ⟨kn, kt, krc, ktl, ktf⟩, ⟨hrc, hN⟩, hrl, him, hac, hx, hmd, hix, hseg⟩ := id hF
  obtain ⟨o1, o2, o3, o4, o5, o6, o7, o8⟩ := hok
  have hab := hA.ab
  have hab2 : a = 3 ∨ a = 16 := by omega
  have t0 := tu_of hW hA kn kt krc
  have sA := sg_all o1.1
  obtain ⟨an0, ra0, tu0, sn0, la0, gp0, hGu⟩ := gu_of hW hA.2.2.2.2.2.2.2.2.2.2.1
  have b1 := sA.2.1
  refine (an_mt (co_Tu_look o1.1 t0 hR hab2 hdg.1 hGu y1 hy1 y2 hy2) (tm_Tu_look hW hA kn kt y1 (by omega) (by omega) y2 (by omega) (by omega)) (fun r w' h => h.1) (fun r w' h => by rw [h.1.1, hW.1])).conseq (fun r w2 h => ?_)
  obtain ⟨⟨hW2, v, rfl, hf, l1, u1⟩, r1, w1, ⟨-, e1⟩, sm, sr⟩ := h
  have tb := look_b b1 y1 y2
  have ev := an_int sr e1 rfl (by split <;> omega) ⟨by omega, by omega⟩
  exact ⟨congrArg (fun z => some (ab_I z)) ev, N, T, a, b, cf_keep hF hW2 (fun p j hK => hf p j (by omega)) (hac.fr (fun k => hf _ k (by omega)) (fun k => hf _ k (by omega)) (fun k => hf _ k (by omega))), ri_fr hW hW2 hA.ri (fun p j q0 q1 => hf p j (by omega)) hR, ag_fr hW hW2 hA.ac (fun p j q0 q1 => hf p j (by omega)) hag, im_fr hW hW2 him (fun p j q0 q1 => hf p j (by omega)) himg, ru_fr hW hW2 hrl (fun p j q0 => hf p j (by omega)) hrul⟩
theorem lk_mod {M : ab_M} {d : Nat} {av : List ab_V} {c c0 : Int} {S S0 : fs_S} {wm w : ab_W} {R : Option ab_V → Prop} (hm : ab_Mt g_G g_rs M d 0 0 (ab_R 0 :: av) wm (fun r w' => R r ∧ my_I c S w')) (hR : ∀ r, R r → ∃ v, r = some (ab_I v)) (hav : ∀ v ∈ av, ∃ a, v = ab_I a) (h0 : my_I c0 S0 wm) (hci : cy_I w S wm) (hdg : fs_dg S) : ab_Mt g_G g_rs M d 0 0 (ab_R 107 :: av) w (fun r w3 => R r ∧ lk_I c w3) := by
  have hl := (my_len h0).1
  have h := ab_emb (o := 107) (B := w) hm (fun r w' q => by rw [(my_len q.2).1, hl]) (fun r w' q => hR r q.1) (cy_seg hci) (by rw [hl]; decide)
  have e : (ab_R 0 :: av).map (ab_shV 107) = ab_R 107 :: av := by
    rw [List.map_cons, lj_av hav]
    show (ab_R (if 0 < ab_sb then 107 + 0 else 0)) :: av = _
    rw [if_pos (by decide)]
  rw [e] at h
  refine h.conseq (fun r w3 q => ?_)
  obtain ⟨w', ⟨q1, q2⟩, rfl⟩ := q
  obtain ⟨k1, k2⟩ := my_len q2
  exact ⟨q1, S, w', cy_put hci hl k1 k2, q2, hdg⟩