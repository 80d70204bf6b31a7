/-! a RING's text keeps what must hold of the row read -/
section RDK
variable {f : Int → Int} {L : Int} {rd rd2 : Int → Int}
theorem rk_gate {s n2 : Int} (h : rd_ok rd) (hx : rs_gate f L s rd = .ok (n2, rd2)) : rd_ok rd2 := by
  unfold rs_gate at hx
  split at hx
  · cases hx
  · rename_i n1 v1 e1
    have q1 := rs_num_b e1
    injection hx with hx
    injection hx with h2 h3
    rw [← h3]
    exact rd_gate h q1.1 q1.2
theorem rk_like {s y n2 : Int} (hy : y = 1 ∨ y = -1) (h : rd_ok rd) (hx : rs_like f L s y rd = .ok (n2, rd2)) : rd_ok rd2 := by
  have b1 : 0 ≤ rd 1 ∧ rd 1 ≤ 7 := h.1 1 (by decide) (by decide)
  unfold rs_like at hx
  split at hx
  · cases hx
  · rename_i n1 v1 e1
    have q1 := rs_num_b e1
    split at hx
    · cases hx
    · rename_i n3 v3 e3
      have q3 := rs_num_b e3
      split at hx
      · cases hx
      · rename_i n4 v4 e4
        have q4 := rs_num_b e4
        injection hx with hx
        injection hx with h2 h3
        rw [← h3]
        rcases hy with rfl | rfl
        · exact rd_like h (by omega) (by omega) (by omega) (by omega)
        · exact rd_like h (by omega) (by omega) (by omega) (by omega)
theorem rk_ring {s a n2 : Int} (h : rd_ok rd) (hx : rs_ring f L s a rd = .ok (n2, rd2)) : rd_ok rd2 := by
  unfold rs_ring at hx
  split at hx
  · cases hx
  · split at hx
    · cases hx
    · rename_i n1 v1 e1
      have q1 := rs_num_b e1
      injection hx with hx
      injection hx with h2 h3
      rw [← h3]
      exact rd_up (rd_up h (show (0 : Int) ≤ v1 ∧ v1 ≤ 11 from q1) (fun z => by omega)) (show (0 : Int) ≤ 1 ∧ (1 : Int) ≤ 1 by decide) (fun z => by omega)
theorem rk_sight {s a n2 : Int} (h : rd_ok rd) (hx : rs_sight f L s a rd = .ok (n2, rd2)) : rd_ok rd2 := by
  have b2 : 0 ≤ rd 2 ∧ rd 2 ≤ 12 := h.1 2 (by decide) (by decide)
  unfold rs_sight at hx
  split at hx
  · cases hx
  · split at hx
    · cases hx
    · rename_i n1 v1 e1
      have q1 := rs_num_b e1
      split at hx
      · cases hx
      · rename_i n3 v3 e3
        have q3 := rs_num_b e3
        split at hx
        · cases hx
        · rename_i n4 v4 e4
          have q4 := rs_num_b e4
          split at hx
          · cases hx
          · rename_i n5 v5 e5
            have q5 := rs_num_b e5
            injection hx with hx
            injection hx with h2 h3
            rw [← h3]
            have k1 := rd_sight0 (k := rd 2) (v := v1) h b2.1 (by omega) q1.1 q1.2
            have k2 := rd_sight (k := rd 2) (j := 1) (v := v3) (b := 11) k1 b2.1 (by omega) (by decide) (by decide) q3.1 q3.2 (by decide)
            have k3 := rd_sight (k := rd 2) (j := 2) (v := v4) (b := 23) k2 b2.1 (by omega) (by decide) (by decide) q4.1 q4.2 (by decide)
            have k4 := rd_sight (k := rd 2) (j := 3) (v := v5) (b := 23) k3 b2.1 (by omega) (by decide) (by decide) (by omega) q5.2 (by decide)
            exact rd_up k4 (show (0 : Int) ≤ rd 2 + 1 ∧ rd 2 + 1 ≤ 12 by omega) (fun z => by omega)
theorem rk_rate {s n2 : Int} (h : rd_ok rd) (hx : rs_rate f L s rd = .ok (n2, rd2)) : rd_ok rd2 := by
  unfold rs_rate at hx
  split at hx
  · cases hx
  · rename_i n1 v1 e1
    have q1 := rs_num_b e1
    split at hx
    · cases hx
    · rename_i n3 v3 e3
      have q3 := rs_num_b e3
      split at hx
      · cases hx
      · rename_i n4 v4 e4
        have q4 := rs_num_b e4
        injection hx with hx
        injection hx with h2 h3
        rw [← h3]
        exact rd_fill h (by omega) (by omega) (by omega) _ (by omega)
theorem rk_house {s a n2 : Int} (h : rd_ok rd) (hx : rs_house f L s a rd = .ok (n2, rd2)) : rd_ok rd2 := by
  have b1 : 0 ≤ rd 1 ∧ rd 1 ≤ 7 := h.1 1 (by decide) (by decide)
  unfold rs_house at hx
  split at hx
  · cases hx
  · split at hx
    · cases hx
    · rename_i n1 v1 e1
      have q1 := rs_num_b e1
      split at hx
      · cases hx
      · split at hx
        · cases hx
        · rename_i n3 v3 e3
          have q3 := rs_num_b e3
          injection hx with hx
          injection hx with h2 h3
          rw [← h3]
          have k1 := rd_cell (a := 46 + rd 1) (v := v1) (b := 11) h q1.1 q1.2 (Or.inl ⟨rfl, Or.inl ⟨by omega, by omega⟩⟩)
          have k2 := rd_cell (a := 53 + rd 1) (v := v3) (b := 9) k1 (by omega) q3.2 (Or.inr ⟨rfl, by omega, by omega⟩)
          have k3 := rd_fill0 (a := 60 + 5 * rd 1) k2 (by omega) 5 (by omega)
          have k4 := rd_cell (a := 143 + rd 1) (v := v1) (b := 11) k3 q1.1 q1.2 (Or.inl ⟨rfl, Or.inr ⟨by omega, by omega⟩⟩)
          exact rd_up k4 (show (0 : Int) ≤ rd 1 + 1 ∧ rd 1 + 1 ≤ 7 by omega) (fun z => by omega)
theorem rk_line {s a n2 : Int} (h : rd_ok rd) (hx : rs_line f L s a rd = .ok (n2, rd2)) : rd_ok rd2 := by
  unfold rs_line at hx
  split at hx
  · exact rk_ring h hx
  · split at hx
    · cases hx
    · split at hx
      · exact rk_house h hx
      · split at hx
        · exact rk_sight h hx
        · split at hx
          · exact rk_like (Or.inl rfl) h hx
          · split at hx
            · exact rk_like (Or.inr rfl) h hx
            · split at hx
              · exact rk_gate h hx
              · exact rk_rate h hx
theorem rk_clause {n i n2 : Int} (h : rd_ok rd) (hx : rs_clause f L n i rd = .ok (n2, rd2)) : rd_ok rd2 := by
  unfold rs_clause at hx
  split at hx
  · split at hx
    · cases hx
    · exact rk_line h hx
  · cases hx
end RDK
theorem rk_go {f : Int → Int} {L : Int} : ∀ (k : Nat) (n i : Int) (rd rd2 : Int → Int), rd_ok rd → rs_go f L k n i rd = .ok rd2 → rd_ok rd2 := by
  intro k
  induction k with
  | zero => intro n i rd rd2 h hx; unfold rs_go at hx; cases hx
  | succ k ih =>
    intro n i rd rd2 h hx
    unfold rs_go at hx
    split at hx
    · split at hx
      · cases hx
      · rename_i n2 rd3 e
        exact ih _ _ _ _ (rk_clause h e) hx
    · split at hx
      · injection hx with hx
        rw [← hx]
        exact h
      · cases hx
theorem rk_all {f : Int → Int} {L : Int} {rd rd2 : Int → Int} (h : rd_ok rd) (hx : rs_all f L rd = .ok rd2) : rd_ok rd2 := by
  unfold rs_all at hx
  split at hx
  · cases hx
  · rename_i n2 rd3 e
    exact rk_go 40 _ _ _ _ (rk_clause h e) hx
theorem an_rr {v : Option ab_V} {p q : Nat} (h1 : v = some (ab_R p)) (h2 : v = some (ab_R q)) : p = q := by
  rw [h1] at h2
  injection h2 with h2
  injection h2 with h2
  injection h2 with h2
  injection h2 with h2
theorem al_of {N : Nat} {T : Nat → tm_S} {w : ab_W} {p n : Nat} (hW : tm_W N T w) (hS : T p = tm_al n) : ∃ g : Int → Int64, w[p]? = some (ab_al n g) ∧ ∀ (r : Int) (v : Int64), tm_g w p r = some (ab_J v) → g r = v := by
  have h := hW.2.1 p
  rw [hS] at h
  obtain ⟨f, hc⟩ := h
  refine ⟨f, hc, fun r v hg => ?_⟩
  unfold tm_g at hg
  rw [hc] at hg
  have z : some (ab_J (f r)) = some (ab_J v) := hg
  injection z with z
  injection z with z
  injection z
/-- the Ring that was told, as a Ring -/
theorem ri_rel {N : Nat} {T : Nat → tm_S} {w : ab_W} {o : Nat} {rd sd : Int → Int} {x : Int} (hW : tm_W N T w) (hS : is_Ri T o) (hrd : rd_ok rd) (h : b_rel o rd w) (k0 : tm_g w o 0 = some (ab_I 1)) (k6 : tm_g w o 6 = some (ab_I x)) (e0 : rd 0 = 1) : ri_at_j o (rs_said rd sd 191) x w := by
  have hsg := sgc_said (c := 0) (sd := sd) hrd (by decide)
  have e : ∀ k, 0 ≤ k → k < 150 → rs_said rd sd 191 k = rd k := fun k h0 h1 => (if_pos ⟨h0, by omega⟩).trans (if_pos h1)
  have z : ∀ k, 150 ≤ k → k < 191 → rs_said rd sd 191 k = 0 := fun k h0 h1 => (if_pos ⟨by omega, h1⟩).trans (if_neg (by omega))
  obtain ⟨i0, i1, i2, i3, i4, i5, i6, i7, hzz⟩ := sg_all hsg.1
  obtain ⟨i8, i9, i10, i11, i12, i13, i14, i15, hzz⟩ := hzz
  obtain ⟨i16, i17⟩ := hzz
  generalize rs_said rd sd 191 = g at e z i0 i1 i2 i3 i4 i5 i6 i7 i8 i9 i10 i11 i12 i13 i14 i15 i16 i17 ⊢
  have hz : ∀ k, (5 ≤ k ∧ k < 10) ∨ (34 ≤ k ∧ k < 46) → rd k = 0 := hrd.2
  obtain ⟨t0, t1, t2, t3, t4, t5, t6, t7, t8, t9, t10, t11, t12⟩ := hS
  obtain ⟨⟨a1, a2, a3, a4, a5, a7, a8, a9⟩, b, c, d, m, md, vq⟩ := h
  obtain ⟨vs, c0, cl, cv⟩ := tm_cell hW t0
  obtain ⟨vd, d0, dl, dv⟩ := tm_cell hW t8
  obtain ⟨sl, c1, k_sl⟩ := ai_of hW t1
  obtain ⟨fs, c2, k_fs⟩ := ai_of hW t2
  obtain ⟨vo, c3, k_vo⟩ := ai_of hW t3
  obtain ⟨li, c4, k_li⟩ := ai_of hW t4
  obtain ⟨vw, c5, k_vw⟩ := al_of hW t5
  obtain ⟨ra, c6, k_ra⟩ := ai_of hW t6
  obtain ⟨wo, c7, k_wo⟩ := ai_of hW t7
  obtain ⟨dh, c9, -⟩ := ai_of hW t9
  obtain ⟨da, c10, -⟩ := ai_of hW t10
  obtain ⟨ds, c11, -⟩ := ai_of hW t11
  obtain ⟨dn, c12, -⟩ := ai_of hW t12
  have ev := an_l18 cl (tm_gob2 (k := 0) rfl c0 k0) (tm_gob2 (k := 1) rfl c0 a1) (tm_gob2 (k := 2) rfl c0 a2) (tm_gob2 (k := 3) rfl c0 a3) (tm_gob2 (k := 4) rfl c0 a4) (tm_gob2 (k := 5) rfl c0 a5) (tm_gob2 (k := 6) rfl c0 k6) (tm_gob2 (k := 7) rfl c0 a7) (tm_gob2 (k := 8) rfl c0 a8) (tm_gob2 (k := 9) rfl c0 a9) (an_r (k := 10) cv rfl) (an_r (k := 11) cv rfl) (an_r (k := 12) cv rfl) (an_r (k := 13) cv rfl) (an_r (k := 14) cv rfl) (an_r (k := 15) cv rfl) (an_r (k := 16) cv rfl) (an_r (k := 17) cv rfl)
  have ed := an_l5 dl (tm_gob2 (k := 0) rfl d0 md) (an_r (k := 1) dv rfl) (an_r (k := 2) dv rfl) (an_r (k := 3) dv rfl) (an_r (k := 4) dv rfl)
  rw [ev] at c0
  rw [ed] at d0
  have g1 : g 1 = rd 1 := e 1 (by decide) (by decide)
  refine ri_mk_j (told := 1) (an := rd 4) (hr := 0) (dy := 0) (sp := 0) (ss := 0) (ho := rd 1) (si := rd 2) (ga := rd 3) (dl := 0) ((e 0 (by decide) (by decide)).trans e0) (e 4 (by decide) (by decide)) ((e 5 (by decide) (by decide)).trans (hz 5 (by decide))) ((e 6 (by decide) (by decide)).trans (hz 6 (by decide))) ((e 7 (by decide) (by decide)).trans (hz 7 (by decide))) ((e 8 (by decide) (by decide)).trans (hz 8 (by decide))) g1 (e 2 (by decide) (by decide)) (e 3 (by decide) (by decide)) (z 190 (by decide) (by decide)) ⟨c0, c1, c2, c3, c4, c5, c6, c7, d0, c9, c10, c11, c12⟩ ⟨fun k q0 q1 => ?_, fun k q0 q1 => ?_, fun k q0 q1 => ?_, fun k q0 q1 => ?_, fun k q0 q1 => ?_, fun k q0 q1 => ?_, fun d1 h1 x0 x1 y0 y1 => ?_, fun k q0 q1 => ?_, fun k q0 q1 => ?_⟩
  · rw [g1] at q1 i1
    obtain ⟨b1, b2, b3⟩ := b k q0 q1
    rw [k_sl k _ b1, k_fs k _ b2, k_vo k _ b3, ← e (46 + k) (by omega) (by omega), ← e (143 + k) (by omega) (by omega), ← e (53 + k) (by omega) (by omega)]
    exact ⟨i11 _ (by omega) (by omega), i15 _ (by omega) (by omega), i12 _ (by omega) (by omega)⟩
  · rw [g1] at q1 i1
    obtain ⟨b1, b2, b3⟩ := b k q0 q1
    rw [k_sl k _ b1, k_fs k _ b2, k_vo k _ b3, e (46 + k) (by omega) (by omega), e (143 + k) (by omega) (by omega), e (53 + k) (by omega) (by omega)]
    exact ⟨rfl, rfl, rfl⟩
  · rw [g1] at q1 i1
    have b1 := c k q0 (by omega)
    rw [if_pos q1] at b1
    rw [k_li k _ b1, ← e (60 + k) (by omega) (by omega)]
    exact i13 _ (by omega) (by omega)
  · rw [g1] at q1 i1
    have b1 := c k q0 (by omega)
    rw [if_pos q1] at b1
    rw [k_li k _ b1, e (60 + k) (by omega) (by omega)]
  · rw [k_ra k _ (d k q0 q1), e (10 + k) (by omega) (by omega)]
  · rw [k_wo k _ (m k q0 q1), e (34 + k) (by omega) (by omega), hz (34 + k) (by omega)]
  · obtain ⟨v, k1, k2⟩ := vq.2 h1 y0 y1
    rw [cs_s1_eq, k_vw h1 v k1, k2 d1 x0 x1]
    have hb := vq.1
    have e2 : g 2 = rd 2 := e 2 (by decide) (by decide)
    have es : sp_sortsAt g d1 h1 = sp_sortsAt rd d1 h1 := by
      unfold sp_sortsAt
      rw [e2]
      exact sp_sorts_c2 d1 h1 _ (fun j x1 x2 => e j (by omega) (by omega))
    rw [es]
  · rw [z 190 (by decide) (by decide)] at q1
    omega
  · rw [z 190 (by decide) (by decide)] at q1
    omega
theorem acl_0 {N : Nat} {T : Nat → tm_S} {w w2 : ab_W} {ki f1 s1 : Int → Int} {u nx : Int} (h : acl 32 ki f1 s1 u nx w) (hW : tm_W N T w) (hW2 : tm_W N T w2) (hS : is_Ac T 32) (e3 : tm_g w2 32 3 = some (ab_I 0)) (e4 : tm_g w2 32 4 = tm_g w 32 4) (er : ∀ (p : Nat) (j : Int), 33 ≤ p → p < 36 → tm_g w2 p j = tm_g w p j) : acl 32 ki f1 s1 0 nx w2 := by
  obtain ⟨a0, a1, a2, a3⟩ := h
  obtain ⟨t0, t1, t2, t3⟩ := hS
  obtain ⟨vs, c0, cl, cv⟩ := tm_cell hW2 t0
  have k4 : tm_g w 32 4 = some (ab_I nx) := by
    unfold tm_g
    rw [a0]
    rfl
  have ev := an_l5 cl (an_r (k := 0) cv rfl) (an_r (k := 1) cv rfl) (an_r (k := 2) cv rfl) (tm_gob2 (k := 3) rfl c0 e3) (tm_gob2 (k := 4) rfl c0 (e4.trans k4))
  rw [ev] at c0
  exact ⟨c0, (br_ai hW hW2 t1 (fun j => er _ j (by omega) (by omega))).trans a1, (br_ai hW hW2 t2 (fun j => er _ j (by omega) (by omega))).trans a2, (br_ai hW hW2 t3 (fun j => er _ j (by omega) (by omega))).trans a3⟩
set_option maxRecDepth 4000 in
theorem cy_back {w : ab_W} {S : fs_S} {wm : ab_W} {c : Int} (h : cy_I w S wm) (hok : fs_ok c S) (hcm : c ≤ 1000) (y1 : Int) (hy1 : ab_in y1) : ab_Mt g_G g_rs mt_Tu_back 3 0 0 [ab_R 0, ab_I y1] w (cy_A (fa_back S y1) (fs_back S y1) wm) := by
  obtain ⟨x, ix, mk, tf, tl, rc, said, was, undone, images, ru⟩ := S
  obtain ⟨N, T, a, b, hF, hR, hag, himg, hrul⟩ := h
  obtain ⟨hW, hA, ⟨kn, kt, krc, ktl, ktf⟩, ⟨hrc, hN⟩, hrl, him, hac, hx, hmd, hix, hseg⟩ := id hF
  obtain ⟨o1, o2, o3, o4, o5, o6, o7, o8⟩ := hok
  have hab := hA.ab
  have hab2 : a = 3 ∨ a = 16 := by omega
  have t0 := tu_of hW hA kn kt krc
  have sA := sg_all o1.1
  obtain ⟨ki, f1, s1, nx, hacl, hnx, hu, hin, har⟩ := id hag
  obtain ⟨fi, im0, hfi⟩ := arr_of hW hA.2.1
  obtain ⟨md, md0, hmdf⟩ := ai_of hW hA.2.2.1
  obtain ⟨ik, g0, y0, hik, hIm, hIg, hfik⟩ : ∃ (ik : Nat) (g0 : Int → Int) (y0 : Int), 55 ≤ ik ∧ ri_at_j ik g0 y0 w ∧ sg_ok 23999 g0 ∧ (0 ≤ y1 → y1 ≤ 3 → fi y1 = some ik ∧ (mk y1 = 1 → g0 = sp_img images y1 ∧ y0 = ix y1)) := by
    by_cases g : 0 ≤ y1 ∧ y1 ≤ 3
    · obtain ⟨ik, k1, k2, k3⟩ := him y1 g.1 (by omega)
      obtain ⟨⟨g0, y0, q1, q3⟩, q2⟩ := himg y1 g.1 g.2 ik k3
      by_cases gm : mk y1 = 1
      · exact ⟨ik, _, _, by omega, q2 gm, (o5 y1 g.1 g.2 gm).1, fun _ _ => ⟨hfi y1 ik k1, fun _ => ⟨rfl, rfl⟩⟩⟩
      · exact ⟨ik, g0, y0, by omega, q1, q3, fun _ _ => ⟨hfi y1 ik k1, fun z => absurd z gm⟩⟩
    · obtain ⟨ik, k1, k2, k3⟩ := him 0 (by decide) (by decide)
      obtain ⟨⟨g0, y0, q1, q3⟩, -⟩ := himg 0 (by decide) (by decide) ik k3
      exact ⟨ik, g0, y0, by omega, q1, q3, fun z1 z2 => absurd ⟨z1, z2⟩ g⟩
  have hmv : 0 ≤ y1 → y1 ≤ 3 → md y1 = mk y1 := fun z1 z2 => hmdf y1 _ (hmd y1 z1 z2)
  refine (an_mt (co_Tu_back o1.1 t0 hR hab2 im0 md0 y1 hy1 (fun z1 z2 => (hfik z1 z2).1) hik hIm hacl (fun z1 z2 => by rw [hmv z1 z2]; exact o4 y1 z1 z2) hIg) (tm_Tu_back hW hA kn kt y1 (by omega) (by omega) him (mk y1) (fun h0 h1 => hmd y1 h0 h1)) (fun r w' h => h.1) (fun r w' h => by rw [h.1.1, hW.1])).conseq (fun r w2 h => ?_)
  obtain ⟨⟨hW2, v, rfl, hf, l1, u1, hp⟩, r1, w1, ⟨-, hcase⟩, sm, sr⟩ := h
  have im2 := im_fr hW hW2 him (fun p j q0 q1 => hf p j (by omega)) himg
  have ru2 := ru_fr hW hW2 hrl (fun p j q0 => hf p j (by omega)) hrul
  rcases hcase with ⟨⟨g, gm⟩, e1, hR1, hA1⟩ | ⟨g, e1, e2⟩
  · have emk : mk y1 = 1 := by rw [← hmv g.1 g.2]; exact gm
    obtain ⟨eg, ey⟩ := (hfik g.1 g.2).2 emk
    subst eg
    subst ey
    have hsg := o5 y1 g.1 g.2 emk
    have b6 := (sg_all hsg.1).2.2.2.2.2.2.1
    have b5 := (sg_all hsg.1).2.2.2.2.2.1
    have bx := o6 y1 g.1 g.2
    have ev := an_int sr e1 rfl (by omega) ⟨by omega, by omega⟩
    have gg : (0 ≤ y1 ∧ y1 ≤ 3) ∧ mk y1 = 1 := ⟨g, emk⟩
    obtain ⟨i2, k1, k2, k3⟩ := him y1 g.1 (by omega)
    simp only [fa_back, fs_back, if_pos gg]
    exact ⟨by rw [ev], N, T, a, b, cf_gen hF hW2 hA ((hf 0 1 (by omega)).trans kn) ((hf 0 2 (by omega)).trans kt) (hf 0 6 (by omega)) ((hf 1 1 (by omega)).trans ktl) (fun j => (hf 2 j (by omega)).trans (ktf j)) (fun j => hf 31 j (by omega)) (fun j => hf 29 j (by omega)) (hac.fr (fun k => hf _ k (by omega)) (fun k => hf _ k (by omega)) (fun k => hf _ k (by omega))) ((hp ⟨g.1, g.2, by omega⟩ i2 k3).trans (hix y1 g.1 g.2 i2 k3)) (fun j j0 j1 => (hf 30 j (by omega)).trans (hmd j j0 j1)) (fun j j0 j1 ik e => (hf ik 6 (by omega)).trans (hix j j0 j1 ik e)), rj_cg (rj_sm hR1 hsg.1 (by omega) sm hW2 hA.ri) hsg.1 (fun k k0 k1 => if_pos ⟨k0, k1⟩), ag_sm sm hW2 hA.ac hA1 hnx (by decide) hin ar_0, im2, ru2⟩
  · subst e2
    have gn : ¬ ((0 ≤ y1 ∧ y1 ≤ 3) ∧ mk y1 = 1) := fun z => g ⟨z.1, by rw [hmv z.1.1 z.1.2]; exact z.2⟩
    have hz : 0 ≤ y1 → y1 ≤ 3 → mk y1 = 0 := fun z1 z2 => (o4 y1 z1 z2).elim id (fun z => absurd ⟨⟨z1, z2⟩, z⟩ gn)
    have hf2 : ∀ (p : Nat) (j : Int), tm_g w2 p j = tm_g w1 p j := fun p j => hf p j (fun z => z.1.2.2 (hz z.1.1 z.1.2.1))
    have ev := an_int sr e1 rfl (by decide) ⟨by omega, by omega⟩
    simp only [fa_back, fs_back, if_neg gn]
    exact ⟨by rw [ev], N, T, a, b, cf_keep hF hW2 (fun p j hK => hf2 p j) (hac.fr (fun k => hf2 _ k) (fun k => hf2 _ k) (fun k => hf2 _ k)), ri_fr hW hW2 hA.ri (fun p j q0 q1 => hf2 p j) hR, ag_fr hW hW2 hA.ac (fun p j q0 q1 => hf2 p j) hag, im2, ru2⟩
set_option maxRecDepth 4000 in
theorem cy_feed {w : ab_W} {S : fs_S} {wm : ab_W} {c : Int} (h : cy_I w S wm) (hok : fs_ok c S) (hcm : c ≤ 1000) (y1 : Int) (hy1 : ab_in y1) (y2 : Int) (hy2 : ab_in y2) (y3 : Int) (hy3 : ab_in y3) (y4 : Int) (hy4 : ab_in y4) (y5 : Int) (hy5 : ab_in y5) : ab_Mt g_G g_rs mt_Tu_feed 1 0 0 [ab_R 0, ab_I y1, ab_I y2, ab_I y3, ab_I y4, ab_I y5] w (cy_A (fa_feed S) (fs_feed S y1 y2 y3 y4 y5) wm) := by
  obtain ⟨x, ix, mk, tf, tl, rc, said, was, undone, images, ru⟩ := S
  obtain ⟨N, T, a, b, hF, hR, hag, himg, hrul⟩ := h
  obtain ⟨hW, hA, ⟨kn, kt, krc, ktl, ktf⟩, ⟨hrc, hN⟩, hrl, him, hac, hx, hmd, hix, hseg⟩ := id hF
  obtain ⟨o1, o2, o3, o4, o5, o6, o7, o8⟩ := hok
  have hab := hA.ab
  have hab2 : a = 3 ∨ a = 16 := by omega
  have t0 := tu_of hW hA kn kt krc
  have sA := sg_all o1.1
  have hL0 : 0 ≤ tl ∧ tl ≤ 400 := tm_kb (k := 1) (K := 1) hW hA.2.2.2.2.1.1 rfl rfl ktl
  refine (ty_Tu_feed hW hA kn kt y1 (by omega) (by omega) y2 (by omega) (by omega) y3 (by omega) (by omega) y4 (by omega) (by omega) y5 (by omega) (by omega) tl ktl ktf).conseq (fun r w2 h => ?_)
  obtain ⟨hW2, v, rfl, hf, e1, k1, k2⟩ := h
  have ri2 := ri_fr hW hW2 hA.ri (fun p j q0 q1 => hf p j (by omega)) hR
  have ag2 := ag_fr hW hW2 hA.ac (fun p j q0 q1 => hf p j (by omega)) hag
  have im2 := im_fr hW hW2 him (fun p j q0 q1 => hf p j (by omega)) himg
  have ru2 := ru_fr hW hW2 hrl (fun p j q0 => hf p j (by omega)) hrul
  exact ⟨congrArg (fun z => some (ab_I z)) e1, N, T, a, b, cf_gen hF hW2 hA ((hf 0 1 (by omega)).trans kn) ((hf 0 2 (by omega)).trans kt) (hf 0 6 (by omega)) k1 k2 (fun j => hf 31 j (by omega)) (fun j => hf 29 j (by omega)) (hac.fr (fun k => hf _ k (by omega)) (fun k => hf _ k (by omega)) (fun k => hf _ k (by omega))) ((hf a 6 (by omega)).trans hx) (fun j j0 j1 => (hf 30 j (by omega)).trans (hmd j j0 j1)) (fun j j0 j1 ik e => (hf ik 6 (by omega)).trans (hix j j0 j1 ik e)), ri2, ag2, im2, ru2⟩
set_option maxRecDepth 4000 in
theorem cy_end {w : ab_W} {S : fs_S} {wm : ab_W} {c : Int} (h : cy_I w S wm) (hok : fs_ok c S) (hcm : c ≤ 1000) (y1 : Int) (hy1 : ab_in y1) : ab_Mt g_G g_rs mt_Tu_end 0 0 0 [ab_R 0, ab_I y1] w (cy_A (fa_end S y1) (fs_end S y1) wm) := by
  obtain ⟨x, ix, mk, tf, tl, rc, said, was, undone, images, ru⟩ := S
  obtain ⟨N, T, a, b, hF, hR, hag, himg, hrul⟩ := h
  obtain ⟨hW, hA, ⟨kn, kt, krc, ktl, ktf⟩, ⟨hrc, hN⟩, hrl, him, hac, hx, hmd, hix, hseg⟩ := id hF
  obtain ⟨o1, o2, o3, o4, o5, o6, o7, o8⟩ := hok
  have hab := hA.ab
  have hab2 : a = 3 ∨ a = 16 := by omega
  have t0 := tu_of hW hA kn kt krc
  have sA := sg_all o1.1
  refine (ty_Tu_end hW hA kn kt y1 (by omega) (by omega) tl ktl).conseq (fun r w2 h => ?_)
  obtain ⟨hW2, v, rfl, hf, L1, k1, hvl, hvu, e1, e2⟩ := h
  subst e2
  have ri2 := ri_fr hW hW2 hA.ri (fun p j q0 q1 => hf p j (by omega)) hR
  have ag2 := ag_fr hW hW2 hA.ac (fun p j q0 q1 => hf p j (by omega)) hag
  have im2 := im_fr hW hW2 him (fun p j q0 q1 => hf p j (by omega)) himg
  have ru2 := ru_fr hW hW2 hrl (fun p j q0 => hf p j (by omega)) hrul
  exact ⟨congrArg (fun z => some (ab_I z)) e1, N, T, a, b, cf_gen hF hW2 hA ((hf 0 1 (by omega)).trans kn) ((hf 0 2 (by omega)).trans kt) (hf 0 6 (by omega)) k1 (fun j => (hf 2 j (by omega)).trans (ktf j)) (fun j => hf 31 j (by omega)) (fun j => hf 29 j (by omega)) (hac.fr (fun k => hf _ k (by omega)) (fun k => hf _ k (by omega)) (fun k => hf _ k (by omega))) ((hf a 6 (by omega)).trans hx) (fun j j0 j1 => (hf 30 j (by omega)).trans (hmd j j0 j1)) (fun j j0 j1 ik e => (hf ik 6 (by omega)).trans (hix j j0 j1 ik e)), ri2, ag2, im2, ru2⟩
set_option maxRecDepth 4000 in
theorem cy_ring {w : ab_W} {S : fs_S} {wm : ab_W} {c : Int} (h : cy_I w S wm) (hok : fs_ok c S) (hcm : c ≤ 1000) (rd0 : Int → Int) (hr0 : rd_ok rd0) : ab_Mt g_G g_rs mt_Tu_ring 10 0 0 [ab_R 0] w (cy_A (fa_ring S rd0) (fs_ring S rd0) wm) := by
  obtain ⟨x, ix, mk, tf, tl, rc, said, was, undone, images, ru⟩ := S
  obtain ⟨N, T, a, b, hF, hR, hag, himg, hrul⟩ := h
  obtain ⟨hW, hA, ⟨kn, kt, krc, ktl, ktf⟩, ⟨hrc, hN⟩, hrl, him, hac, hx, hmd, hix, hseg⟩ := id hF
  obtain ⟨o1, o2, o3, o4, o5, o6, o7, o8⟩ := hok
  have hab := hA.ab
  have hab2 : a = 3 ∨ a = 16 := by omega
  have t0 := tu_of hW hA kn kt krc
  have sA := sg_all o1.1
  obtain ⟨ki, f1, s1, nx, hacl, hnx, hu, hin, har⟩ := id hag
  refine (tz_Tu_ring hW hA kn kt tl ktl ktf rd0).conseq (fun r w2 h => ?_)
  obtain ⟨hW2, v, rfl, hf, lv, uv, ⟨a2, b2, hab2', k1, k2, k3⟩, kl0, ev, hend⟩ := h
  have im2 := im_fr hW hW2 him (fun p j q0 q1 => hf p j (by omega)) himg
  have ru2 := ru_fr hW hW2 hrl (fun p j q0 => hf p j (by omega)) hrul
  rcases hX : rs_all tf tl (rs_ini rd0 46) with e | rd
  · rw [hX] at ev hend
    obtain ⟨n1, n2⟩ := hend
    have ea : a2 = a := an_rr k1 n1
    have eb : b2 = b := by omega
    subst ea
    subst eb
    have eA : fa_ring ⟨x, ix, mk, tf, tl, rc, said, was, undone, images, ru⟩ rd0 = v := by
      show b_ans (rs_all tf tl (rs_ini rd0 46)) = v
      rw [hX]
      exact ev.symm
    have eS : fs_ring ⟨x, ix, mk, tf, tl, rc, said, was, undone, images, ru⟩ rd0 = ⟨x, ix, mk, tf, 0, rc, said, was, undone, images, ru⟩ := by
      show ring_to ⟨x, ix, mk, tf, tl, rc, said, was, undone, images, ru⟩ (rs_all tf tl (rs_ini rd0 46)) = _
      rw [hX]
      rfl
    rw [eA, eS]
    have ag2 := ag_fr hW hW2 hA.ac (fun p j q0 q1 => by
      by_cases z : p = 32 ∧ j = 3
      · obtain ⟨rfl, rfl⟩ := z
        exact n2
      · exact hf p j (by omega)) hag
    have ri2 := ri_fr hW hW2 hA.ri (fun p j q0 q1 => hf p j (by omega)) hR
    exact ⟨rfl, N, T, a2, b2, cf_gen hF hW2 hA k1 k2 (hf 0 6 (by omega)) kl0 (fun j => (hf 2 j (by omega)).trans (ktf j)) (fun j => hf 31 j (by omega)) (fun j => hf 29 j (by omega)) (hac.fr (fun k => hf _ k (by omega)) (fun k => hf _ k (by omega)) (fun k => hf _ k (by omega))) (k3.trans hx) (fun j j0 j1 => (hf 30 j (by omega)).trans (hmd j j0 j1)) (fun j j0 j1 ik e => (hf ik 6 (by omega)).trans (hix j j0 j1 ik e)), ri2, ag2, im2, ru2⟩
  · rw [hX] at ev hend
    obtain ⟨n1, n2, hrel, n4, n5, n6⟩ := hend
    have ea : a2 = b := an_rr k1 n1
    have eb : b2 = a := by omega
    subst ea
    subst eb
    have eA : fa_ring ⟨x, ix, mk, tf, tl, rc, said, was, undone, images, ru⟩ rd0 = v := by
      show b_ans (rs_all tf tl (rs_ini rd0 46)) = v
      rw [hX]
      exact ev.symm
    have eS : fs_ring ⟨x, ix, mk, tf, tl, rc, said, was, undone, images, ru⟩ rd0 = ⟨x, ix, mk, tf, 0, rc, rs_said rd said 191, was, 0, images, ru⟩ := by
      show ring_to ⟨x, ix, mk, tf, tl, rc, said, was, undone, images, ru⟩ (rs_all tf tl (rs_ini rd0 46)) = _
      rw [hX]
      rfl
    rw [eA, eS]
    have hA1 := acl_0 hacl hW hW2 hA.ac n2 (hf 32 4 (by omega)) (fun p j q0 q1 => hf p j (by omega))
    exact ⟨rfl, N, T, a2, b2, cf_gen hF hW2 hA.swap k1 k2 (hf 0 6 (by omega)) kl0 (fun j => (hf 2 j (by omega)).trans (ktf j)) (fun j => hf 31 j (by omega)) (fun j => hf 29 j (by omega)) (hac.fr (fun k => hf _ k (by omega)) (fun k => hf _ k (by omega)) (fun k => hf _ k (by omega))) (k3.trans hx) (fun j j0 j1 => (hf 30 j (by omega)).trans (hmd j j0 j1)) (fun j j0 j1 ik e => (hf ik 6 (by omega)).trans (hix j j0 j1 ik e)), ri_rel hW2 hA.swap.ri (rk_all (rd_ini hr0) hX) hrel n4 (n5.trans hx) n6, ⟨ki, f1, s1, nx, hA1, hnx, by decide, hin, ar_0⟩, im2, ru2⟩
/-! worlds that have grown -/
theorem bq_ai {S : tm_S} {w w2 : ab_W} {p t n : Nat} {lo hi : Int} (a : S w[p]?) (b : S w2[p]?) (hS : S = tm_ai t n lo hi) (e : ∀ j, tm_g w2 p j = tm_g w p j) : w2[p]? = w[p]? := by
  subst hS
  obtain ⟨f, ha, -⟩ := a
  obtain ⟨g, hb, -⟩ := b
  have eg : g = f := funext (fun k => by
    have z := e k
    unfold tm_g at z
    rw [ha, hb] at z
    have z2 : some (ab_I (g k)) = some (ab_I (f k)) := z
    injection z2 with z2
    injection z2)
  rw [ha, hb, eg]
theorem bq_al {S : tm_S} {w w2 : ab_W} {p n : Nat} (a : S w[p]?) (b : S w2[p]?) (hS : S = tm_al n) (e : ∀ j, tm_g w2 p j = tm_g w p j) : w2[p]? = w[p]? := by
  subst hS
  obtain ⟨f, ha⟩ := a
  obtain ⟨g, hb⟩ := b
  have eg : g = f := funext (fun k => by
    have z := e k
    unfold tm_g at z
    rw [ha, hb] at z
    have z2 : some (ab_J (g k)) = some (ab_J (f k)) := z
    injection z2 with z2
    injection z2 with z2
    injection z2)
  rw [ha, hb, eg]
theorem bq_o {S : tm_S} {w w2 : ab_W} {p c : Nat} {fs : List tm_F} (a : S w[p]?) (b : S w2[p]?) (hS : S = tm_o c fs) (e : ∀ j, tm_g w2 p j = tm_g w p j) : w2[p]? = w[p]? := by
  subst hS
  obtain ⟨va, ha, -, -⟩ := a
  obtain ⟨vb, hb, -, -⟩ := b
  have ev : vb = va := List.ext_getElem? (fun k => by
    have z := e (k : Int)
    unfold tm_g at z
    rw [ha, hb] at z
    have z2 : (if (0 : Int) ≤ (k : Int) then vb[(k : Int).toNat]? else none) = (if (0 : Int) ≤ (k : Int) then va[(k : Int).toNat]? else none) := z
    rw [if_pos (by omega), if_pos (by omega), Int.toNat_natCast] at z2
    exact z2)
  rw [ha, hb, ev]
theorem bq_ri {T : Nat → tm_S} {w w2 : ab_W} {o : Nat} (h : ∀ p, T p w[p]?) (h2 : ∀ p, o ≤ p → p < o + 13 → T p w2[p]?) (hS : is_Ri T o) (e : ∀ (p : Nat) (j : Int), o ≤ p → p < o + 13 → tm_g w2 p j = tm_g w p j) : ∀ p, o ≤ p → p < o + 13 → w2[p]? = w[p]? := by
  obtain ⟨t0, t1, t2, t3, t4, t5, t6, t7, t8, t9, t10, t11, t12⟩ := hS
  intro p h0 h1
  rcases (by omega : p = o ∨ p = o + 1 ∨ p = o + 2 ∨ p = o + 3 ∨ p = o + 4 ∨ p = o + 5 ∨ p = o + 6 ∨ p = o + 7 ∨ p = o + 8 ∨ p = o + 9 ∨ p = o + 10 ∨ p = o + 11 ∨ p = o + 12) with z | z | z | z | z | z | z | z | z | z | z | z | z <;> subst z
  · exact bq_o (h _) (h2 _ h0 h1) t0 (fun j => e _ j h0 h1)
  · exact bq_ai (h _) (h2 _ h0 h1) t1 (fun j => e _ j h0 h1)
  · exact bq_ai (h _) (h2 _ h0 h1) t2 (fun j => e _ j h0 h1)
  · exact bq_ai (h _) (h2 _ h0 h1) t3 (fun j => e _ j h0 h1)
  · exact bq_ai (h _) (h2 _ h0 h1) t4 (fun j => e _ j h0 h1)
  · exact bq_al (h _) (h2 _ h0 h1) t5 (fun j => e _ j h0 h1)
  · exact bq_ai (h _) (h2 _ h0 h1) t6 (fun j => e _ j h0 h1)
  · exact bq_ai (h _) (h2 _ h0 h1) t7 (fun j => e _ j h0 h1)
  · exact bq_o (h _) (h2 _ h0 h1) t8 (fun j => e _ j h0 h1)
  · exact bq_ai (h _) (h2 _ h0 h1) t9 (fun j => e _ j h0 h1)
  · exact bq_ai (h _) (h2 _ h0 h1) t10 (fun j => e _ j h0 h1)
  · exact bq_ai (h _) (h2 _ h0 h1) t11 (fun j => e _ j h0 h1)
  · exact bq_ai (h _) (h2 _ h0 h1) t12 (fun j => e _ j h0 h1)
theorem bq_ac {T : Nat → tm_S} {w w2 : ab_W} {c : Nat} {ki f1 s1 : Int → Int} {sz nx : Int} (h : ∀ p, T p w[p]?) (h2 : ∀ p, c ≤ p → p < c + 4 → T p w2[p]?) (hS : is_Ac T c) (e : ∀ (p : Nat) (j : Int), c ≤ p → p < c + 4 → tm_g w2 p j = tm_g w p j) (ha : acl c ki f1 s1 sz nx w) : acl c ki f1 s1 sz nx w2 := by
  obtain ⟨t0, t1, t2, t3⟩ := hS
  obtain ⟨a0, a1, a2, a3⟩ := ha
  exact ⟨(bq_o (h _) (h2 _ (by omega) (by omega)) t0 (fun j => e _ j (by omega) (by omega))).trans a0, (bq_ai (h _) (h2 _ (by omega) (by omega)) t1 (fun j => e _ j (by omega) (by omega))).trans a1, (bq_ai (h _) (h2 _ (by omega) (by omega)) t2 (fun j => e _ j (by omega) (by omega))).trans a2, (bq_ai (h _) (h2 _ (by omega) (by omega)) t3 (fun j => e _ j (by omega) (by omega))).trans a3⟩
theorem an_ln {e : Option ab_E} {t t2 n n2 : Nat} {f g : Int → Int} (h1 : e = some (ab_ai t n f)) (h2 : e = some (ab_ai t2 n2 g)) : n = n2 := by
  rw [h1] at h2
  injection h2 with h2
  injection h2 with h2
  injection h2 with h2 h3
  injection h3
set_option maxRecDepth 4000 in
theorem cy_rule {w : ab_W} {S : fs_S} {wm : ab_W} {c : Int} (h : cy_I w S wm) (hok : fs_ok c S) (hcm : c ≤ 1000) : ab_Mt g_G g_rs mt_Tu_rule 36 2 401 [ab_R 0] w (cy_A (fa_rule S) (fs_rule S) wm) := by
  obtain ⟨x, ix, mk, tf, tl, rc, said, was, undone, images, ru⟩ := S
  obtain ⟨N, T, a, b, hF, hR, hag, himg, hrul⟩ := h
  obtain ⟨hW, hA, ⟨kn, kt, krc, ktl, ktf⟩, ⟨hrc, hN⟩, hrl, him, hac, hx, hmd, hix, hseg⟩ := id hF
  obtain ⟨o1, o2, o3, o4, o5, o6, o7, o8⟩ := hok
  have hab := hA.ab
  have hab2 : a = 3 ∨ a = 16 := by omega
  have t0 := tu_of hW hA kn kt krc
  have sA := sg_all o1.1
  have hT : is_Ta T 1 := hA.2.2.2.2.1
  have hL0 : 0 ≤ tl ∧ tl ≤ 400 := tm_kb (k := 1) (K := 1) hW hT.1 rfl rfl ktl
  have htie := all_tie (f := tf) hL0.1 hL0.2 (tx_fb hW hT.2 ktf)
  have hE : (a_all tf 2 tl (0, tk_sk tf tl 0, 0, [])).1 = ru_er tf tl := by
    unfold ru_er
    rcases hq : c_rall tf tl with e | ⟨c3, ks⟩
    · rw [hq] at htie
      exact htie.2
    · rw [hq] at htie
      exact htie.1
  refine (ty_Tu_rule hW hA kn kt rc krc tl ktl ktf hrl (by omega) (by omega)).conseq (fun r w2 h => ?_)
  obtain ⟨N2, T2, v, rc2, L2, rfl, hW2, hT2, hzz⟩ := h
  obtain ⟨hf, krc2, kL2, ⟨hr1, hr2, hN2⟩, hrl2, hvb, p1, p2, hzz⟩ := hzz
  obtain ⟨p3, p4⟩ := hzz
  have hlt : ∀ p, p < N → T p w2[p]? := fun p hp => by rw [← hT2 p hp]; exact hW2.2.1 p
  have hA2 := hA.cong (fun p hp => hT2 p (by omega))
  have ri2 : ri_at_j a said x w2 := rj_ce hR (bq_ri hW.2.1 (fun p q0 q1 => hlt p (by omega)) hA.ri (fun p j q0 q1 => hf p j (by omega) (by omega)))
  have ag2 : ag said was undone w2 := by
    obtain ⟨ki, f1, s1, nx, h1, h2⟩ := hag
    exact ⟨ki, f1, s1, nx, bq_ac hW.2.1 (fun p q0 q1 => hlt p (by omega)) hA.ac (fun p j q0 q1 => hf p j (by omega) (by omega)) h1, h2⟩
  have im2 : cy_im w2 mk ix images := by
    intro j j0 j1 ik hik
    obtain ⟨i2, -, k2, k3⟩ := him j j0 (by omega)
    have ei : i2 = ik := by omega
    subst ei
    have hce := bq_ri hW.2.1 (fun p q0 q1 => hlt p (by omega)) k2 (fun p q a b => hf p q (by omega) (by omega))
    obtain ⟨⟨g, y, q1, q3⟩, q2⟩ := himg j j0 j1 i2 hik
    exact ⟨⟨g, y, rj_ce q1 hce, q3⟩, fun z => rj_ce (q2 z) hce⟩
  have ruO : cy_ru w2 rc ru := by
    intro r r0 r1
    obtain ⟨q, n, cd, h1, h2, h3, h4, h5⟩ := hrul r r0 r1
    obtain ⟨q2, n2, g1, g2, g3, g4⟩ := hrl r r0 r1
    have eq : q2 = q := an_rr g1 h1
    subst eq
    exact ⟨q2, n, cd, (hf 31 r (by omega) (by omega)).trans h1, h2, (bq_o (hW.2.1 _) (hlt _ (by omega)) g2.1 (fun j => hf _ j (by omega) (by omega))).trans h3, (bq_ai (hW.2.1 _) (hlt _ (by omega)) g2.2.1 (fun j => hf _ j (by omega) (by omega))).trans h4, h5⟩
  have cf2 : ci_F N2 T2 w2 a b rc2 x ix mk tf L2 wm := by
    refine ⟨hW2, hA2, ⟨(hf 0 1 (by omega) (by omega)).trans kn, (hf 0 2 (by omega) (by omega)).trans kt, krc2, kL2, fun j => (hf 2 j (by omega) (by omega)).trans (ktf j)⟩, ⟨⟨by omega, hr2⟩, by omega⟩, hrl2, fun j j0 j1 => ?_, (hac.fr (fun k => hf _ k (by omega) (by omega)) (fun k => hf _ k (by omega) (by omega)) (fun k => hf _ k (by omega) (by omega))), (hf a 6 (by omega) (by omega)).trans hx, fun j j0 j1 => (hf 30 j (by omega) (by omega)).trans (hmd j j0 j1), fun j j0 j1 ik e => (hf ik 6 (by omega) (by omega)).trans (hix j j0 j1 ik e), fun i e hi => ?_⟩
    · obtain ⟨ik, k1, k2, k3⟩ := him j j0 j1
      exact ⟨ik, (hf 29 j (by omega) (by omega)).trans k1, k2.cong (fun p h1 h2 => hT2 p (by omega)), k3⟩
    · have hs := hseg i e hi
      have hl7 : 107 + i < N := by
        have h3 := hW.2.1 (107 + i)
        rw [hs] at h3
        have := tm_lt h3
        rw [hW.1] at this
        exact this
      exact (hT2 _ hl7).trans hs
  rw [hE] at p3 p4
  by_cases c6 : 6 ≤ rc
  · obtain ⟨e1, e2, e3⟩ := p1 c6
    have eA : fa_rule ⟨x, ix, mk, tf, tl, rc, said, was, undone, images, ru⟩ = v := (if_pos c6).trans e1.symm
    have eS : fs_rule ⟨x, ix, mk, tf, tl, rc, said, was, undone, images, ru⟩ = ⟨x, ix, mk, tf, tl, rc, said, was, undone, images, ru⟩ := if_pos c6
    subst e2
    subst e3
    rw [eA, eS]
    exact ⟨rfl, N2, T2, a, b, cf2, ri2, ag2, im2, ruO⟩
  · have e0 := p2 (by omega)
    subst e0
    by_cases hz : ru_er tf tl = 0
    · obtain ⟨e1, e2, e3, e4, e5, e6⟩ := p4 (by omega) hz
      have eA : fa_rule ⟨x, ix, mk, tf, tl, rc, said, was, undone, images, ru⟩ = v := (if_neg c6).trans ((if_pos hz).trans e1.symm)
      have eS : fs_rule ⟨x, ix, mk, tf, tl, rc, said, was, undone, images, ru⟩ = ⟨x, ix, mk, tf, 0, rc + 1, said, was, undone, images, ab_up ru rc (ru_ks tf tl)⟩ := (if_neg c6).trans (if_pos hz)
      subst e2
      rw [eA, eS]
      refine ⟨rfl, N2, T2, a, b, cf2, ri2, ag2, im2, fun r r0 r1 => ?_⟩
      by_cases er : r = rc
      · subst er
        rw [ab_upe]
        obtain ⟨q, n, s1, s2, -⟩ := hrl2 r r0 r1
        have eq : q = N := an_rr s1 e3
        subst eq
        obtain ⟨cd, cc, hcd⟩ := ai_of hW2 e5
        obtain ⟨cd2, cc2, -⟩ := ai_of hW2 s2.2.1
        have en := an_ln cc2 cc
        obtain ⟨vs, c0, cl, cv⟩ := tm_cell hW2 e4
        have evs : vs = [ab_R (q + 1)] := List.ext_getElem? (fun i => match i with
          | 0 => an_r (k := 0) cv rfl
          | i + 1 => by rw [List.getElem?_eq_none (by rw [cl]; exact Nat.le_add_left _ _)]; rfl)
        rw [evs] at c0
        have eks : (a_all tf 2 tl (0, tk_sk tf tl 0, 0, [])).2.2.2 = ((ru_ks tf tl).map a_cc).flatten := by
          unfold ru_ks
          unfold ru_er at hz
          rcases hq : c_rall tf tl with e | ⟨c3, ks⟩
          · rw [hq] at htie hz
            have hz : e = 0 := hz
            have := htie.1
            omega
          · rw [hq] at htie
            exact htie.2
        rw [eks] at cc e6 en
        exact ⟨q, _, cd, e3, by omega, c0, cc, ⟨rfl, by have := s2.2.2; omega⟩, fun k y hk => hcd _ _ (e6 k y hk)⟩
      · rw [ab_upn _ _ er]
        exact ruO r r0 (by omega)
    · obtain ⟨e1, e2⟩ := p3 (by omega) hz
      have eA : fa_rule ⟨x, ix, mk, tf, tl, rc, said, was, undone, images, ru⟩ = v := (if_neg c6).trans ((if_neg hz).trans e1.symm)
      have eS : fs_rule ⟨x, ix, mk, tf, tl, rc, said, was, undone, images, ru⟩ = ⟨x, ix, mk, tf, 0, rc, said, was, undone, images, ru⟩ := (if_neg c6).trans (if_neg hz)
      subst e2
      rw [eA, eS]
      exact ⟨rfl, N2, T2, a, b, cf2, ri2, ag2, im2, ruO⟩
