/-! the Tape before a token, or dead behind its first FAULT; the RuleReader's count and what it has written -/
abbrev a_S : Type := Int × Int × Int × List Int
def a_sg (f : Int → Int) (L : Int) (G : a_S) : Int := if G.1 = 0 then k_sign f L G.2.1 else -1
def a_nb (f : Int → Int) (L : Int) (G : a_S) : Int := if G.1 = 0 then k_num f L G.2.1 else -1
def a_wd (f : Int → Int) (K : Nat) (L : Int) (G : a_S) : Int := if G.1 = 0 then k_wd K f L G.2.1 else -1
def a_T (f : Int → Int) (K : Nat) (L : Int) (tp : Nat) (w : ab_W) (G : a_S) : Prop := (tm_g w tp 1 = some (ab_I L) ∧ (∀ j, tm_g w (tp + 1) j = some (ab_I (f j))) ∧ tm_g w tp 3 = some (ab_R (ab_sb + K))) ∧ (tm_g w tp 4 = some (ab_I G.1) ∧ tm_g w tp 6 = some (ab_I (a_sg f L G)) ∧ tm_g w tp 7 = some (ab_I (a_nb f L G)) ∧ tm_g w tp 8 = some (ab_I (a_wd f K L G))) ∧ (G.1 = 0 → tm_g w tp 5 = some (ab_I G.2.1) ∧ tm_g w tp 2 = some (ab_I (k_end f L G.2.1)) ∧ 0 ≤ G.2.1 ∧ G.2.1 ≤ L ∧ tk_sk f L G.2.1 = G.2.1) ∧ (¬ G.1 = 0 → tm_g w tp 2 = some (ab_I L))
def a_C (rr : Nat) (w : ab_W) (ls : List Int) : Prop := ls.length ≤ 400 ∧ tm_g w rr 1 = some (ab_I (ls.length : Int)) ∧ ∀ (k : Nat) (x : Int), ls[k]? = some x → tm_g w (rr + 1) (k : Int) = some (ab_I x)
def a_R (f : Int → Int) (K : Nat) (L : Int) (tp rr : Nat) (w : ab_W) (G : a_S) : Prop := a_T f K L tp w G ∧ tm_g w rr 2 = some (ab_I G.2.2.1) ∧ a_C rr w G.2.2.2
def a_adv (f : Int → Int) (L : Int) (G : a_S) : a_S := if G.1 = 0 then (0, tk_sk f L (k_end f L G.2.1), G.2.2) else G
def a_fail (k : Int) (G : a_S) : a_S := if G.1 = 0 then (1 + 8 * G.2.1 + k, G.2.1, G.2.2) else G
theorem a_R_eq {f : Int → Int} {K : Nat} {L : Int} {tp rr : Nat} {w : ab_W} {G G' : a_S} (h : a_R f K L tp rr w G) (e : G = G') : a_R f K L tp rr w G' := e ▸ h
theorem a_R_ft {f : Int → Int} {K : Nat} {L : Int} {tp rr : Nat} {w : ab_W} {G : a_S} (h : a_R f K L tp rr w G) : tm_g w tp 4 = some (ab_I G.1) := h.1.2.1.1
theorem a_R_sg {f : Int → Int} {K : Nat} {L : Int} {tp rr : Nat} {w : ab_W} {G : a_S} (h : a_R f K L tp rr w G) : tm_g w tp 6 = some (ab_I (a_sg f L G)) := h.1.2.1.2.1
theorem a_R_nb {f : Int → Int} {K : Nat} {L : Int} {tp rr : Nat} {w : ab_W} {G : a_S} (h : a_R f K L tp rr w G) : tm_g w tp 7 = some (ab_I (a_nb f L G)) := h.1.2.1.2.2.1
theorem a_R_wd {f : Int → Int} {K : Nat} {L : Int} {tp rr : Nat} {w : ab_W} {G : a_S} (h : a_R f K L tp rr w G) : tm_g w tp 8 = some (ab_I (a_wd f K L G)) := h.1.2.1.2.2.2
theorem a_R_ct {f : Int → Int} {K : Nat} {L : Int} {tp rr : Nat} {w : ab_W} {G : a_S} (h : a_R f K L tp rr w G) : tm_g w rr 2 = some (ab_I G.2.2.1) := h.2.1
theorem a_T_fr {f : Int → Int} {K : Nat} {L : Int} {tp : Nat} {w w2 : ab_W} {G : a_S} (h : a_T f K L tp w G) (e : ∀ (p : Nat) (j : Int), (p = tp ∨ p = tp + 1) → tm_g w2 p j = tm_g w p j) : a_T f K L tp w2 G := by
  obtain ⟨⟨h1, h2, h3⟩, ⟨h4, h5, h6, h7⟩, h8, h9⟩ := h
  exact ⟨⟨(e _ _ (Or.inl rfl)).trans h1, fun j => (e _ _ (Or.inr rfl)).trans (h2 j), (e _ _ (Or.inl rfl)).trans h3⟩, ⟨(e _ _ (Or.inl rfl)).trans h4, (e _ _ (Or.inl rfl)).trans h5, (e _ _ (Or.inl rfl)).trans h6, (e _ _ (Or.inl rfl)).trans h7⟩, fun z => ⟨(e _ _ (Or.inl rfl)).trans (h8 z).1, (e _ _ (Or.inl rfl)).trans (h8 z).2.1, (h8 z).2.2⟩, fun z => (e _ _ (Or.inl rfl)).trans (h9 z)⟩
theorem a_C_fr {rr : Nat} {w w2 : ab_W} {ls : List Int} (h : a_C rr w ls) (e : ∀ (p : Nat) (j : Int), ((p = rr ∧ j = 1) ∨ p = rr + 1) → tm_g w2 p j = tm_g w p j) : a_C rr w2 ls := ⟨h.1, (e _ _ (Or.inl ⟨rfl, rfl⟩)).trans h.2.1, fun k x hx => (e _ _ (Or.inr rfl)).trans (h.2.2 k x hx)⟩
/-- the count put anew -/
theorem a_R_put {f : Int → Int} {K : Nat} {L : Int} {tp rr : Nat} {w w2 : ab_W} {G : a_S} {v : Int} (h : a_R f K L tp rr w G) (hv : tm_g w2 rr 2 = some (ab_I v)) (e : ∀ (p : Nat) (j : Int), (p = tp ∨ p = tp + 1 ∨ (p = rr ∧ j = 1) ∨ p = rr + 1) → tm_g w2 p j = tm_g w p j) : a_R f K L tp rr w2 (G.1, G.2.1, v, G.2.2.2) := ⟨a_T_fr (G := (G.1, G.2.1, v, G.2.2.2)) h.1 (fun p j hp => e p j (by omega)), hv, a_C_fr h.2.2 (fun p j hp => e p j (by omega))⟩
theorem tm_kb {N : Nat} {T : Nat → tm_S} {w : ab_W} {o ci k : Nat} {K lo hi a : Int} {fs : List tm_F} (hW : tm_W N T w) (hS : T o = tm_o ci fs) (hK : K = (k : Int)) (hk : fs[k]? = some (tm_i lo hi)) (hg : tm_g w o K = some (ab_I a)) : lo ≤ a ∧ a ≤ hi := by
  obtain ⟨b, e, h0, h1⟩ := tm_peek hW hS hK hk
  rw [hg] at e
  injection e with e
  injection e with e
  omega
theorem k_end_b {f : Int → Int} {L s : Int} (h : s ≤ L) : s ≤ k_end f L s ∧ k_end f L s ≤ L := by
  unfold k_end
  by_cases c0 : k_kind f L s = 0
  · rw [if_pos c0]; omega
  · have hlt : s < L := by
      rcases Int.lt_or_le s L with h1 | h1
      · exact h1
      · exact absurd (kk_0 h1) c0
    rw [if_neg c0]
    split
    · exact tk_de_b f h
    · split
      · exact tk_le_b f h
      · split
        · rename_i c3
          have h3 : s + 1 < L := by
            unfold k_kind at c3
            rw [if_neg (by omega)] at c3
            split at c3
            · omega
            · split at c3
              · omega
              · split at c3
                · rename_i q; exact q.1
                · omega
          omega
        · omega
section GX
variable {N : Nat} {T : Nat → tm_S} {w : ab_W} {f : Int → Int} {K : Nat} {L : Int} {tp rr : Nat} {G : a_S}
theorem a_adv_T {w2 : ab_W} {s1 a1 g1 n1 w1 a0 : Int} (h : a_T f K L tp w G) (hL : 0 ≤ L) (ha : (G.1 = 0 → a0 = k_end f L G.2.1) ∧ (¬ G.1 = 0 → a0 = L)) (hfr : ∀ (p : Nat) (j : Int), ¬ ((p = tp ∧ (j = 2 ∨ j = 5 ∨ j = 6 ∨ j = 7 ∨ j = 8))) → tm_g w2 p j = tm_g w p j) (q1 : tm_g w2 tp 5 = some (ab_I s1)) (q2 : tm_g w2 tp 2 = some (ab_I a1)) (q3 : tm_g w2 tp 6 = some (ab_I g1)) (q4 : tm_g w2 tp 7 = some (ab_I n1)) (q5 : tm_g w2 tp 8 = some (ab_I w1)) (hp : s1 = tk_sk f L a0 ∧ a1 = k_end f L s1 ∧ g1 = k_sign f L s1 ∧ n1 = k_num f L s1 ∧ w1 = k_wd K f L s1) : a_T f K L tp w2 (a_adv f L G) := by
  obtain ⟨⟨h1, h2, h3⟩, ⟨h4, h5, h6, h7⟩, h8, h9⟩ := h
  obtain ⟨p1, p2, p3, p4, p5⟩ := hp
  by_cases c : G.1 = 0
  · have hs := (h8 c).2.2
    have hk := k_end_b (f := f) hs.2.1
    have e0 := ha.1 c
    subst e0
    have hsk := tk_sk_b f hk.2
    have hss := tk_sk_sk f L _ hk.2
    have ea : a_adv f L G = (0, tk_sk f L (k_end f L G.2.1), G.2.2) := if_pos c
    rw [ea, ← p1]
    refine ⟨⟨(hfr _ _ (by omega)).trans h1, fun j => (hfr _ _ (by omega)).trans (h2 j), (hfr _ _ (by omega)).trans h3⟩, ⟨?_, ?_, ?_, ?_⟩, fun _ => ⟨q1, ?_, show 0 ≤ s1 from by omega, show s1 ≤ L from by omega, show tk_sk f L s1 = s1 from by rw [p1]; exact hss⟩, fun z => absurd rfl z⟩
    · rw [(hfr tp 4 (by omega)), h4, c]
    · rw [q3, p3]; rfl
    · rw [q4, p4]; rfl
    · rw [q5, p5]; rfl
    · rw [q2, p2]
  · have e0 := ha.2 c
    rw [e0] at p1
    have ea : a_adv f L G = G := if_neg c
    have es : s1 = L := by rw [p1]; exact k_sk0 (Or.inl (Int.le_refl _))
    obtain ⟨z1, z2, z3, z4⟩ := k_f0 (f := f) (L := L) (s := s1) (K := K) (by omega)
    rw [ea]
    refine ⟨⟨(hfr _ _ (by omega)).trans h1, fun j => (hfr _ _ (by omega)).trans (h2 j), (hfr _ _ (by omega)).trans h3⟩, ⟨(hfr _ _ (by omega)).trans h4, ?_, ?_, ?_⟩, fun z => absurd z c, fun _ => ?_⟩
    · rw [q3, p3, ← z2]; unfold a_sg; rw [if_neg c]
    · rw [q4, p4, ← z3]; unfold a_nb; rw [if_neg c]
    · rw [q5, p5, ← z4]; unfold a_wd; rw [if_neg c]
    · rw [q2, p2, ← z1, es]
theorem a_L {G : a_S} (hW : tm_W N T w) (h_tp : is_Ta T tp) (h : a_T f K L tp w G) : 0 ≤ L ∧ L ≤ 400 := tm_kb (k := 1) (K := 1) hW h_tp.1 rfl rfl h.1.1
theorem gt_advance (hW : tm_W N T w) (h_tp : is_Ta T tp) (hK : K < g_ln.length) (h : a_T f K L tp w G) : ab_Mt g_G g_rs mt_Ta_advance 5 0 0 [ab_R tp] w (tm_Qv N T (fun w2 => (∀ (p : Nat) (j : Int), ¬ ((p = tp ∧ (j = 2 ∨ j = 5 ∨ j = 6 ∨ j = 7 ∨ j = 8))) → tm_g w2 p j = tm_g w p j) ∧ a_T f K L tp w2 (a_adv f L G))) := by
  have hL := a_L hW h_tp h
  by_cases c : G.1 = 0
  · obtain ⟨k5, k2, s0, s1, s2⟩ := h.2.2.1 c
    have hk := k_end_b (f := f) s1
    refine (tx_Ta_advance hW h_tp (k_end f L G.2.1) k2 L h.1.1 hK h.1.2.1 h.1.2.2 hk.2).conseq (fun r w2 q => ?_)
    obtain ⟨q1, q2, q3, s1', a1, g1, n1, w1, hzz⟩ := q
    obtain ⟨k1, k2', k3, k4, k5', hp⟩ := hzz
    exact ⟨q1, q2, fun p j hn => q3 p j (by omega), a_adv_T h hL.1 ⟨fun _ => rfl, fun z => absurd c z⟩ (fun p j hn => q3 p j (by omega)) k1 k2' k3 k4 k5' hp⟩
  · have k2 := h.2.2.2 c
    refine (tx_Ta_advance hW h_tp L k2 L h.1.1 hK h.1.2.1 h.1.2.2 (Int.le_refl _)).conseq (fun r w2 q => ?_)
    obtain ⟨q1, q2, q3, s1', a1, g1, n1, w1, hzz⟩ := q
    obtain ⟨k1, k2', k3, k4, k5', hp⟩ := hzz
    exact ⟨q1, q2, fun p j hn => q3 p j (by omega), a_adv_T h hL.1 ⟨fun z => absurd z c, fun _ => rfl⟩ (fun p j hn => q3 p j (by omega)) k1 k2' k3 k4 k5' hp⟩
theorem gt_fail (hW : tm_W N T w) (h_tp : is_Ta T tp) (a : Int) (l_a : 0 ≤ a) (u_a : a ≤ 4) (hK : K < g_ln.length) (h : a_T f K L tp w G) : ab_Mt g_G g_rs mt_Ta_fail 0 0 0 [ab_R tp, ab_I a] w (tm_Qv N T (fun w2 => (∀ (p : Nat) (j : Int), ¬ ((p = tp ∧ (j = 2 ∨ j = 4 ∨ j = 6 ∨ j = 7 ∨ j = 8))) → tm_g w2 p j = tm_g w p j) ∧ a_T f K L tp w2 (a_fail a G))) := by
  obtain ⟨⟨h1, h2, h3⟩, ⟨h4, h5, h6, h7⟩, h8, h9⟩ := id h
  obtain ⟨s0, ks, ls, us⟩ := tm_peek (k := 5) (K := 5) hW h_tp.1 rfl rfl
  refine (tx_Ta_fail hW h_tp a l_a u_a G.1 h4 s0 ks L h1 hK h2 h3).conseq (fun r w2 q => ?_)
  obtain ⟨q1, q2, q3, a1, e1, g1, n1, w1, hzz⟩ := q
  obtain ⟨k1, k2, k3, k4, k5, ⟨pa, pg, pn, pw⟩, pe, pf⟩ := hzz
  have hs : G.1 = 0 → s0 = G.2.1 := fun c => by
    have := (h8 c).1
    rw [ks] at this
    injection this with this
    injection this
  have hne : ¬ (a_fail a G).1 = 0 := by
    unfold a_fail
    by_cases c : G.1 = 0
    · have := (h8 c).2.2.1
      rw [if_pos c]
      show ¬ 1 + 8 * G.2.1 + a = 0
      omega
    · rw [if_neg c]; exact c
  have he : e1 = (a_fail a G).1 := by
    unfold a_fail
    by_cases c : G.1 = 0
    · rw [if_pos c]
      show e1 = 1 + 8 * G.2.1 + a
      rw [pe c, hs c]
    · rw [if_neg c]; exact pf c
  refine ⟨q1, q2, fun p j hn => q3 p j (by omega), ⟨(q3 _ _ (by omega)).trans h1, fun j => (q3 _ _ (by omega)).trans (h2 j), (q3 _ _ (by omega)).trans h3⟩, ⟨?_, ?_, ?_, ?_⟩, fun z => absurd z hne, fun _ => ?_⟩
  · rw [k2, he]
  · rw [k3, pg]; unfold a_sg; rw [if_neg hne]
  · rw [k4, pn]; unfold a_nb; rw [if_neg hne]
  · rw [k5, pw]; unfold a_wd; rw [if_neg hne]
  · rw [k1, pa]
theorem a_adv_c : (a_adv f L G).2.2 = G.2.2 := by unfold a_adv; split <;> rfl
theorem a_fail_c {k : Int} : (a_fail k G).2.2 = G.2.2 := by unfold a_fail; split <;> rfl
theorem gx_Ta_advance (hW : tm_W N T w) (h_tp : is_Ta T tp) (hK : K < g_ln.length) (ne_rr_tp : rr + 2 ≤ tp ∨ tp + 2 ≤ rr) (h : a_R f K L tp rr w G) : ab_Mt g_G g_rs mt_Ta_advance 5 0 0 [ab_R tp] w (tm_Qv N T (fun w2 => (∀ (p : Nat) (j : Int), ¬ ((p = tp ∧ (j = 2 ∨ j = 5 ∨ j = 6 ∨ j = 7 ∨ j = 8))) → tm_g w2 p j = tm_g w p j) ∧ a_R f K L tp rr w2 (a_adv f L G))) :=
  (gt_advance hW h_tp hK h.1).conseq (fun r w2 q => ⟨q.1, q.2.1, q.2.2.1, q.2.2.2, by rw [a_adv_c, q.2.2.1 rr 2 (by omega)]; exact h.2.1, by rw [a_adv_c]; exact a_C_fr h.2.2 (fun p j hp => q.2.2.1 p j (by omega))⟩)
theorem gx_Ta_fail (hW : tm_W N T w) (h_tp : is_Ta T tp) (a : Int) (l_a : 0 ≤ a) (u_a : a ≤ 4) (hK : K < g_ln.length) (ne_rr_tp : rr + 2 ≤ tp ∨ tp + 2 ≤ rr) (h : a_R f K L tp rr w G) : ab_Mt g_G g_rs mt_Ta_fail 0 0 0 [ab_R tp, ab_I a] w (tm_Qv N T (fun w2 => (∀ (p : Nat) (j : Int), ¬ ((p = tp ∧ (j = 2 ∨ j = 4 ∨ j = 6 ∨ j = 7 ∨ j = 8))) → tm_g w2 p j = tm_g w p j) ∧ a_R f K L tp rr w2 (a_fail a G))) :=
  (gt_fail hW h_tp a l_a u_a hK h.1).conseq (fun r w2 q => ⟨q.1, q.2.1, q.2.2.1, q.2.2.2, by rw [a_fail_c, q.2.2.1 rr 2 (by omega)]; exact h.2.1, by rw [a_fail_c]; exact a_C_fr h.2.2 (fun p j hp => q.2.2.1 p j (by omega))⟩)
def a_em (x : Int) (G : a_S) : a_S := if G.2.2.2.length < 400 then (G.1, G.2.1, G.2.2.1, G.2.2.2 ++ [x]) else G
set_option maxHeartbeats 4000000 in
set_option maxRecDepth 10000 in
theorem gx_Ru_emit (hW : tm_W N T w) (h_rr : is_Ru T rr) (a : Int) (l_a : (-2147483648) ≤ a) (u_a : a ≤ 2147483647) (hK : K < g_ln.length) (ne_rr_tp : rr + 2 ≤ tp ∨ tp + 2 ≤ rr) (hG : a_R f K L tp rr w G) : ab_Mt g_G g_rs mt_Ru_emit 0 0 0 [ab_R rr, ab_I a] w (tm_Qv N T (fun w2 => (∀ (p : Nat) (j : Int), ¬ (p = (rr + 1) ∨ (p = rr ∧ (j = 1))) → tm_g w2 p j = tm_g w p j) ∧ a_R f K L tp rr w2 (a_em a G))) := by
  obtain ⟨rrt0, rrt1⟩ := id h_rr
  obtain ⟨hT, hc, hl, hs, hx⟩ := id hG
  refine ab_Mt.of rfl (Nat.le_of_ble_eq_true rfl) ?_
  show ab_Ev g_G g_rs mt_Ru_emit _ _ _ 0 [some (ab_R rr), some (ab_I a)] [] _ _
  refine ev_aload_n dt_Ru_emit_0 rfl rfl ?_
  refine tm_getK (K := 1) dt_Ru_emit_1 hW rrt0 fl_Ru_23 rfl hs ?_
  refine ev_aload_n dt_Ru_emit_4 rfl rfl ?_
  refine tm_getR dt_Ru_emit_5 hW rrt0 fl_Ru_9 rfl ?_
  refine tm_alen dt_Ru_emit_8 hW rrt1 (by decide) ?_
  refine ev_icmp_ge (tgt := 32) dt_Ru_emit_9 (by decide) (by omega) (by omega) (fun h2 => ?_) (fun h2 => ?_)
  · refine ev_return dt_Ru_emit_32 rfl ⟨hW, rfl, fun _ _ _ => rfl, ?_⟩
    unfold a_em
    rw [if_neg (by omega)]
    exact hG
  · refine ev_aload_n dt_Ru_emit_12 rfl rfl ?_
    refine tm_getR dt_Ru_emit_13 hW rrt0 fl_Ru_9 rfl ?_
    refine ev_aload_n dt_Ru_emit_16 rfl rfl ?_
    refine tm_getK (K := 1) dt_Ru_emit_17 hW rrt0 fl_Ru_23 rfl hs ?_
    refine ev_iload_n dt_Ru_emit_20 rfl rfl ?_
    refine tm_iastore dt_Ru_emit_21 hW rrt1 (by omega) (by omega) (by omega) (by omega) (by omega) (fun w3 hWw3 kkw3 hfw3 => ?_)
    have z4 := (hfw3 rr 1 (by omega)).trans hs
    refine ev_aload_n dt_Ru_emit_22 rfl rfl ?_
    refine ev_dup dt_Ru_emit_23 rfl ?_
    refine tm_getK (K := 1) dt_Ru_emit_24 hWw3 rrt0 fl_Ru_23 rfl z4 ?_
    refine ev_iconst dt_Ru_emit_27 ?_
    refine ev_iadd dt_Ru_emit_28 ?_
    refine tm_putI (K := 1) dt_Ru_emit_29 hWw3 rrt0 (fp_Ru_23 _) rfl rfl trivial (by omega) (by omega) (fun w5 hWw5 kkw5 hfw5 => ?_)
    have hF : ∀ (p : Nat) (j : Int), ¬ (p = (rr + 1) ∨ (p = rr ∧ (j = 1))) → tm_g w5 p j = tm_g w p j := fun p j h => (hfw5 p j (by omega)).trans (hfw3 p j (by omega))
    refine ev_return dt_Ru_emit_32 rfl ⟨hWw5, rfl, hF, ?_⟩
    have e : a_em a G = (G.1, G.2.1, G.2.2.1, G.2.2.2 ++ [a]) := if_pos (by omega)
    rw [e]
    have hlen : (G.2.2.2 ++ [a]).length = G.2.2.2.length + 1 := List.length_append
    refine ⟨a_T_fr (G := (G.1, G.2.1, G.2.2.1, G.2.2.2 ++ [a])) hT (fun p j hp => hF p j (by omega)), (hF _ _ (by omega)).trans hc, ?_, ?_, fun k x hk => ?_⟩
    · show (G.2.2.2 ++ [a]).length ≤ 400
      omega
    · show tm_g w5 rr 1 = some (ab_I ((G.2.2.2 ++ [a]).length : Int))
      rw [hlen, kkw5]
      rfl
    · have hk : (G.2.2.2 ++ [a])[k]? = some x := hk
      rcases Nat.lt_trichotomy k G.2.2.2.length with h3 | h3 | h3
      · rw [List.getElem?_append_left h3] at hk
        rw [hfw5 _ _ (by omega), hfw3 _ _ (by omega)]
        exact hx k x hk
      · subst h3
        rw [List.getElem?_append_right (Nat.le_refl _), Nat.sub_self] at hk
        obtain rfl := Option.some.inj hk
        rw [hfw5 _ _ (by omega)]
        exact kkw3
      · rw [List.getElem?_eq_none (by omega)] at hk
        cases hk
set_option maxHeartbeats 4000000 in
set_option maxRecDepth 10000 in
theorem gt_begin (hW : tm_W N T w) (h_tp : is_Ta T tp) (hK : K < g_ln.length) (kL : tm_g w tp 1 = some (ab_I L)) (hf : ∀ j, tm_g w (tp + 1) j = some (ab_I (f j))) : ab_Mt g_G g_rs mt_Ta_begin 6 0 0 [ab_R tp, ab_R (ab_sb + K)] w (tm_Qv N T (fun w2 => (∀ (p : Nat) (j : Int), ¬ ((p = tp ∧ (j = 2 ∨ j = 5 ∨ j = 6 ∨ j = 7 ∨ j = 8 ∨ j = 4 ∨ j = 3))) → tm_g w2 p j = tm_g w p j) ∧ ∀ z, a_T f K L tp w2 (0, tk_sk f L 0, z))) := by
  obtain ⟨tpt0, tpt1⟩ := id h_tp
  have hL : 0 ≤ L ∧ L ≤ 400 := tm_kb (k := 1) (K := 1) hW tpt0 rfl rfl kL
  refine ab_Mt.of rfl (Nat.le_of_ble_eq_true rfl) ?_
  show ab_Ev g_G g_rs mt_Ta_begin _ _ _ 0 [some (ab_R tp), some (ab_R (ab_sb + K))] [] _ _
  refine ev_aload_n dt_Ta_begin_0 rfl rfl ?_
  refine ev_aload_n dt_Ta_begin_1 rfl rfl ?_
  refine tm_putV (K := 3) dt_Ta_begin_2 hW tpt0 (fp_Ta_17 _) rfl rfl trivial ⟨_, rfl, hK⟩ (Or.inr (Nat.le_add_right _ _)) (fun w1 hW1 k1 f1 => ?_)
  refine ev_aload_n dt_Ta_begin_5 rfl rfl ?_
  refine ev_iconst dt_Ta_begin_6 ?_
  refine tm_putI (K := 2) dt_Ta_begin_7 hW1 tpt0 (fp_Ta_25 _) rfl rfl trivial (by omega) (by omega) (fun w2 hW2 k2 f2 => ?_)
  refine ev_aload_n dt_Ta_begin_10 rfl rfl ?_
  refine ev_iconst dt_Ta_begin_11 ?_
  refine tm_putI (K := 4) dt_Ta_begin_12 hW2 tpt0 (fp_Ta_28 _) rfl rfl trivial (by omega) (by omega) (fun w3 hW3 k3 f3 => ?_)
  refine ev_aload_n dt_Ta_begin_15 rfl rfl ?_
  have hF3 : ∀ (p : Nat) (j : Int), ¬ (p = tp ∧ (j = 2 ∨ j = 3 ∨ j = 4)) → tm_g w3 p j = tm_g w p j := fun p j h => (f3 p j (by omega)).trans ((f2 p j (by omega)).trans (f1 p j (by omega)))
  have a2 : tm_g w3 tp 2 = some (ab_I 0) := (f3 tp 2 (by omega)).trans k2
  have a3 : tm_g w3 tp 3 = some (ab_R (ab_sb + K)) := (f3 tp 3 (by omega)).trans ((f2 tp 3 (by omega)).trans k1)
  have a1 : tm_g w3 tp 1 = some (ab_I L) := (hF3 tp 1 (by omega)).trans kL
  have af : ∀ j, tm_g w3 (tp + 1) j = some (ab_I (f j)) := fun j => (hF3 (tp + 1) j (by omega)).trans (hf j)
  refine tm_vv dt_Ta_begin_16 (tx_Ta_advance hW3 h_tp 0 a2 L a1 hK af a3 hL.1) kb_Ta_31 ⟨im_Ta_advance, se_Ta_advance⟩ rfl hW3 tpt0 rfl (Nat.le_of_ble_eq_true rfl) (by decide) (fun w4 hW4 hR4 => ?_)
  obtain ⟨f4, s1, p1, g1, n1, e1, q1, q2, hzz⟩ := hR4
  obtain ⟨q3, q4, q5, z1, z2, z3, z4, z5⟩ := hzz
  refine ev_return dt_Ta_begin_19 rfl ⟨hW4, rfl, fun p j h => (f4 p j (by omega)).trans (hF3 p j (by omega)), fun z => ?_⟩
  have hb := tk_sk_b f hL.1
  rw [← z1]
  refine ⟨⟨(f4 _ _ (by omega)).trans a1, fun j => (f4 _ _ (by omega)).trans (af j), (f4 _ _ (by omega)).trans a3⟩, ⟨(f4 _ _ (by omega)).trans k3, ?_, ?_, ?_⟩, fun _ => ⟨q1, ?_, show 0 ≤ s1 from by omega, show s1 ≤ L from by omega, show tk_sk f L s1 = s1 from by rw [z1]; exact tk_sk_sk f L 0 hL.1⟩, fun z => absurd rfl z⟩
  · rw [q3, z3]; rfl
  · rw [q4, z4]; rfl
  · rw [q5, z5]; rfl
  · rw [q2, z2]
end GX
