/-! run, seed -/
theorem ab_uu {α : Type} (f : Int → α) (k : Int) (a b : α) : ab_up (ab_up f k a) k b = ab_up f k b := funext (fun j => by unfold ab_up; split <;> rfl)
theorem cs_pass_sp {r : Int} {f : Int → Int} (hf : 0 ≤ f 4 ∧ f 4 ≤ 11) (h : 24 * f 6 + f 5 + 1 < 24000) : cs_passAt r f = sp_passAt r f := by
  unfold cs_passAt sp_passAt
  have tj := (sp_turns_j (sp_by (sp_n f r)) (ab_up f 7 0) hf (sp_n f r).natAbs).2
  have e5 := tj 5 (by decide) (by decide)
  have e6 := tj 6 (by decide) (by decide)
  have e5' : ab_up f 7 0 5 = f 5 := rfl
  have e6' : ab_up f 7 0 6 = f 6 := rfl
  generalize sp_turns (sp_by (sp_n f r)) (ab_up f 7 0) (sp_n f r).natAbs = g at e5 e6
  unfold cs_on sp_goesOn
  by_cases c : g 5 + 1 < 24
  · rw [if_pos c, if_pos c]
  · rw [if_neg c, if_neg c, ab_uu]
    have e : (if g 6 + 1 < 999 then g 6 + 1 else 999) = g 6 + 1 := by split <;> omega
    rw [e]
theorem rj_x {o : Nat} {f : Int → Int} {x : Int} {w : ab_W} (h : ri_at_j o f x w) (v : Int) : ri_at_j o f v (w.set o (ab_ob 5 [ab_I (f 0), ab_I (f 4), ab_I (f 5), ab_I (f 6), ab_I (f 7), ab_I (f 8), ab_I v, ab_I (f 1), ab_I (f 2), ab_I (f 3), ab_R (o + 1), ab_R (o + 2), ab_R (o + 3), ab_R (o + 4), ab_R (o + 5), ab_R (o + 6), ab_R (o + 7), ab_R (o + 8)])) := by
  obtain ⟨sl, fs, vo, li, ra, wo, dh, da, ds, dn, vw, hC, re⟩ := ri_un_j h
  exact ri_mk_j rfl rfl rfl rfl rfl rfl rfl rfl rfl rfl (rgc_o hC) re
theorem rt_post {G : ab_G} {s : State} {args : Array Value} {D : va_G} {dA : Nat → ClassId} {as : Nat → Nat} {A : Nat → Prop} {w : ab_W} {Q Q2 : Option ab_V → ab_W → Prop} {Qc : Array Value → State → Outcome → State → Prop} {free : Addr → Prop} (h : ∀ r w2, Q r w2 → Q2 r w2) (k : ab_Rt G s args D dA as A w Q2 Qc free) : ab_Rt G s args D dA as A w Q Qc free := fun r w2 as2 H2 l2 q1 => k r w2 as2 H2 l2 (h r w2 q1)
theorem ev_post {G : ab_G} {rs : List String} {M : ab_M} {d bc bs pc : Nat} {l : ab_L} {st : List ab_V} {w : ab_W} {Q Q2 : Option ab_V → ab_W → Prop} (h : ∀ r w2, Q r w2 → Q2 r w2) (k : ab_Ev G rs M d bc bs pc l st w Q) : ab_Ev G rs M d bc bs pc l st w Q2 := by
  intro p la e R s m args below meth c H locs cells slots D dA aK aV as A ls Qc free h1 h2 h3 h4 h5 h6 h7 h8 h9
  exact k p la e R s m args below meth c H locs cells slots D dA aK aV as A ls Qc free h1 h2 h3 h4 h5 h6 h7 h8 (rt_post h h9)
theorem mac_fr {m o n : Nat} {sk : Int → Int64} {tp : Int} {w w2 : ab_W} (h : mac m sk tp w) (hf : fr_at o n w w2) (hd : m + 2 ≤ o ∨ o + n ≤ m) : mac m sk tp w2 := ⟨(hf.2 _ (by omega)).trans h.1, (hf.2 _ (by omega)).trans h.2⟩
theorem acl_fp {a : Nat} {ki f1 s1 : Int → Int} {sz nx : Int} {w w0 : ab_W} (h : acl 32 ki f1 s1 sz nx w0) (hf : ∀ q, (q < a ∨ a + 13 ≤ q) → (q < 38 ∨ 40 ≤ q) → w[q]? = w0[q]?) (ha : a + 13 ≤ 32) : acl 32 ki f1 s1 sz nx w := ⟨(hf _ (by omega) (by omega)).trans h.1, (hf _ (by omega) (by omega)).trans h.2.1, (hf _ (by omega) (by omega)).trans h.2.2.1, (hf _ (by omega) (by omega)).trans h.2.2.2⟩
theorem de_Tu_run_0 : decode prog_1_method_16_code 0 = .ok (.aload_n 0, 1) := by decide +kernel
theorem de_Tu_run_1 : decode prog_1_method_16_code 1 = .ok (.getfield 19, 3) := by decide +kernel
theorem de_Tu_run_4 : decode prog_1_method_16_code 4 = .ok (.getfield 152, 3) := by decide +kernel
theorem de_Tu_run_7 : decode prog_1_method_16_code 7 = .ok (.ifCond .eq 36, 3) := by decide +kernel
theorem de_Tu_run_10 : decode prog_1_method_16_code 10 = .ok (.aload_n 0, 1) := by decide +kernel
theorem de_Tu_run_11 : decode prog_1_method_16_code 11 = .ok (.iload_n 1, 1) := by decide +kernel
theorem de_Tu_run_12 : decode prog_1_method_16_code 12 = .ok (.invokevirtual 230, 3) := by decide +kernel
theorem de_Tu_run_15 : decode prog_1_method_16_code 15 = .ok (.ifCond .eq 28, 3) := by decide +kernel
theorem de_Tu_run_18 : decode prog_1_method_16_code 18 = .ok (.iload_n 2, 1) := by decide +kernel
theorem de_Tu_run_19 : decode prog_1_method_16_code 19 = .ok (.iconst 1, 1) := by decide +kernel
theorem de_Tu_run_20 : decode prog_1_method_16_code 20 = .ok (.if_icmp .lt 23, 3) := by decide +kernel
theorem de_Tu_run_23 : decode prog_1_method_16_code 23 = .ok (.iload_n 2, 1) := by decide +kernel
theorem de_Tu_run_24 : decode prog_1_method_16_code 24 = .ok (.bipush 96, 2) := by decide +kernel
theorem de_Tu_run_26 : decode prog_1_method_16_code 26 = .ok (.if_icmp .gt 17, 3) := by decide +kernel
theorem de_Tu_run_29 : decode prog_1_method_16_code 29 = .ok (.aload_n 0, 1) := by decide +kernel
theorem de_Tu_run_30 : decode prog_1_method_16_code 30 = .ok (.getfield 19, 3) := by decide +kernel
theorem de_Tu_run_33 : decode prog_1_method_16_code 33 = .ok (.iload_n 2, 1) := by decide +kernel
theorem de_Tu_run_34 : decode prog_1_method_16_code 34 = .ok (.invokevirtual 209, 3) := by decide +kernel
theorem de_Tu_run_37 : decode prog_1_method_16_code 37 = .ok (.invokestatic 212, 3) := by decide +kernel
theorem de_Tu_run_40 : decode prog_1_method_16_code 40 = .ok (.if_icmp .le 5, 3) := by decide +kernel
theorem de_Tu_run_43 : decode prog_1_method_16_code 43 = .ok (.iconst (-1), 1) := by decide +kernel
theorem de_Tu_run_44 : decode prog_1_method_16_code 44 = .ok (.ireturn, 1) := by decide +kernel
theorem de_Tu_run_45 : decode prog_1_method_16_code 45 = .ok (.iconst 0, 1) := by decide +kernel
theorem de_Tu_run_46 : decode prog_1_method_16_code 46 = .ok (.istore_n 3, 1) := by decide +kernel
theorem de_Tu_run_47 : decode prog_1_method_16_code 47 = .ok (.iload_n 3, 1) := by decide +kernel
theorem de_Tu_run_48 : decode prog_1_method_16_code 48 = .ok (.iload_n 2, 1) := by decide +kernel
theorem de_Tu_run_49 : decode prog_1_method_16_code 49 = .ok (.if_icmp .ge 34, 3) := by decide +kernel
theorem de_Tu_run_52 : decode prog_1_method_16_code 52 = .ok (.aload_n 0, 1) := by decide +kernel
theorem de_Tu_run_53 : decode prog_1_method_16_code 53 = .ok (.getfield 19, 3) := by decide +kernel
theorem de_Tu_run_56 : decode prog_1_method_16_code 56 = .ok (.aload_n 0, 1) := by decide +kernel
theorem de_Tu_run_57 : decode prog_1_method_16_code 57 = .ok (.getfield 57, 3) := by decide +kernel
theorem de_Tu_run_60 : decode prog_1_method_16_code 60 = .ok (.aload_n 0, 1) := by decide +kernel
theorem de_Tu_run_61 : decode prog_1_method_16_code 61 = .ok (.getfield 36, 3) := by decide +kernel
theorem de_Tu_run_64 : decode prog_1_method_16_code 64 = .ok (.iload_n 1, 1) := by decide +kernel
theorem de_Tu_run_65 : decode prog_1_method_16_code 65 = .ok (.aaload, 1) := by decide +kernel
theorem de_Tu_run_66 : decode prog_1_method_16_code 66 = .ok (.aload_n 0, 1) := by decide +kernel
theorem de_Tu_run_67 : decode prog_1_method_16_code 67 = .ok (.getfield 19, 3) := by decide +kernel
theorem de_Tu_run_70 : decode prog_1_method_16_code 70 = .ok (.invokevirtual 233, 3) := by decide +kernel
theorem de_Tu_run_73 : decode prog_1_method_16_code 73 = .ok (.invokevirtual 215, 3) := by decide +kernel
theorem de_Tu_run_76 : decode prog_1_method_16_code 76 = .ok (.pop, 1) := by decide +kernel
theorem de_Tu_run_77 : decode prog_1_method_16_code 77 = .ok (.iinc 3 1, 3) := by decide +kernel
theorem de_Tu_run_80 : decode prog_1_method_16_code 80 = .ok (.goto (-33), 3) := by decide +kernel
theorem de_Tu_run_83 : decode prog_1_method_16_code 83 = .ok (.aload_n 0, 1) := by decide +kernel
theorem de_Tu_run_84 : decode prog_1_method_16_code 84 = .ok (.getfield 43, 3) := by decide +kernel
theorem de_Tu_run_87 : decode prog_1_method_16_code 87 = .ok (.invokevirtual 99, 3) := by decide +kernel
theorem de_Tu_run_90 : decode prog_1_method_16_code 90 = .ok (.aload_n 0, 1) := by decide +kernel
theorem de_Tu_run_91 : decode prog_1_method_16_code 91 = .ok (.getfield 19, 3) := by decide +kernel
theorem de_Tu_run_94 : decode prog_1_method_16_code 94 = .ok (.getfield 177, 3) := by decide +kernel
theorem de_Tu_run_97 : decode prog_1_method_16_code 97 = .ok (.ireturn, 1) := by decide +kernel
set_option maxHeartbeats 4000000 in
set_option maxRecDepth 10000 in
theorem lo_Tu_run {a b : Nat} {rc x : Int} {f : Int → Int} {w0 : ab_W} {p n : Nat} {cd : Int → Int} {ls : List Int} {E : (Int → Int) → Int} {fr : Int → Option Nat} {ki f1 s1 : Int → Int} {sz nx : Int} {B0 : Int} (hI : sg_ok B0 f) (t0 : tu_at a b rc w0) (hab : a = 3 ∨ a = 16) (hac : acl 32 ki f1 s1 sz nx w0) (rl0 : w0[31]? = some (ab_ar 5 6 fr)) (hp : 129 ≤ p) (r0 : w0[p]? = some (ab_ob 6 [ab_R (p + 1)])) (r1 : w0[p + 1]? = some (ab_ai 0 n cd)) (hn : ls.length = n) (hn2 : n ≤ 100000) (hcd : ∀ (k : Nat) (x : Int), ls[k]? = some x → cd (k : Int) = x) (hbd : ∀ x ∈ ls, -35 ≤ x ∧ x ≤ 99999 ∧ (x ≤ -21 ∨ -12 ≤ x)) (hE : ∀ g, -3 ≤ E g ∧ E g ≤ 3) (hgo : ∀ g, vm_go (sp_wf g) ls [] = some (E g)) (y1 : Int) (hy : 0 ≤ y1 ∧ y1 < rc) (hrc : rc ≤ 6) (hfr : fr y1 = some p) (y2 : Int) (h2 : 1 ≤ y2 ∧ y2 ≤ 96) (hG : 24 * f 6 + f 5 + y2 < 24000) : ∀ (nF : Nat) (k : Nat) (sk : Int → Int64) (tp : Int) (w : ab_W), (k : Int) ≤ y2 → y2 < k + nF → ri_at_j a (sp_runN E f k) x w → mac 38 sk tp w → (∀ q, (q < a ∨ a + 13 ≤ q) → (q < 38 ∨ 40 ≤ q) → w[q]? = w0[q]?) → w.length = w0.length → ab_Ev g_G g_rs mt_Tu_run 6 0 0 47 [some (ab_R 0), some (ab_I y1), some (ab_I y2), some (ab_I (k : Int))] [] w (fun r w2 => r = some (ab_I (sp_runN E f y2.toNat 4)) ∧ ri_at_j a (sp_runN E f y2.toNat) x w2 ∧ acl 32 ki f1 s1 0 nx w2 ∧ w2.length = w0.length) := by
  unfold tu_at at t0
  intro nF
  induction nF with
  | zero =>
    intro k sk tp w
    intro g1 g2; omega
  | succ nF ih =>
    intro k sk tp w
    intro g1 g2 hR0 hM hfr2 hl
    have hIk := sg_runN (sg_least hI) hE k (by omega)
    have hgk := hIk.2.1.1
    have hEk := hE (sp_runN E f k)
    have i4 := (sg_all hIk).2.2.2.2.1
    have t0 := (hfr2 0 (by omega) (by omega)).trans t0
    have rl0 := (hfr2 31 (by omega) (by omega)).trans rl0
    have ro0 := (hfr2 p (by omega) (by omega)).trans r0
    have ro1 := (hfr2 (p + 1) (by omega) (by omega)).trans r1
    have hac := acl_fp hac hfr2 (by omega)
    obtain ⟨m0, m1⟩ := id hM
    obtain ⟨c0, c1, c2, c3⟩ := id hac
    obtain ⟨sl, fs, vo, li, ra, wo, dh, da, hzz⟩ := id hR0
    obtain ⟨ds, dn, vw, q0, q1, q2, q3, q4, hzz⟩ := hzz
    obtain ⟨q5, q6, q7, q8, q9, q10, q11, q12, -⟩ := hzz
    refine ev_iload_n de_Tu_run_47 rfl rfl ?_
    refine ev_iload_n de_Tu_run_48 rfl rfl ?_
    refine ev_icmp_ge (tgt := 83) de_Tu_run_49 (by decide) (by omega) (by omega) (fun h49 => ?_) (fun h49 => ?_)
    · skip
      have ek : k = y2.toNat := by omega
      subst ek
      refine ev_aload_n de_Tu_run_83 rfl rfl ?_
      refine ev_getfield de_Tu_run_84 t0 fl_Tu_43 rfl ?_
      refine ev_virtual (ci := 0) (mc := 0) (ms := 0) (bc := 0) (bs := 0) de_Tu_run_87 (co_Ac_forget hac) kb_Tu_99 ⟨im_Ac_forget, se_Ac_forget⟩ rfl c0 rfl (Nat.le_of_ble_eq_true rfl) (by decide) (Or.inl (fun r w1 h => h.2.2.1)) (fun r1 w1 hm1 => ?_)
      obtain ⟨rfl, hac, hf2⟩ := hm1
      · skip
        have t0 := (hf2.2 0 (by omega)).trans t0
        have hR0 := rj_fr hR0 hf2 (by omega)
        obtain ⟨sl, fs, vo, li, ra, wo, dh, da, hzz⟩ := id hR0
        obtain ⟨ds, dn, vw, q0, q1, q2, q3, q4, hzz⟩ := hzz
        obtain ⟨q5, q6, q7, q8, q9, q10, q11, q12, -⟩ := hzz
        refine ev_aload_n de_Tu_run_90 rfl rfl ?_
        refine ev_getfield de_Tu_run_91 t0 fl_Tu_19 rfl ?_
        refine ev_getfield de_Tu_run_94 q0 fl_Tu_177 rfl ?_
        exact ev_ireturn de_Tu_run_97 rfl ⟨rfl, hR0, hac, hf2.1.trans hl⟩
    · skip
      refine ev_aload_n de_Tu_run_52 rfl rfl ?_
      refine ev_getfield de_Tu_run_53 t0 fl_Tu_19 rfl ?_
      refine ev_aload_n de_Tu_run_56 rfl rfl ?_
      refine ev_getfield de_Tu_run_57 t0 fl_Tu_57 rfl ?_
      refine ev_aload_n de_Tu_run_60 rfl rfl ?_
      refine ev_getfield de_Tu_run_61 t0 fl_Tu_36 rfl ?_
      refine ev_iload_n de_Tu_run_64 rfl rfl ?_
      refine ev_aaload (t := 1) de_Tu_run_65 rl0 rfl (by omega) (by omega) (by omega) hfr ?_
      refine ev_aload_n de_Tu_run_66 rfl rfl ?_
      refine ev_getfield de_Tu_run_67 t0 fl_Tu_19 rfl ?_
      refine ev_virtual (ci := 3) (mc := 0) (ms := 0) (bc := 0) (bs := 0) de_Tu_run_70 (co_Ma_rateBy (m := 38) hIk hR0 ro0 ro1 hn hn2 hcd hbd (by omega) (by omega) hM (hgo _)) kb_Tu_233 ⟨im_Ma_rateBy, se_Ma_rateBy⟩ rfl m0 rfl (Nat.le_of_ble_eq_true rfl) (by decide) (Or.inl (fun r w1 h => h.2.1.1)) (fun r1 w1 hm1 => ?_)
      obtain ⟨rfl, hf1, sk9, tp9, hM9⟩ := hm1
      · skip
        have hR0 := rj_fr hR0 hf1 (by omega)
        obtain ⟨sl, fs, vo, li, ra, wo, dh, da, hzz⟩ := id hR0
        obtain ⟨ds, dn, vw, q0, q1, q2, q3, q4, hzz⟩ := hzz
        obtain ⟨q5, q6, q7, q8, q9, q10, q11, q12, -⟩ := hzz
        refine ev_gen (P := fun w5 => w5 = w1) rfl (fun w5 e5 => ?_)
        subst e5
        refine ev_virtual (ci := 5) (mc := 0) (ms := 0) (bc := 0) (bs := 0) de_Tu_run_73 (co_Ri_passHour_j hIk hR0 _ (by omega) (by omega)) kb_Tu_215 ⟨im_Ri_passHour, se_Ri_passHour⟩ rfl q0 rfl (Nat.le_of_ble_eq_true rfl) (by decide) (Or.inl (fun r w1 h => h.2.2.1)) (fun r1 w1 hm1 => ?_)
        obtain ⟨rfl, hR9, hf2⟩ := hm1
        · skip
          rw [cs_pass_sp (by omega) (by omega)] at hR9
          have hM9 := mac_fr hM9 hf2 (by omega)
          have hl9 := hf2.1.trans (hf1.1.trans hl)
          have hfr9 : ∀ q, (q < a ∨ a + 13 ≤ q) → (q < 38 ∨ 40 ≤ q) → w1[q]? = w0[q]? := fun q h1 h2 => (hf2.2 q h1).trans ((hf1.2 q (by omega)).trans (hfr2 q h1 h2))
          refine ev_pop de_Tu_run_76 rfl ?_
          refine ev_iinc (l' := [_, _, _, _]) de_Tu_run_77 rfl rfl ?_
          refine ev_goto (tgt := 47) de_Tu_run_80 (by decide) ?_
          exact ih (k + 1) _ _ _ (by omega) (by omega) hR9 hM9 hfr9 hl9
set_option maxHeartbeats 4000000 in
set_option maxRecDepth 10000 in
theorem co_Tu_run {a b : Nat} {rc : Int} {f : Int → Int} {x B : Int} {w : ab_W} (hI : sg_ok B f) (t0 : tu_at a b rc w) (hR : ri_at_j a f x w) {p n : Nat} {cd : Int → Int} {ls : List Int} {E : (Int → Int) → Int} {fr : Int → Option Nat} {sk : Int → Int64} {tp : Int} {ki f1 s1 : Int → Int} {sz nx : Int} (hab : a = 3 ∨ a = 16) (hac : acl 32 ki f1 s1 sz nx w) (hnx : 0 ≤ nx ∧ nx < 20) (hsz : 0 ≤ sz ∧ sz ≤ 20) (hM : mac 38 sk tp w) (hrc : 0 ≤ rc ∧ rc ≤ 6) (rl0 : w[31]? = some (ab_ar 5 6 fr)) (y1 : Int) (hy1 : ab_in y1) (y2 : Int) (hy2 : ab_in y2) (hru : (0 ≤ y1 ∧ y1 < rc) → fr y1 = some p ∧ 129 ≤ p ∧ w[p]? = some (ab_ob 6 [ab_R (p + 1)]) ∧ w[p + 1]? = some (ab_ai 0 n cd) ∧ ls.length = n ∧ n ≤ 100000 ∧ (∀ (k : Nat) (x : Int), ls[k]? = some x → cd (k : Int) = x) ∧ (∀ x ∈ ls, -35 ≤ x ∧ x ≤ 99999 ∧ (x ≤ -21 ∨ -12 ≤ x)) ∧ (∀ g, -3 ≤ E g ∧ E g ≤ 3) ∧ ∀ g, vm_go (sp_wf g) ls [] = some (E g)) : ab_Mt g_G g_rs mt_Tu_run 6 0 0 [ab_R 0, ab_I y1, ab_I y2] w (fun r w2 => w2.length = w.length ∧ ((f 0 = 1 ∧ (0 ≤ y1 ∧ y1 < rc) ∧ (1 ≤ y2 ∧ y2 ≤ 96) ∧ 24 * f 6 + f 5 + y2 < 24000) ∧ r = some (ab_I (sp_runN E f y2.toNat 4)) ∧ ri_at_j a (sp_runN E f y2.toNat) x w2 ∧ acl 32 ki f1 s1 0 nx w2 ∨ ¬ (f 0 = 1 ∧ (0 ≤ y1 ∧ y1 < rc) ∧ (1 ≤ y2 ∧ y2 ≤ 96) ∧ 24 * f 6 + f 5 + y2 < 24000) ∧ r = some (ab_I (-1)) ∧ w2 = w)) := by
  have ht0 := t0
  have hl : w.length = w.length := rfl
  have hR0 := hR
  have hI0 := hI
  unfold tu_at at t0
  obtain ⟨sl, fs, vo, li, ra, wo, dh, da, hzz⟩ := hR
  obtain ⟨ds, dn, vw, q0, q1, q2, q3, q4, hzz⟩ := hzz
  obtain ⟨q5, q6, q7, q8, q9, q10, q11, q12, hzz⟩ := hzz
  obtain ⟨e1, e2, e3, e4, e5, e6, e7, e8, e9⟩ := hzz
  obtain ⟨i0, i1, i2, i3, i4, i5, i6, i7, hzz⟩ := sg_all hI
  obtain ⟨i8, i9, i10, i11, i12, i13, i14, i15, hzz⟩ := hzz
  obtain ⟨i16, i17⟩ := hzz
  obtain ⟨c0, c1, c2, c3⟩ := id hac
  refine ab_Mt.of rfl (Nat.le_of_ble_eq_true rfl) ?_
  show ab_Ev g_G g_rs mt_Tu_run _ _ _ 0 [some (ab_R 0), some (ab_I y1), some (ab_I y2), none] [] _ _
  refine ev_aload_n de_Tu_run_0 rfl rfl ?_
  refine ev_getfield de_Tu_run_1 t0 fl_Tu_19 rfl ?_
  refine ev_getfield de_Tu_run_4 q0 fl_Tu_152 rfl ?_
  refine ev_if_eq (tgt := 43) de_Tu_run_7 (by decide) (by first | omega | assumption) (fun h7 => ?_) (fun h7 => ?_)
  · skip
    refine ev_iconst de_Tu_run_43 ?_
    exact ev_ireturn de_Tu_run_44 rfl ⟨rfl, Or.inr ⟨by first | omega | (intro z; rw [if_pos z.2.1] at h15; omega), rfl, rfl⟩⟩
  · skip
    refine ev_aload_n de_Tu_run_10 rfl rfl ?_
    refine ev_iload_n de_Tu_run_11 rfl rfl ?_
    refine ev_vv (ci := 10) de_Tu_run_12 (co_Tu_hasRule hI0 ht0 hR0 hrc _ (by assumption)) kb_Tu_230 ⟨im_Tu_hasRule, se_Tu_hasRule⟩ rfl t0 rfl (Nat.le_of_ble_eq_true rfl) (by decide) rfl ?_
    refine ev_if_eq (tgt := 43) de_Tu_run_15 (by decide) (by first | omega | (split <;> decide)) (fun h15 => ?_) (fun h15 => ?_)
    · skip
      refine ev_iconst de_Tu_run_43 ?_
      exact ev_ireturn de_Tu_run_44 rfl ⟨rfl, Or.inr ⟨by first | omega | (intro z; rw [if_pos z.2.1] at h15; omega), rfl, rfl⟩⟩
    · skip
      refine ev_iload_n de_Tu_run_18 rfl rfl ?_
      refine ev_iconst de_Tu_run_19 ?_
      refine ev_icmp_lt (tgt := 43) de_Tu_run_20 (by decide) (by first | omega | assumption) (by first | omega | assumption) (fun h20 => ?_) (fun h20 => ?_)
      · skip
        refine ev_iconst de_Tu_run_43 ?_
        exact ev_ireturn de_Tu_run_44 rfl ⟨rfl, Or.inr ⟨by first | omega | (intro z; rw [if_pos z.2.1] at h15; omega), rfl, rfl⟩⟩
      · skip
        refine ev_iload_n de_Tu_run_23 rfl rfl ?_
        refine ev_bipush de_Tu_run_24 rfl ?_
        refine ev_icmp_gt (tgt := 43) de_Tu_run_26 (by decide) (by first | omega | assumption) (by first | omega | assumption) (fun h26 => ?_) (fun h26 => ?_)
        · skip
          refine ev_iconst de_Tu_run_43 ?_
          exact ev_ireturn de_Tu_run_44 rfl ⟨rfl, Or.inr ⟨by first | omega | (intro z; rw [if_pos z.2.1] at h15; omega), rfl, rfl⟩⟩
        · skip
          refine ev_aload_n de_Tu_run_29 rfl rfl ?_
          refine ev_getfield de_Tu_run_30 t0 fl_Tu_19 rfl ?_
          refine ev_iload_n de_Tu_run_33 rfl rfl ?_
          refine ev_vv (ci := 5) de_Tu_run_34 (co_Ri_hoursBehind_j hI0 hR0 _) kb_Tu_209 ⟨im_Ri_hoursBehind, se_Ri_hoursBehind⟩ rfl q0 rfl (Nat.le_of_ble_eq_true rfl) (by decide) rfl ?_
          refine ev_sv de_Tu_run_37 (co_Tu_lastHour _) kb_Tu_212 sc_Tu_lastHour rfl (Nat.le_of_ble_eq_true rfl) (by decide) rfl ?_
          refine ev_icmp_le (tgt := 45) de_Tu_run_40 (by decide) (by first | omega | assumption) (by first | omega | assumption) (fun h40 => ?_) (fun h40 => ?_)
          · skip
            have hh1 : 0 ≤ y1 ∧ y1 < rc := by split at h15 <;> omega
            obtain ⟨u1, u2, u3, u4, u5, u6, u7, u8, u9, u10⟩ := hru hh1
            refine ev_iconst de_Tu_run_45 ?_
            refine ev_istore_n (l' := [_, _, _, _]) de_Tu_run_46 rfl (Nat.le_of_ble_eq_true rfl) rfl ?_
            have LR := lo_Tu_run hI0 ht0 hab hac rl0 u2 u3 u4 u5 u6 u7 u8 u9 u10 y1 hh1 hrc.2 u1 y2 (by omega) (by omega) 97 0 sk tp w (by omega) (by omega) hR0 hM (fun q _ _ => rfl) rfl
            exact ev_post (fun r w2 h => ⟨h.2.2.2, Or.inl ⟨⟨by omega, hh1, ⟨by omega, by omega⟩, by omega⟩, h.1, h.2.1, h.2.2.1⟩⟩) LR
          · skip
            refine ev_iconst de_Tu_run_43 ?_
            exact ev_ireturn de_Tu_run_44 rfl ⟨rfl, Or.inr ⟨by first | omega | (intro z; rw [if_pos z.2.1] at h15; omega), rfl, rfl⟩⟩
theorem de_Tu_seed_0 : decode prog_1_method_17_code 0 = .ok (.iload_n 1, 1) := by decide +kernel
theorem de_Tu_seed_1 : decode prog_1_method_17_code 1 = .ok (.ifCond .ge 5, 3) := by decide +kernel
theorem de_Tu_seed_4 : decode prog_1_method_17_code 4 = .ok (.iconst (-1), 1) := by decide +kernel
theorem de_Tu_seed_5 : decode prog_1_method_17_code 5 = .ok (.ireturn, 1) := by decide +kernel
theorem de_Tu_seed_6 : decode prog_1_method_17_code 6 = .ok (.aload_n 0, 1) := by decide +kernel
theorem de_Tu_seed_7 : decode prog_1_method_17_code 7 = .ok (.getfield 19, 3) := by decide +kernel
theorem de_Tu_seed_10 : decode prog_1_method_17_code 10 = .ok (.getfield 96, 3) := by decide +kernel
theorem de_Tu_seed_13 : decode prog_1_method_17_code 13 = .ok (.istore_n 2, 1) := by decide +kernel
theorem de_Tu_seed_14 : decode prog_1_method_17_code 14 = .ok (.aload_n 0, 1) := by decide +kernel
theorem de_Tu_seed_15 : decode prog_1_method_17_code 15 = .ok (.getfield 19, 3) := by decide +kernel
theorem de_Tu_seed_18 : decode prog_1_method_17_code 18 = .ok (.iload_n 1, 1) := by decide +kernel
theorem de_Tu_seed_19 : decode prog_1_method_17_code 19 = .ok (.putfield 96, 3) := by decide +kernel
theorem de_Tu_seed_22 : decode prog_1_method_17_code 22 = .ok (.iload_n 2, 1) := by decide +kernel
theorem de_Tu_seed_23 : decode prog_1_method_17_code 23 = .ok (.ireturn, 1) := by decide +kernel
set_option maxHeartbeats 4000000 in
set_option maxRecDepth 10000 in
theorem co_Tu_seed {a b : Nat} {rc : Int} {f : Int → Int} {x B : Int} {w : ab_W} (hI : sg_ok B f) (t0 : tu_at a b rc w) (hR : ri_at_j a f x w) (y1 : Int) (hy1 : ab_in y1) : ab_Mt g_G g_rs mt_Tu_seed 0 0 0 [ab_R 0, ab_I y1] w (fun r w2 => w2.length = w.length ∧ (0 ≤ y1 ∧ r = some (ab_I x) ∧ ri_at_j a f y1 w2 ∨ y1 < 0 ∧ r = some (ab_I (-1)) ∧ w2 = w)) := by
  have ht0 := t0
  have hR0 := hR
  have hI0 := hI
  unfold tu_at at t0
  obtain ⟨sl, fs, vo, li, ra, wo, dh, da, hzz⟩ := hR
  obtain ⟨ds, dn, vw, q0, q1, q2, q3, q4, hzz⟩ := hzz
  obtain ⟨q5, q6, q7, q8, q9, q10, q11, q12, hzz⟩ := hzz
  obtain ⟨e1, e2, e3, e4, e5, e6, e7, e8, e9⟩ := hzz
  obtain ⟨i0, i1, i2, i3, i4, i5, i6, i7, hzz⟩ := sg_all hI
  obtain ⟨i8, i9, i10, i11, i12, i13, i14, i15, hzz⟩ := hzz
  obtain ⟨i16, i17⟩ := hzz
  refine ab_Mt.of rfl (Nat.le_of_ble_eq_true rfl) ?_
  show ab_Ev g_G g_rs mt_Tu_seed _ _ _ 0 [some (ab_R 0), some (ab_I y1), none] [] _ _
  refine ev_iload_n de_Tu_seed_0 rfl rfl ?_
  refine ev_if_ge (tgt := 6) de_Tu_seed_1 (by decide) (by first | omega | assumption) (fun h1 => ?_) (fun h1 => ?_)
  · skip
    refine ev_aload_n de_Tu_seed_6 rfl rfl ?_
    refine ev_getfield de_Tu_seed_7 t0 fl_Tu_19 rfl ?_
    refine ev_getfield de_Tu_seed_10 q0 fl_Tu_96 rfl ?_
    refine ev_istore_n (l' := [_, _, _]) de_Tu_seed_13 rfl (Nat.le_of_ble_eq_true rfl) rfl ?_
    refine ev_aload_n de_Tu_seed_14 rfl rfl ?_
    refine ev_getfield de_Tu_seed_15 t0 fl_Tu_19 rfl ?_
    refine ev_iload_n de_Tu_seed_18 rfl rfl ?_
    refine ev_putfield de_Tu_seed_19 q0 (fp_Tu_96 _) (Nat.le_of_ble_eq_true rfl) trivial ?_
    refine ev_gen (P := fun w1 => ri_at_j a f y1 w1 ∧ w1.length = w.length) ⟨rj_x hR0 y1, List.length_set ..⟩ (fun w1 hm1 => ?_)
    refine ev_iload_n de_Tu_seed_22 rfl rfl ?_
    exact ev_ireturn de_Tu_seed_23 rfl ⟨hm1.2, Or.inl ⟨by omega, rfl, hm1.1⟩⟩
  · skip
    refine ev_iconst de_Tu_seed_4 ?_
    exact ev_ireturn de_Tu_seed_5 rfl ⟨rfl, Or.inr ⟨by omega, rfl, rfl⟩⟩
