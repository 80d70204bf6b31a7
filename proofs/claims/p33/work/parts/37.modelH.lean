section MO
variable {tape : Int → Int} {taped : Int} {rules : Int} {sign : Int → Int} {leng : Int → Int} {clause : Int → Int} {clauses : Int → Int} {read : Int → Int} {next : Int} {wrong : Int} {number : Int} {text : Int} {made : Int} {deep : Int} {lines : Int} {opn : Int → Int} {opened : Int} {stack : Int → Int64} {top : Int} {word : Int → Int64} {said : Int → Int} {xx : Int} {was : Int → Int} {undone : Int} {kept : Int → Int} {sumOf : Int → Int} {faced : Int → Int} {slotAt : Int → Int} {dayAt : Int → Int} {row : Int → Int} {bestRow : Int → Int} {tMany : Int} {tMost : Int} {drawX : Int64} {images : Int → Int} {imageX : Int → Int} {isMade : Int → Int}
/-! the text of a RING: what a CLAUSE comes to -/
def rs_num (tape : Int → Int) (taped lo hi nx : Int) : Except Int (Int × Int) := if tk_dg tape taped (tk_sk tape taped nx) = true then (if tk_nI tape taped (tk_sk tape taped nx) lo hi = 1 then .ok (tk_de tape taped (tk_sk tape taped nx), tk_num tape (tk_sk tape taped nx) (tk_de tape taped (tk_sk tape taped nx) - tk_sk tape taped nx).toNat) else .error (1 + 8 * tk_sk tape taped nx + 1)) else .error (1 + 8 * tk_sk tape taped nx + 0)
def rd_ok (rd : Int → Int) : Prop := (∀ k, 0 ≤ k → k < 150 → sg_lo k ≤ rd k ∧ rd k ≤ sg_hi k) ∧ ∀ k, (5 ≤ k ∧ k < 10) ∨ (34 ≤ k ∧ k < 46) → rd k = 0
theorem rd_up {rd : Int → Int} {k v : Int} (h : rd_ok rd) (hv : sg_lo k ≤ v ∧ v ≤ sg_hi k) (hz : ((5 ≤ k ∧ k < 10) ∨ (34 ≤ k ∧ k < 46)) → v = 0) : rd_ok (ab_up rd k v) := by
  refine ⟨fun j a b => ?_, fun j hj => ?_⟩
  · by_cases e : j = k
    · subst e; rw [ab_upe]; exact hv
    · rw [ab_upn _ _ e]; exact h.1 j a b
  · by_cases e : j = k
    · subst e; rw [ab_upe]; exact hz hj
    · rw [ab_upn _ _ e]; exact h.2 j hj
/-- behind a piece of a RING's text -/
def rq (tape : Int → Int) (taped : Int) (rules : Int) (sign : Int → Int) (leng : Int → Int) (clause : Int → Int) (clauses : Int → Int) (text : Int) (made : Int) (deep : Int) (lines : Int) (opn : Int → Int) (opened : Int) (stack : Int → Int64) (top : Int) (word : Int → Int64) (said : Int → Int) (xx : Int) (was : Int → Int) (undone : Int) (kept : Int → Int) (sumOf : Int → Int) (faced : Int → Int) (slotAt : Int → Int) (dayAt : Int → Int) (row : Int → Int) (bestRow : Int → Int) (tMany : Int) (tMost : Int) (drawX : Int64) (images : Int → Int) (imageX : Int → Int) (isMade : Int → Int) (X : Except Int (Int × (Int → Int))) : Option ab_V → ab_W → Prop := fun r w2 => ∃ (nx nu wr : Int) (rd : Int → Int), w2 = (mo_W tape taped rules sign leng clause clauses (rd) (nx) (wr) (nu) text made deep lines opn opened stack top word said xx was undone kept sumOf faced slotAt dayAt row bestRow tMany tMost drawX images imageX isMade) ∧ (0 ≤ nx ∧ nx ≤ taped) ∧ rd_ok rd ∧ ab_in nu ∧ ((r = some (ab_I 1) ∧ wr = 0 ∧ X = .ok (nx, rd)) ∨ (r = some (ab_I 0) ∧ (1 ≤ wr ∧ wr ≤ 10000) ∧ X = .error wr))
def rn (tape : Int → Int) (taped : Int) (rules : Int) (sign : Int → Int) (leng : Int → Int) (clause : Int → Int) (clauses : Int → Int) (text : Int) (made : Int) (deep : Int) (lines : Int) (opn : Int → Int) (opened : Int) (stack : Int → Int64) (top : Int) (word : Int → Int64) (said : Int → Int) (xx : Int) (was : Int → Int) (undone : Int) (kept : Int → Int) (sumOf : Int → Int) (faced : Int → Int) (slotAt : Int → Int) (dayAt : Int → Int) (row : Int → Int) (bestRow : Int → Int) (tMany : Int) (tMost : Int) (drawX : Int64) (images : Int → Int) (imageX : Int → Int) (isMade : Int → Int) (rd : Int → Int) (lo hi : Int) (X : Except Int (Int × Int)) : Option ab_V → ab_W → Prop := fun r w2 => ∃ (nx nu wr : Int), w2 = (mo_W tape taped rules sign leng clause clauses (rd) (nx) (wr) (nu) text made deep lines opn opened stack top word said xx was undone kept sumOf faced slotAt dayAt row bestRow tMany tMost drawX images imageX isMade) ∧ (0 ≤ nx ∧ nx ≤ taped) ∧ ab_in nu ∧ ((r = some (ab_I 1) ∧ wr = 0 ∧ X = .ok (nx, nu) ∧ lo ≤ nu ∧ nu ≤ hi) ∨ (r = some (ab_I 0) ∧ (1 ≤ wr ∧ wr ≤ 10000) ∧ X = .error wr))
theorem cq_Mo_numberHere (ht : tp_ok tape taped) (hn0 : 0 ≤ next) (hn1 : next ≤ taped) (lo hi : Int) (hlo : ab_in lo) (hhi : ab_in hi) (hw : wrong = 0) (hnu : ab_in number) : ab_Mt g_G g_rs mt_Mo_numberHere 1 0 0 [ab_R 0, ab_I lo, ab_I hi] (mo_W tape taped rules sign leng clause clauses read next wrong number text made deep lines opn opened stack top word said xx was undone kept sumOf faced slotAt dayAt row bestRow tMany tMost drawX images imageX isMade) (rn tape taped rules sign leng clause clauses text made deep lines opn opened stack top word said xx was undone kept sumOf faced slotAt dayAt row bestRow tMany tMost drawX images imageX isMade read (lo) (hi) (rs_num tape taped (lo) (hi) next)) := by
  subst hw
  refine ab_Mt.conseq (fun r w2 h => ?_) (co_Mo_numberHere ht hn0 hn1 lo hi hlo hhi (by decide))
  obtain ⟨rfl, rfl⟩ := h
  have hb := tk_sk_b tape hn1
  have hd := tk_de_b tape (taped := taped) hb.2
  obtain ⟨p0, p1, pb⟩ := ht
  unfold rs_num
  cases hx : tk_dg tape taped (tk_sk tape taped next) with
  | false =>
    have hl2 : ¬ tk_dg tape taped (tk_sk tape taped next) = true := by rw [hx]; decide
    have eI : tk_nI tape taped (tk_sk tape taped next) lo hi = 0 := by unfold tk_nI; rw [if_neg (fun z => hl2 z.1)]
    have en : tk_nnum tape taped (tk_sk tape taped next) number = number := by unfold tk_nnum; rw [if_neg hl2]
    have ew : tk_nw tape taped (tk_sk tape taped next) lo hi 0 = 1 + 8 * (tk_sk tape taped next) + 0 := by unfold tk_nw; rw [if_neg (by omega), if_neg hl2]; rfl
    refine ⟨tk_sk tape taped next, number, 1 + 8 * (tk_sk tape taped next) + 0, by rw [en, ew]; rfl, by omega, hnu, Or.inr ⟨by rw [eI], by omega, rfl⟩⟩
  | true =>
    have hnb := tk_num_b (taped := taped) (tk_de tape taped (tk_sk tape taped next) - (tk_sk tape taped next)).toNat (tk_dgs (tape := tape) hb.2 _ (by omega))
    have en : tk_nnum tape taped (tk_sk tape taped next) number = tk_num tape (tk_sk tape taped next) (tk_de tape taped (tk_sk tape taped next) - (tk_sk tape taped next)).toNat := by unfold tk_nnum; rw [if_pos hx]
    by_cases eI : tk_nI tape taped (tk_sk tape taped next) lo hi = 1
    · have ew : tk_nw tape taped (tk_sk tape taped next) lo hi 0 = 0 := by unfold tk_nw; rw [if_pos eI]
      have eq := eI
      unfold tk_nI at eq
      have hc := Decidable.byContradiction (fun z => by rw [if_neg z] at eq; exact absurd eq (by decide))
      rw [if_pos eI]
      refine ⟨tk_de tape taped (tk_sk tape taped next), _, 0, by rw [en, ew]; rfl, by omega, by omega, Or.inl ⟨by rw [eI], rfl, rfl, hc.2.2.1, hc.2.2.2⟩⟩
    · have ew : tk_nw tape taped (tk_sk tape taped next) lo hi 0 = 1 + 8 * (tk_sk tape taped next) + 1 := by unfold tk_nw; rw [if_neg eI, if_pos hx]; rfl
      have e0 : tk_nI tape taped (tk_sk tape taped next) lo hi = 0 := by unfold tk_nI at eI ⊢; split at eI <;> first | exact absurd rfl eI | rw [if_neg ‹_›]
      rw [if_neg eI]
      refine ⟨tk_de tape taped (tk_sk tape taped next), _, 1 + 8 * (tk_sk tape taped next) + 1, by rw [en, ew]; rfl, by omega, by omega, Or.inr ⟨by rw [e0], by omega, rfl⟩⟩
def rs_gate (tape : Int → Int) (taped nx : Int) (rd : Int → Int) : Except Int (Int × (Int → Int)) := match rs_num tape taped 0 11 (tk_le tape taped nx) with
  | .error e => .error e
  | .ok (n, v) => .ok (n, ab_up rd 3 (ab_ior (rd 3) (1 * 2 ^ v.toNat)))
theorem rd_gate {rd : Int → Int} {v : Int} (h : rd_ok rd) (h0 : 0 ≤ v) (h1 : v ≤ 11) : rd_ok (ab_up rd 3 (ab_ior (rd 3) (1 * 2 ^ v.toNat))) := by
  have q : 0 ≤ rd 3 ∧ rd 3 ≤ 4095 := h.1 3 (by decide) (by decide)
  obtain ⟨s, hs⟩ := Int.eq_ofNat_of_zero_le q.1
  have e := ab_ior_pow (s := s) (j := v.toNat) (by omega) (by omega)
  rw [← hs] at e
  have hlt : s ||| 2 ^ v.toNat < 2 ^ 12 := Nat.or_lt_two_pow (by omega) (Nat.pow_lt_pow_right (by decide) (by omega))
  refine rd_up h ?_ (fun z => by omega)
  rw [e]
  exact ⟨show (0 : Int) ≤ _ by omega, show _ ≤ (4095 : Int) by omega⟩
theorem de_Mo_isGateHere_0 : decode prog_14_method_36_code 0 = .ok (.aload_n 0, 1) := by decide +kernel
theorem de_Mo_isGateHere_1 : decode prog_14_method_36_code 1 = .ok (.invokevirtual 102, 3) := by decide +kernel
theorem de_Mo_isGateHere_4 : decode prog_14_method_36_code 4 = .ok (.aload_n 0, 1) := by decide +kernel
theorem de_Mo_isGateHere_5 : decode prog_14_method_36_code 5 = .ok (.iconst 0, 1) := by decide +kernel
theorem de_Mo_isGateHere_6 : decode prog_14_method_36_code 6 = .ok (.bipush 11, 2) := by decide +kernel
theorem de_Mo_isGateHere_8 : decode prog_14_method_36_code 8 = .ok (.invokevirtual 164, 3) := by decide +kernel
theorem de_Mo_isGateHere_11 : decode prog_14_method_36_code 11 = .ok (.ifCond .ne 5, 3) := by decide +kernel
theorem de_Mo_isGateHere_14 : decode prog_14_method_36_code 14 = .ok (.iconst 0, 1) := by decide +kernel
theorem de_Mo_isGateHere_15 : decode prog_14_method_36_code 15 = .ok (.ireturn, 1) := by decide +kernel
theorem de_Mo_isGateHere_16 : decode prog_14_method_36_code 16 = .ok (.aload_n 0, 1) := by decide +kernel
theorem de_Mo_isGateHere_17 : decode prog_14_method_36_code 17 = .ok (.getfield 26, 3) := by decide +kernel
theorem de_Mo_isGateHere_20 : decode prog_14_method_36_code 20 = .ok (.iconst 3, 1) := by decide +kernel
theorem de_Mo_isGateHere_21 : decode prog_14_method_36_code 21 = .ok (.dup2, 1) := by decide +kernel
theorem de_Mo_isGateHere_22 : decode prog_14_method_36_code 22 = .ok (.iaload, 1) := by decide +kernel
theorem de_Mo_isGateHere_23 : decode prog_14_method_36_code 23 = .ok (.iconst 1, 1) := by decide +kernel
theorem de_Mo_isGateHere_24 : decode prog_14_method_36_code 24 = .ok (.aload_n 0, 1) := by decide +kernel
theorem de_Mo_isGateHere_25 : decode prog_14_method_36_code 25 = .ok (.getfield 112, 3) := by decide +kernel
theorem de_Mo_isGateHere_28 : decode prog_14_method_36_code 28 = .ok (.ishl, 1) := by decide +kernel
theorem de_Mo_isGateHere_29 : decode prog_14_method_36_code 29 = .ok (.ior, 1) := by decide +kernel
theorem de_Mo_isGateHere_30 : decode prog_14_method_36_code 30 = .ok (.iastore, 1) := by decide +kernel
theorem de_Mo_isGateHere_31 : decode prog_14_method_36_code 31 = .ok (.iconst 1, 1) := by decide +kernel
theorem de_Mo_isGateHere_32 : decode prog_14_method_36_code 32 = .ok (.ireturn, 1) := by decide +kernel
set_option maxRecDepth 10000 in
theorem co_Mo_isGateHere (ht : tp_ok tape taped) (hn0 : 0 ≤ next) (hn1 : next ≤ taped) (hrd : rd_ok read) (hw : wrong = 0) (hnu : ab_in number) : ab_Mt g_G g_rs mt_Mo_isGateHere 2 0 0 [ab_R 0] (mo_W tape taped rules sign leng clause clauses read next wrong number text made deep lines opn opened stack top word said xx was undone kept sumOf faced slotAt dayAt row bestRow tMany tMost drawX images imageX isMade) (rq tape taped rules sign leng clause clauses text made deep lines opn opened stack top word said xx was undone kept sumOf faced slotAt dayAt row bestRow tMany tMost drawX images imageX isMade (rs_gate tape taped next read)) := by
  refine ab_Mt.of rfl (Nat.le_of_ble_eq_true rfl) ?_
  show ab_Ev g_G g_rs mt_Mo_isGateHere _ _ _ 0 [some (ab_R 0)] [] _ _
  have hb := tk_le_b tape hn1
  refine ev_aload_n de_Mo_isGateHere_0 rfl rfl ?_
  refine ev_vn (ci := 11) de_Mo_isGateHere_1 (co_Mo_passWord ht hn0 hn1) kb_Mo_102 ⟨im_Mo_passWord, se_Mo_passWord⟩ rfl rfl rfl (Nat.le_of_ble_eq_true rfl) (by decide) rfl ?_
  refine ev_aload_n de_Mo_isGateHere_4 rfl rfl ?_
  refine ev_iconst de_Mo_isGateHere_5 ?_
  refine ev_bipush de_Mo_isGateHere_6 rfl ?_
  refine ev_virtual (ci := 11) (mc := 0) (ms := 0) (bc := 0) (bs := 0) de_Mo_isGateHere_8 (cq_Mo_numberHere ht (by omega) (by omega) 0 11 (by decide) (by decide) hw hnu) kb_Mo_164 ⟨im_Mo_numberHere, se_Mo_numberHere⟩ rfl rfl rfl (Nat.le_of_ble_eq_true rfl) (by decide) (Or.inl (fun r w1 h => by obtain ⟨nx, nu, wr, e, -⟩ := h; rw [e]; first | exact mo_Wn.trans mo_Wn.symm | rfl)) (fun r1 w1 hm1 => ?_)
  obtain ⟨nx, nu, wr, rfl, hnx, hnu2, hc⟩ := hm1; rcases hc with ⟨rfl, rfl, hX, hlo, hhi⟩ | ⟨rfl, hwr, hX⟩
  · skip
    have q3 : 0 ≤ read 3 ∧ read 3 ≤ 4095 := hrd.1 3 (by decide) (by decide)
    refine ev_if_ne_t (tgt := 16) de_Mo_isGateHere_11 (by decide) (by decide) (by decide) ?_
    refine ev_aload_n de_Mo_isGateHere_16 rfl rfl ?_
    refine ev_getfield de_Mo_isGateHere_17 rfl fl_Mo_26 rfl ?_
    refine ev_iconst de_Mo_isGateHere_20 ?_
    refine ev_dup2 de_Mo_isGateHere_21 rfl rfl ?_
    refine ev_iaload de_Mo_isGateHere_22 rfl (by omega) (by omega) (by omega) ?_
    refine ev_iconst de_Mo_isGateHere_23 ?_
    refine ev_aload_n de_Mo_isGateHere_24 rfl rfl ?_
    refine ev_getfield de_Mo_isGateHere_25 rfl fl_Mo_112 rfl ?_
    refine ev_ishl de_Mo_isGateHere_28 (by omega) (by omega) ?_
    refine ev_ior de_Mo_isGateHere_29 ?_
    refine ev_iastore de_Mo_isGateHere_30 rfl (by omega) (by omega) (by omega) ?_
    refine ev_world (w' := mo_W _ _ _ _ _ _ _ _ _ _ _ _ _ _ _ _ _ _ _ _ _ _ _ _ _ _ _ _ _ _ _ _ _ _ _ _ _) rfl ?_
    refine ev_iconst de_Mo_isGateHere_31 ?_
    exact ev_zreturn de_Mo_isGateHere_32 rfl (by decide) ⟨_, _, _, _, rfl, hnx, rd_gate hrd hlo hhi, hnu2, Or.inl ⟨rfl, rfl, by unfold rs_gate; rw [hX]⟩⟩
  · skip
    refine ev_if_ne_f (tgt := 16) de_Mo_isGateHere_11 (by decide) (by decide) (by decide) ?_
    refine ev_iconst de_Mo_isGateHere_14 ?_
    exact ev_zreturn de_Mo_isGateHere_15 rfl (by decide) ⟨_, _, _, _, rfl, hnx, hrd, hnu2, Or.inr ⟨rfl, hwr, by unfold rs_gate; rw [hX]⟩⟩
def rs_like (tape : Int → Int) (taped nx by_ : Int) (rd : Int → Int) : Except Int (Int × (Int → Int)) := match rs_num tape taped 0 (rd 1 - 1) (tk_le tape taped nx) with
  | .error e => .error e
  | .ok (n1, v1) => match rs_num tape taped 0 4 n1 with
    | .error e => .error e
    | .ok (n2, v2) => match rs_num tape taped 1 9 n2 with
      | .error e => .error e
      | .ok (n3, v3) => .ok (n3, ab_up rd (60 + 5 * v1 + v2) (by_ * v3))
theorem rd_like {rd : Int → Int} {a b : Int} (h : rd_ok rd) (ha : 60 ≤ a) (ha1 : a < 95) (h0 : -9 ≤ b) (h1 : b ≤ 9) : rd_ok (ab_up rd a b) := by
  refine rd_up h ?_ (fun z => by omega)
  unfold sg_lo sg_hi
  rw [if_neg (by omega), if_pos (by omega), if_neg (by omega), if_neg (by omega), if_neg (by omega), if_neg (by omega), if_pos (by omega)]
  exact ⟨h0, h1⟩
theorem de_Mo_isLikeHere_0 : decode prog_14_method_35_code 0 = .ok (.aload_n 0, 1) := by decide +kernel
theorem de_Mo_isLikeHere_1 : decode prog_14_method_35_code 1 = .ok (.invokevirtual 102, 3) := by decide +kernel
theorem de_Mo_isLikeHere_4 : decode prog_14_method_35_code 4 = .ok (.aload_n 0, 1) := by decide +kernel
theorem de_Mo_isLikeHere_5 : decode prog_14_method_35_code 5 = .ok (.iconst 0, 1) := by decide +kernel
theorem de_Mo_isLikeHere_6 : decode prog_14_method_35_code 6 = .ok (.aload_n 0, 1) := by decide +kernel
theorem de_Mo_isLikeHere_7 : decode prog_14_method_35_code 7 = .ok (.getfield 26, 3) := by decide +kernel
theorem de_Mo_isLikeHere_10 : decode prog_14_method_35_code 10 = .ok (.iconst 1, 1) := by decide +kernel
theorem de_Mo_isLikeHere_11 : decode prog_14_method_35_code 11 = .ok (.iaload, 1) := by decide +kernel
theorem de_Mo_isLikeHere_12 : decode prog_14_method_35_code 12 = .ok (.iconst 1, 1) := by decide +kernel
theorem de_Mo_isLikeHere_13 : decode prog_14_method_35_code 13 = .ok (.isub, 1) := by decide +kernel
theorem de_Mo_isLikeHere_14 : decode prog_14_method_35_code 14 = .ok (.invokevirtual 164, 3) := by decide +kernel
theorem de_Mo_isLikeHere_17 : decode prog_14_method_35_code 17 = .ok (.ifCond .ne 5, 3) := by decide +kernel
theorem de_Mo_isLikeHere_20 : decode prog_14_method_35_code 20 = .ok (.iconst 0, 1) := by decide +kernel
theorem de_Mo_isLikeHere_21 : decode prog_14_method_35_code 21 = .ok (.ireturn, 1) := by decide +kernel
theorem de_Mo_isLikeHere_22 : decode prog_14_method_35_code 22 = .ok (.bipush 60, 2) := by decide +kernel
theorem de_Mo_isLikeHere_24 : decode prog_14_method_35_code 24 = .ok (.iconst 5, 1) := by decide +kernel
theorem de_Mo_isLikeHere_25 : decode prog_14_method_35_code 25 = .ok (.aload_n 0, 1) := by decide +kernel
theorem de_Mo_isLikeHere_26 : decode prog_14_method_35_code 26 = .ok (.getfield 112, 3) := by decide +kernel
theorem de_Mo_isLikeHere_29 : decode prog_14_method_35_code 29 = .ok (.imul, 1) := by decide +kernel
theorem de_Mo_isLikeHere_30 : decode prog_14_method_35_code 30 = .ok (.iadd, 1) := by decide +kernel
theorem de_Mo_isLikeHere_31 : decode prog_14_method_35_code 31 = .ok (.istore_n 2, 1) := by decide +kernel
theorem de_Mo_isLikeHere_32 : decode prog_14_method_35_code 32 = .ok (.aload_n 0, 1) := by decide +kernel
theorem de_Mo_isLikeHere_33 : decode prog_14_method_35_code 33 = .ok (.iconst 0, 1) := by decide +kernel
theorem de_Mo_isLikeHere_34 : decode prog_14_method_35_code 34 = .ok (.iconst 4, 1) := by decide +kernel
theorem de_Mo_isLikeHere_35 : decode prog_14_method_35_code 35 = .ok (.invokevirtual 164, 3) := by decide +kernel
theorem de_Mo_isLikeHere_38 : decode prog_14_method_35_code 38 = .ok (.ifCond .ne 5, 3) := by decide +kernel
theorem de_Mo_isLikeHere_41 : decode prog_14_method_35_code 41 = .ok (.iconst 0, 1) := by decide +kernel
theorem de_Mo_isLikeHere_42 : decode prog_14_method_35_code 42 = .ok (.ireturn, 1) := by decide +kernel
theorem de_Mo_isLikeHere_43 : decode prog_14_method_35_code 43 = .ok (.iload_n 2, 1) := by decide +kernel
theorem de_Mo_isLikeHere_44 : decode prog_14_method_35_code 44 = .ok (.aload_n 0, 1) := by decide +kernel
theorem de_Mo_isLikeHere_45 : decode prog_14_method_35_code 45 = .ok (.getfield 112, 3) := by decide +kernel
theorem de_Mo_isLikeHere_48 : decode prog_14_method_35_code 48 = .ok (.iadd, 1) := by decide +kernel
theorem de_Mo_isLikeHere_49 : decode prog_14_method_35_code 49 = .ok (.istore_n 2, 1) := by decide +kernel
theorem de_Mo_isLikeHere_50 : decode prog_14_method_35_code 50 = .ok (.aload_n 0, 1) := by decide +kernel
theorem de_Mo_isLikeHere_51 : decode prog_14_method_35_code 51 = .ok (.iconst 1, 1) := by decide +kernel
theorem de_Mo_isLikeHere_52 : decode prog_14_method_35_code 52 = .ok (.bipush 9, 2) := by decide +kernel
theorem de_Mo_isLikeHere_54 : decode prog_14_method_35_code 54 = .ok (.invokevirtual 164, 3) := by decide +kernel
theorem de_Mo_isLikeHere_57 : decode prog_14_method_35_code 57 = .ok (.ifCond .ne 5, 3) := by decide +kernel
theorem de_Mo_isLikeHere_60 : decode prog_14_method_35_code 60 = .ok (.iconst 0, 1) := by decide +kernel
theorem de_Mo_isLikeHere_61 : decode prog_14_method_35_code 61 = .ok (.ireturn, 1) := by decide +kernel
theorem de_Mo_isLikeHere_62 : decode prog_14_method_35_code 62 = .ok (.aload_n 0, 1) := by decide +kernel
theorem de_Mo_isLikeHere_63 : decode prog_14_method_35_code 63 = .ok (.getfield 26, 3) := by decide +kernel
theorem de_Mo_isLikeHere_66 : decode prog_14_method_35_code 66 = .ok (.iload_n 2, 1) := by decide +kernel
theorem de_Mo_isLikeHere_67 : decode prog_14_method_35_code 67 = .ok (.iload_n 1, 1) := by decide +kernel
theorem de_Mo_isLikeHere_68 : decode prog_14_method_35_code 68 = .ok (.aload_n 0, 1) := by decide +kernel
theorem de_Mo_isLikeHere_69 : decode prog_14_method_35_code 69 = .ok (.getfield 112, 3) := by decide +kernel
theorem de_Mo_isLikeHere_72 : decode prog_14_method_35_code 72 = .ok (.imul, 1) := by decide +kernel
theorem de_Mo_isLikeHere_73 : decode prog_14_method_35_code 73 = .ok (.iastore, 1) := by decide +kernel
theorem de_Mo_isLikeHere_74 : decode prog_14_method_35_code 74 = .ok (.iconst 1, 1) := by decide +kernel
theorem de_Mo_isLikeHere_75 : decode prog_14_method_35_code 75 = .ok (.ireturn, 1) := by decide +kernel
set_option maxRecDepth 10000 in
theorem co_Mo_isLikeHere (ht : tp_ok tape taped) (hn0 : 0 ≤ next) (hn1 : next ≤ taped) (hrd : rd_ok read) (hw : wrong = 0) (hnu : ab_in number) (b0 : Int) (hb0 : b0 = 1 ∨ b0 = -1) : ab_Mt g_G g_rs mt_Mo_isLikeHere 2 0 0 [ab_R 0, ab_I b0] (mo_W tape taped rules sign leng clause clauses read next wrong number text made deep lines opn opened stack top word said xx was undone kept sumOf faced slotAt dayAt row bestRow tMany tMost drawX images imageX isMade) (rq tape taped rules sign leng clause clauses text made deep lines opn opened stack top word said xx was undone kept sumOf faced slotAt dayAt row bestRow tMany tMost drawX images imageX isMade (rs_like tape taped next b0 read)) := by
  refine ab_Mt.of rfl (Nat.le_of_ble_eq_true rfl) ?_
  show ab_Ev g_G g_rs mt_Mo_isLikeHere _ _ _ 0 [some (ab_R 0), some (ab_I b0), none] [] _ _
  have hb := tk_le_b tape hn1
  have q1 : 0 ≤ read 1 ∧ read 1 ≤ 7 := hrd.1 1 (by decide) (by decide)
  refine ev_aload_n de_Mo_isLikeHere_0 rfl rfl ?_
  refine ev_vn (ci := 11) de_Mo_isLikeHere_1 (co_Mo_passWord ht hn0 hn1) kb_Mo_102 ⟨im_Mo_passWord, se_Mo_passWord⟩ rfl rfl rfl (Nat.le_of_ble_eq_true rfl) (by decide) rfl ?_
  refine ev_aload_n de_Mo_isLikeHere_4 rfl rfl ?_
  refine ev_iconst de_Mo_isLikeHere_5 ?_
  refine ev_aload_n de_Mo_isLikeHere_6 rfl rfl ?_
  refine ev_getfield de_Mo_isLikeHere_7 rfl fl_Mo_26 rfl ?_
  refine ev_iconst de_Mo_isLikeHere_10 ?_
  refine ev_iaload de_Mo_isLikeHere_11 rfl (by omega) (by omega) (by omega) ?_
  refine ev_iconst de_Mo_isLikeHere_12 ?_
  refine ev_isub de_Mo_isLikeHere_13 ?_
  refine ev_virtual (ci := 11) (mc := 0) (ms := 0) (bc := 0) (bs := 0) de_Mo_isLikeHere_14 (cq_Mo_numberHere ht (by omega) (by omega) 0 (read 1 - 1) (by decide) (by omega) hw hnu) kb_Mo_164 ⟨im_Mo_numberHere, se_Mo_numberHere⟩ rfl rfl rfl (Nat.le_of_ble_eq_true rfl) (by decide) (Or.inl (fun r w1 h => by obtain ⟨nx, nu, wr, e, -⟩ := h; rw [e]; first | exact mo_Wn.trans mo_Wn.symm | rfl)) (fun r1 w1 hm1 => ?_)
  obtain ⟨nx1, nu1, wr1, rfl, hnx1, hnu1, hc1⟩ := hm1; rcases hc1 with ⟨rfl, rfl, hX1, hlo1, hhi1⟩ | ⟨rfl, hwr1, hX1⟩
  · skip
    refine ev_if_ne_t (tgt := 22) de_Mo_isLikeHere_17 (by decide) (by decide) (by decide) ?_
    refine ev_bipush de_Mo_isLikeHere_22 rfl ?_
    refine ev_iconst de_Mo_isLikeHere_24 ?_
    refine ev_aload_n de_Mo_isLikeHere_25 rfl rfl ?_
    refine ev_getfield de_Mo_isLikeHere_26 rfl fl_Mo_112 rfl ?_
    refine ev_imul de_Mo_isLikeHere_29 ?_
    refine ev_iadd de_Mo_isLikeHere_30 ?_
    refine ev_istore_n (l' := [_, _, _]) de_Mo_isLikeHere_31 rfl (Nat.le_of_ble_eq_true rfl) rfl ?_
    refine ev_aload_n de_Mo_isLikeHere_32 rfl rfl ?_
    refine ev_iconst de_Mo_isLikeHere_33 ?_
    refine ev_iconst de_Mo_isLikeHere_34 ?_
    refine ev_virtual (ci := 11) (mc := 0) (ms := 0) (bc := 0) (bs := 0) de_Mo_isLikeHere_35 (cq_Mo_numberHere ht hnx1.1 hnx1.2 0 4 (by decide) (by decide) rfl hnu1) kb_Mo_164 ⟨im_Mo_numberHere, se_Mo_numberHere⟩ rfl rfl rfl (Nat.le_of_ble_eq_true rfl) (by decide) (Or.inl (fun r w1 h => by obtain ⟨nx, nu, wr, e, -⟩ := h; rw [e]; first | exact mo_Wn.trans mo_Wn.symm | rfl)) (fun r1 w1 hm1 => ?_)
    obtain ⟨nx2, nu2, wr2, rfl, hnx2, hnu2, hc2⟩ := hm1; rcases hc2 with ⟨rfl, rfl, hX2, hlo2, hhi2⟩ | ⟨rfl, hwr2, hX2⟩
    · skip
      refine ev_if_ne_t (tgt := 43) de_Mo_isLikeHere_38 (by decide) (by decide) (by decide) ?_
      refine ev_iload_n de_Mo_isLikeHere_43 rfl rfl ?_
      refine ev_aload_n de_Mo_isLikeHere_44 rfl rfl ?_
      refine ev_getfield de_Mo_isLikeHere_45 rfl fl_Mo_112 rfl ?_
      refine ev_iadd de_Mo_isLikeHere_48 ?_
      refine ev_istore_n (l' := [_, _, _]) de_Mo_isLikeHere_49 rfl (Nat.le_of_ble_eq_true rfl) rfl ?_
      refine ev_aload_n de_Mo_isLikeHere_50 rfl rfl ?_
      refine ev_iconst de_Mo_isLikeHere_51 ?_
      refine ev_bipush de_Mo_isLikeHere_52 rfl ?_
      refine ev_virtual (ci := 11) (mc := 0) (ms := 0) (bc := 0) (bs := 0) de_Mo_isLikeHere_54 (cq_Mo_numberHere ht hnx2.1 hnx2.2 1 9 (by decide) (by decide) rfl hnu2) kb_Mo_164 ⟨im_Mo_numberHere, se_Mo_numberHere⟩ rfl rfl rfl (Nat.le_of_ble_eq_true rfl) (by decide) (Or.inl (fun r w1 h => by obtain ⟨nx, nu, wr, e, -⟩ := h; rw [e]; first | exact mo_Wn.trans mo_Wn.symm | rfl)) (fun r1 w1 hm1 => ?_)
      obtain ⟨nx3, nu3, wr3, rfl, hnx3, hnu3, hc3⟩ := hm1; rcases hc3 with ⟨rfl, rfl, hX3, hlo3, hhi3⟩ | ⟨rfl, hwr3, hX3⟩
      · skip
        refine ev_if_ne_t (tgt := 62) de_Mo_isLikeHere_57 (by decide) (by decide) (by decide) ?_
        refine ev_aload_n de_Mo_isLikeHere_62 rfl rfl ?_
        refine ev_getfield de_Mo_isLikeHere_63 rfl fl_Mo_26 rfl ?_
        refine ev_iload_n de_Mo_isLikeHere_66 rfl rfl ?_
        refine ev_iload_n de_Mo_isLikeHere_67 rfl rfl ?_
        refine ev_aload_n de_Mo_isLikeHere_68 rfl rfl ?_
        refine ev_getfield de_Mo_isLikeHere_69 rfl fl_Mo_112 rfl ?_
        refine ev_imul de_Mo_isLikeHere_72 ?_
        refine ev_iastore de_Mo_isLikeHere_73 rfl (by omega) (by omega) (by omega) ?_
        refine ev_world (w' := mo_W _ _ _ _ _ _ _ _ _ _ _ _ _ _ _ _ _ _ _ _ _ _ _ _ _ _ _ _ _ _ _ _ _ _ _ _ _) rfl ?_
        refine ev_iconst de_Mo_isLikeHere_74 ?_
        exact ev_zreturn de_Mo_isLikeHere_75 rfl (by decide) ⟨_, _, _, _, rfl, hnx3, rd_like hrd (by omega) (by omega) (by rcases hb0 with rfl | rfl <;> omega) (by rcases hb0 with rfl | rfl <;> omega), hnu3, Or.inl ⟨rfl, rfl, by unfold rs_like; simp only [hX1, hX2, hX3]⟩⟩
      · skip
        refine ev_if_ne_f (tgt := 62) de_Mo_isLikeHere_57 (by decide) (by decide) (by decide) ?_
        refine ev_iconst de_Mo_isLikeHere_60 ?_
        exact ev_zreturn de_Mo_isLikeHere_61 rfl (by decide) ⟨_, _, _, _, rfl, hnx3, hrd, hnu3, Or.inr ⟨rfl, hwr3, by unfold rs_like; simp only [hX1, hX2, hX3]⟩⟩
    · skip
      refine ev_if_ne_f (tgt := 43) de_Mo_isLikeHere_38 (by decide) (by decide) (by decide) ?_
      refine ev_iconst de_Mo_isLikeHere_41 ?_
      exact ev_zreturn de_Mo_isLikeHere_42 rfl (by decide) ⟨_, _, _, _, rfl, hnx2, hrd, hnu2, Or.inr ⟨rfl, hwr2, by unfold rs_like; simp only [hX1, hX2]⟩⟩
  · skip
    refine ev_if_ne_f (tgt := 22) de_Mo_isLikeHere_17 (by decide) (by decide) (by decide) ?_
    refine ev_iconst de_Mo_isLikeHere_20 ?_
    exact ev_zreturn de_Mo_isLikeHere_21 rfl (by decide) ⟨_, _, _, _, rfl, hnx1, hrd, hnu1, Or.inr ⟨rfl, hwr1, by unfold rs_like; simp only [hX1]⟩⟩
end MO
