section MO
variable {tape : Int → Int} {taped : Int} {rules : Int} {sign : Int → Int} {leng : Int → Int} {clause : Int → Int} {clauses : Int → Int} {read : Int → Int} {next : Int} {wrong : Int} {number : Int} {text : Int} {made : Int} {deep : Int} {lines : Int} {opn : Int → Int} {opened : Int} {stack : Int → Int64} {top : Int} {word : Int → Int64} {said : Int → Int} {xx : Int} {was : Int → Int} {undone : Int} {kept : Int → Int} {sumOf : Int → Int} {faced : Int → Int} {slotAt : Int → Int} {dayAt : Int → Int} {row : Int → Int} {bestRow : Int → Int} {tMany : Int} {tMost : Int} {drawX : Int64} {images : Int → Int} {imageX : Int → Int} {isMade : Int → Int}
/-- behind a NUMBER that goes into a cell -/
def rc (tape : Int → Int) (taped : Int) (rules : Int) (sign : Int → Int) (leng : Int → Int) (clause : Int → Int) (clauses : Int → Int) (text : Int) (made : Int) (deep : Int) (lines : Int) (opn : Int → Int) (opened : Int) (stack : Int → Int64) (top : Int) (word : Int → Int64) (said : Int → Int) (xx : Int) (was : Int → Int) (undone : Int) (kept : Int → Int) (sumOf : Int → Int) (faced : Int → Int) (slotAt : Int → Int) (dayAt : Int → Int) (row : Int → Int) (bestRow : Int → Int) (tMany : Int) (tMost : Int) (drawX : Int64) (images : Int → Int) (imageX : Int → Int) (isMade : Int → Int) (rd0 : Int → Int) (cell lo hi : Int) (X : Except Int (Int × Int)) : Option ab_V → ab_W → Prop := fun r w2 => ∃ (nx nu wr : Int) (rd : Int → Int), w2 = (mo_W tape taped rules sign leng clause clauses (rd) (nx) (wr) (nu) text made deep lines opn opened stack top word said xx was undone kept sumOf faced slotAt dayAt row bestRow tMany tMost drawX images imageX isMade) ∧ (0 ≤ nx ∧ nx ≤ taped) ∧ ab_in nu ∧ ((r = some (ab_I 1) ∧ wr = 0 ∧ rd = ab_up rd0 cell nu ∧ X = .ok (nx, nu) ∧ lo ≤ nu ∧ nu ≤ hi) ∨ (r = some (ab_I 0) ∧ (1 ≤ wr ∧ wr ≤ 10000) ∧ rd = rd0 ∧ X = .error wr))
theorem de_Mo_cellHere_0 : decode prog_14_method_31_code 0 = .ok (.aload_n 0, 1) := by decide +kernel
theorem de_Mo_cellHere_1 : decode prog_14_method_31_code 1 = .ok (.iload_n 2, 1) := by decide +kernel
theorem de_Mo_cellHere_2 : decode prog_14_method_31_code 2 = .ok (.iload_n 3, 1) := by decide +kernel
theorem de_Mo_cellHere_3 : decode prog_14_method_31_code 3 = .ok (.invokevirtual 164, 3) := by decide +kernel
theorem de_Mo_cellHere_6 : decode prog_14_method_31_code 6 = .ok (.ifCond .ne 5, 3) := by decide +kernel
theorem de_Mo_cellHere_9 : decode prog_14_method_31_code 9 = .ok (.iconst 0, 1) := by decide +kernel
theorem de_Mo_cellHere_10 : decode prog_14_method_31_code 10 = .ok (.ireturn, 1) := by decide +kernel
theorem de_Mo_cellHere_11 : decode prog_14_method_31_code 11 = .ok (.aload_n 0, 1) := by decide +kernel
theorem de_Mo_cellHere_12 : decode prog_14_method_31_code 12 = .ok (.getfield 26, 3) := by decide +kernel
theorem de_Mo_cellHere_15 : decode prog_14_method_31_code 15 = .ok (.iload_n 1, 1) := by decide +kernel
theorem de_Mo_cellHere_16 : decode prog_14_method_31_code 16 = .ok (.aload_n 0, 1) := by decide +kernel
theorem de_Mo_cellHere_17 : decode prog_14_method_31_code 17 = .ok (.getfield 112, 3) := by decide +kernel
theorem de_Mo_cellHere_20 : decode prog_14_method_31_code 20 = .ok (.iastore, 1) := by decide +kernel
theorem de_Mo_cellHere_21 : decode prog_14_method_31_code 21 = .ok (.iconst 1, 1) := by decide +kernel
theorem de_Mo_cellHere_22 : decode prog_14_method_31_code 22 = .ok (.ireturn, 1) := by decide +kernel
set_option maxRecDepth 10000 in
theorem co_Mo_cellHere (ht : tp_ok tape taped) (hn0 : 0 ≤ next) (hn1 : next ≤ taped) (hw : wrong = 0) (hnu : ab_in number) (cell lo hi : Int) (hc0 : 0 ≤ cell) (hc1 : cell < 150) (hlo : ab_in lo) (hhi : ab_in hi) : ab_Mt g_G g_rs mt_Mo_cellHere 2 0 0 [ab_R 0, ab_I cell, ab_I lo, ab_I hi] (mo_W tape taped rules sign leng clause clauses read next wrong number text made deep lines opn opened stack top word said xx was undone kept sumOf faced slotAt dayAt row bestRow tMany tMost drawX images imageX isMade) (rc tape taped rules sign leng clause clauses text made deep lines opn opened stack top word said xx was undone kept sumOf faced slotAt dayAt row bestRow tMany tMost drawX images imageX isMade (read) (cell) (lo) (hi) (rs_num tape taped (lo) (hi) (next))) := by
  refine ab_Mt.of rfl (Nat.le_of_ble_eq_true rfl) ?_
  show ab_Ev g_G g_rs mt_Mo_cellHere _ _ _ 0 [some (ab_R 0), some (ab_I cell), some (ab_I lo), some (ab_I hi)] [] _ _
  refine ev_aload_n de_Mo_cellHere_0 rfl rfl ?_
  refine ev_iload_n de_Mo_cellHere_1 rfl rfl ?_
  refine ev_iload_n de_Mo_cellHere_2 rfl rfl ?_
  refine ev_virtual (ci := 11) (mc := 0) (ms := 0) (bc := 0) (bs := 0) de_Mo_cellHere_3 (cq_Mo_numberHere ht hn0 hn1 lo hi hlo hhi hw hnu) kb_Mo_164 ⟨im_Mo_numberHere, se_Mo_numberHere⟩ rfl rfl rfl (Nat.le_of_ble_eq_true rfl) (by decide) (Or.inl (fun r w1 h => by obtain ⟨nx, nu, wr, e, -⟩ := h; rw [e]; first | exact mo_Wn.trans mo_Wn.symm | rfl)) (fun r1 w1 hm1 => ?_)
  obtain ⟨nx1, nu1, wr1, rfl, hnx1, hnu1, hc1⟩ := hm1; rcases hc1 with ⟨rfl, rfl, hX1, hlo1, hhi1⟩ | ⟨rfl, hwr1, hX1⟩
  · skip
    refine ev_if_ne_t (tgt := 11) de_Mo_cellHere_6 (by decide) (by decide) (by decide) ?_
    refine ev_aload_n de_Mo_cellHere_11 rfl rfl ?_
    refine ev_getfield de_Mo_cellHere_12 rfl fl_Mo_26 rfl ?_
    refine ev_iload_n de_Mo_cellHere_15 rfl rfl ?_
    refine ev_aload_n de_Mo_cellHere_16 rfl rfl ?_
    refine ev_getfield de_Mo_cellHere_17 rfl fl_Mo_112 rfl ?_
    refine ev_iastore de_Mo_cellHere_20 rfl (by omega) (by omega) (by omega) ?_
    refine ev_world (w' := mo_W _ _ _ _ _ _ _ _ _ _ _ _ _ _ _ _ _ _ _ _ _ _ _ _ _ _ _ _ _ _ _ _ _ _ _ _ _) rfl ?_
    refine ev_iconst de_Mo_cellHere_21 ?_
    exact ev_zreturn de_Mo_cellHere_22 rfl (by decide) ⟨_, _, _, _, rfl, hnx1, hnu1, Or.inl ⟨rfl, rfl, rfl, hX1, hlo1, hhi1⟩⟩
  · skip
    refine ev_if_ne_f (tgt := 11) de_Mo_cellHere_6 (by decide) (by decide) (by decide) ?_
    refine ev_iconst de_Mo_cellHere_9 ?_
    exact ev_zreturn de_Mo_cellHere_10 rfl (by decide) ⟨_, _, _, _, rfl, hnx1, hnu1, Or.inr ⟨rfl, hwr1, rfl, hX1⟩⟩
def rs_ring (tape : Int → Int) (taped nx at_ : Int) (rd : Int → Int) : Except Int (Int × (Int → Int)) := if 0 < rd 0 then .error (1 + 8 * at_ + 4) else match rs_num tape taped 0 11 (tk_le tape taped nx) with
  | .error e => .error e
  | .ok (n, v) => .ok (n, ab_up (ab_up rd 4 v) 0 1)
theorem de_Mo_isRingHere_0 : decode prog_14_method_32_code 0 = .ok (.aload_n 0, 1) := by decide +kernel
theorem de_Mo_isRingHere_1 : decode prog_14_method_32_code 1 = .ok (.getfield 26, 3) := by decide +kernel
theorem de_Mo_isRingHere_4 : decode prog_14_method_32_code 4 = .ok (.iconst 0, 1) := by decide +kernel
theorem de_Mo_isRingHere_5 : decode prog_14_method_32_code 5 = .ok (.iaload, 1) := by decide +kernel
theorem de_Mo_isRingHere_6 : decode prog_14_method_32_code 6 = .ok (.ifCond .le 10, 3) := by decide +kernel
theorem de_Mo_isRingHere_9 : decode prog_14_method_32_code 9 = .ok (.aload_n 0, 1) := by decide +kernel
theorem de_Mo_isRingHere_10 : decode prog_14_method_32_code 10 = .ok (.iconst 4, 1) := by decide +kernel
theorem de_Mo_isRingHere_11 : decode prog_14_method_32_code 11 = .ok (.iload_n 1, 1) := by decide +kernel
theorem de_Mo_isRingHere_12 : decode prog_14_method_32_code 12 = .ok (.invokevirtual 108, 3) := by decide +kernel
theorem de_Mo_isRingHere_15 : decode prog_14_method_32_code 15 = .ok (.ireturn, 1) := by decide +kernel
theorem de_Mo_isRingHere_16 : decode prog_14_method_32_code 16 = .ok (.aload_n 0, 1) := by decide +kernel
theorem de_Mo_isRingHere_17 : decode prog_14_method_32_code 17 = .ok (.invokevirtual 102, 3) := by decide +kernel
theorem de_Mo_isRingHere_20 : decode prog_14_method_32_code 20 = .ok (.aload_n 0, 1) := by decide +kernel
theorem de_Mo_isRingHere_21 : decode prog_14_method_32_code 21 = .ok (.iconst 4, 1) := by decide +kernel
theorem de_Mo_isRingHere_22 : decode prog_14_method_32_code 22 = .ok (.iconst 0, 1) := by decide +kernel
theorem de_Mo_isRingHere_23 : decode prog_14_method_32_code 23 = .ok (.bipush 11, 2) := by decide +kernel
theorem de_Mo_isRingHere_25 : decode prog_14_method_32_code 25 = .ok (.invokevirtual 215, 3) := by decide +kernel
theorem de_Mo_isRingHere_28 : decode prog_14_method_32_code 28 = .ok (.ifCond .ne 5, 3) := by decide +kernel
theorem de_Mo_isRingHere_31 : decode prog_14_method_32_code 31 = .ok (.iconst 0, 1) := by decide +kernel
theorem de_Mo_isRingHere_32 : decode prog_14_method_32_code 32 = .ok (.ireturn, 1) := by decide +kernel
theorem de_Mo_isRingHere_33 : decode prog_14_method_32_code 33 = .ok (.aload_n 0, 1) := by decide +kernel
theorem de_Mo_isRingHere_34 : decode prog_14_method_32_code 34 = .ok (.getfield 26, 3) := by decide +kernel
theorem de_Mo_isRingHere_37 : decode prog_14_method_32_code 37 = .ok (.iconst 0, 1) := by decide +kernel
theorem de_Mo_isRingHere_38 : decode prog_14_method_32_code 38 = .ok (.iconst 1, 1) := by decide +kernel
theorem de_Mo_isRingHere_39 : decode prog_14_method_32_code 39 = .ok (.iastore, 1) := by decide +kernel
theorem de_Mo_isRingHere_40 : decode prog_14_method_32_code 40 = .ok (.iconst 1, 1) := by decide +kernel
theorem de_Mo_isRingHere_41 : decode prog_14_method_32_code 41 = .ok (.ireturn, 1) := by decide +kernel
set_option maxRecDepth 10000 in
theorem co_Mo_isRingHere (ht : tp_ok tape taped) (hn0 : 0 ≤ next) (hn1 : next ≤ taped) (hrd : rd_ok read) (hw : wrong = 0) (hnu : ab_in number) (at_ : Int) (ha0 : 0 ≤ at_) (ha1 : at_ ≤ taped) : ab_Mt g_G g_rs mt_Mo_isRingHere 3 0 0 [ab_R 0, ab_I at_] (mo_W tape taped rules sign leng clause clauses read next wrong number text made deep lines opn opened stack top word said xx was undone kept sumOf faced slotAt dayAt row bestRow tMany tMost drawX images imageX isMade) (rq tape taped rules sign leng clause clauses text made deep lines opn opened stack top word said xx was undone kept sumOf faced slotAt dayAt row bestRow tMany tMost drawX images imageX isMade (rs_ring tape taped next at_ read)) := by
  refine ab_Mt.of rfl (Nat.le_of_ble_eq_true rfl) ?_
  show ab_Ev g_G g_rs mt_Mo_isRingHere _ _ _ 0 [some (ab_R 0), some (ab_I at_)] [] _ _
  have hb := tk_le_b tape hn1
  have q0 : 0 ≤ read 0 ∧ read 0 ≤ 1 := hrd.1 0 (by decide) (by decide)
  refine ev_aload_n de_Mo_isRingHere_0 rfl rfl ?_
  refine ev_getfield de_Mo_isRingHere_1 rfl fl_Mo_26 rfl ?_
  refine ev_iconst de_Mo_isRingHere_4 ?_
  refine ev_iaload de_Mo_isRingHere_5 rfl (by omega) (by omega) (by omega) ?_
  refine ev_if_le (tgt := 16) de_Mo_isRingHere_6 (by decide) (by omega) (fun h6 => ?_) (fun h6 => ?_)
  · skip
    refine ev_aload_n de_Mo_isRingHere_16 rfl rfl ?_
    refine ev_vn (ci := 11) de_Mo_isRingHere_17 (co_Mo_passWord ht hn0 hn1) kb_Mo_102 ⟨im_Mo_passWord, se_Mo_passWord⟩ rfl rfl rfl (Nat.le_of_ble_eq_true rfl) (by decide) rfl ?_
    refine ev_aload_n de_Mo_isRingHere_20 rfl rfl ?_
    refine ev_iconst de_Mo_isRingHere_21 ?_
    refine ev_iconst de_Mo_isRingHere_22 ?_
    refine ev_bipush de_Mo_isRingHere_23 rfl ?_
    refine ev_virtual (ci := 11) (mc := 0) (ms := 0) (bc := 0) (bs := 0) de_Mo_isRingHere_25 (co_Mo_cellHere ht (by omega) (by omega) hw hnu 4 0 11 (by decide) (by decide) (by decide) (by decide)) kb_Mo_215 ⟨im_Mo_cellHere, se_Mo_cellHere⟩ rfl rfl rfl (Nat.le_of_ble_eq_true rfl) (by decide) (Or.inl (fun r w1 h => by obtain ⟨nx, nu, wr, rd, e, -⟩ := h; rw [e]; first | exact mo_Wn.trans mo_Wn.symm | rfl)) (fun r1 w1 hm1 => ?_)
    obtain ⟨nx1, nu1, wr1, rd1, rfl, hnx1, hnu1, hc1⟩ := hm1; rcases hc1 with ⟨rfl, rfl, rfl, hX1, hlo1, hhi1⟩ | ⟨rfl, hwr1, rfl, hX1⟩
    · skip
      refine ev_if_ne_t (tgt := 33) de_Mo_isRingHere_28 (by decide) (by decide) (by decide) ?_
      refine ev_aload_n de_Mo_isRingHere_33 rfl rfl ?_
      refine ev_getfield de_Mo_isRingHere_34 rfl fl_Mo_26 rfl ?_
      refine ev_iconst de_Mo_isRingHere_37 ?_
      refine ev_iconst de_Mo_isRingHere_38 ?_
      refine ev_iastore de_Mo_isRingHere_39 rfl (by omega) (by omega) (by omega) ?_
      refine ev_world (w' := mo_W _ _ _ _ _ _ _ _ _ _ _ _ _ _ _ _ _ _ _ _ _ _ _ _ _ _ _ _ _ _ _ _ _ _ _ _ _) rfl ?_
      refine ev_iconst de_Mo_isRingHere_40 ?_
      exact ev_zreturn de_Mo_isRingHere_41 rfl (by decide) ⟨_, _, _, _, rfl, hnx1, rd_up (rd_up hrd ⟨hlo1, hhi1⟩ (fun z => by omega)) (by decide) (fun z => by omega), hnu1, Or.inl ⟨rfl, rfl, by unfold rs_ring; rw [if_neg (by omega)]; simp only [hX1]⟩⟩
    · skip
      refine ev_if_ne_f (tgt := 33) de_Mo_isRingHere_28 (by decide) (by decide) (by decide) ?_
      refine ev_iconst de_Mo_isRingHere_31 ?_
      exact ev_zreturn de_Mo_isRingHere_32 rfl (by decide) ⟨_, _, _, _, rfl, hnx1, hrd, hnu1, Or.inr ⟨rfl, hwr1, by unfold rs_ring; rw [if_neg (by omega)]; simp only [hX1]⟩⟩
  · skip
    subst hw
    have p1 := ht.2.1
    have ef : tk_fl 0 4 at_ = 1 + 8 * at_ + 4 := rfl
    refine ev_aload_n de_Mo_isRingHere_9 rfl rfl ?_
    refine ev_iconst de_Mo_isRingHere_10 ?_
    refine ev_iload_n de_Mo_isRingHere_11 rfl rfl ?_
    refine ev_vv (ci := 11) de_Mo_isRingHere_12 (co_Mo_fails 4 at_ (by decide)) kb_Mo_108 ⟨im_Mo_fails, se_Mo_fails⟩ rfl rfl rfl (Nat.le_of_ble_eq_true rfl) (by decide) rfl ?_
    exact ev_zreturn de_Mo_isRingHere_15 rfl (by decide) ⟨_, _, _, _, rfl, ⟨hn0, hn1⟩, hrd, hnu, Or.inr ⟨rfl, by rw [ef]; omega, by unfold rs_ring; rw [if_pos (by omega)]; rfl⟩⟩
theorem rd_sight {rd : Int → Int} {k j v b : Int} (h : rd_ok rd) (hk : 0 ≤ k) (hk1 : k < 12) (hj : 0 ≤ j) (hj1 : j < 4) (h0 : 0 ≤ v) (h1 : v ≤ b) (hb : b ≤ if j = 0 then 4 else if j = 1 then 11 else 23) : rd_ok (ab_up rd (95 + 4 * k + j) v) := by
  refine rd_up h ?_ (fun z => by omega)
  unfold sg_lo sg_hi
  rw [if_neg (by omega), if_neg (by omega), if_neg (by omega), if_neg (by omega), if_neg (by omega), if_neg (by omega), if_neg (by omega), if_pos (by omega), show (95 + 4 * k + j - 95) % 4 = j by omega]
  exact ⟨h0, Int.le_trans h1 hb⟩
def rs_sight (tape : Int → Int) (taped nx at_ : Int) (rd : Int → Int) : Except Int (Int × (Int → Int)) := if rd 2 = 12 then .error (1 + 8 * at_ + 4) else match rs_num tape taped 0 4 (tk_le tape taped nx) with
  | .error e => .error e
  | .ok (n1, v1) => match rs_num tape taped 0 11 n1 with
    | .error e => .error e
    | .ok (n2, v2) => match rs_num tape taped 0 23 n2 with
      | .error e => .error e
      | .ok (n3, v3) => match rs_num tape taped v3 23 n3 with
        | .error e => .error e
        | .ok (n4, v4) => .ok (n4, ab_up (ab_up (ab_up (ab_up (ab_up rd (95 + 4 * rd 2) v1) (95 + 4 * rd 2 + 1) v2) (95 + 4 * rd 2 + 2) v3) (95 + 4 * rd 2 + 3) v4) 2 (rd 2 + 1))
theorem rd_sight0 {rd : Int → Int} {k v : Int} (h : rd_ok rd) (hk : 0 ≤ k) (hk1 : k < 12) (h0 : 0 ≤ v) (h1 : v ≤ 4) : rd_ok (ab_up rd (95 + 4 * k) v) := by have q := rd_sight (j := 0) h hk hk1 (by decide) (by decide) h0 h1 (by decide); rw [show 95 + 4 * k + 0 = 95 + 4 * k by omega] at q; exact q
theorem de_Mo_isSightHere_0 : decode prog_14_method_34_code 0 = .ok (.aload_n 0, 1) := by decide +kernel
theorem de_Mo_isSightHere_1 : decode prog_14_method_34_code 1 = .ok (.getfield 26, 3) := by decide +kernel
theorem de_Mo_isSightHere_4 : decode prog_14_method_34_code 4 = .ok (.iconst 2, 1) := by decide +kernel
theorem de_Mo_isSightHere_5 : decode prog_14_method_34_code 5 = .ok (.iaload, 1) := by decide +kernel
theorem de_Mo_isSightHere_6 : decode prog_14_method_34_code 6 = .ok (.bipush 12, 2) := by decide +kernel
theorem de_Mo_isSightHere_8 : decode prog_14_method_34_code 8 = .ok (.if_icmp .ne 10, 3) := by decide +kernel
theorem de_Mo_isSightHere_11 : decode prog_14_method_34_code 11 = .ok (.aload_n 0, 1) := by decide +kernel
theorem de_Mo_isSightHere_12 : decode prog_14_method_34_code 12 = .ok (.iconst 4, 1) := by decide +kernel
theorem de_Mo_isSightHere_13 : decode prog_14_method_34_code 13 = .ok (.iload_n 1, 1) := by decide +kernel
theorem de_Mo_isSightHere_14 : decode prog_14_method_34_code 14 = .ok (.invokevirtual 108, 3) := by decide +kernel
theorem de_Mo_isSightHere_17 : decode prog_14_method_34_code 17 = .ok (.ireturn, 1) := by decide +kernel
theorem de_Mo_isSightHere_18 : decode prog_14_method_34_code 18 = .ok (.aload_n 0, 1) := by decide +kernel
theorem de_Mo_isSightHere_19 : decode prog_14_method_34_code 19 = .ok (.invokevirtual 102, 3) := by decide +kernel
theorem de_Mo_isSightHere_22 : decode prog_14_method_34_code 22 = .ok (.bipush 95, 2) := by decide +kernel
theorem de_Mo_isSightHere_24 : decode prog_14_method_34_code 24 = .ok (.iconst 4, 1) := by decide +kernel
theorem de_Mo_isSightHere_25 : decode prog_14_method_34_code 25 = .ok (.aload_n 0, 1) := by decide +kernel
theorem de_Mo_isSightHere_26 : decode prog_14_method_34_code 26 = .ok (.getfield 26, 3) := by decide +kernel
theorem de_Mo_isSightHere_29 : decode prog_14_method_34_code 29 = .ok (.iconst 2, 1) := by decide +kernel
theorem de_Mo_isSightHere_30 : decode prog_14_method_34_code 30 = .ok (.iaload, 1) := by decide +kernel
theorem de_Mo_isSightHere_31 : decode prog_14_method_34_code 31 = .ok (.imul, 1) := by decide +kernel
theorem de_Mo_isSightHere_32 : decode prog_14_method_34_code 32 = .ok (.iadd, 1) := by decide +kernel
theorem de_Mo_isSightHere_33 : decode prog_14_method_34_code 33 = .ok (.istore_n 2, 1) := by decide +kernel
theorem de_Mo_isSightHere_34 : decode prog_14_method_34_code 34 = .ok (.aload_n 0, 1) := by decide +kernel
theorem de_Mo_isSightHere_35 : decode prog_14_method_34_code 35 = .ok (.iload_n 2, 1) := by decide +kernel
theorem de_Mo_isSightHere_36 : decode prog_14_method_34_code 36 = .ok (.iconst 0, 1) := by decide +kernel
theorem de_Mo_isSightHere_37 : decode prog_14_method_34_code 37 = .ok (.iconst 4, 1) := by decide +kernel
theorem de_Mo_isSightHere_38 : decode prog_14_method_34_code 38 = .ok (.invokevirtual 215, 3) := by decide +kernel
theorem de_Mo_isSightHere_41 : decode prog_14_method_34_code 41 = .ok (.ifCond .eq 49, 3) := by decide +kernel
theorem de_Mo_isSightHere_44 : decode prog_14_method_34_code 44 = .ok (.aload_n 0, 1) := by decide +kernel
theorem de_Mo_isSightHere_45 : decode prog_14_method_34_code 45 = .ok (.iload_n 2, 1) := by decide +kernel
theorem de_Mo_isSightHere_46 : decode prog_14_method_34_code 46 = .ok (.iconst 1, 1) := by decide +kernel
theorem de_Mo_isSightHere_47 : decode prog_14_method_34_code 47 = .ok (.iadd, 1) := by decide +kernel
theorem de_Mo_isSightHere_48 : decode prog_14_method_34_code 48 = .ok (.iconst 0, 1) := by decide +kernel
theorem de_Mo_isSightHere_49 : decode prog_14_method_34_code 49 = .ok (.bipush 11, 2) := by decide +kernel
theorem de_Mo_isSightHere_51 : decode prog_14_method_34_code 51 = .ok (.invokevirtual 215, 3) := by decide +kernel
theorem de_Mo_isSightHere_54 : decode prog_14_method_34_code 54 = .ok (.ifCond .eq 36, 3) := by decide +kernel
theorem de_Mo_isSightHere_57 : decode prog_14_method_34_code 57 = .ok (.aload_n 0, 1) := by decide +kernel
theorem de_Mo_isSightHere_58 : decode prog_14_method_34_code 58 = .ok (.iload_n 2, 1) := by decide +kernel
theorem de_Mo_isSightHere_59 : decode prog_14_method_34_code 59 = .ok (.iconst 2, 1) := by decide +kernel
theorem de_Mo_isSightHere_60 : decode prog_14_method_34_code 60 = .ok (.iadd, 1) := by decide +kernel
theorem de_Mo_isSightHere_61 : decode prog_14_method_34_code 61 = .ok (.iconst 0, 1) := by decide +kernel
theorem de_Mo_isSightHere_62 : decode prog_14_method_34_code 62 = .ok (.bipush 23, 2) := by decide +kernel
theorem de_Mo_isSightHere_64 : decode prog_14_method_34_code 64 = .ok (.invokevirtual 215, 3) := by decide +kernel
theorem de_Mo_isSightHere_67 : decode prog_14_method_34_code 67 = .ok (.ifCond .eq 23, 3) := by decide +kernel
theorem de_Mo_isSightHere_70 : decode prog_14_method_34_code 70 = .ok (.aload_n 0, 1) := by decide +kernel
theorem de_Mo_isSightHere_71 : decode prog_14_method_34_code 71 = .ok (.iload_n 2, 1) := by decide +kernel
theorem de_Mo_isSightHere_72 : decode prog_14_method_34_code 72 = .ok (.iconst 3, 1) := by decide +kernel
theorem de_Mo_isSightHere_73 : decode prog_14_method_34_code 73 = .ok (.iadd, 1) := by decide +kernel
theorem de_Mo_isSightHere_74 : decode prog_14_method_34_code 74 = .ok (.aload_n 0, 1) := by decide +kernel
theorem de_Mo_isSightHere_75 : decode prog_14_method_34_code 75 = .ok (.getfield 26, 3) := by decide +kernel
theorem de_Mo_isSightHere_78 : decode prog_14_method_34_code 78 = .ok (.iload_n 2, 1) := by decide +kernel
theorem de_Mo_isSightHere_79 : decode prog_14_method_34_code 79 = .ok (.iconst 2, 1) := by decide +kernel
theorem de_Mo_isSightHere_80 : decode prog_14_method_34_code 80 = .ok (.iadd, 1) := by decide +kernel
theorem de_Mo_isSightHere_81 : decode prog_14_method_34_code 81 = .ok (.iaload, 1) := by decide +kernel
theorem de_Mo_isSightHere_82 : decode prog_14_method_34_code 82 = .ok (.bipush 23, 2) := by decide +kernel
theorem de_Mo_isSightHere_84 : decode prog_14_method_34_code 84 = .ok (.invokevirtual 215, 3) := by decide +kernel
theorem de_Mo_isSightHere_87 : decode prog_14_method_34_code 87 = .ok (.ifCond .ne 5, 3) := by decide +kernel
theorem de_Mo_isSightHere_90 : decode prog_14_method_34_code 90 = .ok (.iconst 0, 1) := by decide +kernel
theorem de_Mo_isSightHere_91 : decode prog_14_method_34_code 91 = .ok (.ireturn, 1) := by decide +kernel
theorem de_Mo_isSightHere_92 : decode prog_14_method_34_code 92 = .ok (.aload_n 0, 1) := by decide +kernel
theorem de_Mo_isSightHere_93 : decode prog_14_method_34_code 93 = .ok (.getfield 26, 3) := by decide +kernel
theorem de_Mo_isSightHere_96 : decode prog_14_method_34_code 96 = .ok (.iconst 2, 1) := by decide +kernel
theorem de_Mo_isSightHere_97 : decode prog_14_method_34_code 97 = .ok (.dup2, 1) := by decide +kernel
theorem de_Mo_isSightHere_98 : decode prog_14_method_34_code 98 = .ok (.iaload, 1) := by decide +kernel
theorem de_Mo_isSightHere_99 : decode prog_14_method_34_code 99 = .ok (.iconst 1, 1) := by decide +kernel
theorem de_Mo_isSightHere_100 : decode prog_14_method_34_code 100 = .ok (.iadd, 1) := by decide +kernel
theorem de_Mo_isSightHere_101 : decode prog_14_method_34_code 101 = .ok (.iastore, 1) := by decide +kernel
theorem de_Mo_isSightHere_102 : decode prog_14_method_34_code 102 = .ok (.iconst 1, 1) := by decide +kernel
theorem de_Mo_isSightHere_103 : decode prog_14_method_34_code 103 = .ok (.ireturn, 1) := by decide +kernel
set_option maxRecDepth 10000 in
theorem co_Mo_isSightHere (ht : tp_ok tape taped) (hn0 : 0 ≤ next) (hn1 : next ≤ taped) (hrd : rd_ok read) (hw : wrong = 0) (hnu : ab_in number) (at_ : Int) (ha0 : 0 ≤ at_) (ha1 : at_ ≤ taped) : ab_Mt g_G g_rs mt_Mo_isSightHere 3 0 0 [ab_R 0, ab_I at_] (mo_W tape taped rules sign leng clause clauses read next wrong number text made deep lines opn opened stack top word said xx was undone kept sumOf faced slotAt dayAt row bestRow tMany tMost drawX images imageX isMade) (rq tape taped rules sign leng clause clauses text made deep lines opn opened stack top word said xx was undone kept sumOf faced slotAt dayAt row bestRow tMany tMost drawX images imageX isMade (rs_sight tape taped next at_ read)) := by
  refine ab_Mt.of rfl (Nat.le_of_ble_eq_true rfl) ?_
  show ab_Ev g_G g_rs mt_Mo_isSightHere _ _ _ 0 [some (ab_R 0), some (ab_I at_), none] [] _ _
  have hb := tk_le_b tape hn1
  have q2 : 0 ≤ read 2 ∧ read 2 ≤ 12 := hrd.1 2 (by decide) (by decide)
  refine ev_aload_n de_Mo_isSightHere_0 rfl rfl ?_
  refine ev_getfield de_Mo_isSightHere_1 rfl fl_Mo_26 rfl ?_
  refine ev_iconst de_Mo_isSightHere_4 ?_
  refine ev_iaload de_Mo_isSightHere_5 rfl (by omega) (by omega) (by omega) ?_
  refine ev_bipush de_Mo_isSightHere_6 rfl ?_
  refine ev_icmp_ne (tgt := 18) de_Mo_isSightHere_8 (by decide) (by omega) (by omega) (fun h8 => ?_) (fun h8 => ?_)
  · skip
    refine ev_aload_n de_Mo_isSightHere_18 rfl rfl ?_
    refine ev_vn (ci := 11) de_Mo_isSightHere_19 (co_Mo_passWord ht hn0 hn1) kb_Mo_102 ⟨im_Mo_passWord, se_Mo_passWord⟩ rfl rfl rfl (Nat.le_of_ble_eq_true rfl) (by decide) rfl ?_
    refine ev_bipush de_Mo_isSightHere_22 rfl ?_
    refine ev_iconst de_Mo_isSightHere_24 ?_
    refine ev_aload_n de_Mo_isSightHere_25 rfl rfl ?_
    refine ev_getfield de_Mo_isSightHere_26 rfl fl_Mo_26 rfl ?_
    refine ev_iconst de_Mo_isSightHere_29 ?_
    refine ev_iaload de_Mo_isSightHere_30 rfl (by omega) (by omega) (by omega) ?_
    refine ev_imul de_Mo_isSightHere_31 ?_
    refine ev_iadd de_Mo_isSightHere_32 ?_
    refine ev_istore_n (l' := [_, _, _]) de_Mo_isSightHere_33 rfl (Nat.le_of_ble_eq_true rfl) rfl ?_
    refine ev_aload_n de_Mo_isSightHere_34 rfl rfl ?_
    refine ev_iload_n de_Mo_isSightHere_35 rfl rfl ?_
    refine ev_iconst de_Mo_isSightHere_36 ?_
    refine ev_iconst de_Mo_isSightHere_37 ?_
    refine ev_virtual (ci := 11) (mc := 0) (ms := 0) (bc := 0) (bs := 0) de_Mo_isSightHere_38 (co_Mo_cellHere ht (by omega) (by omega) hw hnu (95 + 4 * read 2) (0) (4) (by omega) (by omega) (by decide) (by decide)) kb_Mo_215 ⟨im_Mo_cellHere, se_Mo_cellHere⟩ rfl rfl rfl (Nat.le_of_ble_eq_true rfl) (by decide) (Or.inl (fun r w1 h => by obtain ⟨nx, nu, wr, rd, e, -⟩ := h; rw [e]; first | exact mo_Wn.trans mo_Wn.symm | rfl)) (fun r1 w1 hm1 => ?_)
    obtain ⟨nx1, nu1, wr1, rd1, rfl, hnx1, hnu1, hc1⟩ := hm1; rcases hc1 with ⟨rfl, rfl, rfl, hX1, hlo1, hhi1⟩ | ⟨rfl, hwr1, rfl, hX1⟩
    · skip
      have k1 := rd_sight0 hrd q2.1 (show read 2 < 12 by omega) hlo1 hhi1
      refine ev_if_eq_f (tgt := 90) de_Mo_isSightHere_41 (by decide) (by decide) (by decide) ?_
      refine ev_aload_n de_Mo_isSightHere_44 rfl rfl ?_
      refine ev_iload_n de_Mo_isSightHere_45 rfl rfl ?_
      refine ev_iconst de_Mo_isSightHere_46 ?_
      refine ev_iadd de_Mo_isSightHere_47 ?_
      refine ev_iconst de_Mo_isSightHere_48 ?_
      refine ev_bipush de_Mo_isSightHere_49 rfl ?_
      refine ev_virtual (ci := 11) (mc := 0) (ms := 0) (bc := 0) (bs := 0) de_Mo_isSightHere_51 (co_Mo_cellHere ht hnx1.1 hnx1.2 rfl hnu1 (95 + 4 * read 2 + 1) (0) (11) (by omega) (by omega) (by decide) (by decide)) kb_Mo_215 ⟨im_Mo_cellHere, se_Mo_cellHere⟩ rfl rfl rfl (Nat.le_of_ble_eq_true rfl) (by decide) (Or.inl (fun r w1 h => by obtain ⟨nx, nu, wr, rd, e, -⟩ := h; rw [e]; first | exact mo_Wn.trans mo_Wn.symm | rfl)) (fun r1 w1 hm1 => ?_)
      obtain ⟨nx2, nu2, wr2, rd2, rfl, hnx2, hnu2, hc2⟩ := hm1; rcases hc2 with ⟨rfl, rfl, rfl, hX2, hlo2, hhi2⟩ | ⟨rfl, hwr2, rfl, hX2⟩
      · skip
        have k2 := rd_sight (j := 1) k1 q2.1 (show read 2 < 12 by omega) (by decide) (by decide) hlo2 hhi2 (by decide)
        refine ev_if_eq_f (tgt := 90) de_Mo_isSightHere_54 (by decide) (by decide) (by decide) ?_
        refine ev_aload_n de_Mo_isSightHere_57 rfl rfl ?_
        refine ev_iload_n de_Mo_isSightHere_58 rfl rfl ?_
        refine ev_iconst de_Mo_isSightHere_59 ?_
        refine ev_iadd de_Mo_isSightHere_60 ?_
        refine ev_iconst de_Mo_isSightHere_61 ?_
        refine ev_bipush de_Mo_isSightHere_62 rfl ?_
        refine ev_virtual (ci := 11) (mc := 0) (ms := 0) (bc := 0) (bs := 0) de_Mo_isSightHere_64 (co_Mo_cellHere ht hnx2.1 hnx2.2 rfl hnu2 (95 + 4 * read 2 + 2) (0) (23) (by omega) (by omega) (by decide) (by decide)) kb_Mo_215 ⟨im_Mo_cellHere, se_Mo_cellHere⟩ rfl rfl rfl (Nat.le_of_ble_eq_true rfl) (by decide) (Or.inl (fun r w1 h => by obtain ⟨nx, nu, wr, rd, e, -⟩ := h; rw [e]; first | exact mo_Wn.trans mo_Wn.symm | rfl)) (fun r1 w1 hm1 => ?_)
        obtain ⟨nx3, nu3, wr3, rd3, rfl, hnx3, hnu3, hc3⟩ := hm1; rcases hc3 with ⟨rfl, rfl, rfl, hX3, hlo3, hhi3⟩ | ⟨rfl, hwr3, rfl, hX3⟩
        · skip
          have k3 := rd_sight (j := 2) k2 q2.1 (show read 2 < 12 by omega) (by decide) (by decide) hlo3 hhi3 (by decide)
          refine ev_if_eq_f (tgt := 90) de_Mo_isSightHere_67 (by decide) (by decide) (by decide) ?_
          refine ev_aload_n de_Mo_isSightHere_70 rfl rfl ?_
          refine ev_iload_n de_Mo_isSightHere_71 rfl rfl ?_
          refine ev_iconst de_Mo_isSightHere_72 ?_
          refine ev_iadd de_Mo_isSightHere_73 ?_
          refine ev_aload_n de_Mo_isSightHere_74 rfl rfl ?_
          refine ev_getfield de_Mo_isSightHere_75 rfl fl_Mo_26 rfl ?_
          refine ev_iload_n de_Mo_isSightHere_78 rfl rfl ?_
          refine ev_iconst de_Mo_isSightHere_79 ?_
          refine ev_iadd de_Mo_isSightHere_80 ?_
          refine ev_iaload de_Mo_isSightHere_81 rfl (by omega) (by omega) (by omega) ?_
          refine ev_top (congrArg Sum.inl (ab_upe _ _ _)) ?_
          refine ev_bipush de_Mo_isSightHere_82 rfl ?_
          refine ev_virtual (ci := 11) (mc := 0) (ms := 0) (bc := 0) (bs := 0) de_Mo_isSightHere_84 (co_Mo_cellHere ht hnx3.1 hnx3.2 rfl hnu3 (95 + 4 * read 2 + 3) (nu3) (23) (by omega) (by omega) hnu3 (by decide)) kb_Mo_215 ⟨im_Mo_cellHere, se_Mo_cellHere⟩ rfl rfl rfl (Nat.le_of_ble_eq_true rfl) (by decide) (Or.inl (fun r w1 h => by obtain ⟨nx, nu, wr, rd, e, -⟩ := h; rw [e]; first | exact mo_Wn.trans mo_Wn.symm | rfl)) (fun r1 w1 hm1 => ?_)
          obtain ⟨nx4, nu4, wr4, rd4, rfl, hnx4, hnu4, hc4⟩ := hm1; rcases hc4 with ⟨rfl, rfl, rfl, hX4, hlo4, hhi4⟩ | ⟨rfl, hwr4, rfl, hX4⟩
          · skip
            have k4 := rd_sight (j := 3) k3 q2.1 (show read 2 < 12 by omega) (by decide) (by decide) (Int.le_trans hlo3 hlo4) hhi4 (by decide)
            have e2 : (ab_up (ab_up (ab_up (ab_up read (95 + 4 * read 2) nu1) (95 + 4 * read 2 + 1) nu2) (95 + 4 * read 2 + 2) nu3) (95 + 4 * read 2 + 3) nu4) 2 = read 2 := by rw [ab_upn _ _ (by omega), ab_upn _ _ (by omega), ab_upn _ _ (by omega), ab_upn _ _ (by omega)]
            refine ev_if_ne_t (tgt := 92) de_Mo_isSightHere_87 (by decide) (by decide) (by decide) ?_
            refine ev_aload_n de_Mo_isSightHere_92 rfl rfl ?_
            refine ev_getfield de_Mo_isSightHere_93 rfl fl_Mo_26 rfl ?_
            refine ev_iconst de_Mo_isSightHere_96 ?_
            refine ev_dup2 de_Mo_isSightHere_97 rfl rfl ?_
            refine ev_iaload de_Mo_isSightHere_98 rfl (by omega) (by omega) (by omega) ?_
            refine ev_top (congrArg Sum.inl e2) ?_
            refine ev_iconst de_Mo_isSightHere_99 ?_
            refine ev_iadd de_Mo_isSightHere_100 ?_
            refine ev_iastore de_Mo_isSightHere_101 rfl (by omega) (by omega) (by omega) ?_
            refine ev_world (w' := mo_W _ _ _ _ _ _ _ _ _ _ _ _ _ _ _ _ _ _ _ _ _ _ _ _ _ _ _ _ _ _ _ _ _ _ _ _ _) rfl ?_
            refine ev_iconst de_Mo_isSightHere_102 ?_
            exact ev_zreturn de_Mo_isSightHere_103 rfl (by decide) ⟨_, _, _, _, rfl, hnx4, rd_up k4 ⟨show 0 ≤ read 2 + 1 by omega, show read 2 + 1 ≤ 12 by omega⟩ (fun z => by omega), hnu4, Or.inl ⟨rfl, rfl, by unfold rs_sight; rw [if_neg h8]; simp only [hX1, hX2, hX3, hX4]⟩⟩
          · skip
            refine ev_if_ne_f (tgt := 92) de_Mo_isSightHere_87 (by decide) (by decide) (by decide) ?_
            refine ev_iconst de_Mo_isSightHere_90 ?_
            exact ev_zreturn de_Mo_isSightHere_91 rfl (by decide) ⟨_, _, _, _, rfl, hnx4, k3, hnu4, Or.inr ⟨rfl, hwr4, by unfold rs_sight; rw [if_neg h8]; simp only [hX1, hX2, hX3, hX4]⟩⟩
        · skip
          refine ev_if_eq_t (tgt := 90) de_Mo_isSightHere_67 (by decide) (by decide) (by decide) ?_
          refine ev_iconst de_Mo_isSightHere_90 ?_
          exact ev_zreturn de_Mo_isSightHere_91 rfl (by decide) ⟨_, _, _, _, rfl, hnx3, k2, hnu3, Or.inr ⟨rfl, hwr3, by unfold rs_sight; rw [if_neg h8]; simp only [hX1, hX2, hX3]⟩⟩
      · skip
        refine ev_if_eq_t (tgt := 90) de_Mo_isSightHere_54 (by decide) (by decide) (by decide) ?_
        refine ev_iconst de_Mo_isSightHere_90 ?_
        exact ev_zreturn de_Mo_isSightHere_91 rfl (by decide) ⟨_, _, _, _, rfl, hnx2, k1, hnu2, Or.inr ⟨rfl, hwr2, by unfold rs_sight; rw [if_neg h8]; simp only [hX1, hX2]⟩⟩
    · skip
      refine ev_if_eq_t (tgt := 90) de_Mo_isSightHere_41 (by decide) (by decide) (by decide) ?_
      refine ev_iconst de_Mo_isSightHere_90 ?_
      exact ev_zreturn de_Mo_isSightHere_91 rfl (by decide) ⟨_, _, _, _, rfl, hnx1, hrd, hnu1, Or.inr ⟨rfl, hwr1, by unfold rs_sight; rw [if_neg h8]; simp only [hX1]⟩⟩
  · skip
    subst hw
    have p1 := ht.2.1
    have ef : tk_fl 0 4 at_ = 1 + 8 * at_ + 4 := rfl
    refine ev_aload_n de_Mo_isSightHere_11 rfl rfl ?_
    refine ev_iconst de_Mo_isSightHere_12 ?_
    refine ev_iload_n de_Mo_isSightHere_13 rfl rfl ?_
    refine ev_vv (ci := 11) de_Mo_isSightHere_14 (co_Mo_fails 4 at_ (by decide)) kb_Mo_108 ⟨im_Mo_fails, se_Mo_fails⟩ rfl rfl rfl (Nat.le_of_ble_eq_true rfl) (by decide) rfl ?_
    exact ev_zreturn de_Mo_isSightHere_17 rfl (by decide) ⟨_, _, _, _, rfl, ⟨hn0, hn1⟩, hrd, hnu, Or.inr ⟨rfl, by rw [ef]; omega, by unfold rs_sight; rw [if_pos h8]; rfl⟩⟩
/-- v at a, a + 1 .. -/
def rs_fill (rd : Int → Int) (a v : Int) : Nat → Int → Int
  | 0 => rd
  | n + 1 => ab_up (rs_fill rd a v n) (a + (n : Int)) v
theorem rd_fill {rd : Int → Int} {a v : Int} (h : rd_ok rd) (ha : 10 ≤ a) (h0 : -3 ≤ v) (h1 : v ≤ 3) : ∀ n : Nat, a + n ≤ 34 → rd_ok (rs_fill rd a v n)
  | 0, _ => h
  | n + 1, hn => by
    refine rd_up (rd_fill h ha h0 h1 n (by omega)) ?_ (fun z => by omega)
    unfold sg_lo sg_hi
    rw [if_pos (by omega), if_neg (by omega), if_pos (by omega)]
    exact ⟨h0, h1⟩
def rs_rate (tape : Int → Int) (taped nx : Int) (rd : Int → Int) : Except Int (Int × (Int → Int)) := match rs_num tape taped 0 23 (tk_le tape taped nx) with
  | .error e => .error e
  | .ok (n1, v1) => match rs_num tape taped v1 23 n1 with
    | .error e => .error e
    | .ok (n2, v2) => match rs_num tape taped 0 6 n2 with
      | .error e => .error e
      | .ok (n3, v3) => .ok (n3, rs_fill rd (10 + v1) (v3 - 3) (v2 - v1 + 1).toNat)
theorem de_Mo_isRateHere_0 : decode prog_14_method_37_code 0 = .ok (.aload_n 0, 1) := by decide +kernel
theorem de_Mo_isRateHere_1 : decode prog_14_method_37_code 1 = .ok (.invokevirtual 102, 3) := by decide +kernel
theorem de_Mo_isRateHere_4 : decode prog_14_method_37_code 4 = .ok (.aload_n 0, 1) := by decide +kernel
theorem de_Mo_isRateHere_5 : decode prog_14_method_37_code 5 = .ok (.iconst 0, 1) := by decide +kernel
theorem de_Mo_isRateHere_6 : decode prog_14_method_37_code 6 = .ok (.bipush 23, 2) := by decide +kernel
theorem de_Mo_isRateHere_8 : decode prog_14_method_37_code 8 = .ok (.invokevirtual 164, 3) := by decide +kernel
theorem de_Mo_isRateHere_11 : decode prog_14_method_37_code 11 = .ok (.ifCond .ne 5, 3) := by decide +kernel
theorem de_Mo_isRateHere_14 : decode prog_14_method_37_code 14 = .ok (.iconst 0, 1) := by decide +kernel
theorem de_Mo_isRateHere_15 : decode prog_14_method_37_code 15 = .ok (.ireturn, 1) := by decide +kernel
theorem de_Mo_isRateHere_16 : decode prog_14_method_37_code 16 = .ok (.aload_n 0, 1) := by decide +kernel
theorem de_Mo_isRateHere_17 : decode prog_14_method_37_code 17 = .ok (.getfield 112, 3) := by decide +kernel
theorem de_Mo_isRateHere_20 : decode prog_14_method_37_code 20 = .ok (.istore_n 1, 1) := by decide +kernel
theorem de_Mo_isRateHere_21 : decode prog_14_method_37_code 21 = .ok (.aload_n 0, 1) := by decide +kernel
theorem de_Mo_isRateHere_22 : decode prog_14_method_37_code 22 = .ok (.iload_n 1, 1) := by decide +kernel
theorem de_Mo_isRateHere_23 : decode prog_14_method_37_code 23 = .ok (.bipush 23, 2) := by decide +kernel
theorem de_Mo_isRateHere_25 : decode prog_14_method_37_code 25 = .ok (.invokevirtual 164, 3) := by decide +kernel
theorem de_Mo_isRateHere_28 : decode prog_14_method_37_code 28 = .ok (.ifCond .ne 5, 3) := by decide +kernel
theorem de_Mo_isRateHere_31 : decode prog_14_method_37_code 31 = .ok (.iconst 0, 1) := by decide +kernel
theorem de_Mo_isRateHere_32 : decode prog_14_method_37_code 32 = .ok (.ireturn, 1) := by decide +kernel
theorem de_Mo_isRateHere_33 : decode prog_14_method_37_code 33 = .ok (.aload_n 0, 1) := by decide +kernel
theorem de_Mo_isRateHere_34 : decode prog_14_method_37_code 34 = .ok (.getfield 112, 3) := by decide +kernel
theorem de_Mo_isRateHere_37 : decode prog_14_method_37_code 37 = .ok (.istore_n 2, 1) := by decide +kernel
theorem de_Mo_isRateHere_38 : decode prog_14_method_37_code 38 = .ok (.aload_n 0, 1) := by decide +kernel
theorem de_Mo_isRateHere_39 : decode prog_14_method_37_code 39 = .ok (.iconst 0, 1) := by decide +kernel
theorem de_Mo_isRateHere_40 : decode prog_14_method_37_code 40 = .ok (.bipush 6, 2) := by decide +kernel
theorem de_Mo_isRateHere_42 : decode prog_14_method_37_code 42 = .ok (.invokevirtual 164, 3) := by decide +kernel
theorem de_Mo_isRateHere_45 : decode prog_14_method_37_code 45 = .ok (.ifCond .ne 5, 3) := by decide +kernel
theorem de_Mo_isRateHere_48 : decode prog_14_method_37_code 48 = .ok (.iconst 0, 1) := by decide +kernel
theorem de_Mo_isRateHere_49 : decode prog_14_method_37_code 49 = .ok (.ireturn, 1) := by decide +kernel
theorem de_Mo_isRateHere_50 : decode prog_14_method_37_code 50 = .ok (.iload_n 1, 1) := by decide +kernel
theorem de_Mo_isRateHere_51 : decode prog_14_method_37_code 51 = .ok (.istore_n 3, 1) := by decide +kernel
theorem de_Mo_isRateHere_52 : decode prog_14_method_37_code 52 = .ok (.iload_n 3, 1) := by decide +kernel
theorem de_Mo_isRateHere_53 : decode prog_14_method_37_code 53 = .ok (.iload_n 2, 1) := by decide +kernel
theorem de_Mo_isRateHere_54 : decode prog_14_method_37_code 54 = .ok (.if_icmp .gt 24, 3) := by decide +kernel
theorem de_Mo_isRateHere_57 : decode prog_14_method_37_code 57 = .ok (.aload_n 0, 1) := by decide +kernel
theorem de_Mo_isRateHere_58 : decode prog_14_method_37_code 58 = .ok (.getfield 26, 3) := by decide +kernel
theorem de_Mo_isRateHere_61 : decode prog_14_method_37_code 61 = .ok (.bipush 10, 2) := by decide +kernel
theorem de_Mo_isRateHere_63 : decode prog_14_method_37_code 63 = .ok (.iload_n 3, 1) := by decide +kernel
theorem de_Mo_isRateHere_64 : decode prog_14_method_37_code 64 = .ok (.iadd, 1) := by decide +kernel
theorem de_Mo_isRateHere_65 : decode prog_14_method_37_code 65 = .ok (.aload_n 0, 1) := by decide +kernel
theorem de_Mo_isRateHere_66 : decode prog_14_method_37_code 66 = .ok (.getfield 112, 3) := by decide +kernel
theorem de_Mo_isRateHere_69 : decode prog_14_method_37_code 69 = .ok (.iconst 3, 1) := by decide +kernel
theorem de_Mo_isRateHere_70 : decode prog_14_method_37_code 70 = .ok (.isub, 1) := by decide +kernel
theorem de_Mo_isRateHere_71 : decode prog_14_method_37_code 71 = .ok (.iastore, 1) := by decide +kernel
theorem de_Mo_isRateHere_72 : decode prog_14_method_37_code 72 = .ok (.iinc 3 1, 3) := by decide +kernel
theorem de_Mo_isRateHere_75 : decode prog_14_method_37_code 75 = .ok (.goto (-23), 3) := by decide +kernel
theorem de_Mo_isRateHere_78 : decode prog_14_method_37_code 78 = .ok (.iconst 1, 1) := by decide +kernel
theorem de_Mo_isRateHere_79 : decode prog_14_method_37_code 79 = .ok (.ireturn, 1) := by decide +kernel
set_option maxRecDepth 10000 in
theorem lo_Mo_isRateHere (hrd : rd_ok read) (v1 v2 : Int) (h1 : 0 ≤ v1) (h12 : v1 ≤ v2) (h2 : v2 ≤ 23) (hv0 : 0 ≤ number) (hv1 : number ≤ 6) : ∀ (n : Nat) (j : Nat), v1 + (j : Int) ≤ v2 + 1 → v2 + 1 < v1 + (j : Int) + n → ab_Ev g_G g_rs mt_Mo_isRateHere 2 0 0 52 [some (ab_R 0), some (ab_I v1), some (ab_I v2), some (ab_I (v1 + (j : Int)))] [] (mo_W tape taped rules sign leng clause clauses (rs_fill read (10 + v1) (number - 3) j) next wrong number text made deep lines opn opened stack top word said xx was undone kept sumOf faced slotAt dayAt row bestRow tMany tMost drawX images imageX isMade) (ab_is (some (ab_I (1))) (mo_W tape taped rules sign leng clause clauses (rs_fill read (10 + v1) (number - 3) (v2 - v1 + 1).toNat) next wrong number text made deep lines opn opened stack top word said xx was undone kept sumOf faced slotAt dayAt row bestRow tMany tMost drawX images imageX isMade)) := by
  intro n
  induction n with
  | zero =>
    intro j
    intro g0 g1; omega
  | succ n ih =>
    intro j
    intro g0 g1
    refine ev_iload_n de_Mo_isRateHere_52 rfl rfl ?_
    refine ev_iload_n de_Mo_isRateHere_53 rfl rfl ?_
    refine ev_icmp_gt (tgt := 78) de_Mo_isRateHere_54 (by decide) (by omega) (by omega) (fun h54 => ?_) (fun h54 => ?_)
    · skip
      rw [show (v2 - v1 + 1).toNat = j by omega]
      refine ev_iconst de_Mo_isRateHere_78 ?_
      exact ev_zreturn de_Mo_isRateHere_79 rfl (by decide) ⟨rfl, rfl⟩
    · skip
      refine ev_aload_n de_Mo_isRateHere_57 rfl rfl ?_
      refine ev_getfield de_Mo_isRateHere_58 rfl fl_Mo_26 rfl ?_
      refine ev_bipush de_Mo_isRateHere_61 rfl ?_
      refine ev_iload_n de_Mo_isRateHere_63 rfl rfl ?_
      refine ev_iadd de_Mo_isRateHere_64 ?_
      refine ev_aload_n de_Mo_isRateHere_65 rfl rfl ?_
      refine ev_getfield de_Mo_isRateHere_66 rfl fl_Mo_112 rfl ?_
      refine ev_iconst de_Mo_isRateHere_69 ?_
      refine ev_isub de_Mo_isRateHere_70 ?_
      refine ev_iastore de_Mo_isRateHere_71 rfl (by omega) (by omega) (by omega) ?_
      refine ev_world (w' := mo_W _ _ _ _ _ _ _ _ _ _ _ _ _ _ _ _ _ _ _ _ _ _ _ _ _ _ _ _ _ _ _ _ _ _ _ _ _) rfl ?_
      refine ev_iinc (l' := [_, _, _, _]) de_Mo_isRateHere_72 rfl rfl ?_
      refine ev_goto (tgt := 52) de_Mo_isRateHere_75 (by decide) ?_
      refine ev_loc (l2 := [some (ab_R 0), some (ab_I v1), some (ab_I v2), some (ab_I (v1 + ((j + 1 : Nat) : Int)))]) (by rw [show v1 + ((j + 1 : Nat) : Int) = v1 + (j : Int) + 1 by omega]) ?_
      refine ev_world (w' := (mo_W tape taped rules sign leng clause clauses (rs_fill read (10 + v1) (number - 3) (j + 1)) next wrong number text made deep lines opn opened stack top word said xx was undone kept sumOf faced slotAt dayAt row bestRow tMany tMost drawX images imageX isMade)) (by show _ = (mo_W tape taped rules sign leng clause clauses (ab_up (rs_fill read (10 + v1) (number - 3) j) (10 + v1 + (j : Int)) (number - 3)) next wrong number text made deep lines opn opened stack top word said xx was undone kept sumOf faced slotAt dayAt row bestRow tMany tMost drawX images imageX isMade); rw [show 10 + v1 + (j : Int) = 10 + (v1 + (j : Int)) by omega]) ?_
      exact ih (j + 1) (by omega) (by omega)
set_option maxRecDepth 10000 in
theorem co_Mo_isRateHere (ht : tp_ok tape taped) (hn0 : 0 ≤ next) (hn1 : next ≤ taped) (hrd : rd_ok read) (hw : wrong = 0) (hnu : ab_in number) : ab_Mt g_G g_rs mt_Mo_isRateHere 2 0 0 [ab_R 0] (mo_W tape taped rules sign leng clause clauses read next wrong number text made deep lines opn opened stack top word said xx was undone kept sumOf faced slotAt dayAt row bestRow tMany tMost drawX images imageX isMade) (rq tape taped rules sign leng clause clauses text made deep lines opn opened stack top word said xx was undone kept sumOf faced slotAt dayAt row bestRow tMany tMost drawX images imageX isMade (rs_rate tape taped next read)) := by
  refine ab_Mt.of rfl (Nat.le_of_ble_eq_true rfl) ?_
  show ab_Ev g_G g_rs mt_Mo_isRateHere _ _ _ 0 [some (ab_R 0), none, none, none] [] _ _
  have hb := tk_le_b tape hn1
  refine ev_aload_n de_Mo_isRateHere_0 rfl rfl ?_
  refine ev_vn (ci := 11) de_Mo_isRateHere_1 (co_Mo_passWord ht hn0 hn1) kb_Mo_102 ⟨im_Mo_passWord, se_Mo_passWord⟩ rfl rfl rfl (Nat.le_of_ble_eq_true rfl) (by decide) rfl ?_
  refine ev_aload_n de_Mo_isRateHere_4 rfl rfl ?_
  refine ev_iconst de_Mo_isRateHere_5 ?_
  refine ev_bipush de_Mo_isRateHere_6 rfl ?_
  refine ev_virtual (ci := 11) (mc := 0) (ms := 0) (bc := 0) (bs := 0) de_Mo_isRateHere_8 (cq_Mo_numberHere ht (by omega) (by omega) 0 23 (by decide) (by decide) hw hnu) kb_Mo_164 ⟨im_Mo_numberHere, se_Mo_numberHere⟩ rfl rfl rfl (Nat.le_of_ble_eq_true rfl) (by decide) (Or.inl (fun r w1 h => by obtain ⟨nx, nu, wr, e, -⟩ := h; rw [e]; first | exact mo_Wn.trans mo_Wn.symm | rfl)) (fun r1 w1 hm1 => ?_)
  obtain ⟨nx1, nu1, wr1, rfl, hnx1, hnu1, hc1⟩ := hm1; rcases hc1 with ⟨rfl, rfl, hX1, hlo1, hhi1⟩ | ⟨rfl, hwr1, hX1⟩
  · skip
    refine ev_if_ne_t (tgt := 16) de_Mo_isRateHere_11 (by decide) (by decide) (by decide) ?_
    refine ev_aload_n de_Mo_isRateHere_16 rfl rfl ?_
    refine ev_getfield de_Mo_isRateHere_17 rfl fl_Mo_112 rfl ?_
    refine ev_istore_n (l' := [_, _, _, _]) de_Mo_isRateHere_20 rfl (Nat.le_of_ble_eq_true rfl) rfl ?_
    refine ev_aload_n de_Mo_isRateHere_21 rfl rfl ?_
    refine ev_iload_n de_Mo_isRateHere_22 rfl rfl ?_
    refine ev_bipush de_Mo_isRateHere_23 rfl ?_
    refine ev_virtual (ci := 11) (mc := 0) (ms := 0) (bc := 0) (bs := 0) de_Mo_isRateHere_25 (cq_Mo_numberHere ht hnx1.1 hnx1.2 nu1 23 hnu1 (by decide) rfl hnu1) kb_Mo_164 ⟨im_Mo_numberHere, se_Mo_numberHere⟩ rfl rfl rfl (Nat.le_of_ble_eq_true rfl) (by decide) (Or.inl (fun r w1 h => by obtain ⟨nx, nu, wr, e, -⟩ := h; rw [e]; first | exact mo_Wn.trans mo_Wn.symm | rfl)) (fun r1 w1 hm1 => ?_)
    obtain ⟨nx2, nu2, wr2, rfl, hnx2, hnu2, hc2⟩ := hm1; rcases hc2 with ⟨rfl, rfl, hX2, hlo2, hhi2⟩ | ⟨rfl, hwr2, hX2⟩
    · skip
      refine ev_if_ne_t (tgt := 33) de_Mo_isRateHere_28 (by decide) (by decide) (by decide) ?_
      refine ev_aload_n de_Mo_isRateHere_33 rfl rfl ?_
      refine ev_getfield de_Mo_isRateHere_34 rfl fl_Mo_112 rfl ?_
      refine ev_istore_n (l' := [_, _, _, _]) de_Mo_isRateHere_37 rfl (Nat.le_of_ble_eq_true rfl) rfl ?_
      refine ev_aload_n de_Mo_isRateHere_38 rfl rfl ?_
      refine ev_iconst de_Mo_isRateHere_39 ?_
      refine ev_bipush de_Mo_isRateHere_40 rfl ?_
      refine ev_virtual (ci := 11) (mc := 0) (ms := 0) (bc := 0) (bs := 0) de_Mo_isRateHere_42 (cq_Mo_numberHere ht hnx2.1 hnx2.2 0 6 (by decide) (by decide) rfl hnu2) kb_Mo_164 ⟨im_Mo_numberHere, se_Mo_numberHere⟩ rfl rfl rfl (Nat.le_of_ble_eq_true rfl) (by decide) (Or.inl (fun r w1 h => by obtain ⟨nx, nu, wr, e, -⟩ := h; rw [e]; first | exact mo_Wn.trans mo_Wn.symm | rfl)) (fun r1 w1 hm1 => ?_)
      obtain ⟨nx3, nu3, wr3, rfl, hnx3, hnu3, hc3⟩ := hm1; rcases hc3 with ⟨rfl, rfl, hX3, hlo3, hhi3⟩ | ⟨rfl, hwr3, hX3⟩
      · skip
        refine ev_if_ne_t (tgt := 50) de_Mo_isRateHere_45 (by decide) (by decide) (by decide) ?_
        refine ev_iload_n de_Mo_isRateHere_50 rfl rfl ?_
        refine ev_istore_n (l' := [_, _, _, _]) de_Mo_isRateHere_51 rfl (Nat.le_of_ble_eq_true rfl) rfl ?_
        refine ev_loc (l2 := [some (ab_R 0), some (ab_I nu1), some (ab_I nu2), some (ab_I (nu1 + ((0 : Nat) : Int)))]) (by rw [show nu1 + ((0 : Nat) : Int) = nu1 by omega]) ?_
        refine ev_conseq (fun r w2 h => ?_) (lo_Mo_isRateHere hrd nu1 nu2 hlo1 hlo2 hhi2 hlo3 hhi3 ((nu2 + 1 - nu1).toNat + 1) 0 (by omega) (by omega))
        obtain ⟨rfl, rfl⟩ := h
        exact ⟨_, _, _, _, rfl, hnx3, rd_fill hrd (by omega) (by omega) (by omega) _ (by omega), hnu3, Or.inl ⟨rfl, rfl, by unfold rs_rate; simp only [hX1, hX2, hX3]⟩⟩
      · skip
        refine ev_if_ne_f (tgt := 50) de_Mo_isRateHere_45 (by decide) (by decide) (by decide) ?_
        refine ev_iconst de_Mo_isRateHere_48 ?_
        exact ev_zreturn de_Mo_isRateHere_49 rfl (by decide) ⟨_, _, _, _, rfl, hnx3, hrd, hnu3, Or.inr ⟨rfl, hwr3, by unfold rs_rate; simp only [hX1, hX2, hX3]⟩⟩
    · skip
      refine ev_if_ne_f (tgt := 33) de_Mo_isRateHere_28 (by decide) (by decide) (by decide) ?_
      refine ev_iconst de_Mo_isRateHere_31 ?_
      exact ev_zreturn de_Mo_isRateHere_32 rfl (by decide) ⟨_, _, _, _, rfl, hnx2, hrd, hnu2, Or.inr ⟨rfl, hwr2, by unfold rs_rate; simp only [hX1, hX2]⟩⟩
  · skip
    refine ev_if_ne_f (tgt := 16) de_Mo_isRateHere_11 (by decide) (by decide) (by decide) ?_
    refine ev_iconst de_Mo_isRateHere_14 ?_
    exact ev_zreturn de_Mo_isRateHere_15 rfl (by decide) ⟨_, _, _, _, rfl, hnx1, hrd, hnu1, Or.inr ⟨rfl, hwr1, by unfold rs_rate; simp only [hX1]⟩⟩
end MO
