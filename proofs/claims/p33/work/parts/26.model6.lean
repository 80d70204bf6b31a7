section MO
variable {tape : Int → Int} {taped : Int} {rules : Int} {sign : Int → Int} {leng : Int → Int} {clause : Int → Int} {clauses : Int → Int} {read : Int → Int} {next : Int} {wrong : Int} {number : Int} {text : Int} {made : Int} {deep : Int} {lines : Int} {opn : Int → Int} {opened : Int} {stack : Int → Int64} {top : Int} {word : Int → Int64} {said : Int → Int} {xx : Int} {was : Int → Int} {undone : Int} {kept : Int → Int} {sumOf : Int → Int} {faced : Int → Int} {slotAt : Int → Int} {dayAt : Int → Int} {row : Int → Int} {bestRow : Int → Int} {tMany : Int} {tMost : Int} {drawX : Int64} {images : Int → Int} {imageX : Int → Int} {isMade : Int → Int}
theorem sp_way_b (a b : Int) : 0 ≤ sp_way a b ∧ sp_way a b ≤ 6 := by unfold sp_way; split <;> omega
def sp_fc (f : Int → Int) (h : Int) (faced : Int → Int) (n : Nat) : Int → Int := fun j => if 0 ≤ j ∧ j < n then sp_facesOf (sp_passN f j.toNat) h else faced j
theorem sp_fc_s (f : Int → Int) (h : Int) (faced : Int → Int) (n : Nat) : ab_up (sp_fc f h faced n) (n : Int) (sp_facesOf (sp_passN f n) h) = sp_fc f h faced (n + 1) := by
  funext j
  unfold ab_up sp_fc
  by_cases h1 : j = (n : Int)
  · rw [if_pos h1, if_pos (by omega), h1]; rfl
  · rw [if_neg h1]
    by_cases h2 : 0 ≤ j ∧ j < n
    · rw [if_pos h2, if_pos (by omega)]
    · rw [if_neg h2, if_neg (by omega)]
theorem sp_fc_0 (f : Int → Int) (h : Int) (faced : Int → Int) : sp_fc f h faced 0 = faced := by
  funext j
  unfold sp_fc
  rw [if_neg (by omega)]
theorem sp_fc_b (f : Int → Int) (h : Int) (faced : Int → Int) (n : Nat) (j : Int) (h0 : 0 ≤ j) (h1 : j < n) : 0 ≤ sp_fc f h faced n j ∧ sp_fc f h faced n j ≤ 11 := by
  unfold sp_fc
  rw [if_pos ⟨h0, h1⟩]
  exact sp_facesOf_b _ _
theorem sp_lv_b (faced : Int → Int) (gate : Int) : ∀ (n : Nat) (t : Int), t ≤ sp_lv faced gate n t ∧ sp_lv faced gate n t ≤ t + n
  | 0, t => by unfold sp_lv; omega
  | n + 1, t => by
    have ih := sp_lv_b faced gate n (t + 1)
    unfold sp_lv
    split <;> omega
theorem sp_bk_b (faced : Int → Int) (gs : Nat) (gate lw : Int) : ∀ (n : Nat) (t : Int), 0 ≤ t → t + n ≤ 1000 → -1 ≤ sp_bk faced gs gate lw n t ∧ sp_bk faced gs gate lw n t ≤ 1000
  | 0, t, _, _ => by unfold sp_bk; omega
  | n + 1, t, h0, h1 => by
    have ih := sp_bk_b faced gs gate lw n (t + 1) (by omega) (by omega)
    unfold sp_bk
    split <;> omega
def sp_errand (f faced : Int → Int) (gate w what : Int) : Int :=
  let lv := sp_lv faced gate 49 0
  let bk := if 48 < lv then -1 else sp_bk faced (f 3).toNat gate (lv + w) (97 - (lv + w)).toNat (lv + w)
  if bk < 0 then -2 else if what = 0 then lv else bk
def sp_swc (f : Int → Int) (h : Int) : Nat → Int
  | 0 => 0
  | k + 1 => sp_swc f h k + (if k.testBit h.toNat = false ∧ 2 * sp_votesOf f k ≤ sp_votesOf f (sp_every f) ∧ sp_votesOf f (sp_every f) < 2 * sp_votesOf f (k ||| 2 ^ h.toNat) then 1 else 0)
theorem sp_swc_b (f : Int → Int) (h : Int) : ∀ k : Nat, 0 ≤ sp_swc f h k ∧ sp_swc f h k ≤ (k : Int)
  | 0 => by unfold sp_swc; omega
  | k + 1 => by
    have ih := sp_swc_b f h k
    unfold sp_swc
    split <;> omega
theorem sp_every_b {B : Int} {f : Int → Int} (h : sg_ok B f) : sp_every f ≤ 127 := by
  obtain ⟨-, i1, -⟩ := sg_all h
  have : 2 ^ (f 1).toNat ≤ 2 ^ 7 := Nat.pow_le_pow_right (by decide) (by omega)
  unfold sp_every
  omega
theorem sp_votesOf_b {B : Int} {f : Int → Int} (h : sg_ok B f) (set : Nat) : 0 ≤ sp_votesOf f set ∧ sp_votesOf f set ≤ 63 := by
  obtain ⟨-, i1, -⟩ := sg_all h
  have := sp_sumV_b h set (f 1).toNat (by omega)
  unfold sp_votesOf
  omega
def sp_count (f : Int → Int) (rules undone xx taped w : Int) : Int := if w = 0 then f 1 else if w = 1 then f 2 else if w = 2 then f 3 else if w = 3 then rules else if w = 4 then f 4 else if w = 5 then f 5 else if w = 6 then f 6 else if w = 7 then sp_allLike f else if w = 8 then f 7 else if w = 9 then f 8 else if w = 10 then f 190 else if w = 11 then undone else if w = 12 then xx else if w = 13 then taped else if w = 14 then sp_votesOf f (sp_every f) else -100000
def sp_im (said images : Int → Int) (u : Int) (n : Nat) : Int → Int := fun j => if 191 * u ≤ j ∧ j < 191 * u + n then said (j - 191 * u) else images j
theorem sp_im_s (said was : Int → Int) (u : Int) (n : Nat) : ab_up (sp_im said was u n) (191 * u + (n : Int)) (said (n : Int)) = sp_im said was u (n + 1) := by
  funext j
  unfold ab_up sp_im
  by_cases h : j = 191 * u + (n : Int)
  · rw [if_pos h, if_pos (by omega), h, show 191 * u + (n : Int) - 191 * u = (n : Int) by omega]
  · rw [if_neg h]
    by_cases h2 : 191 * u ≤ j ∧ j < 191 * u + n
    · rw [if_pos h2, if_pos (by omega)]
    · rw [if_neg h2, if_neg (by omega)]
theorem sp_im_0 (said was : Int → Int) (u : Int) : sp_im said was u 0 = was := by
  funext j
  unfold sp_im
  rw [if_neg (by omega)]
def sp_img (images : Int → Int) (u : Int) : Int → Int := fun k => images (191 * u + k)
def sp_dia (f : Int → Int) (h n s z : Int) : Int → Int := ab_up (ab_up (ab_up (ab_up (ab_up f (150 + 4 * f 190) h) (150 + 4 * f 190 + 1) n) (150 + 4 * f 190 + 2) s) (150 + 4 * f 190 + 3) z) 190 (f 190 + 1)
theorem de_Mo_backFrom_0 : decode prog_14_method_92_code 0 = .ok (.iload_n 2, 1) := by decide +kernel
theorem de_Mo_backFrom_1 : decode prog_14_method_92_code 1 = .ok (.iload_n 3, 1) := by decide +kernel
theorem de_Mo_backFrom_2 : decode prog_14_method_92_code 2 = .ok (.iadd, 1) := by decide +kernel
theorem de_Mo_backFrom_3 : decode prog_14_method_92_code 3 = .ok (.istore 4, 2) := by decide +kernel
theorem de_Mo_backFrom_5 : decode prog_14_method_92_code 5 = .ok (.iload 4, 2) := by decide +kernel
theorem de_Mo_backFrom_7 : decode prog_14_method_92_code 7 = .ok (.bipush 96, 2) := by decide +kernel
theorem de_Mo_backFrom_9 : decode prog_14_method_92_code 9 = .ok (.if_icmp .gt 51, 3) := by decide +kernel
theorem de_Mo_backFrom_12 : decode prog_14_method_92_code 12 = .ok (.aload_n 0, 1) := by decide +kernel
theorem de_Mo_backFrom_13 : decode prog_14_method_92_code 13 = .ok (.getfield 39, 3) := by decide +kernel
theorem de_Mo_backFrom_16 : decode prog_14_method_92_code 16 = .ok (.iconst 3, 1) := by decide +kernel
theorem de_Mo_backFrom_17 : decode prog_14_method_92_code 17 = .ok (.iaload, 1) := by decide +kernel
theorem de_Mo_backFrom_18 : decode prog_14_method_92_code 18 = .ok (.aload_n 0, 1) := by decide +kernel
theorem de_Mo_backFrom_19 : decode prog_14_method_92_code 19 = .ok (.getfield 51, 3) := by decide +kernel
theorem de_Mo_backFrom_22 : decode prog_14_method_92_code 22 = .ok (.iload 4, 2) := by decide +kernel
theorem de_Mo_backFrom_24 : decode prog_14_method_92_code 24 = .ok (.iaload, 1) := by decide +kernel
theorem de_Mo_backFrom_25 : decode prog_14_method_92_code 25 = .ok (.invokestatic 294, 3) := by decide +kernel
theorem de_Mo_backFrom_28 : decode prog_14_method_92_code 28 = .ok (.ifCond .eq 26, 3) := by decide +kernel
theorem de_Mo_backFrom_31 : decode prog_14_method_92_code 31 = .ok (.iload 4, 2) := by decide +kernel
theorem de_Mo_backFrom_33 : decode prog_14_method_92_code 33 = .ok (.iload_n 2, 1) := by decide +kernel
theorem de_Mo_backFrom_34 : decode prog_14_method_92_code 34 = .ok (.iload_n 3, 1) := by decide +kernel
theorem de_Mo_backFrom_35 : decode prog_14_method_92_code 35 = .ok (.iadd, 1) := by decide +kernel
theorem de_Mo_backFrom_36 : decode prog_14_method_92_code 36 = .ok (.iload_n 1, 1) := by decide +kernel
theorem de_Mo_backFrom_37 : decode prog_14_method_92_code 37 = .ok (.aload_n 0, 1) := by decide +kernel
theorem de_Mo_backFrom_38 : decode prog_14_method_92_code 38 = .ok (.getfield 51, 3) := by decide +kernel
theorem de_Mo_backFrom_41 : decode prog_14_method_92_code 41 = .ok (.iload 4, 2) := by decide +kernel
theorem de_Mo_backFrom_43 : decode prog_14_method_92_code 43 = .ok (.iaload, 1) := by decide +kernel
theorem de_Mo_backFrom_44 : decode prog_14_method_92_code 44 = .ok (.invokestatic 412, 3) := by decide +kernel
theorem de_Mo_backFrom_47 : decode prog_14_method_92_code 47 = .ok (.iadd, 1) := by decide +kernel
theorem de_Mo_backFrom_48 : decode prog_14_method_92_code 48 = .ok (.if_icmp .lt 6, 3) := by decide +kernel
theorem de_Mo_backFrom_51 : decode prog_14_method_92_code 51 = .ok (.iload 4, 2) := by decide +kernel
theorem de_Mo_backFrom_53 : decode prog_14_method_92_code 53 = .ok (.ireturn, 1) := by decide +kernel
theorem de_Mo_backFrom_54 : decode prog_14_method_92_code 54 = .ok (.iinc 4 1, 3) := by decide +kernel
theorem de_Mo_backFrom_57 : decode prog_14_method_92_code 57 = .ok (.goto (-52), 3) := by decide +kernel
theorem de_Mo_backFrom_60 : decode prog_14_method_92_code 60 = .ok (.iconst (-1), 1) := by decide +kernel
theorem de_Mo_backFrom_61 : decode prog_14_method_92_code 61 = .ok (.ireturn, 1) := by decide +kernel
set_option maxRecDepth 10000 in
theorem lo_Mo_backFrom {B : Int} (hI : sg_ok B said) (hf : ∀ j, 0 ≤ j → j < 97 → 0 ≤ faced j ∧ faced j ≤ 11) (gate lv ww : Int) (hg : 0 ≤ gate ∧ gate ≤ 11) (hl : 0 ≤ lv ∧ lv ≤ 48) (hw : 0 ≤ ww ∧ ww ≤ 24) : ∀ (n : Nat) (t : Int), lv + ww ≤ t → t ≤ 97 → 97 < t + n → ab_Ev g_G g_rs mt_Mo_backFrom 2 0 0 5 [some (ab_R 0), some (ab_I gate), some (ab_I lv), some (ab_I ww), some (ab_I t)] [] (mo_W tape taped rules sign leng clause clauses read next wrong number text made deep lines opn opened stack top word said xx was undone kept sumOf faced slotAt dayAt row bestRow tMany tMost drawX images imageX isMade) (ab_is (some (ab_I (sp_bk faced (said 3).toNat gate (lv + ww) (97 - t).toNat t))) (mo_W tape taped rules sign leng clause clauses read next wrong number text made deep lines opn opened stack top word said xx was undone kept sumOf faced slotAt dayAt row bestRow tMany tMost drawX images imageX isMade)) := by
  intro n
  induction n with
  | zero =>
    intro t
    intro h0 h1 h2; omega
  | succ n ih =>
    intro t
    intro g0 g1 g2
    have hJ := hI; obtain ⟨i0, i1, i2, i3, i4, i5, i6, i7, i8, i9, i10, i11, i12, i13, i14, i15, i16, i17⟩ := sg_all hJ
    refine ev_iload de_Mo_backFrom_5 rfl ?_
    refine ev_bipush de_Mo_backFrom_7 rfl ?_
    refine ev_icmp_gt (tgt := 60) de_Mo_backFrom_9 (by decide) (by omega) (by omega) (fun h9 => ?_) (fun h9 => ?_)
    · skip
      refine ev_iconst de_Mo_backFrom_60 ?_
      exact ev_ireturn de_Mo_backFrom_61 rfl ⟨by rw [show (97 - t).toNat = 0 by omega]; rfl, rfl⟩
    · skip
      have qf := hf t (by omega) (by omega)
      have qw := sp_way_b gate (faced t)
      refine ev_aload_n de_Mo_backFrom_12 rfl rfl ?_
      refine ev_getfield de_Mo_backFrom_13 rfl fl_Mo_39 rfl ?_
      refine ev_iconst de_Mo_backFrom_16 ?_
      refine ev_iaload de_Mo_backFrom_17 rfl (by omega) (by omega) (by omega) ?_
      refine ev_aload_n de_Mo_backFrom_18 rfl rfl ?_
      refine ev_getfield de_Mo_backFrom_19 rfl fl_Mo_51 rfl ?_
      refine ev_iload de_Mo_backFrom_22 rfl ?_
      refine ev_iaload de_Mo_backFrom_24 rfl (by omega) (by omega) (by omega) ?_
      refine ev_sv de_Mo_backFrom_25 (co_Mo_isOf _ _ _ (by omega) (by omega) (by omega) (by omega)) kb_Mo_294 sc_Mo_isOf rfl (Nat.le_of_ble_eq_true rfl) (by decide) rfl ?_
      have qb := bit_01 (said 3).toNat (faced t).toNat
      refine ev_if_eq (tgt := 54) de_Mo_backFrom_28 (by decide) (by omega) (fun h28 => ?_) (fun h28 => ?_)
      · skip
        have tb : (said 3).toNat.testBit (faced t).toNat = false := bit_z.mp h28
        have e : sp_bk faced (said 3).toNat gate (lv + ww) (97 - t).toNat t = sp_bk faced (said 3).toNat gate (lv + ww) (97 - (t + 1)).toNat (t + 1) := by
          rw [show (97 - t).toNat = (97 - (t + 1)).toNat + 1 by omega]
          show (if _ then _ else _) = _
          rw [if_neg (fun z => by first | (rw [tb] at z; exact absurd z.1 (by decide)) | omega)]
        rw [e]
        refine ev_iinc (l' := [_, _, _, _, _]) de_Mo_backFrom_54 rfl rfl ?_
        refine ev_goto (tgt := 5) de_Mo_backFrom_57 (by decide) ?_
        exact ih (t + 1) (by omega) (by omega) (by omega)
      · skip
        have tb : (said 3).toNat.testBit (faced t).toNat = true := bit_nz.mp h28
        refine ev_iload de_Mo_backFrom_31 rfl ?_
        refine ev_iload_n de_Mo_backFrom_33 rfl rfl ?_
        refine ev_iload_n de_Mo_backFrom_34 rfl rfl ?_
        refine ev_iadd de_Mo_backFrom_35 ?_
        refine ev_iload_n de_Mo_backFrom_36 rfl rfl ?_
        refine ev_aload_n de_Mo_backFrom_37 rfl rfl ?_
        refine ev_getfield de_Mo_backFrom_38 rfl fl_Mo_51 rfl ?_
        refine ev_iload de_Mo_backFrom_41 rfl ?_
        refine ev_iaload de_Mo_backFrom_43 rfl (by omega) (by omega) (by omega) ?_
        refine ev_sv de_Mo_backFrom_44 (co_Mo_way _ _ _ (by omega) (by omega)) kb_Mo_412 sc_Mo_way rfl (Nat.le_of_ble_eq_true rfl) (by decide) rfl ?_
        refine ev_iadd de_Mo_backFrom_47 ?_
        refine ev_icmp_lt (tgt := 54) de_Mo_backFrom_48 (by decide) (by omega) (by omega) (fun h48 => ?_) (fun h48 => ?_)
        · skip
          have e : sp_bk faced (said 3).toNat gate (lv + ww) (97 - t).toNat t = sp_bk faced (said 3).toNat gate (lv + ww) (97 - (t + 1)).toNat (t + 1) := by
            rw [show (97 - t).toNat = (97 - (t + 1)).toNat + 1 by omega]
            show (if _ then _ else _) = _
            rw [if_neg (fun z => by first | (rw [tb] at z; exact absurd z.1 (by decide)) | omega)]
          rw [e]
          refine ev_iinc (l' := [_, _, _, _, _]) de_Mo_backFrom_54 rfl rfl ?_
          refine ev_goto (tgt := 5) de_Mo_backFrom_57 (by decide) ?_
          exact ih (t + 1) (by omega) (by omega) (by omega)
        · skip
          refine ev_iload de_Mo_backFrom_51 rfl ?_
          exact ev_ireturn de_Mo_backFrom_53 rfl ⟨by rw [show (97 - t).toNat = (97 - (t + 1)).toNat + 1 by omega]; show _ = some (ab_I (if _ then _ else _)); rw [if_pos ⟨tb, by omega⟩], rfl⟩
set_option maxRecDepth 10000 in
theorem co_Mo_backFrom {B : Int} (hI : sg_ok B said) (hf : ∀ j, 0 ≤ j → j < 97 → 0 ≤ faced j ∧ faced j ≤ 11) (gate lv ww : Int) (hg : 0 ≤ gate ∧ gate ≤ 11) (hl : 0 ≤ lv ∧ lv ≤ 48) (hw : 0 ≤ ww ∧ ww ≤ 24) : ab_Mt g_G g_rs mt_Mo_backFrom 2 0 0 [ab_R 0, ab_I gate, ab_I lv, ab_I ww] (mo_W tape taped rules sign leng clause clauses read next wrong number text made deep lines opn opened stack top word said xx was undone kept sumOf faced slotAt dayAt row bestRow tMany tMost drawX images imageX isMade) (ab_is (some (ab_I (sp_bk faced (said 3).toNat gate (lv + ww) (97 - (lv + ww)).toNat (lv + ww)))) (mo_W tape taped rules sign leng clause clauses read next wrong number text made deep lines opn opened stack top word said xx was undone kept sumOf faced slotAt dayAt row bestRow tMany tMost drawX images imageX isMade)) := by
  refine ab_Mt.of rfl (Nat.le_of_ble_eq_true rfl) ?_
  show ab_Ev g_G g_rs mt_Mo_backFrom _ _ _ 0 [some (ab_R 0), some (ab_I gate), some (ab_I lv), some (ab_I ww), none] [] _ _
  refine ev_iload_n de_Mo_backFrom_0 rfl rfl ?_
  refine ev_iload_n de_Mo_backFrom_1 rfl rfl ?_
  refine ev_iadd de_Mo_backFrom_2 ?_
  refine ev_istore (l' := [_, _, _, _, _]) de_Mo_backFrom_3 (Nat.le_of_ble_eq_true rfl) rfl ?_
  exact lo_Mo_backFrom hI hf gate lv ww hg hl hw 98 (lv + ww) (by omega) (by omega) (by omega)
theorem de_Mo_errand_0 : decode prog_14_method_93_code 0 = .ok (.aload_n 0, 1) := by decide +kernel
theorem de_Mo_errand_1 : decode prog_14_method_93_code 1 = .ok (.iload_n 1, 1) := by decide +kernel
theorem de_Mo_errand_2 : decode prog_14_method_93_code 2 = .ok (.invokevirtual 316, 3) := by decide +kernel
theorem de_Mo_errand_5 : decode prog_14_method_93_code 5 = .ok (.ifCond .eq 51, 3) := by decide +kernel
theorem de_Mo_errand_8 : decode prog_14_method_93_code 8 = .ok (.iload_n 2, 1) := by decide +kernel
theorem de_Mo_errand_9 : decode prog_14_method_93_code 9 = .ok (.i2l, 1) := by decide +kernel
theorem de_Mo_errand_10 : decode prog_14_method_93_code 10 = .ok (.lconst 0, 1) := by decide +kernel
theorem de_Mo_errand_11 : decode prog_14_method_93_code 11 = .ok (.ldc2_w 326, 3) := by decide +kernel
theorem de_Mo_errand_14 : decode prog_14_method_93_code 14 = .ok (.invokestatic 115, 3) := by decide +kernel
theorem de_Mo_errand_17 : decode prog_14_method_93_code 17 = .ok (.ifCond .eq 39, 3) := by decide +kernel
theorem de_Mo_errand_20 : decode prog_14_method_93_code 20 = .ok (.aload_n 0, 1) := by decide +kernel
theorem de_Mo_errand_21 : decode prog_14_method_93_code 21 = .ok (.getfield 39, 3) := by decide +kernel
theorem de_Mo_errand_24 : decode prog_14_method_93_code 24 = .ok (.iconst 3, 1) := by decide +kernel
theorem de_Mo_errand_25 : decode prog_14_method_93_code 25 = .ok (.iaload, 1) := by decide +kernel
theorem de_Mo_errand_26 : decode prog_14_method_93_code 26 = .ok (.iload_n 2, 1) := by decide +kernel
theorem de_Mo_errand_27 : decode prog_14_method_93_code 27 = .ok (.invokestatic 294, 3) := by decide +kernel
theorem de_Mo_errand_30 : decode prog_14_method_93_code 30 = .ok (.ifCond .eq 26, 3) := by decide +kernel
theorem de_Mo_errand_33 : decode prog_14_method_93_code 33 = .ok (.iload_n 3, 1) := by decide +kernel
theorem de_Mo_errand_34 : decode prog_14_method_93_code 34 = .ok (.i2l, 1) := by decide +kernel
theorem de_Mo_errand_35 : decode prog_14_method_93_code 35 = .ok (.lconst 0, 1) := by decide +kernel
theorem de_Mo_errand_36 : decode prog_14_method_93_code 36 = .ok (.ldc2_w 415, 3) := by decide +kernel
theorem de_Mo_errand_39 : decode prog_14_method_93_code 39 = .ok (.invokestatic 115, 3) := by decide +kernel
theorem de_Mo_errand_42 : decode prog_14_method_93_code 42 = .ok (.ifCond .eq 14, 3) := by decide +kernel
theorem de_Mo_errand_45 : decode prog_14_method_93_code 45 = .ok (.iload 4, 2) := by decide +kernel
theorem de_Mo_errand_47 : decode prog_14_method_93_code 47 = .ok (.i2l, 1) := by decide +kernel
theorem de_Mo_errand_48 : decode prog_14_method_93_code 48 = .ok (.lconst 0, 1) := by decide +kernel
theorem de_Mo_errand_49 : decode prog_14_method_93_code 49 = .ok (.lconst 1, 1) := by decide +kernel
theorem de_Mo_errand_50 : decode prog_14_method_93_code 50 = .ok (.invokestatic 115, 3) := by decide +kernel
theorem de_Mo_errand_53 : decode prog_14_method_93_code 53 = .ok (.ifCond .ne 5, 3) := by decide +kernel
theorem de_Mo_errand_56 : decode prog_14_method_93_code 56 = .ok (.iconst (-1), 1) := by decide +kernel
theorem de_Mo_errand_57 : decode prog_14_method_93_code 57 = .ok (.ireturn, 1) := by decide +kernel
theorem de_Mo_errand_58 : decode prog_14_method_93_code 58 = .ok (.aload_n 0, 1) := by decide +kernel
theorem de_Mo_errand_59 : decode prog_14_method_93_code 59 = .ok (.invokevirtual 390, 3) := by decide +kernel
theorem de_Mo_errand_62 : decode prog_14_method_93_code 62 = .ok (.iconst 0, 1) := by decide +kernel
theorem de_Mo_errand_63 : decode prog_14_method_93_code 63 = .ok (.istore 5, 2) := by decide +kernel
theorem de_Mo_errand_65 : decode prog_14_method_93_code 65 = .ok (.iload 5, 2) := by decide +kernel
theorem de_Mo_errand_67 : decode prog_14_method_93_code 67 = .ok (.bipush 96, 2) := by decide +kernel
theorem de_Mo_errand_69 : decode prog_14_method_93_code 69 = .ok (.if_icmp .gt 26, 3) := by decide +kernel
theorem de_Mo_errand_72 : decode prog_14_method_93_code 72 = .ok (.aload_n 0, 1) := by decide +kernel
theorem de_Mo_errand_73 : decode prog_14_method_93_code 73 = .ok (.getfield 51, 3) := by decide +kernel
theorem de_Mo_errand_76 : decode prog_14_method_93_code 76 = .ok (.iload 5, 2) := by decide +kernel
theorem de_Mo_errand_78 : decode prog_14_method_93_code 78 = .ok (.aload_n 0, 1) := by decide +kernel
theorem de_Mo_errand_79 : decode prog_14_method_93_code 79 = .ok (.iload_n 1, 1) := by decide +kernel
theorem de_Mo_errand_80 : decode prog_14_method_93_code 80 = .ok (.invokevirtual 300, 3) := by decide +kernel
theorem de_Mo_errand_83 : decode prog_14_method_93_code 83 = .ok (.iastore, 1) := by decide +kernel
theorem de_Mo_errand_84 : decode prog_14_method_93_code 84 = .ok (.aload_n 0, 1) := by decide +kernel
theorem de_Mo_errand_85 : decode prog_14_method_93_code 85 = .ok (.invokevirtual 347, 3) := by decide +kernel
theorem de_Mo_errand_88 : decode prog_14_method_93_code 88 = .ok (.pop, 1) := by decide +kernel
theorem de_Mo_errand_89 : decode prog_14_method_93_code 89 = .ok (.iinc 5 1, 3) := by decide +kernel
theorem de_Mo_errand_92 : decode prog_14_method_93_code 92 = .ok (.goto (-27), 3) := by decide +kernel
theorem de_Mo_errand_95 : decode prog_14_method_93_code 95 = .ok (.aload_n 0, 1) := by decide +kernel
theorem de_Mo_errand_96 : decode prog_14_method_93_code 96 = .ok (.invokevirtual 393, 3) := by decide +kernel
theorem de_Mo_errand_99 : decode prog_14_method_93_code 99 = .ok (.iconst 0, 1) := by decide +kernel
theorem de_Mo_errand_100 : decode prog_14_method_93_code 100 = .ok (.istore 5, 2) := by decide +kernel
theorem de_Mo_errand_102 : decode prog_14_method_93_code 102 = .ok (.iload 5, 2) := by decide +kernel
theorem de_Mo_errand_104 : decode prog_14_method_93_code 104 = .ok (.bipush 48, 2) := by decide +kernel
theorem de_Mo_errand_106 : decode prog_14_method_93_code 106 = .ok (.if_icmp .gt 20, 3) := by decide +kernel
theorem de_Mo_errand_109 : decode prog_14_method_93_code 109 = .ok (.aload_n 0, 1) := by decide +kernel
theorem de_Mo_errand_110 : decode prog_14_method_93_code 110 = .ok (.getfield 51, 3) := by decide +kernel
theorem de_Mo_errand_113 : decode prog_14_method_93_code 113 = .ok (.iload 5, 2) := by decide +kernel
theorem de_Mo_errand_115 : decode prog_14_method_93_code 115 = .ok (.iaload, 1) := by decide +kernel
theorem de_Mo_errand_116 : decode prog_14_method_93_code 116 = .ok (.iload_n 2, 1) := by decide +kernel
theorem de_Mo_errand_117 : decode prog_14_method_93_code 117 = .ok (.if_icmp .eq 9, 3) := by decide +kernel
theorem de_Mo_errand_120 : decode prog_14_method_93_code 120 = .ok (.iinc 5 1, 3) := by decide +kernel
theorem de_Mo_errand_123 : decode prog_14_method_93_code 123 = .ok (.goto (-21), 3) := by decide +kernel
theorem de_Mo_errand_126 : decode prog_14_method_93_code 126 = .ok (.iload 5, 2) := by decide +kernel
theorem de_Mo_errand_128 : decode prog_14_method_93_code 128 = .ok (.bipush 48, 2) := by decide +kernel
theorem de_Mo_errand_130 : decode prog_14_method_93_code 130 = .ok (.if_icmp .le 7, 3) := by decide +kernel
theorem de_Mo_errand_133 : decode prog_14_method_93_code 133 = .ok (.iconst (-1), 1) := by decide +kernel
theorem de_Mo_errand_134 : decode prog_14_method_93_code 134 = .ok (.goto 11, 3) := by decide +kernel
theorem de_Mo_errand_137 : decode prog_14_method_93_code 137 = .ok (.aload_n 0, 1) := by decide +kernel
theorem de_Mo_errand_138 : decode prog_14_method_93_code 138 = .ok (.iload_n 2, 1) := by decide +kernel
theorem de_Mo_errand_139 : decode prog_14_method_93_code 139 = .ok (.iload 5, 2) := by decide +kernel
theorem de_Mo_errand_141 : decode prog_14_method_93_code 141 = .ok (.iload_n 3, 1) := by decide +kernel
theorem de_Mo_errand_142 : decode prog_14_method_93_code 142 = .ok (.invokevirtual 417, 3) := by decide +kernel
theorem de_Mo_errand_145 : decode prog_14_method_93_code 145 = .ok (.istore 6, 2) := by decide +kernel
theorem de_Mo_errand_147 : decode prog_14_method_93_code 147 = .ok (.iload 6, 2) := by decide +kernel
theorem de_Mo_errand_149 : decode prog_14_method_93_code 149 = .ok (.ifCond .ge 8, 3) := by decide +kernel
theorem de_Mo_errand_152 : decode prog_14_method_93_code 152 = .ok (.bipush (-2), 2) := by decide +kernel
theorem de_Mo_errand_154 : decode prog_14_method_93_code 154 = .ok (.goto 15, 3) := by decide +kernel
theorem de_Mo_errand_157 : decode prog_14_method_93_code 157 = .ok (.iload 4, 2) := by decide +kernel
theorem de_Mo_errand_159 : decode prog_14_method_93_code 159 = .ok (.ifCond .ne 8, 3) := by decide +kernel
theorem de_Mo_errand_162 : decode prog_14_method_93_code 162 = .ok (.iload 5, 2) := by decide +kernel
theorem de_Mo_errand_164 : decode prog_14_method_93_code 164 = .ok (.goto 5, 3) := by decide +kernel
theorem de_Mo_errand_167 : decode prog_14_method_93_code 167 = .ok (.iload 6, 2) := by decide +kernel
theorem de_Mo_errand_169 : decode prog_14_method_93_code 169 = .ok (.ireturn, 1) := by decide +kernel
set_option maxRecDepth 10000 in
theorem lo_Mo_errand2 (gate : Int) (hg : 0 ≤ gate ∧ gate ≤ 11) (hf : ∀ j, 0 ≤ j → j < 97 → 0 ≤ faced j ∧ faced j ≤ 11) (l1 l3 : Option ab_V) (w4 : Int) (Q : Option ab_V → ab_W → Prop) (hq : ab_Ev g_G g_rs mt_Mo_errand 4 0 0 126 [some (ab_R 0), l1, some (ab_I gate), l3, some (ab_I w4), some (ab_I (sp_lv faced gate 49 0)), none] [] (mo_W tape taped rules sign leng clause clauses read next wrong number text made deep lines opn opened stack top word said xx was undone kept sumOf faced slotAt dayAt row bestRow tMany tMost drawX images imageX isMade) Q) : ∀ (n : Nat) (t : Int), 0 ≤ t → t ≤ 49 → 49 < t + n → sp_lv faced gate (49 - t).toNat t = sp_lv faced gate 49 0 → ab_Ev g_G g_rs mt_Mo_errand 4 0 0 102 [some (ab_R 0), l1, some (ab_I gate), l3, some (ab_I w4), some (ab_I t), none] [] (mo_W tape taped rules sign leng clause clauses read next wrong number text made deep lines opn opened stack top word said xx was undone kept sumOf faced slotAt dayAt row bestRow tMany tMost drawX images imageX isMade) Q := by
  intro n
  induction n with
  | zero =>
    intro t
    intro g0 g1 g2; omega
  | succ n ih =>
    intro t
    intro g0 g1 g2 g3
    refine ev_iload de_Mo_errand_102 rfl ?_
    refine ev_bipush de_Mo_errand_104 rfl ?_
    refine ev_icmp_gt (tgt := 126) de_Mo_errand_106 (by decide) (by omega) (by omega) (fun h106 => ?_) (fun h106 => ?_)
    · skip
      have e : t = sp_lv faced gate 49 0 := by
        rw [← g3, show (49 - t).toNat = 0 by omega]
        rfl
      rw [e]
      exact hq
    · skip
      have qf := hf t (by omega) (by omega)
      refine ev_aload_n de_Mo_errand_109 rfl rfl ?_
      refine ev_getfield de_Mo_errand_110 rfl fl_Mo_51 rfl ?_
      refine ev_iload de_Mo_errand_113 rfl ?_
      refine ev_iaload de_Mo_errand_115 rfl (by omega) (by omega) (by omega) ?_
      refine ev_iload_n de_Mo_errand_116 rfl rfl ?_
      refine ev_icmp_eq (tgt := 126) de_Mo_errand_117 (by decide) (by omega) (by omega) (fun h117 => ?_) (fun h117 => ?_)
      · skip
        have e : t = sp_lv faced gate 49 0 := by
          rw [← g3, show (49 - t).toNat = (49 - (t + 1)).toNat + 1 by omega]
          show _ = (if _ then _ else _)
          rw [if_pos h117]
        rw [e]
        exact hq
      · skip
        refine ev_iinc (l' := [_, _, _, _, _, _, _]) de_Mo_errand_120 rfl rfl ?_
        refine ev_goto (tgt := 102) de_Mo_errand_123 (by decide) ?_
        refine ih (t + 1) (by omega) (by omega) (by omega) ?_
        rw [← g3, show (49 - t).toNat = (49 - (t + 1)).toNat + 1 by omega]
        show _ = (if _ then _ else _)
        rw [if_neg h117]
set_option maxRecDepth 10000 in
theorem lo_Mo_errand1 {B : Int} (hI : sg_ok B said) (hB : B ≤ 29000) (h0 : Int) (hh0 : 0 ≤ h0) (hh1 : h0 < 7) (l2 l3 : Option ab_V) (w4 : Int) (N : Nat) (hN : N = 97) (Q : Option ab_V → ab_W → Prop) (hq : ab_Ev g_G g_rs mt_Mo_errand 4 0 0 95 [some (ab_R 0), some (ab_I h0), l2, l3, some (ab_I w4), some (ab_I (N : Int)), none] [] (mo_W tape taped rules sign leng clause clauses read next wrong number text made deep lines opn opened stack top word (sp_passN said N) xx was undone kept sumOf (sp_fc said h0 faced N) slotAt dayAt row bestRow tMany tMost drawX images imageX isMade) Q) : ∀ (n : Nat) (k : Nat), k ≤ N → N < k + n → ab_Ev g_G g_rs mt_Mo_errand 4 0 0 65 [some (ab_R 0), some (ab_I h0), l2, l3, some (ab_I w4), some (ab_I (k : Int)), none] [] (mo_W tape taped rules sign leng clause clauses read next wrong number text made deep lines opn opened stack top word (sp_passN said k) xx was undone kept sumOf (sp_fc said h0 faced k) slotAt dayAt row bestRow tMany tMost drawX images imageX isMade) Q := by
  intro n
  induction n with
  | zero =>
    intro k
    intro g0 g1; omega
  | succ n ih =>
    intro k
    intro g0 g1
    have hs := sg_passN hI k (by omega)
    refine ev_iload de_Mo_errand_65 rfl ?_
    refine ev_bipush de_Mo_errand_67 rfl ?_
    refine ev_icmp_gt (tgt := 95) de_Mo_errand_69 (by decide) (by omega) (by omega) (fun h69 => ?_) (fun h69 => ?_)
    · skip
      have e : k = N := by omega
      subst e
      exact hq
    · skip
      refine ev_aload_n de_Mo_errand_72 rfl rfl ?_
      refine ev_getfield de_Mo_errand_73 rfl fl_Mo_51 rfl ?_
      refine ev_iload de_Mo_errand_76 rfl ?_
      refine ev_aload_n de_Mo_errand_78 rfl rfl ?_
      refine ev_iload_n de_Mo_errand_79 rfl rfl ?_
      refine ev_vv (ci := 11) de_Mo_errand_80 (co_Mo_facesOf hs h0 hh0 hh1) kb_Mo_300 ⟨im_Mo_facesOf, se_Mo_facesOf⟩ rfl rfl rfl (Nat.le_of_ble_eq_true rfl) (by decide) rfl ?_
      refine ev_iastore de_Mo_errand_83 rfl (by omega) (by omega) (by omega) ?_
      refine ev_world (w' := mo_W _ _ _ _ _ _ _ _ _ _ _ _ _ _ _ _ _ _ _ _ _ _ _ _ _ _ _ _ _ _ _ _ _ _ _ _ _) rfl ?_
      refine ev_world (w' := (mo_W tape taped rules sign leng clause clauses read next wrong number text made deep lines opn opened stack top word (sp_passN said k) xx was undone kept sumOf (sp_fc said h0 faced (k + 1)) slotAt dayAt row bestRow tMany tMost drawX images imageX isMade)) (by rw [sp_fc_s]) ?_
      refine ev_aload_n de_Mo_errand_84 rfl rfl ?_
      refine ev_vv (ci := 11) de_Mo_errand_85 (co_Mo_passes hs) kb_Mo_347 ⟨im_Mo_passes, se_Mo_passes⟩ rfl rfl rfl (Nat.le_of_ble_eq_true rfl) (by decide) rfl ?_
      refine ev_pop de_Mo_errand_88 rfl ?_
      refine ev_iinc (l' := [_, _, _, _, _, _, _]) de_Mo_errand_89 rfl rfl ?_
      refine ev_goto (tgt := 65) de_Mo_errand_92 (by decide) ?_
      exact ih (k + 1) (by omega) (by omega)
set_option maxRecDepth 10000 in
theorem co_Mo_errand {B : Int} (hI : sg_ok B said) (hB : B ≤ 29000) (h0 gg ww what : Int) (hh : ab_in h0) (hg : ab_in gg) (hw : ab_in ww) (hwh : ab_in what) : ab_Mt g_G g_rs mt_Mo_errand 4 0 0 [ab_R 0, ab_I h0, ab_I gg, ab_I ww, ab_I what] (mo_W tape taped rules sign leng clause clauses read next wrong number text made deep lines opn opened stack top word said xx was undone kept sumOf faced slotAt dayAt row bestRow tMany tMost drawX images imageX isMade) (ab_is (some (ab_I (if (0 ≤ h0 ∧ h0 < said 1) ∧ (0 ≤ gg ∧ gg ≤ 11) ∧ (said 3).toNat.testBit gg.toNat = true ∧ (0 ≤ ww ∧ ww ≤ 24) ∧ 0 ≤ what ∧ what ≤ 1 then sp_errand said (sp_fc said h0 faced 97) gg ww what else -1))) (mo_W tape taped rules sign leng clause clauses read next wrong number text made deep lines opn opened stack top word said xx was undone (if (0 ≤ h0 ∧ h0 < said 1) ∧ (0 ≤ gg ∧ gg ≤ 11) ∧ (said 3).toNat.testBit gg.toNat = true ∧ (0 ≤ ww ∧ ww ≤ 24) ∧ 0 ≤ what ∧ what ≤ 1 then sp_cp said kept 53 else kept) sumOf (if (0 ≤ h0 ∧ h0 < said 1) ∧ (0 ≤ gg ∧ gg ≤ 11) ∧ (said 3).toNat.testBit gg.toNat = true ∧ (0 ≤ ww ∧ ww ≤ 24) ∧ 0 ≤ what ∧ what ≤ 1 then sp_fc said h0 faced 97 else faced) slotAt dayAt row bestRow tMany tMost drawX images imageX isMade)) := by
  refine ab_Mt.of rfl (Nat.le_of_ble_eq_true rfl) ?_
  show ab_Ev g_G g_rs mt_Mo_errand _ _ _ 0 [some (ab_R 0), some (ab_I h0), some (ab_I gg), some (ab_I ww), some (ab_I what), none, none] [] _ _
  have hJ := hI; obtain ⟨i0, i1, i2, i3, i4, i5, i6, i7, i8, i9, i10, i11, i12, i13, i14, i15, i16, i17⟩ := sg_all hJ
  refine ev_aload_n de_Mo_errand_0 rfl rfl ?_
  refine ev_iload_n de_Mo_errand_1 rfl rfl ?_
  refine ev_vv (ci := 11) de_Mo_errand_2 (co_Mo_isHouse hI h0 hh) kb_Mo_316 ⟨im_Mo_isHouse, se_Mo_isHouse⟩ rfl rfl rfl (Nat.le_of_ble_eq_true rfl) (by decide) rfl ?_
  refine ev_if_eq (tgt := 56) de_Mo_errand_5 (by decide) (by split <;> decide) (fun h5 => ?_) (fun h5 => ?_)
  · skip
    have n5 : ¬ (0 ≤ h0 ∧ h0 < said 1) := fun z => by rw [if_pos z] at h5; omega
    rw [if_neg (fun z => by first | omega | exact absurd (n30.symm.trans z.2.2.1) (by decide)), if_neg (fun z => by first | omega | exact absurd (n30.symm.trans z.2.2.1) (by decide)), if_neg (fun z => by first | omega | exact absurd (n30.symm.trans z.2.2.1) (by decide))]
    refine ev_iconst de_Mo_errand_56 ?_
    exact ev_ireturn de_Mo_errand_57 rfl ⟨rfl, rfl⟩
  · skip
    have n5 : 0 ≤ h0 ∧ h0 < said 1 := Decidable.byContradiction (fun z => by rw [if_neg z] at h5; omega)
    refine ev_iload_n de_Mo_errand_8 rfl rfl ?_
    refine ev_i2l de_Mo_errand_9 (by omega) ?_
    refine ev_lconsti (n := 0) de_Mo_errand_10 (by decide) ?_
    refine ev_ldc2i (n := 11) de_Mo_errand_11 cn_Mo_326 (by decide) ?_
    refine ev_sv de_Mo_errand_14 (co_Mo_in _ gg (0) (11) (by omega) (by decide) (by decide)) kb_Mo_115 sc_Mo_in rfl (Nat.le_of_ble_eq_true rfl) (by decide) rfl ?_
    refine ev_if_eq (tgt := 56) de_Mo_errand_17 (by decide) (by split <;> decide) (fun h17 => ?_) (fun h17 => ?_)
    · skip
      have n17 : ¬ (0 ≤ gg ∧ gg ≤ 11) := fun z => by rw [if_pos z] at h17; omega
      rw [if_neg (fun z => by first | omega | exact absurd (n30.symm.trans z.2.2.1) (by decide)), if_neg (fun z => by first | omega | exact absurd (n30.symm.trans z.2.2.1) (by decide)), if_neg (fun z => by first | omega | exact absurd (n30.symm.trans z.2.2.1) (by decide))]
      refine ev_iconst de_Mo_errand_56 ?_
      exact ev_ireturn de_Mo_errand_57 rfl ⟨rfl, rfl⟩
    · skip
      have n17 : 0 ≤ gg ∧ gg ≤ 11 := Decidable.byContradiction (fun z => by rw [if_neg z] at h17; omega)
      refine ev_aload_n de_Mo_errand_20 rfl rfl ?_
      refine ev_getfield de_Mo_errand_21 rfl fl_Mo_39 rfl ?_
      refine ev_iconst de_Mo_errand_24 ?_
      refine ev_iaload de_Mo_errand_25 rfl (by omega) (by omega) (by omega) ?_
      refine ev_iload_n de_Mo_errand_26 rfl rfl ?_
      refine ev_sv de_Mo_errand_27 (co_Mo_isOf _ _ _ (by omega) (by omega) (by omega) (by omega)) kb_Mo_294 sc_Mo_isOf rfl (Nat.le_of_ble_eq_true rfl) (by decide) rfl ?_
      have qb := bit_01 (said 3).toNat gg.toNat
      refine ev_if_eq (tgt := 56) de_Mo_errand_30 (by decide) (by omega) (fun h30 => ?_) (fun h30 => ?_)
      · skip
        have n30 : (said 3).toNat.testBit gg.toNat = false := bit_z.mp h30
        rw [if_neg (fun z => by first | omega | exact absurd (n30.symm.trans z.2.2.1) (by decide)), if_neg (fun z => by first | omega | exact absurd (n30.symm.trans z.2.2.1) (by decide)), if_neg (fun z => by first | omega | exact absurd (n30.symm.trans z.2.2.1) (by decide))]
        refine ev_iconst de_Mo_errand_56 ?_
        exact ev_ireturn de_Mo_errand_57 rfl ⟨rfl, rfl⟩
      · skip
        have n30 : (said 3).toNat.testBit gg.toNat = true := bit_nz.mp h30
        refine ev_iload_n de_Mo_errand_33 rfl rfl ?_
        refine ev_i2l de_Mo_errand_34 (by omega) ?_
        refine ev_lconsti (n := 0) de_Mo_errand_35 (by decide) ?_
        refine ev_ldc2i (n := 24) de_Mo_errand_36 cn_Mo_415 (by decide) ?_
        refine ev_sv de_Mo_errand_39 (co_Mo_in _ ww (0) (24) (by omega) (by decide) (by decide)) kb_Mo_115 sc_Mo_in rfl (Nat.le_of_ble_eq_true rfl) (by decide) rfl ?_
        refine ev_if_eq (tgt := 56) de_Mo_errand_42 (by decide) (by split <;> decide) (fun h42 => ?_) (fun h42 => ?_)
        · skip
          have n42 : ¬ (0 ≤ ww ∧ ww ≤ 24) := fun z => by rw [if_pos z] at h42; omega
          rw [if_neg (fun z => by first | omega | exact absurd (n30.symm.trans z.2.2.1) (by decide)), if_neg (fun z => by first | omega | exact absurd (n30.symm.trans z.2.2.1) (by decide)), if_neg (fun z => by first | omega | exact absurd (n30.symm.trans z.2.2.1) (by decide))]
          refine ev_iconst de_Mo_errand_56 ?_
          exact ev_ireturn de_Mo_errand_57 rfl ⟨rfl, rfl⟩
        · skip
          have n42 : 0 ≤ ww ∧ ww ≤ 24 := Decidable.byContradiction (fun z => by rw [if_neg z] at h42; omega)
          refine ev_iload de_Mo_errand_45 rfl ?_
          refine ev_i2l de_Mo_errand_47 (by omega) ?_
          refine ev_lconsti (n := 0) de_Mo_errand_48 (by decide) ?_
          refine ev_lconsti (n := 1) de_Mo_errand_49 (by decide) ?_
          refine ev_sv de_Mo_errand_50 (co_Mo_in _ what (0) (1) (by omega) (by decide) (by decide)) kb_Mo_115 sc_Mo_in rfl (Nat.le_of_ble_eq_true rfl) (by decide) rfl ?_
          refine ev_if_ne (tgt := 58) de_Mo_errand_53 (by decide) (by split <;> decide) (fun h53 => ?_) (fun h53 => ?_)
          · skip
            have n53 : 0 ≤ what ∧ what ≤ 1 := Decidable.byContradiction (fun z => by rw [if_neg z] at h53; omega)
            have hc : (0 ≤ h0 ∧ h0 < said 1) ∧ (0 ≤ gg ∧ gg ≤ 11) ∧ (said 3).toNat.testBit gg.toNat = true ∧ (0 ≤ ww ∧ ww ≤ 24) ∧ 0 ≤ what ∧ what ≤ 1 := ⟨n5, n17, n30, n42, n53⟩
            rw [if_pos hc, if_pos hc, if_pos hc]
            refine ev_aload_n de_Mo_errand_58 rfl rfl ?_
            refine ev_vn (ci := 11) de_Mo_errand_59 co_Mo_keeps kb_Mo_390 ⟨im_Mo_keeps, se_Mo_keeps⟩ rfl rfl rfl (Nat.le_of_ble_eq_true rfl) (by decide) rfl ?_
            refine ev_iconst de_Mo_errand_62 ?_
            refine ev_istore (l' := [_, _, _, _, _, _, _]) de_Mo_errand_63 (Nat.le_of_ble_eq_true rfl) rfl ?_
            refine ev_world (w' := (mo_W tape taped rules sign leng clause clauses read next wrong number text made deep lines opn opened stack top word (sp_passN said 0) xx was undone (sp_cp said kept 53) sumOf (sp_fc said h0 faced 0) slotAt dayAt row bestRow tMany tMost drawX images imageX isMade)) (by rw [sp_fc_0]; rfl) ?_
            refine lo_Mo_errand1 hI hB h0 (by omega) (by omega) _ _ _ 97 rfl _ ?_ 98 0 (by omega) (by omega)
            have zl := sp_layN (kept := kept) hI 97 (by omega)
            generalize sp_passN said 97 = g at zl ⊢
            refine ev_aload_n de_Mo_errand_95 rfl rfl ?_
            refine ev_vn (ci := 11) de_Mo_errand_96 co_Mo_laysBack kb_Mo_393 ⟨im_Mo_laysBack, se_Mo_laysBack⟩ rfl rfl rfl (Nat.le_of_ble_eq_true rfl) (by decide) rfl ?_
            refine ev_world (w' := (mo_W tape taped rules sign leng clause clauses read next wrong number text made deep lines opn opened stack top word said xx was undone (sp_cp said kept 53) sumOf (sp_fc said h0 faced 97) slotAt dayAt row bestRow tMany tMost drawX images imageX isMade)) (by rw [zl]) ?_
            have hfb := fun j a b => sp_fc_b said h0 faced 97 j a b
            unfold sp_errand
            generalize sp_fc said h0 faced 97 = fc at hfb ⊢
            refine ev_iconst de_Mo_errand_99 ?_
            refine ev_istore (l' := [_, _, _, _, _, _, _]) de_Mo_errand_100 (Nat.le_of_ble_eq_true rfl) rfl ?_
            refine lo_Mo_errand2 gg (by omega) hfb _ _ _ _ ?_ 50 0 (by omega) (by omega) (by omega) rfl
            have ql := sp_lv_b fc gg 49 0
            generalize sp_lv fc gg 49 0 = lv at ql ⊢
            refine ev_iload de_Mo_errand_126 rfl ?_
            refine ev_bipush de_Mo_errand_128 rfl ?_
            refine ev_icmp_le (tgt := 137) de_Mo_errand_130 (by decide) (by omega) (by omega) (fun h130 => ?_) (fun h130 => ?_)
            · skip
              have h130b : ¬ 48 < lv := by omega
              have qb := sp_bk_b fc (said 3).toNat gg (lv + ww) (97 - (lv + ww)).toNat (lv + ww) (by omega) (by omega)
              refine ev_aload_n de_Mo_errand_137 rfl rfl ?_
              refine ev_iload_n de_Mo_errand_138 rfl rfl ?_
              refine ev_iload de_Mo_errand_139 rfl ?_
              refine ev_iload_n de_Mo_errand_141 rfl rfl ?_
              refine ev_vv (ci := 11) de_Mo_errand_142 (co_Mo_backFrom hI hfb gg lv ww (by omega) (by omega) (by omega)) kb_Mo_417 ⟨im_Mo_backFrom, se_Mo_backFrom⟩ rfl rfl rfl (Nat.le_of_ble_eq_true rfl) (by decide) rfl ?_
              refine ev_istore (l' := [_, _, _, _, _, _, _]) de_Mo_errand_145 (Nat.le_of_ble_eq_true rfl) rfl ?_
              refine ev_iload de_Mo_errand_147 rfl ?_
              refine ev_if_ge (tgt := 157) de_Mo_errand_149 (by decide) (by omega) (fun h149 => ?_) (fun h149 => ?_)
              · skip
                refine ev_iload de_Mo_errand_157 rfl ?_
                refine ev_if_ne (tgt := 167) de_Mo_errand_159 (by decide) (by omega) (fun h159 => ?_) (fun h159 => ?_)
                · skip
                  refine ev_iload de_Mo_errand_167 rfl ?_
                  exact ev_ireturn de_Mo_errand_169 rfl ⟨by dsimp only; first | (exfalso; omega) | (rw [if_pos (show 48 < lv by omega), if_pos (by decide)]; done) | (rw [if_neg (show ¬ 48 < lv by omega)]; first | (rw [if_pos (by omega)]; done) | (rw [if_neg (by omega), if_pos (by omega)]; done) | (rw [if_neg (by omega), if_neg (by omega)]; done)), rfl⟩
                · skip
                  refine ev_iload de_Mo_errand_162 rfl ?_
                  refine ev_goto (tgt := 169) de_Mo_errand_164 (by decide) ?_
                  exact ev_ireturn de_Mo_errand_169 rfl ⟨by dsimp only; first | (exfalso; omega) | (rw [if_pos (show 48 < lv by omega), if_pos (by decide)]; done) | (rw [if_neg (show ¬ 48 < lv by omega)]; first | (rw [if_pos (by omega)]; done) | (rw [if_neg (by omega), if_pos (by omega)]; done) | (rw [if_neg (by omega), if_neg (by omega)]; done)), rfl⟩
              · skip
                refine ev_bipush de_Mo_errand_152 rfl ?_
                refine ev_goto (tgt := 169) de_Mo_errand_154 (by decide) ?_
                exact ev_ireturn de_Mo_errand_169 rfl ⟨by dsimp only; first | (exfalso; omega) | (rw [if_pos (show 48 < lv by omega), if_pos (by decide)]; done) | (rw [if_neg (show ¬ 48 < lv by omega)]; first | (rw [if_pos (by omega)]; done) | (rw [if_neg (by omega), if_pos (by omega)]; done) | (rw [if_neg (by omega), if_neg (by omega)]; done)), rfl⟩
            · skip
              refine ev_iconst de_Mo_errand_133 ?_
              refine ev_goto (tgt := 145) de_Mo_errand_134 (by decide) ?_
              refine ev_istore (l' := [_, _, _, _, _, _, _]) de_Mo_errand_145 (Nat.le_of_ble_eq_true rfl) rfl ?_
              refine ev_iload de_Mo_errand_147 rfl ?_
              refine ev_if_ge (tgt := 157) de_Mo_errand_149 (by decide) (by omega) (fun h149 => ?_) (fun h149 => ?_)
              · skip
                refine ev_iload de_Mo_errand_157 rfl ?_
                refine ev_if_ne (tgt := 167) de_Mo_errand_159 (by decide) (by omega) (fun h159 => ?_) (fun h159 => ?_)
                · skip
                  refine ev_iload de_Mo_errand_167 rfl ?_
                  exact ev_ireturn de_Mo_errand_169 rfl ⟨by dsimp only; first | (exfalso; omega) | (rw [if_pos (show 48 < lv by omega), if_pos (by decide)]; done) | (rw [if_neg (show ¬ 48 < lv by omega)]; first | (rw [if_pos (by omega)]; done) | (rw [if_neg (by omega), if_pos (by omega)]; done) | (rw [if_neg (by omega), if_neg (by omega)]; done)), rfl⟩
                · skip
                  refine ev_iload de_Mo_errand_162 rfl ?_
                  refine ev_goto (tgt := 169) de_Mo_errand_164 (by decide) ?_
                  exact ev_ireturn de_Mo_errand_169 rfl ⟨by dsimp only; first | (exfalso; omega) | (rw [if_pos (show 48 < lv by omega), if_pos (by decide)]; done) | (rw [if_neg (show ¬ 48 < lv by omega)]; first | (rw [if_pos (by omega)]; done) | (rw [if_neg (by omega), if_pos (by omega)]; done) | (rw [if_neg (by omega), if_neg (by omega)]; done)), rfl⟩
              · skip
                refine ev_bipush de_Mo_errand_152 rfl ?_
                refine ev_goto (tgt := 169) de_Mo_errand_154 (by decide) ?_
                exact ev_ireturn de_Mo_errand_169 rfl ⟨by dsimp only; first | (exfalso; omega) | (rw [if_pos (show 48 < lv by omega), if_pos (by decide)]; done) | (rw [if_neg (show ¬ 48 < lv by omega)]; first | (rw [if_pos (by omega)]; done) | (rw [if_neg (by omega), if_pos (by omega)]; done) | (rw [if_neg (by omega), if_neg (by omega)]; done)), rfl⟩
          · skip
            have n53 : ¬ (0 ≤ what ∧ what ≤ 1) := fun z => by rw [if_pos z] at h53; omega
            rw [if_neg (fun z => by first | omega | exact absurd (n30.symm.trans z.2.2.1) (by decide)), if_neg (fun z => by first | omega | exact absurd (n30.symm.trans z.2.2.1) (by decide)), if_neg (fun z => by first | omega | exact absurd (n30.symm.trans z.2.2.1) (by decide))]
            refine ev_iconst de_Mo_errand_56 ?_
            exact ev_ireturn de_Mo_errand_57 rfl ⟨rfl, rfl⟩
end MO
