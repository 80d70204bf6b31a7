section MO
variable {tape : Int → Int} {taped : Int} {rules : Int} {sign : Int → Int} {leng : Int → Int} {clause : Int → Int} {clauses : Int → Int} {read : Int → Int} {next : Int} {wrong : Int} {number : Int} {text : Int} {made : Int} {deep : Int} {lines : Int} {opn : Int → Int} {opened : Int} {stack : Int → Int64} {top : Int} {word : Int → Int64} {said : Int → Int} {xx : Int} {was : Int → Int} {undone : Int} {kept : Int → Int} {sumOf : Int → Int} {faced : Int → Int} {slotAt : Int → Int} {dayAt : Int → Int} {row : Int → Int} {bestRow : Int → Int} {tMany : Int} {tMost : Int} {drawX : Int64} {images : Int → Int} {imageX : Int → Int} {isMade : Int → Int}
def sp_E (sign clause : Int → Int) (rr m : Int) (g : Int → Int) : Int := sp_clamp ((sp_rb (sp_wf g) sign clause rr m.toNat 0).getD 0)
/-- a RULE that can be worked out, whatever its words are -/
def sp_rok (sign clause : Int → Int) (rr m : Int) : Prop := sp_cb clause rr m ∧ ∀ word : Int → Int64, ∃ z, sp_rb word sign clause rr m.toNat 0 = some z
def sp_runN (E : (Int → Int) → Int) (f : Int → Int) : Nat → Int → Int
  | 0 => f
  | k + 1 => sp_passAt (E (sp_runN E f k)) (sp_runN E f k)
theorem sg_runN {B : Int} {f : Int → Int} (h : sg_ok B f) {E : (Int → Int) → Int} (hE : ∀ g, -3 ≤ E g ∧ E g ≤ 3) : ∀ n : Nat, B + n ≤ 30000 → sg_ok (B + n) (sp_runN E f n)
  | 0, _ => by rw [show B + ((0 : Nat) : Int) = B by omega]; exact h
  | n + 1, hn => by
    rw [show B + ((n + 1 : Nat) : Int) = B + (n : Int) + 1 by omega]
    exact sg_passAt (sg_runN h hE n (by omega)) (hE _).1 (hE _).2 (by omega)
theorem sp_runN_k {B : Int} {f : Int → Int} (h : sg_ok B f) {E : (Int → Int) → Int} (hE : ∀ g, -3 ≤ E g ∧ E g ≤ 3) : ∀ n : Nat, B + n ≤ 30000 → ∀ j : Int, (j < 0 ∨ 46 ≤ j) → sp_runN E f n j = f j
  | 0, _, _, _ => rfl
  | n + 1, hn, j, hj => by
    have hs := sg_runN h hE n (by omega)
    show sp_passAt _ (sp_runN E f n) j = _
    rw [sp_pass_k2 hs (hE _).1 (hE _).2 hj]
    exact sp_runN_k h hE n (by omega) j hj
theorem sp_layR {B : Int} {f kept : Int → Int} (h : sg_ok B f) {E : (Int → Int) → Int} (hE : ∀ g, -3 ≤ E g ∧ E g ≤ 3) (n : Nat) (hn : B + n ≤ 30000) : sp_cp (sp_cp f kept 53) (sp_runN E f n) 53 = f := sp_lay (fun j hj => sp_runN_k h hE n hn j (by omega))
theorem sp_E_b (sign clause : Int → Int) (rr m : Int) (g : Int → Int) : -3 ≤ sp_E sign clause rr m g ∧ sp_E sign clause rr m g ≤ 3 := sp_clamp_b _
def sp_seen (E : (Int → Int) → Int) (f : Int → Int) (h s : Int) : Nat → Int
  | 0 => 0
  | k + 1 => sp_seen E f h s k + bit_at (sp_sortsAt (sp_runN E f k) (sp_facesOf (sp_runN E f k) h) (sp_runN E f k 5)) s.toNat
/-! draws -/
def sp_draw (x : Int) : Int := (x * 1103515245 + 12345) % 2147483648
theorem sp_draw_b (x : Int) : 0 ≤ sp_draw x ∧ sp_draw x ≤ 2147483647 := by unfold sp_draw; omega
theorem ab_l64 {a b : Int} (ha : 0 ≤ a) (ha1 : a < 9223372036854775807) (hb : 0 < b) (hb1 : b < 9223372036854775807) : Int64.ofInt a - Int64.ofInt a / Int64.ofInt b * Int64.ofInt b = Int64.ofInt (a % b) ∧ Int64.ofInt a / Int64.ofInt b = Int64.ofInt (a / b) := by
  have e : Int64.ofInt a / Int64.ofInt b = Int64.ofInt (a / b) := by
    rw [← Int.tdiv_eq_ediv_of_nonneg ha]
    symm
    apply Int64.ofInt_tdiv
    all_goals first | exact Int.le_trans (by decide) ha | exact Int.le_trans (by decide) (Int.le_of_lt hb) | exact Int.lt_of_lt_of_le ha1 (by decide) | exact Int.lt_of_lt_of_le hb1 (by decide) | exact Int.le_of_lt (Int.lt_of_lt_of_le ha1 (by decide)) | exact Int.le_of_lt (Int.lt_of_lt_of_le hb1 (by decide))
  refine ⟨?_, e⟩
  rw [e, ← Int64.ofInt_mul, ← Int64.ofInt_sub, Int.emod_def, Int.mul_comm]
theorem sp_drawL {x : Int} (h0 : 0 ≤ x) (h1 : x ≤ 2147483647) : Int64.ofInt x * Int64.ofInt 1103515245 + Int64.ofInt 12345 - (Int64.ofInt x * Int64.ofInt 1103515245 + Int64.ofInt 12345) / Int64.ofInt 2147483648 * Int64.ofInt 2147483648 = Int64.ofInt (sp_draw x) := by
  rw [← Int64.ofInt_mul, ← Int64.ofInt_add, (ab_l64 (by omega) (by omega) (by decide) (by decide)).1]
  rfl
theorem sp_dr100 {x : Int} (h0 : 0 ≤ x) (h1 : x ≤ 2147483647) : (Int64.ofInt x / Int64.ofInt 65536 - Int64.ofInt x / Int64.ofInt 65536 / Int64.ofInt 100 * Int64.ofInt 100).toInt32.toInt = x / 65536 % 100 := by
  rw [(ab_l64 h0 (by omega) (by decide) (by decide)).2, (ab_l64 (a := x / 65536) (by omega) (by omega) (by decide) (by decide)).1, Int64.toInt_toInt32, Int64.toInt_ofInt_of_le (by omega) (by omega)]
  exact Int.bmod_eq_of_le (by omega) (by omega)
/-- a day by draws, k HOURS: the row, x, what is liked, the steps -/
def sp_d1 (p : Int) (f : Int → Int) (x : Int) : Int → Int := if sp_draw x / 65536 % 100 < p then ab_up f 7 1 else f
def sp_dd (p : Int) (f : Int → Int) (x L S : Int) : Nat → (Int → Int) × Int × Int × Int
  | 0 => (f, x, L, S)
  | k + 1 => (sp_pass (sp_d1 p (sp_dd p f x L S k).1 (sp_dd p f x L S k).2.1), sp_draw (sp_dd p f x L S k).2.1, (sp_dd p f x L S k).2.2.1 + sp_allLike (sp_pass (sp_d1 p (sp_dd p f x L S k).1 (sp_dd p f x L S k).2.1)), (sp_dd p f x L S k).2.2.2 + ((sp_n (sp_d1 p (sp_dd p f x L S k).1 (sp_dd p f x L S k).2.1) (sp_rateNow (sp_d1 p (sp_dd p f x L S k).1 (sp_dd p f x L S k).2.1))).natAbs : Int))
def sp_dm (p : Int) (f : Int → Int) (x : Int) (n : Nat) : Nat → Int × Int × Int
  | 0 => (x, 0, 0)
  | m + 1 => ((sp_dd p f (sp_dm p f x n m).1 (sp_dm p f x n m).2.1 (sp_dm p f x n m).2.2 n).2.1, (sp_dd p f (sp_dm p f x n m).1 (sp_dm p f x n m).2.1 (sp_dm p f x n m).2.2 n).2.2.1, (sp_dd p f (sp_dm p f x n m).1 (sp_dm p f x n m).2.1 (sp_dm p f x n m).2.2 n).2.2.2)
theorem sg_d1 {B p x : Int} {f : Int → Int} (h : sg_ok B f) : sg_ok B (sp_d1 p f x) := by
  unfold sp_d1
  split
  · exact sg_up7 h (Or.inr rfl)
  · exact h
theorem sp_d1_k (p x : Int) (f : Int → Int) {j : Int} (hj : j ≠ 7) : sp_d1 p f x j = f j := by
  unfold sp_d1
  split
  · exact ab_upn _ _ hj
  · rfl
theorem sg_dd {B p x L S : Int} {f : Int → Int} (h : sg_ok B f) : ∀ k : Nat, B + k ≤ 30000 → sg_ok (B + k) (sp_dd p f x L S k).1
  | 0, _ => by rw [show B + ((0 : Nat) : Int) = B by omega]; exact h
  | k + 1, hk => by
    rw [show B + ((k + 1 : Nat) : Int) = B + (k : Int) + 1 by omega]
    exact sg_pass (sg_d1 (sg_dd h k (by omega))) (by omega)
theorem sp_dd_k {B p x L S : Int} {f : Int → Int} (h : sg_ok B f) : ∀ k : Nat, B + k ≤ 30000 → ∀ j : Int, (j < 0 ∨ 46 ≤ j) → (sp_dd p f x L S k).1 j = f j
  | 0, _, _, _ => rfl
  | k + 1, hk, j, hj => by
    have hs := sg_d1 (p := p) (x := (sp_dd p f x L S k).2.1) (sg_dd (p := p) (x := x) (L := L) (S := S) h k (by omega))
    show sp_passAt _ (sp_d1 p (sp_dd p f x L S k).1 (sp_dd p f x L S k).2.1) j = _
    rw [sp_pass_k2 hs (sg_rate hs).1 (sg_rate hs).2 hj, sp_d1_k _ _ _ (by omega)]
    exact sp_dd_k h k (by omega) j hj
theorem sp_dd_x {p x L S : Int} {f : Int → Int} (hx : 0 ≤ x ∧ x ≤ 2147483647) : ∀ k : Nat, 0 ≤ (sp_dd p f x L S k).2.1 ∧ (sp_dd p f x L S k).2.1 ≤ 2147483647
  | 0 => hx
  | k + 1 => sp_draw_b _
theorem sp_dm_x {p x : Int} {f : Int → Int} (hx : 0 ≤ x ∧ x ≤ 2147483647) (n : Nat) : ∀ m : Nat, 0 ≤ (sp_dm p f x n m).1 ∧ (sp_dm p f x n m).1 ≤ 2147483647
  | 0 => hx
  | m + 1 => sp_dd_x (sp_dm_x hx n m) n
theorem de_Mo_passesBy_0 : decode prog_14_method_79_code 0 = .ok (.aload_n 0, 1) := by decide +kernel
theorem de_Mo_passesBy_1 : decode prog_14_method_79_code 1 = .ok (.invokevirtual 373, 3) := by decide +kernel
theorem de_Mo_passesBy_4 : decode prog_14_method_79_code 4 = .ok (.aload_n 0, 1) := by decide +kernel
theorem de_Mo_passesBy_5 : decode prog_14_method_79_code 5 = .ok (.iload_n 1, 1) := by decide +kernel
theorem de_Mo_passesBy_6 : decode prog_14_method_79_code 6 = .ok (.invokevirtual 376, 3) := by decide +kernel
theorem de_Mo_passesBy_9 : decode prog_14_method_79_code 9 = .ok (.lstore_n 2, 1) := by decide +kernel
theorem de_Mo_passesBy_10 : decode prog_14_method_79_code 10 = .ok (.aload_n 0, 1) := by decide +kernel
theorem de_Mo_passesBy_11 : decode prog_14_method_79_code 11 = .ok (.lload_n 2, 1) := by decide +kernel
theorem de_Mo_passesBy_12 : decode prog_14_method_79_code 12 = .ok (.ldc2_w 350, 3) := by decide +kernel
theorem de_Mo_passesBy_15 : decode prog_14_method_79_code 15 = .ok (.lcmp, 1) := by decide +kernel
theorem de_Mo_passesBy_16 : decode prog_14_method_79_code 16 = .ok (.ifCond .ge 8, 3) := by decide +kernel
theorem de_Mo_passesBy_19 : decode prog_14_method_79_code 19 = .ok (.bipush (-3), 2) := by decide +kernel
theorem de_Mo_passesBy_21 : decode prog_14_method_79_code 21 = .ok (.goto 17, 3) := by decide +kernel
theorem de_Mo_passesBy_24 : decode prog_14_method_79_code 24 = .ok (.lload_n 2, 1) := by decide +kernel
theorem de_Mo_passesBy_25 : decode prog_14_method_79_code 25 = .ok (.ldc2_w 352, 3) := by decide +kernel
theorem de_Mo_passesBy_28 : decode prog_14_method_79_code 28 = .ok (.lcmp, 1) := by decide +kernel
theorem de_Mo_passesBy_29 : decode prog_14_method_79_code 29 = .ok (.ifCond .le 7, 3) := by decide +kernel
theorem de_Mo_passesBy_32 : decode prog_14_method_79_code 32 = .ok (.iconst 3, 1) := by decide +kernel
theorem de_Mo_passesBy_33 : decode prog_14_method_79_code 33 = .ok (.goto 5, 3) := by decide +kernel
theorem de_Mo_passesBy_36 : decode prog_14_method_79_code 36 = .ok (.lload_n 2, 1) := by decide +kernel
theorem de_Mo_passesBy_37 : decode prog_14_method_79_code 37 = .ok (.l2i, 1) := by decide +kernel
theorem de_Mo_passesBy_38 : decode prog_14_method_79_code 38 = .ok (.invokevirtual 338, 3) := by decide +kernel
theorem de_Mo_passesBy_41 : decode prog_14_method_79_code 41 = .ok (.pop, 1) := by decide +kernel
theorem de_Mo_passesBy_42 : decode prog_14_method_79_code 42 = .ok (.return_, 1) := by decide +kernel
set_option maxRecDepth 10000 in
theorem co_Mo_passesBy {B : Int} (hI : sg_ok B said) (hB : B + 1 ≤ 30000) (rr : Int) (hr0 : 0 ≤ rr) (hr1 : rr ≤ 5) (hok : sp_rok sign clause rr (clauses rr)) : ab_Mt g_G g_rs mt_Mo_passesBy 6 0 0 [ab_R 0, ab_I rr] (mo_W tape taped rules sign leng clause clauses read next wrong number text made deep lines opn opened stack top word said xx was undone kept sumOf faced slotAt dayAt row bestRow tMany tMost drawX images imageX isMade) (fun r w2 => r = none ∧ ∃ W S T, w2 = (mo_W tape taped rules sign leng clause clauses read next wrong number text made deep lines opn opened (S) (T) (W) (sp_passAt (sp_E sign clause rr (clauses rr) said) said) xx was undone kept sumOf faced slotAt dayAt row bestRow tMany tMost drawX images imageX isMade)) := by
  refine ab_Mt.of rfl (Nat.le_of_ble_eq_true rfl) ?_
  show ab_Ev g_G g_rs mt_Mo_passesBy _ _ _ 0 [some (ab_R 0), some (ab_I rr), none, none] [] _ _
  obtain ⟨z, hz⟩ := hok.2 (sp_wf said)
  have hz2 : sp_rb (sp_wd said word) sign clause rr (clauses rr).toNat 0 = some z := by rw [sp_rb_c (fun k a b => sp_wd_wf said word k a b)]; exact hz
  have eE : sp_E sign clause rr (clauses rr) said = sp_clamp z := by unfold sp_E; rw [hz]; rfl
  have qc := sp_clamp_b z
  rw [eE]
  have q3 := ab_cmp0 z (Int64.ofInt (-3))
  have q4 := ab_cmp0 z (Int64.ofInt 3)
  refine ev_aload_n de_Mo_passesBy_0 rfl rfl ?_
  refine ev_vn (ci := 11) de_Mo_passesBy_1 (co_Mo_words hI) kb_Mo_373 ⟨im_Mo_words, se_Mo_words⟩ rfl rfl rfl (Nat.le_of_ble_eq_true rfl) (by decide) rfl ?_
  refine ev_aload_n de_Mo_passesBy_4 rfl rfl ?_
  refine ev_iload_n de_Mo_passesBy_5 rfl rfl ?_
  refine ev_virtual (ci := 11) (mc := 0) (ms := 0) (bc := 0) (bs := 0) de_Mo_passesBy_6 (co_Mo_summedBy rr hr0 hr1 hok.1 z hz2) kb_Mo_376 ⟨im_Mo_summedBy, se_Mo_summedBy⟩ rfl rfl rfl (Nat.le_of_ble_eq_true rfl) (by decide) (Or.inl (fun _ _ h => by obtain ⟨-, S1, T1, e⟩ := h; rw [e]; first | exact mo_Wn.trans mo_Wn.symm | rfl)) (fun r1 w1 hm1 => ?_)
  obtain ⟨rfl, S1, T1, rfl⟩ := hm1
  refine ev_lstore_n (l' := [_, _, _, _]) de_Mo_passesBy_9 rfl (Nat.le_of_ble_eq_true rfl) rfl ?_
  refine ev_aload_n de_Mo_passesBy_10 rfl rfl ?_
  refine ev_lload_n de_Mo_passesBy_11 rfl rfl ?_
  refine ev_ldc2i (n := -3) de_Mo_passesBy_12 cn_Mo_350 (by decide) ?_
  refine ev_lcmp de_Mo_passesBy_15 ?_
  refine ev_if_ge (tgt := 24) de_Mo_passesBy_16 (by decide) (by omega) (fun h16 => ?_) (fun h16 => ?_)
  · skip
    have n1 : ¬ z < -3 := fun h => absurd (q3.1.mpr h) (by omega)
    refine ev_lload_n de_Mo_passesBy_24 rfl rfl ?_
    refine ev_ldc2i (n := 3) de_Mo_passesBy_25 cn_Mo_352 (by decide) ?_
    refine ev_lcmp de_Mo_passesBy_28 ?_
    refine ev_if_le (tgt := 36) de_Mo_passesBy_29 (by decide) (by omega) (fun h29 => ?_) (fun h29 => ?_)
    · skip
      have n2 : ¬ 3 < z := fun h => absurd (q4.2.1.mpr h) (by omega)
      have ec : z.toInt32.toInt = sp_clamp z := by unfold sp_clamp; rw [if_neg n1, if_neg n2]
      refine ev_lload_n de_Mo_passesBy_36 rfl rfl ?_
      refine ev_l2i de_Mo_passesBy_37 ?_
      refine ev_top (congrArg Sum.inl ec) ?_
      refine ev_vv (ci := 11) de_Mo_passesBy_38 (co_Mo_passesAt hI _ qc.1 qc.2) kb_Mo_338 ⟨im_Mo_passesAt, se_Mo_passesAt⟩ rfl rfl rfl (Nat.le_of_ble_eq_true rfl) (by decide) rfl ?_
      refine ev_pop de_Mo_passesBy_41 rfl ?_
      exact ev_return de_Mo_passesBy_42 rfl ⟨rfl, _, _, _, rfl⟩
    · skip
      have ec : (3 : Int) = sp_clamp z := by unfold sp_clamp; rw [if_neg n1, if_pos (show (3 : Int64) < z from q4.2.1.mp (by omega))]
      refine ev_iconst de_Mo_passesBy_32 ?_
      refine ev_goto (tgt := 38) de_Mo_passesBy_33 (by decide) ?_
      refine ev_top (congrArg Sum.inl ec) ?_
      refine ev_vv (ci := 11) de_Mo_passesBy_38 (co_Mo_passesAt hI _ qc.1 qc.2) kb_Mo_338 ⟨im_Mo_passesAt, se_Mo_passesAt⟩ rfl rfl rfl (Nat.le_of_ble_eq_true rfl) (by decide) rfl ?_
      refine ev_pop de_Mo_passesBy_41 rfl ?_
      exact ev_return de_Mo_passesBy_42 rfl ⟨rfl, _, _, _, rfl⟩
  · skip
    have ec : (-3 : Int) = sp_clamp z := (if_pos (q3.1.mp (by omega))).symm
    refine ev_bipush de_Mo_passesBy_19 rfl ?_
    refine ev_goto (tgt := 38) de_Mo_passesBy_21 (by decide) ?_
    refine ev_top (congrArg Sum.inl ec) ?_
    refine ev_vv (ci := 11) de_Mo_passesBy_38 (co_Mo_passesAt hI _ qc.1 qc.2) kb_Mo_338 ⟨im_Mo_passesAt, se_Mo_passesAt⟩ rfl rfl rfl (Nat.le_of_ble_eq_true rfl) (by decide) rfl ?_
    refine ev_pop de_Mo_passesBy_41 rfl ?_
    exact ev_return de_Mo_passesBy_42 rfl ⟨rfl, _, _, _, rfl⟩
theorem de_Mo_run_0 : decode prog_14_method_80_code 0 = .ok (.aload_n 0, 1) := by decide +kernel
theorem de_Mo_run_1 : decode prog_14_method_80_code 1 = .ok (.invokevirtual 323, 3) := by decide +kernel
theorem de_Mo_run_4 : decode prog_14_method_80_code 4 = .ok (.ifCond .eq 31, 3) := by decide +kernel
theorem de_Mo_run_7 : decode prog_14_method_80_code 7 = .ok (.aload_n 0, 1) := by decide +kernel
theorem de_Mo_run_8 : decode prog_14_method_80_code 8 = .ok (.iload_n 1, 1) := by decide +kernel
theorem de_Mo_run_9 : decode prog_14_method_80_code 9 = .ok (.invokevirtual 380, 3) := by decide +kernel
theorem de_Mo_run_12 : decode prog_14_method_80_code 12 = .ok (.ifCond .eq 23, 3) := by decide +kernel
theorem de_Mo_run_15 : decode prog_14_method_80_code 15 = .ok (.iload_n 2, 1) := by decide +kernel
theorem de_Mo_run_16 : decode prog_14_method_80_code 16 = .ok (.i2l, 1) := by decide +kernel
theorem de_Mo_run_17 : decode prog_14_method_80_code 17 = .ok (.lconst 1, 1) := by decide +kernel
theorem de_Mo_run_18 : decode prog_14_method_80_code 18 = .ok (.ldc2_w 383, 3) := by decide +kernel
theorem de_Mo_run_21 : decode prog_14_method_80_code 21 = .ok (.invokestatic 115, 3) := by decide +kernel
theorem de_Mo_run_24 : decode prog_14_method_80_code 24 = .ok (.ifCond .eq 11, 3) := by decide +kernel
theorem de_Mo_run_27 : decode prog_14_method_80_code 27 = .ok (.aload_n 0, 1) := by decide +kernel
theorem de_Mo_run_28 : decode prog_14_method_80_code 28 = .ok (.iload_n 2, 1) := by decide +kernel
theorem de_Mo_run_29 : decode prog_14_method_80_code 29 = .ok (.invokevirtual 341, 3) := by decide +kernel
theorem de_Mo_run_32 : decode prog_14_method_80_code 32 = .ok (.ifCond .ne 5, 3) := by decide +kernel
theorem de_Mo_run_35 : decode prog_14_method_80_code 35 = .ok (.iconst (-1), 1) := by decide +kernel
theorem de_Mo_run_36 : decode prog_14_method_80_code 36 = .ok (.ireturn, 1) := by decide +kernel
theorem de_Mo_run_37 : decode prog_14_method_80_code 37 = .ok (.aload_n 0, 1) := by decide +kernel
theorem de_Mo_run_38 : decode prog_14_method_80_code 38 = .ok (.iconst 0, 1) := by decide +kernel
theorem de_Mo_run_39 : decode prog_14_method_80_code 39 = .ok (.putfield 272, 3) := by decide +kernel
theorem de_Mo_run_42 : decode prog_14_method_80_code 42 = .ok (.iconst 0, 1) := by decide +kernel
theorem de_Mo_run_43 : decode prog_14_method_80_code 43 = .ok (.istore_n 3, 1) := by decide +kernel
theorem de_Mo_run_44 : decode prog_14_method_80_code 44 = .ok (.iload_n 3, 1) := by decide +kernel
theorem de_Mo_run_45 : decode prog_14_method_80_code 45 = .ok (.iload_n 2, 1) := by decide +kernel
theorem de_Mo_run_46 : decode prog_14_method_80_code 46 = .ok (.if_icmp .ge 14, 3) := by decide +kernel
theorem de_Mo_run_49 : decode prog_14_method_80_code 49 = .ok (.aload_n 0, 1) := by decide +kernel
theorem de_Mo_run_50 : decode prog_14_method_80_code 50 = .ok (.iload_n 1, 1) := by decide +kernel
theorem de_Mo_run_51 : decode prog_14_method_80_code 51 = .ok (.invokevirtual 385, 3) := by decide +kernel
theorem de_Mo_run_54 : decode prog_14_method_80_code 54 = .ok (.iinc 3 1, 3) := by decide +kernel
theorem de_Mo_run_57 : decode prog_14_method_80_code 57 = .ok (.goto (-13), 3) := by decide +kernel
theorem de_Mo_run_60 : decode prog_14_method_80_code 60 = .ok (.aload_n 0, 1) := by decide +kernel
theorem de_Mo_run_61 : decode prog_14_method_80_code 61 = .ok (.getfield 39, 3) := by decide +kernel
theorem de_Mo_run_64 : decode prog_14_method_80_code 64 = .ok (.iconst 4, 1) := by decide +kernel
theorem de_Mo_run_65 : decode prog_14_method_80_code 65 = .ok (.iaload, 1) := by decide +kernel
theorem de_Mo_run_66 : decode prog_14_method_80_code 66 = .ok (.ireturn, 1) := by decide +kernel
set_option maxRecDepth 10000 in
theorem lo_Mo_run {B : Int} (hI : sg_ok B said) (hB : B ≤ 29000) (rr : Int) (hr0 : 0 ≤ rr) (hr1 : rr ≤ 5) (hok : sp_rok sign clause rr (clauses rr)) (nn : Int) (hn0 : 0 ≤ nn) (hn1 : nn ≤ 96) : ∀ (n : Nat) (k : Nat) (w0 s0 : Int → Int64) (t0 : Int), k ≤ nn.toNat → nn.toNat < k + n → ab_Ev g_G g_rs mt_Mo_run 7 0 0 44 [some (ab_R 0), some (ab_I rr), some (ab_I nn), some (ab_I (k : Int))] [] (mo_W tape taped rules sign leng clause clauses read next wrong number text made deep lines opn opened (s0) (t0) (w0) (sp_runN (sp_E sign clause rr (clauses rr)) said k) xx was undone kept sumOf faced slotAt dayAt row bestRow tMany tMost drawX images imageX isMade) (fun r w2 => r = some (ab_I (sp_runN (sp_E sign clause rr (clauses rr)) said nn.toNat 4)) ∧ ∃ W S T, w2 = (mo_W tape taped rules sign leng clause clauses read next wrong number text made deep lines opn opened (S) (T) (W) (sp_runN (sp_E sign clause rr (clauses rr)) said nn.toNat) xx was undone kept sumOf faced slotAt dayAt row bestRow tMany tMost drawX images imageX isMade)) := by
  intro n
  induction n with
  | zero =>
    intro k w0 s0 t0
    intro g1 g2; omega
  | succ n ih =>
    intro k w0 s0 t0
    intro g1 g2
    have hs := sg_runN hI (sp_E_b sign clause rr (clauses rr)) k (by omega)
    refine ev_iload_n de_Mo_run_44 rfl rfl ?_
    refine ev_iload_n de_Mo_run_45 rfl rfl ?_
    refine ev_icmp_ge (tgt := 60) de_Mo_run_46 (by decide) (by omega) (by omega) (fun h46 => ?_) (fun h46 => ?_)
    · skip
      have e : k = nn.toNat := by omega
      subst e
      refine ev_aload_n de_Mo_run_60 rfl rfl ?_
      refine ev_getfield de_Mo_run_61 rfl fl_Mo_39 rfl ?_
      refine ev_iconst de_Mo_run_64 ?_
      refine ev_iaload de_Mo_run_65 rfl (by omega) (by omega) (by omega) ?_
      exact ev_ireturn de_Mo_run_66 rfl ⟨rfl, _, _, _, rfl⟩
    · skip
      refine ev_aload_n de_Mo_run_49 rfl rfl ?_
      refine ev_iload_n de_Mo_run_50 rfl rfl ?_
      refine ev_virtual (ci := 11) (mc := 0) (ms := 0) (bc := 0) (bs := 0) de_Mo_run_51 (co_Mo_passesBy hs (by omega) rr hr0 hr1 hok) kb_Mo_385 ⟨im_Mo_passesBy, se_Mo_passesBy⟩ rfl rfl rfl (Nat.le_of_ble_eq_true rfl) (by decide) (Or.inl (fun _ _ h => by obtain ⟨-, W1, S1, T1, e⟩ := h; rw [e]; first | exact mo_Wn.trans mo_Wn.symm | rfl)) (fun r1 w1 hm1 => ?_)
      obtain ⟨rfl, W1, S1, T1, rfl⟩ := hm1
      refine ev_iinc (l' := [_, _, _, _]) de_Mo_run_54 rfl rfl ?_
      refine ev_goto (tgt := 44) de_Mo_run_57 (by decide) ?_
      exact ih (k + 1) _ _ _ (by omega) (by omega)
set_option maxRecDepth 10000 in
theorem co_Mo_run {B : Int} (hI : sg_ok B said) (hB : B ≤ 29000) (hru : 0 ≤ rules ∧ rules ≤ 6) (hok : ∀ r, 0 ≤ r → r < rules → sp_rok sign clause r (clauses r)) (rr nn : Int) (hr : ab_in rr) (hn : ab_in nn) : ab_Mt g_G g_rs mt_Mo_run 7 0 0 [ab_R 0, ab_I rr, ab_I nn] (mo_W tape taped rules sign leng clause clauses read next wrong number text made deep lines opn opened stack top word said xx was undone kept sumOf faced slotAt dayAt row bestRow tMany tMost drawX images imageX isMade) (fun r w2 => r = some (ab_I (if said 0 = 1 ∧ (0 ≤ rr ∧ rr < rules) ∧ (1 ≤ nn ∧ nn ≤ 96) ∧ 24 * said 6 + said 5 + nn < 24000 then sp_runN (sp_E sign clause rr (clauses rr)) said nn.toNat 4 else -1)) ∧ ∃ W S T, w2 = (mo_W tape taped rules sign leng clause clauses read next wrong number text made deep lines opn opened (S) (T) (W) (if said 0 = 1 ∧ (0 ≤ rr ∧ rr < rules) ∧ (1 ≤ nn ∧ nn ≤ 96) ∧ 24 * said 6 + said 5 + nn < 24000 then sp_runN (sp_E sign clause rr (clauses rr)) said nn.toNat else said) xx was (if said 0 = 1 ∧ (0 ≤ rr ∧ rr < rules) ∧ (1 ≤ nn ∧ nn ≤ 96) ∧ 24 * said 6 + said 5 + nn < 24000 then 0 else undone) kept sumOf faced slotAt dayAt row bestRow tMany tMost drawX images imageX isMade)) := by
  refine ab_Mt.of rfl (Nat.le_of_ble_eq_true rfl) ?_
  show ab_Ev g_G g_rs mt_Mo_run _ _ _ 0 [some (ab_R 0), some (ab_I rr), some (ab_I nn), none] [] _ _
  have hJ := hI; obtain ⟨i0, i1, i2, i3, i4, i5, i6, i7, i8, i9, i10, i11, i12, i13, i14, i15, i16, i17⟩ := sg_all hJ
  refine ev_aload_n de_Mo_run_0 rfl rfl ?_
  refine ev_vv (ci := 11) de_Mo_run_1 (co_Mo_isRing hI) kb_Mo_323 ⟨im_Mo_isRing, se_Mo_isRing⟩ rfl rfl rfl (Nat.le_of_ble_eq_true rfl) (by decide) rfl ?_
  refine ev_if_eq (tgt := 35) de_Mo_run_4 (by decide) (by omega) (fun h4 => ?_) (fun h4 => ?_)
  · skip
    rw [if_neg (by omega), if_neg (by omega), if_neg (by omega)]
    refine ev_iconst de_Mo_run_35 ?_
    exact ev_ireturn de_Mo_run_36 rfl ⟨rfl, _, _, _, rfl⟩
  · skip
    refine ev_aload_n de_Mo_run_7 rfl rfl ?_
    refine ev_iload_n de_Mo_run_8 rfl rfl ?_
    refine ev_vv (ci := 11) de_Mo_run_9 (co_Mo_isRule hru rr hr) kb_Mo_380 ⟨im_Mo_isRule, se_Mo_isRule⟩ rfl rfl rfl (Nat.le_of_ble_eq_true rfl) (by decide) rfl ?_
    refine ev_if_eq (tgt := 35) de_Mo_run_12 (by decide) (by split <;> decide) (fun h12 => ?_) (fun h12 => ?_)
    · skip
      have n12 : ¬ (0 ≤ rr ∧ rr < rules) := fun z => by rw [if_pos z] at h12; omega
      rw [if_neg (by omega), if_neg (by omega), if_neg (by omega)]
      refine ev_iconst de_Mo_run_35 ?_
      exact ev_ireturn de_Mo_run_36 rfl ⟨rfl, _, _, _, rfl⟩
    · skip
      have n12 : 0 ≤ rr ∧ rr < rules := Decidable.byContradiction (fun z => by rw [if_neg z] at h12; omega)
      refine ev_iload_n de_Mo_run_15 rfl rfl ?_
      refine ev_i2l de_Mo_run_16 (by omega) ?_
      refine ev_lconsti (n := 1) de_Mo_run_17 (by decide) ?_
      refine ev_ldc2i (n := 96) de_Mo_run_18 cn_Mo_383 (by decide) ?_
      refine ev_sv de_Mo_run_21 (co_Mo_in _ nn (1) (96) (by omega) (by decide) (by decide)) kb_Mo_115 sc_Mo_in rfl (Nat.le_of_ble_eq_true rfl) (by decide) rfl ?_
      refine ev_if_eq (tgt := 35) de_Mo_run_24 (by decide) (by split <;> decide) (fun h24 => ?_) (fun h24 => ?_)
      · skip
        have n24 : ¬ (1 ≤ nn ∧ nn ≤ 96) := fun z => by rw [if_pos z] at h24; omega
        rw [if_neg (by omega), if_neg (by omega), if_neg (by omega)]
        refine ev_iconst de_Mo_run_35 ?_
        exact ev_ireturn de_Mo_run_36 rfl ⟨rfl, _, _, _, rfl⟩
      · skip
        have n24 : 1 ≤ nn ∧ nn ≤ 96 := Decidable.byContradiction (fun z => by rw [if_neg z] at h24; omega)
        refine ev_aload_n de_Mo_run_27 rfl rfl ?_
        refine ev_iload_n de_Mo_run_28 rfl rfl ?_
        refine ev_vv (ci := 11) de_Mo_run_29 (co_Mo_canGo hI nn (by omega)) kb_Mo_341 ⟨im_Mo_canGo, se_Mo_canGo⟩ rfl rfl rfl (Nat.le_of_ble_eq_true rfl) (by decide) rfl ?_
        refine ev_if_ne (tgt := 37) de_Mo_run_32 (by decide) (by split <;> decide) (fun h32 => ?_) (fun h32 => ?_)
        · skip
          have n32 : 24 * said 6 + said 5 + nn < 24000 := Decidable.byContradiction (fun z => by rw [if_neg z] at h32; omega)
          rw [if_pos (by omega), if_pos (by omega), if_pos (by omega)]
          refine ev_aload_n de_Mo_run_37 rfl rfl ?_
          refine ev_iconst de_Mo_run_38 ?_
          refine ev_putfield de_Mo_run_39 rfl (fp_Mo_272 _) (Nat.le_of_ble_eq_true rfl) trivial ?_
          refine ev_world (w' := mo_W _ _ _ _ _ _ _ _ _ _ _ _ _ _ _ _ _ _ _ _ _ _ _ _ _ _ _ _ _ _ _ _ _ _ _ _ _) rfl ?_
          refine ev_iconst de_Mo_run_42 ?_
          refine ev_istore_n (l' := [_, _, _, _]) de_Mo_run_43 rfl (Nat.le_of_ble_eq_true rfl) rfl ?_
          exact lo_Mo_run hI hB rr (by omega) (by omega) (hok rr (by omega) (by omega)) nn (by omega) (by omega) (nn.toNat + 1) 0 word stack top (by omega) (by omega)
        · skip
          have n32 : ¬ (24 * said 6 + said 5 + nn < 24000) := fun z => by rw [if_pos z] at h32; omega
          rw [if_neg (by omega), if_neg (by omega), if_neg (by omega)]
          refine ev_iconst de_Mo_run_35 ?_
          exact ev_ireturn de_Mo_run_36 rfl ⟨rfl, _, _, _, rfl⟩
theorem de_Mo_seenBy_0 : decode prog_14_method_104_code 0 = .ok (.iconst 0, 1) := by decide +kernel
theorem de_Mo_seenBy_1 : decode prog_14_method_104_code 1 = .ok (.istore 5, 2) := by decide +kernel
theorem de_Mo_seenBy_3 : decode prog_14_method_104_code 3 = .ok (.aload_n 0, 1) := by decide +kernel
theorem de_Mo_seenBy_4 : decode prog_14_method_104_code 4 = .ok (.invokevirtual 390, 3) := by decide +kernel
theorem de_Mo_seenBy_7 : decode prog_14_method_104_code 7 = .ok (.iconst 0, 1) := by decide +kernel
theorem de_Mo_seenBy_8 : decode prog_14_method_104_code 8 = .ok (.istore 6, 2) := by decide +kernel
theorem de_Mo_seenBy_10 : decode prog_14_method_104_code 10 = .ok (.iload 6, 2) := by decide +kernel
theorem de_Mo_seenBy_12 : decode prog_14_method_104_code 12 = .ok (.iload 4, 2) := by decide +kernel
theorem de_Mo_seenBy_14 : decode prog_14_method_104_code 14 = .ok (.if_icmp .ge 38, 3) := by decide +kernel
theorem de_Mo_seenBy_17 : decode prog_14_method_104_code 17 = .ok (.iload 5, 2) := by decide +kernel
theorem de_Mo_seenBy_19 : decode prog_14_method_104_code 19 = .ok (.aload_n 0, 1) := by decide +kernel
theorem de_Mo_seenBy_20 : decode prog_14_method_104_code 20 = .ok (.aload_n 0, 1) := by decide +kernel
theorem de_Mo_seenBy_21 : decode prog_14_method_104_code 21 = .ok (.iload_n 2, 1) := by decide +kernel
theorem de_Mo_seenBy_22 : decode prog_14_method_104_code 22 = .ok (.invokevirtual 300, 3) := by decide +kernel
theorem de_Mo_seenBy_25 : decode prog_14_method_104_code 25 = .ok (.aload_n 0, 1) := by decide +kernel
theorem de_Mo_seenBy_26 : decode prog_14_method_104_code 26 = .ok (.getfield 39, 3) := by decide +kernel
theorem de_Mo_seenBy_29 : decode prog_14_method_104_code 29 = .ok (.iconst 5, 1) := by decide +kernel
theorem de_Mo_seenBy_30 : decode prog_14_method_104_code 30 = .ok (.iaload, 1) := by decide +kernel
theorem de_Mo_seenBy_31 : decode prog_14_method_104_code 31 = .ok (.invokevirtual 290, 3) := by decide +kernel
theorem de_Mo_seenBy_34 : decode prog_14_method_104_code 34 = .ok (.iload_n 3, 1) := by decide +kernel
theorem de_Mo_seenBy_35 : decode prog_14_method_104_code 35 = .ok (.ishr, 1) := by decide +kernel
theorem de_Mo_seenBy_36 : decode prog_14_method_104_code 36 = .ok (.iconst 1, 1) := by decide +kernel
theorem de_Mo_seenBy_37 : decode prog_14_method_104_code 37 = .ok (.iand, 1) := by decide +kernel
theorem de_Mo_seenBy_38 : decode prog_14_method_104_code 38 = .ok (.iadd, 1) := by decide +kernel
theorem de_Mo_seenBy_39 : decode prog_14_method_104_code 39 = .ok (.istore 5, 2) := by decide +kernel
theorem de_Mo_seenBy_41 : decode prog_14_method_104_code 41 = .ok (.aload_n 0, 1) := by decide +kernel
theorem de_Mo_seenBy_42 : decode prog_14_method_104_code 42 = .ok (.iload_n 1, 1) := by decide +kernel
theorem de_Mo_seenBy_43 : decode prog_14_method_104_code 43 = .ok (.invokevirtual 385, 3) := by decide +kernel
theorem de_Mo_seenBy_46 : decode prog_14_method_104_code 46 = .ok (.iinc 6 1, 3) := by decide +kernel
theorem de_Mo_seenBy_49 : decode prog_14_method_104_code 49 = .ok (.goto (-39), 3) := by decide +kernel
theorem de_Mo_seenBy_52 : decode prog_14_method_104_code 52 = .ok (.aload_n 0, 1) := by decide +kernel
theorem de_Mo_seenBy_53 : decode prog_14_method_104_code 53 = .ok (.invokevirtual 393, 3) := by decide +kernel
theorem de_Mo_seenBy_56 : decode prog_14_method_104_code 56 = .ok (.iload 5, 2) := by decide +kernel
theorem de_Mo_seenBy_58 : decode prog_14_method_104_code 58 = .ok (.ireturn, 1) := by decide +kernel
set_option maxRecDepth 10000 in
theorem lo_Mo_seenBy {B : Int} (hI : sg_ok B said) (hB : B ≤ 29000) (rr : Int) (hr0 : 0 ≤ rr) (hr1 : rr ≤ 5) (hok : sp_rok sign clause rr (clauses rr)) (h0 ss : Int) (hh0 : 0 ≤ h0) (hh1 : h0 < 7) (hs0 : 0 ≤ ss) (hs1 : ss ≤ 4) (nn : Nat) (hn : nn ≤ 60) (K : Int → Int) (hK : sp_cp K (sp_runN (sp_E sign clause rr (clauses rr)) said nn) 53 = said) : ∀ (n : Nat) (k : Nat) (w0 s0 : Int → Int64) (t0 : Int), k ≤ nn → nn < k + n → ab_Ev g_G g_rs mt_Mo_seenBy 7 0 0 10 [some (ab_R 0), some (ab_I rr), some (ab_I h0), some (ab_I ss), some (ab_I (nn : Int)), some (ab_I (sp_seen (sp_E sign clause rr (clauses rr)) said h0 ss k)), some (ab_I (k : Int))] [] (mo_W tape taped rules sign leng clause clauses read next wrong number text made deep lines opn opened (s0) (t0) (w0) (sp_runN (sp_E sign clause rr (clauses rr)) said k) xx was undone (K) sumOf faced slotAt dayAt row bestRow tMany tMost drawX images imageX isMade) (fun r w2 => r = some (ab_I (sp_seen (sp_E sign clause rr (clauses rr)) said h0 ss nn)) ∧ ∃ W S T, w2 = (mo_W tape taped rules sign leng clause clauses read next wrong number text made deep lines opn opened (S) (T) (W) said xx was undone (K) sumOf faced slotAt dayAt row bestRow tMany tMost drawX images imageX isMade)) := by
  intro n
  induction n with
  | zero =>
    intro k w0 s0 t0
    intro g1 g2; omega
  | succ n ih =>
    intro k w0 s0 t0
    intro g1 g2
    have hs := sg_runN hI (sp_E_b sign clause rr (clauses rr)) k (by omega)
    obtain ⟨j0, j1, j2, j3, j4, j5, j6, j7, hzz⟩ := sg_all hs
    obtain ⟨j8, j9, j10, j11, j12, j13, j14, j15, hzz⟩ := hzz
    obtain ⟨j16, j17⟩ := hzz
    refine ev_iload de_Mo_seenBy_10 rfl ?_
    refine ev_iload de_Mo_seenBy_12 rfl ?_
    refine ev_icmp_ge (tgt := 52) de_Mo_seenBy_14 (by decide) (by omega) (by omega) (fun h14 => ?_) (fun h14 => ?_)
    · skip
      have e : k = nn := by omega
      subst e
      refine ev_aload_n de_Mo_seenBy_52 rfl rfl ?_
      refine ev_vn (ci := 11) de_Mo_seenBy_53 co_Mo_laysBack kb_Mo_393 ⟨im_Mo_laysBack, se_Mo_laysBack⟩ rfl rfl rfl (Nat.le_of_ble_eq_true rfl) (by decide) rfl ?_
      refine ev_world (w' := (mo_W tape taped rules sign leng clause clauses read next wrong number text made deep lines opn opened (s0) (t0) (w0) said xx was undone (K) sumOf faced slotAt dayAt row bestRow tMany tMost drawX images imageX isMade)) (by rw [hK]) ?_
      refine ev_iload de_Mo_seenBy_56 rfl ?_
      exact ev_ireturn de_Mo_seenBy_58 rfl ⟨rfl, _, _, _, rfl⟩
    · skip
      refine ev_iload de_Mo_seenBy_17 rfl ?_
      refine ev_aload_n de_Mo_seenBy_19 rfl rfl ?_
      refine ev_aload_n de_Mo_seenBy_20 rfl rfl ?_
      refine ev_iload_n de_Mo_seenBy_21 rfl rfl ?_
      refine ev_vv (ci := 11) de_Mo_seenBy_22 (co_Mo_facesOf hs h0 hh0 hh1) kb_Mo_300 ⟨im_Mo_facesOf, se_Mo_facesOf⟩ rfl rfl rfl (Nat.le_of_ble_eq_true rfl) (by decide) rfl ?_
      refine ev_aload_n de_Mo_seenBy_25 rfl rfl ?_
      refine ev_getfield de_Mo_seenBy_26 rfl fl_Mo_39 rfl ?_
      refine ev_iconst de_Mo_seenBy_29 ?_
      refine ev_iaload de_Mo_seenBy_30 rfl (by omega) (by omega) (by omega) ?_
      have qf := sp_facesOf_b (sp_runN (sp_E sign clause rr (clauses rr)) said k) h0
      refine ev_vv (ci := 11) de_Mo_seenBy_31 (co_Mo_sortsAt hs _ _ (by omega) (by omega)) kb_Mo_290 ⟨im_Mo_sortsAt, se_Mo_sortsAt⟩ rfl rfl rfl (Nat.le_of_ble_eq_true rfl) (by decide) rfl ?_
      refine ev_iload_n de_Mo_seenBy_34 rfl rfl ?_
      have qs := sp_sortsAt_lt hs (sp_facesOf (sp_runN (sp_E sign clause rr (clauses rr)) said k) h0) (sp_runN (sp_E sign clause rr (clauses rr)) said k 5)
      refine ev_ishr de_Mo_seenBy_35 (by omega) (by omega) (by omega) ?_
      refine ev_iconst de_Mo_seenBy_36 ?_
      refine ev_iand de_Mo_seenBy_37 ?_
      refine ev_top (congrArg Sum.inl (ab_bit (by omega) (by omega))) ?_
      refine ev_iadd de_Mo_seenBy_38 ?_
      refine ev_istore (l' := [_, _, _, _, _, _, _]) de_Mo_seenBy_39 (Nat.le_of_ble_eq_true rfl) rfl ?_
      refine ev_aload_n de_Mo_seenBy_41 rfl rfl ?_
      refine ev_iload_n de_Mo_seenBy_42 rfl rfl ?_
      refine ev_virtual (ci := 11) (mc := 0) (ms := 0) (bc := 0) (bs := 0) de_Mo_seenBy_43 (co_Mo_passesBy hs (by omega) rr hr0 hr1 hok) kb_Mo_385 ⟨im_Mo_passesBy, se_Mo_passesBy⟩ rfl rfl rfl (Nat.le_of_ble_eq_true rfl) (by decide) (Or.inl (fun _ _ h => by obtain ⟨-, W1, S1, T1, e⟩ := h; rw [e]; first | exact mo_Wn.trans mo_Wn.symm | rfl)) (fun r1 w1 hm1 => ?_)
      obtain ⟨rfl, W1, S1, T1, rfl⟩ := hm1
      refine ev_iinc (l' := [_, _, _, _, _, _, _]) de_Mo_seenBy_46 rfl rfl ?_
      refine ev_goto (tgt := 10) de_Mo_seenBy_49 (by decide) ?_
      exact ih (k + 1) _ _ _ (by omega) (by omega)
set_option maxRecDepth 10000 in
theorem co_Mo_seenBy {B : Int} (hI : sg_ok B said) (hB : B ≤ 29000) (rr : Int) (hr0 : 0 ≤ rr) (hr1 : rr ≤ 5) (hok : sp_rok sign clause rr (clauses rr)) (h0 ss : Int) (hh0 : 0 ≤ h0) (hh1 : h0 < 7) (hs0 : 0 ≤ ss) (hs1 : ss ≤ 4) (nn : Nat) (hn : nn ≤ 60) : ab_Mt g_G g_rs mt_Mo_seenBy 7 0 0 [ab_R 0, ab_I rr, ab_I h0, ab_I ss, ab_I (nn : Int)] (mo_W tape taped rules sign leng clause clauses read next wrong number text made deep lines opn opened stack top word said xx was undone kept sumOf faced slotAt dayAt row bestRow tMany tMost drawX images imageX isMade) (fun r w2 => r = some (ab_I (sp_seen (sp_E sign clause rr (clauses rr)) said h0 ss nn)) ∧ ∃ W S T, w2 = (mo_W tape taped rules sign leng clause clauses read next wrong number text made deep lines opn opened (S) (T) (W) said xx was undone (sp_cp said kept 53) sumOf faced slotAt dayAt row bestRow tMany tMost drawX images imageX isMade)) := by
  refine ab_Mt.of rfl (Nat.le_of_ble_eq_true rfl) ?_
  show ab_Ev g_G g_rs mt_Mo_seenBy _ _ _ 0 [some (ab_R 0), some (ab_I rr), some (ab_I h0), some (ab_I ss), some (ab_I (nn : Int)), none, none] [] _ _
  refine ev_iconst de_Mo_seenBy_0 ?_
  refine ev_istore (l' := [_, _, _, _, _, _, _]) de_Mo_seenBy_1 (Nat.le_of_ble_eq_true rfl) rfl ?_
  refine ev_aload_n de_Mo_seenBy_3 rfl rfl ?_
  refine ev_vn (ci := 11) de_Mo_seenBy_4 co_Mo_keeps kb_Mo_390 ⟨im_Mo_keeps, se_Mo_keeps⟩ rfl rfl rfl (Nat.le_of_ble_eq_true rfl) (by decide) rfl ?_
  refine ev_iconst de_Mo_seenBy_7 ?_
  refine ev_istore (l' := [_, _, _, _, _, _, _]) de_Mo_seenBy_8 (Nat.le_of_ble_eq_true rfl) rfl ?_
  have z := sp_layR (kept := kept) hI (sp_E_b sign clause rr (clauses rr)) nn (by omega)
  exact lo_Mo_seenBy hI hB rr hr0 hr1 hok h0 ss hh0 hh1 hs0 hs1 nn hn _ z (nn + 1) 0 word stack top (by omega) (by omega)
end MO
