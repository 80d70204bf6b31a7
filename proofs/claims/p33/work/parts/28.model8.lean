section MO
variable {tape : Int → Int} {taped : Int} {rules : Int} {sign : Int → Int} {leng : Int → Int} {clause : Int → Int} {clauses : Int → Int} {read : Int → Int} {next : Int} {wrong : Int} {number : Int} {text : Int} {made : Int} {deep : Int} {lines : Int} {opn : Int → Int} {opened : Int} {stack : Int → Int64} {top : Int} {word : Int → Int64} {said : Int → Int} {xx : Int} {was : Int → Int} {undone : Int} {kept : Int → Int} {sumOf : Int → Int} {faced : Int → Int} {slotAt : Int → Int} {dayAt : Int → Int} {row : Int → Int} {bestRow : Int → Int} {tMany : Int} {tMost : Int} {drawX : Int64} {images : Int → Int} {imageX : Int → Int} {isMade : Int → Int}
def sp_byte (v : Int) (j : Nat) : Int := (v / 2 ^ (24 - 8 * j)).bmod 256
def sp_put (tape : Int → Int) (taped v : Int) : Nat → Int → Int
  | 0 => tape
  | j + 1 => ab_up (sp_put tape taped v j) (taped + (j : Int)) (sp_byte v j)
def sp_feed (tape : Int → Int) (taped a b c d e : Int) : Int → Int := sp_put (sp_put (sp_put (sp_put (sp_put tape taped a 4) (taped + 4) b 4) (taped + 4 + 4) c 4) (taped + 4 + 4 + 4) d 4) (taped + 4 + 4 + 4 + 4) e 4
def sp_saw (f : Int → Int) (code h n s : Int) : Int := bit_at (sp_sortsAt f ((f (143 + h) + code / 7 + (code % 7 - 3) * n) % 12) (n % 24)) s.toNat
def sp_fit (f : Int → Int) (code : Int) : Nat → Int → Int
  | 0, _ => 1
  | n + 1, k => if sp_saw f code (f (150 + 4 * k)) (f (150 + 4 * k + 1)) (f (150 + 4 * k + 2)) = f (150 + 4 * k + 3) then sp_fit f code n (k + 1) else 0
theorem sp_fit_01 (f : Int → Int) (code : Int) : ∀ (n : Nat) (k : Int), sp_fit f code n k = 0 ∨ sp_fit f code n k = 1
  | 0, _ => Or.inr rfl
  | n + 1, k => by
    unfold sp_fit
    split
    · exact sp_fit_01 f code n (k + 1)
    · exact Or.inl rfl
def sp_fits (f : Int → Int) (code : Int) : Int := sp_fit f code (f 190).toNat 0
def sp_many (f : Int → Int) : Nat → Int
  | 0 => 0
  | k + 1 => if sp_fits f (k : Int) = 0 then sp_many f k else sp_many f k + 1
def sp_first (f : Int → Int) : Nat → Int
  | 0 => -1
  | k + 1 => if sp_fits f (k : Int) = 0 then sp_first f k else if sp_many f k = 0 then (k : Int) else sp_first f k
theorem sp_many_b (f : Int → Int) : ∀ k : Nat, 0 ≤ sp_many f k ∧ sp_many f k ≤ (k : Int)
  | 0 => by unfold sp_many; omega
  | k + 1 => by have ih := sp_many_b f k; unfold sp_many; split <;> omega
theorem sp_first_b (f : Int → Int) : ∀ k : Nat, -1 ≤ sp_first f k ∧ sp_first f k < (k : Int) ∧ (sp_many f k ≠ 0 → 0 ≤ sp_first f k)
  | 0 => by unfold sp_first sp_many; omega
  | k + 1 => by
    have ih := sp_first_b f k
    have hm := sp_many_b f k
    have e1 : sp_first f (k + 1) = if sp_fits f (k : Int) = 0 then sp_first f k else if sp_many f k = 0 then (k : Int) else sp_first f k := rfl
    have e2 : sp_many f (k + 1) = if sp_fits f (k : Int) = 0 then sp_many f k else sp_many f k + 1 := rfl
    rw [e1, e2]
    by_cases h1 : sp_fits f (k : Int) = 0
    · rw [if_pos h1, if_pos h1]; omega
    · rw [if_neg h1, if_neg h1]
      by_cases h2 : sp_many f k = 0
      · rw [if_pos h2]; omega
      · rw [if_neg h2]; omega
def sp_turned (f : Int → Int) (w : Int) : Int := if w = 0 then sp_many f 84 else if sp_many f 84 = 0 then -1000 else if w = 1 then sp_first f 84 / 7 else sp_first f 84 % 7 - 3
def sp_steps (code : Int) (n : Nat) : Nat → Int
  | 0 => 0
  | k + 1 => sp_steps code n k + sp_dig code (n - 1 - k)
theorem sp_dig_b (code : Int) (e : Nat) : 0 ≤ sp_dig code e ∧ sp_dig code e ≤ 2 := by unfold sp_dig; omega
theorem sp_steps_b (code : Int) (n : Nat) : ∀ k : Nat, 0 ≤ sp_steps code n k ∧ sp_steps code n k ≤ 2 * (k : Int)
  | 0 => by unfold sp_steps; omega
  | k + 1 => by have ih := sp_steps_b code n k; have := sp_dig_b code (n - 1 - k); unfold sp_steps; omega
/-- the row behind k HOURS at the rates that a code tells, c less -/
def sp_pc (f : Int → Int) (code c : Int) (n : Nat) : Nat → Int → Int
  | 0 => ab_up f 7 0
  | k + 1 => sp_passAt (sp_dig code (n - 1 - k) - c) (sp_pc f code c n k)
theorem sg_pc {B : Int} {f : Int → Int} (h : sg_ok B f) (code c : Int) (hc : 0 ≤ c) (hc1 : c ≤ 1) (n : Nat) : ∀ k : Nat, B + k ≤ 30000 → sg_ok (B + k) (sp_pc f code c n k)
  | 0, _ => by rw [show B + ((0 : Nat) : Int) = B by omega]; exact sg_up7 h (Or.inl rfl)
  | k + 1, hk => by
    have := sp_dig_b code (n - 1 - k)
    rw [show B + ((k + 1 : Nat) : Int) = B + (k : Int) + 1 by omega]
    exact sg_passAt (sg_pc h code c hc hc1 n k (by omega)) (by omega) (by omega) (by omega)
theorem sp_pc_k {B : Int} {f : Int → Int} (h : sg_ok B f) (code c : Int) (hc : 0 ≤ c) (hc1 : c ≤ 1) (n : Nat) : ∀ k : Nat, B + k ≤ 30000 → ∀ j : Int, (j < 0 ∨ 46 ≤ j) → sp_pc f code c n k j = f j
  | 0, _, j, hj => ab_upn _ _ (by omega)
  | k + 1, hk, j, hj => by
    have := sp_dig_b code (n - 1 - k)
    have hs := sg_pc h code c hc hc1 n k (by omega)
    show sp_passAt _ (sp_pc f code c n k) j = _
    rw [sp_pass_k2 hs (by omega) (by omega) hj]
    exact sp_pc_k h code c hc hc1 n k (by omega) j hj
theorem sp_layC {B : Int} {f kept : Int → Int} (h : sg_ok B f) (code c : Int) (hc : 0 ≤ c) (hc1 : c ≤ 1) (n k : Nat) (hn : B + k ≤ 30000) : sp_cp (sp_cp f kept 53) (sp_pc f code c n k) 53 = f := sp_lay (fun j hj => sp_pc_k h code c hc hc1 n k hn j (by omega))
def sp_mx (f : Int → Int) : Nat → Int
  | 0 => 0
  | k + 1 => if sp_mx f k < f (34 + (k : Int)) then f (34 + (k : Int)) else sp_mx f k
theorem sp_mx_b {B : Int} {f : Int → Int} (h : sg_ok B f) : ∀ k : Nat, k ≤ 12 → 0 ≤ sp_mx f k ∧ sp_mx f k ≤ 90000
  | 0, _ => by unfold sp_mx; omega
  | k + 1, hk => by
    have ih := sp_mx_b h k (by omega)
    obtain ⟨i0, i1, i2, i3, i4, i5, i6, i7, i8, i9, i10, -⟩ := sg_all h
    have q := i10 (34 + (k : Int)) (by omega) (by omega)
    unfold sp_mx
    split <;> omega
def sp_wc (f : Int → Int) (code : Int) (n : Nat) : Int := sp_mx (sp_pc f code 0 n n) 12
/-- the first code of t steps that wears least: (the code, how much) -/
def sp_sb (f : Int → Int) (n : Nat) (t : Int) : Nat → Int × Int
  | 0 => (-1, 0)
  | k + 1 => if sp_steps (k : Int) n n = t then (if (sp_sb f n t k).1 < 0 ∨ sp_wc f (k : Int) n < (sp_sb f n t k).2 then ((k : Int), sp_wc f (k : Int) n) else sp_sb f n t k) else sp_sb f n t k
theorem sp_sb_b {B : Int} {f : Int → Int} (h : sg_ok B f) (hB : B ≤ 29000) (n : Nat) (hn : n ≤ 5) (t : Int) : ∀ k : Nat, -1 ≤ (sp_sb f n t k).1 ∧ (sp_sb f n t k).1 < (k : Int) ∧ 0 ≤ (sp_sb f n t k).2 ∧ (sp_sb f n t k).2 ≤ 90000
  | 0 => by unfold sp_sb; decide
  | k + 1 => by
    have ih := sp_sb_b h hB n hn t k
    have q := sp_mx_b (sg_pc h (k : Int) 0 (by decide) (by decide) n n (by omega)) 12 (by decide)
    unfold sp_sb
    split
    · split
      · refine ⟨?_, ?_, q.1, q.2⟩ <;> dsimp only <;> omega
      · omega
    · omega
def sp_spare (f : Int → Int) (n t w : Int) : Int := if (sp_sb f n.toNat t (3 ^ n.toNat)).1 < 0 then -2 else if w = 0 then (sp_sb f n.toNat t (3 ^ n.toNat)).2 else if n < w then -2 else sp_dig (sp_sb f n.toNat t (3 ^ n.toNat)).1 (n - 1 - (w - 1)).toNat
theorem de_Mo_four_0 : decode prog_14_method_5_code 0 = .ok (.bipush 24, 2) := by decide +kernel
theorem de_Mo_four_2 : decode prog_14_method_5_code 2 = .ok (.istore_n 2, 1) := by decide +kernel
theorem de_Mo_four_3 : decode prog_14_method_5_code 3 = .ok (.iload_n 2, 1) := by decide +kernel
theorem de_Mo_four_4 : decode prog_14_method_5_code 4 = .ok (.ifCond .lt 32, 3) := by decide +kernel
theorem de_Mo_four_7 : decode prog_14_method_5_code 7 = .ok (.aload_n 0, 1) := by decide +kernel
theorem de_Mo_four_8 : decode prog_14_method_5_code 8 = .ok (.getfield 7, 3) := by decide +kernel
theorem de_Mo_four_11 : decode prog_14_method_5_code 11 = .ok (.aload_n 0, 1) := by decide +kernel
theorem de_Mo_four_12 : decode prog_14_method_5_code 12 = .ok (.getfield 76, 3) := by decide +kernel
theorem de_Mo_four_15 : decode prog_14_method_5_code 15 = .ok (.iload_n 1, 1) := by decide +kernel
theorem de_Mo_four_16 : decode prog_14_method_5_code 16 = .ok (.iload_n 2, 1) := by decide +kernel
theorem de_Mo_four_17 : decode prog_14_method_5_code 17 = .ok (.ishr, 1) := by decide +kernel
theorem de_Mo_four_18 : decode prog_14_method_5_code 18 = .ok (.i2b, 1) := by decide +kernel
theorem de_Mo_four_19 : decode prog_14_method_5_code 19 = .ok (.bastore, 1) := by decide +kernel
theorem de_Mo_four_20 : decode prog_14_method_5_code 20 = .ok (.aload_n 0, 1) := by decide +kernel
theorem de_Mo_four_21 : decode prog_14_method_5_code 21 = .ok (.dup, 1) := by decide +kernel
theorem de_Mo_four_22 : decode prog_14_method_5_code 22 = .ok (.getfield 76, 3) := by decide +kernel
theorem de_Mo_four_25 : decode prog_14_method_5_code 25 = .ok (.iconst 1, 1) := by decide +kernel
theorem de_Mo_four_26 : decode prog_14_method_5_code 26 = .ok (.iadd, 1) := by decide +kernel
theorem de_Mo_four_27 : decode prog_14_method_5_code 27 = .ok (.putfield 76, 3) := by decide +kernel
theorem de_Mo_four_30 : decode prog_14_method_5_code 30 = .ok (.iinc 2 (-8), 3) := by decide +kernel
theorem de_Mo_four_33 : decode prog_14_method_5_code 33 = .ok (.goto (-30), 3) := by decide +kernel
theorem de_Mo_four_36 : decode prog_14_method_5_code 36 = .ok (.return_, 1) := by decide +kernel
set_option maxRecDepth 10000 in
theorem lo_Mo_four (v : Int) (hv : ab_in v) (ht : 0 ≤ taped) (ht4 : taped + 4 ≤ 400) : ∀ (n : Nat) (k : Nat), k ≤ 4 → 4 < k + n → ab_Ev g_G g_rs mt_Mo_four 0 0 0 3 [some (ab_R 0), some (ab_I v), some (ab_I (24 - 8 * (k : Int)))] [] (mo_W (sp_put tape taped v k) (taped + (k : Int)) rules sign leng clause clauses read next wrong number text made deep lines opn opened stack top word said xx was undone kept sumOf faced slotAt dayAt row bestRow tMany tMost drawX images imageX isMade) (ab_is none (mo_W (sp_put tape taped v 4) (taped + 4) rules sign leng clause clauses read next wrong number text made deep lines opn opened stack top word said xx was undone kept sumOf faced slotAt dayAt row bestRow tMany tMost drawX images imageX isMade)) := by
  intro n
  induction n with
  | zero =>
    intro k
    intro h1 h2; omega
  | succ n ih =>
    intro k
    intro h1 h2
    refine ev_iload_n de_Mo_four_3 rfl rfl ?_
    refine ev_if_lt (tgt := 36) de_Mo_four_4 (by decide) (by omega) (fun h4 => ?_) (fun h4 => ?_)
    · skip
      have e : k = 4 := by omega
      subst e
      exact ev_return de_Mo_four_36 rfl ⟨rfl, rfl⟩
    · skip
      refine ev_aload_n de_Mo_four_7 rfl rfl ?_
      refine ev_getfield de_Mo_four_8 rfl fl_Mo_7 rfl ?_
      refine ev_aload_n de_Mo_four_11 rfl rfl ?_
      refine ev_getfield de_Mo_four_12 rfl fl_Mo_76 rfl ?_
      refine ev_iload_n de_Mo_four_15 rfl rfl ?_
      refine ev_iload_n de_Mo_four_16 rfl rfl ?_
      refine ev_ishr de_Mo_four_17 (by omega) (by omega) (by omega) ?_
      refine ev_i2b de_Mo_four_18 ?_
      refine ev_top (congrArg Sum.inl (show _ = sp_byte v k from by unfold sp_byte; rw [show (24 - 8 * (k : Int)).toNat = 24 - 8 * k by omega])) ?_
      refine ev_bastore de_Mo_four_19 rfl (by omega) (by omega) (by omega) ?_
      refine ev_world (w' := (mo_W (sp_put tape taped v (k + 1)) (taped + (k : Int)) rules sign leng clause clauses read next wrong number text made deep lines opn opened stack top word said xx was undone kept sumOf faced slotAt dayAt row bestRow tMany tMost drawX images imageX isMade)) (by rw [show (sp_byte v k).bmod 256 = sp_byte v k from Int.bmod_bmod]; rfl) ?_
      refine ev_aload_n de_Mo_four_20 rfl rfl ?_
      refine ev_dup de_Mo_four_21 rfl ?_
      refine ev_getfield de_Mo_four_22 rfl fl_Mo_76 rfl ?_
      refine ev_iconst de_Mo_four_25 ?_
      refine ev_iadd de_Mo_four_26 ?_
      refine ev_putfield de_Mo_four_27 rfl (fp_Mo_76 _) (Nat.le_of_ble_eq_true rfl) trivial ?_
      refine ev_world (w' := mo_W _ _ _ _ _ _ _ _ _ _ _ _ _ _ _ _ _ _ _ _ _ _ _ _ _ _ _ _ _ _ _ _ _ _ _ _ _) rfl ?_
      refine ev_iinc (l' := [_, _, _]) de_Mo_four_30 rfl rfl ?_
      refine ev_goto (tgt := 3) de_Mo_four_33 (by decide) ?_
      refine ev_loc (l2 := [some (ab_R 0), some (ab_I v), some (ab_I (24 - 8 * ((k + 1 : Nat) : Int)))]) (by rw [show (24 - 8 * ((k + 1 : Nat) : Int)) = 24 - 8 * (k : Int) + -8 by omega]) ?_
      refine ev_world (w' := (mo_W (sp_put tape taped v (k + 1)) (taped + ((k + 1 : Nat) : Int)) rules sign leng clause clauses read next wrong number text made deep lines opn opened stack top word said xx was undone kept sumOf faced slotAt dayAt row bestRow tMany tMost drawX images imageX isMade)) (by rw [show taped + ((k + 1 : Nat) : Int) = taped + (k : Int) + 1 by omega]) ?_
      exact ih (k + 1) (by omega) (by omega)
set_option maxRecDepth 10000 in
theorem co_Mo_four (v : Int) (hv : ab_in v) (ht : 0 ≤ taped) (ht4 : taped + 4 ≤ 400) : ab_Mt g_G g_rs mt_Mo_four 0 0 0 [ab_R 0, ab_I v] (mo_W tape taped rules sign leng clause clauses read next wrong number text made deep lines opn opened stack top word said xx was undone kept sumOf faced slotAt dayAt row bestRow tMany tMost drawX images imageX isMade) (ab_is none (mo_W (sp_put tape taped v 4) (taped + 4) rules sign leng clause clauses read next wrong number text made deep lines opn opened stack top word said xx was undone kept sumOf faced slotAt dayAt row bestRow tMany tMost drawX images imageX isMade)) := by
  refine ab_Mt.of rfl (Nat.le_of_ble_eq_true rfl) ?_
  show ab_Ev g_G g_rs mt_Mo_four _ _ _ 0 [some (ab_R 0), some (ab_I v), none] [] _ _
  refine ev_bipush de_Mo_four_0 rfl ?_
  refine ev_istore_n (l' := [_, _, _]) de_Mo_four_2 rfl (Nat.le_of_ble_eq_true rfl) rfl ?_
  refine ev_world (w' := (mo_W (sp_put tape taped v 0) (taped + ((0 : Nat) : Int)) rules sign leng clause clauses read next wrong number text made deep lines opn opened stack top word said xx was undone kept sumOf faced slotAt dayAt row bestRow tMany tMost drawX images imageX isMade)) (by rw [show taped + ((0 : Nat) : Int) = taped by omega]; rfl) ?_
  exact lo_Mo_four v hv ht ht4 5 0 (by omega) (by omega)
theorem de_Mo_feed_0 : decode prog_14_method_6_code 0 = .ok (.aload_n 0, 1) := by decide +kernel
theorem de_Mo_feed_1 : decode prog_14_method_6_code 1 = .ok (.getfield 76, 3) := by decide +kernel
theorem de_Mo_feed_4 : decode prog_14_method_6_code 4 = .ok (.bipush 20, 2) := by decide +kernel
theorem de_Mo_feed_6 : decode prog_14_method_6_code 6 = .ok (.iadd, 1) := by decide +kernel
theorem de_Mo_feed_7 : decode prog_14_method_6_code 7 = .ok (.sipush 400, 3) := by decide +kernel
theorem de_Mo_feed_10 : decode prog_14_method_6_code 10 = .ok (.if_icmp .le 5, 3) := by decide +kernel
theorem de_Mo_feed_13 : decode prog_14_method_6_code 13 = .ok (.iconst (-1), 1) := by decide +kernel
theorem de_Mo_feed_14 : decode prog_14_method_6_code 14 = .ok (.ireturn, 1) := by decide +kernel
theorem de_Mo_feed_15 : decode prog_14_method_6_code 15 = .ok (.aload_n 0, 1) := by decide +kernel
theorem de_Mo_feed_16 : decode prog_14_method_6_code 16 = .ok (.iload_n 1, 1) := by decide +kernel
theorem de_Mo_feed_17 : decode prog_14_method_6_code 17 = .ok (.invokevirtual 80, 3) := by decide +kernel
theorem de_Mo_feed_20 : decode prog_14_method_6_code 20 = .ok (.aload_n 0, 1) := by decide +kernel
theorem de_Mo_feed_21 : decode prog_14_method_6_code 21 = .ok (.iload_n 2, 1) := by decide +kernel
theorem de_Mo_feed_22 : decode prog_14_method_6_code 22 = .ok (.invokevirtual 80, 3) := by decide +kernel
theorem de_Mo_feed_25 : decode prog_14_method_6_code 25 = .ok (.aload_n 0, 1) := by decide +kernel
theorem de_Mo_feed_26 : decode prog_14_method_6_code 26 = .ok (.iload_n 3, 1) := by decide +kernel
theorem de_Mo_feed_27 : decode prog_14_method_6_code 27 = .ok (.invokevirtual 80, 3) := by decide +kernel
theorem de_Mo_feed_30 : decode prog_14_method_6_code 30 = .ok (.aload_n 0, 1) := by decide +kernel
theorem de_Mo_feed_31 : decode prog_14_method_6_code 31 = .ok (.iload 4, 2) := by decide +kernel
theorem de_Mo_feed_33 : decode prog_14_method_6_code 33 = .ok (.invokevirtual 80, 3) := by decide +kernel
theorem de_Mo_feed_36 : decode prog_14_method_6_code 36 = .ok (.aload_n 0, 1) := by decide +kernel
theorem de_Mo_feed_37 : decode prog_14_method_6_code 37 = .ok (.iload 5, 2) := by decide +kernel
theorem de_Mo_feed_39 : decode prog_14_method_6_code 39 = .ok (.invokevirtual 80, 3) := by decide +kernel
theorem de_Mo_feed_42 : decode prog_14_method_6_code 42 = .ok (.aload_n 0, 1) := by decide +kernel
theorem de_Mo_feed_43 : decode prog_14_method_6_code 43 = .ok (.getfield 76, 3) := by decide +kernel
theorem de_Mo_feed_46 : decode prog_14_method_6_code 46 = .ok (.ireturn, 1) := by decide +kernel
set_option maxRecDepth 10000 in
theorem co_Mo_feed (ht : 0 ≤ taped) (ht1 : taped ≤ 400) (a b c d e : Int) (ha : ab_in a) (hb : ab_in b) (hc : ab_in c) (hd : ab_in d) (he : ab_in e) : ab_Mt g_G g_rs mt_Mo_feed 1 0 0 [ab_R 0, ab_I a, ab_I b, ab_I c, ab_I d, ab_I e] (mo_W tape taped rules sign leng clause clauses read next wrong number text made deep lines opn opened stack top word said xx was undone kept sumOf faced slotAt dayAt row bestRow tMany tMost drawX images imageX isMade) (ab_is (some (ab_I (if taped ≤ 380 then taped + 4 + 4 + 4 + 4 + 4 else -1))) (mo_W (if taped ≤ 380 then sp_feed tape taped a b c d e else tape) (if taped ≤ 380 then taped + 4 + 4 + 4 + 4 + 4 else taped) rules sign leng clause clauses read next wrong number text made deep lines opn opened stack top word said xx was undone kept sumOf faced slotAt dayAt row bestRow tMany tMost drawX images imageX isMade)) := by
  refine ab_Mt.of rfl (Nat.le_of_ble_eq_true rfl) ?_
  show ab_Ev g_G g_rs mt_Mo_feed _ _ _ 0 [some (ab_R 0), some (ab_I a), some (ab_I b), some (ab_I c), some (ab_I d), some (ab_I e)] [] _ _
  refine ev_aload_n de_Mo_feed_0 rfl rfl ?_
  refine ev_getfield de_Mo_feed_1 rfl fl_Mo_76 rfl ?_
  refine ev_bipush de_Mo_feed_4 rfl ?_
  refine ev_iadd de_Mo_feed_6 ?_
  refine ev_sipush de_Mo_feed_7 rfl ?_
  refine ev_icmp_le (tgt := 15) de_Mo_feed_10 (by decide) (by omega) (by omega) (fun h10 => ?_) (fun h10 => ?_)
  · skip
    rw [if_pos (by omega), if_pos (by omega), if_pos (by omega)]
    refine ev_aload_n de_Mo_feed_15 rfl rfl ?_
    refine ev_iload_n de_Mo_feed_16 rfl rfl ?_
    refine ev_vn (ci := 11) de_Mo_feed_17 (co_Mo_four _ (by omega) (by omega) (by omega)) kb_Mo_80 ⟨im_Mo_four, se_Mo_four⟩ rfl rfl rfl (Nat.le_of_ble_eq_true rfl) (by decide) rfl ?_
    refine ev_aload_n de_Mo_feed_20 rfl rfl ?_
    refine ev_iload_n de_Mo_feed_21 rfl rfl ?_
    refine ev_vn (ci := 11) de_Mo_feed_22 (co_Mo_four _ (by omega) (by omega) (by omega)) kb_Mo_80 ⟨im_Mo_four, se_Mo_four⟩ rfl rfl rfl (Nat.le_of_ble_eq_true rfl) (by decide) rfl ?_
    refine ev_aload_n de_Mo_feed_25 rfl rfl ?_
    refine ev_iload_n de_Mo_feed_26 rfl rfl ?_
    refine ev_vn (ci := 11) de_Mo_feed_27 (co_Mo_four _ (by omega) (by omega) (by omega)) kb_Mo_80 ⟨im_Mo_four, se_Mo_four⟩ rfl rfl rfl (Nat.le_of_ble_eq_true rfl) (by decide) rfl ?_
    refine ev_aload_n de_Mo_feed_30 rfl rfl ?_
    refine ev_iload de_Mo_feed_31 rfl ?_
    refine ev_vn (ci := 11) de_Mo_feed_33 (co_Mo_four _ (by omega) (by omega) (by omega)) kb_Mo_80 ⟨im_Mo_four, se_Mo_four⟩ rfl rfl rfl (Nat.le_of_ble_eq_true rfl) (by decide) rfl ?_
    refine ev_aload_n de_Mo_feed_36 rfl rfl ?_
    refine ev_iload de_Mo_feed_37 rfl ?_
    refine ev_vn (ci := 11) de_Mo_feed_39 (co_Mo_four _ (by omega) (by omega) (by omega)) kb_Mo_80 ⟨im_Mo_four, se_Mo_four⟩ rfl rfl rfl (Nat.le_of_ble_eq_true rfl) (by decide) rfl ?_
    refine ev_aload_n de_Mo_feed_42 rfl rfl ?_
    refine ev_getfield de_Mo_feed_43 rfl fl_Mo_76 rfl ?_
    exact ev_ireturn de_Mo_feed_46 rfl ⟨rfl, rfl⟩
  · skip
    rw [if_neg (by omega), if_neg (by omega), if_neg (by omega)]
    refine ev_iconst de_Mo_feed_13 ?_
    exact ev_ireturn de_Mo_feed_14 rfl ⟨rfl, rfl⟩
theorem de_Mo_end_0 : decode prog_14_method_7_code 0 = .ok (.iload_n 1, 1) := by decide +kernel
theorem de_Mo_end_1 : decode prog_14_method_7_code 1 = .ok (.ifCond .lt 11, 3) := by decide +kernel
theorem de_Mo_end_4 : decode prog_14_method_7_code 4 = .ok (.iload_n 1, 1) := by decide +kernel
theorem de_Mo_end_5 : decode prog_14_method_7_code 5 = .ok (.aload_n 0, 1) := by decide +kernel
theorem de_Mo_end_6 : decode prog_14_method_7_code 6 = .ok (.getfield 76, 3) := by decide +kernel
theorem de_Mo_end_9 : decode prog_14_method_7_code 9 = .ok (.if_icmp .le 5, 3) := by decide +kernel
theorem de_Mo_end_12 : decode prog_14_method_7_code 12 = .ok (.iconst (-1), 1) := by decide +kernel
theorem de_Mo_end_13 : decode prog_14_method_7_code 13 = .ok (.ireturn, 1) := by decide +kernel
theorem de_Mo_end_14 : decode prog_14_method_7_code 14 = .ok (.aload_n 0, 1) := by decide +kernel
theorem de_Mo_end_15 : decode prog_14_method_7_code 15 = .ok (.iload_n 1, 1) := by decide +kernel
theorem de_Mo_end_16 : decode prog_14_method_7_code 16 = .ok (.putfield 76, 3) := by decide +kernel
theorem de_Mo_end_19 : decode prog_14_method_7_code 19 = .ok (.iload_n 1, 1) := by decide +kernel
theorem de_Mo_end_20 : decode prog_14_method_7_code 20 = .ok (.ireturn, 1) := by decide +kernel
set_option maxRecDepth 10000 in
theorem co_Mo_end (ht : 0 ≤ taped) (ht1 : taped ≤ 400) (n : Int) (hn : ab_in n) : ab_Mt g_G g_rs mt_Mo_end 0 0 0 [ab_R 0, ab_I n] (mo_W tape taped rules sign leng clause clauses read next wrong number text made deep lines opn opened stack top word said xx was undone kept sumOf faced slotAt dayAt row bestRow tMany tMost drawX images imageX isMade) (ab_is (some (ab_I (if 0 ≤ n ∧ n ≤ taped then n else -1))) (mo_W tape (if 0 ≤ n ∧ n ≤ taped then n else taped) rules sign leng clause clauses read next wrong number text made deep lines opn opened stack top word said xx was undone kept sumOf faced slotAt dayAt row bestRow tMany tMost drawX images imageX isMade)) := by
  refine ab_Mt.of rfl (Nat.le_of_ble_eq_true rfl) ?_
  show ab_Ev g_G g_rs mt_Mo_end _ _ _ 0 [some (ab_R 0), some (ab_I n)] [] _ _
  refine ev_iload_n de_Mo_end_0 rfl rfl ?_
  refine ev_if_lt (tgt := 12) de_Mo_end_1 (by decide) (by omega) (fun h1 => ?_) (fun h1 => ?_)
  · skip
    rw [if_neg (by omega), if_neg (by omega)]
    refine ev_iconst de_Mo_end_12 ?_
    exact ev_ireturn de_Mo_end_13 rfl ⟨rfl, rfl⟩
  · skip
    refine ev_iload_n de_Mo_end_4 rfl rfl ?_
    refine ev_aload_n de_Mo_end_5 rfl rfl ?_
    refine ev_getfield de_Mo_end_6 rfl fl_Mo_76 rfl ?_
    refine ev_icmp_le (tgt := 14) de_Mo_end_9 (by decide) (by omega) (by omega) (fun h9 => ?_) (fun h9 => ?_)
    · skip
      rw [if_pos (by omega), if_pos (by omega)]
      refine ev_aload_n de_Mo_end_14 rfl rfl ?_
      refine ev_iload_n de_Mo_end_15 rfl rfl ?_
      refine ev_putfield de_Mo_end_16 rfl (fp_Mo_76 _) (Nat.le_of_ble_eq_true rfl) trivial ?_
      refine ev_world (w' := mo_W _ _ _ _ _ _ _ _ _ _ _ _ _ _ _ _ _ _ _ _ _ _ _ _ _ _ _ _ _ _ _ _ _ _ _ _ _) rfl ?_
      refine ev_iload_n de_Mo_end_19 rfl rfl ?_
      exact ev_ireturn de_Mo_end_20 rfl ⟨rfl, rfl⟩
    · skip
      rw [if_neg (by omega), if_neg (by omega)]
      refine ev_iconst de_Mo_end_12 ?_
      exact ev_ireturn de_Mo_end_13 rfl ⟨rfl, rfl⟩
theorem de_Mo_sawBy_0 : decode prog_14_method_107_code 0 = .ok (.aload_n 0, 1) := by decide +kernel
theorem de_Mo_sawBy_1 : decode prog_14_method_107_code 1 = .ok (.getfield 39, 3) := by decide +kernel
theorem de_Mo_sawBy_4 : decode prog_14_method_107_code 4 = .ok (.sipush 143, 3) := by decide +kernel
theorem de_Mo_sawBy_7 : decode prog_14_method_107_code 7 = .ok (.iload_n 2, 1) := by decide +kernel
theorem de_Mo_sawBy_8 : decode prog_14_method_107_code 8 = .ok (.iadd, 1) := by decide +kernel
theorem de_Mo_sawBy_9 : decode prog_14_method_107_code 9 = .ok (.iaload, 1) := by decide +kernel
theorem de_Mo_sawBy_10 : decode prog_14_method_107_code 10 = .ok (.iload_n 1, 1) := by decide +kernel
theorem de_Mo_sawBy_11 : decode prog_14_method_107_code 11 = .ok (.bipush 7, 2) := by decide +kernel
theorem de_Mo_sawBy_13 : decode prog_14_method_107_code 13 = .ok (.idiv, 1) := by decide +kernel
theorem de_Mo_sawBy_14 : decode prog_14_method_107_code 14 = .ok (.iadd, 1) := by decide +kernel
theorem de_Mo_sawBy_15 : decode prog_14_method_107_code 15 = .ok (.iload_n 1, 1) := by decide +kernel
theorem de_Mo_sawBy_16 : decode prog_14_method_107_code 16 = .ok (.bipush 7, 2) := by decide +kernel
theorem de_Mo_sawBy_18 : decode prog_14_method_107_code 18 = .ok (.irem, 1) := by decide +kernel
theorem de_Mo_sawBy_19 : decode prog_14_method_107_code 19 = .ok (.iconst 3, 1) := by decide +kernel
theorem de_Mo_sawBy_20 : decode prog_14_method_107_code 20 = .ok (.isub, 1) := by decide +kernel
theorem de_Mo_sawBy_21 : decode prog_14_method_107_code 21 = .ok (.iload_n 3, 1) := by decide +kernel
theorem de_Mo_sawBy_22 : decode prog_14_method_107_code 22 = .ok (.imul, 1) := by decide +kernel
theorem de_Mo_sawBy_23 : decode prog_14_method_107_code 23 = .ok (.iadd, 1) := by decide +kernel
theorem de_Mo_sawBy_24 : decode prog_14_method_107_code 24 = .ok (.invokestatic 297, 3) := by decide +kernel
theorem de_Mo_sawBy_27 : decode prog_14_method_107_code 27 = .ok (.istore 5, 2) := by decide +kernel
theorem de_Mo_sawBy_29 : decode prog_14_method_107_code 29 = .ok (.aload_n 0, 1) := by decide +kernel
theorem de_Mo_sawBy_30 : decode prog_14_method_107_code 30 = .ok (.iload 5, 2) := by decide +kernel
theorem de_Mo_sawBy_32 : decode prog_14_method_107_code 32 = .ok (.iload_n 3, 1) := by decide +kernel
theorem de_Mo_sawBy_33 : decode prog_14_method_107_code 33 = .ok (.bipush 24, 2) := by decide +kernel
theorem de_Mo_sawBy_35 : decode prog_14_method_107_code 35 = .ok (.irem, 1) := by decide +kernel
theorem de_Mo_sawBy_36 : decode prog_14_method_107_code 36 = .ok (.invokevirtual 290, 3) := by decide +kernel
theorem de_Mo_sawBy_39 : decode prog_14_method_107_code 39 = .ok (.iload 4, 2) := by decide +kernel
theorem de_Mo_sawBy_41 : decode prog_14_method_107_code 41 = .ok (.invokestatic 294, 3) := by decide +kernel
theorem de_Mo_sawBy_44 : decode prog_14_method_107_code 44 = .ok (.ireturn, 1) := by decide +kernel
set_option maxRecDepth 10000 in
theorem co_Mo_sawBy {B : Int} (hI : sg_ok B said) (cc : Int) (hc0 : 0 ≤ cc) (hc1 : cc < 84) (h0 nn ss : Int) (hh0 : 0 ≤ h0) (hh1 : h0 < 7) (hn0 : 0 ≤ nn) (hn1 : nn ≤ 99) (hs0 : 0 ≤ ss) (hs1 : ss ≤ 4) : ab_Mt g_G g_rs mt_Mo_sawBy 1 0 0 [ab_R 0, ab_I cc, ab_I h0, ab_I nn, ab_I ss] (mo_W tape taped rules sign leng clause clauses read next wrong number text made deep lines opn opened stack top word said xx was undone kept sumOf faced slotAt dayAt row bestRow tMany tMost drawX images imageX isMade) (ab_is (some (ab_I (sp_saw said cc h0 nn ss))) (mo_W tape taped rules sign leng clause clauses read next wrong number text made deep lines opn opened stack top word said xx was undone kept sumOf faced slotAt dayAt row bestRow tMany tMost drawX images imageX isMade)) := by
  refine ab_Mt.of rfl (Nat.le_of_ble_eq_true rfl) ?_
  show ab_Ev g_G g_rs mt_Mo_sawBy _ _ _ 0 [some (ab_R 0), some (ab_I cc), some (ab_I h0), some (ab_I nn), some (ab_I ss), none] [] _ _
  have hJ := hI; obtain ⟨i0, i1, i2, i3, i4, i5, i6, i7, i8, i9, i10, i11, i12, i13, i14, i15, i16, i17⟩ := sg_all hJ
  have q := i15 (143 + h0) (by omega) (by omega)
  have d7 := ab_tde cc 7 (by decide)
  have m7 := ab_tme cc 7 (by decide)
  have m24 := ab_tme nn 24 (by decide)
  refine ev_aload_n de_Mo_sawBy_0 rfl rfl ?_
  refine ev_getfield de_Mo_sawBy_1 rfl fl_Mo_39 rfl ?_
  refine ev_sipush de_Mo_sawBy_4 rfl ?_
  refine ev_iload_n de_Mo_sawBy_7 rfl rfl ?_
  refine ev_iadd de_Mo_sawBy_8 ?_
  refine ev_iaload de_Mo_sawBy_9 rfl (by omega) (by omega) (by omega) ?_
  refine ev_iload_n de_Mo_sawBy_10 rfl rfl ?_
  refine ev_bipush de_Mo_sawBy_11 rfl ?_
  refine ev_idiv de_Mo_sawBy_13 (by omega) (by omega) (by omega) ?_
  refine ev_top (congrArg Sum.inl (d7.1 hc0)) ?_
  refine ev_iadd de_Mo_sawBy_14 ?_
  refine ev_iload_n de_Mo_sawBy_15 rfl rfl ?_
  refine ev_bipush de_Mo_sawBy_16 rfl ?_
  refine ev_irem de_Mo_sawBy_18 (by omega) (by omega) (by omega) ?_
  refine ev_top (congrArg Sum.inl (m7.1 hc0)) ?_
  refine ev_iconst de_Mo_sawBy_19 ?_
  refine ev_isub de_Mo_sawBy_20 ?_
  refine ev_iload_n de_Mo_sawBy_21 rfl rfl ?_
  refine ev_imul de_Mo_sawBy_22 ?_
  have hm1 : -3 * 99 ≤ (cc % 7 - 3) * nn ∧ (cc % 7 - 3) * nn ≤ 3 * 99 := by
    have h1 : -3 ≤ cc % 7 - 3 ∧ cc % 7 - 3 ≤ 3 := by omega
    generalize cc % 7 - 3 = z at h1
    rcases (by omega : z = -3 ∨ z = -2 ∨ z = -1 ∨ z = 0 ∨ z = 1 ∨ z = 2 ∨ z = 3) with h | h | h | h | h | h | h <;> subst h <;> omega
  refine ev_iadd de_Mo_sawBy_23 ?_
  refine ev_sv de_Mo_sawBy_24 (co_Mo_round _ _ (by omega)) kb_Mo_297 sc_Mo_round rfl (Nat.le_of_ble_eq_true rfl) (by decide) rfl ?_
  refine ev_istore (l' := [_, _, _, _, _, _]) de_Mo_sawBy_27 (Nat.le_of_ble_eq_true rfl) rfl ?_
  refine ev_aload_n de_Mo_sawBy_29 rfl rfl ?_
  refine ev_iload de_Mo_sawBy_30 rfl ?_
  refine ev_iload_n de_Mo_sawBy_32 rfl rfl ?_
  refine ev_bipush de_Mo_sawBy_33 rfl ?_
  refine ev_irem de_Mo_sawBy_35 (by omega) (by omega) (by omega) ?_
  refine ev_top (congrArg Sum.inl (m24.1 hn0)) ?_
  refine ev_vv (ci := 11) de_Mo_sawBy_36 (co_Mo_sortsAt hI _ _ (by omega) (by omega)) kb_Mo_290 ⟨im_Mo_sortsAt, se_Mo_sortsAt⟩ rfl rfl rfl (Nat.le_of_ble_eq_true rfl) (by decide) rfl ?_
  refine ev_iload de_Mo_sawBy_39 rfl ?_
  have qs := sp_sortsAt_lt hI ((said (143 + h0) + cc / 7 + (cc % 7 - 3) * nn) % 12) (nn % 24)
  refine ev_sv de_Mo_sawBy_41 (co_Mo_isOf _ _ _ (by omega) (by omega) (by omega) (by omega)) kb_Mo_294 sc_Mo_isOf rfl (Nat.le_of_ble_eq_true rfl) (by decide) rfl ?_
  exact ev_zreturn de_Mo_sawBy_44 rfl (bit_01 _ _) ⟨rfl, rfl⟩
theorem de_Mo_fitsDiary_0 : decode prog_14_method_108_code 0 = .ok (.iconst 0, 1) := by decide +kernel
theorem de_Mo_fitsDiary_1 : decode prog_14_method_108_code 1 = .ok (.istore_n 2, 1) := by decide +kernel
theorem de_Mo_fitsDiary_2 : decode prog_14_method_108_code 2 = .ok (.iload_n 2, 1) := by decide +kernel
theorem de_Mo_fitsDiary_3 : decode prog_14_method_108_code 3 = .ok (.aload_n 0, 1) := by decide +kernel
theorem de_Mo_fitsDiary_4 : decode prog_14_method_108_code 4 = .ok (.getfield 39, 3) := by decide +kernel
theorem de_Mo_fitsDiary_7 : decode prog_14_method_108_code 7 = .ok (.sipush 190, 3) := by decide +kernel
theorem de_Mo_fitsDiary_10 : decode prog_14_method_108_code 10 = .ok (.iaload, 1) := by decide +kernel
theorem de_Mo_fitsDiary_11 : decode prog_14_method_108_code 11 = .ok (.if_icmp .ge 66, 3) := by decide +kernel
theorem de_Mo_fitsDiary_14 : decode prog_14_method_108_code 14 = .ok (.sipush 150, 3) := by decide +kernel
theorem de_Mo_fitsDiary_17 : decode prog_14_method_108_code 17 = .ok (.iconst 4, 1) := by decide +kernel
theorem de_Mo_fitsDiary_18 : decode prog_14_method_108_code 18 = .ok (.iload_n 2, 1) := by decide +kernel
theorem de_Mo_fitsDiary_19 : decode prog_14_method_108_code 19 = .ok (.imul, 1) := by decide +kernel
theorem de_Mo_fitsDiary_20 : decode prog_14_method_108_code 20 = .ok (.iadd, 1) := by decide +kernel
theorem de_Mo_fitsDiary_21 : decode prog_14_method_108_code 21 = .ok (.istore_n 3, 1) := by decide +kernel
theorem de_Mo_fitsDiary_22 : decode prog_14_method_108_code 22 = .ok (.aload_n 0, 1) := by decide +kernel
theorem de_Mo_fitsDiary_23 : decode prog_14_method_108_code 23 = .ok (.iload_n 1, 1) := by decide +kernel
theorem de_Mo_fitsDiary_24 : decode prog_14_method_108_code 24 = .ok (.aload_n 0, 1) := by decide +kernel
theorem de_Mo_fitsDiary_25 : decode prog_14_method_108_code 25 = .ok (.getfield 39, 3) := by decide +kernel
theorem de_Mo_fitsDiary_28 : decode prog_14_method_108_code 28 = .ok (.iload_n 3, 1) := by decide +kernel
theorem de_Mo_fitsDiary_29 : decode prog_14_method_108_code 29 = .ok (.iaload, 1) := by decide +kernel
theorem de_Mo_fitsDiary_30 : decode prog_14_method_108_code 30 = .ok (.aload_n 0, 1) := by decide +kernel
theorem de_Mo_fitsDiary_31 : decode prog_14_method_108_code 31 = .ok (.getfield 39, 3) := by decide +kernel
theorem de_Mo_fitsDiary_34 : decode prog_14_method_108_code 34 = .ok (.iload_n 3, 1) := by decide +kernel
theorem de_Mo_fitsDiary_35 : decode prog_14_method_108_code 35 = .ok (.iconst 1, 1) := by decide +kernel
theorem de_Mo_fitsDiary_36 : decode prog_14_method_108_code 36 = .ok (.iadd, 1) := by decide +kernel
theorem de_Mo_fitsDiary_37 : decode prog_14_method_108_code 37 = .ok (.iaload, 1) := by decide +kernel
theorem de_Mo_fitsDiary_38 : decode prog_14_method_108_code 38 = .ok (.aload_n 0, 1) := by decide +kernel
theorem de_Mo_fitsDiary_39 : decode prog_14_method_108_code 39 = .ok (.getfield 39, 3) := by decide +kernel
theorem de_Mo_fitsDiary_42 : decode prog_14_method_108_code 42 = .ok (.iload_n 3, 1) := by decide +kernel
theorem de_Mo_fitsDiary_43 : decode prog_14_method_108_code 43 = .ok (.iconst 2, 1) := by decide +kernel
theorem de_Mo_fitsDiary_44 : decode prog_14_method_108_code 44 = .ok (.iadd, 1) := by decide +kernel
theorem de_Mo_fitsDiary_45 : decode prog_14_method_108_code 45 = .ok (.iaload, 1) := by decide +kernel
theorem de_Mo_fitsDiary_46 : decode prog_14_method_108_code 46 = .ok (.invokevirtual 458, 3) := by decide +kernel
theorem de_Mo_fitsDiary_49 : decode prog_14_method_108_code 49 = .ok (.aload_n 0, 1) := by decide +kernel
theorem de_Mo_fitsDiary_50 : decode prog_14_method_108_code 50 = .ok (.getfield 39, 3) := by decide +kernel
theorem de_Mo_fitsDiary_53 : decode prog_14_method_108_code 53 = .ok (.iload_n 3, 1) := by decide +kernel
theorem de_Mo_fitsDiary_54 : decode prog_14_method_108_code 54 = .ok (.iconst 3, 1) := by decide +kernel
theorem de_Mo_fitsDiary_55 : decode prog_14_method_108_code 55 = .ok (.iadd, 1) := by decide +kernel
theorem de_Mo_fitsDiary_56 : decode prog_14_method_108_code 56 = .ok (.iaload, 1) := by decide +kernel
theorem de_Mo_fitsDiary_57 : decode prog_14_method_108_code 57 = .ok (.iconst 1, 1) := by decide +kernel
theorem de_Mo_fitsDiary_58 : decode prog_14_method_108_code 58 = .ok (.if_icmp .ne 7, 3) := by decide +kernel
theorem de_Mo_fitsDiary_61 : decode prog_14_method_108_code 61 = .ok (.iconst 1, 1) := by decide +kernel
theorem de_Mo_fitsDiary_62 : decode prog_14_method_108_code 62 = .ok (.goto 4, 3) := by decide +kernel
theorem de_Mo_fitsDiary_65 : decode prog_14_method_108_code 65 = .ok (.iconst 0, 1) := by decide +kernel
theorem de_Mo_fitsDiary_66 : decode prog_14_method_108_code 66 = .ok (.if_icmp .eq 5, 3) := by decide +kernel
theorem de_Mo_fitsDiary_69 : decode prog_14_method_108_code 69 = .ok (.iconst 0, 1) := by decide +kernel
theorem de_Mo_fitsDiary_70 : decode prog_14_method_108_code 70 = .ok (.ireturn, 1) := by decide +kernel
theorem de_Mo_fitsDiary_71 : decode prog_14_method_108_code 71 = .ok (.iinc 2 1, 3) := by decide +kernel
theorem de_Mo_fitsDiary_74 : decode prog_14_method_108_code 74 = .ok (.goto (-72), 3) := by decide +kernel
theorem de_Mo_fitsDiary_77 : decode prog_14_method_108_code 77 = .ok (.iconst 1, 1) := by decide +kernel
theorem de_Mo_fitsDiary_78 : decode prog_14_method_108_code 78 = .ok (.ireturn, 1) := by decide +kernel
set_option maxRecDepth 10000 in
theorem lo_Mo_fitsDiary {B : Int} (hI : sg_ok B said) (cc : Int) (hc0 : 0 ≤ cc) (hc1 : cc < 84) : ∀ (n : Nat) (k : Nat) (l3 : Option ab_V), k ≤ (said 190).toNat → (said 190).toNat < k + n → ab_Ev g_G g_rs mt_Mo_fitsDiary 2 0 0 2 [some (ab_R 0), some (ab_I cc), some (ab_I (k : Int)), l3] [] (mo_W tape taped rules sign leng clause clauses read next wrong number text made deep lines opn opened stack top word said xx was undone kept sumOf faced slotAt dayAt row bestRow tMany tMost drawX images imageX isMade) (ab_is (some (ab_I (sp_fit said cc ((said 190).toNat - k) (k : Int)))) (mo_W tape taped rules sign leng clause clauses read next wrong number text made deep lines opn opened stack top word said xx was undone kept sumOf faced slotAt dayAt row bestRow tMany tMost drawX images imageX isMade)) := by
  intro n
  induction n with
  | zero =>
    intro k l3
    intro g1 g2; omega
  | succ n ih =>
    intro k l3
    intro g1 g2
    have hJ := hI; obtain ⟨i0, i1, i2, i3, i4, i5, i6, i7, i8, i9, i10, i11, i12, i13, i14, i15, i16, i17⟩ := sg_all hJ
    refine ev_iload_n de_Mo_fitsDiary_2 rfl rfl ?_
    refine ev_aload_n de_Mo_fitsDiary_3 rfl rfl ?_
    refine ev_getfield de_Mo_fitsDiary_4 rfl fl_Mo_39 rfl ?_
    refine ev_sipush de_Mo_fitsDiary_7 rfl ?_
    refine ev_iaload de_Mo_fitsDiary_10 rfl (by omega) (by omega) (by omega) ?_
    refine ev_icmp_ge (tgt := 77) de_Mo_fitsDiary_11 (by decide) (by omega) (by omega) (fun h11 => ?_) (fun h11 => ?_)
    · skip
      refine ev_iconst de_Mo_fitsDiary_77 ?_
      exact ev_zreturn de_Mo_fitsDiary_78 rfl (by decide) ⟨by rw [show (said 190).toNat - k = 0 by omega]; rfl, rfl⟩
    · skip
      have q := i16 (k : Int) (by omega) (by omega)
      have qb : sp_saw said cc (said (150 + 4 * (k : Int))) (said (150 + 4 * (k : Int) + 1)) (said (150 + 4 * (k : Int) + 2)) = 0 ∨ sp_saw said cc (said (150 + 4 * (k : Int))) (said (150 + 4 * (k : Int) + 1)) (said (150 + 4 * (k : Int) + 2)) = 1 := bit_01 _ _
      refine ev_sipush de_Mo_fitsDiary_14 rfl ?_
      refine ev_iconst de_Mo_fitsDiary_17 ?_
      refine ev_iload_n de_Mo_fitsDiary_18 rfl rfl ?_
      refine ev_imul de_Mo_fitsDiary_19 ?_
      refine ev_iadd de_Mo_fitsDiary_20 ?_
      refine ev_istore_n (l' := [_, _, _, _]) de_Mo_fitsDiary_21 rfl (Nat.le_of_ble_eq_true rfl) rfl ?_
      refine ev_aload_n de_Mo_fitsDiary_22 rfl rfl ?_
      refine ev_iload_n de_Mo_fitsDiary_23 rfl rfl ?_
      refine ev_aload_n de_Mo_fitsDiary_24 rfl rfl ?_
      refine ev_getfield de_Mo_fitsDiary_25 rfl fl_Mo_39 rfl ?_
      refine ev_iload_n de_Mo_fitsDiary_28 rfl rfl ?_
      refine ev_iaload de_Mo_fitsDiary_29 rfl (by omega) (by omega) (by omega) ?_
      refine ev_aload_n de_Mo_fitsDiary_30 rfl rfl ?_
      refine ev_getfield de_Mo_fitsDiary_31 rfl fl_Mo_39 rfl ?_
      refine ev_iload_n de_Mo_fitsDiary_34 rfl rfl ?_
      refine ev_iconst de_Mo_fitsDiary_35 ?_
      refine ev_iadd de_Mo_fitsDiary_36 ?_
      refine ev_iaload de_Mo_fitsDiary_37 rfl (by omega) (by omega) (by omega) ?_
      refine ev_aload_n de_Mo_fitsDiary_38 rfl rfl ?_
      refine ev_getfield de_Mo_fitsDiary_39 rfl fl_Mo_39 rfl ?_
      refine ev_iload_n de_Mo_fitsDiary_42 rfl rfl ?_
      refine ev_iconst de_Mo_fitsDiary_43 ?_
      refine ev_iadd de_Mo_fitsDiary_44 ?_
      refine ev_iaload de_Mo_fitsDiary_45 rfl (by omega) (by omega) (by omega) ?_
      refine ev_vv (ci := 11) de_Mo_fitsDiary_46 (co_Mo_sawBy hI cc hc0 hc1 _ _ _ (by omega) (by omega) (by omega) (by omega) (by omega) (by omega)) kb_Mo_458 ⟨im_Mo_sawBy, se_Mo_sawBy⟩ rfl rfl rfl (Nat.le_of_ble_eq_true rfl) (by decide) rfl ?_
      refine ev_aload_n de_Mo_fitsDiary_49 rfl rfl ?_
      refine ev_getfield de_Mo_fitsDiary_50 rfl fl_Mo_39 rfl ?_
      refine ev_iload_n de_Mo_fitsDiary_53 rfl rfl ?_
      refine ev_iconst de_Mo_fitsDiary_54 ?_
      refine ev_iadd de_Mo_fitsDiary_55 ?_
      refine ev_iaload de_Mo_fitsDiary_56 rfl (by omega) (by omega) (by omega) ?_
      refine ev_iconst de_Mo_fitsDiary_57 ?_
      refine ev_icmp_ne (tgt := 65) de_Mo_fitsDiary_58 (by decide) (by omega) (by omega) (fun h58 => ?_) (fun h58 => ?_)
      · skip
        refine ev_iconst de_Mo_fitsDiary_65 ?_
        refine ev_icmp_eq (tgt := 71) de_Mo_fitsDiary_66 (by decide) (by omega) (by omega) (fun h66 => ?_) (fun h66 => ?_)
        · skip
          have hq : sp_saw said cc (said (150 + 4 * (k : Int))) (said (150 + 4 * (k : Int) + 1)) (said (150 + 4 * (k : Int) + 2)) = said (150 + 4 * (k : Int) + 3) := by omega
          refine ev_iinc (l' := [_, _, _, _]) de_Mo_fitsDiary_71 rfl rfl ?_
          refine ev_goto (tgt := 2) de_Mo_fitsDiary_74 (by decide) ?_
          have e : sp_fit said cc ((said 190).toNat - k) (k : Int) = sp_fit said cc ((said 190).toNat - (k + 1)) ((k + 1 : Nat) : Int) := by
            rw [show (said 190).toNat - k = ((said 190).toNat - (k + 1)) + 1 by omega]
            show (if _ then _ else _) = _
            rw [if_pos hq]; rfl
          rw [e]
          exact ih (k + 1) _ (by omega) (by omega)
        · skip
          have hq : ¬ sp_saw said cc (said (150 + 4 * (k : Int))) (said (150 + 4 * (k : Int) + 1)) (said (150 + 4 * (k : Int) + 2)) = said (150 + 4 * (k : Int) + 3) := by omega
          refine ev_iconst de_Mo_fitsDiary_69 ?_
          exact ev_zreturn de_Mo_fitsDiary_70 rfl (by decide) ⟨by rw [show (said 190).toNat - k = ((said 190).toNat - (k + 1)) + 1 by omega]; show _ = some (ab_I (if _ then _ else _)); rw [if_neg hq], rfl⟩
      · skip
        refine ev_iconst de_Mo_fitsDiary_61 ?_
        refine ev_goto (tgt := 66) de_Mo_fitsDiary_62 (by decide) ?_
        refine ev_icmp_eq (tgt := 71) de_Mo_fitsDiary_66 (by decide) (by omega) (by omega) (fun h66 => ?_) (fun h66 => ?_)
        · skip
          have hq : sp_saw said cc (said (150 + 4 * (k : Int))) (said (150 + 4 * (k : Int) + 1)) (said (150 + 4 * (k : Int) + 2)) = said (150 + 4 * (k : Int) + 3) := by omega
          refine ev_iinc (l' := [_, _, _, _]) de_Mo_fitsDiary_71 rfl rfl ?_
          refine ev_goto (tgt := 2) de_Mo_fitsDiary_74 (by decide) ?_
          have e : sp_fit said cc ((said 190).toNat - k) (k : Int) = sp_fit said cc ((said 190).toNat - (k + 1)) ((k + 1 : Nat) : Int) := by
            rw [show (said 190).toNat - k = ((said 190).toNat - (k + 1)) + 1 by omega]
            show (if _ then _ else _) = _
            rw [if_pos hq]; rfl
          rw [e]
          exact ih (k + 1) _ (by omega) (by omega)
        · skip
          have hq : ¬ sp_saw said cc (said (150 + 4 * (k : Int))) (said (150 + 4 * (k : Int) + 1)) (said (150 + 4 * (k : Int) + 2)) = said (150 + 4 * (k : Int) + 3) := by omega
          refine ev_iconst de_Mo_fitsDiary_69 ?_
          exact ev_zreturn de_Mo_fitsDiary_70 rfl (by decide) ⟨by rw [show (said 190).toNat - k = ((said 190).toNat - (k + 1)) + 1 by omega]; show _ = some (ab_I (if _ then _ else _)); rw [if_neg hq], rfl⟩
set_option maxRecDepth 10000 in
theorem co_Mo_fitsDiary {B : Int} (hI : sg_ok B said) (cc : Int) (hc0 : 0 ≤ cc) (hc1 : cc < 84) : ab_Mt g_G g_rs mt_Mo_fitsDiary 2 0 0 [ab_R 0, ab_I cc] (mo_W tape taped rules sign leng clause clauses read next wrong number text made deep lines opn opened stack top word said xx was undone kept sumOf faced slotAt dayAt row bestRow tMany tMost drawX images imageX isMade) (ab_is (some (ab_I (sp_fits said cc))) (mo_W tape taped rules sign leng clause clauses read next wrong number text made deep lines opn opened stack top word said xx was undone kept sumOf faced slotAt dayAt row bestRow tMany tMost drawX images imageX isMade)) := by
  refine ab_Mt.of rfl (Nat.le_of_ble_eq_true rfl) ?_
  show ab_Ev g_G g_rs mt_Mo_fitsDiary _ _ _ 0 [some (ab_R 0), some (ab_I cc), none, none] [] _ _
  refine ev_iconst de_Mo_fitsDiary_0 ?_
  refine ev_istore_n (l' := [_, _, _, _]) de_Mo_fitsDiary_1 rfl (Nat.le_of_ble_eq_true rfl) rfl ?_
  have hJ := hI; obtain ⟨i0, i1, i2, i3, i4, i5, i6, i7, i8, i9, i10, i11, i12, i13, i14, i15, i16, i17⟩ := sg_all hJ
  exact lo_Mo_fitsDiary hI cc hc0 hc1 ((said 190).toNat + 1) 0 none (by omega) (by omega)
theorem de_Mo_turned_0 : decode prog_14_method_109_code 0 = .ok (.aload_n 0, 1) := by decide +kernel
theorem de_Mo_turned_1 : decode prog_14_method_109_code 1 = .ok (.invokevirtual 323, 3) := by decide +kernel
theorem de_Mo_turned_4 : decode prog_14_method_109_code 4 = .ok (.ifCond .eq 15, 3) := by decide +kernel
theorem de_Mo_turned_7 : decode prog_14_method_109_code 7 = .ok (.iload_n 1, 1) := by decide +kernel
theorem de_Mo_turned_8 : decode prog_14_method_109_code 8 = .ok (.i2l, 1) := by decide +kernel
theorem de_Mo_turned_9 : decode prog_14_method_109_code 9 = .ok (.lconst 0, 1) := by decide +kernel
theorem de_Mo_turned_10 : decode prog_14_method_109_code 10 = .ok (.ldc2_w 328, 3) := by decide +kernel
theorem de_Mo_turned_13 : decode prog_14_method_109_code 13 = .ok (.invokestatic 115, 3) := by decide +kernel
theorem de_Mo_turned_16 : decode prog_14_method_109_code 16 = .ok (.ifCond .ne 7, 3) := by decide +kernel
theorem de_Mo_turned_19 : decode prog_14_method_109_code 19 = .ok (.sipush (-2000), 3) := by decide +kernel
theorem de_Mo_turned_22 : decode prog_14_method_109_code 22 = .ok (.ireturn, 1) := by decide +kernel
theorem de_Mo_turned_23 : decode prog_14_method_109_code 23 = .ok (.iconst 0, 1) := by decide +kernel
theorem de_Mo_turned_24 : decode prog_14_method_109_code 24 = .ok (.istore_n 2, 1) := by decide +kernel
theorem de_Mo_turned_25 : decode prog_14_method_109_code 25 = .ok (.iconst (-1), 1) := by decide +kernel
theorem de_Mo_turned_26 : decode prog_14_method_109_code 26 = .ok (.istore_n 3, 1) := by decide +kernel
theorem de_Mo_turned_27 : decode prog_14_method_109_code 27 = .ok (.iconst 0, 1) := by decide +kernel
theorem de_Mo_turned_28 : decode prog_14_method_109_code 28 = .ok (.istore 4, 2) := by decide +kernel
theorem de_Mo_turned_30 : decode prog_14_method_109_code 30 = .ok (.iload 4, 2) := by decide +kernel
theorem de_Mo_turned_32 : decode prog_14_method_109_code 32 = .ok (.bipush 84, 2) := by decide +kernel
theorem de_Mo_turned_34 : decode prog_14_method_109_code 34 = .ok (.if_icmp .ge 35, 3) := by decide +kernel
theorem de_Mo_turned_37 : decode prog_14_method_109_code 37 = .ok (.aload_n 0, 1) := by decide +kernel
theorem de_Mo_turned_38 : decode prog_14_method_109_code 38 = .ok (.iload 4, 2) := by decide +kernel
theorem de_Mo_turned_40 : decode prog_14_method_109_code 40 = .ok (.invokevirtual 462, 3) := by decide +kernel
theorem de_Mo_turned_43 : decode prog_14_method_109_code 43 = .ok (.ifCond .ne 6, 3) := by decide +kernel
theorem de_Mo_turned_46 : decode prog_14_method_109_code 46 = .ok (.goto 17, 3) := by decide +kernel
theorem de_Mo_turned_49 : decode prog_14_method_109_code 49 = .ok (.iload_n 2, 1) := by decide +kernel
theorem de_Mo_turned_50 : decode prog_14_method_109_code 50 = .ok (.ifCond .ne 8, 3) := by decide +kernel
theorem de_Mo_turned_53 : decode prog_14_method_109_code 53 = .ok (.iload 4, 2) := by decide +kernel
theorem de_Mo_turned_55 : decode prog_14_method_109_code 55 = .ok (.goto 4, 3) := by decide +kernel
theorem de_Mo_turned_58 : decode prog_14_method_109_code 58 = .ok (.iload_n 3, 1) := by decide +kernel
theorem de_Mo_turned_59 : decode prog_14_method_109_code 59 = .ok (.istore_n 3, 1) := by decide +kernel
theorem de_Mo_turned_60 : decode prog_14_method_109_code 60 = .ok (.iinc 2 1, 3) := by decide +kernel
theorem de_Mo_turned_63 : decode prog_14_method_109_code 63 = .ok (.iinc 4 1, 3) := by decide +kernel
theorem de_Mo_turned_66 : decode prog_14_method_109_code 66 = .ok (.goto (-36), 3) := by decide +kernel
theorem de_Mo_turned_69 : decode prog_14_method_109_code 69 = .ok (.iload_n 1, 1) := by decide +kernel
theorem de_Mo_turned_70 : decode prog_14_method_109_code 70 = .ok (.ifCond .ne 5, 3) := by decide +kernel
theorem de_Mo_turned_73 : decode prog_14_method_109_code 73 = .ok (.iload_n 2, 1) := by decide +kernel
theorem de_Mo_turned_74 : decode prog_14_method_109_code 74 = .ok (.ireturn, 1) := by decide +kernel
theorem de_Mo_turned_75 : decode prog_14_method_109_code 75 = .ok (.iload_n 2, 1) := by decide +kernel
theorem de_Mo_turned_76 : decode prog_14_method_109_code 76 = .ok (.ifCond .ne 9, 3) := by decide +kernel
theorem de_Mo_turned_79 : decode prog_14_method_109_code 79 = .ok (.sipush (-1000), 3) := by decide +kernel
theorem de_Mo_turned_82 : decode prog_14_method_109_code 82 = .ok (.goto 21, 3) := by decide +kernel
theorem de_Mo_turned_85 : decode prog_14_method_109_code 85 = .ok (.iload_n 1, 1) := by decide +kernel
theorem de_Mo_turned_86 : decode prog_14_method_109_code 86 = .ok (.iconst 1, 1) := by decide +kernel
theorem de_Mo_turned_87 : decode prog_14_method_109_code 87 = .ok (.if_icmp .ne 10, 3) := by decide +kernel
theorem de_Mo_turned_90 : decode prog_14_method_109_code 90 = .ok (.iload_n 3, 1) := by decide +kernel
theorem de_Mo_turned_91 : decode prog_14_method_109_code 91 = .ok (.bipush 7, 2) := by decide +kernel
theorem de_Mo_turned_93 : decode prog_14_method_109_code 93 = .ok (.idiv, 1) := by decide +kernel
theorem de_Mo_turned_94 : decode prog_14_method_109_code 94 = .ok (.goto 9, 3) := by decide +kernel
theorem de_Mo_turned_97 : decode prog_14_method_109_code 97 = .ok (.iload_n 3, 1) := by decide +kernel
theorem de_Mo_turned_98 : decode prog_14_method_109_code 98 = .ok (.bipush 7, 2) := by decide +kernel
theorem de_Mo_turned_100 : decode prog_14_method_109_code 100 = .ok (.irem, 1) := by decide +kernel
theorem de_Mo_turned_101 : decode prog_14_method_109_code 101 = .ok (.iconst 3, 1) := by decide +kernel
theorem de_Mo_turned_102 : decode prog_14_method_109_code 102 = .ok (.isub, 1) := by decide +kernel
theorem de_Mo_turned_103 : decode prog_14_method_109_code 103 = .ok (.ireturn, 1) := by decide +kernel
set_option maxRecDepth 10000 in
theorem lo_Mo_turned {B : Int} (hI : sg_ok B said) (ww : Int) (hw0 : 0 ≤ ww) (hw1 : ww ≤ 2) (N : Nat) (hN : N = 84) : ∀ (n : Nat) (k : Nat), k ≤ N → N < k + n → ab_Ev g_G g_rs mt_Mo_turned 3 0 0 30 [some (ab_R 0), some (ab_I ww), some (ab_I (sp_many said k)), some (ab_I (sp_first said k)), some (ab_I (k : Int))] [] (mo_W tape taped rules sign leng clause clauses read next wrong number text made deep lines opn opened stack top word said xx was undone kept sumOf faced slotAt dayAt row bestRow tMany tMost drawX images imageX isMade) (ab_is (some (ab_I (if ww = 0 then sp_many said N else if sp_many said N = 0 then -1000 else if ww = 1 then sp_first said N / 7 else sp_first said N % 7 - 3))) (mo_W tape taped rules sign leng clause clauses read next wrong number text made deep lines opn opened stack top word said xx was undone kept sumOf faced slotAt dayAt row bestRow tMany tMost drawX images imageX isMade)) := by
  intro n
  induction n with
  | zero =>
    intro k
    intro g1 g2; omega
  | succ n ih =>
    intro k
    intro g1 g2
    have hJ := hI; obtain ⟨i0, i1, i2, i3, i4, i5, i6, i7, i8, i9, i10, i11, i12, i13, i14, i15, i16, i17⟩ := sg_all hJ
    have qm := sp_many_b said k
    have qf := sp_first_b said k
    have q01 := sp_fit_01 said (k : Int) (said 190).toNat 0
    refine ev_iload de_Mo_turned_30 rfl ?_
    refine ev_bipush de_Mo_turned_32 rfl ?_
    refine ev_icmp_ge (tgt := 69) de_Mo_turned_34 (by decide) (by omega) (by omega) (fun h34 => ?_) (fun h34 => ?_)
    · skip
      have e : k = N := by omega
      subst e
      have d7 := ab_tde (sp_first said k) 7 (by decide)
      have m7 := ab_tme (sp_first said k) 7 (by decide)
      refine ev_iload_n de_Mo_turned_69 rfl rfl ?_
      refine ev_if_ne (tgt := 75) de_Mo_turned_70 (by decide) (by omega) (fun h70 => ?_) (fun h70 => ?_)
      · skip
        refine ev_iload_n de_Mo_turned_75 rfl rfl ?_
        refine ev_if_ne (tgt := 85) de_Mo_turned_76 (by decide) (by omega) (fun h76 => ?_) (fun h76 => ?_)
        · skip
          refine ev_iload_n de_Mo_turned_85 rfl rfl ?_
          refine ev_iconst de_Mo_turned_86 ?_
          refine ev_icmp_ne (tgt := 97) de_Mo_turned_87 (by decide) (by omega) (by omega) (fun h87 => ?_) (fun h87 => ?_)
          · skip
            refine ev_iload_n de_Mo_turned_97 rfl rfl ?_
            refine ev_bipush de_Mo_turned_98 rfl ?_
            refine ev_irem de_Mo_turned_100 (by omega) (by omega) (by omega) ?_
            refine ev_iconst de_Mo_turned_101 ?_
            refine ev_isub de_Mo_turned_102 ?_
            exact ev_ireturn de_Mo_turned_103 rfl ⟨by rw [if_neg h70]; first | (rw [if_pos h76]; done) | (rw [if_neg h76, if_pos h87, d7.1 (by omega)]; done) | (rw [if_neg h76, if_neg h87, m7.1 (by omega)]; done), rfl⟩
          · skip
            refine ev_iload_n de_Mo_turned_90 rfl rfl ?_
            refine ev_bipush de_Mo_turned_91 rfl ?_
            refine ev_idiv de_Mo_turned_93 (by omega) (by omega) (by omega) ?_
            refine ev_goto (tgt := 103) de_Mo_turned_94 (by decide) ?_
            exact ev_ireturn de_Mo_turned_103 rfl ⟨by rw [if_neg h70]; first | (rw [if_pos h76]; done) | (rw [if_neg h76, if_pos h87, d7.1 (by omega)]; done) | (rw [if_neg h76, if_neg h87, m7.1 (by omega)]; done), rfl⟩
        · skip
          refine ev_sipush de_Mo_turned_79 rfl ?_
          refine ev_goto (tgt := 103) de_Mo_turned_82 (by decide) ?_
          exact ev_ireturn de_Mo_turned_103 rfl ⟨by rw [if_neg h70]; first | (rw [if_pos h76]; done) | (rw [if_neg h76, if_pos h87, d7.1 (by omega)]; done) | (rw [if_neg h76, if_neg h87, m7.1 (by omega)]; done), rfl⟩
      · skip
        refine ev_iload_n de_Mo_turned_73 rfl rfl ?_
        exact ev_ireturn de_Mo_turned_74 rfl ⟨by rw [if_pos h70], rfl⟩
    · skip
      refine ev_aload_n de_Mo_turned_37 rfl rfl ?_
      refine ev_iload de_Mo_turned_38 rfl ?_
      refine ev_vv (ci := 11) de_Mo_turned_40 (co_Mo_fitsDiary hI _ (by omega) (by omega)) kb_Mo_462 ⟨im_Mo_fitsDiary, se_Mo_fitsDiary⟩ rfl rfl rfl (Nat.le_of_ble_eq_true rfl) (by decide) rfl ?_
      have q01 : sp_fits said (k : Int) = 0 ∨ sp_fits said (k : Int) = 1 := q01
      refine ev_if_ne (tgt := 49) de_Mo_turned_43 (by decide) (by omega) (fun h43 => ?_) (fun h43 => ?_)
      · skip
        have em : sp_many said (k + 1) = sp_many said k + 1 := if_neg h43
        refine ev_iload_n de_Mo_turned_49 rfl rfl ?_
        refine ev_if_ne (tgt := 58) de_Mo_turned_50 (by decide) (by omega) (fun h50 => ?_) (fun h50 => ?_)
        · skip
          have ef : sp_first said (k + 1) = sp_first said k := by show (if _ then _ else _) = _; rw [if_neg h43, if_neg h50]
          refine ev_iload_n de_Mo_turned_58 rfl rfl ?_
          refine ev_istore_n (l' := [_, _, _, _, _]) de_Mo_turned_59 rfl (Nat.le_of_ble_eq_true rfl) rfl ?_
          refine ev_iinc (l' := [_, _, _, _, _]) de_Mo_turned_60 rfl rfl ?_
          refine ev_iinc (l' := [_, _, _, _, _]) de_Mo_turned_63 rfl rfl ?_
          refine ev_goto (tgt := 30) de_Mo_turned_66 (by decide) ?_
          refine ev_loc (l2 := [some (ab_R 0), some (ab_I ww), some (ab_I (sp_many said (k + 1))), some (ab_I (sp_first said (k + 1))), some (ab_I ((k + 1 : Nat) : Int))]) (by rw [em, ef]; rfl) ?_
          exact ih (k + 1) (by omega) (by omega)
        · skip
          have ef : sp_first said (k + 1) = (k : Int) := by show (if _ then _ else _) = _; rw [if_neg h43, if_pos h50]
          refine ev_iload de_Mo_turned_53 rfl ?_
          refine ev_goto (tgt := 59) de_Mo_turned_55 (by decide) ?_
          refine ev_istore_n (l' := [_, _, _, _, _]) de_Mo_turned_59 rfl (Nat.le_of_ble_eq_true rfl) rfl ?_
          refine ev_iinc (l' := [_, _, _, _, _]) de_Mo_turned_60 rfl rfl ?_
          refine ev_iinc (l' := [_, _, _, _, _]) de_Mo_turned_63 rfl rfl ?_
          refine ev_goto (tgt := 30) de_Mo_turned_66 (by decide) ?_
          refine ev_loc (l2 := [some (ab_R 0), some (ab_I ww), some (ab_I (sp_many said (k + 1))), some (ab_I (sp_first said (k + 1))), some (ab_I ((k + 1 : Nat) : Int))]) (by rw [em, ef]; rfl) ?_
          exact ih (k + 1) (by omega) (by omega)
      · skip
        have em : sp_many said (k + 1) = sp_many said k := if_pos h43
        have ef : sp_first said (k + 1) = sp_first said k := if_pos h43
        refine ev_goto (tgt := 63) de_Mo_turned_46 (by decide) ?_
        refine ev_iinc (l' := [_, _, _, _, _]) de_Mo_turned_63 rfl rfl ?_
        refine ev_goto (tgt := 30) de_Mo_turned_66 (by decide) ?_
        refine ev_loc (l2 := [some (ab_R 0), some (ab_I ww), some (ab_I (sp_many said (k + 1))), some (ab_I (sp_first said (k + 1))), some (ab_I ((k + 1 : Nat) : Int))]) (by rw [em, ef]; rfl) ?_
        exact ih (k + 1) (by omega) (by omega)
set_option maxRecDepth 10000 in
theorem co_Mo_turned {B : Int} (hI : sg_ok B said) (ww : Int) (hw : ab_in ww) : ab_Mt g_G g_rs mt_Mo_turned 3 0 0 [ab_R 0, ab_I ww] (mo_W tape taped rules sign leng clause clauses read next wrong number text made deep lines opn opened stack top word said xx was undone kept sumOf faced slotAt dayAt row bestRow tMany tMost drawX images imageX isMade) (ab_is (some (ab_I (if said 0 = 1 ∧ 0 ≤ ww ∧ ww ≤ 2 then sp_turned said ww else -2000))) (mo_W tape taped rules sign leng clause clauses read next wrong number text made deep lines opn opened stack top word said xx was undone kept sumOf faced slotAt dayAt row bestRow tMany tMost drawX images imageX isMade)) := by
  refine ab_Mt.of rfl (Nat.le_of_ble_eq_true rfl) ?_
  show ab_Ev g_G g_rs mt_Mo_turned _ _ _ 0 [some (ab_R 0), some (ab_I ww), none, none, none] [] _ _
  have hJ := hI; obtain ⟨i0, i1, i2, i3, i4, i5, i6, i7, i8, i9, i10, i11, i12, i13, i14, i15, i16, i17⟩ := sg_all hJ
  refine ev_aload_n de_Mo_turned_0 rfl rfl ?_
  refine ev_vv (ci := 11) de_Mo_turned_1 (co_Mo_isRing hI) kb_Mo_323 ⟨im_Mo_isRing, se_Mo_isRing⟩ rfl rfl rfl (Nat.le_of_ble_eq_true rfl) (by decide) rfl ?_
  refine ev_if_eq (tgt := 19) de_Mo_turned_4 (by decide) (by omega) (fun h4 => ?_) (fun h4 => ?_)
  · skip
    rw [if_neg (by omega)]
    refine ev_sipush de_Mo_turned_19 rfl ?_
    exact ev_ireturn de_Mo_turned_22 rfl ⟨rfl, rfl⟩
  · skip
    refine ev_iload_n de_Mo_turned_7 rfl rfl ?_
    refine ev_i2l de_Mo_turned_8 (by omega) ?_
    refine ev_lconsti (n := 0) de_Mo_turned_9 (by decide) ?_
    refine ev_ldc2i (n := 2) de_Mo_turned_10 cn_Mo_328 (by decide) ?_
    refine ev_sv de_Mo_turned_13 (co_Mo_in _ ww (0) (2) (by omega) (by decide) (by decide)) kb_Mo_115 sc_Mo_in rfl (Nat.le_of_ble_eq_true rfl) (by decide) rfl ?_
    refine ev_if_ne (tgt := 23) de_Mo_turned_16 (by decide) (by split <;> decide) (fun h16 => ?_) (fun h16 => ?_)
    · skip
      have n16 : 0 ≤ ww ∧ ww ≤ 2 := Decidable.byContradiction (fun z => by rw [if_neg z] at h16; omega)
      rw [if_pos (by omega)]
      unfold sp_turned
      generalize hN : (84 : Nat) = N
      refine ev_iconst de_Mo_turned_23 ?_
      refine ev_istore_n (l' := [_, _, _, _, _]) de_Mo_turned_24 rfl (Nat.le_of_ble_eq_true rfl) rfl ?_
      refine ev_iconst de_Mo_turned_25 ?_
      refine ev_istore_n (l' := [_, _, _, _, _]) de_Mo_turned_26 rfl (Nat.le_of_ble_eq_true rfl) rfl ?_
      refine ev_iconst de_Mo_turned_27 ?_
      refine ev_istore (l' := [_, _, _, _, _]) de_Mo_turned_28 (Nat.le_of_ble_eq_true rfl) rfl ?_
      exact lo_Mo_turned hI ww (by omega) (by omega) N hN.symm (N + 1) 0 (by omega) (by omega)
    · skip
      have n16 : ¬ (0 ≤ ww ∧ ww ≤ 2) := fun z => by rw [if_pos z] at h16; omega
      rw [if_neg (by omega)]
      refine ev_sipush de_Mo_turned_19 rfl ?_
      exact ev_ireturn de_Mo_turned_22 rfl ⟨rfl, rfl⟩
theorem de_Mo_stepsOf_0 : decode prog_14_method_102_code 0 = .ok (.iconst 0, 1) := by decide +kernel
theorem de_Mo_stepsOf_1 : decode prog_14_method_102_code 1 = .ok (.istore_n 2, 1) := by decide +kernel
theorem de_Mo_stepsOf_2 : decode prog_14_method_102_code 2 = .ok (.iconst 0, 1) := by decide +kernel
theorem de_Mo_stepsOf_3 : decode prog_14_method_102_code 3 = .ok (.istore_n 3, 1) := by decide +kernel
theorem de_Mo_stepsOf_4 : decode prog_14_method_102_code 4 = .ok (.iload_n 3, 1) := by decide +kernel
theorem de_Mo_stepsOf_5 : decode prog_14_method_102_code 5 = .ok (.iload_n 1, 1) := by decide +kernel
theorem de_Mo_stepsOf_6 : decode prog_14_method_102_code 6 = .ok (.if_icmp .ge 18, 3) := by decide +kernel
theorem de_Mo_stepsOf_9 : decode prog_14_method_102_code 9 = .ok (.iload_n 2, 1) := by decide +kernel
theorem de_Mo_stepsOf_10 : decode prog_14_method_102_code 10 = .ok (.iload_n 0, 1) := by decide +kernel
theorem de_Mo_stepsOf_11 : decode prog_14_method_102_code 11 = .ok (.iload_n 1, 1) := by decide +kernel
theorem de_Mo_stepsOf_12 : decode prog_14_method_102_code 12 = .ok (.iload_n 3, 1) := by decide +kernel
theorem de_Mo_stepsOf_13 : decode prog_14_method_102_code 13 = .ok (.invokestatic 403, 3) := by decide +kernel
theorem de_Mo_stepsOf_16 : decode prog_14_method_102_code 16 = .ok (.iadd, 1) := by decide +kernel
theorem de_Mo_stepsOf_17 : decode prog_14_method_102_code 17 = .ok (.istore_n 2, 1) := by decide +kernel
theorem de_Mo_stepsOf_18 : decode prog_14_method_102_code 18 = .ok (.iinc 3 1, 3) := by decide +kernel
theorem de_Mo_stepsOf_21 : decode prog_14_method_102_code 21 = .ok (.goto (-17), 3) := by decide +kernel
theorem de_Mo_stepsOf_24 : decode prog_14_method_102_code 24 = .ok (.iload_n 2, 1) := by decide +kernel
theorem de_Mo_stepsOf_25 : decode prog_14_method_102_code 25 = .ok (.ireturn, 1) := by decide +kernel
set_option maxRecDepth 10000 in
theorem lo_Mo_stepsOf (w : ab_W) (cc : Int) (hc0 : 0 ≤ cc) (hc1 : cc ≤ 100000) (nn : Nat) (hn : nn ≤ 5) : ∀ (n : Nat) (k : Nat), k ≤ nn → nn < k + n → ab_Ev g_G g_rs mt_Mo_stepsOf 2 0 0 4 [some (ab_I cc), some (ab_I (nn : Int)), some (ab_I (sp_steps cc nn k)), some (ab_I (k : Int))] [] w (ab_is (some (ab_I (sp_steps cc nn nn))) w) := by
  intro n
  induction n with
  | zero =>
    intro k
    intro g1 g2; omega
  | succ n ih =>
    intro k
    intro g1 g2
    refine ev_iload_n de_Mo_stepsOf_4 rfl rfl ?_
    refine ev_iload_n de_Mo_stepsOf_5 rfl rfl ?_
    refine ev_icmp_ge (tgt := 24) de_Mo_stepsOf_6 (by decide) (by omega) (by omega) (fun h6 => ?_) (fun h6 => ?_)
    · skip
      have e : k = nn := by omega
      subst e
      refine ev_iload_n de_Mo_stepsOf_24 rfl rfl ?_
      exact ev_ireturn de_Mo_stepsOf_25 rfl ⟨rfl, rfl⟩
    · skip
      refine ev_iload_n de_Mo_stepsOf_9 rfl rfl ?_
      refine ev_iload_n de_Mo_stepsOf_10 rfl rfl ?_
      refine ev_iload_n de_Mo_stepsOf_11 rfl rfl ?_
      refine ev_iload_n de_Mo_stepsOf_12 rfl rfl ?_
      refine ev_sv de_Mo_stepsOf_13 (co_Mo_digitOf _ cc _ _ (nn - 1 - k) hc0 hc1 (by omega) (by omega) (by omega) (by omega)) kb_Mo_403 sc_Mo_digitOf rfl (Nat.le_of_ble_eq_true rfl) (by decide) rfl ?_
      refine ev_iadd de_Mo_stepsOf_16 ?_
      refine ev_istore_n (l' := [_, _, _, _]) de_Mo_stepsOf_17 rfl (Nat.le_of_ble_eq_true rfl) rfl ?_
      refine ev_iinc (l' := [_, _, _, _]) de_Mo_stepsOf_18 rfl rfl ?_
      refine ev_goto (tgt := 4) de_Mo_stepsOf_21 (by decide) ?_
      exact ih (k + 1) (by omega) (by omega)
set_option maxRecDepth 10000 in
theorem co_Mo_stepsOf (w : ab_W) (cc : Int) (hc0 : 0 ≤ cc) (hc1 : cc ≤ 100000) (nn : Nat) (hn : nn ≤ 5) : ab_Mt g_G g_rs mt_Mo_stepsOf 2 0 0 [ab_I cc, ab_I (nn : Int)] w (ab_is (some (ab_I (sp_steps cc nn nn))) w) := by
  refine ab_Mt.of rfl (Nat.le_of_ble_eq_true rfl) ?_
  show ab_Ev g_G g_rs mt_Mo_stepsOf _ _ _ 0 [some (ab_I cc), some (ab_I (nn : Int)), none, none] [] _ _
  refine ev_iconst de_Mo_stepsOf_0 ?_
  refine ev_istore_n (l' := [_, _, _, _]) de_Mo_stepsOf_1 rfl (Nat.le_of_ble_eq_true rfl) rfl ?_
  refine ev_iconst de_Mo_stepsOf_2 ?_
  refine ev_istore_n (l' := [_, _, _, _]) de_Mo_stepsOf_3 rfl (Nat.le_of_ble_eq_true rfl) rfl ?_
  exact lo_Mo_stepsOf w cc hc0 hc1 nn hn (nn + 1) 0 (by omega) (by omega)
theorem de_Mo_mostWorn_0 : decode prog_14_method_101_code 0 = .ok (.iconst 0, 1) := by decide +kernel
theorem de_Mo_mostWorn_1 : decode prog_14_method_101_code 1 = .ok (.istore_n 3, 1) := by decide +kernel
theorem de_Mo_mostWorn_2 : decode prog_14_method_101_code 2 = .ok (.aload_n 0, 1) := by decide +kernel
theorem de_Mo_mostWorn_3 : decode prog_14_method_101_code 3 = .ok (.invokevirtual 390, 3) := by decide +kernel
theorem de_Mo_mostWorn_6 : decode prog_14_method_101_code 6 = .ok (.aload_n 0, 1) := by decide +kernel
theorem de_Mo_mostWorn_7 : decode prog_14_method_101_code 7 = .ok (.getfield 39, 3) := by decide +kernel
theorem de_Mo_mostWorn_10 : decode prog_14_method_101_code 10 = .ok (.bipush 7, 2) := by decide +kernel
theorem de_Mo_mostWorn_12 : decode prog_14_method_101_code 12 = .ok (.iconst 0, 1) := by decide +kernel
theorem de_Mo_mostWorn_13 : decode prog_14_method_101_code 13 = .ok (.iastore, 1) := by decide +kernel
theorem de_Mo_mostWorn_14 : decode prog_14_method_101_code 14 = .ok (.iconst 0, 1) := by decide +kernel
theorem de_Mo_mostWorn_15 : decode prog_14_method_101_code 15 = .ok (.istore 4, 2) := by decide +kernel
theorem de_Mo_mostWorn_17 : decode prog_14_method_101_code 17 = .ok (.iload 4, 2) := by decide +kernel
theorem de_Mo_mostWorn_19 : decode prog_14_method_101_code 19 = .ok (.iload_n 2, 1) := by decide +kernel
theorem de_Mo_mostWorn_20 : decode prog_14_method_101_code 20 = .ok (.if_icmp .ge 21, 3) := by decide +kernel
theorem de_Mo_mostWorn_23 : decode prog_14_method_101_code 23 = .ok (.aload_n 0, 1) := by decide +kernel
theorem de_Mo_mostWorn_24 : decode prog_14_method_101_code 24 = .ok (.iload_n 1, 1) := by decide +kernel
theorem de_Mo_mostWorn_25 : decode prog_14_method_101_code 25 = .ok (.iload_n 2, 1) := by decide +kernel
theorem de_Mo_mostWorn_26 : decode prog_14_method_101_code 26 = .ok (.iload 4, 2) := by decide +kernel
theorem de_Mo_mostWorn_28 : decode prog_14_method_101_code 28 = .ok (.invokestatic 403, 3) := by decide +kernel
theorem de_Mo_mostWorn_31 : decode prog_14_method_101_code 31 = .ok (.invokevirtual 338, 3) := by decide +kernel
theorem de_Mo_mostWorn_34 : decode prog_14_method_101_code 34 = .ok (.pop, 1) := by decide +kernel
theorem de_Mo_mostWorn_35 : decode prog_14_method_101_code 35 = .ok (.iinc 4 1, 3) := by decide +kernel
theorem de_Mo_mostWorn_38 : decode prog_14_method_101_code 38 = .ok (.goto (-21), 3) := by decide +kernel
theorem de_Mo_mostWorn_41 : decode prog_14_method_101_code 41 = .ok (.iconst 0, 1) := by decide +kernel
theorem de_Mo_mostWorn_42 : decode prog_14_method_101_code 42 = .ok (.istore 4, 2) := by decide +kernel
theorem de_Mo_mostWorn_44 : decode prog_14_method_101_code 44 = .ok (.iload 4, 2) := by decide +kernel
theorem de_Mo_mostWorn_46 : decode prog_14_method_101_code 46 = .ok (.bipush 12, 2) := by decide +kernel
theorem de_Mo_mostWorn_48 : decode prog_14_method_101_code 48 = .ok (.if_icmp .ge 38, 3) := by decide +kernel
theorem de_Mo_mostWorn_51 : decode prog_14_method_101_code 51 = .ok (.aload_n 0, 1) := by decide +kernel
theorem de_Mo_mostWorn_52 : decode prog_14_method_101_code 52 = .ok (.getfield 39, 3) := by decide +kernel
theorem de_Mo_mostWorn_55 : decode prog_14_method_101_code 55 = .ok (.bipush 34, 2) := by decide +kernel
theorem de_Mo_mostWorn_57 : decode prog_14_method_101_code 57 = .ok (.iload 4, 2) := by decide +kernel
theorem de_Mo_mostWorn_59 : decode prog_14_method_101_code 59 = .ok (.iadd, 1) := by decide +kernel
theorem de_Mo_mostWorn_60 : decode prog_14_method_101_code 60 = .ok (.iaload, 1) := by decide +kernel
theorem de_Mo_mostWorn_61 : decode prog_14_method_101_code 61 = .ok (.iload_n 3, 1) := by decide +kernel
theorem de_Mo_mostWorn_62 : decode prog_14_method_101_code 62 = .ok (.if_icmp .le 16, 3) := by decide +kernel
theorem de_Mo_mostWorn_65 : decode prog_14_method_101_code 65 = .ok (.aload_n 0, 1) := by decide +kernel
theorem de_Mo_mostWorn_66 : decode prog_14_method_101_code 66 = .ok (.getfield 39, 3) := by decide +kernel
theorem de_Mo_mostWorn_69 : decode prog_14_method_101_code 69 = .ok (.bipush 34, 2) := by decide +kernel
theorem de_Mo_mostWorn_71 : decode prog_14_method_101_code 71 = .ok (.iload 4, 2) := by decide +kernel
theorem de_Mo_mostWorn_73 : decode prog_14_method_101_code 73 = .ok (.iadd, 1) := by decide +kernel
theorem de_Mo_mostWorn_74 : decode prog_14_method_101_code 74 = .ok (.iaload, 1) := by decide +kernel
theorem de_Mo_mostWorn_75 : decode prog_14_method_101_code 75 = .ok (.goto 4, 3) := by decide +kernel
theorem de_Mo_mostWorn_78 : decode prog_14_method_101_code 78 = .ok (.iload_n 3, 1) := by decide +kernel
theorem de_Mo_mostWorn_79 : decode prog_14_method_101_code 79 = .ok (.istore_n 3, 1) := by decide +kernel
theorem de_Mo_mostWorn_80 : decode prog_14_method_101_code 80 = .ok (.iinc 4 1, 3) := by decide +kernel
theorem de_Mo_mostWorn_83 : decode prog_14_method_101_code 83 = .ok (.goto (-39), 3) := by decide +kernel
theorem de_Mo_mostWorn_86 : decode prog_14_method_101_code 86 = .ok (.aload_n 0, 1) := by decide +kernel
theorem de_Mo_mostWorn_87 : decode prog_14_method_101_code 87 = .ok (.invokevirtual 393, 3) := by decide +kernel
theorem de_Mo_mostWorn_90 : decode prog_14_method_101_code 90 = .ok (.iload_n 3, 1) := by decide +kernel
theorem de_Mo_mostWorn_91 : decode prog_14_method_101_code 91 = .ok (.ireturn, 1) := by decide +kernel
set_option maxRecDepth 10000 in
theorem lo_Mo_mostWorn2 {B : Int} {g : Int → Int} (hs : sg_ok B g) (l1 : Option ab_V) (c2 : Int) (N : Nat) (hN : N = 12) : ∀ (n : Nat) (k : Nat), k ≤ N → N < k + n → ab_Ev g_G g_rs mt_Mo_mostWorn 3 0 0 44 [some (ab_R 0), l1, some (ab_I c2), some (ab_I (sp_mx g k)), some (ab_I (k : Int))] [] (mo_W tape taped rules sign leng clause clauses read next wrong number text made deep lines opn opened stack top word (g) xx was undone kept sumOf faced slotAt dayAt row bestRow tMany tMost drawX images imageX isMade) (ab_is (some (ab_I (sp_mx g N))) (mo_W tape taped rules sign leng clause clauses read next wrong number text made deep lines opn opened stack top word (sp_cp kept g 53) xx was undone kept sumOf faced slotAt dayAt row bestRow tMany tMost drawX images imageX isMade)) := by
  intro n
  induction n with
  | zero =>
    intro k
    intro g1 g2; omega
  | succ n ih =>
    intro k
    intro g1 g2
    obtain ⟨j0, j1, j2, j3, j4, j5, j6, j7, hzz⟩ := sg_all hs
    obtain ⟨j8, j9, j10, j11, j12, j13, j14, j15, hzz⟩ := hzz
    obtain ⟨j16, j17⟩ := hzz
    have qm := sp_mx_b hs k (by omega)
    refine ev_iload de_Mo_mostWorn_44 rfl ?_
    refine ev_bipush de_Mo_mostWorn_46 rfl ?_
    refine ev_icmp_ge (tgt := 86) de_Mo_mostWorn_48 (by decide) (by omega) (by omega) (fun h48 => ?_) (fun h48 => ?_)
    · skip
      have e : k = N := by omega
      subst e
      refine ev_aload_n de_Mo_mostWorn_86 rfl rfl ?_
      refine ev_vn (ci := 11) de_Mo_mostWorn_87 co_Mo_laysBack kb_Mo_393 ⟨im_Mo_laysBack, se_Mo_laysBack⟩ rfl rfl rfl (Nat.le_of_ble_eq_true rfl) (by decide) rfl ?_
      refine ev_iload_n de_Mo_mostWorn_90 rfl rfl ?_
      exact ev_ireturn de_Mo_mostWorn_91 rfl ⟨rfl, rfl⟩
    · skip
      have qw := j10 (34 + (k : Int)) (by omega) (by omega)
      refine ev_aload_n de_Mo_mostWorn_51 rfl rfl ?_
      refine ev_getfield de_Mo_mostWorn_52 rfl fl_Mo_39 rfl ?_
      refine ev_bipush de_Mo_mostWorn_55 rfl ?_
      refine ev_iload de_Mo_mostWorn_57 rfl ?_
      refine ev_iadd de_Mo_mostWorn_59 ?_
      refine ev_iaload de_Mo_mostWorn_60 rfl (by omega) (by omega) (by omega) ?_
      refine ev_iload_n de_Mo_mostWorn_61 rfl rfl ?_
      refine ev_icmp_le (tgt := 78) de_Mo_mostWorn_62 (by decide) (by omega) (by omega) (fun h62 => ?_) (fun h62 => ?_)
      · skip
        have em : sp_mx g (k + 1) = sp_mx g k := if_neg (by omega)
        refine ev_iload_n de_Mo_mostWorn_78 rfl rfl ?_
        refine ev_istore_n (l' := [_, _, _, _, _]) de_Mo_mostWorn_79 rfl (Nat.le_of_ble_eq_true rfl) rfl ?_
        refine ev_iinc (l' := [_, _, _, _, _]) de_Mo_mostWorn_80 rfl rfl ?_
        refine ev_goto (tgt := 44) de_Mo_mostWorn_83 (by decide) ?_
        have e2 : sp_mx g (k + 1) = _ := em
        rw [← e2]
        exact ih (k + 1) (by omega) (by omega)
      · skip
        have em : sp_mx g (k + 1) = g (34 + (k : Int)) := if_pos (by omega)
        refine ev_aload_n de_Mo_mostWorn_65 rfl rfl ?_
        refine ev_getfield de_Mo_mostWorn_66 rfl fl_Mo_39 rfl ?_
        refine ev_bipush de_Mo_mostWorn_69 rfl ?_
        refine ev_iload de_Mo_mostWorn_71 rfl ?_
        refine ev_iadd de_Mo_mostWorn_73 ?_
        refine ev_iaload de_Mo_mostWorn_74 rfl (by omega) (by omega) (by omega) ?_
        refine ev_goto (tgt := 79) de_Mo_mostWorn_75 (by decide) ?_
        refine ev_istore_n (l' := [_, _, _, _, _]) de_Mo_mostWorn_79 rfl (Nat.le_of_ble_eq_true rfl) rfl ?_
        refine ev_iinc (l' := [_, _, _, _, _]) de_Mo_mostWorn_80 rfl rfl ?_
        refine ev_goto (tgt := 44) de_Mo_mostWorn_83 (by decide) ?_
        have e2 : sp_mx g (k + 1) = _ := em
        rw [← e2]
        exact ih (k + 1) (by omega) (by omega)
set_option maxRecDepth 10000 in
theorem lo_Mo_mostWorn {B : Int} (hI : sg_ok B said) (hB : B ≤ 29000) (cc : Int) (hc0 : 0 ≤ cc) (hc1 : cc ≤ 100000) (nn : Nat) (hn : nn ≤ 5) : ∀ (n : Nat) (k : Nat), k ≤ nn → nn < k + n → ab_Ev g_G g_rs mt_Mo_mostWorn 3 0 0 17 [some (ab_R 0), some (ab_I cc), some (ab_I (nn : Int)), some (ab_I 0), some (ab_I (k : Int))] [] (mo_W tape taped rules sign leng clause clauses read next wrong number text made deep lines opn opened stack top word (sp_pc said cc 0 nn k) xx was undone kept sumOf faced slotAt dayAt row bestRow tMany tMost drawX images imageX isMade) (ab_is (some (ab_I (sp_wc said cc nn))) (mo_W tape taped rules sign leng clause clauses read next wrong number text made deep lines opn opened stack top word (sp_cp kept (sp_pc said cc 0 nn nn) 53) xx was undone kept sumOf faced slotAt dayAt row bestRow tMany tMost drawX images imageX isMade)) := by
  intro n
  induction n with
  | zero =>
    intro k
    intro g1 g2; omega
  | succ n ih =>
    intro k
    intro g1 g2
    have hs := sg_pc hI cc 0 (by decide) (by decide) nn k (by omega)
    have qd := sp_dig_b cc (nn - 1 - k)
    refine ev_iload de_Mo_mostWorn_17 rfl ?_
    refine ev_iload_n de_Mo_mostWorn_19 rfl rfl ?_
    refine ev_icmp_ge (tgt := 41) de_Mo_mostWorn_20 (by decide) (by omega) (by omega) (fun h20 => ?_) (fun h20 => ?_)
    · skip
      have e : k = nn := by omega
      subst e
      refine ev_iconst de_Mo_mostWorn_41 ?_
      refine ev_istore (l' := [_, _, _, _, _]) de_Mo_mostWorn_42 (Nat.le_of_ble_eq_true rfl) rfl ?_
      exact lo_Mo_mostWorn2 hs _ _ 12 rfl 13 0 (by omega) (by omega)
    · skip
      refine ev_aload_n de_Mo_mostWorn_23 rfl rfl ?_
      refine ev_iload_n de_Mo_mostWorn_24 rfl rfl ?_
      refine ev_iload_n de_Mo_mostWorn_25 rfl rfl ?_
      refine ev_iload de_Mo_mostWorn_26 rfl ?_
      refine ev_sv de_Mo_mostWorn_28 (co_Mo_digitOf _ cc _ _ (nn - 1 - k) hc0 hc1 (by omega) (by omega) (by omega) (by omega)) kb_Mo_403 sc_Mo_digitOf rfl (Nat.le_of_ble_eq_true rfl) (by decide) rfl ?_
      refine ev_vv (ci := 11) de_Mo_mostWorn_31 (co_Mo_passesAt hs _ (by omega) (by omega)) kb_Mo_338 ⟨im_Mo_passesAt, se_Mo_passesAt⟩ rfl rfl rfl (Nat.le_of_ble_eq_true rfl) (by decide) rfl ?_
      refine ev_pop de_Mo_mostWorn_34 rfl ?_
      refine ev_iinc (l' := [_, _, _, _, _]) de_Mo_mostWorn_35 rfl rfl ?_
      refine ev_goto (tgt := 17) de_Mo_mostWorn_38 (by decide) ?_
      refine ev_world (w' := (mo_W tape taped rules sign leng clause clauses read next wrong number text made deep lines opn opened stack top word (sp_pc said cc 0 nn (k + 1)) xx was undone kept sumOf faced slotAt dayAt row bestRow tMany tMost drawX images imageX isMade)) (by show _ = mo_W _ _ _ _ _ _ _ _ _ _ _ _ _ _ _ _ _ _ _ _ (sp_passAt (sp_dig cc (nn - 1 - k) - 0) (sp_pc said cc 0 nn k)) _ _ _ _ _ _ _ _ _ _ _ _ _ _ _ _; rw [Int.sub_zero]) ?_
      exact ih (k + 1) (by omega) (by omega)
set_option maxRecDepth 10000 in
theorem co_Mo_mostWorn {B : Int} (hI : sg_ok B said) (hB : B ≤ 29000) (cc : Int) (hc0 : 0 ≤ cc) (hc1 : cc ≤ 100000) (nn : Nat) (hn : nn ≤ 5) : ab_Mt g_G g_rs mt_Mo_mostWorn 3 0 0 [ab_R 0, ab_I cc, ab_I (nn : Int)] (mo_W tape taped rules sign leng clause clauses read next wrong number text made deep lines opn opened stack top word said xx was undone kept sumOf faced slotAt dayAt row bestRow tMany tMost drawX images imageX isMade) (ab_is (some (ab_I (sp_wc said cc nn))) (mo_W tape taped rules sign leng clause clauses read next wrong number text made deep lines opn opened stack top word said xx was undone (sp_cp said kept 53) sumOf faced slotAt dayAt row bestRow tMany tMost drawX images imageX isMade)) := by
  refine ab_Mt.of rfl (Nat.le_of_ble_eq_true rfl) ?_
  show ab_Ev g_G g_rs mt_Mo_mostWorn _ _ _ 0 [some (ab_R 0), some (ab_I cc), some (ab_I (nn : Int)), none, none] [] _ _
  refine ev_iconst de_Mo_mostWorn_0 ?_
  refine ev_istore_n (l' := [_, _, _, _, _]) de_Mo_mostWorn_1 rfl (Nat.le_of_ble_eq_true rfl) rfl ?_
  refine ev_aload_n de_Mo_mostWorn_2 rfl rfl ?_
  refine ev_vn (ci := 11) de_Mo_mostWorn_3 co_Mo_keeps kb_Mo_390 ⟨im_Mo_keeps, se_Mo_keeps⟩ rfl rfl rfl (Nat.le_of_ble_eq_true rfl) (by decide) rfl ?_
  refine ev_aload_n de_Mo_mostWorn_6 rfl rfl ?_
  refine ev_getfield de_Mo_mostWorn_7 rfl fl_Mo_39 rfl ?_
  refine ev_bipush de_Mo_mostWorn_10 rfl ?_
  refine ev_iconst de_Mo_mostWorn_12 ?_
  refine ev_iastore de_Mo_mostWorn_13 rfl (by omega) (by omega) (by omega) ?_
  refine ev_world (w' := mo_W _ _ _ _ _ _ _ _ _ _ _ _ _ _ _ _ _ _ _ _ _ _ _ _ _ _ _ _ _ _ _ _ _ _ _ _ _) rfl ?_
  refine ev_iconst de_Mo_mostWorn_14 ?_
  refine ev_istore (l' := [_, _, _, _, _]) de_Mo_mostWorn_15 (Nat.le_of_ble_eq_true rfl) rfl ?_
  have z := sp_layC (kept := kept) hI cc 0 (by decide) (by decide) nn nn (by omega)
  have y := lo_Mo_mostWorn (tape := tape) (taped := taped) (rules := rules) (sign := sign) (leng := leng) (clause := clause) (clauses := clauses) (read := read) (next := next) (wrong := wrong) (number := number) (text := text) (made := made) (deep := deep) (lines := lines) (opn := opn) (opened := opened) (stack := stack) (top := top) (word := word) (xx := xx) (was := was) (undone := undone) (kept := sp_cp said kept 53) (sumOf := sumOf) (faced := faced) (slotAt := slotAt) (dayAt := dayAt) (row := row) (bestRow := bestRow) (tMany := tMany) (tMost := tMost) (drawX := drawX) (images := images) (imageX := imageX) (isMade := isMade) hI hB cc hc0 hc1 nn hn (nn + 1) 0 (by omega) (by omega)
  rw [z] at y
  exact y
theorem de_Mo_spare_0 : decode prog_14_method_103_code 0 = .ok (.aload_n 0, 1) := by decide +kernel
theorem de_Mo_spare_1 : decode prog_14_method_103_code 1 = .ok (.invokevirtual 323, 3) := by decide +kernel
theorem de_Mo_spare_4 : decode prog_14_method_103_code 4 = .ok (.ifCond .eq 39, 3) := by decide +kernel
theorem de_Mo_spare_7 : decode prog_14_method_103_code 7 = .ok (.iload_n 1, 1) := by decide +kernel
theorem de_Mo_spare_8 : decode prog_14_method_103_code 8 = .ok (.i2l, 1) := by decide +kernel
theorem de_Mo_spare_9 : decode prog_14_method_103_code 9 = .ok (.lconst 1, 1) := by decide +kernel
theorem de_Mo_spare_10 : decode prog_14_method_103_code 10 = .ok (.ldc2_w 406, 3) := by decide +kernel
theorem de_Mo_spare_13 : decode prog_14_method_103_code 13 = .ok (.invokestatic 115, 3) := by decide +kernel
theorem de_Mo_spare_16 : decode prog_14_method_103_code 16 = .ok (.ifCond .eq 27, 3) := by decide +kernel
theorem de_Mo_spare_19 : decode prog_14_method_103_code 19 = .ok (.iload_n 2, 1) := by decide +kernel
theorem de_Mo_spare_20 : decode prog_14_method_103_code 20 = .ok (.i2l, 1) := by decide +kernel
theorem de_Mo_spare_21 : decode prog_14_method_103_code 21 = .ok (.lconst 0, 1) := by decide +kernel
theorem de_Mo_spare_22 : decode prog_14_method_103_code 22 = .ok (.ldc2_w 440, 3) := by decide +kernel
theorem de_Mo_spare_25 : decode prog_14_method_103_code 25 = .ok (.invokestatic 115, 3) := by decide +kernel
theorem de_Mo_spare_28 : decode prog_14_method_103_code 28 = .ok (.ifCond .eq 15, 3) := by decide +kernel
theorem de_Mo_spare_31 : decode prog_14_method_103_code 31 = .ok (.iload_n 3, 1) := by decide +kernel
theorem de_Mo_spare_32 : decode prog_14_method_103_code 32 = .ok (.i2l, 1) := by decide +kernel
theorem de_Mo_spare_33 : decode prog_14_method_103_code 33 = .ok (.lconst 0, 1) := by decide +kernel
theorem de_Mo_spare_34 : decode prog_14_method_103_code 34 = .ok (.ldc2_w 406, 3) := by decide +kernel
theorem de_Mo_spare_37 : decode prog_14_method_103_code 37 = .ok (.invokestatic 115, 3) := by decide +kernel
theorem de_Mo_spare_40 : decode prog_14_method_103_code 40 = .ok (.ifCond .ne 5, 3) := by decide +kernel
theorem de_Mo_spare_43 : decode prog_14_method_103_code 43 = .ok (.iconst (-1), 1) := by decide +kernel
theorem de_Mo_spare_44 : decode prog_14_method_103_code 44 = .ok (.ireturn, 1) := by decide +kernel
theorem de_Mo_spare_45 : decode prog_14_method_103_code 45 = .ok (.iconst (-1), 1) := by decide +kernel
theorem de_Mo_spare_46 : decode prog_14_method_103_code 46 = .ok (.istore 4, 2) := by decide +kernel
theorem de_Mo_spare_48 : decode prog_14_method_103_code 48 = .ok (.iconst 0, 1) := by decide +kernel
theorem de_Mo_spare_49 : decode prog_14_method_103_code 49 = .ok (.istore 5, 2) := by decide +kernel
theorem de_Mo_spare_51 : decode prog_14_method_103_code 51 = .ok (.iconst 0, 1) := by decide +kernel
theorem de_Mo_spare_52 : decode prog_14_method_103_code 52 = .ok (.istore 6, 2) := by decide +kernel
theorem de_Mo_spare_54 : decode prog_14_method_103_code 54 = .ok (.iload 6, 2) := by decide +kernel
theorem de_Mo_spare_56 : decode prog_14_method_103_code 56 = .ok (.iload_n 1, 1) := by decide +kernel
theorem de_Mo_spare_57 : decode prog_14_method_103_code 57 = .ok (.invokestatic 400, 3) := by decide +kernel
theorem de_Mo_spare_60 : decode prog_14_method_103_code 60 = .ok (.if_icmp .ge 54, 3) := by decide +kernel
theorem de_Mo_spare_63 : decode prog_14_method_103_code 63 = .ok (.iload 6, 2) := by decide +kernel
theorem de_Mo_spare_65 : decode prog_14_method_103_code 65 = .ok (.iload_n 1, 1) := by decide +kernel
theorem de_Mo_spare_66 : decode prog_14_method_103_code 66 = .ok (.invokestatic 442, 3) := by decide +kernel
theorem de_Mo_spare_69 : decode prog_14_method_103_code 69 = .ok (.iload_n 2, 1) := by decide +kernel
theorem de_Mo_spare_70 : decode prog_14_method_103_code 70 = .ok (.if_icmp .eq 6, 3) := by decide +kernel
theorem de_Mo_spare_73 : decode prog_14_method_103_code 73 = .ok (.goto 35, 3) := by decide +kernel
theorem de_Mo_spare_76 : decode prog_14_method_103_code 76 = .ok (.aload_n 0, 1) := by decide +kernel
theorem de_Mo_spare_77 : decode prog_14_method_103_code 77 = .ok (.iload 6, 2) := by decide +kernel
theorem de_Mo_spare_79 : decode prog_14_method_103_code 79 = .ok (.iload_n 1, 1) := by decide +kernel
theorem de_Mo_spare_80 : decode prog_14_method_103_code 80 = .ok (.invokevirtual 445, 3) := by decide +kernel
theorem de_Mo_spare_83 : decode prog_14_method_103_code 83 = .ok (.istore 7, 2) := by decide +kernel
theorem de_Mo_spare_85 : decode prog_14_method_103_code 85 = .ok (.iload 4, 2) := by decide +kernel
theorem de_Mo_spare_87 : decode prog_14_method_103_code 87 = .ok (.ifCond .lt 13, 3) := by decide +kernel
theorem de_Mo_spare_90 : decode prog_14_method_103_code 90 = .ok (.iload 7, 2) := by decide +kernel
theorem de_Mo_spare_92 : decode prog_14_method_103_code 92 = .ok (.iload 5, 2) := by decide +kernel
theorem de_Mo_spare_94 : decode prog_14_method_103_code 94 = .ok (.if_icmp .lt 6, 3) := by decide +kernel
theorem de_Mo_spare_97 : decode prog_14_method_103_code 97 = .ok (.goto 11, 3) := by decide +kernel
theorem de_Mo_spare_100 : decode prog_14_method_103_code 100 = .ok (.iload 6, 2) := by decide +kernel
theorem de_Mo_spare_102 : decode prog_14_method_103_code 102 = .ok (.istore 4, 2) := by decide +kernel
theorem de_Mo_spare_104 : decode prog_14_method_103_code 104 = .ok (.iload 7, 2) := by decide +kernel
theorem de_Mo_spare_106 : decode prog_14_method_103_code 106 = .ok (.istore 5, 2) := by decide +kernel
theorem de_Mo_spare_108 : decode prog_14_method_103_code 108 = .ok (.iinc 6 1, 3) := by decide +kernel
theorem de_Mo_spare_111 : decode prog_14_method_103_code 111 = .ok (.goto (-57), 3) := by decide +kernel
theorem de_Mo_spare_114 : decode prog_14_method_103_code 114 = .ok (.iload 4, 2) := by decide +kernel
theorem de_Mo_spare_116 : decode prog_14_method_103_code 116 = .ok (.ifCond .ge 8, 3) := by decide +kernel
theorem de_Mo_spare_119 : decode prog_14_method_103_code 119 = .ok (.bipush (-2), 2) := by decide +kernel
theorem de_Mo_spare_121 : decode prog_14_method_103_code 121 = .ok (.goto 31, 3) := by decide +kernel
theorem de_Mo_spare_124 : decode prog_14_method_103_code 124 = .ok (.iload_n 3, 1) := by decide +kernel
theorem de_Mo_spare_125 : decode prog_14_method_103_code 125 = .ok (.ifCond .ne 8, 3) := by decide +kernel
theorem de_Mo_spare_128 : decode prog_14_method_103_code 128 = .ok (.iload 5, 2) := by decide +kernel
theorem de_Mo_spare_130 : decode prog_14_method_103_code 130 = .ok (.goto 22, 3) := by decide +kernel
theorem de_Mo_spare_133 : decode prog_14_method_103_code 133 = .ok (.iload_n 3, 1) := by decide +kernel
theorem de_Mo_spare_134 : decode prog_14_method_103_code 134 = .ok (.iload_n 1, 1) := by decide +kernel
theorem de_Mo_spare_135 : decode prog_14_method_103_code 135 = .ok (.if_icmp .le 8, 3) := by decide +kernel
theorem de_Mo_spare_138 : decode prog_14_method_103_code 138 = .ok (.bipush (-2), 2) := by decide +kernel
theorem de_Mo_spare_140 : decode prog_14_method_103_code 140 = .ok (.goto 12, 3) := by decide +kernel
theorem de_Mo_spare_143 : decode prog_14_method_103_code 143 = .ok (.iload 4, 2) := by decide +kernel
theorem de_Mo_spare_145 : decode prog_14_method_103_code 145 = .ok (.iload_n 1, 1) := by decide +kernel
theorem de_Mo_spare_146 : decode prog_14_method_103_code 146 = .ok (.iload_n 3, 1) := by decide +kernel
theorem de_Mo_spare_147 : decode prog_14_method_103_code 147 = .ok (.iconst 1, 1) := by decide +kernel
theorem de_Mo_spare_148 : decode prog_14_method_103_code 148 = .ok (.isub, 1) := by decide +kernel
theorem de_Mo_spare_149 : decode prog_14_method_103_code 149 = .ok (.invokestatic 403, 3) := by decide +kernel
theorem de_Mo_spare_152 : decode prog_14_method_103_code 152 = .ok (.ireturn, 1) := by decide +kernel
set_option maxRecDepth 10000 in
theorem lo_Mo_spare {B : Int} (hI : sg_ok B said) (hB : B ≤ 29000) (nn : Nat) (hn0 : 1 ≤ nn) (hn : nn ≤ 5) (tt ww : Int) (ht0 : 0 ≤ tt) (ht1 : tt ≤ 10) (hw0 : 0 ≤ ww) (hw1 : ww ≤ 5) (kept0 : Int → Int) (hk0 : ∀ K, sp_cp said (sp_cp said K 53) 53 = sp_cp said K 53) : ∀ (n : Nat) (k : Nat) (K : Int → Int) (l7 : Option ab_V), k ≤ 3 ^ nn → 3 ^ nn < k + n → K = kept0 ∨ K = sp_cp said kept0 53 → ab_Ev g_G g_rs mt_Mo_spare 4 0 0 54 [some (ab_R 0), some (ab_I (nn : Int)), some (ab_I tt), some (ab_I ww), some (ab_I (sp_sb said nn tt k).1), some (ab_I (sp_sb said nn tt k).2), some (ab_I (k : Int)), l7] [] (mo_W tape taped rules sign leng clause clauses read next wrong number text made deep lines opn opened stack top word said xx was undone (K) sumOf faced slotAt dayAt row bestRow tMany tMost drawX images imageX isMade) (fun r w2 => r = some (ab_I (sp_spare said (nn : Int) tt ww)) ∧ ∃ K, w2 = (mo_W tape taped rules sign leng clause clauses read next wrong number text made deep lines opn opened stack top word said xx was undone (K) sumOf faced slotAt dayAt row bestRow tMany tMost drawX images imageX isMade)) := by
  intro n
  induction n with
  | zero =>
    intro k K l7
    intro g1 g2 g3; omega
  | succ n ih =>
    intro k K l7
    intro g1 g2 g3
    have hJ := hI; obtain ⟨i0, i1, i2, i3, i4, i5, i6, i7, i8, i9, i10, i11, i12, i13, i14, i15, i16, i17⟩ := sg_all hJ
    have q3 := sp_3b nn (by omega)
    have qs := sp_sb_b hI hB nn hn tt k
    have qst := sp_steps_b (k : Int) nn nn
    have qm := sp_mx_b (sg_pc hI (k : Int) 0 (by decide) (by decide) nn nn (by omega)) 12 (by decide)
    have qm : 0 ≤ sp_wc said (k : Int) nn ∧ sp_wc said (k : Int) nn ≤ 90000 := qm
    refine ev_iload de_Mo_spare_54 rfl ?_
    refine ev_iload_n de_Mo_spare_56 rfl rfl ?_
    refine ev_sv de_Mo_spare_57 (co_Mo_third _ nn (by omega)) kb_Mo_400 sc_Mo_third rfl (Nat.le_of_ble_eq_true rfl) (by decide) rfl ?_
    refine ev_icmp_ge (tgt := 114) de_Mo_spare_60 (by decide) (by omega) (by omega) (fun h60 => ?_) (fun h60 => ?_)
    · skip
      have e : k = 3 ^ nn := by omega
      subst e
      refine ev_iload de_Mo_spare_114 rfl ?_
      refine ev_if_ge (tgt := 124) de_Mo_spare_116 (by decide) (by omega) (fun h116 => ?_) (fun h116 => ?_)
      · skip
        refine ev_iload_n de_Mo_spare_124 rfl rfl ?_
        refine ev_if_ne (tgt := 133) de_Mo_spare_125 (by decide) (by omega) (fun h125 => ?_) (fun h125 => ?_)
        · skip
          refine ev_iload_n de_Mo_spare_133 rfl rfl ?_
          refine ev_iload_n de_Mo_spare_134 rfl rfl ?_
          refine ev_icmp_le (tgt := 143) de_Mo_spare_135 (by decide) (by omega) (by omega) (fun h135 => ?_) (fun h135 => ?_)
          · skip
            refine ev_iload de_Mo_spare_143 rfl ?_
            refine ev_iload_n de_Mo_spare_145 rfl rfl ?_
            refine ev_iload_n de_Mo_spare_146 rfl rfl ?_
            refine ev_iconst de_Mo_spare_147 ?_
            refine ev_isub de_Mo_spare_148 ?_
            refine ev_sv de_Mo_spare_149 (co_Mo_digitOf _ _ _ _ ((nn : Int) - 1 - (ww - 1)).toNat (by omega) (by omega) (by omega) (by omega) (by omega) (by omega)) kb_Mo_403 sc_Mo_digitOf rfl (Nat.le_of_ble_eq_true rfl) (by decide) rfl ?_
            exact ev_ireturn de_Mo_spare_152 rfl ⟨by unfold sp_spare; rw [show ((nn : Int)).toNat = nn from rfl]; first | (rw [if_pos (by omega)]; done) | (rw [if_neg (by omega), if_pos (by omega)]; done) | (rw [if_neg (by omega), if_neg (by omega), if_pos (by omega)]; done) | (rw [if_neg (by omega), if_neg (by omega), if_neg (by omega)]; done), _, rfl⟩
          · skip
            refine ev_bipush de_Mo_spare_138 rfl ?_
            refine ev_goto (tgt := 152) de_Mo_spare_140 (by decide) ?_
            exact ev_ireturn de_Mo_spare_152 rfl ⟨by unfold sp_spare; rw [show ((nn : Int)).toNat = nn from rfl]; first | (rw [if_pos (by omega)]; done) | (rw [if_neg (by omega), if_pos (by omega)]; done) | (rw [if_neg (by omega), if_neg (by omega), if_pos (by omega)]; done) | (rw [if_neg (by omega), if_neg (by omega), if_neg (by omega)]; done), _, rfl⟩
        · skip
          refine ev_iload de_Mo_spare_128 rfl ?_
          refine ev_goto (tgt := 152) de_Mo_spare_130 (by decide) ?_
          exact ev_ireturn de_Mo_spare_152 rfl ⟨by unfold sp_spare; rw [show ((nn : Int)).toNat = nn from rfl]; first | (rw [if_pos (by omega)]; done) | (rw [if_neg (by omega), if_pos (by omega)]; done) | (rw [if_neg (by omega), if_neg (by omega), if_pos (by omega)]; done) | (rw [if_neg (by omega), if_neg (by omega), if_neg (by omega)]; done), _, rfl⟩
      · skip
        refine ev_bipush de_Mo_spare_119 rfl ?_
        refine ev_goto (tgt := 152) de_Mo_spare_121 (by decide) ?_
        exact ev_ireturn de_Mo_spare_152 rfl ⟨by unfold sp_spare; rw [show ((nn : Int)).toNat = nn from rfl]; first | (rw [if_pos (by omega)]; done) | (rw [if_neg (by omega), if_pos (by omega)]; done) | (rw [if_neg (by omega), if_neg (by omega), if_pos (by omega)]; done) | (rw [if_neg (by omega), if_neg (by omega), if_neg (by omega)]; done), _, rfl⟩
    · skip
      refine ev_iload de_Mo_spare_63 rfl ?_
      refine ev_iload_n de_Mo_spare_65 rfl rfl ?_
      refine ev_sv de_Mo_spare_66 (co_Mo_stepsOf _ (k : Int) (by omega) (by omega) nn hn) kb_Mo_442 sc_Mo_stepsOf rfl (Nat.le_of_ble_eq_true rfl) (by decide) rfl ?_
      refine ev_iload_n de_Mo_spare_69 rfl rfl ?_
      refine ev_icmp_eq (tgt := 76) de_Mo_spare_70 (by decide) (by omega) (by omega) (fun h70 => ?_) (fun h70 => ?_)
      · skip
        refine ev_aload_n de_Mo_spare_76 rfl rfl ?_
        refine ev_iload de_Mo_spare_77 rfl ?_
        refine ev_iload_n de_Mo_spare_79 rfl rfl ?_
        refine ev_vv (ci := 11) de_Mo_spare_80 (co_Mo_mostWorn hI hB (k : Int) (by omega) (by omega) nn hn) kb_Mo_445 ⟨im_Mo_mostWorn, se_Mo_mostWorn⟩ rfl rfl rfl (Nat.le_of_ble_eq_true rfl) (by decide) rfl ?_
        refine ev_istore (l' := [_, _, _, _, _, _, _, _]) de_Mo_spare_83 (Nat.le_of_ble_eq_true rfl) rfl ?_
        refine ev_iload de_Mo_spare_85 rfl ?_
        refine ev_if_lt (tgt := 100) de_Mo_spare_87 (by decide) (by omega) (fun h87 => ?_) (fun h87 => ?_)
        · skip
          have es : sp_sb said nn tt (k + 1) = ((k : Int), sp_wc said (k : Int) nn) := by show (if _ then _ else _) = _; rw [if_pos h70, if_pos (Or.inl (by omega))]
          refine ev_iload de_Mo_spare_100 rfl ?_
          refine ev_istore (l' := [_, _, _, _, _, _, _, _]) de_Mo_spare_102 (Nat.le_of_ble_eq_true rfl) rfl ?_
          refine ev_iload de_Mo_spare_104 rfl ?_
          refine ev_istore (l' := [_, _, _, _, _, _, _, _]) de_Mo_spare_106 (Nat.le_of_ble_eq_true rfl) rfl ?_
          refine ev_iinc (l' := [_, _, _, _, _, _, _, _]) de_Mo_spare_108 rfl rfl ?_
          refine ev_goto (tgt := 54) de_Mo_spare_111 (by decide) ?_
          refine ev_loc (l2 := [some (ab_R 0), some (ab_I (nn : Int)), some (ab_I tt), some (ab_I ww), some (ab_I (sp_sb said nn tt (k + 1)).1), some (ab_I (sp_sb said nn tt (k + 1)).2), some (ab_I ((k + 1 : Nat) : Int)), _]) (by rw [es]; rfl) ?_
          exact ih (k + 1) _ _ (by omega) (by omega) (by first | exact g3 | (rcases g3 with rfl | rfl <;> first | exact Or.inr rfl | (rw [hk0]; exact Or.inr rfl)))
        · skip
          refine ev_iload de_Mo_spare_90 rfl ?_
          refine ev_iload de_Mo_spare_92 rfl ?_
          refine ev_icmp_lt (tgt := 100) de_Mo_spare_94 (by decide) (by omega) (by omega) (fun h94 => ?_) (fun h94 => ?_)
          · skip
            have es : sp_sb said nn tt (k + 1) = ((k : Int), sp_wc said (k : Int) nn) := by show (if _ then _ else _) = _; rw [if_pos h70, if_pos (Or.inr (by omega))]
            refine ev_iload de_Mo_spare_100 rfl ?_
            refine ev_istore (l' := [_, _, _, _, _, _, _, _]) de_Mo_spare_102 (Nat.le_of_ble_eq_true rfl) rfl ?_
            refine ev_iload de_Mo_spare_104 rfl ?_
            refine ev_istore (l' := [_, _, _, _, _, _, _, _]) de_Mo_spare_106 (Nat.le_of_ble_eq_true rfl) rfl ?_
            refine ev_iinc (l' := [_, _, _, _, _, _, _, _]) de_Mo_spare_108 rfl rfl ?_
            refine ev_goto (tgt := 54) de_Mo_spare_111 (by decide) ?_
            refine ev_loc (l2 := [some (ab_R 0), some (ab_I (nn : Int)), some (ab_I tt), some (ab_I ww), some (ab_I (sp_sb said nn tt (k + 1)).1), some (ab_I (sp_sb said nn tt (k + 1)).2), some (ab_I ((k + 1 : Nat) : Int)), _]) (by rw [es]; rfl) ?_
            exact ih (k + 1) _ _ (by omega) (by omega) (by first | exact g3 | (rcases g3 with rfl | rfl <;> first | exact Or.inr rfl | (rw [hk0]; exact Or.inr rfl)))
          · skip
            have es : sp_sb said nn tt (k + 1) = sp_sb said nn tt k := by show (if _ then _ else _) = _; rw [if_pos h70, if_neg (by omega)]
            refine ev_goto (tgt := 108) de_Mo_spare_97 (by decide) ?_
            refine ev_iinc (l' := [_, _, _, _, _, _, _, _]) de_Mo_spare_108 rfl rfl ?_
            refine ev_goto (tgt := 54) de_Mo_spare_111 (by decide) ?_
            refine ev_loc (l2 := [some (ab_R 0), some (ab_I (nn : Int)), some (ab_I tt), some (ab_I ww), some (ab_I (sp_sb said nn tt (k + 1)).1), some (ab_I (sp_sb said nn tt (k + 1)).2), some (ab_I ((k + 1 : Nat) : Int)), _]) (by rw [es]; rfl) ?_
            exact ih (k + 1) _ _ (by omega) (by omega) (by first | exact g3 | (rcases g3 with rfl | rfl <;> first | exact Or.inr rfl | (rw [hk0]; exact Or.inr rfl)))
      · skip
        have es : sp_sb said nn tt (k + 1) = sp_sb said nn tt k := by show (if _ then _ else _) = _; rw [if_neg h70]
        refine ev_goto (tgt := 108) de_Mo_spare_73 (by decide) ?_
        refine ev_iinc (l' := [_, _, _, _, _, _, _, _]) de_Mo_spare_108 rfl rfl ?_
        refine ev_goto (tgt := 54) de_Mo_spare_111 (by decide) ?_
        refine ev_loc (l2 := [some (ab_R 0), some (ab_I (nn : Int)), some (ab_I tt), some (ab_I ww), some (ab_I (sp_sb said nn tt (k + 1)).1), some (ab_I (sp_sb said nn tt (k + 1)).2), some (ab_I ((k + 1 : Nat) : Int)), _]) (by rw [es]; rfl) ?_
        exact ih (k + 1) _ _ (by omega) (by omega) (by first | exact g3 | (rcases g3 with rfl | rfl <;> first | exact Or.inr rfl | (rw [hk0]; exact Or.inr rfl)))
end MO
