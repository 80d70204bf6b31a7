section MO
variable {tape : Int → Int} {taped : Int} {rules : Int} {sign : Int → Int} {leng : Int → Int} {clause : Int → Int} {clauses : Int → Int} {read : Int → Int} {next : Int} {wrong : Int} {number : Int} {text : Int} {made : Int} {deep : Int} {lines : Int} {opn : Int → Int} {opened : Int} {stack : Int → Int64} {top : Int} {word : Int → Int64} {said : Int → Int} {xx : Int} {was : Int → Int} {undone : Int} {kept : Int → Int} {sumOf : Int → Int} {faced : Int → Int} {slotAt : Int → Int} {dayAt : Int → Int} {row : Int → Int} {bestRow : Int → Int} {tMany : Int} {tMost : Int} {drawX : Int64} {images : Int → Int} {imageX : Int → Int} {isMade : Int → Int}
/-! texts: where bytes go on -/
def tk_scan (p : Int → Bool) : Nat → Int → Int
  | 0, i => i
  | n + 1, i => if p i then tk_scan p n (i + 1) else i
theorem tk_scan_b (p : Int → Bool) : ∀ (n : Nat) (i : Int), i ≤ tk_scan p n i ∧ tk_scan p n i ≤ i + n
  | 0, i => by unfold tk_scan; omega
  | n + 1, i => by
    have ih := tk_scan_b p n (i + 1)
    unfold tk_scan
    split <;> omega
def tk_bl (tape : Int → Int) (taped : Int) (i : Int) : Bool := decide (i < taped ∧ tape i = 32)
def tk_dg (tape : Int → Int) (taped : Int) (i : Int) : Bool := decide (i < taped ∧ 48 ≤ tape i ∧ tape i ≤ 57)
def tk_lt (tape : Int → Int) (taped : Int) (i : Int) : Bool := decide (i < taped ∧ 97 ≤ tape i ∧ tape i ≤ 122)
/-- where p stops, from i on (p holds below taped alone) -/
def tk_to (p : Int → Bool) (taped i : Int) : Int := tk_scan p (taped - i).toNat i
theorem tk_to_s {p : Int → Bool} {taped i : Int} (h : i < taped) (hp : p i = true) : tk_to p taped i = tk_to p taped (i + 1) := by
  unfold tk_to
  rw [show (taped - i).toNat = (taped - (i + 1)).toNat + 1 by omega]
  show (if _ then _ else _) = _
  rw [if_pos hp]
theorem tk_to_e {p : Int → Bool} {taped i : Int} (hp : p i = false) : tk_to p taped i = i := by
  unfold tk_to
  cases hn : (taped - i).toNat with
  | zero => rfl
  | succ n =>
    show (if _ then _ else _) = _
    rw [if_neg (by rw [hp]; decide)]
theorem tk_to_b (p : Int → Bool) {taped i : Int} (h : i ≤ taped) : i ≤ tk_to p taped i ∧ tk_to p taped i ≤ taped := by
  have := tk_scan_b p (taped - i).toNat i
  unfold tk_to
  omega
def tk_sk (tape : Int → Int) (taped i : Int) : Int := tk_to (tk_bl tape taped) taped i
def tk_ch (tape : Int → Int) (taped i : Int) : Int := if i < taped then tape i % 256 else -1
def tp_ok (tape : Int → Int) (taped : Int) : Prop := 0 ≤ taped ∧ taped ≤ 400 ∧ ∀ k, 0 ≤ k → k < 400 → -128 ≤ tape k ∧ tape k ≤ 127
theorem ab_and255 : ∀ n : Nat, n < 256 → ab_iand ((n : Int) - 128) 255 = ((n : Int) - 128) % 256 := by decide +kernel
theorem ab_and255' {a : Int} (h0 : -128 ≤ a) (h1 : a ≤ 127) : ab_iand a 255 = a % 256 := by
  have h := ab_and255 (a + 128).toNat (by omega)
  rw [show (((a + 128).toNat : Nat) : Int) - 128 = a by omega] at h
  exact h
def tk_fl (wrong kind at_ : Int) : Int := if wrong = 0 then 1 + 8 * at_ + kind else wrong
/-- the letters' bytes as one long -/
def tk_wv (tape : Int → Int) (nx : Int) : Nat → Int64
  | 0 => Int64.ofInt 0
  | n + 1 => if n < 8 then (tk_wv tape nx n <<< ((Int32.ofInt 8).toInt64 &&& 63)) ||| Int64.ofInt (tape (nx + (n : Int))) else tk_wv tape nx n
def tk_le (tape : Int → Int) (taped i : Int) : Int := tk_to (tk_lt tape taped) taped i
def tk_de (tape : Int → Int) (taped i : Int) : Int := tk_to (tk_dg tape taped) taped i
def tk_isI (tape : Int → Int) (taped i : Int) (w : Int64) : Int := if 0 < tk_le tape taped i - i ∧ tk_le tape taped i - i < 8 ∧ tk_wv tape i (tk_le tape taped i - i).toNat = w then 1 else 0
def tk_num (tape : Int → Int) (i : Int) : Nat → Int
  | 0 => 0
  | n + 1 => if n < 5 then 10 * tk_num tape i n + tape (i + (n : Int)) - 48 else tk_num tape i n
theorem tk_to_mid {p : Int → Bool} {taped i : Int} : ∀ (n : Nat), i + n ≤ tk_to p taped i → i ≤ taped → tk_to p taped (i + n) = tk_to p taped i
  | 0, _, _ => by rw [show i + ((0 : Nat) : Int) = i by omega]
  | n + 1, h, ht => by
    have ih := tk_to_mid (p := p) (taped := taped) (i := i) n (by omega) ht
    have hb := tk_to_b p ht
    cases hp : p (i + n) with
    | false => rw [tk_to_e hp] at ih; omega
    | true => rw [← ih, tk_to_s (by omega) hp, show i + ((n + 1 : Nat) : Int) = i + (n : Int) + 1 by omega]
theorem tk_num_b {tape : Int → Int} {taped i : Int} : ∀ n : Nat, (∀ k : Nat, k < n → 48 ≤ tape (i + k) ∧ tape (i + k) ≤ 57) → 0 ≤ tk_num tape i n ∧ tk_num tape i n ≤ 99999 ∧ (n ≤ 5 → tk_num tape i n < 10 ^ n)
  | 0, _ => by unfold tk_num; decide
  | n + 1, h => by
    have ih := tk_num_b (taped := taped) n (fun k hk => h k (by omega))
    have q := h n (by omega)
    unfold tk_num
    by_cases c : n < 5
    · rw [if_pos c]
      have i3 := ih.2.2 (by omega)
      rcases (by omega : n = 0 ∨ n = 1 ∨ n = 2 ∨ n = 3 ∨ n = 4) with rfl | rfl | rfl | rfl | rfl <;> refine ⟨by omega, ?_, fun _ => ?_⟩ <;> simp only [Nat.zero_add, Nat.reduceAdd, Nat.reducePow, Int.reducePow] at * <;> omega
    · rw [if_neg c]
      exact ⟨ih.1, ih.2.1, fun z => by omega⟩
theorem de_Mo_fails_0 : decode prog_14_method_8_code 0 = .ok (.aload_n 0, 1) := by decide +kernel
theorem de_Mo_fails_1 : decode prog_14_method_8_code 1 = .ok (.getfield 84, 3) := by decide +kernel
theorem de_Mo_fails_4 : decode prog_14_method_8_code 4 = .ok (.ifCond .ne 15, 3) := by decide +kernel
theorem de_Mo_fails_7 : decode prog_14_method_8_code 7 = .ok (.aload_n 0, 1) := by decide +kernel
theorem de_Mo_fails_8 : decode prog_14_method_8_code 8 = .ok (.iconst 1, 1) := by decide +kernel
theorem de_Mo_fails_9 : decode prog_14_method_8_code 9 = .ok (.bipush 8, 2) := by decide +kernel
theorem de_Mo_fails_11 : decode prog_14_method_8_code 11 = .ok (.iload_n 2, 1) := by decide +kernel
theorem de_Mo_fails_12 : decode prog_14_method_8_code 12 = .ok (.imul, 1) := by decide +kernel
theorem de_Mo_fails_13 : decode prog_14_method_8_code 13 = .ok (.iadd, 1) := by decide +kernel
theorem de_Mo_fails_14 : decode prog_14_method_8_code 14 = .ok (.iload_n 1, 1) := by decide +kernel
theorem de_Mo_fails_15 : decode prog_14_method_8_code 15 = .ok (.iadd, 1) := by decide +kernel
theorem de_Mo_fails_16 : decode prog_14_method_8_code 16 = .ok (.putfield 84, 3) := by decide +kernel
theorem de_Mo_fails_19 : decode prog_14_method_8_code 19 = .ok (.iconst 0, 1) := by decide +kernel
theorem de_Mo_fails_20 : decode prog_14_method_8_code 20 = .ok (.ireturn, 1) := by decide +kernel
set_option maxRecDepth 10000 in
theorem co_Mo_fails (kind at_ : Int) (hw : ab_in wrong) : ab_Mt g_G g_rs mt_Mo_fails 0 0 0 [ab_R 0, ab_I kind, ab_I at_] (mo_W tape taped rules sign leng clause clauses read next wrong number text made deep lines opn opened stack top word said xx was undone kept sumOf faced slotAt dayAt row bestRow tMany tMost drawX images imageX isMade) (ab_is (some (ab_I (0))) (mo_W tape taped rules sign leng clause clauses read next (tk_fl wrong kind at_) number text made deep lines opn opened stack top word said xx was undone kept sumOf faced slotAt dayAt row bestRow tMany tMost drawX images imageX isMade)) := by
  refine ab_Mt.of rfl (Nat.le_of_ble_eq_true rfl) ?_
  show ab_Ev g_G g_rs mt_Mo_fails _ _ _ 0 [some (ab_R 0), some (ab_I kind), some (ab_I at_)] [] _ _
  refine ev_aload_n de_Mo_fails_0 rfl rfl ?_
  refine ev_getfield de_Mo_fails_1 rfl fl_Mo_84 rfl ?_
  refine ev_if_ne (tgt := 19) de_Mo_fails_4 (by decide) (by omega) (fun h4 => ?_) (fun h4 => ?_)
  · skip
    have e : tk_fl wrong kind at_ = wrong := if_neg h4
    rw [e]
    refine ev_iconst de_Mo_fails_19 ?_
    exact ev_zreturn de_Mo_fails_20 rfl (by decide) ⟨rfl, rfl⟩
  · skip
    have e : tk_fl wrong kind at_ = 1 + 8 * at_ + kind := if_pos h4
    rw [e]
    refine ev_aload_n de_Mo_fails_7 rfl rfl ?_
    refine ev_iconst de_Mo_fails_8 ?_
    refine ev_bipush de_Mo_fails_9 rfl ?_
    refine ev_iload_n de_Mo_fails_11 rfl rfl ?_
    refine ev_imul de_Mo_fails_12 ?_
    refine ev_iadd de_Mo_fails_13 ?_
    refine ev_iload_n de_Mo_fails_14 rfl rfl ?_
    refine ev_iadd de_Mo_fails_15 ?_
    refine ev_putfield de_Mo_fails_16 rfl (fp_Mo_84 _) (Nat.le_of_ble_eq_true rfl) trivial ?_
    refine ev_world (w' := mo_W _ _ _ _ _ _ _ _ _ _ _ _ _ _ _ _ _ _ _ _ _ _ _ _ _ _ _ _ _ _ _ _ _ _ _ _ _) rfl ?_
    refine ev_iconst de_Mo_fails_19 ?_
    exact ev_zreturn de_Mo_fails_20 rfl (by decide) ⟨rfl, rfl⟩
theorem de_Mo_see_0 : decode prog_14_method_9_code 0 = .ok (.aload_n 0, 1) := by decide +kernel
theorem de_Mo_see_1 : decode prog_14_method_9_code 1 = .ok (.getfield 87, 3) := by decide +kernel
theorem de_Mo_see_4 : decode prog_14_method_9_code 4 = .ok (.aload_n 0, 1) := by decide +kernel
theorem de_Mo_see_5 : decode prog_14_method_9_code 5 = .ok (.getfield 76, 3) := by decide +kernel
theorem de_Mo_see_8 : decode prog_14_method_9_code 8 = .ok (.if_icmp .ge 30, 3) := by decide +kernel
theorem de_Mo_see_11 : decode prog_14_method_9_code 11 = .ok (.aload_n 0, 1) := by decide +kernel
theorem de_Mo_see_12 : decode prog_14_method_9_code 12 = .ok (.getfield 7, 3) := by decide +kernel
theorem de_Mo_see_15 : decode prog_14_method_9_code 15 = .ok (.aload_n 0, 1) := by decide +kernel
theorem de_Mo_see_16 : decode prog_14_method_9_code 16 = .ok (.getfield 87, 3) := by decide +kernel
theorem de_Mo_see_19 : decode prog_14_method_9_code 19 = .ok (.baload, 1) := by decide +kernel
theorem de_Mo_see_20 : decode prog_14_method_9_code 20 = .ok (.bipush 32, 2) := by decide +kernel
theorem de_Mo_see_22 : decode prog_14_method_9_code 22 = .ok (.if_icmp .ne 16, 3) := by decide +kernel
theorem de_Mo_see_25 : decode prog_14_method_9_code 25 = .ok (.aload_n 0, 1) := by decide +kernel
theorem de_Mo_see_26 : decode prog_14_method_9_code 26 = .ok (.dup, 1) := by decide +kernel
theorem de_Mo_see_27 : decode prog_14_method_9_code 27 = .ok (.getfield 87, 3) := by decide +kernel
theorem de_Mo_see_30 : decode prog_14_method_9_code 30 = .ok (.iconst 1, 1) := by decide +kernel
theorem de_Mo_see_31 : decode prog_14_method_9_code 31 = .ok (.iadd, 1) := by decide +kernel
theorem de_Mo_see_32 : decode prog_14_method_9_code 32 = .ok (.putfield 87, 3) := by decide +kernel
theorem de_Mo_see_35 : decode prog_14_method_9_code 35 = .ok (.goto (-35), 3) := by decide +kernel
theorem de_Mo_see_38 : decode prog_14_method_9_code 38 = .ok (.aload_n 0, 1) := by decide +kernel
theorem de_Mo_see_39 : decode prog_14_method_9_code 39 = .ok (.getfield 87, 3) := by decide +kernel
theorem de_Mo_see_42 : decode prog_14_method_9_code 42 = .ok (.aload_n 0, 1) := by decide +kernel
theorem de_Mo_see_43 : decode prog_14_method_9_code 43 = .ok (.getfield 76, 3) := by decide +kernel
theorem de_Mo_see_46 : decode prog_14_method_9_code 46 = .ok (.if_icmp .ge 19, 3) := by decide +kernel
theorem de_Mo_see_49 : decode prog_14_method_9_code 49 = .ok (.aload_n 0, 1) := by decide +kernel
theorem de_Mo_see_50 : decode prog_14_method_9_code 50 = .ok (.getfield 7, 3) := by decide +kernel
theorem de_Mo_see_53 : decode prog_14_method_9_code 53 = .ok (.aload_n 0, 1) := by decide +kernel
theorem de_Mo_see_54 : decode prog_14_method_9_code 54 = .ok (.getfield 87, 3) := by decide +kernel
theorem de_Mo_see_57 : decode prog_14_method_9_code 57 = .ok (.baload, 1) := by decide +kernel
theorem de_Mo_see_58 : decode prog_14_method_9_code 58 = .ok (.sipush 255, 3) := by decide +kernel
theorem de_Mo_see_61 : decode prog_14_method_9_code 61 = .ok (.iand, 1) := by decide +kernel
theorem de_Mo_see_62 : decode prog_14_method_9_code 62 = .ok (.goto 4, 3) := by decide +kernel
theorem de_Mo_see_65 : decode prog_14_method_9_code 65 = .ok (.iconst (-1), 1) := by decide +kernel
theorem de_Mo_see_66 : decode prog_14_method_9_code 66 = .ok (.ireturn, 1) := by decide +kernel
set_option maxRecDepth 10000 in
theorem lo_Mo_see (ht : tp_ok tape taped) : ∀ (n : Nat) (next : Int), 0 ≤ next → next ≤ taped → taped < next + n → ab_Ev g_G g_rs mt_Mo_see 0 0 0 0 [some (ab_R 0)] [] (mo_W tape taped rules sign leng clause clauses read next wrong number text made deep lines opn opened stack top word said xx was undone kept sumOf faced slotAt dayAt row bestRow tMany tMost drawX images imageX isMade) (ab_is (some (ab_I (tk_ch tape taped (tk_sk tape taped next)))) (mo_W tape taped rules sign leng clause clauses read (tk_sk tape taped next) wrong number text made deep lines opn opened stack top word said xx was undone kept sumOf faced slotAt dayAt row bestRow tMany tMost drawX images imageX isMade)) := by
  intro n
  induction n with
  | zero =>
    intro next
    intro g0 g1 g2; omega
  | succ n ih =>
    intro next
    intro g0 g1 g2
    obtain ⟨p0, p1, pb⟩ := ht
    refine ev_aload_n de_Mo_see_0 rfl rfl ?_
    refine ev_getfield de_Mo_see_1 rfl fl_Mo_87 rfl ?_
    refine ev_aload_n de_Mo_see_4 rfl rfl ?_
    refine ev_getfield de_Mo_see_5 rfl fl_Mo_76 rfl ?_
    refine ev_icmp_ge (tgt := 38) de_Mo_see_8 (by decide) (by omega) (by omega) (fun h8 => ?_) (fun h8 => ?_)
    · skip
      have e : tk_sk tape taped next = next := tk_to_e (decide_eq_false (by omega))
      rw [e]
      refine ev_aload_n de_Mo_see_38 rfl rfl ?_
      refine ev_getfield de_Mo_see_39 rfl fl_Mo_87 rfl ?_
      refine ev_aload_n de_Mo_see_42 rfl rfl ?_
      refine ev_getfield de_Mo_see_43 rfl fl_Mo_76 rfl ?_
      refine ev_icmp_ge (tgt := 65) de_Mo_see_46 (by decide) (by omega) (by omega) (fun h46 => ?_) (fun h46 => ?_)
      · skip
        refine ev_iconst de_Mo_see_65 ?_
        exact ev_ireturn de_Mo_see_66 rfl ⟨by unfold tk_ch; first | (exfalso; omega) | (rw [if_pos (by omega)]; done) | (rw [if_neg (by omega)]; done), rfl⟩
      · skip
        have qb := pb next (by omega) (by omega)
        refine ev_aload_n de_Mo_see_49 rfl rfl ?_
        refine ev_getfield de_Mo_see_50 rfl fl_Mo_7 rfl ?_
        refine ev_aload_n de_Mo_see_53 rfl rfl ?_
        refine ev_getfield de_Mo_see_54 rfl fl_Mo_87 rfl ?_
        refine ev_baload de_Mo_see_57 rfl (by omega) (by omega) (by omega) ?_
        refine ev_sipush de_Mo_see_58 rfl ?_
        refine ev_iand de_Mo_see_61 ?_
        refine ev_top (congrArg Sum.inl (ab_and255' qb.1 qb.2)) ?_
        refine ev_goto (tgt := 66) de_Mo_see_62 (by decide) ?_
        exact ev_ireturn de_Mo_see_66 rfl ⟨by unfold tk_ch; first | (exfalso; omega) | (rw [if_pos (by omega)]; done) | (rw [if_neg (by omega)]; done), rfl⟩
    · skip
      have qb := pb next (by omega) (by omega)
      refine ev_aload_n de_Mo_see_11 rfl rfl ?_
      refine ev_getfield de_Mo_see_12 rfl fl_Mo_7 rfl ?_
      refine ev_aload_n de_Mo_see_15 rfl rfl ?_
      refine ev_getfield de_Mo_see_16 rfl fl_Mo_87 rfl ?_
      refine ev_baload de_Mo_see_19 rfl (by omega) (by omega) (by omega) ?_
      refine ev_bipush de_Mo_see_20 rfl ?_
      refine ev_icmp_ne (tgt := 38) de_Mo_see_22 (by decide) (by omega) (by omega) (fun h22 => ?_) (fun h22 => ?_)
      · skip
        have e : tk_sk tape taped next = next := tk_to_e (decide_eq_false (by omega))
        rw [e]
        refine ev_aload_n de_Mo_see_38 rfl rfl ?_
        refine ev_getfield de_Mo_see_39 rfl fl_Mo_87 rfl ?_
        refine ev_aload_n de_Mo_see_42 rfl rfl ?_
        refine ev_getfield de_Mo_see_43 rfl fl_Mo_76 rfl ?_
        refine ev_icmp_ge (tgt := 65) de_Mo_see_46 (by decide) (by omega) (by omega) (fun h46 => ?_) (fun h46 => ?_)
        · skip
          refine ev_iconst de_Mo_see_65 ?_
          exact ev_ireturn de_Mo_see_66 rfl ⟨by unfold tk_ch; first | (exfalso; omega) | (rw [if_pos (by omega)]; done) | (rw [if_neg (by omega)]; done), rfl⟩
        · skip
          have qb := pb next (by omega) (by omega)
          refine ev_aload_n de_Mo_see_49 rfl rfl ?_
          refine ev_getfield de_Mo_see_50 rfl fl_Mo_7 rfl ?_
          refine ev_aload_n de_Mo_see_53 rfl rfl ?_
          refine ev_getfield de_Mo_see_54 rfl fl_Mo_87 rfl ?_
          refine ev_baload de_Mo_see_57 rfl (by omega) (by omega) (by omega) ?_
          refine ev_sipush de_Mo_see_58 rfl ?_
          refine ev_iand de_Mo_see_61 ?_
          refine ev_top (congrArg Sum.inl (ab_and255' qb.1 qb.2)) ?_
          refine ev_goto (tgt := 66) de_Mo_see_62 (by decide) ?_
          exact ev_ireturn de_Mo_see_66 rfl ⟨by unfold tk_ch; first | (exfalso; omega) | (rw [if_pos (by omega)]; done) | (rw [if_neg (by omega)]; done), rfl⟩
      · skip
        refine ev_aload_n de_Mo_see_25 rfl rfl ?_
        refine ev_dup de_Mo_see_26 rfl ?_
        refine ev_getfield de_Mo_see_27 rfl fl_Mo_87 rfl ?_
        refine ev_iconst de_Mo_see_30 ?_
        refine ev_iadd de_Mo_see_31 ?_
        refine ev_putfield de_Mo_see_32 rfl (fp_Mo_87 _) (Nat.le_of_ble_eq_true rfl) trivial ?_
        refine ev_world (w' := mo_W _ _ _ _ _ _ _ _ _ _ _ _ _ _ _ _ _ _ _ _ _ _ _ _ _ _ _ _ _ _ _ _ _ _ _ _ _) rfl ?_
        refine ev_goto (tgt := 0) de_Mo_see_35 (by decide) ?_
        have e : tk_sk tape taped next = tk_sk tape taped (next + 1) := tk_to_s (by omega) (decide_eq_true ⟨by omega, h22⟩)
        rw [e]
        exact ih (next + 1) (by omega) (by omega) (by omega)
set_option maxRecDepth 10000 in
theorem co_Mo_see (ht : tp_ok tape taped) (hn0 : 0 ≤ next) (hn1 : next ≤ taped) : ab_Mt g_G g_rs mt_Mo_see 0 0 0 [ab_R 0] (mo_W tape taped rules sign leng clause clauses read next wrong number text made deep lines opn opened stack top word said xx was undone kept sumOf faced slotAt dayAt row bestRow tMany tMost drawX images imageX isMade) (ab_is (some (ab_I (tk_ch tape taped (tk_sk tape taped next)))) (mo_W tape taped rules sign leng clause clauses read (tk_sk tape taped next) wrong number text made deep lines opn opened stack top word said xx was undone kept sumOf faced slotAt dayAt row bestRow tMany tMost drawX images imageX isMade)) := by
  refine ab_Mt.of rfl (Nat.le_of_ble_eq_true rfl) ?_
  show ab_Ev g_G g_rs mt_Mo_see _ _ _ 0 [some (ab_R 0)] [] _ _
  exact lo_Mo_see ht ((taped - next).toNat + 1) next hn0 hn1 (by omega)
theorem de_Mo_isDigit_0 : decode prog_14_method_10_code 0 = .ok (.iload_n 1, 1) := by decide +kernel
theorem de_Mo_isDigit_1 : decode prog_14_method_10_code 1 = .ok (.aload_n 0, 1) := by decide +kernel
theorem de_Mo_isDigit_2 : decode prog_14_method_10_code 2 = .ok (.getfield 76, 3) := by decide +kernel
theorem de_Mo_isDigit_5 : decode prog_14_method_10_code 5 = .ok (.if_icmp .ge 29, 3) := by decide +kernel
theorem de_Mo_isDigit_8 : decode prog_14_method_10_code 8 = .ok (.aload_n 0, 1) := by decide +kernel
theorem de_Mo_isDigit_9 : decode prog_14_method_10_code 9 = .ok (.getfield 7, 3) := by decide +kernel
theorem de_Mo_isDigit_12 : decode prog_14_method_10_code 12 = .ok (.iload_n 1, 1) := by decide +kernel
theorem de_Mo_isDigit_13 : decode prog_14_method_10_code 13 = .ok (.baload, 1) := by decide +kernel
theorem de_Mo_isDigit_14 : decode prog_14_method_10_code 14 = .ok (.bipush 48, 2) := by decide +kernel
theorem de_Mo_isDigit_16 : decode prog_14_method_10_code 16 = .ok (.if_icmp .lt 18, 3) := by decide +kernel
theorem de_Mo_isDigit_19 : decode prog_14_method_10_code 19 = .ok (.aload_n 0, 1) := by decide +kernel
theorem de_Mo_isDigit_20 : decode prog_14_method_10_code 20 = .ok (.getfield 7, 3) := by decide +kernel
theorem de_Mo_isDigit_23 : decode prog_14_method_10_code 23 = .ok (.iload_n 1, 1) := by decide +kernel
theorem de_Mo_isDigit_24 : decode prog_14_method_10_code 24 = .ok (.baload, 1) := by decide +kernel
theorem de_Mo_isDigit_25 : decode prog_14_method_10_code 25 = .ok (.bipush 57, 2) := by decide +kernel
theorem de_Mo_isDigit_27 : decode prog_14_method_10_code 27 = .ok (.if_icmp .gt 7, 3) := by decide +kernel
theorem de_Mo_isDigit_30 : decode prog_14_method_10_code 30 = .ok (.iconst 1, 1) := by decide +kernel
theorem de_Mo_isDigit_31 : decode prog_14_method_10_code 31 = .ok (.goto 4, 3) := by decide +kernel
theorem de_Mo_isDigit_34 : decode prog_14_method_10_code 34 = .ok (.iconst 0, 1) := by decide +kernel
theorem de_Mo_isDigit_35 : decode prog_14_method_10_code 35 = .ok (.ireturn, 1) := by decide +kernel
set_option maxRecDepth 10000 in
theorem co_Mo_isDigit (ht : tp_ok tape taped) (k : Int) (hk : 0 ≤ k) (hk1 : k ≤ 1000) : ab_Mt g_G g_rs mt_Mo_isDigit 0 0 0 [ab_R 0, ab_I k] (mo_W tape taped rules sign leng clause clauses read next wrong number text made deep lines opn opened stack top word said xx was undone kept sumOf faced slotAt dayAt row bestRow tMany tMost drawX images imageX isMade) (ab_is (some (ab_I (if tk_dg tape taped k = true then 1 else 0))) (mo_W tape taped rules sign leng clause clauses read next wrong number text made deep lines opn opened stack top word said xx was undone kept sumOf faced slotAt dayAt row bestRow tMany tMost drawX images imageX isMade)) := by
  refine ab_Mt.of rfl (Nat.le_of_ble_eq_true rfl) ?_
  show ab_Ev g_G g_rs mt_Mo_isDigit _ _ _ 0 [some (ab_R 0), some (ab_I k)] [] _ _
  obtain ⟨p0, p1, pb⟩ := ht
  refine ev_iload_n de_Mo_isDigit_0 rfl rfl ?_
  refine ev_aload_n de_Mo_isDigit_1 rfl rfl ?_
  refine ev_getfield de_Mo_isDigit_2 rfl fl_Mo_76 rfl ?_
  refine ev_icmp_ge (tgt := 34) de_Mo_isDigit_5 (by decide) (by omega) (by omega) (fun h5 => ?_) (fun h5 => ?_)
  · skip
    refine ev_iconst de_Mo_isDigit_34 ?_
    exact ev_zreturn de_Mo_isDigit_35 rfl (by decide) ⟨by first | rw [if_pos (show tk_dg tape taped k = true from decide_eq_true (by omega))] | rw [if_neg (fun z : tk_dg tape taped k = true => by have := of_decide_eq_true z; omega)], rfl⟩
  · skip
    have qb := pb k (by omega) (by omega)
    refine ev_aload_n de_Mo_isDigit_8 rfl rfl ?_
    refine ev_getfield de_Mo_isDigit_9 rfl fl_Mo_7 rfl ?_
    refine ev_iload_n de_Mo_isDigit_12 rfl rfl ?_
    refine ev_baload de_Mo_isDigit_13 rfl (by omega) (by omega) (by omega) ?_
    refine ev_bipush de_Mo_isDigit_14 rfl ?_
    refine ev_icmp_lt (tgt := 34) de_Mo_isDigit_16 (by decide) (by omega) (by omega) (fun h16 => ?_) (fun h16 => ?_)
    · skip
      refine ev_iconst de_Mo_isDigit_34 ?_
      exact ev_zreturn de_Mo_isDigit_35 rfl (by decide) ⟨by first | rw [if_pos (show tk_dg tape taped k = true from decide_eq_true (by omega))] | rw [if_neg (fun z : tk_dg tape taped k = true => by have := of_decide_eq_true z; omega)], rfl⟩
    · skip
      refine ev_aload_n de_Mo_isDigit_19 rfl rfl ?_
      refine ev_getfield de_Mo_isDigit_20 rfl fl_Mo_7 rfl ?_
      refine ev_iload_n de_Mo_isDigit_23 rfl rfl ?_
      refine ev_baload de_Mo_isDigit_24 rfl (by omega) (by omega) (by omega) ?_
      refine ev_bipush de_Mo_isDigit_25 rfl ?_
      refine ev_icmp_gt (tgt := 34) de_Mo_isDigit_27 (by decide) (by omega) (by omega) (fun h27 => ?_) (fun h27 => ?_)
      · skip
        refine ev_iconst de_Mo_isDigit_34 ?_
        exact ev_zreturn de_Mo_isDigit_35 rfl (by decide) ⟨by first | rw [if_pos (show tk_dg tape taped k = true from decide_eq_true (by omega))] | rw [if_neg (fun z : tk_dg tape taped k = true => by have := of_decide_eq_true z; omega)], rfl⟩
      · skip
        refine ev_iconst de_Mo_isDigit_30 ?_
        refine ev_goto (tgt := 35) de_Mo_isDigit_31 (by decide) ?_
        exact ev_zreturn de_Mo_isDigit_35 rfl (by decide) ⟨by first | rw [if_pos (show tk_dg tape taped k = true from decide_eq_true (by omega))] | rw [if_neg (fun z : tk_dg tape taped k = true => by have := of_decide_eq_true z; omega)], rfl⟩
theorem de_Mo_isLetter_0 : decode prog_14_method_11_code 0 = .ok (.iload_n 1, 1) := by decide +kernel
theorem de_Mo_isLetter_1 : decode prog_14_method_11_code 1 = .ok (.aload_n 0, 1) := by decide +kernel
theorem de_Mo_isLetter_2 : decode prog_14_method_11_code 2 = .ok (.getfield 76, 3) := by decide +kernel
theorem de_Mo_isLetter_5 : decode prog_14_method_11_code 5 = .ok (.if_icmp .ge 29, 3) := by decide +kernel
theorem de_Mo_isLetter_8 : decode prog_14_method_11_code 8 = .ok (.aload_n 0, 1) := by decide +kernel
theorem de_Mo_isLetter_9 : decode prog_14_method_11_code 9 = .ok (.getfield 7, 3) := by decide +kernel
theorem de_Mo_isLetter_12 : decode prog_14_method_11_code 12 = .ok (.iload_n 1, 1) := by decide +kernel
theorem de_Mo_isLetter_13 : decode prog_14_method_11_code 13 = .ok (.baload, 1) := by decide +kernel
theorem de_Mo_isLetter_14 : decode prog_14_method_11_code 14 = .ok (.bipush 97, 2) := by decide +kernel
theorem de_Mo_isLetter_16 : decode prog_14_method_11_code 16 = .ok (.if_icmp .lt 18, 3) := by decide +kernel
theorem de_Mo_isLetter_19 : decode prog_14_method_11_code 19 = .ok (.aload_n 0, 1) := by decide +kernel
theorem de_Mo_isLetter_20 : decode prog_14_method_11_code 20 = .ok (.getfield 7, 3) := by decide +kernel
theorem de_Mo_isLetter_23 : decode prog_14_method_11_code 23 = .ok (.iload_n 1, 1) := by decide +kernel
theorem de_Mo_isLetter_24 : decode prog_14_method_11_code 24 = .ok (.baload, 1) := by decide +kernel
theorem de_Mo_isLetter_25 : decode prog_14_method_11_code 25 = .ok (.bipush 122, 2) := by decide +kernel
theorem de_Mo_isLetter_27 : decode prog_14_method_11_code 27 = .ok (.if_icmp .gt 7, 3) := by decide +kernel
theorem de_Mo_isLetter_30 : decode prog_14_method_11_code 30 = .ok (.iconst 1, 1) := by decide +kernel
theorem de_Mo_isLetter_31 : decode prog_14_method_11_code 31 = .ok (.goto 4, 3) := by decide +kernel
theorem de_Mo_isLetter_34 : decode prog_14_method_11_code 34 = .ok (.iconst 0, 1) := by decide +kernel
theorem de_Mo_isLetter_35 : decode prog_14_method_11_code 35 = .ok (.ireturn, 1) := by decide +kernel
set_option maxRecDepth 10000 in
theorem co_Mo_isLetter (ht : tp_ok tape taped) (k : Int) (hk : 0 ≤ k) (hk1 : k ≤ 1000) : ab_Mt g_G g_rs mt_Mo_isLetter 0 0 0 [ab_R 0, ab_I k] (mo_W tape taped rules sign leng clause clauses read next wrong number text made deep lines opn opened stack top word said xx was undone kept sumOf faced slotAt dayAt row bestRow tMany tMost drawX images imageX isMade) (ab_is (some (ab_I (if tk_lt tape taped k = true then 1 else 0))) (mo_W tape taped rules sign leng clause clauses read next wrong number text made deep lines opn opened stack top word said xx was undone kept sumOf faced slotAt dayAt row bestRow tMany tMost drawX images imageX isMade)) := by
  refine ab_Mt.of rfl (Nat.le_of_ble_eq_true rfl) ?_
  show ab_Ev g_G g_rs mt_Mo_isLetter _ _ _ 0 [some (ab_R 0), some (ab_I k)] [] _ _
  obtain ⟨p0, p1, pb⟩ := ht
  refine ev_iload_n de_Mo_isLetter_0 rfl rfl ?_
  refine ev_aload_n de_Mo_isLetter_1 rfl rfl ?_
  refine ev_getfield de_Mo_isLetter_2 rfl fl_Mo_76 rfl ?_
  refine ev_icmp_ge (tgt := 34) de_Mo_isLetter_5 (by decide) (by omega) (by omega) (fun h5 => ?_) (fun h5 => ?_)
  · skip
    refine ev_iconst de_Mo_isLetter_34 ?_
    exact ev_zreturn de_Mo_isLetter_35 rfl (by decide) ⟨by first | rw [if_pos (show tk_lt tape taped k = true from decide_eq_true (by omega))] | rw [if_neg (fun z : tk_lt tape taped k = true => by have := of_decide_eq_true z; omega)], rfl⟩
  · skip
    have qb := pb k (by omega) (by omega)
    refine ev_aload_n de_Mo_isLetter_8 rfl rfl ?_
    refine ev_getfield de_Mo_isLetter_9 rfl fl_Mo_7 rfl ?_
    refine ev_iload_n de_Mo_isLetter_12 rfl rfl ?_
    refine ev_baload de_Mo_isLetter_13 rfl (by omega) (by omega) (by omega) ?_
    refine ev_bipush de_Mo_isLetter_14 rfl ?_
    refine ev_icmp_lt (tgt := 34) de_Mo_isLetter_16 (by decide) (by omega) (by omega) (fun h16 => ?_) (fun h16 => ?_)
    · skip
      refine ev_iconst de_Mo_isLetter_34 ?_
      exact ev_zreturn de_Mo_isLetter_35 rfl (by decide) ⟨by first | rw [if_pos (show tk_lt tape taped k = true from decide_eq_true (by omega))] | rw [if_neg (fun z : tk_lt tape taped k = true => by have := of_decide_eq_true z; omega)], rfl⟩
    · skip
      refine ev_aload_n de_Mo_isLetter_19 rfl rfl ?_
      refine ev_getfield de_Mo_isLetter_20 rfl fl_Mo_7 rfl ?_
      refine ev_iload_n de_Mo_isLetter_23 rfl rfl ?_
      refine ev_baload de_Mo_isLetter_24 rfl (by omega) (by omega) (by omega) ?_
      refine ev_bipush de_Mo_isLetter_25 rfl ?_
      refine ev_icmp_gt (tgt := 34) de_Mo_isLetter_27 (by decide) (by omega) (by omega) (fun h27 => ?_) (fun h27 => ?_)
      · skip
        refine ev_iconst de_Mo_isLetter_34 ?_
        exact ev_zreturn de_Mo_isLetter_35 rfl (by decide) ⟨by first | rw [if_pos (show tk_lt tape taped k = true from decide_eq_true (by omega))] | rw [if_neg (fun z : tk_lt tape taped k = true => by have := of_decide_eq_true z; omega)], rfl⟩
      · skip
        refine ev_iconst de_Mo_isLetter_30 ?_
        refine ev_goto (tgt := 35) de_Mo_isLetter_31 (by decide) ?_
        exact ev_zreturn de_Mo_isLetter_35 rfl (by decide) ⟨by first | rw [if_pos (show tk_lt tape taped k = true from decide_eq_true (by omega))] | rw [if_neg (fun z : tk_lt tape taped k = true => by have := of_decide_eq_true z; omega)], rfl⟩
theorem de_Mo_isWord_0 : decode prog_14_method_12_code 0 = .ok (.aload_n 0, 1) := by decide +kernel
theorem de_Mo_isWord_1 : decode prog_14_method_12_code 1 = .ok (.invokevirtual 90, 3) := by decide +kernel
theorem de_Mo_isWord_4 : decode prog_14_method_12_code 4 = .ok (.pop, 1) := by decide +kernel
theorem de_Mo_isWord_5 : decode prog_14_method_12_code 5 = .ok (.lconst 0, 1) := by decide +kernel
theorem de_Mo_isWord_6 : decode prog_14_method_12_code 6 = .ok (.lstore_n 3, 1) := by decide +kernel
theorem de_Mo_isWord_7 : decode prog_14_method_12_code 7 = .ok (.iconst 0, 1) := by decide +kernel
theorem de_Mo_isWord_8 : decode prog_14_method_12_code 8 = .ok (.istore 5, 2) := by decide +kernel
theorem de_Mo_isWord_10 : decode prog_14_method_12_code 10 = .ok (.aload_n 0, 1) := by decide +kernel
theorem de_Mo_isWord_11 : decode prog_14_method_12_code 11 = .ok (.aload_n 0, 1) := by decide +kernel
theorem de_Mo_isWord_12 : decode prog_14_method_12_code 12 = .ok (.getfield 87, 3) := by decide +kernel
theorem de_Mo_isWord_15 : decode prog_14_method_12_code 15 = .ok (.iload 5, 2) := by decide +kernel
theorem de_Mo_isWord_17 : decode prog_14_method_12_code 17 = .ok (.iadd, 1) := by decide +kernel
theorem de_Mo_isWord_18 : decode prog_14_method_12_code 18 = .ok (.invokevirtual 94, 3) := by decide +kernel
theorem de_Mo_isWord_21 : decode prog_14_method_12_code 21 = .ok (.ifCond .eq 35, 3) := by decide +kernel
theorem de_Mo_isWord_24 : decode prog_14_method_12_code 24 = .ok (.iload 5, 2) := by decide +kernel
theorem de_Mo_isWord_26 : decode prog_14_method_12_code 26 = .ok (.bipush 8, 2) := by decide +kernel
theorem de_Mo_isWord_28 : decode prog_14_method_12_code 28 = .ok (.if_icmp .ge 22, 3) := by decide +kernel
theorem de_Mo_isWord_31 : decode prog_14_method_12_code 31 = .ok (.lload_n 3, 1) := by decide +kernel
theorem de_Mo_isWord_32 : decode prog_14_method_12_code 32 = .ok (.bipush 8, 2) := by decide +kernel
theorem de_Mo_isWord_34 : decode prog_14_method_12_code 34 = .ok (.lshl, 1) := by decide +kernel
theorem de_Mo_isWord_35 : decode prog_14_method_12_code 35 = .ok (.aload_n 0, 1) := by decide +kernel
theorem de_Mo_isWord_36 : decode prog_14_method_12_code 36 = .ok (.getfield 7, 3) := by decide +kernel
theorem de_Mo_isWord_39 : decode prog_14_method_12_code 39 = .ok (.aload_n 0, 1) := by decide +kernel
theorem de_Mo_isWord_40 : decode prog_14_method_12_code 40 = .ok (.getfield 87, 3) := by decide +kernel
theorem de_Mo_isWord_43 : decode prog_14_method_12_code 43 = .ok (.iload 5, 2) := by decide +kernel
theorem de_Mo_isWord_45 : decode prog_14_method_12_code 45 = .ok (.iadd, 1) := by decide +kernel
theorem de_Mo_isWord_46 : decode prog_14_method_12_code 46 = .ok (.baload, 1) := by decide +kernel
theorem de_Mo_isWord_47 : decode prog_14_method_12_code 47 = .ok (.i2l, 1) := by decide +kernel
theorem de_Mo_isWord_48 : decode prog_14_method_12_code 48 = .ok (.lor, 1) := by decide +kernel
theorem de_Mo_isWord_49 : decode prog_14_method_12_code 49 = .ok (.lstore_n 3, 1) := by decide +kernel
theorem de_Mo_isWord_50 : decode prog_14_method_12_code 50 = .ok (.iinc 5 1, 3) := by decide +kernel
theorem de_Mo_isWord_53 : decode prog_14_method_12_code 53 = .ok (.goto (-43), 3) := by decide +kernel
theorem de_Mo_isWord_56 : decode prog_14_method_12_code 56 = .ok (.iload 5, 2) := by decide +kernel
theorem de_Mo_isWord_58 : decode prog_14_method_12_code 58 = .ok (.ifCond .le 20, 3) := by decide +kernel
theorem de_Mo_isWord_61 : decode prog_14_method_12_code 61 = .ok (.iload 5, 2) := by decide +kernel
theorem de_Mo_isWord_63 : decode prog_14_method_12_code 63 = .ok (.bipush 8, 2) := by decide +kernel
theorem de_Mo_isWord_65 : decode prog_14_method_12_code 65 = .ok (.if_icmp .ge 13, 3) := by decide +kernel
theorem de_Mo_isWord_68 : decode prog_14_method_12_code 68 = .ok (.lload_n 3, 1) := by decide +kernel
theorem de_Mo_isWord_69 : decode prog_14_method_12_code 69 = .ok (.lload_n 1, 1) := by decide +kernel
theorem de_Mo_isWord_70 : decode prog_14_method_12_code 70 = .ok (.lcmp, 1) := by decide +kernel
theorem de_Mo_isWord_71 : decode prog_14_method_12_code 71 = .ok (.ifCond .ne 7, 3) := by decide +kernel
theorem de_Mo_isWord_74 : decode prog_14_method_12_code 74 = .ok (.iconst 1, 1) := by decide +kernel
theorem de_Mo_isWord_75 : decode prog_14_method_12_code 75 = .ok (.goto 4, 3) := by decide +kernel
theorem de_Mo_isWord_78 : decode prog_14_method_12_code 78 = .ok (.iconst 0, 1) := by decide +kernel
theorem de_Mo_isWord_79 : decode prog_14_method_12_code 79 = .ok (.ireturn, 1) := by decide +kernel
set_option maxRecDepth 10000 in
theorem lo_Mo_isWord (ht : tp_ok tape taped) (hn0 : 0 ≤ next) (hn1 : next ≤ taped) (w : Int64) : ∀ (n : Nat) (k : Nat), next + (k : Int) ≤ tk_le tape taped next → tk_le tape taped next < next + (k : Int) + n → ab_Ev g_G g_rs mt_Mo_isWord 1 0 0 10 [some (ab_R 0), some (ab_J w), none, some (ab_J (tk_wv tape next k)), none, some (ab_I (k : Int))] [] (mo_W tape taped rules sign leng clause clauses read next wrong number text made deep lines opn opened stack top word said xx was undone kept sumOf faced slotAt dayAt row bestRow tMany tMost drawX images imageX isMade) (ab_is (some (ab_I (tk_isI tape taped next w))) (mo_W tape taped rules sign leng clause clauses read next wrong number text made deep lines opn opened stack top word said xx was undone kept sumOf faced slotAt dayAt row bestRow tMany tMost drawX images imageX isMade)) := by
  intro n
  induction n with
  | zero =>
    intro k
    intro g0 g1; omega
  | succ n ih =>
    intro k
    intro g0 g1
    have ht2 := ht
    obtain ⟨p0, p1, pb⟩ := ht2
    have hle := tk_to_b (tk_lt tape taped) hn1
    have hle : next ≤ tk_le tape taped next ∧ tk_le tape taped next ≤ taped := hle
    have hmid := tk_to_mid (p := tk_lt tape taped) (taped := taped) (i := next) k g0 hn1
    refine ev_aload_n de_Mo_isWord_10 rfl rfl ?_
    refine ev_aload_n de_Mo_isWord_11 rfl rfl ?_
    refine ev_getfield de_Mo_isWord_12 rfl fl_Mo_87 rfl ?_
    refine ev_iload de_Mo_isWord_15 rfl ?_
    refine ev_iadd de_Mo_isWord_17 ?_
    refine ev_vv (ci := 11) de_Mo_isWord_18 (co_Mo_isLetter ht _ (by omega) (by omega)) kb_Mo_94 ⟨im_Mo_isLetter, se_Mo_isLetter⟩ rfl rfl rfl (Nat.le_of_ble_eq_true rfl) (by decide) rfl ?_
    refine ev_if_eq (tgt := 56) de_Mo_isWord_21 (by decide) (by split <;> decide) (fun h21 => ?_) (fun h21 => ?_)
    · skip
      have hl : tk_lt tape taped (next + (k : Int)) = false := by cases hx : tk_lt tape taped (next + (k : Int)) with | true => (rw [hx] at h21; exact absurd h21 (by decide)) | false => rfl
      have he := tk_to_e (taped := taped) hl
      have hke : tk_le tape taped next = next + (k : Int) := by show tk_to (tk_lt tape taped) taped next = _; rw [← hmid, he]
      have hkn : (tk_le tape taped next - next).toNat = k := by omega
      refine ev_iload de_Mo_isWord_56 rfl ?_
      refine ev_if_le (tgt := 78) de_Mo_isWord_58 (by decide) (by omega) (fun h58 => ?_) (fun h58 => ?_)
      · skip
        have eI : tk_isI tape taped next w = 0 := by unfold tk_isI; rw [if_neg (fun z => by omega)]
        refine ev_iconst de_Mo_isWord_78 ?_
        exact ev_zreturn de_Mo_isWord_79 rfl (by decide) ⟨by rw [eI], rfl⟩
      · skip
        refine ev_iload de_Mo_isWord_61 rfl ?_
        refine ev_bipush de_Mo_isWord_63 rfl ?_
        refine ev_icmp_ge (tgt := 78) de_Mo_isWord_65 (by decide) (by omega) (by omega) (fun h65 => ?_) (fun h65 => ?_)
        · skip
          have eI : tk_isI tape taped next w = 0 := by unfold tk_isI; rw [if_neg (fun z => by omega)]
          refine ev_iconst de_Mo_isWord_78 ?_
          exact ev_zreturn de_Mo_isWord_79 rfl (by decide) ⟨by rw [eI], rfl⟩
        · skip
          refine ev_lload_n de_Mo_isWord_68 rfl rfl ?_
          refine ev_lload_n de_Mo_isWord_69 rfl rfl ?_
          refine ev_lcmp de_Mo_isWord_70 ?_
          have q := ab_cmp0 (tk_wv tape next k) w
          refine ev_if_ne (tgt := 78) de_Mo_isWord_71 (by decide) (by omega) (fun h71 => ?_) (fun h71 => ?_)
          · skip
            have eI : tk_isI tape taped next w = 0 := by unfold tk_isI; rw [hkn, if_neg (fun z => h71 (q.2.2.1.mpr z.2.2))]
            refine ev_iconst de_Mo_isWord_78 ?_
            exact ev_zreturn de_Mo_isWord_79 rfl (by decide) ⟨by rw [eI], rfl⟩
          · skip
            have eI : tk_isI tape taped next w = 1 := by unfold tk_isI; rw [hkn, if_pos ⟨by omega, by omega, q.2.2.1.mp h71⟩]
            refine ev_iconst de_Mo_isWord_74 ?_
            refine ev_goto (tgt := 79) de_Mo_isWord_75 (by decide) ?_
            exact ev_zreturn de_Mo_isWord_79 rfl (by decide) ⟨by rw [eI], rfl⟩
    · skip
      have hl : tk_lt tape taped (next + (k : Int)) = true := by cases hx : tk_lt tape taped (next + (k : Int)) with | false => (rw [hx] at h21; exact absurd rfl h21) | true => rfl
      have hl2 := of_decide_eq_true hl
      have hs := tk_to_s (taped := taped) (by omega) hl
      have hb2 := tk_to_b (tk_lt tape taped) (taped := taped) (i := next + (k : Int) + 1) (by omega)
      have hlt : next + (k : Int) < tk_le tape taped next := by
        have : tk_to (tk_lt tape taped) taped next = tk_to (tk_lt tape taped) taped (next + (k : Int) + 1) := by rw [← hmid, hs]
        show next + (k : Int) < tk_to (tk_lt tape taped) taped next
        omega
      refine ev_iload de_Mo_isWord_24 rfl ?_
      refine ev_bipush de_Mo_isWord_26 rfl ?_
      refine ev_icmp_ge (tgt := 50) de_Mo_isWord_28 (by decide) (by omega) (by omega) (fun h28 => ?_) (fun h28 => ?_)
      · skip
        have ev : tk_wv tape next (k + 1) = tk_wv tape next k := if_neg (by omega)
        refine ev_iinc (l' := [_, _, _, _, _, _]) de_Mo_isWord_50 rfl rfl ?_
        refine ev_goto (tgt := 10) de_Mo_isWord_53 (by decide) ?_
        refine ev_loc (l2 := [some (ab_R 0), some (ab_J w), none, some (ab_J (tk_wv tape next (k + 1))), none, some (ab_I ((k + 1 : Nat) : Int))]) (by rw [ev]; rfl) ?_
        exact ih (k + 1) (by omega) (by omega)
      · skip
        have ev : tk_wv tape next (k + 1) = (tk_wv tape next k <<< ((Int32.ofInt 8).toInt64 &&& 63)) ||| Int64.ofInt (tape (next + (k : Int))) := if_pos (by omega)
        refine ev_lload_n de_Mo_isWord_31 rfl rfl ?_
        refine ev_bipush de_Mo_isWord_32 rfl ?_
        refine ev_lshl de_Mo_isWord_34 ?_
        refine ev_aload_n de_Mo_isWord_35 rfl rfl ?_
        refine ev_getfield de_Mo_isWord_36 rfl fl_Mo_7 rfl ?_
        refine ev_aload_n de_Mo_isWord_39 rfl rfl ?_
        refine ev_getfield de_Mo_isWord_40 rfl fl_Mo_87 rfl ?_
        refine ev_iload de_Mo_isWord_43 rfl ?_
        refine ev_iadd de_Mo_isWord_45 ?_
        refine ev_baload de_Mo_isWord_46 rfl (by omega) (by omega) (by omega) ?_
        refine ev_i2l de_Mo_isWord_47 (by omega) ?_
        refine ev_lor de_Mo_isWord_48 ?_
        refine ev_lstore_n (l' := [_, _, _, _, _, _]) de_Mo_isWord_49 rfl (Nat.le_of_ble_eq_true rfl) rfl ?_
        refine ev_iinc (l' := [_, _, _, _, _, _]) de_Mo_isWord_50 rfl rfl ?_
        refine ev_goto (tgt := 10) de_Mo_isWord_53 (by decide) ?_
        refine ev_loc (l2 := [some (ab_R 0), some (ab_J w), none, some (ab_J (tk_wv tape next (k + 1))), none, some (ab_I ((k + 1 : Nat) : Int))]) (by rw [ev]; rfl) ?_
        exact ih (k + 1) (by omega) (by omega)
set_option maxRecDepth 10000 in
theorem co_Mo_isWord (ht : tp_ok tape taped) (hn0 : 0 ≤ next) (hn1 : next ≤ taped) (w : Int64) : ab_Mt g_G g_rs mt_Mo_isWord 1 0 0 [ab_R 0, ab_J w] (mo_W tape taped rules sign leng clause clauses read next wrong number text made deep lines opn opened stack top word said xx was undone kept sumOf faced slotAt dayAt row bestRow tMany tMost drawX images imageX isMade) (ab_is (some (ab_I (tk_isI tape taped (tk_sk tape taped next) w))) (mo_W tape taped rules sign leng clause clauses read (tk_sk tape taped next) wrong number text made deep lines opn opened stack top word said xx was undone kept sumOf faced slotAt dayAt row bestRow tMany tMost drawX images imageX isMade)) := by
  refine ab_Mt.of rfl (Nat.le_of_ble_eq_true rfl) ?_
  show ab_Ev g_G g_rs mt_Mo_isWord _ _ _ 0 [some (ab_R 0), some (ab_J w), none, none, none, none] [] _ _
  have hb := tk_to_b (tk_bl tape taped) hn1
  have hb : next ≤ tk_sk tape taped next ∧ tk_sk tape taped next ≤ taped := hb
  refine ev_aload_n de_Mo_isWord_0 rfl rfl ?_
  refine ev_vv (ci := 11) de_Mo_isWord_1 (co_Mo_see ht hn0 hn1) kb_Mo_90 ⟨im_Mo_see, se_Mo_see⟩ rfl rfl rfl (Nat.le_of_ble_eq_true rfl) (by decide) rfl ?_
  refine ev_pop de_Mo_isWord_4 rfl ?_
  refine ev_lconsti (n := 0) de_Mo_isWord_5 (by decide) ?_
  refine ev_lstore_n (l' := [_, _, _, _, _, _]) de_Mo_isWord_6 rfl (Nat.le_of_ble_eq_true rfl) rfl ?_
  refine ev_iconst de_Mo_isWord_7 ?_
  refine ev_istore (l' := [_, _, _, _, _, _]) de_Mo_isWord_8 (Nat.le_of_ble_eq_true rfl) rfl ?_
  have hle := tk_to_b (tk_lt tape taped) (taped := taped) (i := tk_sk tape taped next) hb.2
  exact lo_Mo_isWord ht (by omega) hb.2 w ((tk_le tape taped (tk_sk tape taped next) - tk_sk tape taped next).toNat + 1) 0 (by show _ ≤ tk_to (tk_lt tape taped) taped (tk_sk tape taped next); omega) (by show tk_to (tk_lt tape taped) taped (tk_sk tape taped next) < _; unfold tk_le; omega)
theorem de_Mo_passWord_0 : decode prog_14_method_13_code 0 = .ok (.aload_n 0, 1) := by decide +kernel
theorem de_Mo_passWord_1 : decode prog_14_method_13_code 1 = .ok (.aload_n 0, 1) := by decide +kernel
theorem de_Mo_passWord_2 : decode prog_14_method_13_code 2 = .ok (.getfield 87, 3) := by decide +kernel
theorem de_Mo_passWord_5 : decode prog_14_method_13_code 5 = .ok (.invokevirtual 94, 3) := by decide +kernel
theorem de_Mo_passWord_8 : decode prog_14_method_13_code 8 = .ok (.ifCond .eq 16, 3) := by decide +kernel
theorem de_Mo_passWord_11 : decode prog_14_method_13_code 11 = .ok (.aload_n 0, 1) := by decide +kernel
theorem de_Mo_passWord_12 : decode prog_14_method_13_code 12 = .ok (.dup, 1) := by decide +kernel
theorem de_Mo_passWord_13 : decode prog_14_method_13_code 13 = .ok (.getfield 87, 3) := by decide +kernel
theorem de_Mo_passWord_16 : decode prog_14_method_13_code 16 = .ok (.iconst 1, 1) := by decide +kernel
theorem de_Mo_passWord_17 : decode prog_14_method_13_code 17 = .ok (.iadd, 1) := by decide +kernel
theorem de_Mo_passWord_18 : decode prog_14_method_13_code 18 = .ok (.putfield 87, 3) := by decide +kernel
theorem de_Mo_passWord_21 : decode prog_14_method_13_code 21 = .ok (.goto (-21), 3) := by decide +kernel
theorem de_Mo_passWord_24 : decode prog_14_method_13_code 24 = .ok (.return_, 1) := by decide +kernel
set_option maxRecDepth 10000 in
theorem lo_Mo_passWord (ht : tp_ok tape taped) : ∀ (n : Nat) (next : Int), 0 ≤ next → next ≤ taped → taped < next + n → ab_Ev g_G g_rs mt_Mo_passWord 1 0 0 0 [some (ab_R 0)] [] (mo_W tape taped rules sign leng clause clauses read next wrong number text made deep lines opn opened stack top word said xx was undone kept sumOf faced slotAt dayAt row bestRow tMany tMost drawX images imageX isMade) (ab_is none (mo_W tape taped rules sign leng clause clauses read (tk_le tape taped next) wrong number text made deep lines opn opened stack top word said xx was undone kept sumOf faced slotAt dayAt row bestRow tMany tMost drawX images imageX isMade)) := by
  intro n
  induction n with
  | zero =>
    intro next
    intro g0 g1 g2; omega
  | succ n ih =>
    intro next
    intro g0 g1 g2
    have ht2 := ht
    obtain ⟨p0, p1, pb⟩ := ht2
    refine ev_aload_n de_Mo_passWord_0 rfl rfl ?_
    refine ev_aload_n de_Mo_passWord_1 rfl rfl ?_
    refine ev_getfield de_Mo_passWord_2 rfl fl_Mo_87 rfl ?_
    refine ev_vv (ci := 11) de_Mo_passWord_5 (co_Mo_isLetter ht _ (by omega) (by omega)) kb_Mo_94 ⟨im_Mo_isLetter, se_Mo_isLetter⟩ rfl rfl rfl (Nat.le_of_ble_eq_true rfl) (by decide) rfl ?_
    refine ev_if_eq (tgt := 24) de_Mo_passWord_8 (by decide) (by split <;> decide) (fun h8 => ?_) (fun h8 => ?_)
    · skip
      have hl : tk_lt tape taped next = false := by cases hx : tk_lt tape taped next with | true => (rw [hx] at h8; exact absurd h8 (by decide)) | false => rfl
      have e : tk_le tape taped next = next := tk_to_e hl
      rw [e]
      exact ev_return de_Mo_passWord_24 rfl ⟨rfl, rfl⟩
    · skip
      have hl : tk_lt tape taped next = true := by cases hx : tk_lt tape taped next with | false => (rw [hx] at h8; exact absurd rfl h8) | true => rfl
      have hl2 := of_decide_eq_true hl
      refine ev_aload_n de_Mo_passWord_11 rfl rfl ?_
      refine ev_dup de_Mo_passWord_12 rfl ?_
      refine ev_getfield de_Mo_passWord_13 rfl fl_Mo_87 rfl ?_
      refine ev_iconst de_Mo_passWord_16 ?_
      refine ev_iadd de_Mo_passWord_17 ?_
      refine ev_putfield de_Mo_passWord_18 rfl (fp_Mo_87 _) (Nat.le_of_ble_eq_true rfl) trivial ?_
      refine ev_world (w' := mo_W _ _ _ _ _ _ _ _ _ _ _ _ _ _ _ _ _ _ _ _ _ _ _ _ _ _ _ _ _ _ _ _ _ _ _ _ _) rfl ?_
      refine ev_goto (tgt := 0) de_Mo_passWord_21 (by decide) ?_
      have e : tk_le tape taped next = tk_le tape taped (next + 1) := tk_to_s (by omega) hl
      rw [e]
      exact ih (next + 1) (by omega) (by omega) (by omega)
set_option maxRecDepth 10000 in
theorem co_Mo_passWord (ht : tp_ok tape taped) (hn0 : 0 ≤ next) (hn1 : next ≤ taped) : ab_Mt g_G g_rs mt_Mo_passWord 1 0 0 [ab_R 0] (mo_W tape taped rules sign leng clause clauses read next wrong number text made deep lines opn opened stack top word said xx was undone kept sumOf faced slotAt dayAt row bestRow tMany tMost drawX images imageX isMade) (ab_is none (mo_W tape taped rules sign leng clause clauses read (tk_le tape taped next) wrong number text made deep lines opn opened stack top word said xx was undone kept sumOf faced slotAt dayAt row bestRow tMany tMost drawX images imageX isMade)) := by
  refine ab_Mt.of rfl (Nat.le_of_ble_eq_true rfl) ?_
  show ab_Ev g_G g_rs mt_Mo_passWord _ _ _ 0 [some (ab_R 0)] [] _ _
  exact lo_Mo_passWord ht ((taped - next).toNat + 1) next hn0 hn1 (by omega)
theorem de_Mo_strength_0 : decode prog_14_method_20_code 0 = .ok (.iload_n 0, 1) := by decide +kernel
theorem de_Mo_strength_1 : decode prog_14_method_20_code 1 = .ok (.bipush 13, 2) := by decide +kernel
theorem de_Mo_strength_3 : decode prog_14_method_20_code 3 = .ok (.if_icmp .ne 7, 3) := by decide +kernel
theorem de_Mo_strength_6 : decode prog_14_method_20_code 6 = .ok (.iconst 1, 1) := by decide +kernel
theorem de_Mo_strength_7 : decode prog_14_method_20_code 7 = .ok (.goto 24, 3) := by decide +kernel
theorem de_Mo_strength_10 : decode prog_14_method_20_code 10 = .ok (.iload_n 0, 1) := by decide +kernel
theorem de_Mo_strength_11 : decode prog_14_method_20_code 11 = .ok (.bipush 12, 2) := by decide +kernel
theorem de_Mo_strength_13 : decode prog_14_method_20_code 13 = .ok (.if_icmp .ne 7, 3) := by decide +kernel
theorem de_Mo_strength_16 : decode prog_14_method_20_code 16 = .ok (.iconst 2, 1) := by decide +kernel
theorem de_Mo_strength_17 : decode prog_14_method_20_code 17 = .ok (.goto 14, 3) := by decide +kernel
theorem de_Mo_strength_20 : decode prog_14_method_20_code 20 = .ok (.iload_n 0, 1) := by decide +kernel
theorem de_Mo_strength_21 : decode prog_14_method_20_code 21 = .ok (.bipush 11, 2) := by decide +kernel
theorem de_Mo_strength_23 : decode prog_14_method_20_code 23 = .ok (.if_icmp .ne 7, 3) := by decide +kernel
theorem de_Mo_strength_26 : decode prog_14_method_20_code 26 = .ok (.iconst 3, 1) := by decide +kernel
theorem de_Mo_strength_27 : decode prog_14_method_20_code 27 = .ok (.goto 4, 3) := by decide +kernel
theorem de_Mo_strength_30 : decode prog_14_method_20_code 30 = .ok (.iconst 0, 1) := by decide +kernel
theorem de_Mo_strength_31 : decode prog_14_method_20_code 31 = .ok (.ireturn, 1) := by decide +kernel
set_option maxRecDepth 10000 in
theorem co_Mo_strength (w : ab_W) (s : Int) (hs : ab_in s) : ab_Mt g_G g_rs mt_Mo_strength 0 0 0 [ab_I s] w (ab_is (some (ab_I (if s = 13 then 1 else if s = 12 then 2 else if s = 11 then 3 else 0))) w) := by
  refine ab_Mt.of rfl (Nat.le_of_ble_eq_true rfl) ?_
  show ab_Ev g_G g_rs mt_Mo_strength _ _ _ 0 [some (ab_I s)] [] _ _
  refine ev_iload_n de_Mo_strength_0 rfl rfl ?_
  refine ev_bipush de_Mo_strength_1 rfl ?_
  refine ev_icmp_ne (tgt := 10) de_Mo_strength_3 (by decide) (by omega) (by omega) (fun h3 => ?_) (fun h3 => ?_)
  · skip
    refine ev_iload_n de_Mo_strength_10 rfl rfl ?_
    refine ev_bipush de_Mo_strength_11 rfl ?_
    refine ev_icmp_ne (tgt := 20) de_Mo_strength_13 (by decide) (by omega) (by omega) (fun h13 => ?_) (fun h13 => ?_)
    · skip
      refine ev_iload_n de_Mo_strength_20 rfl rfl ?_
      refine ev_bipush de_Mo_strength_21 rfl ?_
      refine ev_icmp_ne (tgt := 30) de_Mo_strength_23 (by decide) (by omega) (by omega) (fun h23 => ?_) (fun h23 => ?_)
      · skip
        refine ev_iconst de_Mo_strength_30 ?_
        exact ev_ireturn de_Mo_strength_31 rfl ⟨by first | (rw [if_pos (by omega)]; done) | (rw [if_neg (by omega), if_pos (by omega)]; done) | (rw [if_neg (by omega), if_neg (by omega), if_pos (by omega)]; done) | (rw [if_neg (by omega), if_neg (by omega), if_neg (by omega)]; done), rfl⟩
      · skip
        refine ev_iconst de_Mo_strength_26 ?_
        refine ev_goto (tgt := 31) de_Mo_strength_27 (by decide) ?_
        exact ev_ireturn de_Mo_strength_31 rfl ⟨by first | (rw [if_pos (by omega)]; done) | (rw [if_neg (by omega), if_pos (by omega)]; done) | (rw [if_neg (by omega), if_neg (by omega), if_pos (by omega)]; done) | (rw [if_neg (by omega), if_neg (by omega), if_neg (by omega)]; done), rfl⟩
    · skip
      refine ev_iconst de_Mo_strength_16 ?_
      refine ev_goto (tgt := 31) de_Mo_strength_17 (by decide) ?_
      exact ev_ireturn de_Mo_strength_31 rfl ⟨by first | (rw [if_pos (by omega)]; done) | (rw [if_neg (by omega), if_pos (by omega)]; done) | (rw [if_neg (by omega), if_neg (by omega), if_pos (by omega)]; done) | (rw [if_neg (by omega), if_neg (by omega), if_neg (by omega)]; done), rfl⟩
  · skip
    refine ev_iconst de_Mo_strength_6 ?_
    refine ev_goto (tgt := 31) de_Mo_strength_7 (by decide) ?_
    exact ev_ireturn de_Mo_strength_31 rfl ⟨by first | (rw [if_pos (by omega)]; done) | (rw [if_neg (by omega), if_pos (by omega)]; done) | (rw [if_neg (by omega), if_neg (by omega), if_pos (by omega)]; done) | (rw [if_neg (by omega), if_neg (by omega), if_neg (by omega)]; done), rfl⟩
theorem tk_isI_01 (tape : Int → Int) (taped i : Int) (w : Int64) : tk_isI tape taped i w = 0 ∨ tk_isI tape taped i w = 1 := by unfold tk_isI; split <;> simp
theorem tk_sk_b (tape : Int → Int) {taped i : Int} (h : i ≤ taped) : i ≤ tk_sk tape taped i ∧ tk_sk tape taped i ≤ taped := tk_to_b _ h
theorem tk_le_b (tape : Int → Int) {taped i : Int} (h : i ≤ taped) : i ≤ tk_le tape taped i ∧ tk_le tape taped i ≤ taped := tk_to_b _ h
theorem tk_de_b (tape : Int → Int) {taped i : Int} (h : i ≤ taped) : i ≤ tk_de tape taped i ∧ tk_de tape taped i ≤ taped := tk_to_b _ h
theorem tk_sk_sk (tape : Int → Int) (taped i : Int) (h : i ≤ taped) : tk_sk tape taped (tk_sk tape taped i) = tk_sk tape taped i := by
  have hb := tk_sk_b tape h
  obtain ⟨n, hn⟩ := Int.eq_ofNat_of_zero_le (show 0 ≤ tk_sk tape taped i - i by omega)
  have hm := tk_to_mid (p := tk_bl tape taped) (taped := taped) (i := i) n (by show i + n ≤ tk_sk tape taped i; omega) h
  rw [show i + (n : Int) = tk_sk tape taped i by omega] at hm
  exact hm
theorem de_Mo_takesWord_0 : decode prog_14_method_14_code 0 = .ok (.aload_n 0, 1) := by decide +kernel
theorem de_Mo_takesWord_1 : decode prog_14_method_14_code 1 = .ok (.lload_n 1, 1) := by decide +kernel
theorem de_Mo_takesWord_2 : decode prog_14_method_14_code 2 = .ok (.invokevirtual 98, 3) := by decide +kernel
theorem de_Mo_takesWord_5 : decode prog_14_method_14_code 5 = .ok (.ifCond .ne 5, 3) := by decide +kernel
theorem de_Mo_takesWord_8 : decode prog_14_method_14_code 8 = .ok (.iconst 0, 1) := by decide +kernel
theorem de_Mo_takesWord_9 : decode prog_14_method_14_code 9 = .ok (.ireturn, 1) := by decide +kernel
theorem de_Mo_takesWord_10 : decode prog_14_method_14_code 10 = .ok (.aload_n 0, 1) := by decide +kernel
theorem de_Mo_takesWord_11 : decode prog_14_method_14_code 11 = .ok (.invokevirtual 102, 3) := by decide +kernel
theorem de_Mo_takesWord_14 : decode prog_14_method_14_code 14 = .ok (.iconst 1, 1) := by decide +kernel
theorem de_Mo_takesWord_15 : decode prog_14_method_14_code 15 = .ok (.ireturn, 1) := by decide +kernel
set_option maxRecDepth 10000 in
theorem co_Mo_takesWord (ht : tp_ok tape taped) (hn0 : 0 ≤ next) (hn1 : next ≤ taped) (w : Int64) : ab_Mt g_G g_rs mt_Mo_takesWord 2 0 0 [ab_R 0, ab_J w] (mo_W tape taped rules sign leng clause clauses read next wrong number text made deep lines opn opened stack top word said xx was undone kept sumOf faced slotAt dayAt row bestRow tMany tMost drawX images imageX isMade) (ab_is (some (ab_I (tk_isI tape taped (tk_sk tape taped next) w))) (mo_W tape taped rules sign leng clause clauses read (if tk_isI tape taped (tk_sk tape taped next) w = 1 then tk_le tape taped (tk_sk tape taped next) else tk_sk tape taped next) wrong number text made deep lines opn opened stack top word said xx was undone kept sumOf faced slotAt dayAt row bestRow tMany tMost drawX images imageX isMade)) := by
  refine ab_Mt.of rfl (Nat.le_of_ble_eq_true rfl) ?_
  show ab_Ev g_G g_rs mt_Mo_takesWord _ _ _ 0 [some (ab_R 0), some (ab_J w), none] [] _ _
  have hb := tk_sk_b tape hn1
  have q01 := tk_isI_01 tape taped (tk_sk tape taped next) w
  refine ev_aload_n de_Mo_takesWord_0 rfl rfl ?_
  refine ev_lload_n de_Mo_takesWord_1 rfl rfl ?_
  refine ev_vv (ci := 11) de_Mo_takesWord_2 (co_Mo_isWord ht hn0 hn1 w) kb_Mo_98 ⟨im_Mo_isWord, se_Mo_isWord⟩ rfl rfl rfl (Nat.le_of_ble_eq_true rfl) (by decide) rfl ?_
  refine ev_if_ne (tgt := 10) de_Mo_takesWord_5 (by decide) (by omega) (fun h5 => ?_) (fun h5 => ?_)
  · skip
    have e1 : tk_isI tape taped (tk_sk tape taped next) w = 1 := by omega
    rw [if_pos e1, e1]
    refine ev_aload_n de_Mo_takesWord_10 rfl rfl ?_
    refine ev_vn (ci := 11) de_Mo_takesWord_11 (co_Mo_passWord ht (by omega) hb.2) kb_Mo_102 ⟨im_Mo_passWord, se_Mo_passWord⟩ rfl rfl rfl (Nat.le_of_ble_eq_true rfl) (by decide) rfl ?_
    refine ev_iconst de_Mo_takesWord_14 ?_
    exact ev_zreturn de_Mo_takesWord_15 rfl (by decide) ⟨rfl, rfl⟩
  · skip
    rw [if_neg (by omega), h5]
    refine ev_iconst de_Mo_takesWord_8 ?_
    exact ev_zreturn de_Mo_takesWord_9 rfl (by decide) ⟨rfl, rfl⟩
theorem tk_dgs {tape : Int → Int} {taped i : Int} (h : i ≤ taped) : ∀ n : Nat, i + n ≤ tk_de tape taped i → ∀ k : Nat, k < n → 48 ≤ tape (i + k) ∧ tape (i + k) ≤ 57 := by
  intro n hn k hk
  have hm := tk_to_mid (p := tk_dg tape taped) (taped := taped) (i := i) k (by show i + k ≤ tk_de tape taped i; omega) h
  cases hp : tk_dg tape taped (i + k) with
  | true => exact (of_decide_eq_true hp).2
  | false =>
    rw [tk_to_e hp] at hm
    have : tk_de tape taped i = i + k := hm.symm
    omega
def tk_nI (tape : Int → Int) (taped i lo hi : Int) : Int := if tk_dg tape taped i = true ∧ tk_de tape taped i - i ≤ 5 ∧ lo ≤ tk_num tape i (tk_de tape taped i - i).toNat ∧ tk_num tape i (tk_de tape taped i - i).toNat ≤ hi then 1 else 0
def tk_nnum (tape : Int → Int) (taped i number : Int) : Int := if tk_dg tape taped i = true then tk_num tape i (tk_de tape taped i - i).toNat else number
def tk_nw (tape : Int → Int) (taped i lo hi wrong : Int) : Int := if tk_nI tape taped i lo hi = 1 then wrong else if tk_dg tape taped i = true then tk_fl wrong 1 i else tk_fl wrong 0 i
theorem de_Mo_numberHere_0 : decode prog_14_method_15_code 0 = .ok (.aload_n 0, 1) := by decide +kernel
theorem de_Mo_numberHere_1 : decode prog_14_method_15_code 1 = .ok (.invokevirtual 90, 3) := by decide +kernel
theorem de_Mo_numberHere_4 : decode prog_14_method_15_code 4 = .ok (.pop, 1) := by decide +kernel
theorem de_Mo_numberHere_5 : decode prog_14_method_15_code 5 = .ok (.aload_n 0, 1) := by decide +kernel
theorem de_Mo_numberHere_6 : decode prog_14_method_15_code 6 = .ok (.aload_n 0, 1) := by decide +kernel
theorem de_Mo_numberHere_7 : decode prog_14_method_15_code 7 = .ok (.getfield 87, 3) := by decide +kernel
theorem de_Mo_numberHere_10 : decode prog_14_method_15_code 10 = .ok (.invokevirtual 105, 3) := by decide +kernel
theorem de_Mo_numberHere_13 : decode prog_14_method_15_code 13 = .ok (.ifCond .ne 13, 3) := by decide +kernel
theorem de_Mo_numberHere_16 : decode prog_14_method_15_code 16 = .ok (.aload_n 0, 1) := by decide +kernel
theorem de_Mo_numberHere_17 : decode prog_14_method_15_code 17 = .ok (.iconst 0, 1) := by decide +kernel
theorem de_Mo_numberHere_18 : decode prog_14_method_15_code 18 = .ok (.aload_n 0, 1) := by decide +kernel
theorem de_Mo_numberHere_19 : decode prog_14_method_15_code 19 = .ok (.getfield 87, 3) := by decide +kernel
theorem de_Mo_numberHere_22 : decode prog_14_method_15_code 22 = .ok (.invokevirtual 108, 3) := by decide +kernel
theorem de_Mo_numberHere_25 : decode prog_14_method_15_code 25 = .ok (.ireturn, 1) := by decide +kernel
theorem de_Mo_numberHere_26 : decode prog_14_method_15_code 26 = .ok (.aload_n 0, 1) := by decide +kernel
theorem de_Mo_numberHere_27 : decode prog_14_method_15_code 27 = .ok (.getfield 87, 3) := by decide +kernel
theorem de_Mo_numberHere_30 : decode prog_14_method_15_code 30 = .ok (.istore_n 3, 1) := by decide +kernel
theorem de_Mo_numberHere_31 : decode prog_14_method_15_code 31 = .ok (.iconst 0, 1) := by decide +kernel
theorem de_Mo_numberHere_32 : decode prog_14_method_15_code 32 = .ok (.istore 4, 2) := by decide +kernel
theorem de_Mo_numberHere_34 : decode prog_14_method_15_code 34 = .ok (.aload_n 0, 1) := by decide +kernel
theorem de_Mo_numberHere_35 : decode prog_14_method_15_code 35 = .ok (.aload_n 0, 1) := by decide +kernel
theorem de_Mo_numberHere_36 : decode prog_14_method_15_code 36 = .ok (.getfield 87, 3) := by decide +kernel
theorem de_Mo_numberHere_39 : decode prog_14_method_15_code 39 = .ok (.invokevirtual 105, 3) := by decide +kernel
theorem de_Mo_numberHere_42 : decode prog_14_method_15_code 42 = .ok (.ifCond .eq 46, 3) := by decide +kernel
theorem de_Mo_numberHere_45 : decode prog_14_method_15_code 45 = .ok (.aload_n 0, 1) := by decide +kernel
theorem de_Mo_numberHere_46 : decode prog_14_method_15_code 46 = .ok (.getfield 87, 3) := by decide +kernel
theorem de_Mo_numberHere_49 : decode prog_14_method_15_code 49 = .ok (.iload_n 3, 1) := by decide +kernel
theorem de_Mo_numberHere_50 : decode prog_14_method_15_code 50 = .ok (.isub, 1) := by decide +kernel
theorem de_Mo_numberHere_51 : decode prog_14_method_15_code 51 = .ok (.iconst 5, 1) := by decide +kernel
theorem de_Mo_numberHere_52 : decode prog_14_method_15_code 52 = .ok (.if_icmp .ge 23, 3) := by decide +kernel
theorem de_Mo_numberHere_55 : decode prog_14_method_15_code 55 = .ok (.bipush 10, 2) := by decide +kernel
theorem de_Mo_numberHere_57 : decode prog_14_method_15_code 57 = .ok (.iload 4, 2) := by decide +kernel
theorem de_Mo_numberHere_59 : decode prog_14_method_15_code 59 = .ok (.imul, 1) := by decide +kernel
theorem de_Mo_numberHere_60 : decode prog_14_method_15_code 60 = .ok (.aload_n 0, 1) := by decide +kernel
theorem de_Mo_numberHere_61 : decode prog_14_method_15_code 61 = .ok (.getfield 7, 3) := by decide +kernel
theorem de_Mo_numberHere_64 : decode prog_14_method_15_code 64 = .ok (.aload_n 0, 1) := by decide +kernel
theorem de_Mo_numberHere_65 : decode prog_14_method_15_code 65 = .ok (.getfield 87, 3) := by decide +kernel
theorem de_Mo_numberHere_68 : decode prog_14_method_15_code 68 = .ok (.baload, 1) := by decide +kernel
theorem de_Mo_numberHere_69 : decode prog_14_method_15_code 69 = .ok (.iadd, 1) := by decide +kernel
theorem de_Mo_numberHere_70 : decode prog_14_method_15_code 70 = .ok (.bipush 48, 2) := by decide +kernel
theorem de_Mo_numberHere_72 : decode prog_14_method_15_code 72 = .ok (.isub, 1) := by decide +kernel
theorem de_Mo_numberHere_73 : decode prog_14_method_15_code 73 = .ok (.istore 4, 2) := by decide +kernel
theorem de_Mo_numberHere_75 : decode prog_14_method_15_code 75 = .ok (.aload_n 0, 1) := by decide +kernel
theorem de_Mo_numberHere_76 : decode prog_14_method_15_code 76 = .ok (.dup, 1) := by decide +kernel
theorem de_Mo_numberHere_77 : decode prog_14_method_15_code 77 = .ok (.getfield 87, 3) := by decide +kernel
theorem de_Mo_numberHere_80 : decode prog_14_method_15_code 80 = .ok (.iconst 1, 1) := by decide +kernel
theorem de_Mo_numberHere_81 : decode prog_14_method_15_code 81 = .ok (.iadd, 1) := by decide +kernel
theorem de_Mo_numberHere_82 : decode prog_14_method_15_code 82 = .ok (.putfield 87, 3) := by decide +kernel
theorem de_Mo_numberHere_85 : decode prog_14_method_15_code 85 = .ok (.goto (-51), 3) := by decide +kernel
theorem de_Mo_numberHere_88 : decode prog_14_method_15_code 88 = .ok (.aload_n 0, 1) := by decide +kernel
theorem de_Mo_numberHere_89 : decode prog_14_method_15_code 89 = .ok (.iload 4, 2) := by decide +kernel
theorem de_Mo_numberHere_91 : decode prog_14_method_15_code 91 = .ok (.putfield 112, 3) := by decide +kernel
theorem de_Mo_numberHere_94 : decode prog_14_method_15_code 94 = .ok (.aload_n 0, 1) := by decide +kernel
theorem de_Mo_numberHere_95 : decode prog_14_method_15_code 95 = .ok (.getfield 87, 3) := by decide +kernel
theorem de_Mo_numberHere_98 : decode prog_14_method_15_code 98 = .ok (.iload_n 3, 1) := by decide +kernel
theorem de_Mo_numberHere_99 : decode prog_14_method_15_code 99 = .ok (.isub, 1) := by decide +kernel
theorem de_Mo_numberHere_100 : decode prog_14_method_15_code 100 = .ok (.iconst 5, 1) := by decide +kernel
theorem de_Mo_numberHere_101 : decode prog_14_method_15_code 101 = .ok (.if_icmp .gt 16, 3) := by decide +kernel
theorem de_Mo_numberHere_104 : decode prog_14_method_15_code 104 = .ok (.iload 4, 2) := by decide +kernel
theorem de_Mo_numberHere_106 : decode prog_14_method_15_code 106 = .ok (.i2l, 1) := by decide +kernel
theorem de_Mo_numberHere_107 : decode prog_14_method_15_code 107 = .ok (.iload_n 1, 1) := by decide +kernel
theorem de_Mo_numberHere_108 : decode prog_14_method_15_code 108 = .ok (.i2l, 1) := by decide +kernel
theorem de_Mo_numberHere_109 : decode prog_14_method_15_code 109 = .ok (.iload_n 2, 1) := by decide +kernel
theorem de_Mo_numberHere_110 : decode prog_14_method_15_code 110 = .ok (.i2l, 1) := by decide +kernel
theorem de_Mo_numberHere_111 : decode prog_14_method_15_code 111 = .ok (.invokestatic 115, 3) := by decide +kernel
theorem de_Mo_numberHere_114 : decode prog_14_method_15_code 114 = .ok (.ifCond .ne 12, 3) := by decide +kernel
theorem de_Mo_numberHere_117 : decode prog_14_method_15_code 117 = .ok (.aload_n 0, 1) := by decide +kernel
theorem de_Mo_numberHere_118 : decode prog_14_method_15_code 118 = .ok (.iconst 1, 1) := by decide +kernel
theorem de_Mo_numberHere_119 : decode prog_14_method_15_code 119 = .ok (.iload_n 3, 1) := by decide +kernel
theorem de_Mo_numberHere_120 : decode prog_14_method_15_code 120 = .ok (.invokevirtual 108, 3) := by decide +kernel
theorem de_Mo_numberHere_123 : decode prog_14_method_15_code 123 = .ok (.ifCond .eq 7, 3) := by decide +kernel
theorem de_Mo_numberHere_126 : decode prog_14_method_15_code 126 = .ok (.iconst 1, 1) := by decide +kernel
theorem de_Mo_numberHere_127 : decode prog_14_method_15_code 127 = .ok (.goto 4, 3) := by decide +kernel
theorem de_Mo_numberHere_130 : decode prog_14_method_15_code 130 = .ok (.iconst 0, 1) := by decide +kernel
theorem de_Mo_numberHere_131 : decode prog_14_method_15_code 131 = .ok (.ireturn, 1) := by decide +kernel
set_option maxRecDepth 10000 in
theorem lo_Mo_numberHere (ht : tp_ok tape taped) (lo hi at_ : Int) (hlo : ab_in lo) (hhi : ab_in hi) (ha0 : 0 ≤ at_) (ha1 : at_ ≤ taped) (hw : ab_in wrong) (hd : tk_dg tape taped at_ = true) : ∀ (n : Nat) (k : Nat), at_ + (k : Int) ≤ tk_de tape taped at_ → tk_de tape taped at_ < at_ + (k : Int) + n → ab_Ev g_G g_rs mt_Mo_numberHere 1 0 0 34 [some (ab_R 0), some (ab_I lo), some (ab_I hi), some (ab_I at_), some (ab_I (tk_num tape at_ k))] [] (mo_W tape taped rules sign leng clause clauses read (at_ + (k : Int)) wrong number text made deep lines opn opened stack top word said xx was undone kept sumOf faced slotAt dayAt row bestRow tMany tMost drawX images imageX isMade) (ab_is (some (ab_I (tk_nI tape taped at_ lo hi))) (mo_W tape taped rules sign leng clause clauses read (tk_de tape taped at_) (tk_nw tape taped at_ lo hi wrong) (tk_nnum tape taped at_ number) text made deep lines opn opened stack top word said xx was undone kept sumOf faced slotAt dayAt row bestRow tMany tMost drawX images imageX isMade)) := by
  intro n
  induction n with
  | zero =>
    intro k
    intro g0 g1; omega
  | succ n ih =>
    intro k
    intro g0 g1
    have ht2 := ht
    obtain ⟨p0, p1, pb⟩ := ht2
    have hle := tk_de_b tape ha1
    have hmid := tk_to_mid (p := tk_dg tape taped) (taped := taped) (i := at_) k g0 ha1
    have hnb := tk_num_b (taped := taped) k (tk_dgs ha1 k g0)
    refine ev_aload_n de_Mo_numberHere_34 rfl rfl ?_
    refine ev_aload_n de_Mo_numberHere_35 rfl rfl ?_
    refine ev_getfield de_Mo_numberHere_36 rfl fl_Mo_87 rfl ?_
    refine ev_vv (ci := 11) de_Mo_numberHere_39 (co_Mo_isDigit ht _ (by omega) (by omega)) kb_Mo_105 ⟨im_Mo_isDigit, se_Mo_isDigit⟩ rfl rfl rfl (Nat.le_of_ble_eq_true rfl) (by decide) rfl ?_
    refine ev_if_eq (tgt := 88) de_Mo_numberHere_42 (by decide) (by split <;> decide) (fun h42 => ?_) (fun h42 => ?_)
    · skip
      have hl : tk_dg tape taped (at_ + (k : Int)) = false := by cases hx : tk_dg tape taped (at_ + (k : Int)) with | true => (rw [hx] at h42; exact absurd h42 (by decide)) | false => rfl
      have he := tk_to_e (taped := taped) hl
      have hke : tk_de tape taped at_ = at_ + (k : Int) := by show tk_to (tk_dg tape taped) taped at_ = _; rw [← hmid, he]
      have hkn : (tk_de tape taped at_ - at_).toNat = k := by omega
      have enum : tk_nnum tape taped at_ number = tk_num tape at_ k := by unfold tk_nnum; rw [if_pos hd, hkn]
      rw [hke, enum]
      refine ev_aload_n de_Mo_numberHere_88 rfl rfl ?_
      refine ev_iload de_Mo_numberHere_89 rfl ?_
      refine ev_putfield de_Mo_numberHere_91 rfl (fp_Mo_112 _) (Nat.le_of_ble_eq_true rfl) trivial ?_
      refine ev_world (w' := mo_W _ _ _ _ _ _ _ _ _ _ _ _ _ _ _ _ _ _ _ _ _ _ _ _ _ _ _ _ _ _ _ _ _ _ _ _ _) rfl ?_
      refine ev_aload_n de_Mo_numberHere_94 rfl rfl ?_
      refine ev_getfield de_Mo_numberHere_95 rfl fl_Mo_87 rfl ?_
      refine ev_iload_n de_Mo_numberHere_98 rfl rfl ?_
      refine ev_isub de_Mo_numberHere_99 ?_
      refine ev_iconst de_Mo_numberHere_100 ?_
      refine ev_icmp_gt (tgt := 117) de_Mo_numberHere_101 (by decide) (by omega) (by omega) (fun h101 => ?_) (fun h101 => ?_)
      · skip
        have eI : tk_nI tape taped at_ lo hi = 0 := by unfold tk_nI; rw [if_neg (fun z => by have := z.2.1; omega)]
        have ew : tk_nw tape taped at_ lo hi wrong = tk_fl wrong 1 at_ := by unfold tk_nw; rw [if_neg (by omega), if_pos hd]
        rw [eI, ew]
        refine ev_aload_n de_Mo_numberHere_117 rfl rfl ?_
        refine ev_iconst de_Mo_numberHere_118 ?_
        refine ev_iload_n de_Mo_numberHere_119 rfl rfl ?_
        refine ev_vv (ci := 11) de_Mo_numberHere_120 (co_Mo_fails 1 at_ hw) kb_Mo_108 ⟨im_Mo_fails, se_Mo_fails⟩ rfl rfl rfl (Nat.le_of_ble_eq_true rfl) (by decide) rfl ?_
        refine ev_if_eq (tgt := 130) de_Mo_numberHere_123 (by decide) (by omega) (fun h123 => ?_) (fun h123 => ?_)
        · skip
          refine ev_iconst de_Mo_numberHere_130 ?_
          exact ev_zreturn de_Mo_numberHere_131 rfl (by decide) ⟨rfl, rfl⟩
        · skip
          exfalso; exact h123 rfl
      · skip
        refine ev_iload de_Mo_numberHere_104 rfl ?_
        refine ev_i2l de_Mo_numberHere_106 (by omega) ?_
        refine ev_iload_n de_Mo_numberHere_107 rfl rfl ?_
        refine ev_i2l de_Mo_numberHere_108 (by omega) ?_
        refine ev_iload_n de_Mo_numberHere_109 rfl rfl ?_
        refine ev_i2l de_Mo_numberHere_110 (by omega) ?_
        refine ev_sv de_Mo_numberHere_111 (co_Mo_in _ (tk_num tape at_ k) lo hi (by omega) hlo hhi) kb_Mo_115 sc_Mo_in rfl (Nat.le_of_ble_eq_true rfl) (by decide) rfl ?_
        refine ev_if_ne (tgt := 126) de_Mo_numberHere_114 (by decide) (by split <;> decide) (fun h114 => ?_) (fun h114 => ?_)
        · skip
          have n114 : lo ≤ tk_num tape at_ k ∧ tk_num tape at_ k ≤ hi := Decidable.byContradiction (fun z => by rw [if_neg z] at h114; omega)
          have eI : tk_nI tape taped at_ lo hi = 1 := by unfold tk_nI; rw [hkn, if_pos ⟨hd, by omega, n114.1, n114.2⟩]
          have ew : tk_nw tape taped at_ lo hi wrong = wrong := by unfold tk_nw; rw [if_pos eI]
          rw [eI, ew]
          refine ev_iconst de_Mo_numberHere_126 ?_
          refine ev_goto (tgt := 131) de_Mo_numberHere_127 (by decide) ?_
          exact ev_zreturn de_Mo_numberHere_131 rfl (by decide) ⟨rfl, rfl⟩
        · skip
          have n114 : ¬ (lo ≤ tk_num tape at_ k ∧ tk_num tape at_ k ≤ hi) := fun z => by rw [if_pos z] at h114; omega
          have eI : tk_nI tape taped at_ lo hi = 0 := by unfold tk_nI; rw [hkn, if_neg (fun z => n114 ⟨z.2.2.1, z.2.2.2⟩)]
          have ew : tk_nw tape taped at_ lo hi wrong = tk_fl wrong 1 at_ := by unfold tk_nw; rw [if_neg (by omega), if_pos hd]
          rw [eI, ew]
          refine ev_aload_n de_Mo_numberHere_117 rfl rfl ?_
          refine ev_iconst de_Mo_numberHere_118 ?_
          refine ev_iload_n de_Mo_numberHere_119 rfl rfl ?_
          refine ev_vv (ci := 11) de_Mo_numberHere_120 (co_Mo_fails 1 at_ hw) kb_Mo_108 ⟨im_Mo_fails, se_Mo_fails⟩ rfl rfl rfl (Nat.le_of_ble_eq_true rfl) (by decide) rfl ?_
          refine ev_if_eq (tgt := 130) de_Mo_numberHere_123 (by decide) (by omega) (fun h123 => ?_) (fun h123 => ?_)
          · skip
            refine ev_iconst de_Mo_numberHere_130 ?_
            exact ev_zreturn de_Mo_numberHere_131 rfl (by decide) ⟨rfl, rfl⟩
          · skip
            exfalso; exact h123 rfl
    · skip
      have hl : tk_dg tape taped (at_ + (k : Int)) = true := by cases hx : tk_dg tape taped (at_ + (k : Int)) with | false => (rw [hx] at h42; exact absurd rfl h42) | true => rfl
      have hl2 := of_decide_eq_true hl
      have hs := tk_to_s (taped := taped) (by omega) hl
      have hb2 := tk_to_b (tk_dg tape taped) (taped := taped) (i := at_ + (k : Int) + 1) (by omega)
      have hlt : at_ + (k : Int) < tk_de tape taped at_ := by
        have : tk_to (tk_dg tape taped) taped at_ = tk_to (tk_dg tape taped) taped (at_ + (k : Int) + 1) := by rw [← hmid, hs]
        show at_ + (k : Int) < tk_to (tk_dg tape taped) taped at_
        omega
      have qb := pb (at_ + (k : Int)) (by omega) (by omega)
      refine ev_aload_n de_Mo_numberHere_45 rfl rfl ?_
      refine ev_getfield de_Mo_numberHere_46 rfl fl_Mo_87 rfl ?_
      refine ev_iload_n de_Mo_numberHere_49 rfl rfl ?_
      refine ev_isub de_Mo_numberHere_50 ?_
      refine ev_iconst de_Mo_numberHere_51 ?_
      refine ev_icmp_ge (tgt := 75) de_Mo_numberHere_52 (by decide) (by omega) (by omega) (fun h52 => ?_) (fun h52 => ?_)
      · skip
        have en : tk_num tape at_ (k + 1) = tk_num tape at_ k := if_neg (by omega)
        refine ev_aload_n de_Mo_numberHere_75 rfl rfl ?_
        refine ev_dup de_Mo_numberHere_76 rfl ?_
        refine ev_getfield de_Mo_numberHere_77 rfl fl_Mo_87 rfl ?_
        refine ev_iconst de_Mo_numberHere_80 ?_
        refine ev_iadd de_Mo_numberHere_81 ?_
        refine ev_putfield de_Mo_numberHere_82 rfl (fp_Mo_87 _) (Nat.le_of_ble_eq_true rfl) trivial ?_
        refine ev_world (w' := mo_W _ _ _ _ _ _ _ _ _ _ _ _ _ _ _ _ _ _ _ _ _ _ _ _ _ _ _ _ _ _ _ _ _ _ _ _ _) rfl ?_
        refine ev_goto (tgt := 34) de_Mo_numberHere_85 (by decide) ?_
        refine ev_loc (l2 := [some (ab_R 0), some (ab_I lo), some (ab_I hi), some (ab_I at_), some (ab_I (tk_num tape at_ (k + 1)))]) (by rw [en]) ?_
        refine ev_world (w' := (mo_W tape taped rules sign leng clause clauses read (at_ + ((k + 1 : Nat) : Int)) wrong number text made deep lines opn opened stack top word said xx was undone kept sumOf faced slotAt dayAt row bestRow tMany tMost drawX images imageX isMade)) (by rw [show at_ + ((k + 1 : Nat) : Int) = at_ + (k : Int) + 1 by omega]) ?_
        exact ih (k + 1) (by omega) (by omega)
      · skip
        have en : tk_num tape at_ (k + 1) = 10 * tk_num tape at_ k + tape (at_ + (k : Int)) - 48 := if_pos (by omega)
        refine ev_bipush de_Mo_numberHere_55 rfl ?_
        refine ev_iload de_Mo_numberHere_57 rfl ?_
        refine ev_imul de_Mo_numberHere_59 ?_
        refine ev_aload_n de_Mo_numberHere_60 rfl rfl ?_
        refine ev_getfield de_Mo_numberHere_61 rfl fl_Mo_7 rfl ?_
        refine ev_aload_n de_Mo_numberHere_64 rfl rfl ?_
        refine ev_getfield de_Mo_numberHere_65 rfl fl_Mo_87 rfl ?_
        refine ev_baload de_Mo_numberHere_68 rfl (by omega) (by omega) (by omega) ?_
        refine ev_iadd de_Mo_numberHere_69 ?_
        refine ev_bipush de_Mo_numberHere_70 rfl ?_
        refine ev_isub de_Mo_numberHere_72 ?_
        refine ev_istore (l' := [_, _, _, _, _]) de_Mo_numberHere_73 (Nat.le_of_ble_eq_true rfl) rfl ?_
        refine ev_aload_n de_Mo_numberHere_75 rfl rfl ?_
        refine ev_dup de_Mo_numberHere_76 rfl ?_
        refine ev_getfield de_Mo_numberHere_77 rfl fl_Mo_87 rfl ?_
        refine ev_iconst de_Mo_numberHere_80 ?_
        refine ev_iadd de_Mo_numberHere_81 ?_
        refine ev_putfield de_Mo_numberHere_82 rfl (fp_Mo_87 _) (Nat.le_of_ble_eq_true rfl) trivial ?_
        refine ev_world (w' := mo_W _ _ _ _ _ _ _ _ _ _ _ _ _ _ _ _ _ _ _ _ _ _ _ _ _ _ _ _ _ _ _ _ _ _ _ _ _) rfl ?_
        refine ev_goto (tgt := 34) de_Mo_numberHere_85 (by decide) ?_
        refine ev_loc (l2 := [some (ab_R 0), some (ab_I lo), some (ab_I hi), some (ab_I at_), some (ab_I (tk_num tape at_ (k + 1)))]) (by rw [en]) ?_
        refine ev_world (w' := (mo_W tape taped rules sign leng clause clauses read (at_ + ((k + 1 : Nat) : Int)) wrong number text made deep lines opn opened stack top word said xx was undone kept sumOf faced slotAt dayAt row bestRow tMany tMost drawX images imageX isMade)) (by rw [show at_ + ((k + 1 : Nat) : Int) = at_ + (k : Int) + 1 by omega]) ?_
        exact ih (k + 1) (by omega) (by omega)
set_option maxRecDepth 10000 in
theorem co_Mo_numberHere (ht : tp_ok tape taped) (hn0 : 0 ≤ next) (hn1 : next ≤ taped) (lo hi : Int) (hlo : ab_in lo) (hhi : ab_in hi) (hw : ab_in wrong) : ab_Mt g_G g_rs mt_Mo_numberHere 1 0 0 [ab_R 0, ab_I lo, ab_I hi] (mo_W tape taped rules sign leng clause clauses read next wrong number text made deep lines opn opened stack top word said xx was undone kept sumOf faced slotAt dayAt row bestRow tMany tMost drawX images imageX isMade) (ab_is (some (ab_I (tk_nI tape taped (tk_sk tape taped next) lo hi))) (mo_W tape taped rules sign leng clause clauses read (if tk_dg tape taped (tk_sk tape taped next) = true then tk_de tape taped (tk_sk tape taped next) else tk_sk tape taped next) (tk_nw tape taped (tk_sk tape taped next) lo hi wrong) (tk_nnum tape taped (tk_sk tape taped next) number) text made deep lines opn opened stack top word said xx was undone kept sumOf faced slotAt dayAt row bestRow tMany tMost drawX images imageX isMade)) := by
  refine ab_Mt.of rfl (Nat.le_of_ble_eq_true rfl) ?_
  show ab_Ev g_G g_rs mt_Mo_numberHere _ _ _ 0 [some (ab_R 0), some (ab_I lo), some (ab_I hi), none, none] [] _ _
  have hb := tk_sk_b tape hn1
  have ht2 := ht
  obtain ⟨p0, p1, pb⟩ := ht2
  refine ev_aload_n de_Mo_numberHere_0 rfl rfl ?_
  refine ev_vv (ci := 11) de_Mo_numberHere_1 (co_Mo_see ht hn0 hn1) kb_Mo_90 ⟨im_Mo_see, se_Mo_see⟩ rfl rfl rfl (Nat.le_of_ble_eq_true rfl) (by decide) rfl ?_
  refine ev_pop de_Mo_numberHere_4 rfl ?_
  refine ev_aload_n de_Mo_numberHere_5 rfl rfl ?_
  refine ev_aload_n de_Mo_numberHere_6 rfl rfl ?_
  refine ev_getfield de_Mo_numberHere_7 rfl fl_Mo_87 rfl ?_
  refine ev_vv (ci := 11) de_Mo_numberHere_10 (co_Mo_isDigit ht _ (by omega) (by omega)) kb_Mo_105 ⟨im_Mo_isDigit, se_Mo_isDigit⟩ rfl rfl rfl (Nat.le_of_ble_eq_true rfl) (by decide) rfl ?_
  refine ev_if_ne (tgt := 26) de_Mo_numberHere_13 (by decide) (by split <;> decide) (fun h13 => ?_) (fun h13 => ?_)
  · skip
    have hl : tk_dg tape taped (tk_sk tape taped next) = true := by cases hx : tk_dg tape taped (tk_sk tape taped next) with | false => (rw [hx] at h13; exact absurd rfl h13) | true => rfl
    rw [if_pos hl]
    refine ev_aload_n de_Mo_numberHere_26 rfl rfl ?_
    refine ev_getfield de_Mo_numberHere_27 rfl fl_Mo_87 rfl ?_
    refine ev_istore_n (l' := [_, _, _, _, _]) de_Mo_numberHere_30 rfl (Nat.le_of_ble_eq_true rfl) rfl ?_
    refine ev_iconst de_Mo_numberHere_31 ?_
    refine ev_istore (l' := [_, _, _, _, _]) de_Mo_numberHere_32 (Nat.le_of_ble_eq_true rfl) rfl ?_
    have hle := tk_de_b tape (taped := taped) hb.2
    refine ev_world (w' := (mo_W tape taped rules sign leng clause clauses read (tk_sk tape taped next + ((0 : Nat) : Int)) wrong number text made deep lines opn opened stack top word said xx was undone kept sumOf faced slotAt dayAt row bestRow tMany tMost drawX images imageX isMade)) (by rw [show tk_sk tape taped next + ((0 : Nat) : Int) = tk_sk tape taped next by omega]) ?_
    exact lo_Mo_numberHere ht lo hi (tk_sk tape taped next) hlo hhi (by omega) hb.2 hw hl ((tk_de tape taped (tk_sk tape taped next) - (tk_sk tape taped next)).toNat + 1) 0 (by omega) (by omega)
  · skip
    have hl : tk_dg tape taped (tk_sk tape taped next) = false := by cases hx : tk_dg tape taped (tk_sk tape taped next) with | true => (rw [hx] at h13; exact absurd h13 (by decide)) | false => rfl
    have hl2 : ¬ tk_dg tape taped (tk_sk tape taped next) = true := by rw [hl]; decide
    have eI : tk_nI tape taped (tk_sk tape taped next) lo hi = 0 := by unfold tk_nI; rw [if_neg (fun z => hl2 z.1)]
    have en : tk_nnum tape taped (tk_sk tape taped next) number = number := by unfold tk_nnum; rw [if_neg hl2]
    have ew : tk_nw tape taped (tk_sk tape taped next) lo hi wrong = tk_fl wrong 0 (tk_sk tape taped next) := by unfold tk_nw; rw [if_neg (by omega), if_neg hl2]
    rw [if_neg hl2, eI, en, ew]
    refine ev_aload_n de_Mo_numberHere_16 rfl rfl ?_
    refine ev_iconst de_Mo_numberHere_17 ?_
    refine ev_aload_n de_Mo_numberHere_18 rfl rfl ?_
    refine ev_getfield de_Mo_numberHere_19 rfl fl_Mo_87 rfl ?_
    refine ev_vv (ci := 11) de_Mo_numberHere_22 (co_Mo_fails 0 _ hw) kb_Mo_108 ⟨im_Mo_fails, se_Mo_fails⟩ rfl rfl rfl (Nat.le_of_ble_eq_true rfl) (by decide) rfl ?_
    exact ev_zreturn de_Mo_numberHere_25 rfl (by decide) ⟨rfl, rfl⟩
end MO
