section MO
variable {tape : Int → Int} {taped : Int} {rules : Int} {sign : Int → Int} {leng : Int → Int} {clause : Int → Int} {clauses : Int → Int} {read : Int → Int} {next : Int} {wrong : Int} {number : Int} {text : Int} {made : Int} {deep : Int} {lines : Int} {opn : Int → Int} {opened : Int} {stack : Int → Int64} {top : Int} {word : Int → Int64} {said : Int → Int} {xx : Int} {was : Int → Int} {undone : Int} {kept : Int → Int} {sumOf : Int → Int} {faced : Int → Int} {slotAt : Int → Int} {dayAt : Int → Int} {row : Int → Int} {bestRow : Int → Int} {tMany : Int} {tMost : Int} {drawX : Int64} {images : Int → Int} {imageX : Int → Int} {isMade : Int → Int}
def sp_pb (f : Int → Int) (n : Nat) (fair : Int) : Nat → Int × Int
  | 0 => (-1, 0)
  | k + 1 => if (sp_pb f n fair k).1 < 0 ∨ (sp_pb f n fair k).2 < sp_worth f (k : Int) n fair then ((k : Int), sp_worth f (k : Int) n fair) else sp_pb f n fair k
theorem sp_worth_b {B : Int} {f : Int → Int} (hI : sg_ok B f) (hB : B ≤ 29000) (code : Int) (n : Nat) (hn : n ≤ 5) (fair : Int) : -10000 ≤ sp_worth f code n fair ∧ sp_worth f code n fair ≤ 10000 := by
  obtain ⟨-, i1, -⟩ := sg_all hI
  have hbo := fun (h : Int) (a : 0 ≤ h) (b : h < 7) => sp_so_b hI hB code n a b n (by omega)
  have q1 := sp_sum_b (g := fun h => sp_so f code n h n) (a := -225) (b := 225) (f 1).toNat (fun j a b => by have := hbo j a (by omega); omega)
  have q2 := sp_least_b (g := fun h => sp_so f code n h n) (a := -225) (b := 225) (by have := hbo 0 (by decide) (by decide); omega) (f 1).toNat (fun j a b => by have := hbo j a (by omega); omega)
  unfold sp_worth
  split <;> omega
theorem sp_pb_b {B : Int} {f : Int → Int} (h : sg_ok B f) (hB : B ≤ 29000) (n : Nat) (hn : n ≤ 5) (fair : Int) : ∀ k : Nat, -1 ≤ (sp_pb f n fair k).1 ∧ (sp_pb f n fair k).1 < (k : Int) ∧ -10000 ≤ (sp_pb f n fair k).2 ∧ (sp_pb f n fair k).2 ≤ 10000 ∧ (k ≠ 0 → 0 ≤ (sp_pb f n fair k).1)
  | 0 => by unfold sp_pb; decide
  | k + 1 => by
    have ih := sp_pb_b h hB n hn fair k
    have q := sp_worth_b h hB (k : Int) n hn fair
    unfold sp_pb
    split
    · refine ⟨?_, ?_, q.1, q.2, ?_⟩ <;> dsimp only <;> omega
    · omega
def sp_plan (f : Int → Int) (n fair w : Int) : Int := if w = 0 then (sp_pb f n.toNat fair (3 ^ n.toNat)).2 else if n < w then -2 else sp_dig (sp_pb f n.toNat fair (3 ^ n.toNat)).1 (n - 1 - (w - 1)).toNat - 1
def sp_is (f : Int → Int) (k n : Int) : Nat → Int
  | 0 => 0
  | c + 1 => if sp_fits f (c : Int) = 0 then sp_is f k n c else if sp_saw f (c : Int) (k / 5) n (k % 5) = 0 then sp_is f k n c else sp_is f k n c + 1
def sp_nt (f : Int → Int) (k n : Int) : Nat → Int
  | 0 => 0
  | c + 1 => if sp_fits f (c : Int) = 0 then sp_nt f k n c else if sp_saw f (c : Int) (k / 5) n (k % 5) = 0 then sp_nt f k n c + 1 else sp_nt f k n c
theorem sp_is_b (f : Int → Int) (k n : Int) : ∀ c : Nat, 0 ≤ sp_is f k n c ∧ sp_is f k n c ≤ (c : Int)
  | 0 => by unfold sp_is; omega
  | c + 1 => by have ih := sp_is_b f k n c; unfold sp_is; split <;> (try split) <;> omega
theorem sp_nt_b (f : Int → Int) (k n : Int) : ∀ c : Nat, 0 ≤ sp_nt f k n c ∧ sp_nt f k n c ≤ (c : Int)
  | 0 => by unfold sp_nt; omega
  | c + 1 => by have ih := sp_nt_b f k n c; unfold sp_nt; split <;> (try split) <;> omega
def sp_gr (f : Int → Int) (k n : Int) (N : Nat) : Int := if sp_nt f k n N < sp_is f k n N then sp_is f k n N else sp_nt f k n N
def sp_lk (f : Int → Int) (n : Int) (N : Nat) : Nat → Int × Int
  | 0 => (-2, -2)
  | k + 1 => if sp_gr f (k : Int) n N = 0 ∨ (0 ≤ (sp_lk f n N k).1 ∧ (sp_lk f n N k).2 ≤ sp_gr f (k : Int) n N) then sp_lk f n N k else ((k : Int), sp_gr f (k : Int) n N)
theorem sp_gr_b (f : Int → Int) (k n : Int) (N : Nat) : 0 ≤ sp_gr f k n N ∧ sp_gr f k n N ≤ (N : Int) := by
  have h1 := sp_is_b f k n N
  have h2 := sp_nt_b f k n N
  unfold sp_gr
  split <;> omega
theorem sp_lk_b (f : Int → Int) (n : Int) (N : Nat) (hN : N ≤ 84) : ∀ k : Nat, -2 ≤ (sp_lk f n N k).1 ∧ (sp_lk f n N k).1 < (k : Int) ∧ -2 ≤ (sp_lk f n N k).2 ∧ (sp_lk f n N k).2 ≤ 84
  | 0 => by unfold sp_lk; decide
  | k + 1 => by
    have ih := sp_lk_b f n N hN k
    have q := sp_gr_b f (k : Int) n N
    unfold sp_lk
    split
    · omega
    · refine ⟨?_, ?_, ?_, ?_⟩ <;> dsimp only <;> omega
def sp_look (f : Int → Int) (n w : Int) : Int := if (sp_lk f n 84 (5 * f 1).toNat).1 < 0 then -2 else if w = 0 then (sp_lk f n 84 (5 * f 1).toNat).1 / 5 else if w = 1 then (sp_lk f n 84 (5 * f 1).toNat).1 % 5 else (sp_lk f n 84 (5 * f 1).toNat).2
theorem de_Mo_plan_0 : decode prog_14_method_90_code 0 = .ok (.aload_n 0, 1) := by decide +kernel
theorem de_Mo_plan_1 : decode prog_14_method_90_code 1 = .ok (.getfield 39, 3) := by decide +kernel
theorem de_Mo_plan_4 : decode prog_14_method_90_code 4 = .ok (.iconst 1, 1) := by decide +kernel
theorem de_Mo_plan_5 : decode prog_14_method_90_code 5 = .ok (.iaload, 1) := by decide +kernel
theorem de_Mo_plan_6 : decode prog_14_method_90_code 6 = .ok (.ifCond .eq 27, 3) := by decide +kernel
theorem de_Mo_plan_9 : decode prog_14_method_90_code 9 = .ok (.iload_n 1, 1) := by decide +kernel
theorem de_Mo_plan_10 : decode prog_14_method_90_code 10 = .ok (.i2l, 1) := by decide +kernel
theorem de_Mo_plan_11 : decode prog_14_method_90_code 11 = .ok (.lconst 1, 1) := by decide +kernel
theorem de_Mo_plan_12 : decode prog_14_method_90_code 12 = .ok (.ldc2_w 406, 3) := by decide +kernel
theorem de_Mo_plan_15 : decode prog_14_method_90_code 15 = .ok (.invokestatic 115, 3) := by decide +kernel
theorem de_Mo_plan_18 : decode prog_14_method_90_code 18 = .ok (.ifCond .eq 15, 3) := by decide +kernel
theorem de_Mo_plan_21 : decode prog_14_method_90_code 21 = .ok (.iload_n 3, 1) := by decide +kernel
theorem de_Mo_plan_22 : decode prog_14_method_90_code 22 = .ok (.i2l, 1) := by decide +kernel
theorem de_Mo_plan_23 : decode prog_14_method_90_code 23 = .ok (.lconst 0, 1) := by decide +kernel
theorem de_Mo_plan_24 : decode prog_14_method_90_code 24 = .ok (.ldc2_w 406, 3) := by decide +kernel
theorem de_Mo_plan_27 : decode prog_14_method_90_code 27 = .ok (.invokestatic 115, 3) := by decide +kernel
theorem de_Mo_plan_30 : decode prog_14_method_90_code 30 = .ok (.ifCond .ne 7, 3) := by decide +kernel
theorem de_Mo_plan_33 : decode prog_14_method_90_code 33 = .ok (.ldc_w 399, 3) := by decide +kernel
theorem de_Mo_plan_36 : decode prog_14_method_90_code 36 = .ok (.ireturn, 1) := by decide +kernel
theorem de_Mo_plan_37 : decode prog_14_method_90_code 37 = .ok (.iconst (-1), 1) := by decide +kernel
theorem de_Mo_plan_38 : decode prog_14_method_90_code 38 = .ok (.istore 4, 2) := by decide +kernel
theorem de_Mo_plan_40 : decode prog_14_method_90_code 40 = .ok (.iconst 0, 1) := by decide +kernel
theorem de_Mo_plan_41 : decode prog_14_method_90_code 41 = .ok (.istore 5, 2) := by decide +kernel
theorem de_Mo_plan_43 : decode prog_14_method_90_code 43 = .ok (.iconst 0, 1) := by decide +kernel
theorem de_Mo_plan_44 : decode prog_14_method_90_code 44 = .ok (.istore 6, 2) := by decide +kernel
theorem de_Mo_plan_46 : decode prog_14_method_90_code 46 = .ok (.iload 6, 2) := by decide +kernel
theorem de_Mo_plan_48 : decode prog_14_method_90_code 48 = .ok (.iload_n 1, 1) := by decide +kernel
theorem de_Mo_plan_49 : decode prog_14_method_90_code 49 = .ok (.invokestatic 400, 3) := by decide +kernel
theorem de_Mo_plan_52 : decode prog_14_method_90_code 52 = .ok (.if_icmp .ge 42, 3) := by decide +kernel
theorem de_Mo_plan_55 : decode prog_14_method_90_code 55 = .ok (.aload_n 0, 1) := by decide +kernel
theorem de_Mo_plan_56 : decode prog_14_method_90_code 56 = .ok (.iload 6, 2) := by decide +kernel
theorem de_Mo_plan_58 : decode prog_14_method_90_code 58 = .ok (.iload_n 1, 1) := by decide +kernel
theorem de_Mo_plan_59 : decode prog_14_method_90_code 59 = .ok (.iload_n 2, 1) := by decide +kernel
theorem de_Mo_plan_60 : decode prog_14_method_90_code 60 = .ok (.invokevirtual 408, 3) := by decide +kernel
theorem de_Mo_plan_63 : decode prog_14_method_90_code 63 = .ok (.istore 7, 2) := by decide +kernel
theorem de_Mo_plan_65 : decode prog_14_method_90_code 65 = .ok (.iload 4, 2) := by decide +kernel
theorem de_Mo_plan_67 : decode prog_14_method_90_code 67 = .ok (.ifCond .lt 13, 3) := by decide +kernel
theorem de_Mo_plan_70 : decode prog_14_method_90_code 70 = .ok (.iload 7, 2) := by decide +kernel
theorem de_Mo_plan_72 : decode prog_14_method_90_code 72 = .ok (.iload 5, 2) := by decide +kernel
theorem de_Mo_plan_74 : decode prog_14_method_90_code 74 = .ok (.if_icmp .gt 6, 3) := by decide +kernel
theorem de_Mo_plan_77 : decode prog_14_method_90_code 77 = .ok (.goto 11, 3) := by decide +kernel
theorem de_Mo_plan_80 : decode prog_14_method_90_code 80 = .ok (.iload 6, 2) := by decide +kernel
theorem de_Mo_plan_82 : decode prog_14_method_90_code 82 = .ok (.istore 4, 2) := by decide +kernel
theorem de_Mo_plan_84 : decode prog_14_method_90_code 84 = .ok (.iload 7, 2) := by decide +kernel
theorem de_Mo_plan_86 : decode prog_14_method_90_code 86 = .ok (.istore 5, 2) := by decide +kernel
theorem de_Mo_plan_88 : decode prog_14_method_90_code 88 = .ok (.iinc 6 1, 3) := by decide +kernel
theorem de_Mo_plan_91 : decode prog_14_method_90_code 91 = .ok (.goto (-45), 3) := by decide +kernel
theorem de_Mo_plan_94 : decode prog_14_method_90_code 94 = .ok (.iload_n 3, 1) := by decide +kernel
theorem de_Mo_plan_95 : decode prog_14_method_90_code 95 = .ok (.ifCond .ne 8, 3) := by decide +kernel
theorem de_Mo_plan_98 : decode prog_14_method_90_code 98 = .ok (.iload 5, 2) := by decide +kernel
theorem de_Mo_plan_100 : decode prog_14_method_90_code 100 = .ok (.goto 24, 3) := by decide +kernel
theorem de_Mo_plan_103 : decode prog_14_method_90_code 103 = .ok (.iload_n 3, 1) := by decide +kernel
theorem de_Mo_plan_104 : decode prog_14_method_90_code 104 = .ok (.iload_n 1, 1) := by decide +kernel
theorem de_Mo_plan_105 : decode prog_14_method_90_code 105 = .ok (.if_icmp .le 8, 3) := by decide +kernel
theorem de_Mo_plan_108 : decode prog_14_method_90_code 108 = .ok (.bipush (-2), 2) := by decide +kernel
theorem de_Mo_plan_110 : decode prog_14_method_90_code 110 = .ok (.goto 14, 3) := by decide +kernel
theorem de_Mo_plan_113 : decode prog_14_method_90_code 113 = .ok (.iload 4, 2) := by decide +kernel
theorem de_Mo_plan_115 : decode prog_14_method_90_code 115 = .ok (.iload_n 1, 1) := by decide +kernel
theorem de_Mo_plan_116 : decode prog_14_method_90_code 116 = .ok (.iload_n 3, 1) := by decide +kernel
theorem de_Mo_plan_117 : decode prog_14_method_90_code 117 = .ok (.iconst 1, 1) := by decide +kernel
theorem de_Mo_plan_118 : decode prog_14_method_90_code 118 = .ok (.isub, 1) := by decide +kernel
theorem de_Mo_plan_119 : decode prog_14_method_90_code 119 = .ok (.invokestatic 403, 3) := by decide +kernel
theorem de_Mo_plan_122 : decode prog_14_method_90_code 122 = .ok (.iconst 1, 1) := by decide +kernel
theorem de_Mo_plan_123 : decode prog_14_method_90_code 123 = .ok (.isub, 1) := by decide +kernel
theorem de_Mo_plan_124 : decode prog_14_method_90_code 124 = .ok (.ireturn, 1) := by decide +kernel
set_option maxRecDepth 10000 in
theorem lo_Mo_plan {B : Int} (hI : sg_ok B said) (hB : B ≤ 29000) (nn : Nat) (hn0 : 1 ≤ nn) (hn : nn ≤ 5) (fr ww : Int) (hfr : ab_in fr) (hw0 : 0 ≤ ww) (hw1 : ww ≤ 5) (h11 : 1 ≤ said 1) : ∀ (n : Nat) (k : Nat) (K S : Int → Int) (l7 : Option ab_V), k ≤ 3 ^ nn → 3 ^ nn < k + n → ab_Ev g_G g_rs mt_Mo_plan 5 0 0 46 [some (ab_R 0), some (ab_I (nn : Int)), some (ab_I fr), some (ab_I ww), some (ab_I (sp_pb said nn fr k).1), some (ab_I (sp_pb said nn fr k).2), some (ab_I (k : Int)), l7] [] (mo_W tape taped rules sign leng clause clauses read next wrong number text made deep lines opn opened stack top word said xx was undone (K) (S) faced slotAt dayAt row bestRow tMany tMost drawX images imageX isMade) (fun r w2 => r = (some (ab_I (sp_plan said (nn : Int) fr ww))) ∧ ∃ K S, w2 = (mo_W tape taped rules sign leng clause clauses read next wrong number text made deep lines opn opened stack top word said xx was undone (K) (S) faced slotAt dayAt row bestRow tMany tMost drawX images imageX isMade)) := by
  intro n
  induction n with
  | zero =>
    intro k K S l7
    intro g1 g2; omega
  | succ n ih =>
    intro k K S l7
    intro g1 g2
    have hJ := hI; obtain ⟨i0, i1, i2, i3, i4, i5, i6, i7, i8, i9, i10, i11, i12, i13, i14, i15, i16, i17⟩ := sg_all hJ
    have q3 := sp_3b nn (by omega)
    have qs := sp_pb_b hI hB nn hn fr k
    have qw := sp_worth_b hI hB (k : Int) nn hn fr
    refine ev_iload de_Mo_plan_46 rfl ?_
    refine ev_iload_n de_Mo_plan_48 rfl rfl ?_
    refine ev_sv de_Mo_plan_49 (co_Mo_third _ nn (by omega)) kb_Mo_400 sc_Mo_third rfl (Nat.le_of_ble_eq_true rfl) (by decide) rfl ?_
    refine ev_icmp_ge (tgt := 94) de_Mo_plan_52 (by decide) (by omega) (by omega) (fun h52 => ?_) (fun h52 => ?_)
    · skip
      have e : k = 3 ^ nn := by omega
      subst e
      refine ev_iload_n de_Mo_plan_94 rfl rfl ?_
      refine ev_if_ne (tgt := 103) de_Mo_plan_95 (by decide) (by omega) (fun h95 => ?_) (fun h95 => ?_)
      · skip
        refine ev_iload_n de_Mo_plan_103 rfl rfl ?_
        refine ev_iload_n de_Mo_plan_104 rfl rfl ?_
        refine ev_icmp_le (tgt := 113) de_Mo_plan_105 (by decide) (by omega) (by omega) (fun h105 => ?_) (fun h105 => ?_)
        · skip
          refine ev_iload de_Mo_plan_113 rfl ?_
          refine ev_iload_n de_Mo_plan_115 rfl rfl ?_
          refine ev_iload_n de_Mo_plan_116 rfl rfl ?_
          refine ev_iconst de_Mo_plan_117 ?_
          refine ev_isub de_Mo_plan_118 ?_
          refine ev_sv de_Mo_plan_119 (co_Mo_digitOf _ _ _ _ ((nn : Int) - 1 - (ww - 1)).toNat (by omega) (by omega) (by omega) (by omega) (by omega) (by omega)) kb_Mo_403 sc_Mo_digitOf rfl (Nat.le_of_ble_eq_true rfl) (by decide) rfl ?_
          refine ev_iconst de_Mo_plan_122 ?_
          refine ev_isub de_Mo_plan_123 ?_
          exact ev_ireturn de_Mo_plan_124 rfl ⟨by unfold sp_plan; rw [show ((nn : Int)).toNat = nn from rfl]; first | (rw [if_pos (by omega)]; done) | (rw [if_neg (by omega), if_pos (by omega)]; done) | (rw [if_neg (by omega), if_neg (by omega)]; done), _, _, rfl⟩
        · skip
          refine ev_bipush de_Mo_plan_108 rfl ?_
          refine ev_goto (tgt := 124) de_Mo_plan_110 (by decide) ?_
          exact ev_ireturn de_Mo_plan_124 rfl ⟨by unfold sp_plan; rw [show ((nn : Int)).toNat = nn from rfl]; first | (rw [if_pos (by omega)]; done) | (rw [if_neg (by omega), if_pos (by omega)]; done) | (rw [if_neg (by omega), if_neg (by omega)]; done), _, _, rfl⟩
      · skip
        refine ev_iload de_Mo_plan_98 rfl ?_
        refine ev_goto (tgt := 124) de_Mo_plan_100 (by decide) ?_
        exact ev_ireturn de_Mo_plan_124 rfl ⟨by unfold sp_plan; rw [show ((nn : Int)).toNat = nn from rfl]; first | (rw [if_pos (by omega)]; done) | (rw [if_neg (by omega), if_pos (by omega)]; done) | (rw [if_neg (by omega), if_neg (by omega)]; done), _, _, rfl⟩
    · skip
      refine ev_aload_n de_Mo_plan_55 rfl rfl ?_
      refine ev_iload de_Mo_plan_56 rfl ?_
      refine ev_iload_n de_Mo_plan_58 rfl rfl ?_
      refine ev_iload_n de_Mo_plan_59 rfl rfl ?_
      refine ev_vv (ci := 11) de_Mo_plan_60 (co_Mo_worthOf hI hB (k : Int) (by omega) (by omega) nn hn fr hfr h11) kb_Mo_408 ⟨im_Mo_worthOf, se_Mo_worthOf⟩ rfl rfl rfl (Nat.le_of_ble_eq_true rfl) (by decide) rfl ?_
      refine ev_istore (l' := [_, _, _, _, _, _, _, _]) de_Mo_plan_63 (Nat.le_of_ble_eq_true rfl) rfl ?_
      refine ev_iload de_Mo_plan_65 rfl ?_
      refine ev_if_lt (tgt := 80) de_Mo_plan_67 (by decide) (by omega) (fun h67 => ?_) (fun h67 => ?_)
      · skip
        have es : sp_pb said nn fr (k + 1) = ((k : Int), sp_worth said (k : Int) nn fr) := if_pos (Or.inl (by omega))
        refine ev_iload de_Mo_plan_80 rfl ?_
        refine ev_istore (l' := [_, _, _, _, _, _, _, _]) de_Mo_plan_82 (Nat.le_of_ble_eq_true rfl) rfl ?_
        refine ev_iload de_Mo_plan_84 rfl ?_
        refine ev_istore (l' := [_, _, _, _, _, _, _, _]) de_Mo_plan_86 (Nat.le_of_ble_eq_true rfl) rfl ?_
        refine ev_iinc (l' := [_, _, _, _, _, _, _, _]) de_Mo_plan_88 rfl rfl ?_
        refine ev_goto (tgt := 46) de_Mo_plan_91 (by decide) ?_
        refine ev_loc (l2 := [some (ab_R 0), some (ab_I (nn : Int)), some (ab_I fr), some (ab_I ww), some (ab_I (sp_pb said nn fr (k + 1)).1), some (ab_I (sp_pb said nn fr (k + 1)).2), some (ab_I ((k + 1 : Nat) : Int)), _]) (by rw [es]; rfl) ?_
        exact ih (k + 1) _ _ _ (by omega) (by omega)
      · skip
        refine ev_iload de_Mo_plan_70 rfl ?_
        refine ev_iload de_Mo_plan_72 rfl ?_
        refine ev_icmp_gt (tgt := 80) de_Mo_plan_74 (by decide) (by omega) (by omega) (fun h74 => ?_) (fun h74 => ?_)
        · skip
          have es : sp_pb said nn fr (k + 1) = ((k : Int), sp_worth said (k : Int) nn fr) := if_pos (Or.inr (by omega))
          refine ev_iload de_Mo_plan_80 rfl ?_
          refine ev_istore (l' := [_, _, _, _, _, _, _, _]) de_Mo_plan_82 (Nat.le_of_ble_eq_true rfl) rfl ?_
          refine ev_iload de_Mo_plan_84 rfl ?_
          refine ev_istore (l' := [_, _, _, _, _, _, _, _]) de_Mo_plan_86 (Nat.le_of_ble_eq_true rfl) rfl ?_
          refine ev_iinc (l' := [_, _, _, _, _, _, _, _]) de_Mo_plan_88 rfl rfl ?_
          refine ev_goto (tgt := 46) de_Mo_plan_91 (by decide) ?_
          refine ev_loc (l2 := [some (ab_R 0), some (ab_I (nn : Int)), some (ab_I fr), some (ab_I ww), some (ab_I (sp_pb said nn fr (k + 1)).1), some (ab_I (sp_pb said nn fr (k + 1)).2), some (ab_I ((k + 1 : Nat) : Int)), _]) (by rw [es]; rfl) ?_
          exact ih (k + 1) _ _ _ (by omega) (by omega)
        · skip
          have es : sp_pb said nn fr (k + 1) = sp_pb said nn fr k := if_neg (by omega)
          refine ev_goto (tgt := 88) de_Mo_plan_77 (by decide) ?_
          refine ev_iinc (l' := [_, _, _, _, _, _, _, _]) de_Mo_plan_88 rfl rfl ?_
          refine ev_goto (tgt := 46) de_Mo_plan_91 (by decide) ?_
          refine ev_loc (l2 := [some (ab_R 0), some (ab_I (nn : Int)), some (ab_I fr), some (ab_I ww), some (ab_I (sp_pb said nn fr (k + 1)).1), some (ab_I (sp_pb said nn fr (k + 1)).2), some (ab_I ((k + 1 : Nat) : Int)), _]) (by rw [es]; rfl) ?_
          exact ih (k + 1) _ _ _ (by omega) (by omega)
set_option maxRecDepth 10000 in
theorem co_Mo_plan {B : Int} (hI : sg_ok B said) (hB : B ≤ 29000) (nn fr ww : Int) (hn : ab_in nn) (hfr : ab_in fr) (hw : ab_in ww) : ab_Mt g_G g_rs mt_Mo_plan 5 0 0 [ab_R 0, ab_I nn, ab_I fr, ab_I ww] (mo_W tape taped rules sign leng clause clauses read next wrong number text made deep lines opn opened stack top word said xx was undone kept sumOf faced slotAt dayAt row bestRow tMany tMost drawX images imageX isMade) (fun r w2 => r = (some (ab_I (if ¬ said 1 = 0 ∧ (1 ≤ nn ∧ nn ≤ 5) ∧ 0 ≤ ww ∧ ww ≤ 5 then sp_plan said nn fr ww else -100000))) ∧ ∃ K S, w2 = (mo_W tape taped rules sign leng clause clauses read next wrong number text made deep lines opn opened stack top word said xx was undone (K) (S) faced slotAt dayAt row bestRow tMany tMost drawX images imageX isMade)) := by
  refine ab_Mt.of rfl (Nat.le_of_ble_eq_true rfl) ?_
  show ab_Ev g_G g_rs mt_Mo_plan _ _ _ 0 [some (ab_R 0), some (ab_I nn), some (ab_I fr), some (ab_I ww), none, none, none, none] [] _ _
  have hJ := hI; obtain ⟨i0, i1, i2, i3, i4, i5, i6, i7, i8, i9, i10, i11, i12, i13, i14, i15, i16, i17⟩ := sg_all hJ
  refine ev_aload_n de_Mo_plan_0 rfl rfl ?_
  refine ev_getfield de_Mo_plan_1 rfl fl_Mo_39 rfl ?_
  refine ev_iconst de_Mo_plan_4 ?_
  refine ev_iaload de_Mo_plan_5 rfl (by omega) (by omega) (by omega) ?_
  refine ev_if_eq (tgt := 33) de_Mo_plan_6 (by decide) (by omega) (fun h6 => ?_) (fun h6 => ?_)
  · skip
    rw [if_neg (by omega)]
    refine ev_ldcw (n := -100000) de_Mo_plan_33 cn_Mo_399 rfl ?_
    exact ev_ireturn de_Mo_plan_36 rfl ⟨rfl, _, _, rfl⟩
  · skip
    refine ev_iload_n de_Mo_plan_9 rfl rfl ?_
    refine ev_i2l de_Mo_plan_10 (by omega) ?_
    refine ev_lconsti (n := 1) de_Mo_plan_11 (by decide) ?_
    refine ev_ldc2i (n := 5) de_Mo_plan_12 cn_Mo_406 (by decide) ?_
    refine ev_sv de_Mo_plan_15 (co_Mo_in _ nn (1) (5) (by omega) (by decide) (by decide)) kb_Mo_115 sc_Mo_in rfl (Nat.le_of_ble_eq_true rfl) (by decide) rfl ?_
    refine ev_if_eq (tgt := 33) de_Mo_plan_18 (by decide) (by split <;> decide) (fun h18 => ?_) (fun h18 => ?_)
    · skip
      have n18 : ¬ (1 ≤ nn ∧ nn ≤ 5) := fun z => by rw [if_pos z] at h18; omega
      rw [if_neg (by omega)]
      refine ev_ldcw (n := -100000) de_Mo_plan_33 cn_Mo_399 rfl ?_
      exact ev_ireturn de_Mo_plan_36 rfl ⟨rfl, _, _, rfl⟩
    · skip
      have n18 : 1 ≤ nn ∧ nn ≤ 5 := Decidable.byContradiction (fun z => by rw [if_neg z] at h18; omega)
      refine ev_iload_n de_Mo_plan_21 rfl rfl ?_
      refine ev_i2l de_Mo_plan_22 (by omega) ?_
      refine ev_lconsti (n := 0) de_Mo_plan_23 (by decide) ?_
      refine ev_ldc2i (n := 5) de_Mo_plan_24 cn_Mo_406 (by decide) ?_
      refine ev_sv de_Mo_plan_27 (co_Mo_in _ ww (0) (5) (by omega) (by decide) (by decide)) kb_Mo_115 sc_Mo_in rfl (Nat.le_of_ble_eq_true rfl) (by decide) rfl ?_
      refine ev_if_ne (tgt := 37) de_Mo_plan_30 (by decide) (by split <;> decide) (fun h30 => ?_) (fun h30 => ?_)
      · skip
        have n30 : 0 ≤ ww ∧ ww ≤ 5 := Decidable.byContradiction (fun z => by rw [if_neg z] at h30; omega)
        rw [if_pos (by omega)]
        obtain ⟨m, rfl⟩ := Int.eq_ofNat_of_zero_le (show 0 ≤ nn by omega)
        refine ev_iconst de_Mo_plan_37 ?_
        refine ev_istore (l' := [_, _, _, _, _, _, _, _]) de_Mo_plan_38 (Nat.le_of_ble_eq_true rfl) rfl ?_
        refine ev_iconst de_Mo_plan_40 ?_
        refine ev_istore (l' := [_, _, _, _, _, _, _, _]) de_Mo_plan_41 (Nat.le_of_ble_eq_true rfl) rfl ?_
        refine ev_iconst de_Mo_plan_43 ?_
        refine ev_istore (l' := [_, _, _, _, _, _, _, _]) de_Mo_plan_44 (Nat.le_of_ble_eq_true rfl) rfl ?_
        exact lo_Mo_plan hI hB m (by omega) (by omega) fr ww hfr (by omega) (by omega) (by omega) (3 ^ m + 1) 0 kept sumOf none (Nat.zero_le _) (by omega)
      · skip
        have n30 : ¬ (0 ≤ ww ∧ ww ≤ 5) := fun z => by rw [if_pos z] at h30; omega
        rw [if_neg (by omega)]
        refine ev_ldcw (n := -100000) de_Mo_plan_33 cn_Mo_399 rfl ?_
        exact ev_ireturn de_Mo_plan_36 rfl ⟨rfl, _, _, rfl⟩
theorem de_Mo_look_0 : decode prog_14_method_110_code 0 = .ok (.aload_n 0, 1) := by decide +kernel
theorem de_Mo_look_1 : decode prog_14_method_110_code 1 = .ok (.invokevirtual 323, 3) := by decide +kernel
theorem de_Mo_look_4 : decode prog_14_method_110_code 4 = .ok (.ifCond .eq 27, 3) := by decide +kernel
theorem de_Mo_look_7 : decode prog_14_method_110_code 7 = .ok (.iload_n 1, 1) := by decide +kernel
theorem de_Mo_look_8 : decode prog_14_method_110_code 8 = .ok (.i2l, 1) := by decide +kernel
theorem de_Mo_look_9 : decode prog_14_method_110_code 9 = .ok (.lconst 0, 1) := by decide +kernel
theorem de_Mo_look_10 : decode prog_14_method_110_code 10 = .ok (.ldc2_w 456, 3) := by decide +kernel
theorem de_Mo_look_13 : decode prog_14_method_110_code 13 = .ok (.invokestatic 115, 3) := by decide +kernel
theorem de_Mo_look_16 : decode prog_14_method_110_code 16 = .ok (.ifCond .eq 15, 3) := by decide +kernel
theorem de_Mo_look_19 : decode prog_14_method_110_code 19 = .ok (.iload_n 2, 1) := by decide +kernel
theorem de_Mo_look_20 : decode prog_14_method_110_code 20 = .ok (.i2l, 1) := by decide +kernel
theorem de_Mo_look_21 : decode prog_14_method_110_code 21 = .ok (.lconst 0, 1) := by decide +kernel
theorem de_Mo_look_22 : decode prog_14_method_110_code 22 = .ok (.ldc2_w 328, 3) := by decide +kernel
theorem de_Mo_look_25 : decode prog_14_method_110_code 25 = .ok (.invokestatic 115, 3) := by decide +kernel
theorem de_Mo_look_28 : decode prog_14_method_110_code 28 = .ok (.ifCond .ne 5, 3) := by decide +kernel
theorem de_Mo_look_31 : decode prog_14_method_110_code 31 = .ok (.iconst (-1), 1) := by decide +kernel
theorem de_Mo_look_32 : decode prog_14_method_110_code 32 = .ok (.ireturn, 1) := by decide +kernel
theorem de_Mo_look_33 : decode prog_14_method_110_code 33 = .ok (.bipush (-2), 2) := by decide +kernel
theorem de_Mo_look_35 : decode prog_14_method_110_code 35 = .ok (.istore_n 3, 1) := by decide +kernel
theorem de_Mo_look_36 : decode prog_14_method_110_code 36 = .ok (.bipush (-2), 2) := by decide +kernel
theorem de_Mo_look_38 : decode prog_14_method_110_code 38 = .ok (.istore 4, 2) := by decide +kernel
theorem de_Mo_look_40 : decode prog_14_method_110_code 40 = .ok (.iconst 0, 1) := by decide +kernel
theorem de_Mo_look_41 : decode prog_14_method_110_code 41 = .ok (.istore 5, 2) := by decide +kernel
theorem de_Mo_look_43 : decode prog_14_method_110_code 43 = .ok (.iload 5, 2) := by decide +kernel
theorem de_Mo_look_45 : decode prog_14_method_110_code 45 = .ok (.iconst 5, 1) := by decide +kernel
theorem de_Mo_look_46 : decode prog_14_method_110_code 46 = .ok (.aload_n 0, 1) := by decide +kernel
theorem de_Mo_look_47 : decode prog_14_method_110_code 47 = .ok (.getfield 39, 3) := by decide +kernel
theorem de_Mo_look_50 : decode prog_14_method_110_code 50 = .ok (.iconst 1, 1) := by decide +kernel
theorem de_Mo_look_51 : decode prog_14_method_110_code 51 = .ok (.iaload, 1) := by decide +kernel
theorem de_Mo_look_52 : decode prog_14_method_110_code 52 = .ok (.imul, 1) := by decide +kernel
theorem de_Mo_look_53 : decode prog_14_method_110_code 53 = .ok (.if_icmp .ge 112, 3) := by decide +kernel
theorem de_Mo_look_56 : decode prog_14_method_110_code 56 = .ok (.iconst 0, 1) := by decide +kernel
theorem de_Mo_look_57 : decode prog_14_method_110_code 57 = .ok (.istore 6, 2) := by decide +kernel
theorem de_Mo_look_59 : decode prog_14_method_110_code 59 = .ok (.iconst 0, 1) := by decide +kernel
theorem de_Mo_look_60 : decode prog_14_method_110_code 60 = .ok (.istore 7, 2) := by decide +kernel
theorem de_Mo_look_62 : decode prog_14_method_110_code 62 = .ok (.iconst 0, 1) := by decide +kernel
theorem de_Mo_look_63 : decode prog_14_method_110_code 63 = .ok (.istore 8, 2) := by decide +kernel
theorem de_Mo_look_65 : decode prog_14_method_110_code 65 = .ok (.iload 8, 2) := by decide +kernel
theorem de_Mo_look_67 : decode prog_14_method_110_code 67 = .ok (.bipush 84, 2) := by decide +kernel
theorem de_Mo_look_69 : decode prog_14_method_110_code 69 = .ok (.if_icmp .ge 48, 3) := by decide +kernel
theorem de_Mo_look_72 : decode prog_14_method_110_code 72 = .ok (.aload_n 0, 1) := by decide +kernel
theorem de_Mo_look_73 : decode prog_14_method_110_code 73 = .ok (.iload 8, 2) := by decide +kernel
theorem de_Mo_look_75 : decode prog_14_method_110_code 75 = .ok (.invokevirtual 462, 3) := by decide +kernel
theorem de_Mo_look_78 : decode prog_14_method_110_code 78 = .ok (.ifCond .ne 6, 3) := by decide +kernel
theorem de_Mo_look_81 : decode prog_14_method_110_code 81 = .ok (.goto 30, 3) := by decide +kernel
theorem de_Mo_look_84 : decode prog_14_method_110_code 84 = .ok (.aload_n 0, 1) := by decide +kernel
theorem de_Mo_look_85 : decode prog_14_method_110_code 85 = .ok (.iload 8, 2) := by decide +kernel
theorem de_Mo_look_87 : decode prog_14_method_110_code 87 = .ok (.iload 5, 2) := by decide +kernel
theorem de_Mo_look_89 : decode prog_14_method_110_code 89 = .ok (.iconst 5, 1) := by decide +kernel
theorem de_Mo_look_90 : decode prog_14_method_110_code 90 = .ok (.idiv, 1) := by decide +kernel
theorem de_Mo_look_91 : decode prog_14_method_110_code 91 = .ok (.iload_n 1, 1) := by decide +kernel
theorem de_Mo_look_92 : decode prog_14_method_110_code 92 = .ok (.iload 5, 2) := by decide +kernel
theorem de_Mo_look_94 : decode prog_14_method_110_code 94 = .ok (.iconst 5, 1) := by decide +kernel
theorem de_Mo_look_95 : decode prog_14_method_110_code 95 = .ok (.irem, 1) := by decide +kernel
theorem de_Mo_look_96 : decode prog_14_method_110_code 96 = .ok (.invokevirtual 458, 3) := by decide +kernel
theorem de_Mo_look_99 : decode prog_14_method_110_code 99 = .ok (.ifCond .eq 9, 3) := by decide +kernel
theorem de_Mo_look_102 : decode prog_14_method_110_code 102 = .ok (.iinc 6 1, 3) := by decide +kernel
theorem de_Mo_look_105 : decode prog_14_method_110_code 105 = .ok (.goto 6, 3) := by decide +kernel
theorem de_Mo_look_108 : decode prog_14_method_110_code 108 = .ok (.iinc 7 1, 3) := by decide +kernel
theorem de_Mo_look_111 : decode prog_14_method_110_code 111 = .ok (.iinc 8 1, 3) := by decide +kernel
theorem de_Mo_look_114 : decode prog_14_method_110_code 114 = .ok (.goto (-49), 3) := by decide +kernel
theorem de_Mo_look_117 : decode prog_14_method_110_code 117 = .ok (.iload 6, 2) := by decide +kernel
theorem de_Mo_look_119 : decode prog_14_method_110_code 119 = .ok (.iload 7, 2) := by decide +kernel
theorem de_Mo_look_121 : decode prog_14_method_110_code 121 = .ok (.if_icmp .le 8, 3) := by decide +kernel
theorem de_Mo_look_124 : decode prog_14_method_110_code 124 = .ok (.iload 6, 2) := by decide +kernel
theorem de_Mo_look_126 : decode prog_14_method_110_code 126 = .ok (.goto 5, 3) := by decide +kernel
theorem de_Mo_look_129 : decode prog_14_method_110_code 129 = .ok (.iload 7, 2) := by decide +kernel
theorem de_Mo_look_131 : decode prog_14_method_110_code 131 = .ok (.istore 8, 2) := by decide +kernel
theorem de_Mo_look_133 : decode prog_14_method_110_code 133 = .ok (.iload 8, 2) := by decide +kernel
theorem de_Mo_look_135 : decode prog_14_method_110_code 135 = .ok (.ifCond .eq 24, 3) := by decide +kernel
theorem de_Mo_look_138 : decode prog_14_method_110_code 138 = .ok (.iload_n 3, 1) := by decide +kernel
theorem de_Mo_look_139 : decode prog_14_method_110_code 139 = .ok (.ifCond .lt 13, 3) := by decide +kernel
theorem de_Mo_look_142 : decode prog_14_method_110_code 142 = .ok (.iload 8, 2) := by decide +kernel
theorem de_Mo_look_144 : decode prog_14_method_110_code 144 = .ok (.iload 4, 2) := by decide +kernel
theorem de_Mo_look_146 : decode prog_14_method_110_code 146 = .ok (.if_icmp .lt 6, 3) := by decide +kernel
theorem de_Mo_look_149 : decode prog_14_method_110_code 149 = .ok (.goto 10, 3) := by decide +kernel
theorem de_Mo_look_152 : decode prog_14_method_110_code 152 = .ok (.iload 5, 2) := by decide +kernel
theorem de_Mo_look_154 : decode prog_14_method_110_code 154 = .ok (.istore_n 3, 1) := by decide +kernel
theorem de_Mo_look_155 : decode prog_14_method_110_code 155 = .ok (.iload 8, 2) := by decide +kernel
theorem de_Mo_look_157 : decode prog_14_method_110_code 157 = .ok (.istore 4, 2) := by decide +kernel
theorem de_Mo_look_159 : decode prog_14_method_110_code 159 = .ok (.iinc 5 1, 3) := by decide +kernel
theorem de_Mo_look_162 : decode prog_14_method_110_code 162 = .ok (.goto (-119), 3) := by decide +kernel
theorem de_Mo_look_165 : decode prog_14_method_110_code 165 = .ok (.iload_n 3, 1) := by decide +kernel
theorem de_Mo_look_166 : decode prog_14_method_110_code 166 = .ok (.ifCond .ge 8, 3) := by decide +kernel
theorem de_Mo_look_169 : decode prog_14_method_110_code 169 = .ok (.bipush (-2), 2) := by decide +kernel
theorem de_Mo_look_171 : decode prog_14_method_110_code 171 = .ok (.goto 26, 3) := by decide +kernel
theorem de_Mo_look_174 : decode prog_14_method_110_code 174 = .ok (.iload_n 2, 1) := by decide +kernel
theorem de_Mo_look_175 : decode prog_14_method_110_code 175 = .ok (.ifCond .ne 9, 3) := by decide +kernel
theorem de_Mo_look_178 : decode prog_14_method_110_code 178 = .ok (.iload_n 3, 1) := by decide +kernel
theorem de_Mo_look_179 : decode prog_14_method_110_code 179 = .ok (.iconst 5, 1) := by decide +kernel
theorem de_Mo_look_180 : decode prog_14_method_110_code 180 = .ok (.idiv, 1) := by decide +kernel
theorem de_Mo_look_181 : decode prog_14_method_110_code 181 = .ok (.goto 16, 3) := by decide +kernel
theorem de_Mo_look_184 : decode prog_14_method_110_code 184 = .ok (.iload_n 2, 1) := by decide +kernel
theorem de_Mo_look_185 : decode prog_14_method_110_code 185 = .ok (.iconst 1, 1) := by decide +kernel
theorem de_Mo_look_186 : decode prog_14_method_110_code 186 = .ok (.if_icmp .ne 9, 3) := by decide +kernel
theorem de_Mo_look_189 : decode prog_14_method_110_code 189 = .ok (.iload_n 3, 1) := by decide +kernel
theorem de_Mo_look_190 : decode prog_14_method_110_code 190 = .ok (.iconst 5, 1) := by decide +kernel
theorem de_Mo_look_191 : decode prog_14_method_110_code 191 = .ok (.irem, 1) := by decide +kernel
theorem de_Mo_look_192 : decode prog_14_method_110_code 192 = .ok (.goto 5, 3) := by decide +kernel
theorem de_Mo_look_195 : decode prog_14_method_110_code 195 = .ok (.iload 4, 2) := by decide +kernel
theorem de_Mo_look_197 : decode prog_14_method_110_code 197 = .ok (.ireturn, 1) := by decide +kernel
set_option maxRecDepth 10000 in
theorem lo_Mo_look2 {B : Int} (hI : sg_ok B said) (nn ww : Int) (hn0 : 0 ≤ nn) (hn1 : nn ≤ 99) (hw : ab_in ww) (N : Nat) (hN : N = 84) (k : Nat) (hk : (k : Int) < 5 * said 1) (b0 f0 : Int) (Q : Option ab_V → ab_W → Prop) (hq : ab_Ev g_G g_rs mt_Mo_look 3 0 0 117 [some (ab_R 0), some (ab_I nn), some (ab_I ww), some (ab_I b0), some (ab_I f0), some (ab_I (k : Int)), some (ab_I (sp_is said (k : Int) nn N)), some (ab_I (sp_nt said (k : Int) nn N)), some (ab_I (N : Int))] [] (mo_W tape taped rules sign leng clause clauses read next wrong number text made deep lines opn opened stack top word said xx was undone kept sumOf faced slotAt dayAt row bestRow tMany tMost drawX images imageX isMade) Q) : ∀ (n : Nat) (c : Nat), c ≤ N → N < c + n → ab_Ev g_G g_rs mt_Mo_look 3 0 0 65 [some (ab_R 0), some (ab_I nn), some (ab_I ww), some (ab_I b0), some (ab_I f0), some (ab_I (k : Int)), some (ab_I (sp_is said (k : Int) nn c)), some (ab_I (sp_nt said (k : Int) nn c)), some (ab_I (c : Int))] [] (mo_W tape taped rules sign leng clause clauses read next wrong number text made deep lines opn opened stack top word said xx was undone kept sumOf faced slotAt dayAt row bestRow tMany tMost drawX images imageX isMade) Q := by
  intro n
  induction n with
  | zero =>
    intro c
    intro g1 g2; omega
  | succ n ih =>
    intro c
    intro g1 g2
    have hJ := hI; obtain ⟨i0, i1, i2, i3, i4, i5, i6, i7, i8, i9, i10, i11, i12, i13, i14, i15, i16, i17⟩ := sg_all hJ
    have d5 := ab_tde (k : Int) 5 (by decide)
    have m5 := ab_tme (k : Int) 5 (by decide)
    have q01 := sp_fit_01 said (c : Int) (said 190).toNat 0
    have q01 : sp_fits said (c : Int) = 0 ∨ sp_fits said (c : Int) = 1 := q01
    have qb : sp_saw said (c : Int) ((k : Int) / 5) nn ((k : Int) % 5) = 0 ∨ sp_saw said (c : Int) ((k : Int) / 5) nn ((k : Int) % 5) = 1 := bit_01 _ _
    refine ev_iload de_Mo_look_65 rfl ?_
    refine ev_bipush de_Mo_look_67 rfl ?_
    refine ev_icmp_ge (tgt := 117) de_Mo_look_69 (by decide) (by omega) (by omega) (fun h69 => ?_) (fun h69 => ?_)
    · skip
      have e : c = N := by omega
      subst e
      exact hq
    · skip
      refine ev_aload_n de_Mo_look_72 rfl rfl ?_
      refine ev_iload de_Mo_look_73 rfl ?_
      refine ev_vv (ci := 11) de_Mo_look_75 (co_Mo_fitsDiary hI _ (by omega) (by omega)) kb_Mo_462 ⟨im_Mo_fitsDiary, se_Mo_fitsDiary⟩ rfl rfl rfl (Nat.le_of_ble_eq_true rfl) (by decide) rfl ?_
      refine ev_if_ne (tgt := 84) de_Mo_look_78 (by decide) (by omega) (fun h78 => ?_) (fun h78 => ?_)
      · skip
        refine ev_aload_n de_Mo_look_84 rfl rfl ?_
        refine ev_iload de_Mo_look_85 rfl ?_
        refine ev_iload de_Mo_look_87 rfl ?_
        refine ev_iconst de_Mo_look_89 ?_
        refine ev_idiv de_Mo_look_90 (by omega) (by omega) (by omega) ?_
        refine ev_top (congrArg Sum.inl (d5.1 (by omega))) ?_
        refine ev_iload_n de_Mo_look_91 rfl rfl ?_
        refine ev_iload de_Mo_look_92 rfl ?_
        refine ev_iconst de_Mo_look_94 ?_
        refine ev_irem de_Mo_look_95 (by omega) (by omega) (by omega) ?_
        refine ev_top (congrArg Sum.inl (m5.1 (by omega))) ?_
        refine ev_vv (ci := 11) de_Mo_look_96 (co_Mo_sawBy hI _ (by omega) (by omega) _ _ _ (by omega) (by omega) (by omega) (by omega) (by omega) (by omega)) kb_Mo_458 ⟨im_Mo_sawBy, se_Mo_sawBy⟩ rfl rfl rfl (Nat.le_of_ble_eq_true rfl) (by decide) rfl ?_
        refine ev_if_eq (tgt := 108) de_Mo_look_99 (by decide) (by omega) (fun h99 => ?_) (fun h99 => ?_)
        · skip
          have ei : sp_is said (k : Int) nn (c + 1) = sp_is said (k : Int) nn c := by show (if _ then _ else _) = _; rw [if_neg h78, if_pos h99]
          have en : sp_nt said (k : Int) nn (c + 1) = sp_nt said (k : Int) nn c + 1 := by show (if _ then _ else _) = _; rw [if_neg h78, if_pos h99]
          refine ev_iinc (l' := [_, _, _, _, _, _, _, _, _]) de_Mo_look_108 rfl rfl ?_
          refine ev_iinc (l' := [_, _, _, _, _, _, _, _, _]) de_Mo_look_111 rfl rfl ?_
          refine ev_goto (tgt := 65) de_Mo_look_114 (by decide) ?_
          refine ev_loc (l2 := [some (ab_R 0), some (ab_I nn), some (ab_I ww), some (ab_I b0), some (ab_I f0), some (ab_I (k : Int)), some (ab_I (sp_is said (k : Int) nn (c + 1))), some (ab_I (sp_nt said (k : Int) nn (c + 1))), some (ab_I ((c + 1 : Nat) : Int))]) (by rw [ei, en]; rfl) ?_
          exact ih (c + 1) (by omega) (by omega)
        · skip
          have ei : sp_is said (k : Int) nn (c + 1) = sp_is said (k : Int) nn c + 1 := by show (if _ then _ else _) = _; rw [if_neg h78, if_neg h99]
          have en : sp_nt said (k : Int) nn (c + 1) = sp_nt said (k : Int) nn c := by show (if _ then _ else _) = _; rw [if_neg h78, if_neg h99]
          refine ev_iinc (l' := [_, _, _, _, _, _, _, _, _]) de_Mo_look_102 rfl rfl ?_
          refine ev_goto (tgt := 111) de_Mo_look_105 (by decide) ?_
          refine ev_iinc (l' := [_, _, _, _, _, _, _, _, _]) de_Mo_look_111 rfl rfl ?_
          refine ev_goto (tgt := 65) de_Mo_look_114 (by decide) ?_
          refine ev_loc (l2 := [some (ab_R 0), some (ab_I nn), some (ab_I ww), some (ab_I b0), some (ab_I f0), some (ab_I (k : Int)), some (ab_I (sp_is said (k : Int) nn (c + 1))), some (ab_I (sp_nt said (k : Int) nn (c + 1))), some (ab_I ((c + 1 : Nat) : Int))]) (by rw [ei, en]; rfl) ?_
          exact ih (c + 1) (by omega) (by omega)
      · skip
        have ei : sp_is said (k : Int) nn (c + 1) = sp_is said (k : Int) nn c := if_pos h78
        have en : sp_nt said (k : Int) nn (c + 1) = sp_nt said (k : Int) nn c := if_pos h78
        refine ev_goto (tgt := 111) de_Mo_look_81 (by decide) ?_
        refine ev_iinc (l' := [_, _, _, _, _, _, _, _, _]) de_Mo_look_111 rfl rfl ?_
        refine ev_goto (tgt := 65) de_Mo_look_114 (by decide) ?_
        refine ev_loc (l2 := [some (ab_R 0), some (ab_I nn), some (ab_I ww), some (ab_I b0), some (ab_I f0), some (ab_I (k : Int)), some (ab_I (sp_is said (k : Int) nn (c + 1))), some (ab_I (sp_nt said (k : Int) nn (c + 1))), some (ab_I ((c + 1 : Nat) : Int))]) (by rw [ei, en]; rfl) ?_
        exact ih (c + 1) (by omega) (by omega)
set_option maxRecDepth 10000 in
theorem lo_Mo_look {B : Int} (hI : sg_ok B said) (nn ww : Int) (hn0 : 0 ≤ nn) (hn1 : nn ≤ 99) (hw : ab_in ww) (N : Nat) (hN : N = 84) (hw0 : 0 ≤ ww) (hw1 : ww ≤ 2) : ∀ (n : Nat) (k : Nat) (l6 l7 l8 : Option ab_V) (x7 : ab_l2 (some l7) = false) (x6 : ab_l2 (some l6) = false), k ≤ (5 * said 1).toNat → (5 * said 1).toNat < k + n → ab_Ev g_G g_rs mt_Mo_look 3 0 0 43 [some (ab_R 0), some (ab_I nn), some (ab_I ww), some (ab_I (sp_lk said nn N k).1), some (ab_I (sp_lk said nn N k).2), some (ab_I (k : Int)), l6, l7, l8] [] (mo_W tape taped rules sign leng clause clauses read next wrong number text made deep lines opn opened stack top word said xx was undone kept sumOf faced slotAt dayAt row bestRow tMany tMost drawX images imageX isMade) (ab_is (some (ab_I (if (sp_lk said nn N (5 * said 1).toNat).1 < 0 then -2 else if ww = 0 then (sp_lk said nn N (5 * said 1).toNat).1 / 5 else if ww = 1 then (sp_lk said nn N (5 * said 1).toNat).1 % 5 else (sp_lk said nn N (5 * said 1).toNat).2))) (mo_W tape taped rules sign leng clause clauses read next wrong number text made deep lines opn opened stack top word said xx was undone kept sumOf faced slotAt dayAt row bestRow tMany tMost drawX images imageX isMade)) := by
  intro n
  induction n with
  | zero =>
    intro k l6 l7 l8 x7 x6
    intro g1 g2; omega
  | succ n ih =>
    intro k l6 l7 l8 x7 x6
    intro g1 g2
    have hJ := hI; obtain ⟨i0, i1, i2, i3, i4, i5, i6, i7, i8, i9, i10, i11, i12, i13, i14, i15, i16, i17⟩ := sg_all hJ
    have qs := sp_lk_b said nn N (by omega) k
    have qg := sp_gr_b said (k : Int) nn N
    have qi := sp_is_b said (k : Int) nn N
    have qn := sp_nt_b said (k : Int) nn N
    refine ev_iload de_Mo_look_43 rfl ?_
    refine ev_iconst de_Mo_look_45 ?_
    refine ev_aload_n de_Mo_look_46 rfl rfl ?_
    refine ev_getfield de_Mo_look_47 rfl fl_Mo_39 rfl ?_
    refine ev_iconst de_Mo_look_50 ?_
    refine ev_iaload de_Mo_look_51 rfl (by omega) (by omega) (by omega) ?_
    refine ev_imul de_Mo_look_52 ?_
    refine ev_icmp_ge (tgt := 165) de_Mo_look_53 (by decide) (by omega) (by omega) (fun h53 => ?_) (fun h53 => ?_)
    · skip
      have e : k = (5 * said 1).toNat := by omega
      subst e
      have d5 := ab_tde (sp_lk said nn N (5 * said 1).toNat).1 5 (by decide)
      have m5 := ab_tme (sp_lk said nn N (5 * said 1).toNat).1 5 (by decide)
      refine ev_iload_n de_Mo_look_165 rfl rfl ?_
      refine ev_if_ge (tgt := 174) de_Mo_look_166 (by decide) (by omega) (fun h166 => ?_) (fun h166 => ?_)
      · skip
        refine ev_iload_n de_Mo_look_174 rfl rfl ?_
        refine ev_if_ne (tgt := 184) de_Mo_look_175 (by decide) (by omega) (fun h175 => ?_) (fun h175 => ?_)
        · skip
          refine ev_iload_n de_Mo_look_184 rfl rfl ?_
          refine ev_iconst de_Mo_look_185 ?_
          refine ev_icmp_ne (tgt := 195) de_Mo_look_186 (by decide) (by omega) (by omega) (fun h186 => ?_) (fun h186 => ?_)
          · skip
            refine ev_iload de_Mo_look_195 rfl ?_
            exact ev_ireturn de_Mo_look_197 rfl ⟨by first | (rw [if_pos (by omega)]; done) | (rw [if_neg (by omega), if_pos (by omega), d5.1 (by omega)]; done) | (rw [if_neg (by omega), if_neg (by omega), if_pos (by omega), m5.1 (by omega)]; done) | (rw [if_neg (by omega), if_neg (by omega), if_neg (by omega)]; done), rfl⟩
          · skip
            refine ev_iload_n de_Mo_look_189 rfl rfl ?_
            refine ev_iconst de_Mo_look_190 ?_
            refine ev_irem de_Mo_look_191 (by omega) (by omega) (by omega) ?_
            refine ev_goto (tgt := 197) de_Mo_look_192 (by decide) ?_
            exact ev_ireturn de_Mo_look_197 rfl ⟨by first | (rw [if_pos (by omega)]; done) | (rw [if_neg (by omega), if_pos (by omega), d5.1 (by omega)]; done) | (rw [if_neg (by omega), if_neg (by omega), if_pos (by omega), m5.1 (by omega)]; done) | (rw [if_neg (by omega), if_neg (by omega), if_neg (by omega)]; done), rfl⟩
        · skip
          refine ev_iload_n de_Mo_look_178 rfl rfl ?_
          refine ev_iconst de_Mo_look_179 ?_
          refine ev_idiv de_Mo_look_180 (by omega) (by omega) (by omega) ?_
          refine ev_goto (tgt := 197) de_Mo_look_181 (by decide) ?_
          exact ev_ireturn de_Mo_look_197 rfl ⟨by first | (rw [if_pos (by omega)]; done) | (rw [if_neg (by omega), if_pos (by omega), d5.1 (by omega)]; done) | (rw [if_neg (by omega), if_neg (by omega), if_pos (by omega), m5.1 (by omega)]; done) | (rw [if_neg (by omega), if_neg (by omega), if_neg (by omega)]; done), rfl⟩
      · skip
        refine ev_bipush de_Mo_look_169 rfl ?_
        refine ev_goto (tgt := 197) de_Mo_look_171 (by decide) ?_
        exact ev_ireturn de_Mo_look_197 rfl ⟨by first | (rw [if_pos (by omega)]; done) | (rw [if_neg (by omega), if_pos (by omega), d5.1 (by omega)]; done) | (rw [if_neg (by omega), if_neg (by omega), if_pos (by omega), m5.1 (by omega)]; done) | (rw [if_neg (by omega), if_neg (by omega), if_neg (by omega)]; done), rfl⟩
    · skip
      refine ev_iconst de_Mo_look_56 ?_
      refine ev_istore (l' := [_, _, _, _, _, _, _, _, _]) de_Mo_look_57 (Nat.le_of_ble_eq_true rfl) rfl ?_
      refine ev_iconst de_Mo_look_59 ?_
      refine ev_istore (l' := [_, _, _, _, _, _, _, _, _]) de_Mo_look_60 (Nat.le_of_ble_eq_true rfl) rfl ?_
      refine ev_iconst de_Mo_look_62 ?_
      refine ev_istore (l' := [_, _, _, _, _, _, _, _, _]) de_Mo_look_63 (Nat.le_of_ble_eq_true rfl) rfl ?_
      refine lo_Mo_look2 hI nn ww hn0 hn1 hw N hN k (by omega) _ _ _ ?_ (N + 1) 0 (by omega) (by omega)
      refine ev_iload de_Mo_look_117 rfl ?_
      refine ev_iload de_Mo_look_119 rfl ?_
      refine ev_icmp_le (tgt := 129) de_Mo_look_121 (by decide) (by omega) (by omega) (fun h121 => ?_) (fun h121 => ?_)
      · skip
        have eg : sp_nt said (k : Int) nn N = sp_gr said (k : Int) nn N := (if_neg (by omega)).symm
        refine ev_iload de_Mo_look_129 rfl ?_
        refine ev_top (congrArg Sum.inl eg) ?_
        refine ev_istore (l' := [_, _, _, _, _, _, _, _, _]) de_Mo_look_131 (Nat.le_of_ble_eq_true rfl) rfl ?_
        refine ev_iload de_Mo_look_133 rfl ?_
        refine ev_if_eq (tgt := 159) de_Mo_look_135 (by decide) (by omega) (fun h135 => ?_) (fun h135 => ?_)
        · skip
          have es : sp_lk said nn N (k + 1) = sp_lk said nn N k := if_pos (Or.inl h135)
          refine ev_iinc (l' := [_, _, _, _, _, _, _, _, _]) de_Mo_look_159 rfl rfl ?_
          refine ev_goto (tgt := 43) de_Mo_look_162 (by decide) ?_
          refine ev_loc (l2 := [some (ab_R 0), some (ab_I nn), some (ab_I ww), some (ab_I (sp_lk said nn N (k + 1)).1), some (ab_I (sp_lk said nn N (k + 1)).2), some (ab_I ((k + 1 : Nat) : Int)), _, _, _]) (by rw [es]; rfl) ?_
          exact ih (k + 1) _ _ _ rfl rfl (by omega) (by omega)
        · skip
          refine ev_iload_n de_Mo_look_138 rfl rfl ?_
          refine ev_if_lt (tgt := 152) de_Mo_look_139 (by decide) (by omega) (fun h139 => ?_) (fun h139 => ?_)
          · skip
            have es : sp_lk said nn N (k + 1) = ((k : Int), sp_gr said (k : Int) nn N) := if_neg (by omega)
            refine ev_iload de_Mo_look_152 rfl ?_
            refine ev_istore_n (l' := [_, _, _, _, _, _, _, _, _]) de_Mo_look_154 rfl (Nat.le_of_ble_eq_true rfl) rfl ?_
            refine ev_iload de_Mo_look_155 rfl ?_
            refine ev_istore (l' := [_, _, _, _, _, _, _, _, _]) de_Mo_look_157 (Nat.le_of_ble_eq_true rfl) rfl ?_
            refine ev_iinc (l' := [_, _, _, _, _, _, _, _, _]) de_Mo_look_159 rfl rfl ?_
            refine ev_goto (tgt := 43) de_Mo_look_162 (by decide) ?_
            refine ev_loc (l2 := [some (ab_R 0), some (ab_I nn), some (ab_I ww), some (ab_I (sp_lk said nn N (k + 1)).1), some (ab_I (sp_lk said nn N (k + 1)).2), some (ab_I ((k + 1 : Nat) : Int)), _, _, _]) (by rw [es]; rfl) ?_
            exact ih (k + 1) _ _ _ rfl rfl (by omega) (by omega)
          · skip
            refine ev_iload de_Mo_look_142 rfl ?_
            refine ev_iload de_Mo_look_144 rfl ?_
            refine ev_icmp_lt (tgt := 152) de_Mo_look_146 (by decide) (by omega) (by omega) (fun h146 => ?_) (fun h146 => ?_)
            · skip
              have es : sp_lk said nn N (k + 1) = ((k : Int), sp_gr said (k : Int) nn N) := if_neg (by omega)
              refine ev_iload de_Mo_look_152 rfl ?_
              refine ev_istore_n (l' := [_, _, _, _, _, _, _, _, _]) de_Mo_look_154 rfl (Nat.le_of_ble_eq_true rfl) rfl ?_
              refine ev_iload de_Mo_look_155 rfl ?_
              refine ev_istore (l' := [_, _, _, _, _, _, _, _, _]) de_Mo_look_157 (Nat.le_of_ble_eq_true rfl) rfl ?_
              refine ev_iinc (l' := [_, _, _, _, _, _, _, _, _]) de_Mo_look_159 rfl rfl ?_
              refine ev_goto (tgt := 43) de_Mo_look_162 (by decide) ?_
              refine ev_loc (l2 := [some (ab_R 0), some (ab_I nn), some (ab_I ww), some (ab_I (sp_lk said nn N (k + 1)).1), some (ab_I (sp_lk said nn N (k + 1)).2), some (ab_I ((k + 1 : Nat) : Int)), _, _, _]) (by rw [es]; rfl) ?_
              exact ih (k + 1) _ _ _ rfl rfl (by omega) (by omega)
            · skip
              have es : sp_lk said nn N (k + 1) = sp_lk said nn N k := if_pos (Or.inr (by omega))
              refine ev_goto (tgt := 159) de_Mo_look_149 (by decide) ?_
              refine ev_iinc (l' := [_, _, _, _, _, _, _, _, _]) de_Mo_look_159 rfl rfl ?_
              refine ev_goto (tgt := 43) de_Mo_look_162 (by decide) ?_
              refine ev_loc (l2 := [some (ab_R 0), some (ab_I nn), some (ab_I ww), some (ab_I (sp_lk said nn N (k + 1)).1), some (ab_I (sp_lk said nn N (k + 1)).2), some (ab_I ((k + 1 : Nat) : Int)), _, _, _]) (by rw [es]; rfl) ?_
              exact ih (k + 1) _ _ _ rfl rfl (by omega) (by omega)
      · skip
        have eg : sp_is said (k : Int) nn N = sp_gr said (k : Int) nn N := (if_pos (by omega)).symm
        refine ev_iload de_Mo_look_124 rfl ?_
        refine ev_goto (tgt := 131) de_Mo_look_126 (by decide) ?_
        refine ev_top (congrArg Sum.inl eg) ?_
        refine ev_istore (l' := [_, _, _, _, _, _, _, _, _]) de_Mo_look_131 (Nat.le_of_ble_eq_true rfl) rfl ?_
        refine ev_iload de_Mo_look_133 rfl ?_
        refine ev_if_eq (tgt := 159) de_Mo_look_135 (by decide) (by omega) (fun h135 => ?_) (fun h135 => ?_)
        · skip
          have es : sp_lk said nn N (k + 1) = sp_lk said nn N k := if_pos (Or.inl h135)
          refine ev_iinc (l' := [_, _, _, _, _, _, _, _, _]) de_Mo_look_159 rfl rfl ?_
          refine ev_goto (tgt := 43) de_Mo_look_162 (by decide) ?_
          refine ev_loc (l2 := [some (ab_R 0), some (ab_I nn), some (ab_I ww), some (ab_I (sp_lk said nn N (k + 1)).1), some (ab_I (sp_lk said nn N (k + 1)).2), some (ab_I ((k + 1 : Nat) : Int)), _, _, _]) (by rw [es]; rfl) ?_
          exact ih (k + 1) _ _ _ rfl rfl (by omega) (by omega)
        · skip
          refine ev_iload_n de_Mo_look_138 rfl rfl ?_
          refine ev_if_lt (tgt := 152) de_Mo_look_139 (by decide) (by omega) (fun h139 => ?_) (fun h139 => ?_)
          · skip
            have es : sp_lk said nn N (k + 1) = ((k : Int), sp_gr said (k : Int) nn N) := if_neg (by omega)
            refine ev_iload de_Mo_look_152 rfl ?_
            refine ev_istore_n (l' := [_, _, _, _, _, _, _, _, _]) de_Mo_look_154 rfl (Nat.le_of_ble_eq_true rfl) rfl ?_
            refine ev_iload de_Mo_look_155 rfl ?_
            refine ev_istore (l' := [_, _, _, _, _, _, _, _, _]) de_Mo_look_157 (Nat.le_of_ble_eq_true rfl) rfl ?_
            refine ev_iinc (l' := [_, _, _, _, _, _, _, _, _]) de_Mo_look_159 rfl rfl ?_
            refine ev_goto (tgt := 43) de_Mo_look_162 (by decide) ?_
            refine ev_loc (l2 := [some (ab_R 0), some (ab_I nn), some (ab_I ww), some (ab_I (sp_lk said nn N (k + 1)).1), some (ab_I (sp_lk said nn N (k + 1)).2), some (ab_I ((k + 1 : Nat) : Int)), _, _, _]) (by rw [es]; rfl) ?_
            exact ih (k + 1) _ _ _ rfl rfl (by omega) (by omega)
          · skip
            refine ev_iload de_Mo_look_142 rfl ?_
            refine ev_iload de_Mo_look_144 rfl ?_
            refine ev_icmp_lt (tgt := 152) de_Mo_look_146 (by decide) (by omega) (by omega) (fun h146 => ?_) (fun h146 => ?_)
            · skip
              have es : sp_lk said nn N (k + 1) = ((k : Int), sp_gr said (k : Int) nn N) := if_neg (by omega)
              refine ev_iload de_Mo_look_152 rfl ?_
              refine ev_istore_n (l' := [_, _, _, _, _, _, _, _, _]) de_Mo_look_154 rfl (Nat.le_of_ble_eq_true rfl) rfl ?_
              refine ev_iload de_Mo_look_155 rfl ?_
              refine ev_istore (l' := [_, _, _, _, _, _, _, _, _]) de_Mo_look_157 (Nat.le_of_ble_eq_true rfl) rfl ?_
              refine ev_iinc (l' := [_, _, _, _, _, _, _, _, _]) de_Mo_look_159 rfl rfl ?_
              refine ev_goto (tgt := 43) de_Mo_look_162 (by decide) ?_
              refine ev_loc (l2 := [some (ab_R 0), some (ab_I nn), some (ab_I ww), some (ab_I (sp_lk said nn N (k + 1)).1), some (ab_I (sp_lk said nn N (k + 1)).2), some (ab_I ((k + 1 : Nat) : Int)), _, _, _]) (by rw [es]; rfl) ?_
              exact ih (k + 1) _ _ _ rfl rfl (by omega) (by omega)
            · skip
              have es : sp_lk said nn N (k + 1) = sp_lk said nn N k := if_pos (Or.inr (by omega))
              refine ev_goto (tgt := 159) de_Mo_look_149 (by decide) ?_
              refine ev_iinc (l' := [_, _, _, _, _, _, _, _, _]) de_Mo_look_159 rfl rfl ?_
              refine ev_goto (tgt := 43) de_Mo_look_162 (by decide) ?_
              refine ev_loc (l2 := [some (ab_R 0), some (ab_I nn), some (ab_I ww), some (ab_I (sp_lk said nn N (k + 1)).1), some (ab_I (sp_lk said nn N (k + 1)).2), some (ab_I ((k + 1 : Nat) : Int)), _, _, _]) (by rw [es]; rfl) ?_
              exact ih (k + 1) _ _ _ rfl rfl (by omega) (by omega)
set_option maxRecDepth 10000 in
theorem co_Mo_look {B : Int} (hI : sg_ok B said) (nn ww : Int) (hn : ab_in nn) (hw : ab_in ww) : ab_Mt g_G g_rs mt_Mo_look 3 0 0 [ab_R 0, ab_I nn, ab_I ww] (mo_W tape taped rules sign leng clause clauses read next wrong number text made deep lines opn opened stack top word said xx was undone kept sumOf faced slotAt dayAt row bestRow tMany tMost drawX images imageX isMade) (ab_is (some (ab_I (if said 0 = 1 ∧ (0 ≤ nn ∧ nn ≤ 99) ∧ 0 ≤ ww ∧ ww ≤ 2 then sp_look said nn ww else -1))) (mo_W tape taped rules sign leng clause clauses read next wrong number text made deep lines opn opened stack top word said xx was undone kept sumOf faced slotAt dayAt row bestRow tMany tMost drawX images imageX isMade)) := by
  refine ab_Mt.of rfl (Nat.le_of_ble_eq_true rfl) ?_
  show ab_Ev g_G g_rs mt_Mo_look _ _ _ 0 [some (ab_R 0), some (ab_I nn), some (ab_I ww), none, none, none, none, none, none] [] _ _
  have hJ := hI; obtain ⟨i0, i1, i2, i3, i4, i5, i6, i7, i8, i9, i10, i11, i12, i13, i14, i15, i16, i17⟩ := sg_all hJ
  refine ev_aload_n de_Mo_look_0 rfl rfl ?_
  refine ev_vv (ci := 11) de_Mo_look_1 (co_Mo_isRing hI) kb_Mo_323 ⟨im_Mo_isRing, se_Mo_isRing⟩ rfl rfl rfl (Nat.le_of_ble_eq_true rfl) (by decide) rfl ?_
  refine ev_if_eq (tgt := 31) de_Mo_look_4 (by decide) (by omega) (fun h4 => ?_) (fun h4 => ?_)
  · skip
    rw [if_neg (by omega)]
    refine ev_iconst de_Mo_look_31 ?_
    exact ev_ireturn de_Mo_look_32 rfl ⟨rfl, rfl⟩
  · skip
    refine ev_iload_n de_Mo_look_7 rfl rfl ?_
    refine ev_i2l de_Mo_look_8 (by omega) ?_
    refine ev_lconsti (n := 0) de_Mo_look_9 (by decide) ?_
    refine ev_ldc2i (n := 99) de_Mo_look_10 cn_Mo_456 (by decide) ?_
    refine ev_sv de_Mo_look_13 (co_Mo_in _ nn (0) (99) (by omega) (by decide) (by decide)) kb_Mo_115 sc_Mo_in rfl (Nat.le_of_ble_eq_true rfl) (by decide) rfl ?_
    refine ev_if_eq (tgt := 31) de_Mo_look_16 (by decide) (by split <;> decide) (fun h16 => ?_) (fun h16 => ?_)
    · skip
      have n16 : ¬ (0 ≤ nn ∧ nn ≤ 99) := fun z => by rw [if_pos z] at h16; omega
      rw [if_neg (by omega)]
      refine ev_iconst de_Mo_look_31 ?_
      exact ev_ireturn de_Mo_look_32 rfl ⟨rfl, rfl⟩
    · skip
      have n16 : 0 ≤ nn ∧ nn ≤ 99 := Decidable.byContradiction (fun z => by rw [if_neg z] at h16; omega)
      refine ev_iload_n de_Mo_look_19 rfl rfl ?_
      refine ev_i2l de_Mo_look_20 (by omega) ?_
      refine ev_lconsti (n := 0) de_Mo_look_21 (by decide) ?_
      refine ev_ldc2i (n := 2) de_Mo_look_22 cn_Mo_328 (by decide) ?_
      refine ev_sv de_Mo_look_25 (co_Mo_in _ ww (0) (2) (by omega) (by decide) (by decide)) kb_Mo_115 sc_Mo_in rfl (Nat.le_of_ble_eq_true rfl) (by decide) rfl ?_
      refine ev_if_ne (tgt := 33) de_Mo_look_28 (by decide) (by split <;> decide) (fun h28 => ?_) (fun h28 => ?_)
      · skip
        have n28 : 0 ≤ ww ∧ ww ≤ 2 := Decidable.byContradiction (fun z => by rw [if_neg z] at h28; omega)
        rw [if_pos (by omega)]
        unfold sp_look
        generalize hN : (84 : Nat) = N
        refine ev_bipush de_Mo_look_33 rfl ?_
        refine ev_istore_n (l' := [_, _, _, _, _, _, _, _, _]) de_Mo_look_35 rfl (Nat.le_of_ble_eq_true rfl) rfl ?_
        refine ev_bipush de_Mo_look_36 rfl ?_
        refine ev_istore (l' := [_, _, _, _, _, _, _, _, _]) de_Mo_look_38 (Nat.le_of_ble_eq_true rfl) rfl ?_
        refine ev_iconst de_Mo_look_40 ?_
        refine ev_istore (l' := [_, _, _, _, _, _, _, _, _]) de_Mo_look_41 (Nat.le_of_ble_eq_true rfl) rfl ?_
        exact lo_Mo_look hI nn ww (by omega) (by omega) hw N hN.symm (by omega) (by omega) ((5 * said 1).toNat + 1) 0 none none none rfl rfl (by omega) (by omega)
      · skip
        have n28 : ¬ (0 ≤ ww ∧ ww ≤ 2) := fun z => by rw [if_pos z] at h28; omega
        rw [if_neg (by omega)]
        refine ev_iconst de_Mo_look_31 ?_
        exact ev_ireturn de_Mo_look_32 rfl ⟨rfl, rfl⟩
end MO
