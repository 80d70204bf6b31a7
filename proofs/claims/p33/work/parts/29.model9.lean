section MO
variable {tape : Int → Int} {taped : Int} {rules : Int} {sign : Int → Int} {leng : Int → Int} {clause : Int → Int} {clauses : Int → Int} {read : Int → Int} {next : Int} {wrong : Int} {number : Int} {text : Int} {made : Int} {deep : Int} {lines : Int} {opn : Int → Int} {opened : Int} {stack : Int → Int64} {top : Int} {word : Int → Int64} {said : Int → Int} {xx : Int} {was : Int → Int} {undone : Int} {kept : Int → Int} {sumOf : Int → Int} {faced : Int → Int} {slotAt : Int → Int} {dayAt : Int → Int} {row : Int → Int} {bestRow : Int → Int} {tMany : Int} {tMost : Int} {drawX : Int64} {images : Int → Int} {imageX : Int → Int} {isMade : Int → Int}
theorem sp_cp2 (f K : Int → Int) : sp_cp f (sp_cp f K 53) 53 = sp_cp f K 53 := by
  funext j
  unfold sp_cp
  by_cases h : 0 ≤ j ∧ j < 53
  · rw [if_pos (by omega), if_pos (by omega)]
  · rw [if_neg (by omega)]
set_option maxRecDepth 10000 in
theorem co_Mo_spare {B : Int} (hI : sg_ok B said) (hB : B ≤ 29000) (nn tt ww : Int) (hn : ab_in nn) (ht : ab_in tt) (hw : ab_in ww) : ab_Mt g_G g_rs mt_Mo_spare 4 0 0 [ab_R 0, ab_I nn, ab_I tt, ab_I ww] (mo_W tape taped rules sign leng clause clauses read next wrong number text made deep lines opn opened stack top word said xx was undone kept sumOf faced slotAt dayAt row bestRow tMany tMost drawX images imageX isMade) (fun r w2 => r = (some (ab_I (if said 0 = 1 ∧ (1 ≤ nn ∧ nn ≤ 5) ∧ (0 ≤ tt ∧ tt ≤ 10) ∧ 0 ≤ ww ∧ ww ≤ 5 then sp_spare said nn tt ww else -1))) ∧ ∃ K, w2 = (mo_W tape taped rules sign leng clause clauses read next wrong number text made deep lines opn opened stack top word said xx was undone (K) sumOf faced slotAt dayAt row bestRow tMany tMost drawX images imageX isMade)) := by
  refine ab_Mt.of rfl (Nat.le_of_ble_eq_true rfl) ?_
  show ab_Ev g_G g_rs mt_Mo_spare _ _ _ 0 [some (ab_R 0), some (ab_I nn), some (ab_I tt), some (ab_I ww), none, none, none, none] [] _ _
  have hJ := hI; obtain ⟨i0, i1, i2, i3, i4, i5, i6, i7, i8, i9, i10, i11, i12, i13, i14, i15, i16, i17⟩ := sg_all hJ
  refine ev_aload_n de_Mo_spare_0 rfl rfl ?_
  refine ev_vv (ci := 11) de_Mo_spare_1 (co_Mo_isRing hI) kb_Mo_323 ⟨im_Mo_isRing, se_Mo_isRing⟩ rfl rfl rfl (Nat.le_of_ble_eq_true rfl) (by decide) rfl ?_
  refine ev_if_eq (tgt := 43) de_Mo_spare_4 (by decide) (by omega) (fun h4 => ?_) (fun h4 => ?_)
  · skip
    rw [if_neg (by omega)]
    refine ev_iconst de_Mo_spare_43 ?_
    exact ev_ireturn de_Mo_spare_44 rfl ⟨rfl, _, rfl⟩
  · skip
    refine ev_iload_n de_Mo_spare_7 rfl rfl ?_
    refine ev_i2l de_Mo_spare_8 (by omega) ?_
    refine ev_lconsti (n := 1) de_Mo_spare_9 (by decide) ?_
    refine ev_ldc2i (n := 5) de_Mo_spare_10 cn_Mo_406 (by decide) ?_
    refine ev_sv de_Mo_spare_13 (co_Mo_in _ nn (1) (5) (by omega) (by decide) (by decide)) kb_Mo_115 sc_Mo_in rfl (Nat.le_of_ble_eq_true rfl) (by decide) rfl ?_
    refine ev_if_eq (tgt := 43) de_Mo_spare_16 (by decide) (by split <;> decide) (fun h16 => ?_) (fun h16 => ?_)
    · skip
      have n16 : ¬ (1 ≤ nn ∧ nn ≤ 5) := fun z => by rw [if_pos z] at h16; omega
      rw [if_neg (by omega)]
      refine ev_iconst de_Mo_spare_43 ?_
      exact ev_ireturn de_Mo_spare_44 rfl ⟨rfl, _, rfl⟩
    · skip
      have n16 : 1 ≤ nn ∧ nn ≤ 5 := Decidable.byContradiction (fun z => by rw [if_neg z] at h16; omega)
      refine ev_iload_n de_Mo_spare_19 rfl rfl ?_
      refine ev_i2l de_Mo_spare_20 (by omega) ?_
      refine ev_lconsti (n := 0) de_Mo_spare_21 (by decide) ?_
      refine ev_ldc2i (n := 10) de_Mo_spare_22 cn_Mo_440 (by decide) ?_
      refine ev_sv de_Mo_spare_25 (co_Mo_in _ tt (0) (10) (by omega) (by decide) (by decide)) kb_Mo_115 sc_Mo_in rfl (Nat.le_of_ble_eq_true rfl) (by decide) rfl ?_
      refine ev_if_eq (tgt := 43) de_Mo_spare_28 (by decide) (by split <;> decide) (fun h28 => ?_) (fun h28 => ?_)
      · skip
        have n28 : ¬ (0 ≤ tt ∧ tt ≤ 10) := fun z => by rw [if_pos z] at h28; omega
        rw [if_neg (by omega)]
        refine ev_iconst de_Mo_spare_43 ?_
        exact ev_ireturn de_Mo_spare_44 rfl ⟨rfl, _, rfl⟩
      · skip
        have n28 : 0 ≤ tt ∧ tt ≤ 10 := Decidable.byContradiction (fun z => by rw [if_neg z] at h28; omega)
        refine ev_iload_n de_Mo_spare_31 rfl rfl ?_
        refine ev_i2l de_Mo_spare_32 (by omega) ?_
        refine ev_lconsti (n := 0) de_Mo_spare_33 (by decide) ?_
        refine ev_ldc2i (n := 5) de_Mo_spare_34 cn_Mo_406 (by decide) ?_
        refine ev_sv de_Mo_spare_37 (co_Mo_in _ ww (0) (5) (by omega) (by decide) (by decide)) kb_Mo_115 sc_Mo_in rfl (Nat.le_of_ble_eq_true rfl) (by decide) rfl ?_
        refine ev_if_ne (tgt := 45) de_Mo_spare_40 (by decide) (by split <;> decide) (fun h40 => ?_) (fun h40 => ?_)
        · skip
          have n40 : 0 ≤ ww ∧ ww ≤ 5 := Decidable.byContradiction (fun z => by rw [if_neg z] at h40; omega)
          rw [if_pos (by omega)]
          obtain ⟨m, rfl⟩ := Int.eq_ofNat_of_zero_le (show 0 ≤ nn by omega)
          refine ev_iconst de_Mo_spare_45 ?_
          refine ev_istore (l' := [_, _, _, _, _, _, _, _]) de_Mo_spare_46 (Nat.le_of_ble_eq_true rfl) rfl ?_
          refine ev_iconst de_Mo_spare_48 ?_
          refine ev_istore (l' := [_, _, _, _, _, _, _, _]) de_Mo_spare_49 (Nat.le_of_ble_eq_true rfl) rfl ?_
          refine ev_iconst de_Mo_spare_51 ?_
          refine ev_istore (l' := [_, _, _, _, _, _, _, _]) de_Mo_spare_52 (Nat.le_of_ble_eq_true rfl) rfl ?_
          exact lo_Mo_spare hI hB m (by omega) (by omega) tt ww (by omega) (by omega) (by omega) (by omega) kept (fun K => sp_cp2 _ K) (3 ^ m + 1) 0 kept none (Nat.zero_le _) (by omega) (Or.inl rfl)
        · skip
          have n40 : ¬ (0 ≤ ww ∧ ww ≤ 5) := fun z => by rw [if_pos z] at h40; omega
          rw [if_neg (by omega)]
          refine ev_iconst de_Mo_spare_43 ?_
          exact ev_ireturn de_Mo_spare_44 rfl ⟨rfl, _, rfl⟩
def sp_so (f : Int → Int) (code : Int) (n : Nat) (h : Int) : Nat → Int
  | 0 => 0
  | k + 1 => sp_so f code n h k + sp_likesOf (sp_pc f code 1 n (k + 1)) h
theorem sp_so_b {B : Int} {f : Int → Int} (hI : sg_ok B f) (hB : B ≤ 29000) (code : Int) (n : Nat) {h : Int} (hh0 : 0 ≤ h) (hh1 : h < 7) : ∀ k : Nat, k ≤ 10 → -45 * (k : Int) ≤ sp_so f code n h k ∧ sp_so f code n h k ≤ 45 * (k : Int)
  | 0, _ => by simp [sp_so]
  | k + 1, hk => by
    have ih := sp_so_b hI hB code n hh0 hh1 k (by omega)
    have q := sp_likesOf_b (sg_pc hI code 1 (by decide) (by decide) n (k + 1) (by omega)) hh0 hh1
    unfold sp_so
    omega
/-- the sums while HOUR k is added, HOUSES below j already -/
def sp_sv (f : Int → Int) (code : Int) (n : Nat) (k j : Nat) (S : Int → Int) : Int → Int := fun h => if 0 ≤ h ∧ h < f 1 then (if h < j then sp_so f code n h (k + 1) else sp_so f code n h k) else S h
def sp_s0 (f : Int → Int) (j : Nat) (S : Int → Int) : Int → Int := fun h => if 0 ≤ h ∧ h < j then 0 else S h
def sp_least (g : Int → Int) : Nat → Int
  | 0 => g 0
  | k + 1 => if g (k : Int) < sp_least g k then g (k : Int) else sp_least g k
theorem sp_least_b {g : Int → Int} {a b : Int} (h0 : a ≤ g 0 ∧ g 0 ≤ b) : ∀ k : Nat, (∀ j : Int, 0 ≤ j → j < k → a ≤ g j ∧ g j ≤ b) → a ≤ sp_least g k ∧ sp_least g k ≤ b
  | 0, _ => h0
  | k + 1, h => by
    have ih := sp_least_b h0 k (fun j a b => h j a (by omega))
    have q := h (k : Int) (by omega) (by omega)
    unfold sp_least
    split <;> omega
def sp_worth (f : Int → Int) (code : Int) (n : Nat) (fair : Int) : Int := if fair = 0 then sp_sum (fun h => sp_so f code n h n) (f 1).toNat else sp_least (fun h => sp_so f code n h n) (f 1).toNat
theorem sp_pass_k4 {B r : Int} {f : Int → Int} (h : sg_ok B f) (hr : -3 ≤ r) (hr3 : r ≤ 3) {j : Int} (hj : j < 4) : sp_passAt r f j = f j := by
  have hn : (sp_n f r).natAbs ≤ 3 := by unfold sp_n; split <;> omega
  have hm := sg_mid0 h
  have e : sp_turns (sp_by (sp_n f r)) (ab_up f 7 0) (sp_n f r).natAbs j = f j := by
    rw [sp_turns_keep hm _ hn j (by omega) (by omega), ab_upn _ _ (by omega)]
  unfold sp_passAt sp_goesOn
  split
  · rw [ab_upn _ _ (by omega)]; exact e
  · rw [ab_upn _ _ (by omega), ab_upn _ _ (by omega), ab_upn _ _ (by omega)]; exact e
theorem sp_pc_1 {B : Int} {f : Int → Int} (h : sg_ok B f) (code c : Int) (hc : 0 ≤ c) (hc1 : c ≤ 1) (n : Nat) : ∀ k : Nat, B + k ≤ 30000 → ∀ j : Int, j < 4 → sp_pc f code c n k j = f j
  | 0, _, j, hj => ab_upn _ _ (by omega)
  | k + 1, hk, j, hj => by
    have := sp_dig_b code (n - 1 - k)
    have hs := sg_pc h code c hc hc1 n k (by omega)
    show sp_passAt _ (sp_pc f code c n k) j = _
    rw [sp_pass_k4 hs (by omega) (by omega) hj]
    exact sp_pc_1 h code c hc hc1 n k (by omega) j hj
theorem sp_s0_s (f : Int → Int) (k : Nat) (S : Int → Int) : ab_up (sp_s0 f k S) (k : Int) 0 = sp_s0 f (k + 1) S := by
  funext j
  unfold ab_up sp_s0
  by_cases h : j = (k : Int)
  · rw [if_pos h, if_pos (by omega)]
  · rw [if_neg h]
    by_cases h2 : 0 ≤ j ∧ j < k
    · rw [if_pos h2, if_pos (by omega)]
    · rw [if_neg h2, if_neg (by omega)]
theorem sp_s0_0 (f S : Int → Int) : sp_s0 f 0 S = S := by
  funext j
  unfold sp_s0
  rw [if_neg (by omega)]
theorem sp_s0_v (f : Int → Int) (code : Int) (n : Nat) (S : Int → Int) (h1 : 0 ≤ f 1) : sp_s0 f (f 1).toNat S = sp_sv f code n 0 0 S := by
  funext h
  unfold sp_s0 sp_sv
  by_cases h2 : 0 ≤ h ∧ h < f 1
  · rw [if_pos (by omega), if_pos h2, if_neg (by omega)]; rfl
  · rw [if_neg (by omega), if_neg h2]
theorem sp_sv_s (f : Int → Int) (code : Int) (n k j : Nat) (S : Int → Int) (hj : (j : Int) < f 1) : ab_up (sp_sv f code n k j S) (j : Int) (sp_sv f code n k j S (j : Int) + sp_likesOf (sp_pc f code 1 n (k + 1)) (j : Int)) = sp_sv f code n k (j + 1) S := by
  funext h
  unfold ab_up
  by_cases e : h = (j : Int)
  · rw [if_pos e, e]
    unfold sp_sv
    rw [if_pos (by omega), if_neg (by omega), if_pos (by omega), if_pos (by omega)]
    rfl
  · rw [if_neg e]
    unfold sp_sv
    by_cases h2 : 0 ≤ h ∧ h < f 1
    · rw [if_pos h2, if_pos h2]
      by_cases h3 : h < (j : Int)
      · rw [if_pos h3, if_pos (by omega)]
      · rw [if_neg h3, if_neg (by omega)]
    · rw [if_neg h2, if_neg h2]
theorem sp_sv_n (f : Int → Int) (code : Int) (n k : Nat) (S : Int → Int) (h1 : 0 ≤ f 1) : sp_sv f code n k (f 1).toNat S = sp_sv f code n (k + 1) 0 S := by
  funext h
  unfold sp_sv
  by_cases h2 : 0 ≤ h ∧ h < f 1
  · rw [if_pos h2, if_pos h2, if_pos (by omega), if_neg (by omega)]
  · rw [if_neg h2, if_neg h2]
theorem sp_sv_at (f : Int → Int) (code : Int) (n k : Nat) (S : Int → Int) {h : Int} (h0 : 0 ≤ h) (h1 : h < f 1) : sp_sv f code n k 0 S h = sp_so f code n h k := by
  unfold sp_sv
  rw [if_pos ⟨h0, h1⟩, if_neg (by omega)]
theorem de_Mo_worthOf_0 : decode prog_14_method_89_code 0 = .ok (.iconst 0, 1) := by decide +kernel
theorem de_Mo_worthOf_1 : decode prog_14_method_89_code 1 = .ok (.istore 4, 2) := by decide +kernel
theorem de_Mo_worthOf_3 : decode prog_14_method_89_code 3 = .ok (.iconst 0, 1) := by decide +kernel
theorem de_Mo_worthOf_4 : decode prog_14_method_89_code 4 = .ok (.istore 5, 2) := by decide +kernel
theorem de_Mo_worthOf_6 : decode prog_14_method_89_code 6 = .ok (.iload 5, 2) := by decide +kernel
theorem de_Mo_worthOf_8 : decode prog_14_method_89_code 8 = .ok (.aload_n 0, 1) := by decide +kernel
theorem de_Mo_worthOf_9 : decode prog_14_method_89_code 9 = .ok (.getfield 39, 3) := by decide +kernel
theorem de_Mo_worthOf_12 : decode prog_14_method_89_code 12 = .ok (.iconst 1, 1) := by decide +kernel
theorem de_Mo_worthOf_13 : decode prog_14_method_89_code 13 = .ok (.iaload, 1) := by decide +kernel
theorem de_Mo_worthOf_14 : decode prog_14_method_89_code 14 = .ok (.if_icmp .ge 17, 3) := by decide +kernel
theorem de_Mo_worthOf_17 : decode prog_14_method_89_code 17 = .ok (.aload_n 0, 1) := by decide +kernel
theorem de_Mo_worthOf_18 : decode prog_14_method_89_code 18 = .ok (.getfield 48, 3) := by decide +kernel
theorem de_Mo_worthOf_21 : decode prog_14_method_89_code 21 = .ok (.iload 5, 2) := by decide +kernel
theorem de_Mo_worthOf_23 : decode prog_14_method_89_code 23 = .ok (.iconst 0, 1) := by decide +kernel
theorem de_Mo_worthOf_24 : decode prog_14_method_89_code 24 = .ok (.iastore, 1) := by decide +kernel
theorem de_Mo_worthOf_25 : decode prog_14_method_89_code 25 = .ok (.iinc 5 1, 3) := by decide +kernel
theorem de_Mo_worthOf_28 : decode prog_14_method_89_code 28 = .ok (.goto (-22), 3) := by decide +kernel
theorem de_Mo_worthOf_31 : decode prog_14_method_89_code 31 = .ok (.aload_n 0, 1) := by decide +kernel
theorem de_Mo_worthOf_32 : decode prog_14_method_89_code 32 = .ok (.invokevirtual 390, 3) := by decide +kernel
theorem de_Mo_worthOf_35 : decode prog_14_method_89_code 35 = .ok (.aload_n 0, 1) := by decide +kernel
theorem de_Mo_worthOf_36 : decode prog_14_method_89_code 36 = .ok (.getfield 39, 3) := by decide +kernel
theorem de_Mo_worthOf_39 : decode prog_14_method_89_code 39 = .ok (.bipush 7, 2) := by decide +kernel
theorem de_Mo_worthOf_41 : decode prog_14_method_89_code 41 = .ok (.iconst 0, 1) := by decide +kernel
theorem de_Mo_worthOf_42 : decode prog_14_method_89_code 42 = .ok (.iastore, 1) := by decide +kernel
theorem de_Mo_worthOf_43 : decode prog_14_method_89_code 43 = .ok (.iconst 0, 1) := by decide +kernel
theorem de_Mo_worthOf_44 : decode prog_14_method_89_code 44 = .ok (.istore 5, 2) := by decide +kernel
theorem de_Mo_worthOf_46 : decode prog_14_method_89_code 46 = .ok (.iload 5, 2) := by decide +kernel
theorem de_Mo_worthOf_48 : decode prog_14_method_89_code 48 = .ok (.iload_n 2, 1) := by decide +kernel
theorem de_Mo_worthOf_49 : decode prog_14_method_89_code 49 = .ok (.if_icmp .ge 59, 3) := by decide +kernel
theorem de_Mo_worthOf_52 : decode prog_14_method_89_code 52 = .ok (.aload_n 0, 1) := by decide +kernel
theorem de_Mo_worthOf_53 : decode prog_14_method_89_code 53 = .ok (.iload_n 1, 1) := by decide +kernel
theorem de_Mo_worthOf_54 : decode prog_14_method_89_code 54 = .ok (.iload_n 2, 1) := by decide +kernel
theorem de_Mo_worthOf_55 : decode prog_14_method_89_code 55 = .ok (.iload 5, 2) := by decide +kernel
theorem de_Mo_worthOf_57 : decode prog_14_method_89_code 57 = .ok (.invokestatic 403, 3) := by decide +kernel
theorem de_Mo_worthOf_60 : decode prog_14_method_89_code 60 = .ok (.iconst 1, 1) := by decide +kernel
theorem de_Mo_worthOf_61 : decode prog_14_method_89_code 61 = .ok (.isub, 1) := by decide +kernel
theorem de_Mo_worthOf_62 : decode prog_14_method_89_code 62 = .ok (.invokevirtual 338, 3) := by decide +kernel
theorem de_Mo_worthOf_65 : decode prog_14_method_89_code 65 = .ok (.pop, 1) := by decide +kernel
theorem de_Mo_worthOf_66 : decode prog_14_method_89_code 66 = .ok (.iconst 0, 1) := by decide +kernel
theorem de_Mo_worthOf_67 : decode prog_14_method_89_code 67 = .ok (.istore 6, 2) := by decide +kernel
theorem de_Mo_worthOf_69 : decode prog_14_method_89_code 69 = .ok (.iload 6, 2) := by decide +kernel
theorem de_Mo_worthOf_71 : decode prog_14_method_89_code 71 = .ok (.aload_n 0, 1) := by decide +kernel
theorem de_Mo_worthOf_72 : decode prog_14_method_89_code 72 = .ok (.getfield 39, 3) := by decide +kernel
theorem de_Mo_worthOf_75 : decode prog_14_method_89_code 75 = .ok (.iconst 1, 1) := by decide +kernel
theorem de_Mo_worthOf_76 : decode prog_14_method_89_code 76 = .ok (.iaload, 1) := by decide +kernel
theorem de_Mo_worthOf_77 : decode prog_14_method_89_code 77 = .ok (.if_icmp .ge 25, 3) := by decide +kernel
theorem de_Mo_worthOf_80 : decode prog_14_method_89_code 80 = .ok (.aload_n 0, 1) := by decide +kernel
theorem de_Mo_worthOf_81 : decode prog_14_method_89_code 81 = .ok (.getfield 48, 3) := by decide +kernel
theorem de_Mo_worthOf_84 : decode prog_14_method_89_code 84 = .ok (.iload 6, 2) := by decide +kernel
theorem de_Mo_worthOf_86 : decode prog_14_method_89_code 86 = .ok (.dup2, 1) := by decide +kernel
theorem de_Mo_worthOf_87 : decode prog_14_method_89_code 87 = .ok (.iaload, 1) := by decide +kernel
theorem de_Mo_worthOf_88 : decode prog_14_method_89_code 88 = .ok (.aload_n 0, 1) := by decide +kernel
theorem de_Mo_worthOf_89 : decode prog_14_method_89_code 89 = .ok (.iload 6, 2) := by decide +kernel
theorem de_Mo_worthOf_91 : decode prog_14_method_89_code 91 = .ok (.invokevirtual 307, 3) := by decide +kernel
theorem de_Mo_worthOf_94 : decode prog_14_method_89_code 94 = .ok (.iadd, 1) := by decide +kernel
theorem de_Mo_worthOf_95 : decode prog_14_method_89_code 95 = .ok (.iastore, 1) := by decide +kernel
theorem de_Mo_worthOf_96 : decode prog_14_method_89_code 96 = .ok (.iinc 6 1, 3) := by decide +kernel
theorem de_Mo_worthOf_99 : decode prog_14_method_89_code 99 = .ok (.goto (-30), 3) := by decide +kernel
theorem de_Mo_worthOf_102 : decode prog_14_method_89_code 102 = .ok (.iinc 5 1, 3) := by decide +kernel
theorem de_Mo_worthOf_105 : decode prog_14_method_89_code 105 = .ok (.goto (-59), 3) := by decide +kernel
theorem de_Mo_worthOf_108 : decode prog_14_method_89_code 108 = .ok (.aload_n 0, 1) := by decide +kernel
theorem de_Mo_worthOf_109 : decode prog_14_method_89_code 109 = .ok (.invokevirtual 393, 3) := by decide +kernel
theorem de_Mo_worthOf_112 : decode prog_14_method_89_code 112 = .ok (.aload_n 0, 1) := by decide +kernel
theorem de_Mo_worthOf_113 : decode prog_14_method_89_code 113 = .ok (.getfield 48, 3) := by decide +kernel
theorem de_Mo_worthOf_116 : decode prog_14_method_89_code 116 = .ok (.iconst 0, 1) := by decide +kernel
theorem de_Mo_worthOf_117 : decode prog_14_method_89_code 117 = .ok (.iaload, 1) := by decide +kernel
theorem de_Mo_worthOf_118 : decode prog_14_method_89_code 118 = .ok (.istore 5, 2) := by decide +kernel
theorem de_Mo_worthOf_120 : decode prog_14_method_89_code 120 = .ok (.iconst 0, 1) := by decide +kernel
theorem de_Mo_worthOf_121 : decode prog_14_method_89_code 121 = .ok (.istore 6, 2) := by decide +kernel
theorem de_Mo_worthOf_123 : decode prog_14_method_89_code 123 = .ok (.iload 6, 2) := by decide +kernel
theorem de_Mo_worthOf_125 : decode prog_14_method_89_code 125 = .ok (.aload_n 0, 1) := by decide +kernel
theorem de_Mo_worthOf_126 : decode prog_14_method_89_code 126 = .ok (.getfield 39, 3) := by decide +kernel
theorem de_Mo_worthOf_129 : decode prog_14_method_89_code 129 = .ok (.iconst 1, 1) := by decide +kernel
theorem de_Mo_worthOf_130 : decode prog_14_method_89_code 130 = .ok (.iaload, 1) := by decide +kernel
theorem de_Mo_worthOf_131 : decode prog_14_method_89_code 131 = .ok (.if_icmp .ge 47, 3) := by decide +kernel
theorem de_Mo_worthOf_134 : decode prog_14_method_89_code 134 = .ok (.iload 4, 2) := by decide +kernel
theorem de_Mo_worthOf_136 : decode prog_14_method_89_code 136 = .ok (.aload_n 0, 1) := by decide +kernel
theorem de_Mo_worthOf_137 : decode prog_14_method_89_code 137 = .ok (.getfield 48, 3) := by decide +kernel
theorem de_Mo_worthOf_140 : decode prog_14_method_89_code 140 = .ok (.iload 6, 2) := by decide +kernel
theorem de_Mo_worthOf_142 : decode prog_14_method_89_code 142 = .ok (.iaload, 1) := by decide +kernel
theorem de_Mo_worthOf_143 : decode prog_14_method_89_code 143 = .ok (.iadd, 1) := by decide +kernel
theorem de_Mo_worthOf_144 : decode prog_14_method_89_code 144 = .ok (.istore 4, 2) := by decide +kernel
theorem de_Mo_worthOf_146 : decode prog_14_method_89_code 146 = .ok (.aload_n 0, 1) := by decide +kernel
theorem de_Mo_worthOf_147 : decode prog_14_method_89_code 147 = .ok (.getfield 48, 3) := by decide +kernel
theorem de_Mo_worthOf_150 : decode prog_14_method_89_code 150 = .ok (.iload 6, 2) := by decide +kernel
theorem de_Mo_worthOf_152 : decode prog_14_method_89_code 152 = .ok (.iaload, 1) := by decide +kernel
theorem de_Mo_worthOf_153 : decode prog_14_method_89_code 153 = .ok (.iload 5, 2) := by decide +kernel
theorem de_Mo_worthOf_155 : decode prog_14_method_89_code 155 = .ok (.if_icmp .ge 13, 3) := by decide +kernel
theorem de_Mo_worthOf_158 : decode prog_14_method_89_code 158 = .ok (.aload_n 0, 1) := by decide +kernel
theorem de_Mo_worthOf_159 : decode prog_14_method_89_code 159 = .ok (.getfield 48, 3) := by decide +kernel
theorem de_Mo_worthOf_162 : decode prog_14_method_89_code 162 = .ok (.iload 6, 2) := by decide +kernel
theorem de_Mo_worthOf_164 : decode prog_14_method_89_code 164 = .ok (.iaload, 1) := by decide +kernel
theorem de_Mo_worthOf_165 : decode prog_14_method_89_code 165 = .ok (.goto 5, 3) := by decide +kernel
theorem de_Mo_worthOf_168 : decode prog_14_method_89_code 168 = .ok (.iload 5, 2) := by decide +kernel
theorem de_Mo_worthOf_170 : decode prog_14_method_89_code 170 = .ok (.istore 5, 2) := by decide +kernel
theorem de_Mo_worthOf_172 : decode prog_14_method_89_code 172 = .ok (.iinc 6 1, 3) := by decide +kernel
theorem de_Mo_worthOf_175 : decode prog_14_method_89_code 175 = .ok (.goto (-52), 3) := by decide +kernel
theorem de_Mo_worthOf_178 : decode prog_14_method_89_code 178 = .ok (.iload_n 3, 1) := by decide +kernel
theorem de_Mo_worthOf_179 : decode prog_14_method_89_code 179 = .ok (.ifCond .eq 8, 3) := by decide +kernel
theorem de_Mo_worthOf_182 : decode prog_14_method_89_code 182 = .ok (.iload 5, 2) := by decide +kernel
theorem de_Mo_worthOf_184 : decode prog_14_method_89_code 184 = .ok (.goto 5, 3) := by decide +kernel
theorem de_Mo_worthOf_187 : decode prog_14_method_89_code 187 = .ok (.iload 4, 2) := by decide +kernel
theorem de_Mo_worthOf_189 : decode prog_14_method_89_code 189 = .ok (.ireturn, 1) := by decide +kernel
set_option maxRecDepth 10000 in
theorem lo_Mo_worthOf1 {B : Int} (hI : sg_ok B said) (hB : B ≤ 29000) (cc : Int) (hc0 : 0 ≤ cc) (hc1 : cc ≤ 100000) (nn : Nat) (hn : nn ≤ 5) (fr : Int) (Q : Option ab_V → ab_W → Prop) (hq : ab_Ev g_G g_rs mt_Mo_worthOf 4 0 0 31 [some (ab_R 0), some (ab_I cc), some (ab_I (nn : Int)), some (ab_I fr), some (ab_I 0), some (ab_I (((said 1).toNat : Nat) : Int)), none] [] (mo_W tape taped rules sign leng clause clauses read next wrong number text made deep lines opn opened stack top word said xx was undone kept (sp_s0 said (said 1).toNat sumOf) faced slotAt dayAt row bestRow tMany tMost drawX images imageX isMade) Q) : ∀ (n : Nat) (k : Nat), k ≤ (said 1).toNat → (said 1).toNat < k + n → ab_Ev g_G g_rs mt_Mo_worthOf 4 0 0 6 [some (ab_R 0), some (ab_I cc), some (ab_I (nn : Int)), some (ab_I fr), some (ab_I 0), some (ab_I (k : Int)), none] [] (mo_W tape taped rules sign leng clause clauses read next wrong number text made deep lines opn opened stack top word said xx was undone kept (sp_s0 said k sumOf) faced slotAt dayAt row bestRow tMany tMost drawX images imageX isMade) Q := by
  intro n
  induction n with
  | zero =>
    intro k
    intro g1 g2; omega
  | succ n ih =>
    intro k
    intro g1 g2
    have hJ := hI; obtain ⟨i0, i1, i2, i3, i4, i5, i6, i7, i8, i9, i10, i11, i12, i13, i14, i15, i16, i17⟩ := sg_all hJ
    refine ev_iload de_Mo_worthOf_6 rfl ?_
    refine ev_aload_n de_Mo_worthOf_8 rfl rfl ?_
    refine ev_getfield de_Mo_worthOf_9 rfl fl_Mo_39 rfl ?_
    refine ev_iconst de_Mo_worthOf_12 ?_
    refine ev_iaload de_Mo_worthOf_13 rfl (by omega) (by omega) (by omega) ?_
    refine ev_icmp_ge (tgt := 31) de_Mo_worthOf_14 (by decide) (by omega) (by omega) (fun h14 => ?_) (fun h14 => ?_)
    · skip
      have e : k = (said 1).toNat := by omega
      subst e
      exact hq
    · skip
      refine ev_aload_n de_Mo_worthOf_17 rfl rfl ?_
      refine ev_getfield de_Mo_worthOf_18 rfl fl_Mo_48 rfl ?_
      refine ev_iload de_Mo_worthOf_21 rfl ?_
      refine ev_iconst de_Mo_worthOf_23 ?_
      refine ev_iastore de_Mo_worthOf_24 rfl (by omega) (by omega) (by omega) ?_
      refine ev_world (w' := mo_W _ _ _ _ _ _ _ _ _ _ _ _ _ _ _ _ _ _ _ _ _ _ _ _ _ _ _ _ _ _ _ _ _ _ _ _ _) rfl ?_
      refine ev_world (w' := (mo_W tape taped rules sign leng clause clauses read next wrong number text made deep lines opn opened stack top word said xx was undone kept (sp_s0 said (k + 1) sumOf) faced slotAt dayAt row bestRow tMany tMost drawX images imageX isMade)) (by rw [sp_s0_s]) ?_
      refine ev_iinc (l' := [_, _, _, _, _, _, _]) de_Mo_worthOf_25 rfl rfl ?_
      refine ev_goto (tgt := 6) de_Mo_worthOf_28 (by decide) ?_
      exact ih (k + 1) (by omega) (by omega)
set_option maxRecDepth 10000 in
theorem lo_Mo_worthOf3 {B : Int} (hI : sg_ok B said) (hB : B ≤ 29000) (cc : Int) (hc0 : 0 ≤ cc) (hc1 : cc ≤ 100000) (nn : Nat) (hn : nn ≤ 5) (fr : Int) (kk : Nat) (hkk : kk < 5) (g : Int → Int) (hg : g = sp_pc said cc 1 nn (kk + 1)) (S : Int → Int) (Q : Option ab_V → ab_W → Prop) (hq : ab_Ev g_G g_rs mt_Mo_worthOf 4 0 0 102 [some (ab_R 0), some (ab_I cc), some (ab_I (nn : Int)), some (ab_I fr), some (ab_I 0), some (ab_I (kk : Int)), some (ab_I (((said 1).toNat : Nat) : Int))] [] (mo_W tape taped rules sign leng clause clauses read next wrong number text made deep lines opn opened stack top word (g) xx was undone kept (sp_sv said cc nn kk (said 1).toNat S) faced slotAt dayAt row bestRow tMany tMost drawX images imageX isMade) Q) : ∀ (n : Nat) (k : Nat), k ≤ (said 1).toNat → (said 1).toNat < k + n → ab_Ev g_G g_rs mt_Mo_worthOf 4 0 0 69 [some (ab_R 0), some (ab_I cc), some (ab_I (nn : Int)), some (ab_I fr), some (ab_I 0), some (ab_I (kk : Int)), some (ab_I (k : Int))] [] (mo_W tape taped rules sign leng clause clauses read next wrong number text made deep lines opn opened stack top word (g) xx was undone kept (sp_sv said cc nn kk k S) faced slotAt dayAt row bestRow tMany tMost drawX images imageX isMade) Q := by
  intro n
  induction n with
  | zero =>
    intro k
    intro g1 g2; omega
  | succ n ih =>
    intro k
    intro g1 g2
    have hJ := hI; obtain ⟨i0, i1, i2, i3, i4, i5, i6, i7, i8, i9, i10, i11, i12, i13, i14, i15, i16, i17⟩ := sg_all hJ
    have hs := sg_pc hI cc 1 (by decide) (by decide) nn (kk + 1) (by omega)
    have e1 : g 1 = said 1 := by rw [hg]; exact sp_pc_1 hI cc 1 (by decide) (by decide) nn (kk + 1) (by omega) 1 (by decide)
    rw [← hg] at hs
    refine ev_iload de_Mo_worthOf_69 rfl ?_
    refine ev_aload_n de_Mo_worthOf_71 rfl rfl ?_
    refine ev_getfield de_Mo_worthOf_72 rfl fl_Mo_39 rfl ?_
    refine ev_iconst de_Mo_worthOf_75 ?_
    refine ev_iaload de_Mo_worthOf_76 rfl (by omega) (by omega) (by omega) ?_
    refine ev_icmp_ge (tgt := 102) de_Mo_worthOf_77 (by decide) (by omega) (by omega) (fun h77 => ?_) (fun h77 => ?_)
    · skip
      have e : k = (said 1).toNat := by omega
      subst e
      exact hq
    · skip
      refine ev_aload_n de_Mo_worthOf_80 rfl rfl ?_
      refine ev_getfield de_Mo_worthOf_81 rfl fl_Mo_48 rfl ?_
      refine ev_iload de_Mo_worthOf_84 rfl ?_
      refine ev_dup2 de_Mo_worthOf_86 rfl rfl ?_
      refine ev_iaload de_Mo_worthOf_87 rfl (by omega) (by omega) (by omega) ?_
      refine ev_aload_n de_Mo_worthOf_88 rfl rfl ?_
      refine ev_iload de_Mo_worthOf_89 rfl ?_
      refine ev_vv (ci := 11) de_Mo_worthOf_91 (co_Mo_likesOf hs _ (by omega) (by omega)) kb_Mo_307 ⟨im_Mo_likesOf, se_Mo_likesOf⟩ rfl rfl rfl (Nat.le_of_ble_eq_true rfl) (by decide) rfl ?_
      refine ev_iadd de_Mo_worthOf_94 ?_
      refine ev_iastore de_Mo_worthOf_95 rfl (by omega) (by omega) (by omega) ?_
      refine ev_world (w' := mo_W _ _ _ _ _ _ _ _ _ _ _ _ _ _ _ _ _ _ _ _ _ _ _ _ _ _ _ _ _ _ _ _ _ _ _ _ _) rfl ?_
      refine ev_world (w' := (mo_W tape taped rules sign leng clause clauses read next wrong number text made deep lines opn opened stack top word (g) xx was undone kept (sp_sv said cc nn kk (k + 1) S) faced slotAt dayAt row bestRow tMany tMost drawX images imageX isMade)) (by rw [← sp_sv_s said cc nn kk k S (by omega), hg]) ?_
      refine ev_iinc (l' := [_, _, _, _, _, _, _]) de_Mo_worthOf_96 rfl rfl ?_
      refine ev_goto (tgt := 69) de_Mo_worthOf_99 (by decide) ?_
      exact ih (k + 1) (by omega) (by omega)
set_option maxRecDepth 10000 in
theorem lo_Mo_worthOf4 {B : Int} (hI : sg_ok B said) (hB : B ≤ 29000) (cc : Int) (hc0 : 0 ≤ cc) (hc1 : cc ≤ 100000) (nn : Nat) (hn : nn ≤ 5) (fr : Int) (hfr : ab_in fr) (h11 : 1 ≤ said 1) (hz : ∀ h, 0 ≤ h → h < said 1 → sumOf h = sp_so said cc nn h nn) : ∀ (n : Nat) (k : Nat), k ≤ (said 1).toNat → (said 1).toNat < k + n → ab_Ev g_G g_rs mt_Mo_worthOf 4 0 0 123 [some (ab_R 0), some (ab_I cc), some (ab_I (nn : Int)), some (ab_I fr), some (ab_I (sp_sum (fun h => sp_so said cc nn h nn) k)), some (ab_I (sp_least (fun h => sp_so said cc nn h nn) k)), some (ab_I (k : Int))] [] (mo_W tape taped rules sign leng clause clauses read next wrong number text made deep lines opn opened stack top word said xx was undone kept sumOf faced slotAt dayAt row bestRow tMany tMost drawX images imageX isMade) (ab_is (some (ab_I (sp_worth said cc nn fr))) (mo_W tape taped rules sign leng clause clauses read next wrong number text made deep lines opn opened stack top word said xx was undone kept sumOf faced slotAt dayAt row bestRow tMany tMost drawX images imageX isMade)) := by
  intro n
  induction n with
  | zero =>
    intro k
    intro g1 g2; omega
  | succ n ih =>
    intro k
    intro g1 g2
    have hJ := hI; obtain ⟨i0, i1, i2, i3, i4, i5, i6, i7, i8, i9, i10, i11, i12, i13, i14, i15, i16, i17⟩ := sg_all hJ
    have hbo := fun (h : Int) (a : 0 ≤ h) (b : h < 7) => sp_so_b hI hB cc nn a b nn (by omega)
    have ql := sp_least_b (g := (fun h => sp_so said cc nn h nn)) (a := -45 * (nn : Int)) (b := 45 * (nn : Int)) (hbo 0 (by decide) (by decide)) k (fun j a b => hbo j a (by omega))
    refine ev_iload de_Mo_worthOf_123 rfl ?_
    refine ev_aload_n de_Mo_worthOf_125 rfl rfl ?_
    refine ev_getfield de_Mo_worthOf_126 rfl fl_Mo_39 rfl ?_
    refine ev_iconst de_Mo_worthOf_129 ?_
    refine ev_iaload de_Mo_worthOf_130 rfl (by omega) (by omega) (by omega) ?_
    refine ev_icmp_ge (tgt := 178) de_Mo_worthOf_131 (by decide) (by omega) (by omega) (fun h131 => ?_) (fun h131 => ?_)
    · skip
      have e : k = (said 1).toNat := by omega
      subst e
      refine ev_iload_n de_Mo_worthOf_178 rfl rfl ?_
      refine ev_if_eq (tgt := 187) de_Mo_worthOf_179 (by decide) (by assumption) (fun h179 => ?_) (fun h179 => ?_)
      · skip
        refine ev_iload de_Mo_worthOf_187 rfl ?_
        exact ev_ireturn de_Mo_worthOf_189 rfl ⟨by unfold sp_worth; first | rw [if_pos h179] | rw [if_neg h179], rfl⟩
      · skip
        refine ev_iload de_Mo_worthOf_182 rfl ?_
        refine ev_goto (tgt := 189) de_Mo_worthOf_184 (by decide) ?_
        exact ev_ireturn de_Mo_worthOf_189 rfl ⟨by unfold sp_worth; first | rw [if_pos h179] | rw [if_neg h179], rfl⟩
    · skip
      have ez := hz (k : Int) (by omega) (by omega)
      have qz := hbo (k : Int) (by omega) (by omega)
      refine ev_iload de_Mo_worthOf_134 rfl ?_
      refine ev_aload_n de_Mo_worthOf_136 rfl rfl ?_
      refine ev_getfield de_Mo_worthOf_137 rfl fl_Mo_48 rfl ?_
      refine ev_iload de_Mo_worthOf_140 rfl ?_
      refine ev_iaload de_Mo_worthOf_142 rfl (by omega) (by omega) (by omega) ?_
      refine ev_top (congrArg Sum.inl ez) ?_
      refine ev_iadd de_Mo_worthOf_143 ?_
      refine ev_istore (l' := [_, _, _, _, _, _, _]) de_Mo_worthOf_144 (Nat.le_of_ble_eq_true rfl) rfl ?_
      refine ev_aload_n de_Mo_worthOf_146 rfl rfl ?_
      refine ev_getfield de_Mo_worthOf_147 rfl fl_Mo_48 rfl ?_
      refine ev_iload de_Mo_worthOf_150 rfl ?_
      refine ev_iaload de_Mo_worthOf_152 rfl (by omega) (by omega) (by omega) ?_
      refine ev_top (congrArg Sum.inl ez) ?_
      refine ev_iload de_Mo_worthOf_153 rfl ?_
      refine ev_icmp_ge (tgt := 168) de_Mo_worthOf_155 (by decide) (by omega) (by omega) (fun h155 => ?_) (fun h155 => ?_)
      · skip
        have el : sp_least (fun h => sp_so said cc nn h nn) (k + 1) = sp_least (fun h => sp_so said cc nn h nn) k := if_neg (show ¬ sp_so said cc nn (k : Int) nn < sp_least (fun h => sp_so said cc nn h nn) k by omega)
        refine ev_iload de_Mo_worthOf_168 rfl ?_
        refine ev_istore (l' := [_, _, _, _, _, _, _]) de_Mo_worthOf_170 (Nat.le_of_ble_eq_true rfl) rfl ?_
        refine ev_iinc (l' := [_, _, _, _, _, _, _]) de_Mo_worthOf_172 rfl rfl ?_
        refine ev_goto (tgt := 123) de_Mo_worthOf_175 (by decide) ?_
        refine ev_loc (l2 := [some (ab_R 0), some (ab_I cc), some (ab_I (nn : Int)), some (ab_I fr), some (ab_I (sp_sum (fun h => sp_so said cc nn h nn) (k + 1))), some (ab_I (sp_least (fun h => sp_so said cc nn h nn) (k + 1))), some (ab_I ((k + 1 : Nat) : Int))]) (by rw [el]; rfl) ?_
        exact ih (k + 1) (by omega) (by omega)
      · skip
        have el : sp_least (fun h => sp_so said cc nn h nn) (k + 1) = sp_so said cc nn (k : Int) nn := if_pos (show sp_so said cc nn (k : Int) nn < sp_least (fun h => sp_so said cc nn h nn) k by omega)
        refine ev_aload_n de_Mo_worthOf_158 rfl rfl ?_
        refine ev_getfield de_Mo_worthOf_159 rfl fl_Mo_48 rfl ?_
        refine ev_iload de_Mo_worthOf_162 rfl ?_
        refine ev_iaload de_Mo_worthOf_164 rfl (by omega) (by omega) (by omega) ?_
        refine ev_top (congrArg Sum.inl ez) ?_
        refine ev_goto (tgt := 170) de_Mo_worthOf_165 (by decide) ?_
        refine ev_istore (l' := [_, _, _, _, _, _, _]) de_Mo_worthOf_170 (Nat.le_of_ble_eq_true rfl) rfl ?_
        refine ev_iinc (l' := [_, _, _, _, _, _, _]) de_Mo_worthOf_172 rfl rfl ?_
        refine ev_goto (tgt := 123) de_Mo_worthOf_175 (by decide) ?_
        refine ev_loc (l2 := [some (ab_R 0), some (ab_I cc), some (ab_I (nn : Int)), some (ab_I fr), some (ab_I (sp_sum (fun h => sp_so said cc nn h nn) (k + 1))), some (ab_I (sp_least (fun h => sp_so said cc nn h nn) (k + 1))), some (ab_I ((k + 1 : Nat) : Int))]) (by rw [el]; rfl) ?_
        exact ih (k + 1) (by omega) (by omega)
set_option maxRecDepth 10000 in
theorem lo_Mo_worthOf2 {B : Int} (hI : sg_ok B said) (hB : B ≤ 29000) (cc : Int) (hc0 : 0 ≤ cc) (hc1 : cc ≤ 100000) (nn : Nat) (hn : nn ≤ 5) (fr : Int) (hfr : ab_in fr) (h11 : 1 ≤ said 1) (S K : Int → Int) (hK : sp_cp K (sp_pc said cc 1 nn nn) 53 = said) : ∀ (n : Nat) (k : Nat) (l6 : Option ab_V), k ≤ nn → nn < k + n → ab_Ev g_G g_rs mt_Mo_worthOf 4 0 0 46 [some (ab_R 0), some (ab_I cc), some (ab_I (nn : Int)), some (ab_I fr), some (ab_I 0), some (ab_I (k : Int)), l6] [] (mo_W tape taped rules sign leng clause clauses read next wrong number text made deep lines opn opened stack top word (sp_pc said cc 1 nn k) xx was undone (K) (sp_sv said cc nn k 0 S) faced slotAt dayAt row bestRow tMany tMost drawX images imageX isMade) (ab_is (some (ab_I (sp_worth said cc nn fr))) (mo_W tape taped rules sign leng clause clauses read next wrong number text made deep lines opn opened stack top word said xx was undone (K) (sp_sv said cc nn nn 0 S) faced slotAt dayAt row bestRow tMany tMost drawX images imageX isMade)) := by
  intro n
  induction n with
  | zero =>
    intro k l6
    intro g1 g2; omega
  | succ n ih =>
    intro k l6
    intro g1 g2
    have hJ := hI; obtain ⟨i0, i1, i2, i3, i4, i5, i6, i7, i8, i9, i10, i11, i12, i13, i14, i15, i16, i17⟩ := sg_all hJ
    have hs := sg_pc hI cc 1 (by decide) (by decide) nn k (by omega)
    have qd := sp_dig_b cc (nn - 1 - k)
    refine ev_iload de_Mo_worthOf_46 rfl ?_
    refine ev_iload_n de_Mo_worthOf_48 rfl rfl ?_
    refine ev_icmp_ge (tgt := 108) de_Mo_worthOf_49 (by decide) (by omega) (by omega) (fun h49 => ?_) (fun h49 => ?_)
    · skip
      have e : k = nn := by omega
      subst e
      refine ev_aload_n de_Mo_worthOf_108 rfl rfl ?_
      refine ev_vn (ci := 11) de_Mo_worthOf_109 co_Mo_laysBack kb_Mo_393 ⟨im_Mo_laysBack, se_Mo_laysBack⟩ rfl rfl rfl (Nat.le_of_ble_eq_true rfl) (by decide) rfl ?_
      refine ev_world (w' := (mo_W tape taped rules sign leng clause clauses read next wrong number text made deep lines opn opened stack top word said xx was undone (K) (sp_sv said cc k k 0 S) faced slotAt dayAt row bestRow tMany tMost drawX images imageX isMade)) (by rw [hK]) ?_
      refine ev_aload_n de_Mo_worthOf_112 rfl rfl ?_
      refine ev_getfield de_Mo_worthOf_113 rfl fl_Mo_48 rfl ?_
      refine ev_iconst de_Mo_worthOf_116 ?_
      refine ev_iaload de_Mo_worthOf_117 rfl (by omega) (by omega) (by omega) ?_
      refine ev_top (congrArg Sum.inl (sp_sv_at said cc k k S (by decide) (by omega))) ?_
      refine ev_istore (l' := [_, _, _, _, _, _, _]) de_Mo_worthOf_118 (Nat.le_of_ble_eq_true rfl) rfl ?_
      refine ev_iconst de_Mo_worthOf_120 ?_
      refine ev_istore (l' := [_, _, _, _, _, _, _]) de_Mo_worthOf_121 (Nat.le_of_ble_eq_true rfl) rfl ?_
      exact lo_Mo_worthOf4 hI hB cc hc0 hc1 k hn fr hfr h11 (fun h a b => sp_sv_at said cc k k S a b) ((said 1).toNat + 1) 0 (by omega) (by omega)
    · skip
      refine ev_aload_n de_Mo_worthOf_52 rfl rfl ?_
      refine ev_iload_n de_Mo_worthOf_53 rfl rfl ?_
      refine ev_iload_n de_Mo_worthOf_54 rfl rfl ?_
      refine ev_iload de_Mo_worthOf_55 rfl ?_
      refine ev_sv de_Mo_worthOf_57 (co_Mo_digitOf _ cc _ _ (nn - 1 - k) hc0 hc1 (by omega) (by omega) (by omega) (by omega)) kb_Mo_403 sc_Mo_digitOf rfl (Nat.le_of_ble_eq_true rfl) (by decide) rfl ?_
      refine ev_iconst de_Mo_worthOf_60 ?_
      refine ev_isub de_Mo_worthOf_61 ?_
      refine ev_vv (ci := 11) de_Mo_worthOf_62 (co_Mo_passesAt hs _ (by omega) (by omega)) kb_Mo_338 ⟨im_Mo_passesAt, se_Mo_passesAt⟩ rfl rfl rfl (Nat.le_of_ble_eq_true rfl) (by decide) rfl ?_
      refine ev_pop de_Mo_worthOf_65 rfl ?_
      refine ev_iconst de_Mo_worthOf_66 ?_
      refine ev_istore (l' := [_, _, _, _, _, _, _]) de_Mo_worthOf_67 (Nat.le_of_ble_eq_true rfl) rfl ?_
      refine lo_Mo_worthOf3 hI hB cc hc0 hc1 nn hn fr k (by omega) _ rfl S _ ?_ ((said 1).toNat + 1) 0 (by omega) (by omega)
      refine ev_iinc (l' := [_, _, _, _, _, _, _]) de_Mo_worthOf_102 rfl rfl ?_
      refine ev_goto (tgt := 46) de_Mo_worthOf_105 (by decide) ?_
      refine ev_world (w' := (mo_W tape taped rules sign leng clause clauses read next wrong number text made deep lines opn opened stack top word (sp_pc said cc 1 nn (k + 1)) xx was undone (K) (sp_sv said cc nn (k + 1) 0 S) faced slotAt dayAt row bestRow tMany tMost drawX images imageX isMade)) (by rw [sp_sv_n said cc nn k S (by omega)]) ?_
      exact ih (k + 1) _ (by omega) (by omega)
set_option maxRecDepth 10000 in
theorem co_Mo_worthOf {B : Int} (hI : sg_ok B said) (hB : B ≤ 29000) (cc : Int) (hc0 : 0 ≤ cc) (hc1 : cc ≤ 100000) (nn : Nat) (hn : nn ≤ 5) (fr : Int) (hfr : ab_in fr) (h11 : 1 ≤ said 1) : ab_Mt g_G g_rs mt_Mo_worthOf 4 0 0 [ab_R 0, ab_I cc, ab_I (nn : Int), ab_I fr] (mo_W tape taped rules sign leng clause clauses read next wrong number text made deep lines opn opened stack top word said xx was undone kept sumOf faced slotAt dayAt row bestRow tMany tMost drawX images imageX isMade) (ab_is (some (ab_I (sp_worth said cc nn fr))) (mo_W tape taped rules sign leng clause clauses read next wrong number text made deep lines opn opened stack top word said xx was undone (sp_cp said kept 53) (sp_sv said cc nn nn 0 sumOf) faced slotAt dayAt row bestRow tMany tMost drawX images imageX isMade)) := by
  refine ab_Mt.of rfl (Nat.le_of_ble_eq_true rfl) ?_
  show ab_Ev g_G g_rs mt_Mo_worthOf _ _ _ 0 [some (ab_R 0), some (ab_I cc), some (ab_I (nn : Int)), some (ab_I fr), none, none, none] [] _ _
  have hJ := hI; obtain ⟨i0, i1, i2, i3, i4, i5, i6, i7, i8, i9, i10, i11, i12, i13, i14, i15, i16, i17⟩ := sg_all hJ
  refine ev_iconst de_Mo_worthOf_0 ?_
  refine ev_istore (l' := [_, _, _, _, _, _, _]) de_Mo_worthOf_1 (Nat.le_of_ble_eq_true rfl) rfl ?_
  refine ev_iconst de_Mo_worthOf_3 ?_
  refine ev_istore (l' := [_, _, _, _, _, _, _]) de_Mo_worthOf_4 (Nat.le_of_ble_eq_true rfl) rfl ?_
  refine ev_world (w' := (mo_W tape taped rules sign leng clause clauses read next wrong number text made deep lines opn opened stack top word said xx was undone kept (sp_s0 said 0 sumOf) faced slotAt dayAt row bestRow tMany tMost drawX images imageX isMade)) (by rw [sp_s0_0]) ?_
  refine lo_Mo_worthOf1 hI hB cc hc0 hc1 nn hn fr _ ?_ ((said 1).toNat + 1) 0 (by omega) (by omega)
  refine ev_aload_n de_Mo_worthOf_31 rfl rfl ?_
  refine ev_vn (ci := 11) de_Mo_worthOf_32 co_Mo_keeps kb_Mo_390 ⟨im_Mo_keeps, se_Mo_keeps⟩ rfl rfl rfl (Nat.le_of_ble_eq_true rfl) (by decide) rfl ?_
  refine ev_aload_n de_Mo_worthOf_35 rfl rfl ?_
  refine ev_getfield de_Mo_worthOf_36 rfl fl_Mo_39 rfl ?_
  refine ev_bipush de_Mo_worthOf_39 rfl ?_
  refine ev_iconst de_Mo_worthOf_41 ?_
  refine ev_iastore de_Mo_worthOf_42 rfl (by omega) (by omega) (by omega) ?_
  refine ev_world (w' := mo_W _ _ _ _ _ _ _ _ _ _ _ _ _ _ _ _ _ _ _ _ _ _ _ _ _ _ _ _ _ _ _ _ _ _ _ _ _) rfl ?_
  refine ev_iconst de_Mo_worthOf_43 ?_
  refine ev_istore (l' := [_, _, _, _, _, _, _]) de_Mo_worthOf_44 (Nat.le_of_ble_eq_true rfl) rfl ?_
  refine ev_world (w' := (mo_W tape taped rules sign leng clause clauses read next wrong number text made deep lines opn opened stack top word (sp_pc said cc 1 nn 0) xx was undone (sp_cp said kept 53) (sp_sv said cc nn 0 0 sumOf) faced slotAt dayAt row bestRow tMany tMost drawX images imageX isMade)) (by rw [sp_s0_v said cc nn sumOf (by omega)]; rfl) ?_
  exact lo_Mo_worthOf2 hI hB cc hc0 hc1 nn hn fr hfr h11 sumOf _ (sp_layC hI cc 1 (by decide) (by decide) nn nn (by omega)) (nn + 1) 0 _ (by omega) (by omega)
end MO
