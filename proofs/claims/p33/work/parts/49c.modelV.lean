section MO
variable {tape : Int → Int} {taped : Int} {rules : Int} {sign : Int → Int} {leng : Int → Int} {clause : Int → Int} {clauses : Int → Int} {read : Int → Int} {next : Int} {wrong : Int} {number : Int} {text : Int} {made : Int} {deep : Int} {lines : Int} {opn : Int → Int} {opened : Int} {stack : Int → Int64} {top : Int} {word : Int → Int64} {said : Int → Int} {xx : Int} {was : Int → Int} {undone : Int} {kept : Int → Int} {sumOf : Int → Int} {faced : Int → Int} {slotAt : Int → Int} {dayAt : Int → Int} {row : Int → Int} {bestRow : Int → Int} {tMany : Int} {tMost : Int} {drawX : Int64} {images : Int → Int} {imageX : Int → Int} {isMade : Int → Int}
/-! trade: it comes back (what it answers is not said) -/
theorem ev_wrap {G : ab_G} {rs : List String} {M : ab_M} {d bc bs pc : Nat} {l : ab_L} {st : List ab_V} {w : ab_W} {Q : Option ab_V → ab_W → Prop} {a : Int} (k : ∀ c, ab_in c → ab_Ev G rs M d bc bs pc l (.inl c :: st) w Q) : ab_Ev G rs M d bc bs pc l (.inl a :: st) w Q := by
  intro p la e R s m args below meth c H locs cells slots D dA aK aV as A ls Qc free hF hs hP hD hS hl h1 h2 hR
  have q := k (Int32.ofInt a).toInt (ab_toin _) p la e R s m args below meth c H locs cells slots D dA aK aV as A ls Qc free hF hs hP hD hS hl h1 h2 hR
  have e1 : ((Sum.inl (Int32.ofInt a).toInt :: st : List ab_V)).map (ab_cv as) = ((Sum.inl a :: st : List ab_V)).map (ab_cv as) := by
    show Value.int (Int32.ofInt (Int32.ofInt a).toInt) :: _ = Value.int (Int32.ofInt a) :: _
    rw [ab_of]
  rw [e1] at q
  exact q
def td_d (dayAt : Int → Int) : Prop := ∀ k, 0 ≤ k → k < 49 → -2000 ≤ dayAt k ∧ dayAt k ≤ 2000
def td_s (slotAt : Int → Int) : Prop := ∀ k, 0 ≤ k → k < 7 → 0 ≤ slotAt k ∧ slotAt k ≤ 11
theorem de_Mo_dayNow_0 : decode prog_14_method_98_code 0 = .ok (.iconst 0, 1) := by decide +kernel
theorem de_Mo_dayNow_1 : decode prog_14_method_98_code 1 = .ok (.istore_n 2, 1) := by decide +kernel
theorem de_Mo_dayNow_2 : decode prog_14_method_98_code 2 = .ok (.iload_n 2, 1) := by decide +kernel
theorem de_Mo_dayNow_3 : decode prog_14_method_98_code 3 = .ok (.aload_n 0, 1) := by decide +kernel
theorem de_Mo_dayNow_4 : decode prog_14_method_98_code 4 = .ok (.getfield 39, 3) := by decide +kernel
theorem de_Mo_dayNow_7 : decode prog_14_method_98_code 7 = .ok (.iconst 1, 1) := by decide +kernel
theorem de_Mo_dayNow_8 : decode prog_14_method_98_code 8 = .ok (.iaload, 1) := by decide +kernel
theorem de_Mo_dayNow_9 : decode prog_14_method_98_code 9 = .ok (.if_icmp .ge 39, 3) := by decide +kernel
theorem de_Mo_dayNow_12 : decode prog_14_method_98_code 12 = .ok (.aload_n 0, 1) := by decide +kernel
theorem de_Mo_dayNow_13 : decode prog_14_method_98_code 13 = .ok (.getfield 54, 3) := by decide +kernel
theorem de_Mo_dayNow_16 : decode prog_14_method_98_code 16 = .ok (.iload_n 2, 1) := by decide +kernel
theorem de_Mo_dayNow_17 : decode prog_14_method_98_code 17 = .ok (.iaload, 1) := by decide +kernel
theorem de_Mo_dayNow_18 : decode prog_14_method_98_code 18 = .ok (.aload_n 0, 1) := by decide +kernel
theorem de_Mo_dayNow_19 : decode prog_14_method_98_code 19 = .ok (.getfield 39, 3) := by decide +kernel
theorem de_Mo_dayNow_22 : decode prog_14_method_98_code 22 = .ok (.bipush 46, 2) := by decide +kernel
theorem de_Mo_dayNow_24 : decode prog_14_method_98_code 24 = .ok (.iload_n 1, 1) := by decide +kernel
theorem de_Mo_dayNow_25 : decode prog_14_method_98_code 25 = .ok (.iadd, 1) := by decide +kernel
theorem de_Mo_dayNow_26 : decode prog_14_method_98_code 26 = .ok (.iaload, 1) := by decide +kernel
theorem de_Mo_dayNow_27 : decode prog_14_method_98_code 27 = .ok (.if_icmp .ne 15, 3) := by decide +kernel
theorem de_Mo_dayNow_30 : decode prog_14_method_98_code 30 = .ok (.aload_n 0, 1) := by decide +kernel
theorem de_Mo_dayNow_31 : decode prog_14_method_98_code 31 = .ok (.getfield 57, 3) := by decide +kernel
theorem de_Mo_dayNow_34 : decode prog_14_method_98_code 34 = .ok (.bipush 7, 2) := by decide +kernel
theorem de_Mo_dayNow_36 : decode prog_14_method_98_code 36 = .ok (.iload_n 1, 1) := by decide +kernel
theorem de_Mo_dayNow_37 : decode prog_14_method_98_code 37 = .ok (.imul, 1) := by decide +kernel
theorem de_Mo_dayNow_38 : decode prog_14_method_98_code 38 = .ok (.iload_n 2, 1) := by decide +kernel
theorem de_Mo_dayNow_39 : decode prog_14_method_98_code 39 = .ok (.iadd, 1) := by decide +kernel
theorem de_Mo_dayNow_40 : decode prog_14_method_98_code 40 = .ok (.iaload, 1) := by decide +kernel
theorem de_Mo_dayNow_41 : decode prog_14_method_98_code 41 = .ok (.ireturn, 1) := by decide +kernel
theorem de_Mo_dayNow_42 : decode prog_14_method_98_code 42 = .ok (.iinc 2 1, 3) := by decide +kernel
theorem de_Mo_dayNow_45 : decode prog_14_method_98_code 45 = .ok (.goto (-43), 3) := by decide +kernel
theorem de_Mo_dayNow_48 : decode prog_14_method_98_code 48 = .ok (.iconst 0, 1) := by decide +kernel
theorem de_Mo_dayNow_49 : decode prog_14_method_98_code 49 = .ok (.ireturn, 1) := by decide +kernel
set_option maxHeartbeats 4000000 in
set_option maxRecDepth 10000 in
theorem lo_Mo_dayNow {B : Int} (hI : sg_ok B said) (hd : td_d dayAt) (hsl : td_s slotAt) (h0 : Int) (hh0 : 0 ≤ h0) (hh1 : h0 < 7) : ∀ (n : Nat) (k : Int), 0 ≤ k → k ≤ said 1 → said 1 < k + n → ab_Ev g_G g_rs mt_Mo_dayNow 0 0 0 2 [some (ab_R 0), some (ab_I h0), some (ab_I k)] [] (mo_W tape taped rules sign leng clause clauses read next wrong number text made deep lines opn opened stack top word said xx was undone kept sumOf faced slotAt dayAt row bestRow tMany tMost drawX images imageX isMade) (fun r w2 => (∃ v, r = some (ab_I v) ∧ -2000 ≤ v ∧ v ≤ 2000) ∧ w2 = (mo_W tape taped rules sign leng clause clauses read next wrong number text made deep lines opn opened stack top word said xx was undone kept sumOf faced slotAt dayAt row bestRow tMany tMost drawX images imageX isMade)) := by
  intro n
  induction n with
  | zero =>
    intro k
    intro g0 g1 g2; omega
  | succ n ih =>
    intro k
    intro g0 g1 g2
    have hJ := hI; obtain ⟨i0, i1, i2, i3, i4, i5, i6, i7, i8, i9, i10, i11, i12, i13, i14, i15, i16, i17⟩ := sg_all hJ
    refine ev_iload_n de_Mo_dayNow_2 rfl rfl ?_
    refine ev_aload_n de_Mo_dayNow_3 rfl rfl ?_
    refine ev_getfield de_Mo_dayNow_4 rfl fl_Mo_39 rfl ?_
    refine ev_iconst de_Mo_dayNow_7 ?_
    refine ev_iaload de_Mo_dayNow_8 rfl (by omega) (by omega) (by omega) ?_
    refine ev_icmp_ge (tgt := 48) de_Mo_dayNow_9 (by decide) (by omega) (by omega) (fun h9 => ?_) (fun h9 => ?_)
    · skip
      refine ev_iconst de_Mo_dayNow_48 ?_
      exact ev_ireturn de_Mo_dayNow_49 rfl ⟨⟨0, rfl, by decide, by decide⟩, rfl⟩
    · skip
      have q1 := hsl k (by omega) (by omega)
      have q2 := i11 (46 + h0) (by omega) (by omega)
      have q3 := hd (7 * h0 + k) (by omega) (by omega)
      refine ev_aload_n de_Mo_dayNow_12 rfl rfl ?_
      refine ev_getfield de_Mo_dayNow_13 rfl fl_Mo_54 rfl ?_
      refine ev_iload_n de_Mo_dayNow_16 rfl rfl ?_
      refine ev_iaload de_Mo_dayNow_17 rfl (by omega) (by omega) (by omega) ?_
      refine ev_aload_n de_Mo_dayNow_18 rfl rfl ?_
      refine ev_getfield de_Mo_dayNow_19 rfl fl_Mo_39 rfl ?_
      refine ev_bipush de_Mo_dayNow_22 rfl ?_
      refine ev_iload_n de_Mo_dayNow_24 rfl rfl ?_
      refine ev_iadd de_Mo_dayNow_25 ?_
      refine ev_iaload de_Mo_dayNow_26 rfl (by omega) (by omega) (by omega) ?_
      refine ev_icmp_ne (tgt := 42) de_Mo_dayNow_27 (by decide) (by omega) (by omega) (fun h27 => ?_) (fun h27 => ?_)
      · skip
        refine ev_iinc (l' := [_, _, _]) de_Mo_dayNow_42 rfl rfl ?_
        refine ev_goto (tgt := 2) de_Mo_dayNow_45 (by decide) ?_
        exact ih (k + 1) (by omega) (by omega) (by omega)
      · skip
        refine ev_aload_n de_Mo_dayNow_30 rfl rfl ?_
        refine ev_getfield de_Mo_dayNow_31 rfl fl_Mo_57 rfl ?_
        refine ev_bipush de_Mo_dayNow_34 rfl ?_
        refine ev_iload_n de_Mo_dayNow_36 rfl rfl ?_
        refine ev_imul de_Mo_dayNow_37 ?_
        refine ev_iload_n de_Mo_dayNow_38 rfl rfl ?_
        refine ev_iadd de_Mo_dayNow_39 ?_
        refine ev_iaload de_Mo_dayNow_40 rfl (by omega) (by omega) (by omega) ?_
        exact ev_ireturn de_Mo_dayNow_41 rfl ⟨⟨_, rfl, q3⟩, rfl⟩
set_option maxHeartbeats 4000000 in
set_option maxRecDepth 10000 in
theorem co_Mo_dayNow {B : Int} (hI : sg_ok B said) (hd : td_d dayAt) (hsl : td_s slotAt) (h0 : Int) (hh0 : 0 ≤ h0) (hh1 : h0 < 7) : ab_Mt g_G g_rs mt_Mo_dayNow 0 0 0 [ab_R 0, ab_I h0] (mo_W tape taped rules sign leng clause clauses read next wrong number text made deep lines opn opened stack top word said xx was undone kept sumOf faced slotAt dayAt row bestRow tMany tMost drawX images imageX isMade) (fun r w2 => (∃ v, r = some (ab_I v) ∧ -2000 ≤ v ∧ v ≤ 2000) ∧ w2 = (mo_W tape taped rules sign leng clause clauses read next wrong number text made deep lines opn opened stack top word said xx was undone kept sumOf faced slotAt dayAt row bestRow tMany tMost drawX images imageX isMade)) := by
  refine ab_Mt.of rfl (Nat.le_of_ble_eq_true rfl) ?_
  show ab_Ev g_G g_rs mt_Mo_dayNow _ _ _ 0 [some (ab_R 0), some (ab_I h0), none] [] _ _
  refine ev_iconst de_Mo_dayNow_0 ?_
  refine ev_istore_n (l' := [_, _, _]) de_Mo_dayNow_1 rfl (Nat.le_of_ble_eq_true rfl) rfl ?_
  have hJ := hI; obtain ⟨i0, i1, i2, i3, i4, i5, i6, i7, i8, i9, i10, i11, i12, i13, i14, i15, i16, i17⟩ := sg_all hJ
  exact lo_Mo_dayNow hI hd hsl h0 hh0 hh1 8 0 (by omega) (by omega) (by omega)
def td_r (row : Int → Int) (n H : Int) : Prop := ∀ j, 0 ≤ j → j < n → 0 ≤ row j ∧ row j < H
theorem de_Mo_countsRow_0 : decode prog_14_method_97_code 0 = .ok (.iconst 0, 1) := by decide +kernel
theorem de_Mo_countsRow_1 : decode prog_14_method_97_code 1 = .ok (.istore_n 1, 1) := by decide +kernel
theorem de_Mo_countsRow_2 : decode prog_14_method_97_code 2 = .ok (.iconst 0, 1) := by decide +kernel
theorem de_Mo_countsRow_3 : decode prog_14_method_97_code 3 = .ok (.istore_n 2, 1) := by decide +kernel
theorem de_Mo_countsRow_4 : decode prog_14_method_97_code 4 = .ok (.iload_n 2, 1) := by decide +kernel
theorem de_Mo_countsRow_5 : decode prog_14_method_97_code 5 = .ok (.aload_n 0, 1) := by decide +kernel
theorem de_Mo_countsRow_6 : decode prog_14_method_97_code 6 = .ok (.getfield 39, 3) := by decide +kernel
theorem de_Mo_countsRow_9 : decode prog_14_method_97_code 9 = .ok (.iconst 1, 1) := by decide +kernel
theorem de_Mo_countsRow_10 : decode prog_14_method_97_code 10 = .ok (.iaload, 1) := by decide +kernel
theorem de_Mo_countsRow_11 : decode prog_14_method_97_code 11 = .ok (.if_icmp .ge 28, 3) := by decide +kernel
theorem de_Mo_countsRow_14 : decode prog_14_method_97_code 14 = .ok (.iload_n 1, 1) := by decide +kernel
theorem de_Mo_countsRow_15 : decode prog_14_method_97_code 15 = .ok (.aload_n 0, 1) := by decide +kernel
theorem de_Mo_countsRow_16 : decode prog_14_method_97_code 16 = .ok (.getfield 57, 3) := by decide +kernel
theorem de_Mo_countsRow_19 : decode prog_14_method_97_code 19 = .ok (.bipush 7, 2) := by decide +kernel
theorem de_Mo_countsRow_21 : decode prog_14_method_97_code 21 = .ok (.iload_n 2, 1) := by decide +kernel
theorem de_Mo_countsRow_22 : decode prog_14_method_97_code 22 = .ok (.imul, 1) := by decide +kernel
theorem de_Mo_countsRow_23 : decode prog_14_method_97_code 23 = .ok (.aload_n 0, 1) := by decide +kernel
theorem de_Mo_countsRow_24 : decode prog_14_method_97_code 24 = .ok (.getfield 60, 3) := by decide +kernel
theorem de_Mo_countsRow_27 : decode prog_14_method_97_code 27 = .ok (.iload_n 2, 1) := by decide +kernel
theorem de_Mo_countsRow_28 : decode prog_14_method_97_code 28 = .ok (.iaload, 1) := by decide +kernel
theorem de_Mo_countsRow_29 : decode prog_14_method_97_code 29 = .ok (.iadd, 1) := by decide +kernel
theorem de_Mo_countsRow_30 : decode prog_14_method_97_code 30 = .ok (.iaload, 1) := by decide +kernel
theorem de_Mo_countsRow_31 : decode prog_14_method_97_code 31 = .ok (.iadd, 1) := by decide +kernel
theorem de_Mo_countsRow_32 : decode prog_14_method_97_code 32 = .ok (.istore_n 1, 1) := by decide +kernel
theorem de_Mo_countsRow_33 : decode prog_14_method_97_code 33 = .ok (.iinc 2 1, 3) := by decide +kernel
theorem de_Mo_countsRow_36 : decode prog_14_method_97_code 36 = .ok (.goto (-32), 3) := by decide +kernel
theorem de_Mo_countsRow_39 : decode prog_14_method_97_code 39 = .ok (.aload_n 0, 1) := by decide +kernel
theorem de_Mo_countsRow_40 : decode prog_14_method_97_code 40 = .ok (.getfield 420, 3) := by decide +kernel
theorem de_Mo_countsRow_43 : decode prog_14_method_97_code 43 = .ok (.ifCond .eq 11, 3) := by decide +kernel
theorem de_Mo_countsRow_46 : decode prog_14_method_97_code 46 = .ok (.iload_n 1, 1) := by decide +kernel
theorem de_Mo_countsRow_47 : decode prog_14_method_97_code 47 = .ok (.aload_n 0, 1) := by decide +kernel
theorem de_Mo_countsRow_48 : decode prog_14_method_97_code 48 = .ok (.getfield 423, 3) := by decide +kernel
theorem de_Mo_countsRow_51 : decode prog_14_method_97_code 51 = .ok (.if_icmp .le 43, 3) := by decide +kernel
theorem de_Mo_countsRow_54 : decode prog_14_method_97_code 54 = .ok (.aload_n 0, 1) := by decide +kernel
theorem de_Mo_countsRow_55 : decode prog_14_method_97_code 55 = .ok (.iload_n 1, 1) := by decide +kernel
theorem de_Mo_countsRow_56 : decode prog_14_method_97_code 56 = .ok (.putfield 423, 3) := by decide +kernel
theorem de_Mo_countsRow_59 : decode prog_14_method_97_code 59 = .ok (.iconst 0, 1) := by decide +kernel
theorem de_Mo_countsRow_60 : decode prog_14_method_97_code 60 = .ok (.istore_n 2, 1) := by decide +kernel
theorem de_Mo_countsRow_61 : decode prog_14_method_97_code 61 = .ok (.iload_n 2, 1) := by decide +kernel
theorem de_Mo_countsRow_62 : decode prog_14_method_97_code 62 = .ok (.aload_n 0, 1) := by decide +kernel
theorem de_Mo_countsRow_63 : decode prog_14_method_97_code 63 = .ok (.getfield 39, 3) := by decide +kernel
theorem de_Mo_countsRow_66 : decode prog_14_method_97_code 66 = .ok (.iconst 1, 1) := by decide +kernel
theorem de_Mo_countsRow_67 : decode prog_14_method_97_code 67 = .ok (.iaload, 1) := by decide +kernel
theorem de_Mo_countsRow_68 : decode prog_14_method_97_code 68 = .ok (.if_icmp .ge 26, 3) := by decide +kernel
theorem de_Mo_countsRow_71 : decode prog_14_method_97_code 71 = .ok (.aload_n 0, 1) := by decide +kernel
theorem de_Mo_countsRow_72 : decode prog_14_method_97_code 72 = .ok (.getfield 63, 3) := by decide +kernel
theorem de_Mo_countsRow_75 : decode prog_14_method_97_code 75 = .ok (.iload_n 2, 1) := by decide +kernel
theorem de_Mo_countsRow_76 : decode prog_14_method_97_code 76 = .ok (.aload_n 0, 1) := by decide +kernel
theorem de_Mo_countsRow_77 : decode prog_14_method_97_code 77 = .ok (.getfield 54, 3) := by decide +kernel
theorem de_Mo_countsRow_80 : decode prog_14_method_97_code 80 = .ok (.aload_n 0, 1) := by decide +kernel
theorem de_Mo_countsRow_81 : decode prog_14_method_97_code 81 = .ok (.getfield 60, 3) := by decide +kernel
theorem de_Mo_countsRow_84 : decode prog_14_method_97_code 84 = .ok (.iload_n 2, 1) := by decide +kernel
theorem de_Mo_countsRow_85 : decode prog_14_method_97_code 85 = .ok (.iaload, 1) := by decide +kernel
theorem de_Mo_countsRow_86 : decode prog_14_method_97_code 86 = .ok (.iaload, 1) := by decide +kernel
theorem de_Mo_countsRow_87 : decode prog_14_method_97_code 87 = .ok (.iastore, 1) := by decide +kernel
theorem de_Mo_countsRow_88 : decode prog_14_method_97_code 88 = .ok (.iinc 2 1, 3) := by decide +kernel
theorem de_Mo_countsRow_91 : decode prog_14_method_97_code 91 = .ok (.goto (-30), 3) := by decide +kernel
theorem de_Mo_countsRow_94 : decode prog_14_method_97_code 94 = .ok (.aload_n 0, 1) := by decide +kernel
theorem de_Mo_countsRow_95 : decode prog_14_method_97_code 95 = .ok (.dup, 1) := by decide +kernel
theorem de_Mo_countsRow_96 : decode prog_14_method_97_code 96 = .ok (.getfield 420, 3) := by decide +kernel
theorem de_Mo_countsRow_99 : decode prog_14_method_97_code 99 = .ok (.iconst 1, 1) := by decide +kernel
theorem de_Mo_countsRow_100 : decode prog_14_method_97_code 100 = .ok (.iadd, 1) := by decide +kernel
theorem de_Mo_countsRow_101 : decode prog_14_method_97_code 101 = .ok (.putfield 420, 3) := by decide +kernel
theorem de_Mo_countsRow_104 : decode prog_14_method_97_code 104 = .ok (.return_, 1) := by decide +kernel
set_option maxHeartbeats 4000000 in
set_option maxRecDepth 10000 in
theorem l3_Mo_countsRow (a b : Option ab_V) (htm : ab_in tMany) (hto : ab_in tMost) : ab_Ev g_G g_rs mt_Mo_countsRow 0 0 0 94 [some (ab_R 0), a, b] [] (mo_W tape taped rules sign leng clause clauses read next wrong number text made deep lines opn opened stack top word said xx was undone kept sumOf faced slotAt dayAt row bestRow tMany tMost drawX images imageX isMade) (fun r w2 => r = none ∧ ∃ (br : Int → Int) (tm to_ : Int), ab_in tm ∧ ab_in to_ ∧ w2 = (mo_W tape taped rules sign leng clause clauses read next wrong number text made deep lines opn opened stack top word said xx was undone kept sumOf faced slotAt dayAt row (br) (tm) (to_) drawX images imageX isMade)) := by
  refine ev_aload_n de_Mo_countsRow_94 rfl rfl ?_
  refine ev_dup de_Mo_countsRow_95 rfl ?_
  refine ev_getfield de_Mo_countsRow_96 rfl fl_Mo_420 rfl ?_
  refine ev_iconst de_Mo_countsRow_99 ?_
  refine ev_iadd de_Mo_countsRow_100 ?_
  refine ev_wrap (fun c hc => ?_)
  refine ev_putfield de_Mo_countsRow_101 rfl (fp_Mo_420 _) (Nat.le_of_ble_eq_true rfl) trivial ?_
  refine ev_world (w' := mo_W _ _ _ _ _ _ _ _ _ _ _ _ _ _ _ _ _ _ _ _ _ _ _ _ _ _ _ _ _ _ _ _ _ _ _ _ _) rfl ?_
  exact ev_return de_Mo_countsRow_104 rfl ⟨rfl, _, _, _, hc, hto, rfl⟩
set_option maxHeartbeats 4000000 in
set_option maxRecDepth 10000 in
theorem l2_Mo_countsRow {B : Int} (hI : sg_ok B said) (hd : td_d dayAt) (hsl : td_s slotAt) (hr : td_r row (said 1) (said 1)) (al : Int) (htm : ab_in tMany) (hto : ab_in tMost) : ∀ (n : Nat) (k : Int) (bestRow : Int → Int), 0 ≤ k → k ≤ said 1 → said 1 < k + n → ab_Ev g_G g_rs mt_Mo_countsRow 0 0 0 61 [some (ab_R 0), some (ab_I al), some (ab_I k)] [] (mo_W tape taped rules sign leng clause clauses read next wrong number text made deep lines opn opened stack top word said xx was undone kept sumOf faced slotAt dayAt row bestRow tMany tMost drawX images imageX isMade) (fun r w2 => r = none ∧ ∃ (br : Int → Int) (tm to_ : Int), ab_in tm ∧ ab_in to_ ∧ w2 = (mo_W tape taped rules sign leng clause clauses read next wrong number text made deep lines opn opened stack top word said xx was undone kept sumOf faced slotAt dayAt row (br) (tm) (to_) drawX images imageX isMade)) := by
  intro n
  induction n with
  | zero =>
    intro k bestRow
    intro g0 g1 g2; omega
  | succ n ih =>
    intro k bestRow
    intro g0 g1 g2
    have hJ := hI; obtain ⟨i0, i1, i2, i3, i4, i5, i6, i7, i8, i9, i10, i11, i12, i13, i14, i15, i16, i17⟩ := sg_all hJ
    refine ev_iload_n de_Mo_countsRow_61 rfl rfl ?_
    refine ev_aload_n de_Mo_countsRow_62 rfl rfl ?_
    refine ev_getfield de_Mo_countsRow_63 rfl fl_Mo_39 rfl ?_
    refine ev_iconst de_Mo_countsRow_66 ?_
    refine ev_iaload de_Mo_countsRow_67 rfl (by omega) (by omega) (by omega) ?_
    refine ev_icmp_ge (tgt := 94) de_Mo_countsRow_68 (by decide) (by omega) (by omega) (fun h68 => ?_) (fun h68 => ?_)
    · skip
      exact l3_Mo_countsRow _ _ htm hto
    · skip
      have q1 := hr k (by omega) (by omega)
      refine ev_aload_n de_Mo_countsRow_71 rfl rfl ?_
      refine ev_getfield de_Mo_countsRow_72 rfl fl_Mo_63 rfl ?_
      refine ev_iload_n de_Mo_countsRow_75 rfl rfl ?_
      refine ev_aload_n de_Mo_countsRow_76 rfl rfl ?_
      refine ev_getfield de_Mo_countsRow_77 rfl fl_Mo_54 rfl ?_
      refine ev_aload_n de_Mo_countsRow_80 rfl rfl ?_
      refine ev_getfield de_Mo_countsRow_81 rfl fl_Mo_60 rfl ?_
      refine ev_iload_n de_Mo_countsRow_84 rfl rfl ?_
      refine ev_iaload de_Mo_countsRow_85 rfl (by omega) (by omega) (by omega) ?_
      refine ev_iaload de_Mo_countsRow_86 rfl (by omega) (by omega) (by omega) ?_
      refine ev_iastore de_Mo_countsRow_87 rfl (by omega) (by omega) (by omega) ?_
      refine ev_world (w' := mo_W _ _ _ _ _ _ _ _ _ _ _ _ _ _ _ _ _ _ _ _ _ _ _ _ _ _ _ _ _ _ _ _ _ _ _ _ _) rfl ?_
      refine ev_iinc (l' := [_, _, _]) de_Mo_countsRow_88 rfl rfl ?_
      refine ev_goto (tgt := 61) de_Mo_countsRow_91 (by decide) ?_
      exact ih (k + 1) _ (by omega) (by omega) (by omega)
set_option maxHeartbeats 4000000 in
set_option maxRecDepth 10000 in
theorem l1_Mo_countsRow {B : Int} (hI : sg_ok B said) (hd : td_d dayAt) (hsl : td_s slotAt) (hr : td_r row (said 1) (said 1)) (htm : ab_in tMany) (hto : ab_in tMost) : ∀ (n : Nat) (k al : Int), 0 ≤ k → k ≤ said 1 → said 1 < k + n → -2000 * k ≤ al → al ≤ 2000 * k → ab_Ev g_G g_rs mt_Mo_countsRow 0 0 0 4 [some (ab_R 0), some (ab_I al), some (ab_I k)] [] (mo_W tape taped rules sign leng clause clauses read next wrong number text made deep lines opn opened stack top word said xx was undone kept sumOf faced slotAt dayAt row bestRow tMany tMost drawX images imageX isMade) (fun r w2 => r = none ∧ ∃ (br : Int → Int) (tm to_ : Int), ab_in tm ∧ ab_in to_ ∧ w2 = (mo_W tape taped rules sign leng clause clauses read next wrong number text made deep lines opn opened stack top word said xx was undone kept sumOf faced slotAt dayAt row (br) (tm) (to_) drawX images imageX isMade)) := by
  intro n
  induction n with
  | zero =>
    intro k al
    intro g0 g1 g2 g3 g4; omega
  | succ n ih =>
    intro k al
    intro g0 g1 g2 g3 g4
    have hJ := hI; obtain ⟨i0, i1, i2, i3, i4, i5, i6, i7, i8, i9, i10, i11, i12, i13, i14, i15, i16, i17⟩ := sg_all hJ
    refine ev_iload_n de_Mo_countsRow_4 rfl rfl ?_
    refine ev_aload_n de_Mo_countsRow_5 rfl rfl ?_
    refine ev_getfield de_Mo_countsRow_6 rfl fl_Mo_39 rfl ?_
    refine ev_iconst de_Mo_countsRow_9 ?_
    refine ev_iaload de_Mo_countsRow_10 rfl (by omega) (by omega) (by omega) ?_
    refine ev_icmp_ge (tgt := 39) de_Mo_countsRow_11 (by decide) (by omega) (by omega) (fun h11 => ?_) (fun h11 => ?_)
    · skip
      refine ev_aload_n de_Mo_countsRow_39 rfl rfl ?_
      refine ev_getfield de_Mo_countsRow_40 rfl fl_Mo_420 rfl ?_
      refine ev_if_eq (tgt := 54) de_Mo_countsRow_43 (by decide) (by omega) (fun h43 => ?_) (fun h43 => ?_)
      · skip
        refine ev_aload_n de_Mo_countsRow_54 rfl rfl ?_
        refine ev_iload_n de_Mo_countsRow_55 rfl rfl ?_
        refine ev_putfield de_Mo_countsRow_56 rfl (fp_Mo_423 _) (Nat.le_of_ble_eq_true rfl) trivial ?_
        refine ev_world (w' := mo_W _ _ _ _ _ _ _ _ _ _ _ _ _ _ _ _ _ _ _ _ _ _ _ _ _ _ _ _ _ _ _ _ _ _ _ _ _) rfl ?_
        refine ev_iconst de_Mo_countsRow_59 ?_
        refine ev_istore_n (l' := [_, _, _]) de_Mo_countsRow_60 rfl (Nat.le_of_ble_eq_true rfl) rfl ?_
        exact l2_Mo_countsRow hI hd hsl hr al htm (by omega) 8 0 _ (by omega) (by omega) (by omega)
      · skip
        refine ev_iload_n de_Mo_countsRow_46 rfl rfl ?_
        refine ev_aload_n de_Mo_countsRow_47 rfl rfl ?_
        refine ev_getfield de_Mo_countsRow_48 rfl fl_Mo_423 rfl ?_
        refine ev_icmp_le (tgt := 94) de_Mo_countsRow_51 (by decide) (by omega) (by omega) (fun h51 => ?_) (fun h51 => ?_)
        · skip
          exact l3_Mo_countsRow _ _ htm hto
        · skip
          refine ev_aload_n de_Mo_countsRow_54 rfl rfl ?_
          refine ev_iload_n de_Mo_countsRow_55 rfl rfl ?_
          refine ev_putfield de_Mo_countsRow_56 rfl (fp_Mo_423 _) (Nat.le_of_ble_eq_true rfl) trivial ?_
          refine ev_world (w' := mo_W _ _ _ _ _ _ _ _ _ _ _ _ _ _ _ _ _ _ _ _ _ _ _ _ _ _ _ _ _ _ _ _ _ _ _ _ _) rfl ?_
          refine ev_iconst de_Mo_countsRow_59 ?_
          refine ev_istore_n (l' := [_, _, _]) de_Mo_countsRow_60 rfl (Nat.le_of_ble_eq_true rfl) rfl ?_
          exact l2_Mo_countsRow hI hd hsl hr al htm (by omega) 8 0 _ (by omega) (by omega) (by omega)
    · skip
      have q1 := hr k (by omega) (by omega)
      have q2 := hd (7 * k + row k) (by omega) (by omega)
      refine ev_iload_n de_Mo_countsRow_14 rfl rfl ?_
      refine ev_aload_n de_Mo_countsRow_15 rfl rfl ?_
      refine ev_getfield de_Mo_countsRow_16 rfl fl_Mo_57 rfl ?_
      refine ev_bipush de_Mo_countsRow_19 rfl ?_
      refine ev_iload_n de_Mo_countsRow_21 rfl rfl ?_
      refine ev_imul de_Mo_countsRow_22 ?_
      refine ev_aload_n de_Mo_countsRow_23 rfl rfl ?_
      refine ev_getfield de_Mo_countsRow_24 rfl fl_Mo_60 rfl ?_
      refine ev_iload_n de_Mo_countsRow_27 rfl rfl ?_
      refine ev_iaload de_Mo_countsRow_28 rfl (by omega) (by omega) (by omega) ?_
      refine ev_iadd de_Mo_countsRow_29 ?_
      refine ev_iaload de_Mo_countsRow_30 rfl (by omega) (by omega) (by omega) ?_
      refine ev_iadd de_Mo_countsRow_31 ?_
      refine ev_istore_n (l' := [_, _, _]) de_Mo_countsRow_32 rfl (Nat.le_of_ble_eq_true rfl) rfl ?_
      refine ev_iinc (l' := [_, _, _]) de_Mo_countsRow_33 rfl rfl ?_
      refine ev_goto (tgt := 4) de_Mo_countsRow_36 (by decide) ?_
      exact ih (k + 1) _ (by omega) (by omega) (by omega) (by omega) (by omega)
set_option maxHeartbeats 4000000 in
set_option maxRecDepth 10000 in
theorem co_Mo_countsRow {B : Int} (hI : sg_ok B said) (hd : td_d dayAt) (hsl : td_s slotAt) (hr : td_r row (said 1) (said 1)) (htm : ab_in tMany) (hto : ab_in tMost) : ab_Mt g_G g_rs mt_Mo_countsRow 0 0 0 [ab_R 0] (mo_W tape taped rules sign leng clause clauses read next wrong number text made deep lines opn opened stack top word said xx was undone kept sumOf faced slotAt dayAt row bestRow tMany tMost drawX images imageX isMade) (fun r w2 => r = none ∧ ∃ (br : Int → Int) (tm to_ : Int), ab_in tm ∧ ab_in to_ ∧ w2 = (mo_W tape taped rules sign leng clause clauses read next wrong number text made deep lines opn opened stack top word said xx was undone kept sumOf faced slotAt dayAt row (br) (tm) (to_) drawX images imageX isMade)) := by
  refine ab_Mt.of rfl (Nat.le_of_ble_eq_true rfl) ?_
  show ab_Ev g_G g_rs mt_Mo_countsRow _ _ _ 0 [some (ab_R 0), none, none] [] _ _
  refine ev_iconst de_Mo_countsRow_0 ?_
  refine ev_istore_n (l' := [_, _, _]) de_Mo_countsRow_1 rfl (Nat.le_of_ble_eq_true rfl) rfl ?_
  refine ev_iconst de_Mo_countsRow_2 ?_
  refine ev_istore_n (l' := [_, _, _]) de_Mo_countsRow_3 rfl (Nat.le_of_ble_eq_true rfl) rfl ?_
  have hJ := hI; obtain ⟨i0, i1, i2, i3, i4, i5, i6, i7, i8, i9, i10, i11, i12, i13, i14, i15, i16, i17⟩ := sg_all hJ
  exact l1_Mo_countsRow hI hd hsl hr htm hto 8 0 0 (by omega) (by omega) (by omega) (by omega) (by omega)
/-- how many HOUSES lie in SLOTS ahead of s, and of those in s the first h -/
def td_c (f : Int → Int) (s h : Int) : Nat → Int
  | 0 => 0
  | j + 1 => td_c f s h j + (if f (46 + (j : Int)) < s ∨ (f (46 + (j : Int)) = s ∧ (j : Int) < h) then 1 else 0)
theorem td_c_b (f : Int → Int) (s h : Int) : ∀ n : Nat, 0 ≤ td_c f s h n ∧ td_c f s h n ≤ (n : Int)
  | 0 => by unfold td_c; omega
  | n + 1 => by
    have ih := td_c_b f s h n
    unfold td_c
    split <;> omega
theorem td_c_lt (f : Int → Int) (s h : Int) (h0 : 0 ≤ h) (hs : f (46 + h) = s) : ∀ n : Nat, h < n → td_c f s h n < (n : Int)
  | 0, hn => by omega
  | n + 1, hn => by
    by_cases e : h = (n : Int)
    · subst e
      have b := td_c_b f s (n : Int) n
      unfold td_c
      rw [if_neg (by omega)]
      omega
    · have ih := td_c_lt f s h h0 hs n (by omega)
      unfold td_c
      split <;> omega
theorem td_c_s (f : Int → Int) (s h : Int) (h0 : 0 ≤ h) : ∀ n : Nat, td_c f s (h + 1) n = td_c f s h n + (if f (46 + h) = s ∧ h < n then 1 else 0)
  | 0 => by unfold td_c; rw [if_neg (by omega)]; rfl
  | n + 1 => by
    have ih := td_c_s f s h h0 n
    unfold td_c
    by_cases e : h = (n : Int)
    · subst e
      rw [ih]
      by_cases c : f (46 + (n : Int)) = s
      · rw [if_pos (show f (46 + (n : Int)) < s ∨ (f (46 + (n : Int)) = s ∧ (n : Int) < (n : Int) + 1) by omega), if_neg (show ¬ (f (46 + (n : Int)) < s ∨ (f (46 + (n : Int)) = s ∧ (n : Int) < (n : Int))) by omega), if_neg (by omega), if_pos (by omega)]
        try omega
      · by_cases c2 : f (46 + (n : Int)) < s
        · rw [if_pos (Or.inl c2), if_pos (Or.inl c2), if_neg (by omega), if_neg (by omega)]
          omega
        · rw [if_neg (by omega), if_neg (by omega), if_neg (by omega), if_neg (by omega)]
    · rw [ih]
      have e1 : (f (46 + (n : Int)) < s ∨ (f (46 + (n : Int)) = s ∧ (n : Int) < h + 1)) ↔ (f (46 + (n : Int)) < s ∨ (f (46 + (n : Int)) = s ∧ (n : Int) < h)) := by omega
      have e2 : (f (46 + h) = s ∧ h < ((n + 1 : Nat) : Int)) ↔ (f (46 + h) = s ∧ h < (n : Int)) := by omega
      simp only [e1, e2]
      omega
theorem td_c_n (f : Int → Int) (s H : Int) : ∀ n : Nat, (n : Int) ≤ H → td_c f (s + 1) 0 n = td_c f s H n
  | 0, _ => rfl
  | n + 1, hn => by
    have ih := td_c_n f s H n (by omega)
    unfold td_c
    rw [ih]
    by_cases c : f (46 + (n : Int)) < s ∨ (f (46 + (n : Int)) = s ∧ (n : Int) < H)
    · rw [if_pos c, if_pos (by omega)]
    · rw [if_neg c, if_neg (by omega)]
theorem td_s_up {slotAt : Int → Int} {j v : Int} (h : td_s slotAt) (hv : 0 ≤ v ∧ v ≤ 11) : td_s (ab_up slotAt j v) := by
  intro k h0 h1
  unfold ab_up
  split
  · exact hv
  · exact h k h0 h1
theorem td_d_up {dayAt : Int → Int} {j v : Int} (h : td_d dayAt) (hv : -2000 ≤ v ∧ v ≤ 2000) : td_d (ab_up dayAt j v) := by
  intro k h0 h1
  unfold ab_up
  split
  · exact hv
  · exact h k h0 h1
theorem td_c_00 {f : Int → Int} (h : ∀ j, 0 ≤ j → j < 7 → 0 ≤ f (46 + j)) : ∀ n : Nat, n ≤ 7 → td_c f 0 0 n = 0
  | 0, _ => rfl
  | n + 1, hn => by
    have ih := td_c_00 h n (by omega)
    have q := h (n : Int) (by omega) (by omega)
    unfold td_c
    rw [ih, if_neg (by omega)]
    rfl
theorem de_Mo_fillsDays_0 : decode prog_14_method_96_code 0 = .ok (.iconst 0, 1) := by decide +kernel
theorem de_Mo_fillsDays_1 : decode prog_14_method_96_code 1 = .ok (.istore_n 1, 1) := by decide +kernel
theorem de_Mo_fillsDays_2 : decode prog_14_method_96_code 2 = .ok (.iconst 0, 1) := by decide +kernel
theorem de_Mo_fillsDays_3 : decode prog_14_method_96_code 3 = .ok (.istore_n 2, 1) := by decide +kernel
theorem de_Mo_fillsDays_4 : decode prog_14_method_96_code 4 = .ok (.iload_n 2, 1) := by decide +kernel
theorem de_Mo_fillsDays_5 : decode prog_14_method_96_code 5 = .ok (.bipush 12, 2) := by decide +kernel
theorem de_Mo_fillsDays_7 : decode prog_14_method_96_code 7 = .ok (.if_icmp .ge 53, 3) := by decide +kernel
theorem de_Mo_fillsDays_10 : decode prog_14_method_96_code 10 = .ok (.iconst 0, 1) := by decide +kernel
theorem de_Mo_fillsDays_11 : decode prog_14_method_96_code 11 = .ok (.istore_n 3, 1) := by decide +kernel
theorem de_Mo_fillsDays_12 : decode prog_14_method_96_code 12 = .ok (.iload_n 3, 1) := by decide +kernel
theorem de_Mo_fillsDays_13 : decode prog_14_method_96_code 13 = .ok (.aload_n 0, 1) := by decide +kernel
theorem de_Mo_fillsDays_14 : decode prog_14_method_96_code 14 = .ok (.getfield 39, 3) := by decide +kernel
theorem de_Mo_fillsDays_17 : decode prog_14_method_96_code 17 = .ok (.iconst 1, 1) := by decide +kernel
theorem de_Mo_fillsDays_18 : decode prog_14_method_96_code 18 = .ok (.iaload, 1) := by decide +kernel
theorem de_Mo_fillsDays_19 : decode prog_14_method_96_code 19 = .ok (.if_icmp .ge 35, 3) := by decide +kernel
theorem de_Mo_fillsDays_22 : decode prog_14_method_96_code 22 = .ok (.aload_n 0, 1) := by decide +kernel
theorem de_Mo_fillsDays_23 : decode prog_14_method_96_code 23 = .ok (.getfield 39, 3) := by decide +kernel
theorem de_Mo_fillsDays_26 : decode prog_14_method_96_code 26 = .ok (.bipush 46, 2) := by decide +kernel
theorem de_Mo_fillsDays_28 : decode prog_14_method_96_code 28 = .ok (.iload_n 3, 1) := by decide +kernel
theorem de_Mo_fillsDays_29 : decode prog_14_method_96_code 29 = .ok (.iadd, 1) := by decide +kernel
theorem de_Mo_fillsDays_30 : decode prog_14_method_96_code 30 = .ok (.iaload, 1) := by decide +kernel
theorem de_Mo_fillsDays_31 : decode prog_14_method_96_code 31 = .ok (.iload_n 2, 1) := by decide +kernel
theorem de_Mo_fillsDays_32 : decode prog_14_method_96_code 32 = .ok (.if_icmp .eq 6, 3) := by decide +kernel
theorem de_Mo_fillsDays_35 : decode prog_14_method_96_code 35 = .ok (.goto 13, 3) := by decide +kernel
theorem de_Mo_fillsDays_38 : decode prog_14_method_96_code 38 = .ok (.aload_n 0, 1) := by decide +kernel
theorem de_Mo_fillsDays_39 : decode prog_14_method_96_code 39 = .ok (.getfield 54, 3) := by decide +kernel
theorem de_Mo_fillsDays_42 : decode prog_14_method_96_code 42 = .ok (.iload_n 1, 1) := by decide +kernel
theorem de_Mo_fillsDays_43 : decode prog_14_method_96_code 43 = .ok (.iload_n 2, 1) := by decide +kernel
theorem de_Mo_fillsDays_44 : decode prog_14_method_96_code 44 = .ok (.iastore, 1) := by decide +kernel
theorem de_Mo_fillsDays_45 : decode prog_14_method_96_code 45 = .ok (.iinc 1 1, 3) := by decide +kernel
theorem de_Mo_fillsDays_48 : decode prog_14_method_96_code 48 = .ok (.iinc 3 1, 3) := by decide +kernel
theorem de_Mo_fillsDays_51 : decode prog_14_method_96_code 51 = .ok (.goto (-39), 3) := by decide +kernel
theorem de_Mo_fillsDays_54 : decode prog_14_method_96_code 54 = .ok (.iinc 2 1, 3) := by decide +kernel
theorem de_Mo_fillsDays_57 : decode prog_14_method_96_code 57 = .ok (.goto (-53), 3) := by decide +kernel
theorem de_Mo_fillsDays_60 : decode prog_14_method_96_code 60 = .ok (.iconst 0, 1) := by decide +kernel
theorem de_Mo_fillsDays_61 : decode prog_14_method_96_code 61 = .ok (.istore_n 2, 1) := by decide +kernel
theorem de_Mo_fillsDays_62 : decode prog_14_method_96_code 62 = .ok (.iload_n 2, 1) := by decide +kernel
theorem de_Mo_fillsDays_63 : decode prog_14_method_96_code 63 = .ok (.aload_n 0, 1) := by decide +kernel
theorem de_Mo_fillsDays_64 : decode prog_14_method_96_code 64 = .ok (.getfield 39, 3) := by decide +kernel
theorem de_Mo_fillsDays_67 : decode prog_14_method_96_code 67 = .ok (.iconst 1, 1) := by decide +kernel
theorem de_Mo_fillsDays_68 : decode prog_14_method_96_code 68 = .ok (.iaload, 1) := by decide +kernel
theorem de_Mo_fillsDays_69 : decode prog_14_method_96_code 69 = .ok (.if_icmp .ge 49, 3) := by decide +kernel
theorem de_Mo_fillsDays_72 : decode prog_14_method_96_code 72 = .ok (.iconst 0, 1) := by decide +kernel
theorem de_Mo_fillsDays_73 : decode prog_14_method_96_code 73 = .ok (.istore_n 3, 1) := by decide +kernel
theorem de_Mo_fillsDays_74 : decode prog_14_method_96_code 74 = .ok (.iload_n 3, 1) := by decide +kernel
theorem de_Mo_fillsDays_75 : decode prog_14_method_96_code 75 = .ok (.aload_n 0, 1) := by decide +kernel
theorem de_Mo_fillsDays_76 : decode prog_14_method_96_code 76 = .ok (.getfield 39, 3) := by decide +kernel
theorem de_Mo_fillsDays_79 : decode prog_14_method_96_code 79 = .ok (.iconst 1, 1) := by decide +kernel
theorem de_Mo_fillsDays_80 : decode prog_14_method_96_code 80 = .ok (.iaload, 1) := by decide +kernel
theorem de_Mo_fillsDays_81 : decode prog_14_method_96_code 81 = .ok (.if_icmp .ge 31, 3) := by decide +kernel
theorem de_Mo_fillsDays_84 : decode prog_14_method_96_code 84 = .ok (.aload_n 0, 1) := by decide +kernel
theorem de_Mo_fillsDays_85 : decode prog_14_method_96_code 85 = .ok (.getfield 57, 3) := by decide +kernel
theorem de_Mo_fillsDays_88 : decode prog_14_method_96_code 88 = .ok (.bipush 7, 2) := by decide +kernel
theorem de_Mo_fillsDays_90 : decode prog_14_method_96_code 90 = .ok (.iload_n 2, 1) := by decide +kernel
theorem de_Mo_fillsDays_91 : decode prog_14_method_96_code 91 = .ok (.imul, 1) := by decide +kernel
theorem de_Mo_fillsDays_92 : decode prog_14_method_96_code 92 = .ok (.iload_n 3, 1) := by decide +kernel
theorem de_Mo_fillsDays_93 : decode prog_14_method_96_code 93 = .ok (.iadd, 1) := by decide +kernel
theorem de_Mo_fillsDays_94 : decode prog_14_method_96_code 94 = .ok (.aload_n 0, 1) := by decide +kernel
theorem de_Mo_fillsDays_95 : decode prog_14_method_96_code 95 = .ok (.iload_n 2, 1) := by decide +kernel
theorem de_Mo_fillsDays_96 : decode prog_14_method_96_code 96 = .ok (.aload_n 0, 1) := by decide +kernel
theorem de_Mo_fillsDays_97 : decode prog_14_method_96_code 97 = .ok (.getfield 54, 3) := by decide +kernel
theorem de_Mo_fillsDays_100 : decode prog_14_method_96_code 100 = .ok (.iload_n 3, 1) := by decide +kernel
theorem de_Mo_fillsDays_101 : decode prog_14_method_96_code 101 = .ok (.iaload, 1) := by decide +kernel
theorem de_Mo_fillsDays_102 : decode prog_14_method_96_code 102 = .ok (.invokevirtual 396, 3) := by decide +kernel
theorem de_Mo_fillsDays_105 : decode prog_14_method_96_code 105 = .ok (.iastore, 1) := by decide +kernel
theorem de_Mo_fillsDays_106 : decode prog_14_method_96_code 106 = .ok (.iinc 3 1, 3) := by decide +kernel
theorem de_Mo_fillsDays_109 : decode prog_14_method_96_code 109 = .ok (.goto (-35), 3) := by decide +kernel
theorem de_Mo_fillsDays_112 : decode prog_14_method_96_code 112 = .ok (.iinc 2 1, 3) := by decide +kernel
theorem de_Mo_fillsDays_115 : decode prog_14_method_96_code 115 = .ok (.goto (-53), 3) := by decide +kernel
theorem de_Mo_fillsDays_118 : decode prog_14_method_96_code 118 = .ok (.return_, 1) := by decide +kernel
set_option maxHeartbeats 4000000 in
set_option maxRecDepth 10000 in
theorem l4_Mo_fillsDays {B : Int} (hI : sg_ok B said) (hB : B ≤ 29000) (x : Int) (h0 : Int) (hh0 : 0 ≤ h0) (hh1 : h0 < said 1) (kk : ∀ (k : Int) (dayAt kept : Int → Int), td_d dayAt → ab_Ev g_G g_rs mt_Mo_fillsDays 5 0 0 112 [some (ab_R 0), some (ab_I x), some (ab_I h0), some (ab_I k)] [] (mo_W tape taped rules sign leng clause clauses read next wrong number text made deep lines opn opened stack top word said xx was undone kept sumOf faced slotAt dayAt row bestRow tMany tMost drawX images imageX isMade) (fun r w2 => r = none ∧ ∃ (sl dy kp : Int → Int), td_s sl ∧ td_d dy ∧ w2 = (mo_W tape taped rules sign leng clause clauses read next wrong number text made deep lines opn opened stack top word said xx was undone (kp) sumOf faced (sl) (dy) row bestRow tMany tMost drawX images imageX isMade))) (hsl : td_s slotAt) : ∀ (n : Nat) (k : Int) (dayAt kept : Int → Int), 0 ≤ k → k ≤ said 1 → said 1 < k + n → td_d dayAt → ab_Ev g_G g_rs mt_Mo_fillsDays 5 0 0 74 [some (ab_R 0), some (ab_I x), some (ab_I h0), some (ab_I k)] [] (mo_W tape taped rules sign leng clause clauses read next wrong number text made deep lines opn opened stack top word said xx was undone kept sumOf faced slotAt dayAt row bestRow tMany tMost drawX images imageX isMade) (fun r w2 => r = none ∧ ∃ (sl dy kp : Int → Int), td_s sl ∧ td_d dy ∧ w2 = (mo_W tape taped rules sign leng clause clauses read next wrong number text made deep lines opn opened stack top word said xx was undone (kp) sumOf faced (sl) (dy) row bestRow tMany tMost drawX images imageX isMade)) := by
  intro n
  induction n with
  | zero =>
    intro k dayAt kept
    intro g0 g1 g2 hd; omega
  | succ n ih =>
    intro k dayAt kept
    intro g0 g1 g2 hd
    have hJ := hI; obtain ⟨i0, i1, i2, i3, i4, i5, i6, i7, i8, i9, i10, i11, i12, i13, i14, i15, i16, i17⟩ := sg_all hJ
    refine ev_iload_n de_Mo_fillsDays_74 rfl rfl ?_
    refine ev_aload_n de_Mo_fillsDays_75 rfl rfl ?_
    refine ev_getfield de_Mo_fillsDays_76 rfl fl_Mo_39 rfl ?_
    refine ev_iconst de_Mo_fillsDays_79 ?_
    refine ev_iaload de_Mo_fillsDays_80 rfl (by omega) (by omega) (by omega) ?_
    refine ev_icmp_ge (tgt := 112) de_Mo_fillsDays_81 (by decide) (by omega) (by omega) (fun h81 => ?_) (fun h81 => ?_)
    · skip
      exact kk _ _ _ hd
    · skip
      have q1 := hsl k (by omega) (by omega)
      have q2 : -2000 ≤ sp_dayIn said h0 (slotAt k) ∧ sp_dayIn said h0 (slotAt k) ≤ 2000 := by have q := sp_dayT_b hI hB (slot := slotAt k) hh0 (show h0 < 7 by omega) 24 (by decide); unfold sp_dayIn; omega
      refine ev_aload_n de_Mo_fillsDays_84 rfl rfl ?_
      refine ev_getfield de_Mo_fillsDays_85 rfl fl_Mo_57 rfl ?_
      refine ev_bipush de_Mo_fillsDays_88 rfl ?_
      refine ev_iload_n de_Mo_fillsDays_90 rfl rfl ?_
      refine ev_imul de_Mo_fillsDays_91 ?_
      refine ev_iload_n de_Mo_fillsDays_92 rfl rfl ?_
      refine ev_iadd de_Mo_fillsDays_93 ?_
      refine ev_aload_n de_Mo_fillsDays_94 rfl rfl ?_
      refine ev_iload_n de_Mo_fillsDays_95 rfl rfl ?_
      refine ev_aload_n de_Mo_fillsDays_96 rfl rfl ?_
      refine ev_getfield de_Mo_fillsDays_97 rfl fl_Mo_54 rfl ?_
      refine ev_iload_n de_Mo_fillsDays_100 rfl rfl ?_
      refine ev_iaload de_Mo_fillsDays_101 rfl (by omega) (by omega) (by omega) ?_
      refine ev_vv (ci := 11) de_Mo_fillsDays_102 (co_Mo_dayIn hI hB h0 (slotAt k) hh0 (by omega) q1.1 q1.2) kb_Mo_396 ⟨im_Mo_dayIn, se_Mo_dayIn⟩ rfl rfl rfl (Nat.le_of_ble_eq_true rfl) (by decide) rfl ?_
      refine ev_iastore de_Mo_fillsDays_105 rfl (by omega) (by omega) (by omega) ?_
      refine ev_world (w' := mo_W _ _ _ _ _ _ _ _ _ _ _ _ _ _ _ _ _ _ _ _ _ _ _ _ _ _ _ _ _ _ _ _ _ _ _ _ _) rfl ?_
      refine ev_iinc (l' := [_, _, _, _]) de_Mo_fillsDays_106 rfl rfl ?_
      refine ev_goto (tgt := 74) de_Mo_fillsDays_109 (by decide) ?_
      exact ih (k + 1) _ _ (by omega) (by omega) (by omega) (td_d_up hd (by omega))
set_option maxHeartbeats 4000000 in
set_option maxRecDepth 10000 in
theorem l3_Mo_fillsDays {B : Int} (hI : sg_ok B said) (hB : B ≤ 29000) (x : Int) (hsl : td_s slotAt) : ∀ (n : Nat) (k : Int) (y : Option ab_V) (dayAt kept : Int → Int), 0 ≤ k → k ≤ said 1 → said 1 < k + n → td_d dayAt → ab_Ev g_G g_rs mt_Mo_fillsDays 5 0 0 62 [some (ab_R 0), some (ab_I x), some (ab_I k), y] [] (mo_W tape taped rules sign leng clause clauses read next wrong number text made deep lines opn opened stack top word said xx was undone kept sumOf faced slotAt dayAt row bestRow tMany tMost drawX images imageX isMade) (fun r w2 => r = none ∧ ∃ (sl dy kp : Int → Int), td_s sl ∧ td_d dy ∧ w2 = (mo_W tape taped rules sign leng clause clauses read next wrong number text made deep lines opn opened stack top word said xx was undone (kp) sumOf faced (sl) (dy) row bestRow tMany tMost drawX images imageX isMade)) := by
  intro n
  induction n with
  | zero =>
    intro k y dayAt kept
    intro g0 g1 g2 hd; omega
  | succ n ih =>
    intro k y dayAt kept
    intro g0 g1 g2 hd
    have hJ := hI; obtain ⟨i0, i1, i2, i3, i4, i5, i6, i7, i8, i9, i10, i11, i12, i13, i14, i15, i16, i17⟩ := sg_all hJ
    refine ev_iload_n de_Mo_fillsDays_62 rfl rfl ?_
    refine ev_aload_n de_Mo_fillsDays_63 rfl rfl ?_
    refine ev_getfield de_Mo_fillsDays_64 rfl fl_Mo_39 rfl ?_
    refine ev_iconst de_Mo_fillsDays_67 ?_
    refine ev_iaload de_Mo_fillsDays_68 rfl (by omega) (by omega) (by omega) ?_
    refine ev_icmp_ge (tgt := 118) de_Mo_fillsDays_69 (by decide) (by omega) (by omega) (fun h69 => ?_) (fun h69 => ?_)
    · skip
      exact ev_return de_Mo_fillsDays_118 rfl ⟨rfl, _, _, _, hsl, hd, rfl⟩
    · skip
      refine ev_iconst de_Mo_fillsDays_72 ?_
      refine ev_istore_n (l' := [_, _, _, _]) de_Mo_fillsDays_73 rfl (Nat.le_of_ble_eq_true rfl) rfl ?_
      refine l4_Mo_fillsDays hI hB x k (by omega) (by omega) (fun k3 dayAt kept hd => ?_) hsl 8 0 dayAt kept (by omega) (by omega) (by omega) hd
      refine ev_iinc (l' := [_, _, _, _]) de_Mo_fillsDays_112 rfl rfl ?_
      refine ev_goto (tgt := 62) de_Mo_fillsDays_115 (by decide) ?_
      exact ih (k + 1) _ _ _ (by omega) (by omega) (by omega) hd
set_option maxHeartbeats 4000000 in
set_option maxRecDepth 10000 in
theorem l2_Mo_fillsDays {B : Int} (hI : sg_ok B said) (s : Int) (hs0 : 0 ≤ s) (hs1 : s ≤ 11) (kk : ∀ (k : Int) (slotAt : Int → Int), td_s slotAt → ab_Ev g_G g_rs mt_Mo_fillsDays 5 0 0 54 [some (ab_R 0), some (ab_I (td_c said s (said 1) (said 1).toNat)), some (ab_I s), some (ab_I k)] [] (mo_W tape taped rules sign leng clause clauses read next wrong number text made deep lines opn opened stack top word said xx was undone kept sumOf faced slotAt dayAt row bestRow tMany tMost drawX images imageX isMade) (fun r w2 => r = none ∧ ∃ (sl dy kp : Int → Int), td_s sl ∧ td_d dy ∧ w2 = (mo_W tape taped rules sign leng clause clauses read next wrong number text made deep lines opn opened stack top word said xx was undone (kp) sumOf faced (sl) (dy) row bestRow tMany tMost drawX images imageX isMade))) : ∀ (n : Nat) (k : Int) (slotAt : Int → Int), 0 ≤ k → k ≤ said 1 → said 1 < k + n → td_s slotAt → ab_Ev g_G g_rs mt_Mo_fillsDays 5 0 0 12 [some (ab_R 0), some (ab_I (td_c said s k (said 1).toNat)), some (ab_I s), some (ab_I k)] [] (mo_W tape taped rules sign leng clause clauses read next wrong number text made deep lines opn opened stack top word said xx was undone kept sumOf faced slotAt dayAt row bestRow tMany tMost drawX images imageX isMade) (fun r w2 => r = none ∧ ∃ (sl dy kp : Int → Int), td_s sl ∧ td_d dy ∧ w2 = (mo_W tape taped rules sign leng clause clauses read next wrong number text made deep lines opn opened stack top word said xx was undone (kp) sumOf faced (sl) (dy) row bestRow tMany tMost drawX images imageX isMade)) := by
  intro n
  induction n with
  | zero =>
    intro k slotAt
    intro g0 g1 g2 hsl; omega
  | succ n ih =>
    intro k slotAt
    intro g0 g1 g2 hsl
    have hJ := hI; obtain ⟨i0, i1, i2, i3, i4, i5, i6, i7, i8, i9, i10, i11, i12, i13, i14, i15, i16, i17⟩ := sg_all hJ
    have cb := td_c_b said s k (said 1).toNat
    have eS := td_c_s said s k g0 (said 1).toNat
    refine ev_iload_n de_Mo_fillsDays_12 rfl rfl ?_
    refine ev_aload_n de_Mo_fillsDays_13 rfl rfl ?_
    refine ev_getfield de_Mo_fillsDays_14 rfl fl_Mo_39 rfl ?_
    refine ev_iconst de_Mo_fillsDays_17 ?_
    refine ev_iaload de_Mo_fillsDays_18 rfl (by omega) (by omega) (by omega) ?_
    refine ev_icmp_ge (tgt := 54) de_Mo_fillsDays_19 (by decide) (by omega) (by omega) (fun h19 => ?_) (fun h19 => ?_)
    · skip
      have ek : k = said 1 := by omega
      subst ek
      exact kk _ _ hsl
    · skip
      have q1 := i11 (46 + k) (by omega) (by omega)
      refine ev_aload_n de_Mo_fillsDays_22 rfl rfl ?_
      refine ev_getfield de_Mo_fillsDays_23 rfl fl_Mo_39 rfl ?_
      refine ev_bipush de_Mo_fillsDays_26 rfl ?_
      refine ev_iload_n de_Mo_fillsDays_28 rfl rfl ?_
      refine ev_iadd de_Mo_fillsDays_29 ?_
      refine ev_iaload de_Mo_fillsDays_30 rfl (by omega) (by omega) (by omega) ?_
      refine ev_iload_n de_Mo_fillsDays_31 rfl rfl ?_
      refine ev_icmp_eq (tgt := 38) de_Mo_fillsDays_32 (by decide) (by omega) (by omega) (fun h32 => ?_) (fun h32 => ?_)
      · skip
        have cl := td_c_lt said s k g0 h32 (said 1).toNat (by omega)
        rw [if_pos (by omega)] at eS
        refine ev_aload_n de_Mo_fillsDays_38 rfl rfl ?_
        refine ev_getfield de_Mo_fillsDays_39 rfl fl_Mo_54 rfl ?_
        refine ev_iload_n de_Mo_fillsDays_42 rfl rfl ?_
        refine ev_iload_n de_Mo_fillsDays_43 rfl rfl ?_
        refine ev_iastore de_Mo_fillsDays_44 rfl (by omega) (by omega) (by omega) ?_
        refine ev_world (w' := mo_W _ _ _ _ _ _ _ _ _ _ _ _ _ _ _ _ _ _ _ _ _ _ _ _ _ _ _ _ _ _ _ _ _ _ _ _ _) rfl ?_
        refine ev_iinc (l' := [_, _, _, _]) de_Mo_fillsDays_45 rfl rfl ?_
        refine ev_iinc (l' := [_, _, _, _]) de_Mo_fillsDays_48 rfl rfl ?_
        refine ev_goto (tgt := 12) de_Mo_fillsDays_51 (by decide) ?_
        rw [← eS]
        exact ih (k + 1) _ (by omega) (by omega) (by omega) (td_s_up hsl (by omega))
      · skip
        rw [if_neg (by omega), Int.add_zero] at eS
        refine ev_goto (tgt := 48) de_Mo_fillsDays_35 (by decide) ?_
        refine ev_iinc (l' := [_, _, _, _]) de_Mo_fillsDays_48 rfl rfl ?_
        refine ev_goto (tgt := 12) de_Mo_fillsDays_51 (by decide) ?_
        rw [← eS]
        exact ih (k + 1) _ (by omega) (by omega) (by omega) hsl
set_option maxHeartbeats 4000000 in
set_option maxRecDepth 10000 in
theorem l1_Mo_fillsDays {B : Int} (hI : sg_ok B said) (hB : B ≤ 29000) (hd : td_d dayAt) : ∀ (n : Nat) (s : Int) (y : Option ab_V) (slotAt : Int → Int), 0 ≤ s → s ≤ 12 → 12 < s + n → td_s slotAt → ab_Ev g_G g_rs mt_Mo_fillsDays 5 0 0 4 [some (ab_R 0), some (ab_I (td_c said s 0 (said 1).toNat)), some (ab_I s), y] [] (mo_W tape taped rules sign leng clause clauses read next wrong number text made deep lines opn opened stack top word said xx was undone kept sumOf faced slotAt dayAt row bestRow tMany tMost drawX images imageX isMade) (fun r w2 => r = none ∧ ∃ (sl dy kp : Int → Int), td_s sl ∧ td_d dy ∧ w2 = (mo_W tape taped rules sign leng clause clauses read next wrong number text made deep lines opn opened stack top word said xx was undone (kp) sumOf faced (sl) (dy) row bestRow tMany tMost drawX images imageX isMade)) := by
  intro n
  induction n with
  | zero =>
    intro s y slotAt
    intro g0 g1 g2 hsl; omega
  | succ n ih =>
    intro s y slotAt
    intro g0 g1 g2 hsl
    have hJ := hI; obtain ⟨i0, i1, i2, i3, i4, i5, i6, i7, i8, i9, i10, i11, i12, i13, i14, i15, i16, i17⟩ := sg_all hJ
    have eN := td_c_n said s (said 1) (said 1).toNat (by omega)
    refine ev_iload_n de_Mo_fillsDays_4 rfl rfl ?_
    refine ev_bipush de_Mo_fillsDays_5 rfl ?_
    refine ev_icmp_ge (tgt := 60) de_Mo_fillsDays_7 (by decide) (by omega) (by omega) (fun h7 => ?_) (fun h7 => ?_)
    · skip
      refine ev_iconst de_Mo_fillsDays_60 ?_
      refine ev_istore_n (l' := [_, _, _, _]) de_Mo_fillsDays_61 rfl (Nat.le_of_ble_eq_true rfl) rfl ?_
      exact l3_Mo_fillsDays hI hB _ hsl 8 0 _ dayAt kept (by omega) (by omega) (by omega) hd
    · skip
      refine ev_iconst de_Mo_fillsDays_10 ?_
      refine ev_istore_n (l' := [_, _, _, _]) de_Mo_fillsDays_11 rfl (Nat.le_of_ble_eq_true rfl) rfl ?_
      refine l2_Mo_fillsDays hI s g0 (by omega) (fun k slotAt hsl => ?_) 8 0 slotAt (by omega) (by omega) (by omega) hsl
      refine ev_iinc (l' := [_, _, _, _]) de_Mo_fillsDays_54 rfl rfl ?_
      refine ev_goto (tgt := 4) de_Mo_fillsDays_57 (by decide) ?_
      rw [← eN]
      exact ih (s + 1) _ _ (by omega) (by omega) (by omega) hsl
set_option maxHeartbeats 4000000 in
set_option maxRecDepth 10000 in
theorem co_Mo_fillsDays {B : Int} (hI : sg_ok B said) (hB : B ≤ 29000) (hd : td_d dayAt) (hsl : td_s slotAt) : ab_Mt g_G g_rs mt_Mo_fillsDays 5 0 0 [ab_R 0] (mo_W tape taped rules sign leng clause clauses read next wrong number text made deep lines opn opened stack top word said xx was undone kept sumOf faced slotAt dayAt row bestRow tMany tMost drawX images imageX isMade) (fun r w2 => r = none ∧ ∃ (sl dy kp : Int → Int), td_s sl ∧ td_d dy ∧ w2 = (mo_W tape taped rules sign leng clause clauses read next wrong number text made deep lines opn opened stack top word said xx was undone (kp) sumOf faced (sl) (dy) row bestRow tMany tMost drawX images imageX isMade)) := by
  refine ab_Mt.of rfl (Nat.le_of_ble_eq_true rfl) ?_
  show ab_Ev g_G g_rs mt_Mo_fillsDays _ _ _ 0 [some (ab_R 0), none, none, none] [] _ _
  refine ev_iconst de_Mo_fillsDays_0 ?_
  refine ev_istore_n (l' := [_, _, _, _]) de_Mo_fillsDays_1 rfl (Nat.le_of_ble_eq_true rfl) rfl ?_
  refine ev_iconst de_Mo_fillsDays_2 ?_
  refine ev_istore_n (l' := [_, _, _, _]) de_Mo_fillsDays_3 rfl (Nat.le_of_ble_eq_true rfl) rfl ?_
  have hJ := hI; obtain ⟨i0, i1, i2, i3, i4, i5, i6, i7, i8, i9, i10, i11, i12, i13, i14, i15, i16, i17⟩ := sg_all hJ
  have e0 := td_c_00 (f := said) (fun j h0 h1 => (i11 (46 + j) (by omega) (by omega)).1) (said 1).toNat (by omega)
  refine ev_loc (l2 := [some (ab_R 0), some (ab_I (td_c said 0 0 (said 1).toNat)), some (ab_I 0), none]) (by rw [e0]) ?_
  exact l1_Mo_fillsDays hI hB hd 13 0 none slotAt (by omega) (by omega) (by omega) hsl
end MO
