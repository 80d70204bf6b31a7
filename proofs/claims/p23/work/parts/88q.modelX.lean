section MO
variable {tape : Int → Int} {taped : Int} {rules : Int} {sign : Int → Int} {leng : Int → Int} {clause : Int → Int} {clauses : Int → Int} {read : Int → Int} {next : Int} {wrong : Int} {number : Int} {text : Int} {made : Int} {deep : Int} {lines : Int} {opn : Int → Int} {opened : Int} {stack : Int → Int64} {top : Int} {word : Int → Int64} {said : Int → Int} {xx : Int} {was : Int → Int} {undone : Int} {kept : Int → Int} {sumOf : Int → Int} {faced : Int → Int} {slotAt : Int → Int} {dayAt : Int → Int} {row : Int → Int} {bestRow : Int → Int} {tMany : Int} {tMost : Int} {drawX : Int64} {images : Int → Int} {imageX : Int → Int} {isMade : Int → Int}
/-! the reference's trade: exactly -/
theorem tz_hs_of {B : Int} {f : Int → Int} (hI : sg_ok B f) (hd : tz_ds f) : tz_hs f := ⟨hd, (sg_all hI).2.1, (sg_all hI).2.2.2.2.2.2.2.2.2.2.2.1⟩
theorem tz_N_b {B : Int} {f : Int → Int} (hI : sg_ok B f) (hB : B ≤ 29000) {h : Int} (h0 : 0 ≤ h) (h1 : h < 7) : -2000 ≤ tz_N f h ∧ tz_N f h ≤ 2000 := by
  have q := sp_dayT_b hI hB (slot := f (46 + h)) h0 h1 24 (by decide)
  unfold tz_N sp_dayIn
  omega
theorem tz_D_b {B : Int} {f : Int → Int} (hI : sg_ok B f) (hB : B ≤ 29000) (j : Int) (j0 : 0 ≤ j) (j1 : j < 49) : -2000 ≤ tz_D f j ∧ tz_D f j ≤ 2000 := by
  have q := sp_dayT_b hI hB (slot := tz_sl f (j % 7)) (h := j / 7) (by omega) (by omega) 24 (by decide)
  unfold tz_D sp_dayIn
  omega
def tz_sx (f slotAt : Int → Int) : Prop := ∀ k, 0 ≤ k → k < f 1 → slotAt k = tz_sl f k
def tz_dx (f dayAt : Int → Int) : Prop := ∀ h k : Int, 0 ≤ h → h < f 1 → 0 ≤ k → k < f 1 → dayAt (7 * h + k) = tz_D f (7 * h + k)
def tz_r (L : List Nat) (j : Int) : Int := (((L[j.toNat]?).getD 0 : Nat) : Int)
def tz_sr (D row : Int → Int) : Nat → Int
  | 0 => 0
  | k + 1 => tz_sr D row k + D (7 * (k : Int) + row (k : Int))
theorem tz_sr_cg (D : Int → Int) {r1 r2 : Int → Int} : ∀ n : Nat, (∀ j : Nat, j < n → r1 (j : Int) = r2 (j : Int)) → tz_sr D r1 n = tz_sr D r2 n
  | 0, _ => rfl
  | n + 1, h => by
    have ih := tz_sr_cg D n (fun j hj => h j (by omega))
    show tz_sr D r1 n + D (7 * (n : Int) + r1 (n : Int)) = tz_sr D r2 n + D (7 * (n : Int) + r2 (n : Int))
    rw [ih, h n (by omega)]
theorem tz_sr_b {D row : Int → Int} {H : Int} (hH : H ≤ 7) (hD : ∀ j, 0 ≤ j → j < 49 → -2000 ≤ D j ∧ D j ≤ 2000) : ∀ n : Nat, n ≤ 7 → td_r row (n : Int) H → -2000 * (n : Int) ≤ tz_sr D row n ∧ tz_sr D row n ≤ 2000 * (n : Int)
  | 0, _, _ => by show -2000 * ((0 : Nat) : Int) ≤ 0 ∧ (0 : Int) ≤ 2000 * ((0 : Nat) : Int); omega
  | n + 1, hn, hr => by
    have ih := tz_sr_b hH hD n (by omega) (fun j a b => hr j a (by omega))
    have r := hr (n : Int) (by omega) (by omega)
    have d := hD (7 * (n : Int) + row (n : Int)) (by omega) (by omega)
    show _ ≤ tz_sr D row n + D (7 * (n : Int) + row (n : Int)) ∧ tz_sr D row n + D (7 * (n : Int) + row (n : Int)) ≤ _
    omega
theorem tz_r_l (P : List Nat) (k : Nat) (L : List Nat) {j : Int} (j0 : 0 ≤ j) (j1 : j < (P.length : Int)) : tz_r (P ++ k :: L) j = tz_r P j := by
  unfold tz_r
  rw [List.getElem?_append_left (by omega)]
theorem tz_r_k (P : List Nat) (k : Nat) (L : List Nat) : tz_r (P ++ k :: L) (P.length : Int) = (k : Int) := by
  unfold tz_r
  rw [Int.toNat_natCast, List.getElem?_append_right (Nat.le_refl _), Nat.sub_self]
  rfl
def tz_rel (slotAt : Int → Int) (H : Int) (X : Int × Int × List Nat) (tMany tMost : Int) (bestRow : Int → Int) : Prop := tMany = X.1 ∧ tMost = X.2.1 ∧ (0 < X.1 → ∀ j, 0 ≤ j → j < H → bestRow j = slotAt (tz_r X.2.2 j))
theorem tz_leaf {slotAt row bestRow br : Int → Int} {H : Int} {X : Int × Int × List Nat} {tMany tMost S : Int} {P : List Nat} (h : tz_rel slotAt H X tMany tMost bestRow) (hX : 0 ≤ X.1) (hr : ∀ j, 0 ≤ j → j < H → row j = tz_r P j) (h1 : (tMany = 0 ∨ tMost < S) → ∀ j, 0 ≤ j → j < H → br j = slotAt (row j)) (h2 : ¬ (tMany = 0 ∨ tMost < S) → br = bestRow) : tz_rel slotAt H (tz_a X S 1 0 (P ++ [])) (tMany + 1) (if tMany = 0 ∨ tMost < S then S else tMost) br := by
  obtain ⟨rfl, rfl, e3⟩ := h
  unfold tz_a
  rw [if_neg (show ¬ (1 : Int) = 0 by decide), Int.add_zero, List.append_nil]
  by_cases c : X.1 = 0 ∨ X.2.1 < S
  · rw [if_pos c, if_pos c]
    exact ⟨rfl, rfl, fun _ j a b => by rw [h1 c j a b, hr j a b]⟩
  · rw [if_neg c, if_neg c]
    refine ⟨rfl, rfl, fun _ j a b => ?_⟩
    rw [h2 c]
    exact e3 (by omega) j a b
theorem tz_x_sk {D N : Int → Int} {n m : Nat} {h : Int} {u : Nat} {P : List Nat} {S : Int} {X : Int × Int × List Nat} {k0 : Nat} : ∀ d : Nat, (∀ j : Nat, k0 ≤ j → j < k0 + d → tz_ok D N h u j = false) → tz_x D N n m h u P S X (k0 + d) = tz_x D N n m h u P S X k0
  | 0, _ => rfl
  | d + 1, hn => by
    have ih := tz_x_sk (n := n) (m := m) (P := P) (S := S) (X := X) d (fun j a b => hn j a (by omega))
    show (if tz_ok D N h u (k0 + d) = true then _ else tz_x D N n m h u P S X (k0 + d)) = _
    rw [if_neg (by rw [hn (k0 + d) (by omega) (by omega)]; decide)]
    exact ih
theorem tz_x_b {D N : Int → Int} {n m : Nat} (hn : n ≤ 7) (hm : m ≤ n) (hD : ∀ j, 0 ≤ j → j < 49 → -2000 ≤ D j ∧ D j ≤ 2000) (h : Int) (u : Nat) (P : List Nat) (S : Int) (X : Int × Int × List Nat) (hX : 0 ≤ X.1) : ∀ k : Nat, 0 ≤ (tz_x D N n m h u P S X k).1 ∧ (tz_x D N n m h u P S X k).1 ≤ X.1 + ((k * 7 ^ m : Nat) : Int)
  | 0 => by
    show 0 ≤ X.1 ∧ X.1 ≤ X.1 + ((0 * 7 ^ m : Nat) : Int)
    omega
  | k + 1 => by
    have ih := tz_x_b (N := N) hn hm hD h u P S X hX k
    have b := tz_p_b (N := N) hn hD m hm (u ||| 2 ^ k)
    have e : tz_x D N n m h u P S X (k + 1) = if tz_ok D N h u k = true then tz_a (tz_x D N n m h u P S X k) (S + D (7 * h + (k : Int))) (tz_p D N n m (u ||| 2 ^ k)).1 (tz_p D N n m (u ||| 2 ^ k)).2.1 (P ++ k :: tz_f D N n m (u ||| 2 ^ k)) else tz_x D N n m h u P S X k := rfl
    have kp : ((k + 1) * 7 ^ m : Nat) = k * 7 ^ m + 7 ^ m := Nat.succ_mul k _
    rw [e, kp]
    generalize tz_x D N n m h u P S X k = Y at ih ⊢
    unfold tz_a
    split
    · split
      · omega
      · split
        · show 0 ≤ Y.1 + _ ∧ Y.1 + _ ≤ _
          omega
        · show 0 ≤ Y.1 + _ ∧ Y.1 + _ ≤ _
          omega
    · omega
set_option maxHeartbeats 4000000 in
set_option maxRecDepth 10000 in
theorem lo_Mo_dayNow_x {B : Int} (hI : sg_ok B said) (hd : td_d dayAt) (hsl : td_s slotAt) (hs : tz_hs said) (hsx : tz_sx said slotAt) (hdx : tz_dx said dayAt) (h0 : Int) (hh0 : 0 ≤ h0) (hh1 : h0 < said 1) : ∀ (n : Nat) (k : Int), 0 ≤ k → k ≤ said 1 → said 1 < k + n → (∀ j, 0 ≤ j → j < k → tz_sl said j ≠ said (46 + h0)) → ab_Ev g_G g_rs mt_Mo_dayNow 0 0 0 2 [some (ab_R 0), some (ab_I h0), some (ab_I k)] [] (mo_W tape taped rules sign leng clause clauses read next wrong number text made deep lines opn opened stack top word said xx was undone kept sumOf faced slotAt dayAt row bestRow tMany tMost drawX images imageX isMade) (ab_is (some (ab_I (tz_N said h0))) (mo_W tape taped rules sign leng clause clauses read next wrong number text made deep lines opn opened stack top word said xx was undone kept sumOf faced slotAt dayAt row bestRow tMany tMost drawX images imageX isMade)) := by
  intro n
  induction n with
  | zero =>
    intro k
    intro g0 g1 g2 g3; omega
  | succ n ih =>
    intro k
    intro g0 g1 g2 g3
    have hJ := hI; obtain ⟨i0, i1, i2, i3, i4, i5, i6, i7, i8, i9, i10, i11, i12, i13, i14, i15, i16, i17⟩ := sg_all hJ
    refine ev_iload_n de_Mo_dayNow_2 rfl rfl ?_
    refine ev_aload_n de_Mo_dayNow_3 rfl rfl ?_
    refine ev_getfield de_Mo_dayNow_4 rfl fl_Mo_39 rfl ?_
    refine ev_iconst de_Mo_dayNow_7 ?_
    refine ev_iaload de_Mo_dayNow_8 rfl (by omega) (by omega) (by omega) ?_
    refine ev_icmp_ge (tgt := 48) de_Mo_dayNow_9 (by decide) (by omega) (by omega) (fun h9 => ?_) (fun h9 => ?_)
    · skip
      obtain ⟨j, j1, j2⟩ := tz_sl_h hs hh0 hh1
      exact absurd j2 (g3 (j : Int) (by omega) (by omega))
    · skip
      have q1 := hsl k (by omega) (by omega)
      have q2 := i11 (46 + h0) (by omega) (by omega)
      have q3 := hd (7 * h0 + k) (by omega) (by omega)
      refine ev_aload_n de_Mo_dayNow_12 rfl rfl ?_
      refine ev_getfield de_Mo_dayNow_13 rfl fl_Mo_54 rfl ?_
      refine ev_iload_n de_Mo_dayNow_16 rfl rfl ?_
      refine ev_iaload de_Mo_dayNow_17 rfl (by omega) (by omega) (by omega) ?_
      refine ev_aload_n de_Mo_dayNow_18 rfl rfl ?_
      refine ev_getfield de_Mo_dayNow_19 rfl fl_Mo_39 rfl ?_
      refine ev_bipush de_Mo_dayNow_22 rfl ?_
      refine ev_iload_n de_Mo_dayNow_24 rfl rfl ?_
      refine ev_iadd de_Mo_dayNow_25 ?_
      refine ev_iaload de_Mo_dayNow_26 rfl (by omega) (by omega) (by omega) ?_
      refine ev_icmp_ne (tgt := 42) de_Mo_dayNow_27 (by decide) (by omega) (by omega) (fun h27 => ?_) (fun h27 => ?_)
      · skip
        refine ev_iinc (l' := [_, _, _]) de_Mo_dayNow_42 rfl rfl ?_
        refine ev_goto (tgt := 2) de_Mo_dayNow_45 (by decide) ?_
        exact ih (k + 1) (by omega) (by omega) (by omega) (fun j j0 j1 => by by_cases e : j = k; (rw [e, ← hsx k g0 (by omega)]; exact h27); exact g3 j j0 (by omega))
      · skip
        refine ev_aload_n de_Mo_dayNow_30 rfl rfl ?_
        refine ev_getfield de_Mo_dayNow_31 rfl fl_Mo_57 rfl ?_
        refine ev_bipush de_Mo_dayNow_34 rfl ?_
        refine ev_iload_n de_Mo_dayNow_36 rfl rfl ?_
        refine ev_imul de_Mo_dayNow_37 ?_
        refine ev_iload_n de_Mo_dayNow_38 rfl rfl ?_
        refine ev_iadd de_Mo_dayNow_39 ?_
        refine ev_iaload de_Mo_dayNow_40 rfl (by omega) (by omega) (by omega) ?_
        exact ev_ireturn de_Mo_dayNow_41 rfl ⟨congrArg (fun z => some (ab_I z)) (by rw [hdx h0 k hh0 hh1 g0 (by omega), tz_D_e said g0 (by omega), ← hsx k g0 (by omega)]; (first | rw [h27] | rw [Decidable.byContradiction h27]); rfl), rfl⟩
set_option maxHeartbeats 4000000 in
set_option maxRecDepth 10000 in
theorem co_Mo_dayNow_x {B : Int} (hI : sg_ok B said) (hd : td_d dayAt) (hsl : td_s slotAt) (hs : tz_hs said) (hsx : tz_sx said slotAt) (hdx : tz_dx said dayAt) (h0 : Int) (hh0 : 0 ≤ h0) (hh1 : h0 < said 1) : ab_Mt g_G g_rs mt_Mo_dayNow 0 0 0 [ab_R 0, ab_I h0] (mo_W tape taped rules sign leng clause clauses read next wrong number text made deep lines opn opened stack top word said xx was undone kept sumOf faced slotAt dayAt row bestRow tMany tMost drawX images imageX isMade) (ab_is (some (ab_I (tz_N said h0))) (mo_W tape taped rules sign leng clause clauses read next wrong number text made deep lines opn opened stack top word said xx was undone kept sumOf faced slotAt dayAt row bestRow tMany tMost drawX images imageX isMade)) := by
  refine ab_Mt.of rfl (Nat.le_of_ble_eq_true rfl) ?_
  show ab_Ev g_G g_rs mt_Mo_dayNow _ _ _ 0 [some (ab_R 0), some (ab_I h0), none] [] _ _
  refine ev_iconst de_Mo_dayNow_0 ?_
  refine ev_istore_n (l' := [_, _, _]) de_Mo_dayNow_1 rfl (Nat.le_of_ble_eq_true rfl) rfl ?_
  have hJ := hI; obtain ⟨i0, i1, i2, i3, i4, i5, i6, i7, i8, i9, i10, i11, i12, i13, i14, i15, i16, i17⟩ := sg_all hJ
  exact lo_Mo_dayNow_x hI hd hsl hs hsx hdx h0 hh0 hh1 8 0 (by omega) (by omega) (by omega) (fun j a b => by omega)
set_option maxHeartbeats 4000000 in
set_option maxRecDepth 10000 in
theorem l3_Mo_countsRow_x (a b : Option ab_V) (htm : 0 ≤ tMany ∧ tMany ≤ 2000000) (Q : Option ab_V → ab_W → Prop) (hq : Q none (mo_W tape taped rules sign leng clause clauses read next wrong number text made deep lines opn opened stack top word said xx was undone kept sumOf faced slotAt dayAt row bestRow ((tMany + 1)) tMost drawX images imageX isMade)) : ab_Ev g_G g_rs mt_Mo_countsRow 0 0 0 94 [some (ab_R 0), a, b] [] (mo_W tape taped rules sign leng clause clauses read next wrong number text made deep lines opn opened stack top word said xx was undone kept sumOf faced slotAt dayAt row bestRow tMany tMost drawX images imageX isMade) Q := by
  refine ev_aload_n de_Mo_countsRow_94 rfl rfl ?_
  refine ev_dup de_Mo_countsRow_95 rfl ?_
  refine ev_getfield de_Mo_countsRow_96 rfl fl_Mo_420 rfl ?_
  refine ev_iconst de_Mo_countsRow_99 ?_
  refine ev_iadd de_Mo_countsRow_100 ?_
  refine ev_putfield de_Mo_countsRow_101 rfl (fp_Mo_420 _) (Nat.le_of_ble_eq_true rfl) trivial ?_
  refine ev_world (w' := mo_W _ _ _ _ _ _ _ _ _ _ _ _ _ _ _ _ _ _ _ _ _ _ _ _ _ _ _ _ _ _ _ _ _ _ _ _ _) rfl ?_
  exact ev_return de_Mo_countsRow_104 rfl hq
set_option maxHeartbeats 4000000 in
set_option maxRecDepth 10000 in
theorem l2_Mo_countsRow_x {B : Int} (hI : sg_ok B said) (hB : B ≤ 29000) (hd : td_d dayAt) (hsl : td_s slotAt) (hdx : tz_dx said dayAt) (hr : td_r row (said 1) (said 1)) (al : Int) (htm : 0 ≤ tMany ∧ tMany ≤ 2000000) (hto : ab_in tMost) (Q : Option ab_V → ab_W → Prop) (hq : ∀ br : Int → Int, (∀ j, 0 ≤ j → j < said 1 → br j = slotAt (row j)) → Q none (mo_W tape taped rules sign leng clause clauses read next wrong number text made deep lines opn opened stack top word said xx was undone kept sumOf faced slotAt dayAt row (br) ((tMany + 1)) tMost drawX images imageX isMade)) : ∀ (n : Nat) (k : Int) (bestRow : Int → Int), 0 ≤ k → k ≤ said 1 → said 1 < k + n → (∀ j, 0 ≤ j → j < k → bestRow j = slotAt (row j)) → ab_Ev g_G g_rs mt_Mo_countsRow 0 0 0 61 [some (ab_R 0), some (ab_I al), some (ab_I k)] [] (mo_W tape taped rules sign leng clause clauses read next wrong number text made deep lines opn opened stack top word said xx was undone kept sumOf faced slotAt dayAt row bestRow tMany tMost drawX images imageX isMade) Q := by
  intro n
  induction n with
  | zero =>
    intro k bestRow
    intro g0 g1 g2 g3; omega
  | succ n ih =>
    intro k bestRow
    intro g0 g1 g2 g3
    have hJ := hI; obtain ⟨i0, i1, i2, i3, i4, i5, i6, i7, i8, i9, i10, i11, i12, i13, i14, i15, i16, i17⟩ := sg_all hJ
    refine ev_iload_n de_Mo_countsRow_61 rfl rfl ?_
    refine ev_aload_n de_Mo_countsRow_62 rfl rfl ?_
    refine ev_getfield de_Mo_countsRow_63 rfl fl_Mo_39 rfl ?_
    refine ev_iconst de_Mo_countsRow_66 ?_
    refine ev_iaload de_Mo_countsRow_67 rfl (by omega) (by omega) (by omega) ?_
    refine ev_icmp_ge (tgt := 94) de_Mo_countsRow_68 (by decide) (by omega) (by omega) (fun h68 => ?_) (fun h68 => ?_)
    · skip
      exact l3_Mo_countsRow_x _ _ htm Q (hq _ (fun j a b => g3 j a (by omega)))
    · skip
      have q1 := hr k (by omega) (by omega)
      have q2 := hsl (row k) (by omega) (by omega)
      refine ev_aload_n de_Mo_countsRow_71 rfl rfl ?_
      refine ev_getfield de_Mo_countsRow_72 rfl fl_Mo_63 rfl ?_
      refine ev_iload_n de_Mo_countsRow_75 rfl rfl ?_
      refine ev_aload_n de_Mo_countsRow_76 rfl rfl ?_
      refine ev_getfield de_Mo_countsRow_77 rfl fl_Mo_54 rfl ?_
      refine ev_aload_n de_Mo_countsRow_80 rfl rfl ?_
      refine ev_getfield de_Mo_countsRow_81 rfl fl_Mo_60 rfl ?_
      refine ev_iload_n de_Mo_countsRow_84 rfl rfl ?_
      refine ev_iaload de_Mo_countsRow_85 rfl (by omega) (by omega) (by omega) ?_
      refine ev_iaload de_Mo_countsRow_86 rfl (by omega) (by omega) (by omega) ?_
      refine ev_iastore de_Mo_countsRow_87 rfl (by omega) (by omega) (by omega) ?_
      refine ev_world (w' := mo_W _ _ _ _ _ _ _ _ _ _ _ _ _ _ _ _ _ _ _ _ _ _ _ _ _ _ _ _ _ _ _ _ _ _ _ _ _) rfl ?_
      refine ev_iinc (l' := [_, _, _]) de_Mo_countsRow_88 rfl rfl ?_
      refine ev_goto (tgt := 61) de_Mo_countsRow_91 (by decide) ?_
      exact ih (k + 1) _ (by omega) (by omega) (by omega) (fun j j0 j1 => by by_cases e : j = k; (subst e; exact ab_upe _ _ _); (rw [ab_upn _ _ e]; exact g3 j j0 (by omega)))
set_option maxHeartbeats 4000000 in
set_option maxRecDepth 10000 in
theorem l1_Mo_countsRow_x {B : Int} (hI : sg_ok B said) (hB : B ≤ 29000) (hd : td_d dayAt) (hsl : td_s slotAt) (hdx : tz_dx said dayAt) (hr : td_r row (said 1) (said 1)) (htm : 0 ≤ tMany ∧ tMany ≤ 2000000) (hto : ab_in tMost) : ∀ (n : Nat) (k : Nat), (k : Int) ≤ said 1 → said 1 < k + n → ab_Ev g_G g_rs mt_Mo_countsRow 0 0 0 4 [some (ab_R 0), some (ab_I (tz_sr (tz_D said) row k)), some (ab_I (k : Int))] [] (mo_W tape taped rules sign leng clause clauses read next wrong number text made deep lines opn opened stack top word said xx was undone kept sumOf faced slotAt dayAt row bestRow tMany tMost drawX images imageX isMade) (fun r w2 => r = none ∧ ∃ br : Int → Int, w2 = (mo_W tape taped rules sign leng clause clauses read next wrong number text made deep lines opn opened stack top word said xx was undone kept sumOf faced slotAt dayAt row (br) ((tMany + 1)) ((if tMany = 0 ∨ tMost < (tz_sr (tz_D said) row (said 1).toNat) then (tz_sr (tz_D said) row (said 1).toNat) else tMost)) drawX images imageX isMade) ∧ ((tMany = 0 ∨ tMost < (tz_sr (tz_D said) row (said 1).toNat)) → ∀ j, 0 ≤ j → j < said 1 → br j = slotAt (row j)) ∧ (¬ (tMany = 0 ∨ tMost < (tz_sr (tz_D said) row (said 1).toNat)) → br = bestRow)) := by
  intro n
  induction n with
  | zero =>
    intro k
    intro g1 g2; omega
  | succ n ih =>
    intro k
    intro g1 g2
    have hJ := hI; obtain ⟨i0, i1, i2, i3, i4, i5, i6, i7, i8, i9, i10, i11, i12, i13, i14, i15, i16, i17⟩ := sg_all hJ
    have sb := tz_sr_b (D := tz_D said) (row := row) (H := said 1) (by omega) (tz_D_b hI hB) k (by omega) (fun j a b => hr j a (by omega))
    refine ev_iload_n de_Mo_countsRow_4 rfl rfl ?_
    refine ev_aload_n de_Mo_countsRow_5 rfl rfl ?_
    refine ev_getfield de_Mo_countsRow_6 rfl fl_Mo_39 rfl ?_
    refine ev_iconst de_Mo_countsRow_9 ?_
    refine ev_iaload de_Mo_countsRow_10 rfl (by omega) (by omega) (by omega) ?_
    refine ev_icmp_ge (tgt := 39) de_Mo_countsRow_11 (by decide) (by omega) (by omega) (fun h11 => ?_) (fun h11 => ?_)
    · skip
      have ek : (said 1).toNat = k := by omega
      refine ev_aload_n de_Mo_countsRow_39 rfl rfl ?_
      refine ev_getfield de_Mo_countsRow_40 rfl fl_Mo_420 rfl ?_
      refine ev_if_eq (tgt := 54) de_Mo_countsRow_43 (by decide) (by omega) (fun h43 => ?_) (fun h43 => ?_)
      · skip
        have hcd : tMany = 0 ∨ tMost < tz_sr (tz_D said) row k := Or.inl h43
        refine ev_aload_n de_Mo_countsRow_54 rfl rfl ?_
        refine ev_iload_n de_Mo_countsRow_55 rfl rfl ?_
        refine ev_putfield de_Mo_countsRow_56 rfl (fp_Mo_423 _) (Nat.le_of_ble_eq_true rfl) trivial ?_
        refine ev_world (w' := mo_W _ _ _ _ _ _ _ _ _ _ _ _ _ _ _ _ _ _ _ _ _ _ _ _ _ _ _ _ _ _ _ _ _ _ _ _ _) rfl ?_
        refine ev_iconst de_Mo_countsRow_59 ?_
        refine ev_istore_n (l' := [_, _, _]) de_Mo_countsRow_60 rfl (Nat.le_of_ble_eq_true rfl) rfl ?_
        refine l2_Mo_countsRow_x hI hB hd hsl hdx hr _ htm (by omega) _ (fun br hbr => ?_) 8 0 _ (by omega) (by omega) (by omega) (fun j a b => by omega)
        rw [ek, if_pos hcd]
        exact ⟨rfl, _, rfl, fun _ => hbr, fun z => absurd hcd z⟩
      · skip
        refine ev_iload_n de_Mo_countsRow_46 rfl rfl ?_
        refine ev_aload_n de_Mo_countsRow_47 rfl rfl ?_
        refine ev_getfield de_Mo_countsRow_48 rfl fl_Mo_423 rfl ?_
        refine ev_icmp_le (tgt := 94) de_Mo_countsRow_51 (by decide) (by omega) (by omega) (fun h51 => ?_) (fun h51 => ?_)
        · skip
          refine l3_Mo_countsRow_x _ _ htm _ ?_
          have hcd : ¬ (tMany = 0 ∨ tMost < tz_sr (tz_D said) row k) := by omega
          rw [ek, if_neg hcd]
          exact ⟨rfl, _, rfl, fun z => absurd z hcd, fun _ => rfl⟩
        · skip
          have hcd : tMany = 0 ∨ tMost < tz_sr (tz_D said) row k := Or.inr (by omega)
          refine ev_aload_n de_Mo_countsRow_54 rfl rfl ?_
          refine ev_iload_n de_Mo_countsRow_55 rfl rfl ?_
          refine ev_putfield de_Mo_countsRow_56 rfl (fp_Mo_423 _) (Nat.le_of_ble_eq_true rfl) trivial ?_
          refine ev_world (w' := mo_W _ _ _ _ _ _ _ _ _ _ _ _ _ _ _ _ _ _ _ _ _ _ _ _ _ _ _ _ _ _ _ _ _ _ _ _ _) rfl ?_
          refine ev_iconst de_Mo_countsRow_59 ?_
          refine ev_istore_n (l' := [_, _, _]) de_Mo_countsRow_60 rfl (Nat.le_of_ble_eq_true rfl) rfl ?_
          refine l2_Mo_countsRow_x hI hB hd hsl hdx hr _ htm (by omega) _ (fun br hbr => ?_) 8 0 _ (by omega) (by omega) (by omega) (fun j a b => by omega)
          rw [ek, if_pos hcd]
          exact ⟨rfl, _, rfl, fun _ => hbr, fun z => absurd hcd z⟩
    · skip
      have q1 := hr k (by omega) (by omega)
      have q2 := hd (7 * (k : Int) + row (k : Int)) (by omega) (by omega)
      have q4 := hdx (k : Int) (row (k : Int)) (by omega) (by omega) q1.1 q1.2
      have q5 := tz_D_b hI hB (7 * (k : Int) + row (k : Int)) (by omega) (by omega)
      refine ev_iload_n de_Mo_countsRow_14 rfl rfl ?_
      refine ev_aload_n de_Mo_countsRow_15 rfl rfl ?_
      refine ev_getfield de_Mo_countsRow_16 rfl fl_Mo_57 rfl ?_
      refine ev_bipush de_Mo_countsRow_19 rfl ?_
      refine ev_iload_n de_Mo_countsRow_21 rfl rfl ?_
      refine ev_imul de_Mo_countsRow_22 ?_
      refine ev_aload_n de_Mo_countsRow_23 rfl rfl ?_
      refine ev_getfield de_Mo_countsRow_24 rfl fl_Mo_60 rfl ?_
      refine ev_iload_n de_Mo_countsRow_27 rfl rfl ?_
      refine ev_iaload de_Mo_countsRow_28 rfl (by omega) (by omega) (by omega) ?_
      refine ev_iadd de_Mo_countsRow_29 ?_
      refine ev_iaload de_Mo_countsRow_30 rfl (by omega) (by omega) (by omega) ?_
      refine ev_top (congrArg Sum.inl q4) ?_
      refine ev_iadd de_Mo_countsRow_31 ?_
      refine ev_top (congrArg Sum.inl (show _ = tz_sr (tz_D said) row (k + 1) from rfl)) ?_
      refine ev_istore_n (l' := [_, _, _]) de_Mo_countsRow_32 rfl (Nat.le_of_ble_eq_true rfl) rfl ?_
      refine ev_iinc (l' := [_, _, _]) de_Mo_countsRow_33 rfl rfl ?_
      refine ev_goto (tgt := 4) de_Mo_countsRow_36 (by decide) ?_
      exact ih (k + 1) (by omega) (by omega)
set_option maxHeartbeats 4000000 in
set_option maxRecDepth 10000 in
theorem co_Mo_countsRow_x {B : Int} (hI : sg_ok B said) (hB : B ≤ 29000) (hd : td_d dayAt) (hsl : td_s slotAt) (hdx : tz_dx said dayAt) (hr : td_r row (said 1) (said 1)) (htm : 0 ≤ tMany ∧ tMany ≤ 2000000) (hto : ab_in tMost) : ab_Mt g_G g_rs mt_Mo_countsRow 0 0 0 [ab_R 0] (mo_W tape taped rules sign leng clause clauses read next wrong number text made deep lines opn opened stack top word said xx was undone kept sumOf faced slotAt dayAt row bestRow tMany tMost drawX images imageX isMade) (fun r w2 => r = none ∧ ∃ br : Int → Int, w2 = (mo_W tape taped rules sign leng clause clauses read next wrong number text made deep lines opn opened stack top word said xx was undone kept sumOf faced slotAt dayAt row (br) ((tMany + 1)) ((if tMany = 0 ∨ tMost < (tz_sr (tz_D said) row (said 1).toNat) then (tz_sr (tz_D said) row (said 1).toNat) else tMost)) drawX images imageX isMade) ∧ ((tMany = 0 ∨ tMost < (tz_sr (tz_D said) row (said 1).toNat)) → ∀ j, 0 ≤ j → j < said 1 → br j = slotAt (row j)) ∧ (¬ (tMany = 0 ∨ tMost < (tz_sr (tz_D said) row (said 1).toNat)) → br = bestRow)) := by
  refine ab_Mt.of rfl (Nat.le_of_ble_eq_true rfl) ?_
  show ab_Ev g_G g_rs mt_Mo_countsRow _ _ _ 0 [some (ab_R 0), none, none] [] _ _
  refine ev_iconst de_Mo_countsRow_0 ?_
  refine ev_istore_n (l' := [_, _, _]) de_Mo_countsRow_1 rfl (Nat.le_of_ble_eq_true rfl) rfl ?_
  refine ev_iconst de_Mo_countsRow_2 ?_
  refine ev_istore_n (l' := [_, _, _]) de_Mo_countsRow_3 rfl (Nat.le_of_ble_eq_true rfl) rfl ?_
  have hJ := hI; obtain ⟨i0, i1, i2, i3, i4, i5, i6, i7, i8, i9, i10, i11, i12, i13, i14, i15, i16, i17⟩ := sg_all hJ
  exact l1_Mo_countsRow_x hI hB hd hsl hdx hr htm hto 8 0 (by omega) (by omega)
set_option maxHeartbeats 4000000 in
set_option maxRecDepth 10000 in
theorem l4_Mo_fillsDays_x {B : Int} (hI : sg_ok B said) (hB : B ≤ 29000) (hs : tz_hs said) (hsx : tz_sx said slotAt) (x : Int) (h0 : Int) (hh0 : 0 ≤ h0) (hh1 : h0 < said 1) (kk : ∀ (k : Int) (dayAt kept : Int → Int), td_d dayAt → (∀ h k : Int, 0 ≤ h → 0 ≤ k → k < said 1 → (h < (h0 + 1) ∨ (h = (h0 + 1) ∧ k < 0)) → dayAt (7 * h + k) = tz_D said (7 * h + k)) → ab_Ev g_G g_rs mt_Mo_fillsDays 5 0 0 112 [some (ab_R 0), some (ab_I x), some (ab_I h0), some (ab_I k)] [] (mo_W tape taped rules sign leng clause clauses read next wrong number text made deep lines opn opened stack top word said xx was undone kept sumOf faced slotAt dayAt row bestRow tMany tMost drawX images imageX isMade) (fun r w2 => r = none ∧ ∃ (sl dy kp : Int → Int), td_s sl ∧ td_d dy ∧ tz_sx said sl ∧ tz_dx said dy ∧ w2 = (mo_W tape taped rules sign leng clause clauses read next wrong number text made deep lines opn opened stack top word said xx was undone (kp) sumOf faced (sl) (dy) row bestRow tMany tMost drawX images imageX isMade))) (hsl : td_s slotAt) : ∀ (n : Nat) (k : Int) (dayAt kept : Int → Int), 0 ≤ k → k ≤ said 1 → said 1 < k + n → td_d dayAt → (∀ h j : Int, 0 ≤ h → 0 ≤ j → j < said 1 → (h < h0 ∨ (h = h0 ∧ j < k)) → dayAt (7 * h + j) = tz_D said (7 * h + j)) → ab_Ev g_G g_rs mt_Mo_fillsDays 5 0 0 74 [some (ab_R 0), some (ab_I x), some (ab_I h0), some (ab_I k)] [] (mo_W tape taped rules sign leng clause clauses read next wrong number text made deep lines opn opened stack top word said xx was undone kept sumOf faced slotAt dayAt row bestRow tMany tMost drawX images imageX isMade) (fun r w2 => r = none ∧ ∃ (sl dy kp : Int → Int), td_s sl ∧ td_d dy ∧ tz_sx said sl ∧ tz_dx said dy ∧ w2 = (mo_W tape taped rules sign leng clause clauses read next wrong number text made deep lines opn opened stack top word said xx was undone (kp) sumOf faced (sl) (dy) row bestRow tMany tMost drawX images imageX isMade)) := by
  intro n
  induction n with
  | zero =>
    intro k dayAt kept
    intro g0 g1 g2 hd g3; omega
  | succ n ih =>
    intro k dayAt kept
    intro g0 g1 g2 hd g3
    have hJ := hI; obtain ⟨i0, i1, i2, i3, i4, i5, i6, i7, i8, i9, i10, i11, i12, i13, i14, i15, i16, i17⟩ := sg_all hJ
    refine ev_iload_n de_Mo_fillsDays_74 rfl rfl ?_
    refine ev_aload_n de_Mo_fillsDays_75 rfl rfl ?_
    refine ev_getfield de_Mo_fillsDays_76 rfl fl_Mo_39 rfl ?_
    refine ev_iconst de_Mo_fillsDays_79 ?_
    refine ev_iaload de_Mo_fillsDays_80 rfl (by omega) (by omega) (by omega) ?_
    refine ev_icmp_ge (tgt := 112) de_Mo_fillsDays_81 (by decide) (by omega) (by omega) (fun h81 => ?_) (fun h81 => ?_)
    · skip
      exact kk _ _ _ hd (fun h j a b c d => g3 h j a b c (by omega))
    · skip
      have q1 := hsl k (by omega) (by omega)
      have q2 : -2000 ≤ sp_dayIn said h0 (slotAt k) ∧ sp_dayIn said h0 (slotAt k) ≤ 2000 := by have q := sp_dayT_b hI hB (slot := slotAt k) hh0 (show h0 < 7 by omega) 24 (by decide); unfold sp_dayIn; omega
      refine ev_aload_n de_Mo_fillsDays_84 rfl rfl ?_
      refine ev_getfield de_Mo_fillsDays_85 rfl fl_Mo_57 rfl ?_
      refine ev_bipush de_Mo_fillsDays_88 rfl ?_
      refine ev_iload_n de_Mo_fillsDays_90 rfl rfl ?_
      refine ev_imul de_Mo_fillsDays_91 ?_
      refine ev_iload_n de_Mo_fillsDays_92 rfl rfl ?_
      refine ev_iadd de_Mo_fillsDays_93 ?_
      refine ev_aload_n de_Mo_fillsDays_94 rfl rfl ?_
      refine ev_iload_n de_Mo_fillsDays_95 rfl rfl ?_
      refine ev_aload_n de_Mo_fillsDays_96 rfl rfl ?_
      refine ev_getfield de_Mo_fillsDays_97 rfl fl_Mo_54 rfl ?_
      refine ev_iload_n de_Mo_fillsDays_100 rfl rfl ?_
      refine ev_iaload de_Mo_fillsDays_101 rfl (by omega) (by omega) (by omega) ?_
      refine ev_vv (ci := 11) de_Mo_fillsDays_102 (co_Mo_dayIn hI hB h0 (slotAt k) hh0 (by omega) q1.1 q1.2) kb_Mo_396 ⟨im_Mo_dayIn, se_Mo_dayIn⟩ rfl rfl rfl (Nat.le_of_ble_eq_true rfl) (by decide) rfl ?_
      refine ev_iastore de_Mo_fillsDays_105 rfl (by omega) (by omega) (by omega) ?_
      refine ev_world (w' := mo_W _ _ _ _ _ _ _ _ _ _ _ _ _ _ _ _ _ _ _ _ _ _ _ _ _ _ _ _ _ _ _ _ _ _ _ _ _) rfl ?_
      refine ev_iinc (l' := [_, _, _, _]) de_Mo_fillsDays_106 rfl rfl ?_
      refine ev_goto (tgt := 74) de_Mo_fillsDays_109 (by decide) ?_
      exact ih (k + 1) _ _ (by omega) (by omega) (by omega) (td_d_up hd (by omega)) (fun h j a b c d => by by_cases e : 7 * h + j = 7 * h0 + k; (rw [e, ab_upe, tz_D_e said g0 (by omega), hsx k g0 (by omega)]); (rw [ab_upn _ _ e]; exact g3 h j a b c (by omega)))
set_option maxHeartbeats 4000000 in
set_option maxRecDepth 10000 in
theorem l3_Mo_fillsDays_x {B : Int} (hI : sg_ok B said) (hB : B ≤ 29000) (hs : tz_hs said) (hsx : tz_sx said slotAt) (x : Int) (hsl : td_s slotAt) : ∀ (n : Nat) (k : Int) (y : Option ab_V) (dayAt kept : Int → Int), 0 ≤ k → k ≤ said 1 → said 1 < k + n → td_d dayAt → (∀ h j : Int, 0 ≤ h → 0 ≤ j → j < said 1 → h < k → dayAt (7 * h + j) = tz_D said (7 * h + j)) → ab_Ev g_G g_rs mt_Mo_fillsDays 5 0 0 62 [some (ab_R 0), some (ab_I x), some (ab_I k), y] [] (mo_W tape taped rules sign leng clause clauses read next wrong number text made deep lines opn opened stack top word said xx was undone kept sumOf faced slotAt dayAt row bestRow tMany tMost drawX images imageX isMade) (fun r w2 => r = none ∧ ∃ (sl dy kp : Int → Int), td_s sl ∧ td_d dy ∧ tz_sx said sl ∧ tz_dx said dy ∧ w2 = (mo_W tape taped rules sign leng clause clauses read next wrong number text made deep lines opn opened stack top word said xx was undone (kp) sumOf faced (sl) (dy) row bestRow tMany tMost drawX images imageX isMade)) := by
  intro n
  induction n with
  | zero =>
    intro k y dayAt kept
    intro g0 g1 g2 hd g3; omega
  | succ n ih =>
    intro k y dayAt kept
    intro g0 g1 g2 hd g3
    have hJ := hI; obtain ⟨i0, i1, i2, i3, i4, i5, i6, i7, i8, i9, i10, i11, i12, i13, i14, i15, i16, i17⟩ := sg_all hJ
    refine ev_iload_n de_Mo_fillsDays_62 rfl rfl ?_
    refine ev_aload_n de_Mo_fillsDays_63 rfl rfl ?_
    refine ev_getfield de_Mo_fillsDays_64 rfl fl_Mo_39 rfl ?_
    refine ev_iconst de_Mo_fillsDays_67 ?_
    refine ev_iaload de_Mo_fillsDays_68 rfl (by omega) (by omega) (by omega) ?_
    refine ev_icmp_ge (tgt := 118) de_Mo_fillsDays_69 (by decide) (by omega) (by omega) (fun h69 => ?_) (fun h69 => ?_)
    · skip
      exact ev_return de_Mo_fillsDays_118 rfl ⟨rfl, _, _, _, hsl, hd, hsx, (fun h j a b c d => g3 h j a c d (by omega)), rfl⟩
    · skip
      refine ev_iconst de_Mo_fillsDays_72 ?_
      refine ev_istore_n (l' := [_, _, _, _]) de_Mo_fillsDays_73 rfl (Nat.le_of_ble_eq_true rfl) rfl ?_
      refine l4_Mo_fillsDays_x hI hB hs hsx x k (by omega) (by omega) (fun k3 dayAt kept hd g4 => ?_) hsl 8 0 dayAt kept (by omega) (by omega) (by omega) hd (fun h j a b c d => g3 h j a b c (by omega))
      refine ev_iinc (l' := [_, _, _, _]) de_Mo_fillsDays_112 rfl rfl ?_
      refine ev_goto (tgt := 62) de_Mo_fillsDays_115 (by decide) ?_
      exact ih (k + 1) _ _ _ (by omega) (by omega) (by omega) hd (fun h j a b c d => g4 h j a b c (by omega))
set_option maxHeartbeats 4000000 in
set_option maxRecDepth 10000 in
theorem l2_Mo_fillsDays_x {B : Int} (hI : sg_ok B said) (hs : tz_hs said) (s : Nat) (hs1 : s ≤ 11) (kk : ∀ (k : Int) (slotAt : Int → Int), td_s slotAt → tz_at (tz_gs said (said 1).toNat (s + 1)) slotAt → ab_Ev g_G g_rs mt_Mo_fillsDays 5 0 0 54 [some (ab_R 0), some (ab_I (td_c said (s : Int) (said 1) (said 1).toNat)), some (ab_I (s : Int)), some (ab_I k)] [] (mo_W tape taped rules sign leng clause clauses read next wrong number text made deep lines opn opened stack top word said xx was undone kept sumOf faced slotAt dayAt row bestRow tMany tMost drawX images imageX isMade) (fun r w2 => r = none ∧ ∃ (sl dy kp : Int → Int), td_s sl ∧ td_d dy ∧ tz_sx said sl ∧ tz_dx said dy ∧ w2 = (mo_W tape taped rules sign leng clause clauses read next wrong number text made deep lines opn opened stack top word said xx was undone (kp) sumOf faced (sl) (dy) row bestRow tMany tMost drawX images imageX isMade))) : ∀ (n : Nat) (k : Nat) (slotAt : Int → Int), (k : Int) ≤ said 1 → said 1 < k + n → td_s slotAt → tz_at (tz_gh said (said 1).toNat s k) slotAt → ab_Ev g_G g_rs mt_Mo_fillsDays 5 0 0 12 [some (ab_R 0), some (ab_I (td_c said (s : Int) (k : Int) (said 1).toNat)), some (ab_I (s : Int)), some (ab_I (k : Int))] [] (mo_W tape taped rules sign leng clause clauses read next wrong number text made deep lines opn opened stack top word said xx was undone kept sumOf faced slotAt dayAt row bestRow tMany tMost drawX images imageX isMade) (fun r w2 => r = none ∧ ∃ (sl dy kp : Int → Int), td_s sl ∧ td_d dy ∧ tz_sx said sl ∧ tz_dx said dy ∧ w2 = (mo_W tape taped rules sign leng clause clauses read next wrong number text made deep lines opn opened stack top word said xx was undone (kp) sumOf faced (sl) (dy) row bestRow tMany tMost drawX images imageX isMade)) := by
  intro n
  induction n with
  | zero =>
    intro k slotAt
    intro g1 g2 hsl g3; omega
  | succ n ih =>
    intro k slotAt
    intro g1 g2 hsl g3
    have hJ := hI; obtain ⟨i0, i1, i2, i3, i4, i5, i6, i7, i8, i9, i10, i11, i12, i13, i14, i15, i16, i17⟩ := sg_all hJ
    have cb := td_c_b said (s : Int) (k : Int) (said 1).toNat
    have eS := td_c_s said (s : Int) (k : Int) (by omega) (said 1).toNat
    have eL := tz_lenh hs.1 (fun j a b => (hs.2.2 (46 + j) (by omega) (by omega)).1) (n := (said 1).toNat) (by omega) (by omega) s k (by omega)
    refine ev_iload_n de_Mo_fillsDays_12 rfl rfl ?_
    refine ev_aload_n de_Mo_fillsDays_13 rfl rfl ?_
    refine ev_getfield de_Mo_fillsDays_14 rfl fl_Mo_39 rfl ?_
    refine ev_iconst de_Mo_fillsDays_17 ?_
    refine ev_iaload de_Mo_fillsDays_18 rfl (by omega) (by omega) (by omega) ?_
    refine ev_icmp_ge (tgt := 54) de_Mo_fillsDays_19 (by decide) (by omega) (by omega) (fun h19 => ?_) (fun h19 => ?_)
    · skip
      have ek : (k : Int) = said 1 := by omega
      have ek2 : k = (said 1).toNat := by omega
      refine ev_loc (l2 := [some (ab_R 0), some (ab_I (td_c said (s : Int) (said 1) (said 1).toNat)), some (ab_I (s : Int)), some (ab_I (k : Int))]) (by rw [ek]) ?_
      exact kk _ _ hsl (by rw [ek2] at g3; exact g3)
    · skip
      have q1 := i11 (46 + (k : Int)) (by omega) (by omega)
      refine ev_aload_n de_Mo_fillsDays_22 rfl rfl ?_
      refine ev_getfield de_Mo_fillsDays_23 rfl fl_Mo_39 rfl ?_
      refine ev_bipush de_Mo_fillsDays_26 rfl ?_
      refine ev_iload_n de_Mo_fillsDays_28 rfl rfl ?_
      refine ev_iadd de_Mo_fillsDays_29 ?_
      refine ev_iaload de_Mo_fillsDays_30 rfl (by omega) (by omega) (by omega) ?_
      refine ev_iload_n de_Mo_fillsDays_31 rfl rfl ?_
      refine ev_icmp_eq (tgt := 38) de_Mo_fillsDays_32 (by decide) (by omega) (by omega) (fun h32 => ?_) (fun h32 => ?_)
      · skip
        have cl := td_c_lt said (s : Int) (k : Int) (by omega) h32 (said 1).toNat (by omega)
        rw [if_pos (by omega)] at eS
        have tn := tz_tk_n hs.1 (show (k : Int) < said 1 by omega) h32
        have eg : tz_gh said (said 1).toNat s (k + 1) = tz_gh said (said 1).toNat s k ++ [(s : Int)] := by
          unfold tz_gh
          rw [if_pos (tz_tk_i h32 (Nat.lt_succ_self k)), if_neg (by rw [tn]; decide), List.append_nil]
        have g9 : tz_at (tz_gh said (said 1).toNat s (k + 1)) (ab_up slotAt (td_c said (s : Int) (k : Int) (said 1).toNat) (s : Int)) := by
          intro j x hx
          rw [eg] at hx
          rcases Nat.lt_or_ge j (tz_gh said (said 1).toNat s k).length with z | z
          · rw [List.getElem?_append_left z] at hx
            rw [ab_upn _ _ (by omega)]
            exact g3 j x hx
          · have ez : j = (tz_gh said (said 1).toNat s k).length := by
              have := (List.getElem?_eq_some_iff.mp hx).1
              rw [List.length_append, List.length_singleton] at this
              omega
            rw [ez, List.getElem?_append_right (Nat.le_refl _), Nat.sub_self] at hx
            rw [ez, eL, ab_upe]
            exact Option.some.inj hx
        refine ev_aload_n de_Mo_fillsDays_38 rfl rfl ?_
        refine ev_getfield de_Mo_fillsDays_39 rfl fl_Mo_54 rfl ?_
        refine ev_iload_n de_Mo_fillsDays_42 rfl rfl ?_
        refine ev_iload_n de_Mo_fillsDays_43 rfl rfl ?_
        refine ev_iastore de_Mo_fillsDays_44 rfl (by omega) (by omega) (by omega) ?_
        refine ev_world (w' := mo_W _ _ _ _ _ _ _ _ _ _ _ _ _ _ _ _ _ _ _ _ _ _ _ _ _ _ _ _ _ _ _ _ _ _ _ _ _) rfl ?_
        refine ev_iinc (l' := [_, _, _, _]) de_Mo_fillsDays_45 rfl rfl ?_
        refine ev_iinc (l' := [_, _, _, _]) de_Mo_fillsDays_48 rfl rfl ?_
        refine ev_goto (tgt := 12) de_Mo_fillsDays_51 (by decide) ?_
        rw [← eS]
        exact ih (k + 1) _ (by omega) (by omega) (td_s_up hsl (by omega)) g9
      · skip
        rw [if_neg (by omega), Int.add_zero] at eS
        have g9 : tz_at (tz_gh said (said 1).toNat s (k + 1)) slotAt := by
          have eg : tz_gh said (said 1).toNat s (k + 1) = tz_gh said (said 1).toNat s k := by
            unfold tz_gh
            show _ ++ (if (tz_tk said (s : Int) k || decide (said (46 + (k : Int)) = (s : Int))) = true then _ else _) = _
            rw [decide_eq_false (show ¬ said (46 + (k : Int)) = (s : Int) by omega), Bool.or_false]
          rw [eg]
          exact g3
        refine ev_goto (tgt := 48) de_Mo_fillsDays_35 (by decide) ?_
        refine ev_iinc (l' := [_, _, _, _]) de_Mo_fillsDays_48 rfl rfl ?_
        refine ev_goto (tgt := 12) de_Mo_fillsDays_51 (by decide) ?_
        rw [← eS]
        exact ih (k + 1) _ (by omega) (by omega) hsl g9
set_option maxHeartbeats 4000000 in
set_option maxRecDepth 10000 in
theorem l1_Mo_fillsDays_x {B : Int} (hI : sg_ok B said) (hB : B ≤ 29000) (hs : tz_hs said) (hd : td_d dayAt) : ∀ (n : Nat) (s : Nat) (y : Option ab_V) (slotAt : Int → Int), s ≤ 12 → 12 < s + n → td_s slotAt → tz_at (tz_gs said (said 1).toNat s) slotAt → ab_Ev g_G g_rs mt_Mo_fillsDays 5 0 0 4 [some (ab_R 0), some (ab_I (td_c said (s : Int) 0 (said 1).toNat)), some (ab_I (s : Int)), y] [] (mo_W tape taped rules sign leng clause clauses read next wrong number text made deep lines opn opened stack top word said xx was undone kept sumOf faced slotAt dayAt row bestRow tMany tMost drawX images imageX isMade) (fun r w2 => r = none ∧ ∃ (sl dy kp : Int → Int), td_s sl ∧ td_d dy ∧ tz_sx said sl ∧ tz_dx said dy ∧ w2 = (mo_W tape taped rules sign leng clause clauses read next wrong number text made deep lines opn opened stack top word said xx was undone (kp) sumOf faced (sl) (dy) row bestRow tMany tMost drawX images imageX isMade)) := by
  intro n
  induction n with
  | zero =>
    intro s y slotAt
    intro g1 g2 hsl g3; omega
  | succ n ih =>
    intro s y slotAt
    intro g1 g2 hsl g3
    have hJ := hI; obtain ⟨i0, i1, i2, i3, i4, i5, i6, i7, i8, i9, i10, i11, i12, i13, i14, i15, i16, i17⟩ := sg_all hJ
    have eN := td_c_n said (s : Int) (said 1) (said 1).toNat (by omega)
    refine ev_iload_n de_Mo_fillsDays_4 rfl rfl ?_
    refine ev_bipush de_Mo_fillsDays_5 rfl ?_
    refine ev_icmp_ge (tgt := 60) de_Mo_fillsDays_7 (by decide) (by omega) (by omega) (fun h7 => ?_) (fun h7 => ?_)
    · skip
      have es : s = 12 := by omega
      subst es
      refine ev_iconst de_Mo_fillsDays_60 ?_
      refine ev_istore_n (l' := [_, _, _, _]) de_Mo_fillsDays_61 rfl (Nat.le_of_ble_eq_true rfl) rfl ?_
      exact l3_Mo_fillsDays_x hI hB hs (fun k a b => tz_sl_at hs g3 a b) _ hsl 8 0 _ dayAt kept (by omega) (by omega) (by omega) hd (fun h j a b c d => by omega)
    · skip
      refine ev_iconst de_Mo_fillsDays_10 ?_
      refine ev_istore_n (l' := [_, _, _, _]) de_Mo_fillsDays_11 rfl (Nat.le_of_ble_eq_true rfl) rfl ?_
      refine l2_Mo_fillsDays_x hI hs s (by omega) (fun k slotAt hsl g4 => ?_) 8 0 slotAt (by omega) (by omega) hsl (by rw [tz_gh_0]; exact g3)
      refine ev_iinc (l' := [_, _, _, _]) de_Mo_fillsDays_54 rfl rfl ?_
      refine ev_goto (tgt := 4) de_Mo_fillsDays_57 (by decide) ?_
      rw [← eN]
      exact ih (s + 1) _ _ (by omega) (by omega) hsl g4
set_option maxHeartbeats 4000000 in
set_option maxRecDepth 10000 in
theorem co_Mo_fillsDays_x {B : Int} (hI : sg_ok B said) (hB : B ≤ 29000) (hs : tz_hs said) (hd : td_d dayAt) (hsl : td_s slotAt) : ab_Mt g_G g_rs mt_Mo_fillsDays 5 0 0 [ab_R 0] (mo_W tape taped rules sign leng clause clauses read next wrong number text made deep lines opn opened stack top word said xx was undone kept sumOf faced slotAt dayAt row bestRow tMany tMost drawX images imageX isMade) (fun r w2 => r = none ∧ ∃ (sl dy kp : Int → Int), td_s sl ∧ td_d dy ∧ tz_sx said sl ∧ tz_dx said dy ∧ w2 = (mo_W tape taped rules sign leng clause clauses read next wrong number text made deep lines opn opened stack top word said xx was undone (kp) sumOf faced (sl) (dy) row bestRow tMany tMost drawX images imageX isMade)) := by
  refine ab_Mt.of rfl (Nat.le_of_ble_eq_true rfl) ?_
  show ab_Ev g_G g_rs mt_Mo_fillsDays _ _ _ 0 [some (ab_R 0), none, none, none] [] _ _
  refine ev_iconst de_Mo_fillsDays_0 ?_
  refine ev_istore_n (l' := [_, _, _, _]) de_Mo_fillsDays_1 rfl (Nat.le_of_ble_eq_true rfl) rfl ?_
  refine ev_iconst de_Mo_fillsDays_2 ?_
  refine ev_istore_n (l' := [_, _, _, _]) de_Mo_fillsDays_3 rfl (Nat.le_of_ble_eq_true rfl) rfl ?_
  have hJ := hI; obtain ⟨i0, i1, i2, i3, i4, i5, i6, i7, i8, i9, i10, i11, i12, i13, i14, i15, i16, i17⟩ := sg_all hJ
  have e0 := td_c_00 (f := said) (fun j h0 h1 => (i11 (46 + j) (by omega) (by omega)).1) (said 1).toNat (by omega)
  refine ev_loc (l2 := [some (ab_R 0), some (ab_I (td_c said ((0 : Nat) : Int) 0 (said 1).toNat)), some (ab_I ((0 : Nat) : Int)), none]) (by rw [show ((0 : Nat) : Int) = 0 from rfl, e0]) ?_
  exact l1_Mo_fillsDays_x hI hB hs hd 13 0 none slotAt (by omega) (by omega) hsl (fun j x hx => by have hx : ([] : List Int)[j]? = some x := hx; exact absurd hx (by simp))
set_option maxHeartbeats 4000000 in
set_option maxRecDepth 10000 in
theorem lk_Mo_gathers_x {B : Int} (hI : sg_ok B said) (hB : B ≤ 29000) (hd : td_d dayAt) (hsl : td_s slotAt) (hs : tz_hs said) (hsx : tz_sx said slotAt) (hdx : tz_dx said dayAt) (Q : Option ab_V → ab_W → Prop) (u : Nat) (hu : u < 128) (h0 : Int) (hh0 : 0 ≤ h0) (hh1 : h0 < said 1) (k0 : Nat) (kk : ∀ k : Nat, k0 ≤ k → (k : Int) ≤ said 1 → (∀ j : Nat, k0 ≤ j → j < k → tz_ok (tz_D said) (tz_N said) h0 u j = false) → ((k : Int) < said 1 → tz_ok (tz_D said) (tz_N said) h0 u k = true) → ab_Ev g_G g_rs mt_Mo_gathersTrades 2 0 0 105 [some (ab_R 0), some (ab_I (u : Int)), some (ab_I h0), some (ab_I (k : Int))] [] (mo_W tape taped rules sign leng clause clauses read next wrong number text made deep lines opn opened stack top word said xx was undone kept sumOf faced slotAt dayAt row bestRow tMany tMost drawX images imageX isMade) Q) : ∀ (n : Nat) (k : Nat), k0 ≤ k → (k : Int) ≤ said 1 → said 1 < k + n → (∀ j : Nat, k0 ≤ j → j < k → tz_ok (tz_D said) (tz_N said) h0 u j = false) → ab_Ev g_G g_rs mt_Mo_gathersTrades 2 0 0 62 [some (ab_R 0), some (ab_I (u : Int)), some (ab_I h0), some (ab_I (k : Int))] [] (mo_W tape taped rules sign leng clause clauses read next wrong number text made deep lines opn opened stack top word said xx was undone kept sumOf faced slotAt dayAt row bestRow tMany tMost drawX images imageX isMade) Q := by
  intro n
  induction n with
  | zero =>
    intro k
    intro g g1 g2 g3; omega
  | succ n ih =>
    intro k
    intro g g1 g2 g3
    have hJ := hI; obtain ⟨i0, i1, i2, i3, i4, i5, i6, i7, i8, i9, i10, i11, i12, i13, i14, i15, i16, i17⟩ := sg_all hJ
    have qb := bit_01 u k
    refine ev_iload_n de_Mo_gathersTrades_62 rfl rfl ?_
    refine ev_aload_n de_Mo_gathersTrades_63 rfl rfl ?_
    refine ev_getfield de_Mo_gathersTrades_64 rfl fl_Mo_39 rfl ?_
    refine ev_iconst de_Mo_gathersTrades_67 ?_
    refine ev_iaload de_Mo_gathersTrades_68 rfl (by omega) (by omega) (by omega) ?_
    refine ev_icmp_ge (tgt := 105) de_Mo_gathersTrades_69 (by decide) (by omega) (by omega) (fun h69 => ?_) (fun h69 => ?_)
    · skip
      exact kk _ g g1 g3 (fun z => absurd z (by omega))
    · skip
      have q3 := hdx h0 (k : Int) hh0 hh1 (by omega) (by omega)
      have q4 := tz_D_b hI hB (7 * h0 + (k : Int)) (by omega) (by omega)
      have q5 := tz_N_b hI hB hh0 (show h0 < 7 by omega)
      refine ev_iload_n de_Mo_gathersTrades_72 rfl rfl ?_
      refine ev_iload_n de_Mo_gathersTrades_73 rfl rfl ?_
      refine ev_sv de_Mo_gathersTrades_74 (co_Mo_isOf _ (u : Int) (k : Int) (by omega) (by omega) (by omega) (by omega)) kb_Mo_294 sc_Mo_isOf rfl (Nat.le_of_ble_eq_true rfl) (by decide) rfl ?_
      refine ev_top (congrArg Sum.inl (show _ = bit_at u k from by rw [Int.toNat_natCast, Int.toNat_natCast])) ?_
      refine ev_if_ne (tgt := 99) de_Mo_gathersTrades_77 (by decide) (by omega) (fun h77 => ?_) (fun h77 => ?_)
      · skip
        have hb := bit_nz.mp h77
        have hko : tz_ok (tz_D said) (tz_N said) h0 u k = false := by
          unfold tz_ok
          rw [hb]
          rfl
        refine ev_iinc (l' := [_, _, _, _]) de_Mo_gathersTrades_99 rfl rfl ?_
        refine ev_goto (tgt := 62) de_Mo_gathersTrades_102 (by decide) ?_
        exact ih (k + 1) (by omega) (by omega) (by omega) (fun j a b => by by_cases e : j = k; (rw [e]; exact hko); (exact g3 j a (by omega)))
      · skip
        have hb : u.testBit k = false := bit_z.mp (by omega)
        refine ev_aload_n de_Mo_gathersTrades_80 rfl rfl ?_
        refine ev_getfield de_Mo_gathersTrades_81 rfl fl_Mo_57 rfl ?_
        refine ev_bipush de_Mo_gathersTrades_84 rfl ?_
        refine ev_iload_n de_Mo_gathersTrades_86 rfl rfl ?_
        refine ev_imul de_Mo_gathersTrades_87 ?_
        refine ev_iload_n de_Mo_gathersTrades_88 rfl rfl ?_
        refine ev_iadd de_Mo_gathersTrades_89 ?_
        refine ev_iaload de_Mo_gathersTrades_90 rfl (by omega) (by omega) (by omega) ?_
        refine ev_top (congrArg Sum.inl q3) ?_
        refine ev_aload_n de_Mo_gathersTrades_91 rfl rfl ?_
        refine ev_iload_n de_Mo_gathersTrades_92 rfl rfl ?_
        refine ev_vv (ci := 11) de_Mo_gathersTrades_93 (co_Mo_dayNow_x hI hd hsl hs hsx hdx h0 hh0 hh1) kb_Mo_429 ⟨im_Mo_dayNow, se_Mo_dayNow⟩ rfl rfl rfl (Nat.le_of_ble_eq_true rfl) (by decide) rfl ?_
        refine ev_icmp_ge (tgt := 105) de_Mo_gathersTrades_96 (by decide) (by omega) (by omega) (fun h96 => ?_) (fun h96 => ?_)
        · skip
          exact kk _ g g1 g3 (fun _ => tz_ok_i.mpr ⟨hb, by omega⟩)
        · skip
          have hko : tz_ok (tz_D said) (tz_N said) h0 u k = false := by
            unfold tz_ok
            rw [decide_eq_false (show ¬ tz_N said h0 ≤ tz_D said (7 * h0 + (k : Int)) by omega), Bool.and_false]
          refine ev_iinc (l' := [_, _, _, _]) de_Mo_gathersTrades_99 rfl rfl ?_
          refine ev_goto (tgt := 62) de_Mo_gathersTrades_102 (by decide) ?_
          exact ih (k + 1) (by omega) (by omega) (by omega) (fun j a b => by by_cases e : j = k; (rw [e]; exact hko); (exact g3 j a (by omega)))
set_option maxHeartbeats 4000000 in
set_option maxRecDepth 10000 in
theorem lb_Mo_gathers_x {B : Int} (hI : sg_ok B said) (Q : Option ab_V → ab_W → Prop) (u : Nat) (hu : u < 128) (h0 : Int) (hh0 : 0 ≤ h0) (hh1 : h0 ≤ said 1) (kv : Int) (hkv : kv = said 1) (uo : Nat) (huo : (h0 = 0 ∧ uo = u) ∨ (1 ≤ h0 ∧ ∃ p : Nat, p < 7 ∧ row (h0 + -1) = (p : Int) ∧ uo.testBit p = false ∧ u = uo ||| 2 ^ p)) (huo1 : uo < 128) (K : ab_Ev g_G g_rs mt_Mo_gathersTrades 2 0 0 16 [some (ab_R 0), some (ab_I (uo : Int)), some (ab_I (h0 + -1)), some (ab_I kv)] [] (mo_W tape taped rules sign leng clause clauses read next wrong number text made deep lines opn opened stack top word said xx was undone kept sumOf faced slotAt dayAt row bestRow tMany tMost drawX images imageX isMade) Q) : ab_Ev g_G g_rs mt_Mo_gathersTrades 2 0 0 105 [some (ab_R 0), some (ab_I (u : Int)), some (ab_I h0), some (ab_I kv)] [] (mo_W tape taped rules sign leng clause clauses read next wrong number text made deep lines opn opened stack top word said xx was undone kept sumOf faced slotAt dayAt row bestRow tMany tMost drawX images imageX isMade) Q := by
  have hJ := hI; obtain ⟨i0, i1, i2, i3, i4, i5, i6, i7, i8, i9, i10, i11, i12, i13, i14, i15, i16, i17⟩ := sg_all hJ
  refine ev_iload_n de_Mo_gathersTrades_105 rfl rfl ?_
  refine ev_aload_n de_Mo_gathersTrades_106 rfl rfl ?_
  refine ev_getfield de_Mo_gathersTrades_107 rfl fl_Mo_39 rfl ?_
  refine ev_iconst de_Mo_gathersTrades_110 ?_
  refine ev_iaload de_Mo_gathersTrades_111 rfl (by omega) (by omega) (by omega) ?_
  refine ev_icmp_ne (tgt := 138) de_Mo_gathersTrades_112 (by decide) (by omega) (by omega) (fun h112 => ?_) (fun h112 => ?_)
  · exact absurd hkv h112
  · skip
    refine ev_iinc (l' := [_, _, _, _]) de_Mo_gathersTrades_115 rfl rfl ?_
    refine ev_iload_n de_Mo_gathersTrades_118 rfl rfl ?_
    refine ev_if_lt (tgt := 16) de_Mo_gathersTrades_119 (by decide) (by omega) (fun h119 => ?_) (fun h119 => ?_)
    · skip
      obtain ⟨e1, e2⟩ := huo.resolve_right (fun z => by have := z.1; omega)
      subst e2
      exact K
    · skip
      obtain ⟨e1, p, p1, p2, p3, p4⟩ := huo.resolve_left (fun z => by have := z.1; omega)
      refine ev_iload_n de_Mo_gathersTrades_122 rfl rfl ?_
      refine ev_iconst de_Mo_gathersTrades_123 ?_
      refine ev_aload_n de_Mo_gathersTrades_124 rfl rfl ?_
      refine ev_getfield de_Mo_gathersTrades_125 rfl fl_Mo_60 rfl ?_
      refine ev_iload_n de_Mo_gathersTrades_128 rfl rfl ?_
      refine ev_iaload de_Mo_gathersTrades_129 rfl (by omega) (by omega) (by omega) ?_
      refine ev_top (congrArg Sum.inl p2) ?_
      refine ev_ishl de_Mo_gathersTrades_130 (by omega) (by omega) ?_
      refine ev_iconst de_Mo_gathersTrades_131 ?_
      refine ev_ixor de_Mo_gathersTrades_132 ?_
      refine ev_iand de_Mo_gathersTrades_133 ?_
      refine ev_top (congrArg Sum.inl (show _ = (uo : Int) from by rw [p4, Int.toNat_natCast]; exact pc_un uo huo1 p p1 p3)) ?_
      refine ev_istore_n (l' := [_, _, _, _]) de_Mo_gathersTrades_134 rfl (Nat.le_of_ble_eq_true rfl) rfl ?_
      refine ev_goto (tgt := 16) de_Mo_gathersTrades_135 (by decide) ?_
      exact K
set_option maxHeartbeats 4000000 in
set_option maxRecDepth 10000 in
theorem la_Mo_gathers_x {B : Int} (hI : sg_ok B said) (Q : Option ab_V → ab_W → Prop) (u : Nat) (hu : u < 128) (h0 : Int) (k : Nat) (hh0 : 0 ≤ h0) (hh1 : h0 < said 1) (hk1 : (k : Int) < said 1) (N : ∀ (row2 : Int → Int), (∀ j, 0 ≤ j → j < h0 → row2 j = row j) → row2 h0 = (k : Int) → (h0 + 1 < said 1 → row2 (h0 + 1) = -1) → ab_Ev g_G g_rs mt_Mo_gathersTrades 2 0 0 16 [some (ab_R 0), some (ab_I ((u ||| 2 ^ k : Nat) : Int)), some (ab_I (h0 + 1)), some (ab_I (k : Int))] [] (mo_W tape taped rules sign leng clause clauses read next wrong number text made deep lines opn opened stack top word said xx was undone kept sumOf faced slotAt dayAt (row2) bestRow tMany tMost drawX images imageX isMade) Q) : ab_Ev g_G g_rs mt_Mo_gathersTrades 2 0 0 105 [some (ab_R 0), some (ab_I (u : Int)), some (ab_I h0), some (ab_I (k : Int))] [] (mo_W tape taped rules sign leng clause clauses read next wrong number text made deep lines opn opened stack top word said xx was undone kept sumOf faced slotAt dayAt row bestRow tMany tMost drawX images imageX isMade) Q := by
  have hJ := hI; obtain ⟨i0, i1, i2, i3, i4, i5, i6, i7, i8, i9, i10, i11, i12, i13, i14, i15, i16, i17⟩ := sg_all hJ
  refine ev_iload_n de_Mo_gathersTrades_105 rfl rfl ?_
  refine ev_aload_n de_Mo_gathersTrades_106 rfl rfl ?_
  refine ev_getfield de_Mo_gathersTrades_107 rfl fl_Mo_39 rfl ?_
  refine ev_iconst de_Mo_gathersTrades_110 ?_
  refine ev_iaload de_Mo_gathersTrades_111 rfl (by omega) (by omega) (by omega) ?_
  refine ev_icmp_ne (tgt := 138) de_Mo_gathersTrades_112 (by decide) (by omega) (by omega) (fun h112 => ?_) (fun h112 => ?_)
  · skip
    refine ev_aload_n de_Mo_gathersTrades_138 rfl rfl ?_
    refine ev_getfield de_Mo_gathersTrades_139 rfl fl_Mo_60 rfl ?_
    refine ev_iload_n de_Mo_gathersTrades_142 rfl rfl ?_
    refine ev_iload_n de_Mo_gathersTrades_143 rfl rfl ?_
    refine ev_iastore de_Mo_gathersTrades_144 rfl (by omega) (by omega) (by omega) ?_
    refine ev_world (w' := mo_W _ _ _ _ _ _ _ _ _ _ _ _ _ _ _ _ _ _ _ _ _ _ _ _ _ _ _ _ _ _ _ _ _ _ _ _ _) rfl ?_
    refine ev_iload_n de_Mo_gathersTrades_145 rfl rfl ?_
    refine ev_iconst de_Mo_gathersTrades_146 ?_
    refine ev_iload_n de_Mo_gathersTrades_147 rfl rfl ?_
    refine ev_ishl de_Mo_gathersTrades_148 (by omega) (by omega) ?_
    refine ev_ior de_Mo_gathersTrades_149 ?_
    refine ev_top (congrArg Sum.inl (show _ = ((u ||| 2 ^ k : Nat) : Int) from by rw [Int.toNat_natCast]; exact ab_ior_pow (Nat.lt_trans hu (by decide)) (by omega))) ?_
    refine ev_istore_n (l' := [_, _, _, _]) de_Mo_gathersTrades_150 rfl (Nat.le_of_ble_eq_true rfl) rfl ?_
    refine ev_iinc (l' := [_, _, _, _]) de_Mo_gathersTrades_151 rfl rfl ?_
    refine ev_iload_n de_Mo_gathersTrades_154 rfl rfl ?_
    refine ev_aload_n de_Mo_gathersTrades_155 rfl rfl ?_
    refine ev_getfield de_Mo_gathersTrades_156 rfl fl_Mo_39 rfl ?_
    refine ev_iconst de_Mo_gathersTrades_159 ?_
    refine ev_iaload de_Mo_gathersTrades_160 rfl (by omega) (by omega) (by omega) ?_
    refine ev_icmp_ge (tgt := 171) de_Mo_gathersTrades_161 (by decide) (by omega) (by omega) (fun h161 => ?_) (fun h161 => ?_)
    · skip
      refine ev_goto (tgt := 16) de_Mo_gathersTrades_171 (by decide) ?_
      exact N _ (fun j a b => ab_upn _ _ (by omega)) (ab_upe _ _ _) (fun z => absurd z (by omega))
    · skip
      refine ev_aload_n de_Mo_gathersTrades_164 rfl rfl ?_
      refine ev_getfield de_Mo_gathersTrades_165 rfl fl_Mo_60 rfl ?_
      refine ev_iload_n de_Mo_gathersTrades_168 rfl rfl ?_
      refine ev_iconst de_Mo_gathersTrades_169 ?_
      refine ev_iastore de_Mo_gathersTrades_170 rfl (by omega) (by omega) (by omega) ?_
      refine ev_world (w' := mo_W _ _ _ _ _ _ _ _ _ _ _ _ _ _ _ _ _ _ _ _ _ _ _ _ _ _ _ _ _ _ _ _ _ _ _ _ _) rfl ?_
      refine ev_goto (tgt := 16) de_Mo_gathersTrades_171 (by decide) ?_
      exact N _ (fun j a b => by rw [ab_upn _ _ (by omega), ab_upn _ _ (by omega)]) (by rw [ab_upn _ _ (by omega), ab_upe]) (fun _ => ab_upe _ _ _)
  · exact absurd h112 (by omega)
set_option maxHeartbeats 4000000 in
set_option maxRecDepth 10000 in
theorem lg_Mo_gathers_x {B : Int} (hI : sg_ok B said) (hB : B ≤ 29000) (hd : td_d dayAt) (hsl : td_s slotAt) (hs : tz_hs said) (hsx : tz_sx said slotAt) (hdx : tz_dx said dayAt) (Q : Option ab_V → ab_W → Prop) : ∀ (m : Nat) (h0 : Int) (P : List Nat) (u uo : Nat) (S : Int) (X : Int × Int × List Nat), h0 + (m : Int) = said 1 → 0 ≤ h0 → (P.length : Int) = h0 → td_r (tz_r P) h0 (said 1) → u < 128 → uo < 128 → (h0 = 0 ∧ uo = u) ∨ (1 ≤ h0 ∧ ∃ p : Nat, p < 7 ∧ tz_r P (h0 + -1) = (p : Int) ∧ uo.testBit p = false ∧ u = uo ||| 2 ^ p) → S = tz_sr (tz_D said) (tz_r P) P.length → 0 ≤ X.1 → X.1 + ((7 ^ m : Nat) : Int) ≤ 2000000 → (∀ (l3 : Option ab_V) (row bestRow : Int → Int) (tMany tMost : Int), (∀ j, 0 ≤ j → j < h0 → row j = tz_r P j) → tz_rel slotAt (said 1) (tz_a X S (tz_p (tz_D said) (tz_N said) (said 1).toNat m u).1 (tz_p (tz_D said) (tz_N said) (said 1).toNat m u).2.1 (P ++ tz_f (tz_D said) (tz_N said) (said 1).toNat m u)) tMany tMost bestRow → ab_in tMost → ab_Ev g_G g_rs mt_Mo_gathersTrades 2 0 0 16 [some (ab_R 0), some (ab_I (uo : Int)), some (ab_I (h0 + -1)), l3] [] (mo_W tape taped rules sign leng clause clauses read next wrong number text made deep lines opn opened stack top word said xx was undone kept sumOf faced slotAt dayAt row bestRow tMany tMost drawX images imageX isMade) Q) → ∀ (l3 : Option ab_V) (row bestRow : Int → Int) (tMany tMost : Int), (h0 < said 1 → row h0 = -1) → (∀ j, 0 ≤ j → j < h0 → row j = tz_r P j) → tz_rel slotAt (said 1) X tMany tMost bestRow → ab_in tMost → ab_Ev g_G g_rs mt_Mo_gathersTrades 2 0 0 16 [some (ab_R 0), some (ab_I (u : Int)), some (ab_I h0), l3] [] (mo_W tape taped rules sign leng clause clauses read next wrong number text made deep lines opn opened stack top word said xx was undone kept sumOf faced slotAt dayAt row bestRow tMany tMost drawX images imageX isMade) Q := by
  intro m
  induction m with
  | zero =>
    intro h0 P u uo S X hm hh0 hPl hP hu huo1 huo hS hX hXb K l3 row bestRow tMany tMost hr ha hrel hto
    have hrr : td_r row (said 1) (said 1) := fun j a b => by rw [ha j a (by omega)]; exact hP j a (by omega)
    have hJ := hI; obtain ⟨i0, i1, i2, i3, i4, i5, i6, i7, i8, i9, i10, i11, i12, i13, i14, i15, i16, i17⟩ := sg_all hJ
    have hXb : X.1 + 1 ≤ 2000000 := hXb
    have em := hrel.1
    have eS : tz_sr (tz_D said) row (said 1).toNat = S := by
      rw [hS, show P.length = (said 1).toNat by omega]
      exact tz_sr_cg _ _ (fun j hj => ha (j : Int) (by omega) (by omega))
    have bS := tz_sr_b (D := tz_D said) (row := row) (H := said 1) (by omega) (tz_D_b hI hB) (said 1).toNat (by omega) (fun j a b => hrr j a (by omega))
    refine ev_iload_n de_Mo_gathersTrades_16 rfl rfl ?_
    refine ev_if_lt (tgt := 174) de_Mo_gathersTrades_17 (by decide) (by omega) (fun h17 => ?_) (fun h17 => ?_)
    · exact absurd h17 (by omega)
    · skip
      refine ev_iload_n de_Mo_gathersTrades_20 rfl rfl ?_
      refine ev_aload_n de_Mo_gathersTrades_21 rfl rfl ?_
      refine ev_getfield de_Mo_gathersTrades_22 rfl fl_Mo_39 rfl ?_
      refine ev_iconst de_Mo_gathersTrades_25 ?_
      refine ev_iaload de_Mo_gathersTrades_26 rfl (by omega) (by omega) (by omega) ?_
      refine ev_icmp_ne (tgt := 34) de_Mo_gathersTrades_27 (by decide) (by omega) (by omega) (fun h27 => ?_) (fun h27 => ?_)
      · exact absurd (show h0 = said 1 by omega) h27
      · skip
        refine ev_aload_n de_Mo_gathersTrades_30 rfl rfl ?_
        refine ev_virtual (ci := 11) (mc := 0) (ms := 0) (bc := 0) (bs := 0) de_Mo_gathersTrades_31 (co_Mo_countsRow_x hI hB hd hsl hdx hrr (by omega) hto) kb_Mo_426 ⟨im_Mo_countsRow, se_Mo_countsRow⟩ rfl rfl rfl (Nat.le_of_ble_eq_true rfl) (by decide) (Or.inl (fun r w1 h => by obtain ⟨-, br, rfl, -, -⟩ := h; first | exact mo_Wn.trans mo_Wn.symm | rfl)) (fun r1 w1 hm1 => ?_)
        obtain ⟨rfl, br, rfl, hb1, hb2⟩ := hm1
        · skip
          rw [eS] at hb1 hb2 bS
          rw [eS]
          refine ev_iload_n de_Mo_gathersTrades_34 rfl rfl ?_
          refine ev_aload_n de_Mo_gathersTrades_35 rfl rfl ?_
          refine ev_getfield de_Mo_gathersTrades_36 rfl fl_Mo_39 rfl ?_
          refine ev_iconst de_Mo_gathersTrades_39 ?_
          refine ev_iaload de_Mo_gathersTrades_40 rfl (by omega) (by omega) (by omega) ?_
          refine ev_icmp_ne (tgt := 53) de_Mo_gathersTrades_41 (by decide) (by omega) (by omega) (fun h41 => ?_) (fun h41 => ?_)
          · exact absurd (show h0 = said 1 by omega) h41
          · skip
            refine ev_aload_n de_Mo_gathersTrades_44 rfl rfl ?_
            refine ev_getfield de_Mo_gathersTrades_45 rfl fl_Mo_39 rfl ?_
            refine ev_iconst de_Mo_gathersTrades_48 ?_
            refine ev_iaload de_Mo_gathersTrades_49 rfl (by omega) (by omega) (by omega) ?_
            refine ev_goto (tgt := 61) de_Mo_gathersTrades_50 (by decide) ?_
            refine ev_istore_n (l' := [_, _, _, _]) de_Mo_gathersTrades_61 rfl (Nat.le_of_ble_eq_true rfl) rfl ?_
            refine ev_iload_n de_Mo_gathersTrades_62 rfl rfl ?_
            refine ev_aload_n de_Mo_gathersTrades_63 rfl rfl ?_
            refine ev_getfield de_Mo_gathersTrades_64 rfl fl_Mo_39 rfl ?_
            refine ev_iconst de_Mo_gathersTrades_67 ?_
            refine ev_iaload de_Mo_gathersTrades_68 rfl (by omega) (by omega) (by omega) ?_
            refine ev_icmp_ge (tgt := 105) de_Mo_gathersTrades_69 (by decide) (by omega) (by omega) (fun h69 => ?_) (fun h69 => ?_)
            · skip
              refine lb_Mo_gathers_x hI Q u hu h0 hh0 (by omega) _ rfl uo (huo.imp id (fun z => ⟨z.1, by obtain ⟨p, p1, p2, p3, p4⟩ := z.2; exact ⟨p, p1, by rw [ha (h0 + -1) (by omega) (by omega)]; exact p2, p3, p4⟩⟩)) huo1 ?_
              exact K _ row _ _ _ ha (tz_leaf hrel hX (fun j a b => ha j a (by omega)) hb1 hb2) (by split; (have h7 := i1; omega); exact hto)
            · exact absurd (Int.le_refl _) h69
  | succ m ihm =>
    intro h0 P u uo S X hm hh0 hPl hP hu huo1 huo hS hX hXb K
    have inner : ∀ (n : Nat) (k0 : Nat) (l3 : Option ab_V) (row bestRow : Int → Int) (tMany tMost : Int), (k0 : Int) ≤ said 1 → said 1 < k0 + n → row h0 = (k0 : Int) - 1 → (∀ j, 0 ≤ j → j < h0 → row j = tz_r P j) → tz_rel slotAt (said 1) (tz_x (tz_D said) (tz_N said) (said 1).toNat m h0 u P S X k0) tMany tMost bestRow → ab_in tMost → ab_Ev g_G g_rs mt_Mo_gathersTrades 2 0 0 16 [some (ab_R 0), some (ab_I (u : Int)), some (ab_I h0), l3] [] (mo_W tape taped rules sign leng clause clauses read next wrong number text made deep lines opn opened stack top word said xx was undone kept sumOf faced slotAt dayAt row bestRow tMany tMost drawX images imageX isMade) Q := by
      intro n
      induction n with
      | zero => intro k0 l3 row bestRow tMany tMost a b; omega
      | succ n ihn =>
        intro k0 l3 row bestRow tMany tMost hk0 hkn hr ha hrel hto
        have hJ := hI; obtain ⟨i0, i1, i2, i3, i4, i5, i6, i7, i8, i9, i10, i11, i12, i13, i14, i15, i16, i17⟩ := sg_all hJ
        refine ev_iload_n de_Mo_gathersTrades_16 rfl rfl ?_
        refine ev_if_lt (tgt := 174) de_Mo_gathersTrades_17 (by decide) (by omega) (fun h17 => ?_) (fun h17 => ?_)
        · exact absurd h17 (by omega)
        · skip
          refine ev_iload_n de_Mo_gathersTrades_20 rfl rfl ?_
          refine ev_aload_n de_Mo_gathersTrades_21 rfl rfl ?_
          refine ev_getfield de_Mo_gathersTrades_22 rfl fl_Mo_39 rfl ?_
          refine ev_iconst de_Mo_gathersTrades_25 ?_
          refine ev_iaload de_Mo_gathersTrades_26 rfl (by omega) (by omega) (by omega) ?_
          refine ev_icmp_ne (tgt := 34) de_Mo_gathersTrades_27 (by decide) (by omega) (by omega) (fun h27 => ?_) (fun h27 => ?_)
          · skip
            refine ev_iload_n de_Mo_gathersTrades_34 rfl rfl ?_
            refine ev_aload_n de_Mo_gathersTrades_35 rfl rfl ?_
            refine ev_getfield de_Mo_gathersTrades_36 rfl fl_Mo_39 rfl ?_
            refine ev_iconst de_Mo_gathersTrades_39 ?_
            refine ev_iaload de_Mo_gathersTrades_40 rfl (by omega) (by omega) (by omega) ?_
            refine ev_icmp_ne (tgt := 53) de_Mo_gathersTrades_41 (by decide) (by omega) (by omega) (fun h41 => ?_) (fun h41 => ?_)
            · skip
              refine ev_aload_n de_Mo_gathersTrades_53 rfl rfl ?_
              refine ev_getfield de_Mo_gathersTrades_54 rfl fl_Mo_60 rfl ?_
              refine ev_iload_n de_Mo_gathersTrades_57 rfl rfl ?_
              refine ev_iaload de_Mo_gathersTrades_58 rfl (by omega) (by omega) (by omega) ?_
              refine ev_iconst de_Mo_gathersTrades_59 ?_
              refine ev_iadd de_Mo_gathersTrades_60 ?_
              refine ev_top (congrArg Sum.inl (show _ = (k0 : Int) by omega)) ?_
              refine ev_istore_n (l' := [_, _, _, _]) de_Mo_gathersTrades_61 rfl (Nat.le_of_ble_eq_true rfl) rfl ?_
              refine lk_Mo_gathers_x hI hB hd hsl hs hsx hdx Q u hu h0 hh0 (by omega) k0 (fun k hk0 hk1 hno hok => ?_) 8 k0 (Nat.le_refl _) (by omega) (by omega) (fun j a b => by omega)
              have ex : (tz_x (tz_D said) (tz_N said) (said 1).toNat m h0 u P S X k) = (tz_x (tz_D said) (tz_N said) (said 1).toNat m h0 u P S X k0) := by
                have q := tz_x_sk (D := tz_D said) (N := tz_N said) (n := (said 1).toNat) (m := m) (h := h0) (u := u) (P := P) (S := S) (X := X) (k0 := k0) (k - k0) (fun j a b => hno j a (by omega))
                rw [show k0 + (k - k0) = k by omega] at q
                exact q
              rw [← ex] at hrel
              by_cases c : (k : Int) = said 1
              · refine lb_Mo_gathers_x hI Q u hu h0 hh0 (by omega) (k : Int) c uo (huo.imp id (fun z => ⟨z.1, by obtain ⟨p, p1, p2, p3, p4⟩ := z.2; exact ⟨p, p1, by rw [ha (h0 + -1) (by omega) (by omega)]; exact p2, p3, p4⟩⟩)) huo1 ?_
                refine K _ row _ _ _ ha ?_ hto
                rw [show k = (said 1).toNat by omega, tz_x_n (tz_D said) (tz_N said) (said 1).toNat m u P S X hX (by omega)] at hrel
                exact hrel
              · have hko := hok (by omega)
                have hkb := (tz_ok_i.mp hko).1
                refine la_Mo_gathers_x hI Q u hu h0 k hh0 (by omega) (by omega) (fun row2 e1 e2 e3 => ?_)
                have hxb := tz_x_b (D := tz_D said) (N := tz_N said) (n := (said 1).toNat) (m := m) (by omega) (by omega) (tz_D_b hI hB) h0 u P S X hX k
                have hmul : k * 7 ^ m ≤ 6 * 7 ^ m := Nat.mul_le_mul_right _ (by omega)
                have hpow : 7 ^ (m + 1) = 7 * 7 ^ m := by rw [Nat.pow_succ, Nat.mul_comm]
                rw [hpow] at hXb
                have hlen : ((P ++ [k]).length : Int) = h0 + 1 := by rw [List.length_append, List.length_singleton]; omega
                have er : ∀ j, 0 ≤ j → j < h0 → tz_r (P ++ [k]) j = tz_r P j := fun j a b => tz_r_l P k [] a (by omega)
                have ek : tz_r (P ++ [k]) h0 = (k : Int) := by rw [← hPl]; exact tz_r_k P k []
                have hP2 : td_r (tz_r (P ++ [k])) (h0 + 1) (said 1) := fun j a b => by
                  by_cases z : j = h0
                  · rw [z, ek]; omega
                  · rw [er j a (by omega)]; exact hP j a (by omega)
                have hS2 : S + tz_D said (7 * h0 + (k : Int)) = tz_sr (tz_D said) (tz_r (P ++ [k])) (P ++ [k]).length := by
                  rw [List.length_append, List.length_singleton]
                  show _ = tz_sr (tz_D said) (tz_r (P ++ [k])) P.length + tz_D said (7 * (P.length : Int) + tz_r (P ++ [k]) (P.length : Int))
                  rw [hPl, ek, hS, tz_sr_cg (tz_D said) (r1 := tz_r (P ++ [k])) (r2 := tz_r P) P.length (fun j hj => er (j : Int) (by omega) (by omega))]
                refine ihm (h0 + 1) (P ++ [k]) (u ||| 2 ^ k) u (S + tz_D said (7 * h0 + (k : Int))) (tz_x (tz_D said) (tz_N said) (said 1).toNat m h0 u P S X k) (by omega) (by omega) hlen hP2 (Nat.or_lt_two_pow (n := 7) hu (Nat.pow_lt_pow_right (by decide) (by omega))) hu (Or.inr ⟨by omega, k, by omega, by rw [show h0 + 1 + -1 = h0 by omega]; exact ek, hkb, rfl⟩) hS2 hxb.1 (by omega) (fun l3 row bestRow tMany tMost ha2 hrel2 hto2 => ?_) _ row2 _ _ _ e3 (fun j a b => by (by_cases z : j = h0); (rw [z, ek]; exact e2); (rw [er j a (by omega), e1 j a (by omega)]; exact ha j a (by omega))) hrel hto
                refine ev_loc (l2 := [some (ab_R 0), some (ab_I (u : Int)), some (ab_I h0), l3]) (by rw [show h0 + 1 + -1 = h0 by omega]) ?_
                refine ihn (k + 1) l3 row bestRow tMany tMost (by omega) (by omega) (by rw [ha2 h0 hh0 (by omega), ek]; omega) (fun j a b => by rw [ha2 j a (by omega)]; exact er j a b) ?_ hto2
                have es : (tz_x (tz_D said) (tz_N said) (said 1).toNat m h0 u P S X (k + 1)) = tz_a (tz_x (tz_D said) (tz_N said) (said 1).toNat m h0 u P S X k) (S + tz_D said (7 * h0 + (k : Int))) (tz_p (tz_D said) (tz_N said) (said 1).toNat m (u ||| 2 ^ k)).1 (tz_p (tz_D said) (tz_N said) (said 1).toNat m (u ||| 2 ^ k)).2.1 (P ++ k :: tz_f (tz_D said) (tz_N said) (said 1).toNat m (u ||| 2 ^ k)) := by
                  show (if _ then _ else _) = _
                  rw [if_pos hko]
                rw [es]
                rw [List.append_assoc] at hrel2
                exact hrel2
            · exact absurd h41 (by omega)
          · exact absurd h27 (by omega)
    intro l3 row bestRow tMany tMost hr ha hrel hto
    have hJ := hI; obtain ⟨i0, i1, i2, i3, i4, i5, i6, i7, i8, i9, i10, i11, i12, i13, i14, i15, i16, i17⟩ := sg_all hJ
    exact inner 8 0 l3 row bestRow tMany tMost (by omega) (by omega) (by rw [hr (by omega)]; rfl) ha hrel hto
set_option maxHeartbeats 4000000 in
set_option maxRecDepth 10000 in
theorem co_Mo_gathersTrades_x {B : Int} (hI : sg_ok B said) (hB : B ≤ 29000) (hd : td_d dayAt) (hsl : td_s slotAt) (hs : tz_hs said) (hsx : tz_sx said slotAt) (hdx : tz_dx said dayAt) (htm : ab_in tMany) (hto : ab_in tMost) : ab_Mt g_G g_rs mt_Mo_gathersTrades 2 0 0 [ab_R 0] (mo_W tape taped rules sign leng clause clauses read next wrong number text made deep lines opn opened stack top word said xx was undone kept sumOf faced slotAt dayAt row bestRow tMany tMost drawX images imageX isMade) (fun r w2 => r = none ∧ ∃ (rw_ br : Int → Int) (tm to_ : Int), ab_in tm ∧ ab_in to_ ∧ tz_rel slotAt (said 1) ((tz_p (tz_D said) (tz_N said) (said 1).toNat (said 1).toNat 0).1, (tz_p (tz_D said) (tz_N said) (said 1).toNat (said 1).toNat 0).2.1, tz_f (tz_D said) (tz_N said) (said 1).toNat (said 1).toNat 0) tm to_ br ∧ w2 = (mo_W tape taped rules sign leng clause clauses read next wrong number text made deep lines opn opened stack top word said xx was undone kept sumOf faced slotAt dayAt (rw_) (br) (tm) (to_) drawX images imageX isMade)) := by
  refine ab_Mt.of rfl (Nat.le_of_ble_eq_true rfl) ?_
  show ab_Ev g_G g_rs mt_Mo_gathersTrades _ _ _ 0 [some (ab_R 0), none, none, none] [] _ _
  refine ev_iconst de_Mo_gathersTrades_0 ?_
  refine ev_istore_n (l' := [_, _, _, _]) de_Mo_gathersTrades_1 rfl (Nat.le_of_ble_eq_true rfl) rfl ?_
  refine ev_iconst de_Mo_gathersTrades_2 ?_
  refine ev_istore_n (l' := [_, _, _, _]) de_Mo_gathersTrades_3 rfl (Nat.le_of_ble_eq_true rfl) rfl ?_
  refine ev_aload_n de_Mo_gathersTrades_4 rfl rfl ?_
  refine ev_iconst de_Mo_gathersTrades_5 ?_
  refine ev_putfield de_Mo_gathersTrades_6 rfl (fp_Mo_420 _) (Nat.le_of_ble_eq_true rfl) trivial ?_
  refine ev_world (w' := mo_W _ _ _ _ _ _ _ _ _ _ _ _ _ _ _ _ _ _ _ _ _ _ _ _ _ _ _ _ _ _ _ _ _ _ _ _ _) rfl ?_
  refine ev_aload_n de_Mo_gathersTrades_9 rfl rfl ?_
  refine ev_getfield de_Mo_gathersTrades_10 rfl fl_Mo_60 rfl ?_
  refine ev_iconst de_Mo_gathersTrades_13 ?_
  refine ev_iconst de_Mo_gathersTrades_14 ?_
  refine ev_iastore de_Mo_gathersTrades_15 rfl (by omega) (by omega) (by omega) ?_
  refine ev_world (w' := mo_W _ _ _ _ _ _ _ _ _ _ _ _ _ _ _ _ _ _ _ _ _ _ _ _ _ _ _ _ _ _ _ _ _ _ _ _ _) rfl ?_
  have hJ := hI; obtain ⟨i0, i1, i2, i3, i4, i5, i6, i7, i8, i9, i10, i11, i12, i13, i14, i15, i16, i17⟩ := sg_all hJ
  have pos := tz_many hs (said 1).toNat (Nat.le_refl _) 0 (fun k hk => absurd hk (by rw [Nat.zero_testBit]; decide))
  have pb := tz_p_b (D := tz_D said) (N := tz_N said) (n := (said 1).toNat) (by omega) (tz_D_b hI hB) (said 1).toNat (Nat.le_refl _) 0
  have p7 : 7 ^ (said 1).toNat ≤ 7 ^ 7 := Nat.pow_le_pow_right (by decide) (by omega)
  have p7b : (7 : Nat) ^ 7 = 823543 := rfl
  refine lg_Mo_gathers_x hI hB hd hsl hs hsx hdx _ (said 1).toNat 0 [] 0 0 0 (0, tMost, []) (by omega) (by omega) rfl (fun j a b => by omega) (by decide) (by decide) (Or.inl ⟨rfl, rfl⟩) rfl (Int.le_refl _) (by show (0 : Int) + _ ≤ _; omega) (fun l3 row bestRow tMany tMost ha hrel hto => ?_) _ _ _ _ _ (fun _ => ab_upe _ _ _) (fun j a b => by omega) ⟨rfl, rfl, fun z => absurd z (by show ¬ (0 : Int) < 0; decide)⟩ hto
  refine ev_iload_n de_Mo_gathersTrades_16 rfl rfl ?_
  refine ev_if_lt (tgt := 174) de_Mo_gathersTrades_17 (by decide) (by decide) (fun _ => ?_) (fun h => absurd (by decide) h)
  unfold tz_a at hrel
  rw [if_neg (by omega), if_pos (Or.inl rfl)] at hrel
  have hrel : tz_rel slotAt (said 1) (0 + (tz_p (tz_D said) (tz_N said) (said 1).toNat (said 1).toNat 0).1, 0 + (tz_p (tz_D said) (tz_N said) (said 1).toNat (said 1).toNat 0).2.1, [] ++ tz_f (tz_D said) (tz_N said) (said 1).toNat (said 1).toNat 0) tMany tMost bestRow := hrel
  rw [Int.zero_add, Int.zero_add, List.nil_append] at hrel
  exact ev_return de_Mo_gathersTrades_174 rfl ⟨rfl, _, _, _, _, by have := hrel.1; have h9 : tMany = _ := this; show ab_in tMany; rw [h9]; show ab_in _; constructor <;> omega, hto, hrel, rfl⟩
set_option maxHeartbeats 4000000 in
set_option maxRecDepth 10000 in
theorem co_Mo_trade_x {B : Int} (hI : sg_ok B said) (hB : B ≤ 29000) (hds : tz_ds said) (hd : td_d dayAt) (hsl : td_s slotAt) (htm : ab_in tMany) (hto : ab_in tMost) (ww : Int) (hw : ab_in ww) : ab_Mt g_G g_rs mt_Mo_trade 6 0 0 [ab_R 0, ab_I ww] (mo_W tape taped rules sign leng clause clauses read next wrong number text made deep lines opn opened stack top word said xx was undone kept sumOf faced slotAt dayAt row bestRow tMany tMost drawX images imageX isMade) (fun r w2 => r = some (ab_I (if said 0 = 1 ∧ 0 ≤ ww ∧ ww ≤ 8 then sp_trade said ww else -100000)) ∧ ∃ (sl dy kp rw_ br : Int → Int) (tm to_ : Int), td_s sl ∧ td_d dy ∧ ab_in tm ∧ ab_in to_ ∧ w2 = (mo_W tape taped rules sign leng clause clauses read next wrong number text made deep lines opn opened stack top word said xx was undone (kp) sumOf faced (sl) (dy) (rw_) (br) (tm) (to_) drawX images imageX isMade)) := by
  refine ab_Mt.of rfl (Nat.le_of_ble_eq_true rfl) ?_
  show ab_Ev g_G g_rs mt_Mo_trade _ _ _ 0 [some (ab_R 0), some (ab_I ww)] [] _ _
  have hJ := hI; obtain ⟨i0, i1, i2, i3, i4, i5, i6, i7, i8, i9, i10, i11, i12, i13, i14, i15, i16, i17⟩ := sg_all hJ
  have hs := tz_hs_of hI hds
  refine ev_aload_n de_Mo_trade_0 rfl rfl ?_
  refine ev_vv (ci := 11) de_Mo_trade_1 (co_Mo_isRing hI) kb_Mo_323 ⟨im_Mo_isRing, se_Mo_isRing⟩ rfl rfl rfl (Nat.le_of_ble_eq_true rfl) (by decide) rfl ?_
  refine ev_if_eq (tgt := 19) de_Mo_trade_4 (by decide) (by omega) (fun h4 => ?_) (fun h4 => ?_)
  · skip
    have hg : ¬ (said 0 = 1 ∧ 0 ≤ ww ∧ ww ≤ 8) := by omega
    refine ev_ldcw (n := -100000) de_Mo_trade_19 cn_Mo_399 rfl ?_
    exact ev_ireturn de_Mo_trade_22 rfl ⟨congrArg (fun z => some (ab_I z)) (by rw [if_neg hg]), _, _, _, _, _, _, _, hsl, hd, htm, hto, rfl⟩
  · skip
    refine ev_iload_n de_Mo_trade_7 rfl rfl ?_
    refine ev_i2l de_Mo_trade_8 (by omega) ?_
    refine ev_lconsti (n := 0) de_Mo_trade_9 (by decide) ?_
    refine ev_ldc2i (n := 8) de_Mo_trade_10 cn_Mo_432 (by decide) ?_
    refine ev_sv de_Mo_trade_13 (co_Mo_in _ ww 0 8 hw (by decide) (by decide)) kb_Mo_115 sc_Mo_in rfl (Nat.le_of_ble_eq_true rfl) (by decide) rfl ?_
    refine ev_if_ne (tgt := 23) de_Mo_trade_16 (by decide) (by split <;> decide) (fun h16 => ?_) (fun h16 => ?_)
    · skip
      have n16 : 0 ≤ ww ∧ ww ≤ 8 := Decidable.byContradiction (fun z => by rw [if_neg z] at h16; exact h16 rfl)
      refine ev_aload_n de_Mo_trade_23 rfl rfl ?_
      refine ev_virtual (ci := 11) (mc := 0) (ms := 0) (bc := 0) (bs := 0) de_Mo_trade_24 (co_Mo_fillsDays_x hI hB hs hd hsl) kb_Mo_434 ⟨im_Mo_fillsDays, se_Mo_fillsDays⟩ rfl rfl rfl (Nat.le_of_ble_eq_true rfl) (by decide) (Or.inl (fun r w1 h => by obtain ⟨-, sl, dy, kp, -, -, -, -, rfl⟩ := h; first | exact mo_Wn.trans mo_Wn.symm | rfl)) (fun r1 w1 hm1 => ?_)
      obtain ⟨rfl, sl, dy, kp, hs1, hd1, hsx, hdx, rfl⟩ := hm1
      · skip
        refine ev_aload_n de_Mo_trade_27 rfl rfl ?_
        refine ev_virtual (ci := 11) (mc := 0) (ms := 0) (bc := 0) (bs := 0) de_Mo_trade_28 (co_Mo_gathersTrades_x hI hB hd1 hs1 hs hsx hdx htm hto) kb_Mo_437 ⟨im_Mo_gathersTrades, se_Mo_gathersTrades⟩ rfl rfl rfl (Nat.le_of_ble_eq_true rfl) (by decide) (Or.inl (fun r w1 h => by obtain ⟨-, r1, br, tm, to_, -, -, -, rfl⟩ := h; first | exact mo_Wn.trans mo_Wn.symm | rfl)) (fun r1 w1 hm1 => ?_)
        obtain ⟨rfl, r1, br, tm, to_, htm1, hto1, hrel, rfl⟩ := hm1
        · skip
          refine ev_iload_n de_Mo_trade_31 rfl rfl ?_
          refine ev_if_ne (tgt := 40) de_Mo_trade_32 (by decide) (by omega) (fun h32 => ?_) (fun h32 => ?_)
          · skip
            refine ev_iload_n de_Mo_trade_40 rfl rfl ?_
            refine ev_iconst de_Mo_trade_41 ?_
            refine ev_icmp_ne (tgt := 52) de_Mo_trade_42 (by decide) (by omega) (by omega) (fun h42 => ?_) (fun h42 => ?_)
            · skip
              refine ev_iload_n de_Mo_trade_52 rfl rfl ?_
              refine ev_iconst de_Mo_trade_53 ?_
              refine ev_isub de_Mo_trade_54 ?_
              refine ev_aload_n de_Mo_trade_55 rfl rfl ?_
              refine ev_getfield de_Mo_trade_56 rfl fl_Mo_39 rfl ?_
              refine ev_iconst de_Mo_trade_59 ?_
              refine ev_iaload de_Mo_trade_60 rfl (by omega) (by omega) (by omega) ?_
              refine ev_icmp_ge (tgt := 75) de_Mo_trade_61 (by decide) (by omega) (by omega) (fun h61 => ?_) (fun h61 => ?_)
              · skip
                refine ev_bipush de_Mo_trade_75 rfl ?_
                exact ev_ireturn de_Mo_trade_77 rfl ⟨congrArg (fun z => some (ab_I z)) (by rw [if_pos (show said 0 = 1 ∧ 0 ≤ ww ∧ ww ≤ 8 by omega)]; unfold sp_trade; first | (rw [if_pos (show said 1 ≤ ww - 2 by omega)]; done) | (rw [if_neg (show ¬ said 1 ≤ ww - 2 by omega), if_neg (show ¬ ww = 0 by omega), if_pos (show ww = 1 by omega)]; exact hrel.2.1) | (rw [if_neg (show ¬ said 1 ≤ ww - 2 by omega), if_neg (show ¬ ww = 0 by omega), if_neg (show ¬ ww = 1 by omega), e9, hsx _ (by unfold tz_r; omega) e8]; rfl)), _, _, _, _, _, _, _, hs1, hd1, htm1, hto1, rfl⟩
              · skip
                have r1b : 0 ≤ ww - 2 ∧ ww - 2 < 7 := by omega
                have pos := tz_many hs (said 1).toNat (Nat.le_refl _) 0 (fun k hk => absurd hk (by rw [Nat.zero_testBit]; decide))
                have e8 : tz_r (tz_f (tz_D said) (tz_N said) (said 1).toNat (said 1).toNat 0) (ww - 2) < said 1 := by have q := tz_f_b (D := tz_D said) (N := tz_N said) (n := (said 1).toNat) (by omega) (said 1).toNat 0 pos (ww - 2).toNat; unfold tz_r; omega
                have e9 : br (ww - 2) = sl (tz_r (tz_f (tz_D said) (tz_N said) (said 1).toNat (said 1).toNat 0) (ww - 2)) := hrel.2.2 pos (ww - 2) (by omega) (by omega)
                refine ev_aload_n de_Mo_trade_64 rfl rfl ?_
                refine ev_getfield de_Mo_trade_65 rfl fl_Mo_63 rfl ?_
                refine ev_iload_n de_Mo_trade_68 rfl rfl ?_
                refine ev_iconst de_Mo_trade_69 ?_
                refine ev_isub de_Mo_trade_70 ?_
                refine ev_iaload de_Mo_trade_71 rfl (by omega) (by omega) (by omega) ?_
                refine ev_goto (tgt := 77) de_Mo_trade_72 (by decide) ?_
                exact ev_ireturn de_Mo_trade_77 rfl ⟨congrArg (fun z => some (ab_I z)) (by rw [if_pos (show said 0 = 1 ∧ 0 ≤ ww ∧ ww ≤ 8 by omega)]; unfold sp_trade; first | (rw [if_pos (show said 1 ≤ ww - 2 by omega)]; done) | (rw [if_neg (show ¬ said 1 ≤ ww - 2 by omega), if_neg (show ¬ ww = 0 by omega), if_pos (show ww = 1 by omega)]; exact hrel.2.1) | (rw [if_neg (show ¬ said 1 ≤ ww - 2 by omega), if_neg (show ¬ ww = 0 by omega), if_neg (show ¬ ww = 1 by omega), e9, hsx _ (by unfold tz_r; omega) e8]; rfl)), _, _, _, _, _, _, _, hs1, hd1, htm1, hto1, rfl⟩
            · skip
              refine ev_aload_n de_Mo_trade_45 rfl rfl ?_
              refine ev_getfield de_Mo_trade_46 rfl fl_Mo_423 rfl ?_
              refine ev_goto (tgt := 77) de_Mo_trade_49 (by decide) ?_
              exact ev_ireturn de_Mo_trade_77 rfl ⟨congrArg (fun z => some (ab_I z)) (by rw [if_pos (show said 0 = 1 ∧ 0 ≤ ww ∧ ww ≤ 8 by omega)]; unfold sp_trade; first | (rw [if_pos (show said 1 ≤ ww - 2 by omega)]; done) | (rw [if_neg (show ¬ said 1 ≤ ww - 2 by omega), if_neg (show ¬ ww = 0 by omega), if_pos (show ww = 1 by omega)]; exact hrel.2.1) | (rw [if_neg (show ¬ said 1 ≤ ww - 2 by omega), if_neg (show ¬ ww = 0 by omega), if_neg (show ¬ ww = 1 by omega), e9, hsx _ (by unfold tz_r; omega) e8]; rfl)), _, _, _, _, _, _, _, hs1, hd1, htm1, hto1, rfl⟩
          · skip
            refine ev_aload_n de_Mo_trade_35 rfl rfl ?_
            refine ev_getfield de_Mo_trade_36 rfl fl_Mo_420 rfl ?_
            exact ev_ireturn de_Mo_trade_39 rfl ⟨congrArg (fun z => some (ab_I z)) (by rw [if_pos (show said 0 = 1 ∧ 0 ≤ ww ∧ ww ≤ 8 by omega)]; unfold sp_trade; rw [if_neg (by omega), if_pos (by omega)]; exact hrel.1), _, _, _, _, _, _, _, hs1, hd1, htm1, hto1, rfl⟩
    · skip
      have n16 : ¬ (0 ≤ ww ∧ ww ≤ 8) := fun z => by rw [if_pos z] at h16; omega
      have hg : ¬ (said 0 = 1 ∧ 0 ≤ ww ∧ ww ≤ 8) := by omega
      refine ev_ldcw (n := -100000) de_Mo_trade_19 cn_Mo_399 rfl ?_
      exact ev_ireturn de_Mo_trade_22 rfl ⟨congrArg (fun z => some (ab_I z)) (by rw [if_neg hg]), _, _, _, _, _, _, _, hsl, hd, htm, hto, rfl⟩
end MO
