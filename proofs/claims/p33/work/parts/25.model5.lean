section MO
variable {tape : Int → Int} {taped : Int} {rules : Int} {sign : Int → Int} {leng : Int → Int} {clause : Int → Int} {clauses : Int → Int} {read : Int → Int} {next : Int} {wrong : Int} {number : Int} {text : Int} {made : Int} {deep : Int} {lines : Int} {opn : Int → Int} {opened : Int} {stack : Int → Int64} {top : Int} {word : Int → Int64} {said : Int → Int} {xx : Int} {was : Int → Int} {undone : Int} {kept : Int → Int} {sumOf : Int → Int} {faced : Int → Int} {slotAt : Int → Int} {dayAt : Int → Int} {row : Int → Int} {bestRow : Int → Int} {tMany : Int} {tMost : Int} {drawX : Int64} {images : Int → Int} {imageX : Int → Int} {isMade : Int → Int}
theorem sp_pass_k2 {B r : Int} {f : Int → Int} (h : sg_ok B f) (hr : -3 ≤ r) (hr3 : r ≤ 3) {j : Int} (hj : j < 0 ∨ 46 ≤ j) : sp_passAt r f j = f j := by
  have hn : (sp_n f r).natAbs ≤ 3 := by unfold sp_n; split <;> omega
  have hm := sg_mid0 h
  have e : sp_turns (sp_by (sp_n f r)) (ab_up f 7 0) (sp_n f r).natAbs j = f j := by
    rw [sp_turns_keep hm _ hn j (by omega) (by omega), ab_upn _ _ (by omega)]
  unfold sp_passAt sp_goesOn
  split
  · rw [ab_upn _ _ (by omega)]; exact e
  · rw [ab_upn _ _ (by omega), ab_upn _ _ (by omega), ab_upn _ _ (by omega)]; exact e
def sp_passN (f : Int → Int) : Nat → Int → Int
  | 0 => f
  | n + 1 => sp_pass (sp_passN f n)
theorem sg_passN {B : Int} {f : Int → Int} (h : sg_ok B f) : ∀ n : Nat, B + n ≤ 30000 → sg_ok (B + n) (sp_passN f n)
  | 0, _ => by rw [show B + ((0 : Nat) : Int) = B by omega]; exact h
  | n + 1, hn => by
    rw [show B + ((n + 1 : Nat) : Int) = B + (n : Int) + 1 by omega]
    exact sg_pass (sg_passN h n (by omega)) (by omega)
theorem sp_passN_k {B : Int} {f : Int → Int} (h : sg_ok B f) : ∀ n : Nat, B + n ≤ 30000 → ∀ j : Int, (j < 0 ∨ 46 ≤ j) → sp_passN f n j = f j
  | 0, _, _, _ => rfl
  | n + 1, hn, j, hj => by
    have hs := sg_passN h n (by omega)
    show sp_passAt _ (sp_passN f n) j = _
    rw [sp_pass_k2 hs (sg_rate hs).1 (sg_rate hs).2 hj]
    exact sp_passN_k h n (by omega) j hj
/-- what was kept is laid back -/
theorem sp_lay {f g kept : Int → Int} (h : ∀ j : Int, (j < 0 ∨ 53 ≤ j) → g j = f j) : sp_cp (sp_cp f kept 53) g 53 = f := by
  funext j
  unfold sp_cp
  by_cases hj : 0 ≤ j ∧ j < 53
  · rw [if_pos (by omega), if_pos (by omega)]
  · rw [if_neg (by omega)]; exact h j (by omega)
theorem sp_layN {B : Int} {f kept : Int → Int} (h : sg_ok B f) (n : Nat) (hn : B + n ≤ 30000) : sp_cp (sp_cp f kept 53) (sp_passN f n) 53 = f := sp_lay (fun j hj => sp_passN_k h n hn j (by omega))
def sp_dayT (f : Int → Int) (h slot : Int) : Nat → Int
  | 0 => 0
  | k + 1 => sp_dayT f h slot k + sp_likesAt (sp_passN f k) h ((slot + sp_passN f k 4) % 12) (sp_passN f k 5)
def sp_dayIn (f : Int → Int) (h slot : Int) : Int := sp_dayT f h slot 24
theorem sp_dayT_b {B : Int} {f : Int → Int} (hI : sg_ok B f) (hB : B ≤ 29000) {h slot : Int} (hh : 0 ≤ h) (hh1 : h < 7) : ∀ k : Nat, k ≤ 100 → -45 * (k : Int) ≤ sp_dayT f h slot k ∧ sp_dayT f h slot k ≤ 45 * (k : Int)
  | 0, _ => by simp [sp_dayT]
  | k + 1, hk => by
    have ih := sp_dayT_b hI hB hh hh1 (slot := slot) k (by omega)
    have hs := sg_passN hI k (by omega)
    have q := sp_likesAt_b hs hh hh1 ((slot + sp_passN f k 4) % 12) (sp_passN f k 5)
    unfold sp_dayT
    omega
def sp_way (a b : Int) : Int := if 6 < (a - b) % 12 then 12 - (a - b) % 12 else (a - b) % 12
def sp_bk (faced : Int → Int) (gs : Nat) (gate lw : Int) : Nat → Int → Int
  | 0, _ => -1
  | n + 1, t => if (gs.testBit (faced t).toNat = true) ∧ lw + sp_way gate (faced t) ≤ t then t else sp_bk faced gs gate lw n (t + 1)
def sp_lv (faced : Int → Int) (gate : Int) : Nat → Int → Int
  | 0, t => t
  | n + 1, t => if faced t = gate then t else sp_lv faced gate n (t + 1)
theorem de_Mo_faces_0 : decode prog_14_method_83_code 0 = .ok (.aload_n 0, 1) := by decide +kernel
theorem de_Mo_faces_1 : decode prog_14_method_83_code 1 = .ok (.iload_n 1, 1) := by decide +kernel
theorem de_Mo_faces_2 : decode prog_14_method_83_code 2 = .ok (.invokevirtual 316, 3) := by decide +kernel
theorem de_Mo_faces_5 : decode prog_14_method_83_code 5 = .ok (.ifCond .eq 15, 3) := by decide +kernel
theorem de_Mo_faces_8 : decode prog_14_method_83_code 8 = .ok (.iload_n 2, 1) := by decide +kernel
theorem de_Mo_faces_9 : decode prog_14_method_83_code 9 = .ok (.i2l, 1) := by decide +kernel
theorem de_Mo_faces_10 : decode prog_14_method_83_code 10 = .ok (.lconst 0, 1) := by decide +kernel
theorem de_Mo_faces_11 : decode prog_14_method_83_code 11 = .ok (.ldc2_w 388, 3) := by decide +kernel
theorem de_Mo_faces_14 : decode prog_14_method_83_code 14 = .ok (.invokestatic 115, 3) := by decide +kernel
theorem de_Mo_faces_17 : decode prog_14_method_83_code 17 = .ok (.ifCond .ne 5, 3) := by decide +kernel
theorem de_Mo_faces_20 : decode prog_14_method_83_code 20 = .ok (.iconst (-1), 1) := by decide +kernel
theorem de_Mo_faces_21 : decode prog_14_method_83_code 21 = .ok (.ireturn, 1) := by decide +kernel
theorem de_Mo_faces_22 : decode prog_14_method_83_code 22 = .ok (.aload_n 0, 1) := by decide +kernel
theorem de_Mo_faces_23 : decode prog_14_method_83_code 23 = .ok (.invokevirtual 390, 3) := by decide +kernel
theorem de_Mo_faces_26 : decode prog_14_method_83_code 26 = .ok (.iconst 0, 1) := by decide +kernel
theorem de_Mo_faces_27 : decode prog_14_method_83_code 27 = .ok (.istore_n 3, 1) := by decide +kernel
theorem de_Mo_faces_28 : decode prog_14_method_83_code 28 = .ok (.iload_n 3, 1) := by decide +kernel
theorem de_Mo_faces_29 : decode prog_14_method_83_code 29 = .ok (.iload_n 2, 1) := by decide +kernel
theorem de_Mo_faces_30 : decode prog_14_method_83_code 30 = .ok (.if_icmp .ge 14, 3) := by decide +kernel
theorem de_Mo_faces_33 : decode prog_14_method_83_code 33 = .ok (.aload_n 0, 1) := by decide +kernel
theorem de_Mo_faces_34 : decode prog_14_method_83_code 34 = .ok (.invokevirtual 347, 3) := by decide +kernel
theorem de_Mo_faces_37 : decode prog_14_method_83_code 37 = .ok (.pop, 1) := by decide +kernel
theorem de_Mo_faces_38 : decode prog_14_method_83_code 38 = .ok (.iinc 3 1, 3) := by decide +kernel
theorem de_Mo_faces_41 : decode prog_14_method_83_code 41 = .ok (.goto (-13), 3) := by decide +kernel
theorem de_Mo_faces_44 : decode prog_14_method_83_code 44 = .ok (.aload_n 0, 1) := by decide +kernel
theorem de_Mo_faces_45 : decode prog_14_method_83_code 45 = .ok (.iload_n 1, 1) := by decide +kernel
theorem de_Mo_faces_46 : decode prog_14_method_83_code 46 = .ok (.invokevirtual 300, 3) := by decide +kernel
theorem de_Mo_faces_49 : decode prog_14_method_83_code 49 = .ok (.istore_n 3, 1) := by decide +kernel
theorem de_Mo_faces_50 : decode prog_14_method_83_code 50 = .ok (.aload_n 0, 1) := by decide +kernel
theorem de_Mo_faces_51 : decode prog_14_method_83_code 51 = .ok (.invokevirtual 393, 3) := by decide +kernel
theorem de_Mo_faces_54 : decode prog_14_method_83_code 54 = .ok (.iload_n 3, 1) := by decide +kernel
theorem de_Mo_faces_55 : decode prog_14_method_83_code 55 = .ok (.ireturn, 1) := by decide +kernel
set_option maxRecDepth 10000 in
theorem lo_Mo_faces {B : Int} (hI : sg_ok B said) (hB : B ≤ 29000) (h0 nn : Int) (hh0 : 0 ≤ h0) (hh1 : h0 < 7) (hn0 : 0 ≤ nn) (hn1 : nn ≤ 200) : ∀ (n : Nat) (k : Nat), k ≤ nn.toNat → nn.toNat < k + n → ab_Ev g_G g_rs mt_Mo_faces 4 0 0 28 [some (ab_R 0), some (ab_I h0), some (ab_I nn), some (ab_I (k : Int))] [] (mo_W tape taped rules sign leng clause clauses read next wrong number text made deep lines opn opened stack top word (sp_passN said k) xx was undone kept sumOf faced slotAt dayAt row bestRow tMany tMost drawX images imageX isMade) (ab_is (some (ab_I (sp_facesOf (sp_passN said nn.toNat) h0))) (mo_W tape taped rules sign leng clause clauses read next wrong number text made deep lines opn opened stack top word (sp_cp kept (sp_passN said nn.toNat) 53) xx was undone kept sumOf faced slotAt dayAt row bestRow tMany tMost drawX images imageX isMade)) := by
  intro n
  induction n with
  | zero =>
    intro k
    intro h1 h2; omega
  | succ n ih =>
    intro k
    intro h1 h2
    have hs := sg_passN hI k (by omega)
    obtain ⟨j0, j1, j2, j3, j4, j5, j6, j7, hzz⟩ := sg_all hs
    obtain ⟨j8, j9, j10, j11, j12, j13, j14, j15, hzz⟩ := hzz
    obtain ⟨j16, j17⟩ := hzz
    refine ev_iload_n de_Mo_faces_28 rfl rfl ?_
    refine ev_iload_n de_Mo_faces_29 rfl rfl ?_
    refine ev_icmp_ge (tgt := 44) de_Mo_faces_30 (by decide) (by omega) (by omega) (fun h30 => ?_) (fun h30 => ?_)
    · skip
      have e : k = nn.toNat := by omega
      subst e
      refine ev_aload_n de_Mo_faces_44 rfl rfl ?_
      refine ev_iload_n de_Mo_faces_45 rfl rfl ?_
      refine ev_vv (ci := 11) de_Mo_faces_46 (co_Mo_facesOf hs h0 hh0 hh1) kb_Mo_300 ⟨im_Mo_facesOf, se_Mo_facesOf⟩ rfl rfl rfl (Nat.le_of_ble_eq_true rfl) (by decide) rfl ?_
      refine ev_istore_n (l' := [_, _, _, _]) de_Mo_faces_49 rfl (Nat.le_of_ble_eq_true rfl) rfl ?_
      refine ev_aload_n de_Mo_faces_50 rfl rfl ?_
      refine ev_vn (ci := 11) de_Mo_faces_51 co_Mo_laysBack kb_Mo_393 ⟨im_Mo_laysBack, se_Mo_laysBack⟩ rfl rfl rfl (Nat.le_of_ble_eq_true rfl) (by decide) rfl ?_
      refine ev_iload_n de_Mo_faces_54 rfl rfl ?_
      exact ev_ireturn de_Mo_faces_55 rfl ⟨rfl, rfl⟩
    · skip
      refine ev_aload_n de_Mo_faces_33 rfl rfl ?_
      refine ev_vv (ci := 11) de_Mo_faces_34 (co_Mo_passes hs) kb_Mo_347 ⟨im_Mo_passes, se_Mo_passes⟩ rfl rfl rfl (Nat.le_of_ble_eq_true rfl) (by decide) rfl ?_
      refine ev_pop de_Mo_faces_37 rfl ?_
      refine ev_iinc (l' := [_, _, _, _]) de_Mo_faces_38 rfl rfl ?_
      refine ev_goto (tgt := 28) de_Mo_faces_41 (by decide) ?_
      exact ih (k + 1) (by omega) (by omega)
set_option maxRecDepth 10000 in
theorem co_Mo_faces {B : Int} (hI : sg_ok B said) (hB : B ≤ 29000) (h0 nn : Int) (hh : ab_in h0) (hn : ab_in nn) : ab_Mt g_G g_rs mt_Mo_faces 4 0 0 [ab_R 0, ab_I h0, ab_I nn] (mo_W tape taped rules sign leng clause clauses read next wrong number text made deep lines opn opened stack top word said xx was undone kept sumOf faced slotAt dayAt row bestRow tMany tMost drawX images imageX isMade) (ab_is (some (ab_I (if (0 ≤ h0 ∧ h0 < said 1) ∧ 0 ≤ nn ∧ nn ≤ 200 then sp_facesOf (sp_passN said nn.toNat) h0 else -1))) (mo_W tape taped rules sign leng clause clauses read next wrong number text made deep lines opn opened stack top word said xx was undone (if (0 ≤ h0 ∧ h0 < said 1) ∧ 0 ≤ nn ∧ nn ≤ 200 then sp_cp said kept 53 else kept) sumOf faced slotAt dayAt row bestRow tMany tMost drawX images imageX isMade)) := by
  refine ab_Mt.of rfl (Nat.le_of_ble_eq_true rfl) ?_
  show ab_Ev g_G g_rs mt_Mo_faces _ _ _ 0 [some (ab_R 0), some (ab_I h0), some (ab_I nn), none] [] _ _
  have hJ := hI; obtain ⟨i0, i1, i2, i3, i4, i5, i6, i7, i8, i9, i10, i11, i12, i13, i14, i15, i16, i17⟩ := sg_all hJ
  refine ev_aload_n de_Mo_faces_0 rfl rfl ?_
  refine ev_iload_n de_Mo_faces_1 rfl rfl ?_
  refine ev_vv (ci := 11) de_Mo_faces_2 (co_Mo_isHouse hI h0 hh) kb_Mo_316 ⟨im_Mo_isHouse, se_Mo_isHouse⟩ rfl rfl rfl (Nat.le_of_ble_eq_true rfl) (by decide) rfl ?_
  refine ev_if_eq (tgt := 20) de_Mo_faces_5 (by decide) (by split <;> decide) (fun h5 => ?_) (fun h5 => ?_)
  · skip
    have n5 : ¬ (0 ≤ h0 ∧ h0 < said 1) := fun z => by rw [if_pos z] at h5; omega
    rw [if_neg (by omega), if_neg (by omega)]
    refine ev_iconst de_Mo_faces_20 ?_
    exact ev_ireturn de_Mo_faces_21 rfl ⟨rfl, rfl⟩
  · skip
    have n5 : 0 ≤ h0 ∧ h0 < said 1 := Decidable.byContradiction (fun z => by rw [if_neg z] at h5; omega)
    refine ev_iload_n de_Mo_faces_8 rfl rfl ?_
    refine ev_i2l de_Mo_faces_9 (by omega) ?_
    refine ev_lconsti (n := 0) de_Mo_faces_10 (by decide) ?_
    refine ev_ldc2i (n := 200) de_Mo_faces_11 cn_Mo_388 (by decide) ?_
    refine ev_sv de_Mo_faces_14 (co_Mo_in _ nn (0) (200) (by omega) (by decide) (by decide)) kb_Mo_115 sc_Mo_in rfl (Nat.le_of_ble_eq_true rfl) (by decide) rfl ?_
    refine ev_if_ne (tgt := 22) de_Mo_faces_17 (by decide) (by split <;> decide) (fun h17 => ?_) (fun h17 => ?_)
    · skip
      have n17 : 0 ≤ nn ∧ nn ≤ 200 := Decidable.byContradiction (fun z => by rw [if_neg z] at h17; omega)
      rw [if_pos (by omega), if_pos (by omega)]
      refine ev_aload_n de_Mo_faces_22 rfl rfl ?_
      refine ev_vn (ci := 11) de_Mo_faces_23 co_Mo_keeps kb_Mo_390 ⟨im_Mo_keeps, se_Mo_keeps⟩ rfl rfl rfl (Nat.le_of_ble_eq_true rfl) (by decide) rfl ?_
      refine ev_iconst de_Mo_faces_26 ?_
      refine ev_istore_n (l' := [_, _, _, _]) de_Mo_faces_27 rfl (Nat.le_of_ble_eq_true rfl) rfl ?_
      have z := sp_layN (kept := kept) hI nn.toNat (by omega)
      have y := lo_Mo_faces (kept := sp_cp said kept 53) (tape := tape) (taped := taped) (rules := rules) (sign := sign) (leng := leng) (clause := clause) (clauses := clauses) (read := read) (next := next) (wrong := wrong) (number := number) (text := text) (made := made) (deep := deep) (lines := lines) (opn := opn) (opened := opened) (stack := stack) (top := top) (word := word) (xx := xx) (was := was) (undone := undone) (sumOf := sumOf) (faced := faced) (slotAt := slotAt) (dayAt := dayAt) (row := row) (bestRow := bestRow) (tMany := tMany) (tMost := tMost) (drawX := drawX) (images := images) (imageX := imageX) (isMade := isMade) hI hB h0 nn (by omega) (by omega) (by omega) (by omega) (nn.toNat + 1) 0 (by omega) (by omega)
      rw [z] at y
      exact y
    · skip
      have n17 : ¬ (0 ≤ nn ∧ nn ≤ 200) := fun z => by rw [if_pos z] at h17; omega
      rw [if_neg (by omega), if_neg (by omega)]
      refine ev_iconst de_Mo_faces_20 ?_
      exact ev_ireturn de_Mo_faces_21 rfl ⟨rfl, rfl⟩
theorem de_Mo_sees_0 : decode prog_14_method_84_code 0 = .ok (.aload_n 0, 1) := by decide +kernel
theorem de_Mo_sees_1 : decode prog_14_method_84_code 1 = .ok (.iload_n 1, 1) := by decide +kernel
theorem de_Mo_sees_2 : decode prog_14_method_84_code 2 = .ok (.invokevirtual 316, 3) := by decide +kernel
theorem de_Mo_sees_5 : decode prog_14_method_84_code 5 = .ok (.ifCond .eq 15, 3) := by decide +kernel
theorem de_Mo_sees_8 : decode prog_14_method_84_code 8 = .ok (.iload_n 2, 1) := by decide +kernel
theorem de_Mo_sees_9 : decode prog_14_method_84_code 9 = .ok (.i2l, 1) := by decide +kernel
theorem de_Mo_sees_10 : decode prog_14_method_84_code 10 = .ok (.lconst 0, 1) := by decide +kernel
theorem de_Mo_sees_11 : decode prog_14_method_84_code 11 = .ok (.ldc2_w 388, 3) := by decide +kernel
theorem de_Mo_sees_14 : decode prog_14_method_84_code 14 = .ok (.invokestatic 115, 3) := by decide +kernel
theorem de_Mo_sees_17 : decode prog_14_method_84_code 17 = .ok (.ifCond .ne 5, 3) := by decide +kernel
theorem de_Mo_sees_20 : decode prog_14_method_84_code 20 = .ok (.iconst (-1), 1) := by decide +kernel
theorem de_Mo_sees_21 : decode prog_14_method_84_code 21 = .ok (.ireturn, 1) := by decide +kernel
theorem de_Mo_sees_22 : decode prog_14_method_84_code 22 = .ok (.aload_n 0, 1) := by decide +kernel
theorem de_Mo_sees_23 : decode prog_14_method_84_code 23 = .ok (.invokevirtual 390, 3) := by decide +kernel
theorem de_Mo_sees_26 : decode prog_14_method_84_code 26 = .ok (.iconst 0, 1) := by decide +kernel
theorem de_Mo_sees_27 : decode prog_14_method_84_code 27 = .ok (.istore_n 3, 1) := by decide +kernel
theorem de_Mo_sees_28 : decode prog_14_method_84_code 28 = .ok (.iload_n 3, 1) := by decide +kernel
theorem de_Mo_sees_29 : decode prog_14_method_84_code 29 = .ok (.iload_n 2, 1) := by decide +kernel
theorem de_Mo_sees_30 : decode prog_14_method_84_code 30 = .ok (.if_icmp .ge 14, 3) := by decide +kernel
theorem de_Mo_sees_33 : decode prog_14_method_84_code 33 = .ok (.aload_n 0, 1) := by decide +kernel
theorem de_Mo_sees_34 : decode prog_14_method_84_code 34 = .ok (.invokevirtual 347, 3) := by decide +kernel
theorem de_Mo_sees_37 : decode prog_14_method_84_code 37 = .ok (.pop, 1) := by decide +kernel
theorem de_Mo_sees_38 : decode prog_14_method_84_code 38 = .ok (.iinc 3 1, 3) := by decide +kernel
theorem de_Mo_sees_41 : decode prog_14_method_84_code 41 = .ok (.goto (-13), 3) := by decide +kernel
theorem de_Mo_sees_44 : decode prog_14_method_84_code 44 = .ok (.aload_n 0, 1) := by decide +kernel
theorem de_Mo_sees_45 : decode prog_14_method_84_code 45 = .ok (.aload_n 0, 1) := by decide +kernel
theorem de_Mo_sees_46 : decode prog_14_method_84_code 46 = .ok (.iload_n 1, 1) := by decide +kernel
theorem de_Mo_sees_47 : decode prog_14_method_84_code 47 = .ok (.invokevirtual 300, 3) := by decide +kernel
theorem de_Mo_sees_50 : decode prog_14_method_84_code 50 = .ok (.aload_n 0, 1) := by decide +kernel
theorem de_Mo_sees_51 : decode prog_14_method_84_code 51 = .ok (.getfield 39, 3) := by decide +kernel
theorem de_Mo_sees_54 : decode prog_14_method_84_code 54 = .ok (.iconst 5, 1) := by decide +kernel
theorem de_Mo_sees_55 : decode prog_14_method_84_code 55 = .ok (.iaload, 1) := by decide +kernel
theorem de_Mo_sees_56 : decode prog_14_method_84_code 56 = .ok (.invokevirtual 290, 3) := by decide +kernel
theorem de_Mo_sees_59 : decode prog_14_method_84_code 59 = .ok (.istore_n 3, 1) := by decide +kernel
theorem de_Mo_sees_60 : decode prog_14_method_84_code 60 = .ok (.aload_n 0, 1) := by decide +kernel
theorem de_Mo_sees_61 : decode prog_14_method_84_code 61 = .ok (.invokevirtual 393, 3) := by decide +kernel
theorem de_Mo_sees_64 : decode prog_14_method_84_code 64 = .ok (.iload_n 3, 1) := by decide +kernel
theorem de_Mo_sees_65 : decode prog_14_method_84_code 65 = .ok (.ireturn, 1) := by decide +kernel
set_option maxRecDepth 10000 in
theorem lo_Mo_sees {B : Int} (hI : sg_ok B said) (hB : B ≤ 29000) (h0 nn : Int) (hh0 : 0 ≤ h0) (hh1 : h0 < 7) (hn0 : 0 ≤ nn) (hn1 : nn ≤ 200) : ∀ (n : Nat) (k : Nat), k ≤ nn.toNat → nn.toNat < k + n → ab_Ev g_G g_rs mt_Mo_sees 4 0 0 28 [some (ab_R 0), some (ab_I h0), some (ab_I nn), some (ab_I (k : Int))] [] (mo_W tape taped rules sign leng clause clauses read next wrong number text made deep lines opn opened stack top word (sp_passN said k) xx was undone kept sumOf faced slotAt dayAt row bestRow tMany tMost drawX images imageX isMade) (ab_is (some (ab_I ((sp_sortsAt (sp_passN said nn.toNat) (sp_facesOf (sp_passN said nn.toNat) h0) (sp_passN said nn.toNat 5) : Nat)))) (mo_W tape taped rules sign leng clause clauses read next wrong number text made deep lines opn opened stack top word (sp_cp kept (sp_passN said nn.toNat) 53) xx was undone kept sumOf faced slotAt dayAt row bestRow tMany tMost drawX images imageX isMade)) := by
  intro n
  induction n with
  | zero =>
    intro k
    intro h1 h2; omega
  | succ n ih =>
    intro k
    intro h1 h2
    have hs := sg_passN hI k (by omega)
    obtain ⟨j0, j1, j2, j3, j4, j5, j6, j7, hzz⟩ := sg_all hs
    obtain ⟨j8, j9, j10, j11, j12, j13, j14, j15, hzz⟩ := hzz
    obtain ⟨j16, j17⟩ := hzz
    refine ev_iload_n de_Mo_sees_28 rfl rfl ?_
    refine ev_iload_n de_Mo_sees_29 rfl rfl ?_
    refine ev_icmp_ge (tgt := 44) de_Mo_sees_30 (by decide) (by omega) (by omega) (fun h30 => ?_) (fun h30 => ?_)
    · skip
      have e : k = nn.toNat := by omega
      subst e
      refine ev_aload_n de_Mo_sees_44 rfl rfl ?_
      refine ev_aload_n de_Mo_sees_45 rfl rfl ?_
      refine ev_iload_n de_Mo_sees_46 rfl rfl ?_
      refine ev_vv (ci := 11) de_Mo_sees_47 (co_Mo_facesOf hs h0 hh0 hh1) kb_Mo_300 ⟨im_Mo_facesOf, se_Mo_facesOf⟩ rfl rfl rfl (Nat.le_of_ble_eq_true rfl) (by decide) rfl ?_
      refine ev_aload_n de_Mo_sees_50 rfl rfl ?_
      refine ev_getfield de_Mo_sees_51 rfl fl_Mo_39 rfl ?_
      refine ev_iconst de_Mo_sees_54 ?_
      refine ev_iaload de_Mo_sees_55 rfl (by omega) (by omega) (by omega) ?_
      have qf := sp_facesOf_b (sp_passN said nn.toNat) h0
      refine ev_vv (ci := 11) de_Mo_sees_56 (co_Mo_sortsAt hs _ _ (by omega) (by omega)) kb_Mo_290 ⟨im_Mo_sortsAt, se_Mo_sortsAt⟩ rfl rfl rfl (Nat.le_of_ble_eq_true rfl) (by decide) rfl ?_
      refine ev_istore_n (l' := [_, _, _, _]) de_Mo_sees_59 rfl (Nat.le_of_ble_eq_true rfl) rfl ?_
      refine ev_aload_n de_Mo_sees_60 rfl rfl ?_
      refine ev_vn (ci := 11) de_Mo_sees_61 co_Mo_laysBack kb_Mo_393 ⟨im_Mo_laysBack, se_Mo_laysBack⟩ rfl rfl rfl (Nat.le_of_ble_eq_true rfl) (by decide) rfl ?_
      refine ev_iload_n de_Mo_sees_64 rfl rfl ?_
      exact ev_ireturn de_Mo_sees_65 rfl ⟨rfl, rfl⟩
    · skip
      refine ev_aload_n de_Mo_sees_33 rfl rfl ?_
      refine ev_vv (ci := 11) de_Mo_sees_34 (co_Mo_passes hs) kb_Mo_347 ⟨im_Mo_passes, se_Mo_passes⟩ rfl rfl rfl (Nat.le_of_ble_eq_true rfl) (by decide) rfl ?_
      refine ev_pop de_Mo_sees_37 rfl ?_
      refine ev_iinc (l' := [_, _, _, _]) de_Mo_sees_38 rfl rfl ?_
      refine ev_goto (tgt := 28) de_Mo_sees_41 (by decide) ?_
      exact ih (k + 1) (by omega) (by omega)
set_option maxRecDepth 10000 in
theorem co_Mo_sees {B : Int} (hI : sg_ok B said) (hB : B ≤ 29000) (h0 nn : Int) (hh : ab_in h0) (hn : ab_in nn) : ab_Mt g_G g_rs mt_Mo_sees 4 0 0 [ab_R 0, ab_I h0, ab_I nn] (mo_W tape taped rules sign leng clause clauses read next wrong number text made deep lines opn opened stack top word said xx was undone kept sumOf faced slotAt dayAt row bestRow tMany tMost drawX images imageX isMade) (ab_is (some (ab_I (if (0 ≤ h0 ∧ h0 < said 1) ∧ 0 ≤ nn ∧ nn ≤ 200 then (sp_sortsAt (sp_passN said nn.toNat) (sp_facesOf (sp_passN said nn.toNat) h0) (sp_passN said nn.toNat 5) : Nat) else -1))) (mo_W tape taped rules sign leng clause clauses read next wrong number text made deep lines opn opened stack top word said xx was undone (if (0 ≤ h0 ∧ h0 < said 1) ∧ 0 ≤ nn ∧ nn ≤ 200 then sp_cp said kept 53 else kept) sumOf faced slotAt dayAt row bestRow tMany tMost drawX images imageX isMade)) := by
  refine ab_Mt.of rfl (Nat.le_of_ble_eq_true rfl) ?_
  show ab_Ev g_G g_rs mt_Mo_sees _ _ _ 0 [some (ab_R 0), some (ab_I h0), some (ab_I nn), none] [] _ _
  have hJ := hI; obtain ⟨i0, i1, i2, i3, i4, i5, i6, i7, i8, i9, i10, i11, i12, i13, i14, i15, i16, i17⟩ := sg_all hJ
  refine ev_aload_n de_Mo_sees_0 rfl rfl ?_
  refine ev_iload_n de_Mo_sees_1 rfl rfl ?_
  refine ev_vv (ci := 11) de_Mo_sees_2 (co_Mo_isHouse hI h0 hh) kb_Mo_316 ⟨im_Mo_isHouse, se_Mo_isHouse⟩ rfl rfl rfl (Nat.le_of_ble_eq_true rfl) (by decide) rfl ?_
  refine ev_if_eq (tgt := 20) de_Mo_sees_5 (by decide) (by split <;> decide) (fun h5 => ?_) (fun h5 => ?_)
  · skip
    have n5 : ¬ (0 ≤ h0 ∧ h0 < said 1) := fun z => by rw [if_pos z] at h5; omega
    rw [if_neg (by omega), if_neg (by omega)]
    refine ev_iconst de_Mo_sees_20 ?_
    exact ev_ireturn de_Mo_sees_21 rfl ⟨rfl, rfl⟩
  · skip
    have n5 : 0 ≤ h0 ∧ h0 < said 1 := Decidable.byContradiction (fun z => by rw [if_neg z] at h5; omega)
    refine ev_iload_n de_Mo_sees_8 rfl rfl ?_
    refine ev_i2l de_Mo_sees_9 (by omega) ?_
    refine ev_lconsti (n := 0) de_Mo_sees_10 (by decide) ?_
    refine ev_ldc2i (n := 200) de_Mo_sees_11 cn_Mo_388 (by decide) ?_
    refine ev_sv de_Mo_sees_14 (co_Mo_in _ nn (0) (200) (by omega) (by decide) (by decide)) kb_Mo_115 sc_Mo_in rfl (Nat.le_of_ble_eq_true rfl) (by decide) rfl ?_
    refine ev_if_ne (tgt := 22) de_Mo_sees_17 (by decide) (by split <;> decide) (fun h17 => ?_) (fun h17 => ?_)
    · skip
      have n17 : 0 ≤ nn ∧ nn ≤ 200 := Decidable.byContradiction (fun z => by rw [if_neg z] at h17; omega)
      rw [if_pos (by omega), if_pos (by omega)]
      refine ev_aload_n de_Mo_sees_22 rfl rfl ?_
      refine ev_vn (ci := 11) de_Mo_sees_23 co_Mo_keeps kb_Mo_390 ⟨im_Mo_keeps, se_Mo_keeps⟩ rfl rfl rfl (Nat.le_of_ble_eq_true rfl) (by decide) rfl ?_
      refine ev_iconst de_Mo_sees_26 ?_
      refine ev_istore_n (l' := [_, _, _, _]) de_Mo_sees_27 rfl (Nat.le_of_ble_eq_true rfl) rfl ?_
      have z := sp_layN (kept := kept) hI nn.toNat (by omega)
      have y := lo_Mo_sees (kept := sp_cp said kept 53) (tape := tape) (taped := taped) (rules := rules) (sign := sign) (leng := leng) (clause := clause) (clauses := clauses) (read := read) (next := next) (wrong := wrong) (number := number) (text := text) (made := made) (deep := deep) (lines := lines) (opn := opn) (opened := opened) (stack := stack) (top := top) (word := word) (xx := xx) (was := was) (undone := undone) (sumOf := sumOf) (faced := faced) (slotAt := slotAt) (dayAt := dayAt) (row := row) (bestRow := bestRow) (tMany := tMany) (tMost := tMost) (drawX := drawX) (images := images) (imageX := imageX) (isMade := isMade) hI hB h0 nn (by omega) (by omega) (by omega) (by omega) (nn.toNat + 1) 0 (by omega) (by omega)
      rw [z] at y
      exact y
    · skip
      have n17 : ¬ (0 ≤ nn ∧ nn ≤ 200) := fun z => by rw [if_pos z] at h17; omega
      rw [if_neg (by omega), if_neg (by omega)]
      refine ev_iconst de_Mo_sees_20 ?_
      exact ev_ireturn de_Mo_sees_21 rfl ⟨rfl, rfl⟩
theorem de_Mo_dayIn_0 : decode prog_14_method_85_code 0 = .ok (.iconst 0, 1) := by decide +kernel
theorem de_Mo_dayIn_1 : decode prog_14_method_85_code 1 = .ok (.istore_n 3, 1) := by decide +kernel
theorem de_Mo_dayIn_2 : decode prog_14_method_85_code 2 = .ok (.aload_n 0, 1) := by decide +kernel
theorem de_Mo_dayIn_3 : decode prog_14_method_85_code 3 = .ok (.invokevirtual 390, 3) := by decide +kernel
theorem de_Mo_dayIn_6 : decode prog_14_method_85_code 6 = .ok (.iconst 0, 1) := by decide +kernel
theorem de_Mo_dayIn_7 : decode prog_14_method_85_code 7 = .ok (.istore 4, 2) := by decide +kernel
theorem de_Mo_dayIn_9 : decode prog_14_method_85_code 9 = .ok (.iload 4, 2) := by decide +kernel
theorem de_Mo_dayIn_11 : decode prog_14_method_85_code 11 = .ok (.bipush 24, 2) := by decide +kernel
theorem de_Mo_dayIn_13 : decode prog_14_method_85_code 13 = .ok (.if_icmp .ge 39, 3) := by decide +kernel
theorem de_Mo_dayIn_16 : decode prog_14_method_85_code 16 = .ok (.iload_n 3, 1) := by decide +kernel
theorem de_Mo_dayIn_17 : decode prog_14_method_85_code 17 = .ok (.aload_n 0, 1) := by decide +kernel
theorem de_Mo_dayIn_18 : decode prog_14_method_85_code 18 = .ok (.iload_n 1, 1) := by decide +kernel
theorem de_Mo_dayIn_19 : decode prog_14_method_85_code 19 = .ok (.iload_n 2, 1) := by decide +kernel
theorem de_Mo_dayIn_20 : decode prog_14_method_85_code 20 = .ok (.aload_n 0, 1) := by decide +kernel
theorem de_Mo_dayIn_21 : decode prog_14_method_85_code 21 = .ok (.getfield 39, 3) := by decide +kernel
theorem de_Mo_dayIn_24 : decode prog_14_method_85_code 24 = .ok (.iconst 4, 1) := by decide +kernel
theorem de_Mo_dayIn_25 : decode prog_14_method_85_code 25 = .ok (.iaload, 1) := by decide +kernel
theorem de_Mo_dayIn_26 : decode prog_14_method_85_code 26 = .ok (.iadd, 1) := by decide +kernel
theorem de_Mo_dayIn_27 : decode prog_14_method_85_code 27 = .ok (.invokestatic 297, 3) := by decide +kernel
theorem de_Mo_dayIn_30 : decode prog_14_method_85_code 30 = .ok (.aload_n 0, 1) := by decide +kernel
theorem de_Mo_dayIn_31 : decode prog_14_method_85_code 31 = .ok (.getfield 39, 3) := by decide +kernel
theorem de_Mo_dayIn_34 : decode prog_14_method_85_code 34 = .ok (.iconst 5, 1) := by decide +kernel
theorem de_Mo_dayIn_35 : decode prog_14_method_85_code 35 = .ok (.iaload, 1) := by decide +kernel
theorem de_Mo_dayIn_36 : decode prog_14_method_85_code 36 = .ok (.invokevirtual 303, 3) := by decide +kernel
theorem de_Mo_dayIn_39 : decode prog_14_method_85_code 39 = .ok (.iadd, 1) := by decide +kernel
theorem de_Mo_dayIn_40 : decode prog_14_method_85_code 40 = .ok (.istore_n 3, 1) := by decide +kernel
theorem de_Mo_dayIn_41 : decode prog_14_method_85_code 41 = .ok (.aload_n 0, 1) := by decide +kernel
theorem de_Mo_dayIn_42 : decode prog_14_method_85_code 42 = .ok (.invokevirtual 347, 3) := by decide +kernel
theorem de_Mo_dayIn_45 : decode prog_14_method_85_code 45 = .ok (.pop, 1) := by decide +kernel
theorem de_Mo_dayIn_46 : decode prog_14_method_85_code 46 = .ok (.iinc 4 1, 3) := by decide +kernel
theorem de_Mo_dayIn_49 : decode prog_14_method_85_code 49 = .ok (.goto (-40), 3) := by decide +kernel
theorem de_Mo_dayIn_52 : decode prog_14_method_85_code 52 = .ok (.aload_n 0, 1) := by decide +kernel
theorem de_Mo_dayIn_53 : decode prog_14_method_85_code 53 = .ok (.invokevirtual 393, 3) := by decide +kernel
theorem de_Mo_dayIn_56 : decode prog_14_method_85_code 56 = .ok (.iload_n 3, 1) := by decide +kernel
theorem de_Mo_dayIn_57 : decode prog_14_method_85_code 57 = .ok (.ireturn, 1) := by decide +kernel
set_option maxRecDepth 10000 in
theorem lo_Mo_dayIn {B : Int} (hI : sg_ok B said) (hB : B ≤ 29000) (h0 slot : Int) (hh0 : 0 ≤ h0) (hh1 : h0 < 7) (hs0 : 0 ≤ slot) (hs1 : slot ≤ 11) (N : Nat) (hN : N = 24) : ∀ (n : Nat) (k : Nat), k ≤ N → N < k + n → ab_Ev g_G g_rs mt_Mo_dayIn 4 0 0 9 [some (ab_R 0), some (ab_I h0), some (ab_I slot), some (ab_I (sp_dayT said h0 slot k)), some (ab_I (k : Int))] [] (mo_W tape taped rules sign leng clause clauses read next wrong number text made deep lines opn opened stack top word (sp_passN said k) xx was undone kept sumOf faced slotAt dayAt row bestRow tMany tMost drawX images imageX isMade) (ab_is (some (ab_I (sp_dayT said h0 slot N))) (mo_W tape taped rules sign leng clause clauses read next wrong number text made deep lines opn opened stack top word (sp_cp kept (sp_passN said N) 53) xx was undone kept sumOf faced slotAt dayAt row bestRow tMany tMost drawX images imageX isMade)) := by
  intro n
  induction n with
  | zero =>
    intro k
    intro h1 h2; omega
  | succ n ih =>
    intro k
    intro h1 h2
    have hs := sg_passN hI k (by omega)
    obtain ⟨j0, j1, j2, j3, j4, j5, j6, j7, hzz⟩ := sg_all hs
    obtain ⟨j8, j9, j10, j11, j12, j13, j14, j15, hzz⟩ := hzz
    obtain ⟨j16, j17⟩ := hzz
    refine ev_iload de_Mo_dayIn_9 rfl ?_
    refine ev_bipush de_Mo_dayIn_11 rfl ?_
    refine ev_icmp_ge (tgt := 52) de_Mo_dayIn_13 (by decide) (by omega) (by omega) (fun h13 => ?_) (fun h13 => ?_)
    · skip
      have e : k = N := by omega
      subst e
      refine ev_aload_n de_Mo_dayIn_52 rfl rfl ?_
      refine ev_vn (ci := 11) de_Mo_dayIn_53 co_Mo_laysBack kb_Mo_393 ⟨im_Mo_laysBack, se_Mo_laysBack⟩ rfl rfl rfl (Nat.le_of_ble_eq_true rfl) (by decide) rfl ?_
      refine ev_iload_n de_Mo_dayIn_56 rfl rfl ?_
      exact ev_ireturn de_Mo_dayIn_57 rfl ⟨rfl, rfl⟩
    · skip
      refine ev_iload_n de_Mo_dayIn_16 rfl rfl ?_
      refine ev_aload_n de_Mo_dayIn_17 rfl rfl ?_
      refine ev_iload_n de_Mo_dayIn_18 rfl rfl ?_
      refine ev_iload_n de_Mo_dayIn_19 rfl rfl ?_
      refine ev_aload_n de_Mo_dayIn_20 rfl rfl ?_
      refine ev_getfield de_Mo_dayIn_21 rfl fl_Mo_39 rfl ?_
      refine ev_iconst de_Mo_dayIn_24 ?_
      refine ev_iaload de_Mo_dayIn_25 rfl (by omega) (by omega) (by omega) ?_
      refine ev_iadd de_Mo_dayIn_26 ?_
      refine ev_sv de_Mo_dayIn_27 (co_Mo_round _ _ (by omega)) kb_Mo_297 sc_Mo_round rfl (Nat.le_of_ble_eq_true rfl) (by decide) rfl ?_
      refine ev_aload_n de_Mo_dayIn_30 rfl rfl ?_
      refine ev_getfield de_Mo_dayIn_31 rfl fl_Mo_39 rfl ?_
      refine ev_iconst de_Mo_dayIn_34 ?_
      refine ev_iaload de_Mo_dayIn_35 rfl (by omega) (by omega) (by omega) ?_
      refine ev_vv (ci := 11) de_Mo_dayIn_36 (co_Mo_likesAt hs h0 _ _ hh0 hh1 (by omega) (by omega)) kb_Mo_303 ⟨im_Mo_likesAt, se_Mo_likesAt⟩ rfl rfl rfl (Nat.le_of_ble_eq_true rfl) (by decide) rfl ?_
      refine ev_iadd de_Mo_dayIn_39 ?_
      refine ev_istore_n (l' := [_, _, _, _, _]) de_Mo_dayIn_40 rfl (Nat.le_of_ble_eq_true rfl) rfl ?_
      refine ev_aload_n de_Mo_dayIn_41 rfl rfl ?_
      refine ev_vv (ci := 11) de_Mo_dayIn_42 (co_Mo_passes hs) kb_Mo_347 ⟨im_Mo_passes, se_Mo_passes⟩ rfl rfl rfl (Nat.le_of_ble_eq_true rfl) (by decide) rfl ?_
      refine ev_pop de_Mo_dayIn_45 rfl ?_
      refine ev_iinc (l' := [_, _, _, _, _]) de_Mo_dayIn_46 rfl rfl ?_
      refine ev_goto (tgt := 9) de_Mo_dayIn_49 (by decide) ?_
      exact ih (k + 1) (by omega) (by omega)
set_option maxRecDepth 10000 in
theorem co_Mo_dayIn {B : Int} (hI : sg_ok B said) (hB : B ≤ 29000) (h0 slot : Int) (hh0 : 0 ≤ h0) (hh1 : h0 < 7) (hs0 : 0 ≤ slot) (hs1 : slot ≤ 11) : ab_Mt g_G g_rs mt_Mo_dayIn 4 0 0 [ab_R 0, ab_I h0, ab_I slot] (mo_W tape taped rules sign leng clause clauses read next wrong number text made deep lines opn opened stack top word said xx was undone kept sumOf faced slotAt dayAt row bestRow tMany tMost drawX images imageX isMade) (ab_is (some (ab_I (sp_dayIn said h0 slot))) (mo_W tape taped rules sign leng clause clauses read next wrong number text made deep lines opn opened stack top word said xx was undone (sp_cp said kept 53) sumOf faced slotAt dayAt row bestRow tMany tMost drawX images imageX isMade)) := by
  refine ab_Mt.of rfl (Nat.le_of_ble_eq_true rfl) ?_
  show ab_Ev g_G g_rs mt_Mo_dayIn _ _ _ 0 [some (ab_R 0), some (ab_I h0), some (ab_I slot), none, none] [] _ _
  refine ev_iconst de_Mo_dayIn_0 ?_
  refine ev_istore_n (l' := [_, _, _, _, _]) de_Mo_dayIn_1 rfl (Nat.le_of_ble_eq_true rfl) rfl ?_
  refine ev_aload_n de_Mo_dayIn_2 rfl rfl ?_
  refine ev_vn (ci := 11) de_Mo_dayIn_3 co_Mo_keeps kb_Mo_390 ⟨im_Mo_keeps, se_Mo_keeps⟩ rfl rfl rfl (Nat.le_of_ble_eq_true rfl) (by decide) rfl ?_
  refine ev_iconst de_Mo_dayIn_6 ?_
  refine ev_istore (l' := [_, _, _, _, _]) de_Mo_dayIn_7 (Nat.le_of_ble_eq_true rfl) rfl ?_
  have z := sp_layN (kept := kept) hI 24 (by omega)
  have y := lo_Mo_dayIn (tape := tape) (taped := taped) (rules := rules) (sign := sign) (leng := leng) (clause := clause) (clauses := clauses) (read := read) (next := next) (wrong := wrong) (number := number) (text := text) (made := made) (deep := deep) (lines := lines) (opn := opn) (opened := opened) (stack := stack) (top := top) (word := word) (xx := xx) (was := was) (undone := undone) (kept := sp_cp said kept 53) (sumOf := sumOf) (faced := faced) (slotAt := slotAt) (dayAt := dayAt) (row := row) (bestRow := bestRow) (tMany := tMany) (tMost := tMost) (drawX := drawX) (images := images) (imageX := imageX) (isMade := isMade) hI hB h0 slot hh0 hh1 hs0 hs1 24 rfl 25 0 (by omega) (by omega)
  rw [z] at y
  exact y
theorem de_Mo_day_0 : decode prog_14_method_86_code 0 = .ok (.aload_n 0, 1) := by decide +kernel
theorem de_Mo_day_1 : decode prog_14_method_86_code 1 = .ok (.iload_n 1, 1) := by decide +kernel
theorem de_Mo_day_2 : decode prog_14_method_86_code 2 = .ok (.invokevirtual 316, 3) := by decide +kernel
theorem de_Mo_day_5 : decode prog_14_method_86_code 5 = .ok (.ifCond .eq 20, 3) := by decide +kernel
theorem de_Mo_day_8 : decode prog_14_method_86_code 8 = .ok (.aload_n 0, 1) := by decide +kernel
theorem de_Mo_day_9 : decode prog_14_method_86_code 9 = .ok (.iload_n 1, 1) := by decide +kernel
theorem de_Mo_day_10 : decode prog_14_method_86_code 10 = .ok (.aload_n 0, 1) := by decide +kernel
theorem de_Mo_day_11 : decode prog_14_method_86_code 11 = .ok (.getfield 39, 3) := by decide +kernel
theorem de_Mo_day_14 : decode prog_14_method_86_code 14 = .ok (.bipush 46, 2) := by decide +kernel
theorem de_Mo_day_16 : decode prog_14_method_86_code 16 = .ok (.iload_n 1, 1) := by decide +kernel
theorem de_Mo_day_17 : decode prog_14_method_86_code 17 = .ok (.iadd, 1) := by decide +kernel
theorem de_Mo_day_18 : decode prog_14_method_86_code 18 = .ok (.iaload, 1) := by decide +kernel
theorem de_Mo_day_19 : decode prog_14_method_86_code 19 = .ok (.invokevirtual 396, 3) := by decide +kernel
theorem de_Mo_day_22 : decode prog_14_method_86_code 22 = .ok (.goto 6, 3) := by decide +kernel
theorem de_Mo_day_25 : decode prog_14_method_86_code 25 = .ok (.ldc_w 399, 3) := by decide +kernel
theorem de_Mo_day_28 : decode prog_14_method_86_code 28 = .ok (.ireturn, 1) := by decide +kernel
set_option maxRecDepth 10000 in
theorem co_Mo_day {B : Int} (hI : sg_ok B said) (hB : B ≤ 29000) (h0 : Int) (hh : ab_in h0) : ab_Mt g_G g_rs mt_Mo_day 5 0 0 [ab_R 0, ab_I h0] (mo_W tape taped rules sign leng clause clauses read next wrong number text made deep lines opn opened stack top word said xx was undone kept sumOf faced slotAt dayAt row bestRow tMany tMost drawX images imageX isMade) (ab_is (some (ab_I (if 0 ≤ h0 ∧ h0 < said 1 then sp_dayIn said h0 (said (46 + h0)) else -100000))) (mo_W tape taped rules sign leng clause clauses read next wrong number text made deep lines opn opened stack top word said xx was undone (if 0 ≤ h0 ∧ h0 < said 1 then sp_cp said kept 53 else kept) sumOf faced slotAt dayAt row bestRow tMany tMost drawX images imageX isMade)) := by
  refine ab_Mt.of rfl (Nat.le_of_ble_eq_true rfl) ?_
  show ab_Ev g_G g_rs mt_Mo_day _ _ _ 0 [some (ab_R 0), some (ab_I h0)] [] _ _
  have hJ := hI; obtain ⟨i0, i1, i2, i3, i4, i5, i6, i7, i8, i9, i10, i11, i12, i13, i14, i15, i16, i17⟩ := sg_all hJ
  refine ev_aload_n de_Mo_day_0 rfl rfl ?_
  refine ev_iload_n de_Mo_day_1 rfl rfl ?_
  refine ev_vv (ci := 11) de_Mo_day_2 (co_Mo_isHouse hI h0 hh) kb_Mo_316 ⟨im_Mo_isHouse, se_Mo_isHouse⟩ rfl rfl rfl (Nat.le_of_ble_eq_true rfl) (by decide) rfl ?_
  refine ev_if_eq (tgt := 25) de_Mo_day_5 (by decide) (by split <;> decide) (fun h5 => ?_) (fun h5 => ?_)
  · skip
    have n5 : ¬ (0 ≤ h0 ∧ h0 < said 1) := fun z => by rw [if_pos z] at h5; omega
    rw [if_neg n5, if_neg n5]
    refine ev_ldcw (n := -100000) de_Mo_day_25 cn_Mo_399 rfl ?_
    exact ev_ireturn de_Mo_day_28 rfl ⟨rfl, rfl⟩
  · skip
    have n5 : 0 ≤ h0 ∧ h0 < said 1 := Decidable.byContradiction (fun z => by rw [if_neg z] at h5; omega)
    rw [if_pos n5, if_pos n5]
    have qs := i11 (46 + h0) (by omega) (by omega)
    refine ev_aload_n de_Mo_day_8 rfl rfl ?_
    refine ev_iload_n de_Mo_day_9 rfl rfl ?_
    refine ev_aload_n de_Mo_day_10 rfl rfl ?_
    refine ev_getfield de_Mo_day_11 rfl fl_Mo_39 rfl ?_
    refine ev_bipush de_Mo_day_14 rfl ?_
    refine ev_iload_n de_Mo_day_16 rfl rfl ?_
    refine ev_iadd de_Mo_day_17 ?_
    refine ev_iaload de_Mo_day_18 rfl (by omega) (by omega) (by omega) ?_
    refine ev_vv (ci := 11) de_Mo_day_19 (co_Mo_dayIn hI hB h0 _ (by omega) (by omega) (by omega) (by omega)) kb_Mo_396 ⟨im_Mo_dayIn, se_Mo_dayIn⟩ rfl rfl rfl (Nat.le_of_ble_eq_true rfl) (by decide) rfl ?_
    refine ev_goto (tgt := 28) de_Mo_day_22 (by decide) ?_
    exact ev_ireturn de_Mo_day_28 rfl ⟨rfl, rfl⟩
theorem de_Mo_third_0 : decode prog_14_method_87_code 0 = .ok (.iconst 1, 1) := by decide +kernel
theorem de_Mo_third_1 : decode prog_14_method_87_code 1 = .ok (.istore_n 1, 1) := by decide +kernel
theorem de_Mo_third_2 : decode prog_14_method_87_code 2 = .ok (.iconst 0, 1) := by decide +kernel
theorem de_Mo_third_3 : decode prog_14_method_87_code 3 = .ok (.istore_n 2, 1) := by decide +kernel
theorem de_Mo_third_4 : decode prog_14_method_87_code 4 = .ok (.iload_n 2, 1) := by decide +kernel
theorem de_Mo_third_5 : decode prog_14_method_87_code 5 = .ok (.iload_n 0, 1) := by decide +kernel
theorem de_Mo_third_6 : decode prog_14_method_87_code 6 = .ok (.if_icmp .ge 13, 3) := by decide +kernel
theorem de_Mo_third_9 : decode prog_14_method_87_code 9 = .ok (.iload_n 1, 1) := by decide +kernel
theorem de_Mo_third_10 : decode prog_14_method_87_code 10 = .ok (.iconst 3, 1) := by decide +kernel
theorem de_Mo_third_11 : decode prog_14_method_87_code 11 = .ok (.imul, 1) := by decide +kernel
theorem de_Mo_third_12 : decode prog_14_method_87_code 12 = .ok (.istore_n 1, 1) := by decide +kernel
theorem de_Mo_third_13 : decode prog_14_method_87_code 13 = .ok (.iinc 2 1, 3) := by decide +kernel
theorem de_Mo_third_16 : decode prog_14_method_87_code 16 = .ok (.goto (-12), 3) := by decide +kernel
theorem de_Mo_third_19 : decode prog_14_method_87_code 19 = .ok (.iload_n 1, 1) := by decide +kernel
theorem de_Mo_third_20 : decode prog_14_method_87_code 20 = .ok (.ireturn, 1) := by decide +kernel
set_option maxRecDepth 10000 in
theorem lo_Mo_third (w : ab_W) (nn : Nat) (hn : nn ≤ 10) : ∀ (n : Nat) (k : Nat), k ≤ nn → nn < k + n → ab_Ev g_G g_rs mt_Mo_third 0 0 0 4 [some (ab_I (nn : Int)), some (ab_I (3 ^ k : Nat)), some (ab_I (k : Int))] [] w (ab_is (some (ab_I ((3 ^ nn : Nat)))) w) := by
  intro n
  induction n with
  | zero =>
    intro k
    intro h1 h2; omega
  | succ n ih =>
    intro k
    intro h1 h2
    refine ev_iload_n de_Mo_third_4 rfl rfl ?_
    refine ev_iload_n de_Mo_third_5 rfl rfl ?_
    refine ev_icmp_ge (tgt := 19) de_Mo_third_6 (by decide) (by omega) (by omega) (fun h6 => ?_) (fun h6 => ?_)
    · skip
      have e : k = nn := by omega
      subst e
      refine ev_iload_n de_Mo_third_19 rfl rfl ?_
      exact ev_ireturn de_Mo_third_20 rfl ⟨rfl, rfl⟩
    · skip
      refine ev_iload_n de_Mo_third_9 rfl rfl ?_
      refine ev_iconst de_Mo_third_10 ?_
      refine ev_imul de_Mo_third_11 ?_
      refine ev_top (congrArg Sum.inl (show _ = ((3 ^ (k + 1) : Nat) : Int) from by rw [Nat.pow_succ]; omega)) ?_
      refine ev_istore_n (l' := [_, _, _]) de_Mo_third_12 rfl (Nat.le_of_ble_eq_true rfl) rfl ?_
      refine ev_iinc (l' := [_, _, _]) de_Mo_third_13 rfl rfl ?_
      refine ev_goto (tgt := 4) de_Mo_third_16 (by decide) ?_
      exact ih (k + 1) (by omega) (by omega)
set_option maxRecDepth 10000 in
theorem co_Mo_third (w : ab_W) (nn : Nat) (hn : nn ≤ 10) : ab_Mt g_G g_rs mt_Mo_third 0 0 0 [ab_I (nn : Int)] w (ab_is (some (ab_I ((3 ^ nn : Nat)))) w) := by
  refine ab_Mt.of rfl (Nat.le_of_ble_eq_true rfl) ?_
  show ab_Ev g_G g_rs mt_Mo_third _ _ _ 0 [some (ab_I (nn : Int)), none, none] [] _ _
  refine ev_iconst de_Mo_third_0 ?_
  refine ev_istore_n (l' := [_, _, _]) de_Mo_third_1 rfl (Nat.le_of_ble_eq_true rfl) rfl ?_
  refine ev_iconst de_Mo_third_2 ?_
  refine ev_istore_n (l' := [_, _, _]) de_Mo_third_3 rfl (Nat.le_of_ble_eq_true rfl) rfl ?_
  exact lo_Mo_third w nn hn (nn + 1) 0 (by omega) (by omega)
theorem sp_3b (n : Nat) (hn : n ≤ 10) : 1 ≤ 3 ^ n ∧ 3 ^ n ≤ 59049 := ⟨Nat.pow_pos (by decide), Nat.le_trans (Nat.pow_le_pow_right (by decide) hn) (by decide)⟩
def sp_dig (code : Int) (e : Nat) : Int := code / (3 ^ e : Nat) % 3
theorem de_Mo_digitOf_0 : decode prog_14_method_88_code 0 = .ok (.iload_n 0, 1) := by decide +kernel
theorem de_Mo_digitOf_1 : decode prog_14_method_88_code 1 = .ok (.iload_n 1, 1) := by decide +kernel
theorem de_Mo_digitOf_2 : decode prog_14_method_88_code 2 = .ok (.iconst 1, 1) := by decide +kernel
theorem de_Mo_digitOf_3 : decode prog_14_method_88_code 3 = .ok (.isub, 1) := by decide +kernel
theorem de_Mo_digitOf_4 : decode prog_14_method_88_code 4 = .ok (.iload_n 2, 1) := by decide +kernel
theorem de_Mo_digitOf_5 : decode prog_14_method_88_code 5 = .ok (.isub, 1) := by decide +kernel
theorem de_Mo_digitOf_6 : decode prog_14_method_88_code 6 = .ok (.invokestatic 400, 3) := by decide +kernel
theorem de_Mo_digitOf_9 : decode prog_14_method_88_code 9 = .ok (.idiv, 1) := by decide +kernel
theorem de_Mo_digitOf_10 : decode prog_14_method_88_code 10 = .ok (.iconst 3, 1) := by decide +kernel
theorem de_Mo_digitOf_11 : decode prog_14_method_88_code 11 = .ok (.irem, 1) := by decide +kernel
theorem de_Mo_digitOf_12 : decode prog_14_method_88_code 12 = .ok (.ireturn, 1) := by decide +kernel
set_option maxRecDepth 10000 in
theorem co_Mo_digitOf (w : ab_W) (code a b : Int) (e : Nat) (hc : 0 ≤ code) (hc1 : code ≤ 100000) (ha : ab_in a) (hb : ab_in b) (he : a - 1 - b = (e : Int)) (he1 : e ≤ 10) : ab_Mt g_G g_rs mt_Mo_digitOf 1 0 0 [ab_I code, ab_I a, ab_I b] w (ab_is (some (ab_I (sp_dig code e))) w) := by
  refine ab_Mt.of rfl (Nat.le_of_ble_eq_true rfl) ?_
  show ab_Ev g_G g_rs mt_Mo_digitOf _ _ _ 0 [some (ab_I code), some (ab_I a), some (ab_I b)] [] _ _
  refine ev_iload_n de_Mo_digitOf_0 rfl rfl ?_
  refine ev_iload_n de_Mo_digitOf_1 rfl rfl ?_
  refine ev_iconst de_Mo_digitOf_2 ?_
  refine ev_isub de_Mo_digitOf_3 ?_
  refine ev_iload_n de_Mo_digitOf_4 rfl rfl ?_
  refine ev_isub de_Mo_digitOf_5 ?_
  refine ev_top (congrArg Sum.inl he) ?_
  have q3 := sp_3b e he1
  have qd := ab_tde code ((3 ^ e : Nat) : Int) (by omega)
  have ql : code / ((3 ^ e : Nat) : Int) ≤ code := Int.ediv_le_self _ hc
  have qn : 0 ≤ code / ((3 ^ e : Nat) : Int) := Int.ediv_nonneg hc (by omega)
  refine ev_sv de_Mo_digitOf_6 (co_Mo_third _ e he1) kb_Mo_400 sc_Mo_third rfl (Nat.le_of_ble_eq_true rfl) (by decide) rfl ?_
  generalize hz : ((3 ^ e : Nat) : Int) = z at qd ql qn ⊢
  refine ev_idiv de_Mo_digitOf_9 (by omega) (by omega) (by omega) ?_
  have qm := ab_tme (code.tdiv z) 3 (by decide)
  refine ev_iconst de_Mo_digitOf_10 ?_
  refine ev_irem de_Mo_digitOf_11 (by omega) (by omega) (by omega) ?_
  exact ev_ireturn de_Mo_digitOf_12 rfl ⟨by unfold sp_dig; rw [hz]; congr 2; rw [qm.1 (by rw [qd.1 hc]; exact qn), qd.1 hc], rfl⟩
theorem de_Mo_way_0 : decode prog_14_method_91_code 0 = .ok (.iload_n 0, 1) := by decide +kernel
theorem de_Mo_way_1 : decode prog_14_method_91_code 1 = .ok (.iload_n 1, 1) := by decide +kernel
theorem de_Mo_way_2 : decode prog_14_method_91_code 2 = .ok (.isub, 1) := by decide +kernel
theorem de_Mo_way_3 : decode prog_14_method_91_code 3 = .ok (.invokestatic 297, 3) := by decide +kernel
theorem de_Mo_way_6 : decode prog_14_method_91_code 6 = .ok (.istore_n 2, 1) := by decide +kernel
theorem de_Mo_way_7 : decode prog_14_method_91_code 7 = .ok (.iload_n 2, 1) := by decide +kernel
theorem de_Mo_way_8 : decode prog_14_method_91_code 8 = .ok (.bipush 6, 2) := by decide +kernel
theorem de_Mo_way_10 : decode prog_14_method_91_code 10 = .ok (.if_icmp .le 10, 3) := by decide +kernel
theorem de_Mo_way_13 : decode prog_14_method_91_code 13 = .ok (.bipush 12, 2) := by decide +kernel
theorem de_Mo_way_15 : decode prog_14_method_91_code 15 = .ok (.iload_n 2, 1) := by decide +kernel
theorem de_Mo_way_16 : decode prog_14_method_91_code 16 = .ok (.isub, 1) := by decide +kernel
theorem de_Mo_way_17 : decode prog_14_method_91_code 17 = .ok (.goto 4, 3) := by decide +kernel
theorem de_Mo_way_20 : decode prog_14_method_91_code 20 = .ok (.iload_n 2, 1) := by decide +kernel
theorem de_Mo_way_21 : decode prog_14_method_91_code 21 = .ok (.ireturn, 1) := by decide +kernel
set_option maxRecDepth 10000 in
theorem co_Mo_way (w : ab_W) (a b : Int) (ha : 0 ≤ a ∧ a ≤ 11) (hb : 0 ≤ b ∧ b ≤ 11) : ab_Mt g_G g_rs mt_Mo_way 1 0 0 [ab_I a, ab_I b] w (ab_is (some (ab_I (sp_way a b))) w) := by
  refine ab_Mt.of rfl (Nat.le_of_ble_eq_true rfl) ?_
  show ab_Ev g_G g_rs mt_Mo_way _ _ _ 0 [some (ab_I a), some (ab_I b), none] [] _ _
  refine ev_iload_n de_Mo_way_0 rfl rfl ?_
  refine ev_iload_n de_Mo_way_1 rfl rfl ?_
  refine ev_isub de_Mo_way_2 ?_
  refine ev_sv de_Mo_way_3 (co_Mo_round _ _ (by omega)) kb_Mo_297 sc_Mo_round rfl (Nat.le_of_ble_eq_true rfl) (by decide) rfl ?_
  refine ev_istore_n (l' := [_, _, _]) de_Mo_way_6 rfl (Nat.le_of_ble_eq_true rfl) rfl ?_
  refine ev_iload_n de_Mo_way_7 rfl rfl ?_
  refine ev_bipush de_Mo_way_8 rfl ?_
  refine ev_icmp_le (tgt := 20) de_Mo_way_10 (by decide) (by omega) (by omega) (fun h10 => ?_) (fun h10 => ?_)
  · skip
    refine ev_iload_n de_Mo_way_20 rfl rfl ?_
    exact ev_ireturn de_Mo_way_21 rfl ⟨by unfold sp_way; first | rw [if_pos (by omega)] | rw [if_neg (by omega)], rfl⟩
  · skip
    refine ev_bipush de_Mo_way_13 rfl ?_
    refine ev_iload_n de_Mo_way_15 rfl rfl ?_
    refine ev_isub de_Mo_way_16 ?_
    refine ev_goto (tgt := 21) de_Mo_way_17 (by decide) ?_
    exact ev_ireturn de_Mo_way_21 rfl ⟨by unfold sp_way; first | rw [if_pos (by omega)] | rw [if_neg (by omega)], rfl⟩
end MO
