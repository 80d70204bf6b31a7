section MO
variable {tape : Int → Int} {taped : Int} {rules : Int} {sign : Int → Int} {leng : Int → Int} {clause : Int → Int} {clauses : Int → Int} {read : Int → Int} {next : Int} {wrong : Int} {number : Int} {text : Int} {made : Int} {deep : Int} {lines : Int} {opn : Int → Int} {opened : Int} {stack : Int → Int64} {top : Int} {word : Int → Int64} {said : Int → Int} {xx : Int} {was : Int → Int} {undone : Int} {kept : Int → Int} {sumOf : Int → Int} {faced : Int → Int} {slotAt : Int → Int} {dayAt : Int → Int} {row : Int → Int} {bestRow : Int → Int} {tMany : Int} {tMost : Int} {drawX : Int64} {images : Int → Int} {imageX : Int → Int} {isMade : Int → Int}
/-! a TEST's open signs, as a list, the last opened first -/
def rs_str (s : Int) : Int := if s = 13 then 1 else if s = 12 then 2 else if s = 11 then 3 else 0
theorem rs_str_b (s : Int) : 0 ≤ rs_str s ∧ rs_str s ≤ 3 := by
  unfold rs_str
  repeat' split
  all_goals omega
def st_ok (opn : Int → Int) : List Int → Prop
  | [] => True
  | s :: K => opn (K.length : Int) = s ∧ st_ok opn K
def st_el : List Int → Prop
  | [] => True
  | s :: K => (s = 11 ∨ s = 12 ∨ s = 13 ∨ s = 91) ∧ st_el K
def dc : List Int → Int
  | [] => 0
  | s :: K => dc K + (if s = 91 ∨ s = 11 then 1 else 0)
theorem dc_b : ∀ K : List Int, 0 ≤ dc K ∧ dc K ≤ (K.length : Int)
  | [] => by unfold dc; simp
  | s :: K => by
    have ih := dc_b K
    have e : ((s :: K).length : Int) = (K.length : Int) + 1 := rfl
    rw [e]
    unfold dc
    split <;> omega
theorem st_ok_up {opn : Int → Int} {j v : Int} : ∀ {K : List Int}, st_ok opn K → (K.length : Int) ≤ j → st_ok (ab_up opn j v) K
  | [], _, _ => trivial
  | s :: K, h, hj => by
    have e : ((s :: K).length : Int) = (K.length : Int) + 1 := rfl
    rw [e] at hj
    exact ⟨by rw [ab_upn _ _ (by omega)]; exact h.1, st_ok_up h.2 (by omega)⟩
theorem st_ok_push {opn : Int → Int} {v : Int} {K : List Int} (h : st_ok opn K) : st_ok (ab_up opn (K.length : Int) v) (v :: K) := ⟨ab_upe _ _ _, st_ok_up h (Int.le_refl _)⟩
def rs_set (t least : Int) : List Int → (Int → Int) → (Int → Int) → List Int × (Int → Int) × (Int → Int)
  | [], le, sg => ([], le, sg)
  | s :: K, le, sg => if least ≤ rs_str s then rs_set t least K (ab_up le t (le t + 1)) (ab_up sg (400 * t + le t) (s + 16 * 0)) else (s :: K, le, sg)
theorem rs_set_ok {opn : Int → Int} {t least : Int} : ∀ (K : List Int) (le sg : Int → Int), st_ok opn K → st_el K → st_ok opn (rs_set t least K le sg).1 ∧ st_el (rs_set t least K le sg).1 ∧ (rs_set t least K le sg).1.length ≤ K.length
  | [], _, _, _, _ => ⟨trivial, trivial, Nat.le_refl _⟩
  | s :: K, le, sg, h, h2 => by
    unfold rs_set
    split
    · have q := rs_set_ok (t := t) (least := least) K (ab_up le t (le t + 1)) (ab_up sg (400 * t + le t) (s + 16 * 0)) h.2 h2.2
      exact ⟨q.1, q.2.1, Nat.le_succ_of_le q.2.2⟩
    · exact ⟨h, h2, Nat.le_refl _⟩
/-- what is put and what stays open are as many as before -/
theorem rs_set_n {t least : Int} : ∀ (K : List Int) (le sg : Int → Int), (rs_set t least K le sg).2.1 t + ((rs_set t least K le sg).1.length : Int) = le t + (K.length : Int) ∧ le t ≤ (rs_set t least K le sg).2.1 t
  | [], _, _ => ⟨rfl, Int.le_refl _⟩
  | s :: K, le, sg => by
    have e : ((s :: K).length : Int) = (K.length : Int) + 1 := rfl
    unfold rs_set
    split
    · have q := rs_set_n (t := t) (least := least) K (ab_up le t (le t + 1)) (ab_up sg (400 * t + le t) (s + 16 * 0))
      rw [ab_upe] at q
      rw [e]
      omega
    · exact ⟨rfl, Int.le_refl _⟩
theorem rs_set_fr {t least : Int} {s0 : Int → Int} : ∀ (K : List Int) (le sg : Int → Int), 0 ≤ le t → le t + (K.length : Int) ≤ 400 → sg_fr t s0 sg → sg_fr t s0 (rs_set t least K le sg).2.2
  | [], _, _, _, _, h => h
  | s :: K, le, sg, h0, h1, h => by
    have e : ((s :: K).length : Int) = (K.length : Int) + 1 := rfl
    rw [e] at h1
    unfold rs_set
    split
    · exact rs_set_fr K _ _ (by rw [ab_upe]; omega) (by rw [ab_upe]; omega) (sg_fr_up h h0 (by omega))
    · exact h
theorem cu_Mo_strength (w : ab_W) (s : Int) (hs : ab_in s) : ab_Mt g_G g_rs mt_Mo_strength 0 0 0 [ab_I s] w (ab_is (some (ab_I (rs_str s))) w) := co_Mo_strength w s hs
def po (tape : Int → Int) (taped : Int) (rules : Int) (sign : Int → Int) (leng : Int → Int) (clause : Int → Int) (clauses : Int → Int) (read : Int → Int) (next : Int) (number : Int) (text : Int) (made : Int) (lines : Int) (opn : Int → Int) (stack : Int → Int64) (top : Int) (word : Int → Int64) (said : Int → Int) (xx : Int) (was : Int → Int) (undone : Int) (kept : Int → Int) (sumOf : Int → Int) (faced : Int → Int) (slotAt : Int → Int) (dayAt : Int → Int) (row : Int → Int) (bestRow : Int → Int) (tMany : Int) (tMost : Int) (drawX : Int64) (images : Int → Int) (imageX : Int → Int) (isMade : Int → Int) (K : List Int) (what : Int) : Option ab_V → ab_W → Prop := fun r w2 => (dc K = 10 ∧ r = some (ab_I 0) ∧ w2 = (mo_W tape taped rules sign leng clause clauses read next (1 + 8 * next + 2) number text made (dc K) lines opn ((K.length : Int)) stack top word said xx was undone kept sumOf faced slotAt dayAt row bestRow tMany tMost drawX images imageX isMade)) ∨ (¬ dc K = 10 ∧ r = some (ab_I 1) ∧ w2 = (mo_W tape taped rules sign leng clause clauses read next (0) number text made (dc K + 1) lines (ab_up opn (K.length : Int) what) ((K.length : Int) + 1) stack top word said xx was undone kept sumOf faced slotAt dayAt row bestRow tMany tMost drawX images imageX isMade))
theorem de_Mo_opens_0 : decode prog_14_method_19_code 0 = .ok (.aload_n 0, 1) := by decide +kernel
theorem de_Mo_opens_1 : decode prog_14_method_19_code 1 = .ok (.getfield 149, 3) := by decide +kernel
theorem de_Mo_opens_4 : decode prog_14_method_19_code 4 = .ok (.bipush 10, 2) := by decide +kernel
theorem de_Mo_opens_6 : decode prog_14_method_19_code 6 = .ok (.if_icmp .ne 13, 3) := by decide +kernel
theorem de_Mo_opens_9 : decode prog_14_method_19_code 9 = .ok (.aload_n 0, 1) := by decide +kernel
theorem de_Mo_opens_10 : decode prog_14_method_19_code 10 = .ok (.iconst 2, 1) := by decide +kernel
theorem de_Mo_opens_11 : decode prog_14_method_19_code 11 = .ok (.aload_n 0, 1) := by decide +kernel
theorem de_Mo_opens_12 : decode prog_14_method_19_code 12 = .ok (.getfield 87, 3) := by decide +kernel
theorem de_Mo_opens_15 : decode prog_14_method_19_code 15 = .ok (.invokevirtual 108, 3) := by decide +kernel
theorem de_Mo_opens_18 : decode prog_14_method_19_code 18 = .ok (.ireturn, 1) := by decide +kernel
theorem de_Mo_opens_19 : decode prog_14_method_19_code 19 = .ok (.aload_n 0, 1) := by decide +kernel
theorem de_Mo_opens_20 : decode prog_14_method_19_code 20 = .ok (.dup, 1) := by decide +kernel
theorem de_Mo_opens_21 : decode prog_14_method_19_code 21 = .ok (.getfield 149, 3) := by decide +kernel
theorem de_Mo_opens_24 : decode prog_14_method_19_code 24 = .ok (.iconst 1, 1) := by decide +kernel
theorem de_Mo_opens_25 : decode prog_14_method_19_code 25 = .ok (.iadd, 1) := by decide +kernel
theorem de_Mo_opens_26 : decode prog_14_method_19_code 26 = .ok (.putfield 149, 3) := by decide +kernel
theorem de_Mo_opens_29 : decode prog_14_method_19_code 29 = .ok (.aload_n 0, 1) := by decide +kernel
theorem de_Mo_opens_30 : decode prog_14_method_19_code 30 = .ok (.getfield 29, 3) := by decide +kernel
theorem de_Mo_opens_33 : decode prog_14_method_19_code 33 = .ok (.aload_n 0, 1) := by decide +kernel
theorem de_Mo_opens_34 : decode prog_14_method_19_code 34 = .ok (.getfield 152, 3) := by decide +kernel
theorem de_Mo_opens_37 : decode prog_14_method_19_code 37 = .ok (.iload_n 1, 1) := by decide +kernel
theorem de_Mo_opens_38 : decode prog_14_method_19_code 38 = .ok (.iastore, 1) := by decide +kernel
theorem de_Mo_opens_39 : decode prog_14_method_19_code 39 = .ok (.aload_n 0, 1) := by decide +kernel
theorem de_Mo_opens_40 : decode prog_14_method_19_code 40 = .ok (.dup, 1) := by decide +kernel
theorem de_Mo_opens_41 : decode prog_14_method_19_code 41 = .ok (.getfield 152, 3) := by decide +kernel
theorem de_Mo_opens_44 : decode prog_14_method_19_code 44 = .ok (.iconst 1, 1) := by decide +kernel
theorem de_Mo_opens_45 : decode prog_14_method_19_code 45 = .ok (.iadd, 1) := by decide +kernel
theorem de_Mo_opens_46 : decode prog_14_method_19_code 46 = .ok (.putfield 152, 3) := by decide +kernel
theorem de_Mo_opens_49 : decode prog_14_method_19_code 49 = .ok (.iconst 1, 1) := by decide +kernel
theorem de_Mo_opens_50 : decode prog_14_method_19_code 50 = .ok (.ireturn, 1) := by decide +kernel
set_option maxHeartbeats 4000000 in
set_option maxRecDepth 10000 in
theorem co_Mo_opens (K : List Int) (hK : (K.length : Int) < 400) (what : Int) : ab_Mt g_G g_rs mt_Mo_opens 1 0 0 [ab_R 0, ab_I what] (mo_W tape taped rules sign leng clause clauses read next (0) number text made (dc K) lines opn ((K.length : Int)) stack top word said xx was undone kept sumOf faced slotAt dayAt row bestRow tMany tMost drawX images imageX isMade) (po tape taped rules sign leng clause clauses read next number text made lines opn stack top word said xx was undone kept sumOf faced slotAt dayAt row bestRow tMany tMost drawX images imageX isMade K what) := by
  refine ab_Mt.of rfl (Nat.le_of_ble_eq_true rfl) ?_
  show ab_Ev g_G g_rs mt_Mo_opens _ _ _ 0 [some (ab_R 0), some (ab_I what)] [] _ _
  have db := dc_b K
  refine ev_aload_n de_Mo_opens_0 rfl rfl ?_
  refine ev_getfield de_Mo_opens_1 rfl fl_Mo_149 rfl ?_
  refine ev_bipush de_Mo_opens_4 rfl ?_
  refine ev_icmp_ne (tgt := 19) de_Mo_opens_6 (by decide) (by omega) (by omega) (fun h6 => ?_) (fun h6 => ?_)
  · skip
    refine ev_aload_n de_Mo_opens_19 rfl rfl ?_
    refine ev_dup de_Mo_opens_20 rfl ?_
    refine ev_getfield de_Mo_opens_21 rfl fl_Mo_149 rfl ?_
    refine ev_iconst de_Mo_opens_24 ?_
    refine ev_iadd de_Mo_opens_25 ?_
    refine ev_putfield de_Mo_opens_26 rfl (fp_Mo_149 _) (Nat.le_of_ble_eq_true rfl) trivial ?_
    refine ev_world (w' := mo_W _ _ _ _ _ _ _ _ _ _ _ _ _ _ _ _ _ _ _ _ _ _ _ _ _ _ _ _ _ _ _ _ _ _ _ _ _) rfl ?_
    refine ev_aload_n de_Mo_opens_29 rfl rfl ?_
    refine ev_getfield de_Mo_opens_30 rfl fl_Mo_29 rfl ?_
    refine ev_aload_n de_Mo_opens_33 rfl rfl ?_
    refine ev_getfield de_Mo_opens_34 rfl fl_Mo_152 rfl ?_
    refine ev_iload_n de_Mo_opens_37 rfl rfl ?_
    refine ev_iastore de_Mo_opens_38 rfl (by omega) (by omega) (by omega) ?_
    refine ev_world (w' := mo_W _ _ _ _ _ _ _ _ _ _ _ _ _ _ _ _ _ _ _ _ _ _ _ _ _ _ _ _ _ _ _ _ _ _ _ _ _) rfl ?_
    refine ev_aload_n de_Mo_opens_39 rfl rfl ?_
    refine ev_dup de_Mo_opens_40 rfl ?_
    refine ev_getfield de_Mo_opens_41 rfl fl_Mo_152 rfl ?_
    refine ev_iconst de_Mo_opens_44 ?_
    refine ev_iadd de_Mo_opens_45 ?_
    refine ev_putfield de_Mo_opens_46 rfl (fp_Mo_152 _) (Nat.le_of_ble_eq_true rfl) trivial ?_
    refine ev_world (w' := mo_W _ _ _ _ _ _ _ _ _ _ _ _ _ _ _ _ _ _ _ _ _ _ _ _ _ _ _ _ _ _ _ _ _ _ _ _ _) rfl ?_
    refine ev_iconst de_Mo_opens_49 ?_
    exact ev_zreturn de_Mo_opens_50 rfl (by decide) (Or.inr ⟨h6, rfl, rfl⟩)
  · skip
    refine ev_aload_n de_Mo_opens_9 rfl rfl ?_
    refine ev_iconst de_Mo_opens_10 ?_
    refine ev_aload_n de_Mo_opens_11 rfl rfl ?_
    refine ev_getfield de_Mo_opens_12 rfl fl_Mo_87 rfl ?_
    refine ev_vv (ci := 11) de_Mo_opens_15 (co_Mo_fails 2 next (by decide)) kb_Mo_108 ⟨im_Mo_fails, se_Mo_fails⟩ rfl rfl rfl (Nat.le_of_ble_eq_true rfl) (by decide) rfl ?_
    exact ev_zreturn de_Mo_opens_18 rfl (by decide) (Or.inl ⟨h6, rfl, rfl⟩)
theorem de_Mo_settles_0 : decode prog_14_method_21_code 0 = .ok (.aload_n 0, 1) := by decide +kernel
theorem de_Mo_settles_1 : decode prog_14_method_21_code 1 = .ok (.getfield 152, 3) := by decide +kernel
theorem de_Mo_settles_4 : decode prog_14_method_21_code 4 = .ok (.ifCond .le 72, 3) := by decide +kernel
theorem de_Mo_settles_7 : decode prog_14_method_21_code 7 = .ok (.aload_n 0, 1) := by decide +kernel
theorem de_Mo_settles_8 : decode prog_14_method_21_code 8 = .ok (.getfield 29, 3) := by decide +kernel
theorem de_Mo_settles_11 : decode prog_14_method_21_code 11 = .ok (.aload_n 0, 1) := by decide +kernel
theorem de_Mo_settles_12 : decode prog_14_method_21_code 12 = .ok (.getfield 152, 3) := by decide +kernel
theorem de_Mo_settles_15 : decode prog_14_method_21_code 15 = .ok (.iconst 1, 1) := by decide +kernel
theorem de_Mo_settles_16 : decode prog_14_method_21_code 16 = .ok (.isub, 1) := by decide +kernel
theorem de_Mo_settles_17 : decode prog_14_method_21_code 17 = .ok (.iaload, 1) := by decide +kernel
theorem de_Mo_settles_18 : decode prog_14_method_21_code 18 = .ok (.invokestatic 155, 3) := by decide +kernel
theorem de_Mo_settles_21 : decode prog_14_method_21_code 21 = .ok (.iload_n 1, 1) := by decide +kernel
theorem de_Mo_settles_22 : decode prog_14_method_21_code 22 = .ok (.if_icmp .lt 54, 3) := by decide +kernel
theorem de_Mo_settles_25 : decode prog_14_method_21_code 25 = .ok (.aload_n 0, 1) := by decide +kernel
theorem de_Mo_settles_26 : decode prog_14_method_21_code 26 = .ok (.dup, 1) := by decide +kernel
theorem de_Mo_settles_27 : decode prog_14_method_21_code 27 = .ok (.getfield 152, 3) := by decide +kernel
theorem de_Mo_settles_30 : decode prog_14_method_21_code 30 = .ok (.iconst 1, 1) := by decide +kernel
theorem de_Mo_settles_31 : decode prog_14_method_21_code 31 = .ok (.isub, 1) := by decide +kernel
theorem de_Mo_settles_32 : decode prog_14_method_21_code 32 = .ok (.putfield 152, 3) := by decide +kernel
theorem de_Mo_settles_35 : decode prog_14_method_21_code 35 = .ok (.aload_n 0, 1) := by decide +kernel
theorem de_Mo_settles_36 : decode prog_14_method_21_code 36 = .ok (.aload_n 0, 1) := by decide +kernel
theorem de_Mo_settles_37 : decode prog_14_method_21_code 37 = .ok (.getfield 29, 3) := by decide +kernel
theorem de_Mo_settles_40 : decode prog_14_method_21_code 40 = .ok (.aload_n 0, 1) := by decide +kernel
theorem de_Mo_settles_41 : decode prog_14_method_21_code 41 = .ok (.getfield 152, 3) := by decide +kernel
theorem de_Mo_settles_44 : decode prog_14_method_21_code 44 = .ok (.iaload, 1) := by decide +kernel
theorem de_Mo_settles_45 : decode prog_14_method_21_code 45 = .ok (.iconst 0, 1) := by decide +kernel
theorem de_Mo_settles_46 : decode prog_14_method_21_code 46 = .ok (.invokevirtual 159, 3) := by decide +kernel
theorem de_Mo_settles_49 : decode prog_14_method_21_code 49 = .ok (.aload_n 0, 1) := by decide +kernel
theorem de_Mo_settles_50 : decode prog_14_method_21_code 50 = .ok (.getfield 29, 3) := by decide +kernel
theorem de_Mo_settles_53 : decode prog_14_method_21_code 53 = .ok (.aload_n 0, 1) := by decide +kernel
theorem de_Mo_settles_54 : decode prog_14_method_21_code 54 = .ok (.getfield 152, 3) := by decide +kernel
theorem de_Mo_settles_57 : decode prog_14_method_21_code 57 = .ok (.iaload, 1) := by decide +kernel
theorem de_Mo_settles_58 : decode prog_14_method_21_code 58 = .ok (.bipush 11, 2) := by decide +kernel
theorem de_Mo_settles_60 : decode prog_14_method_21_code 60 = .ok (.if_icmp .ne (-60), 3) := by decide +kernel
theorem de_Mo_settles_63 : decode prog_14_method_21_code 63 = .ok (.aload_n 0, 1) := by decide +kernel
theorem de_Mo_settles_64 : decode prog_14_method_21_code 64 = .ok (.dup, 1) := by decide +kernel
theorem de_Mo_settles_65 : decode prog_14_method_21_code 65 = .ok (.getfield 149, 3) := by decide +kernel
theorem de_Mo_settles_68 : decode prog_14_method_21_code 68 = .ok (.iconst 1, 1) := by decide +kernel
theorem de_Mo_settles_69 : decode prog_14_method_21_code 69 = .ok (.isub, 1) := by decide +kernel
theorem de_Mo_settles_70 : decode prog_14_method_21_code 70 = .ok (.putfield 149, 3) := by decide +kernel
theorem de_Mo_settles_73 : decode prog_14_method_21_code 73 = .ok (.goto (-73), 3) := by decide +kernel
theorem de_Mo_settles_76 : decode prog_14_method_21_code 76 = .ok (.return_, 1) := by decide +kernel
set_option maxHeartbeats 4000000 in
set_option maxRecDepth 10000 in
theorem lo_Mo_settles (tx0 : 0 ≤ text) (tx1 : text ≤ 5) (least : Int) (hl : 1 ≤ least) (hl3 : least ≤ 3) : ∀ (n : Nat) (K : List Int) (leng sign : Int → Int), K.length < n → st_ok opn K → st_el K → 0 ≤ leng text → leng text + (K.length : Int) ≤ 400 → ab_Ev g_G g_rs mt_Mo_settles 1 0 0 0 [some (ab_R 0), some (ab_I least)] [] (mo_W tape taped rules sign leng clause clauses read next wrong number text made (dc K) lines opn ((K.length : Int)) stack top word said xx was undone kept sumOf faced slotAt dayAt row bestRow tMany tMost drawX images imageX isMade) (ab_is none (mo_W tape taped rules ((rs_set text least K leng sign).2.2) ((rs_set text least K leng sign).2.1) clause clauses read next wrong number text made (dc (rs_set text least K leng sign).1) lines opn (((rs_set text least K leng sign).1.length : Int)) stack top word said xx was undone kept sumOf faced slotAt dayAt row bestRow tMany tMost drawX images imageX isMade)) := by
  intro n
  induction n with
  | zero => intro K leng sign h; exact absurd h (Nat.not_lt_zero _)
  | succ n ih =>
    intro K leng sign hn hst hel h0 h1
    rcases K with _ | ⟨s, K⟩
    · refine ev_world (w' := (mo_W tape taped rules sign leng clause clauses read next wrong number text made (0) lines opn (0) stack top word said xx was undone kept sumOf faced slotAt dayAt row bestRow tMany tMost drawX images imageX isMade)) rfl ?_
      refine ev_aload_n de_Mo_settles_0 rfl rfl ?_
      refine ev_getfield de_Mo_settles_1 rfl fl_Mo_152 rfl ?_
      refine ev_if_le (tgt := 76) de_Mo_settles_4 (by decide) (by omega) (fun h4 => ?_) (fun h4 => ?_)
      · skip
        exact ev_return de_Mo_settles_76 rfl ⟨rfl, rfl⟩
      · exact absurd (Int.le_refl 0) h4
    · have hs1 := hst.1
      have eL : ((s :: K).length : Int) = (K.length : Int) + 1 := rfl
      have hnl : K.length < n := by simp only [List.length_cons] at hn; omega
      rw [eL] at h1
      have sb : ab_in s := by rcases hel.1 with z | z | z | z <;> omega
      have db := dc_b K
      have rb := rs_str_b s
      refine ev_world (w' := (mo_W tape taped rules sign leng clause clauses read next wrong number text made (dc K + (if s = 91 ∨ s = 11 then 1 else 0)) lines opn ((K.length : Int) + 1) stack top word said xx was undone kept sumOf faced slotAt dayAt row bestRow tMany tMost drawX images imageX isMade)) rfl ?_
      refine ev_aload_n de_Mo_settles_0 rfl rfl ?_
      refine ev_getfield de_Mo_settles_1 rfl fl_Mo_152 rfl ?_
      refine ev_if_le (tgt := 76) de_Mo_settles_4 (by decide) (by omega) (fun h4 => ?_) (fun h4 => ?_)
      · exact absurd h4 (by omega)
      · skip
        refine ev_aload_n de_Mo_settles_7 rfl rfl ?_
        refine ev_getfield de_Mo_settles_8 rfl fl_Mo_29 rfl ?_
        refine ev_aload_n de_Mo_settles_11 rfl rfl ?_
        refine ev_getfield de_Mo_settles_12 rfl fl_Mo_152 rfl ?_
        refine ev_iconst de_Mo_settles_15 ?_
        refine ev_isub de_Mo_settles_16 ?_
        refine ev_iaload de_Mo_settles_17 rfl (by omega) (by omega) (by omega) ?_
        refine ev_top (congrArg Sum.inl (show opn ((K.length : Int) + 1 - 1) = s by rw [Int.add_sub_cancel]; exact hs1)) ?_
        refine ev_sv de_Mo_settles_18 (cu_Mo_strength _ s sb) kb_Mo_155 sc_Mo_strength rfl (Nat.le_of_ble_eq_true rfl) (by decide) rfl ?_
        refine ev_iload_n de_Mo_settles_21 rfl rfl ?_
        refine ev_icmp_lt (tgt := 76) de_Mo_settles_22 (by decide) (by omega) (by omega) (fun h22 => ?_) (fun h22 => ?_)
        · skip
          have e : rs_set text least (s :: K) leng sign = (s :: K, leng, sign) := if_neg (by omega)
          rw [e]
          exact ev_return de_Mo_settles_76 rfl ⟨rfl, rfl⟩
        · skip
          refine ev_aload_n de_Mo_settles_25 rfl rfl ?_
          refine ev_dup de_Mo_settles_26 rfl ?_
          refine ev_getfield de_Mo_settles_27 rfl fl_Mo_152 rfl ?_
          refine ev_iconst de_Mo_settles_30 ?_
          refine ev_isub de_Mo_settles_31 ?_
          refine ev_putfield de_Mo_settles_32 rfl (fp_Mo_152 _) (Nat.le_of_ble_eq_true rfl) trivial ?_
          refine ev_world (w' := mo_W _ _ _ _ _ _ _ _ _ _ _ _ _ _ _ _ _ _ _ _ _ _ _ _ _ _ _ _ _ _ _ _ _ _ _ _ _) rfl ?_
          refine ev_world (w' := (mo_W tape taped rules sign leng clause clauses read next wrong number text made (dc K + (if s = 91 ∨ s = 11 then 1 else 0)) lines opn ((K.length : Int)) stack top word said xx was undone kept sumOf faced slotAt dayAt row bestRow tMany tMost drawX images imageX isMade)) (by rw [Int.add_sub_cancel]) ?_
          refine ev_aload_n de_Mo_settles_35 rfl rfl ?_
          refine ev_aload_n de_Mo_settles_36 rfl rfl ?_
          refine ev_getfield de_Mo_settles_37 rfl fl_Mo_29 rfl ?_
          refine ev_aload_n de_Mo_settles_40 rfl rfl ?_
          refine ev_getfield de_Mo_settles_41 rfl fl_Mo_152 rfl ?_
          refine ev_iaload de_Mo_settles_44 rfl (by omega) (by omega) (by omega) ?_
          refine ev_top (congrArg Sum.inl hs1) ?_
          refine ev_iconst de_Mo_settles_45 ?_
          refine ev_vn (ci := 11) de_Mo_settles_46 (co_Mo_puts tx0 tx1 (by omega) (by omega) s 0) kb_Mo_159 ⟨im_Mo_puts, se_Mo_puts⟩ rfl rfl rfl (Nat.le_of_ble_eq_true rfl) (by decide) rfl ?_
          refine ev_aload_n de_Mo_settles_49 rfl rfl ?_
          refine ev_getfield de_Mo_settles_50 rfl fl_Mo_29 rfl ?_
          refine ev_aload_n de_Mo_settles_53 rfl rfl ?_
          refine ev_getfield de_Mo_settles_54 rfl fl_Mo_152 rfl ?_
          refine ev_iaload de_Mo_settles_57 rfl (by omega) (by omega) (by omega) ?_
          refine ev_top (congrArg Sum.inl hs1) ?_
          refine ev_bipush de_Mo_settles_58 rfl ?_
          refine ev_icmp_ne (tgt := 0) de_Mo_settles_60 (by decide) (by omega) (by omega) (fun h60 => ?_) (fun h60 => ?_)
          · skip
            refine ev_world (w' := (mo_W tape taped rules (ab_up sign (400 * text + leng text) (s + 16 * 0)) (ab_up leng text (leng text + 1)) clause clauses read next wrong number text made (dc K) lines opn ((K.length : Int)) stack top word said xx was undone kept sumOf faced slotAt dayAt row bestRow tMany tMost drawX images imageX isMade)) (by rw [if_neg (fun z => by rcases z with z | z; (rw [z] at h22; exact h22 (by unfold rs_str; rw [if_neg (by decide), if_neg (by decide), if_neg (by decide)]; omega)); exact h60 z), Int.add_zero]) ?_
            have e : rs_set text least (s :: K) leng sign = rs_set text least K (ab_up leng text (leng text + 1)) (ab_up sign (400 * text + leng text) (s + 16 * 0)) := if_pos (by omega)
            rw [e]
            exact ih K _ _ hnl hst.2 hel.2 (by rw [ab_upe]; omega) (by rw [ab_upe]; omega)
          · skip
            refine ev_aload_n de_Mo_settles_63 rfl rfl ?_
            refine ev_dup de_Mo_settles_64 rfl ?_
            refine ev_getfield de_Mo_settles_65 rfl fl_Mo_149 rfl ?_
            refine ev_iconst de_Mo_settles_68 ?_
            refine ev_isub de_Mo_settles_69 ?_
            refine ev_putfield de_Mo_settles_70 rfl (fp_Mo_149 _) (Nat.le_of_ble_eq_true rfl) trivial ?_
            refine ev_world (w' := mo_W _ _ _ _ _ _ _ _ _ _ _ _ _ _ _ _ _ _ _ _ _ _ _ _ _ _ _ _ _ _ _ _ _ _ _ _ _) rfl ?_
            refine ev_goto (tgt := 0) de_Mo_settles_73 (by decide) ?_
            refine ev_world (w' := (mo_W tape taped rules (ab_up sign (400 * text + leng text) (s + 16 * 0)) (ab_up leng text (leng text + 1)) clause clauses read next wrong number text made (dc K) lines opn ((K.length : Int)) stack top word said xx was undone kept sumOf faced slotAt dayAt row bestRow tMany tMost drawX images imageX isMade)) (by rw [if_pos (Or.inr h60), Int.add_sub_cancel]) ?_
            have e : rs_set text least (s :: K) leng sign = rs_set text least K (ab_up leng text (leng text + 1)) (ab_up sign (400 * text + leng text) (s + 16 * 0)) := if_pos (by omega)
            rw [e]
            exact ih K _ _ hnl hst.2 hel.2 (by rw [ab_upe]; omega) (by rw [ab_upe]; omega)
set_option maxHeartbeats 4000000 in
set_option maxRecDepth 10000 in
theorem co_Mo_settles (tx0 : 0 ≤ text) (tx1 : text ≤ 5) (least : Int) (hl : 1 ≤ least) (hl3 : least ≤ 3) (K : List Int) (hst : st_ok opn K) (hel : st_el K) (h0 : 0 ≤ leng text) (h1 : leng text + (K.length : Int) ≤ 400) : ab_Mt g_G g_rs mt_Mo_settles 1 0 0 [ab_R 0, ab_I least] (mo_W tape taped rules sign leng clause clauses read next wrong number text made (dc K) lines opn ((K.length : Int)) stack top word said xx was undone kept sumOf faced slotAt dayAt row bestRow tMany tMost drawX images imageX isMade) (ab_is none (mo_W tape taped rules ((rs_set text least K leng sign).2.2) ((rs_set text least K leng sign).2.1) clause clauses read next wrong number text made (dc (rs_set text least K leng sign).1) lines opn (((rs_set text least K leng sign).1.length : Int)) stack top word said xx was undone kept sumOf faced slotAt dayAt row bestRow tMany tMost drawX images imageX isMade)) := by
  refine ab_Mt.of rfl (Nat.le_of_ble_eq_true rfl) ?_
  exact lo_Mo_settles tx0 tx1 least hl hl3 (K.length + 1) K leng sign (Nat.lt_succ_self _) hst hel h0 h1
def st_in (K : List Int) : Int := if (91 : Int) ∈ K then 1 else 0
theorem st_nth {opn : Int → Int} : ∀ {K : List Int}, st_ok opn K → ∀ j : Int, 0 ≤ j → j < (K.length : Int) → opn j ∈ K
  | [], _, j, h0, h1 => by simp at h1; omega
  | s :: K, h, j, h0, h1 => by
    have e : ((s :: K).length : Int) = (K.length : Int) + 1 := rfl
    rw [e] at h1
    by_cases c : j = (K.length : Int)
    · rw [c, h.1]; exact List.mem_cons_self
    · exact List.mem_cons_of_mem _ (st_nth h.2 j h0 (by omega))
theorem st_not {opn : Int → Int} : ∀ {K : List Int}, st_ok opn K → (∀ j : Int, 0 ≤ j → j < (K.length : Int) → opn j ≠ 91) → ¬ (91 : Int) ∈ K
  | [], _, _ => List.not_mem_nil
  | s :: K, h, hj => by
    have e : ((s :: K).length : Int) = (K.length : Int) + 1 := rfl
    rw [e] at hj
    intro z
    rcases List.mem_cons.mp z with z | z
    · exact hj (K.length : Int) (by omega) (by omega) (by rw [h.1]; exact z.symm)
    · exact st_not h.2 (fun j h0 h1 => hj j h0 (by omega)) z
theorem st_el_b {K : List Int} (h : st_el K) : ∀ s ∈ K, 11 ≤ s ∧ s ≤ 91 := by
  induction K with
  | nil => intro s hs; cases hs
  | cons a K ih =>
    intro s hs
    rcases List.mem_cons.mp hs with z | z
    · rw [z]; rcases h.1 with q | q | q | q <;> omega
    · exact ih h.2 s z
theorem de_Mo_isInside_0 : decode prog_14_method_27_code 0 = .ok (.iconst 0, 1) := by decide +kernel
theorem de_Mo_isInside_1 : decode prog_14_method_27_code 1 = .ok (.istore_n 1, 1) := by decide +kernel
theorem de_Mo_isInside_2 : decode prog_14_method_27_code 2 = .ok (.iload_n 1, 1) := by decide +kernel
theorem de_Mo_isInside_3 : decode prog_14_method_27_code 3 = .ok (.aload_n 0, 1) := by decide +kernel
theorem de_Mo_isInside_4 : decode prog_14_method_27_code 4 = .ok (.getfield 152, 3) := by decide +kernel
theorem de_Mo_isInside_7 : decode prog_14_method_27_code 7 = .ok (.if_icmp .ge 22, 3) := by decide +kernel
theorem de_Mo_isInside_10 : decode prog_14_method_27_code 10 = .ok (.aload_n 0, 1) := by decide +kernel
theorem de_Mo_isInside_11 : decode prog_14_method_27_code 11 = .ok (.getfield 29, 3) := by decide +kernel
theorem de_Mo_isInside_14 : decode prog_14_method_27_code 14 = .ok (.iload_n 1, 1) := by decide +kernel
theorem de_Mo_isInside_15 : decode prog_14_method_27_code 15 = .ok (.iaload, 1) := by decide +kernel
theorem de_Mo_isInside_16 : decode prog_14_method_27_code 16 = .ok (.bipush 91, 2) := by decide +kernel
theorem de_Mo_isInside_18 : decode prog_14_method_27_code 18 = .ok (.if_icmp .ne 5, 3) := by decide +kernel
theorem de_Mo_isInside_21 : decode prog_14_method_27_code 21 = .ok (.iconst 1, 1) := by decide +kernel
theorem de_Mo_isInside_22 : decode prog_14_method_27_code 22 = .ok (.ireturn, 1) := by decide +kernel
theorem de_Mo_isInside_23 : decode prog_14_method_27_code 23 = .ok (.iinc 1 1, 3) := by decide +kernel
theorem de_Mo_isInside_26 : decode prog_14_method_27_code 26 = .ok (.goto (-24), 3) := by decide +kernel
theorem de_Mo_isInside_29 : decode prog_14_method_27_code 29 = .ok (.iconst 0, 1) := by decide +kernel
theorem de_Mo_isInside_30 : decode prog_14_method_27_code 30 = .ok (.ireturn, 1) := by decide +kernel
set_option maxHeartbeats 4000000 in
set_option maxRecDepth 10000 in
theorem lo_Mo_isInside (K : List Int) (hK : (K.length : Int) ≤ 400) (hst : st_ok opn K) (hel : st_el K) : ∀ (n : Nat) (j : Int), 0 ≤ j → j ≤ (K.length : Int) → (K.length : Int) < j + n → (∀ i : Int, 0 ≤ i → i < j → opn i ≠ 91) → ab_Ev g_G g_rs mt_Mo_isInside 0 0 0 2 [some (ab_R 0), some (ab_I j)] [] (mo_W tape taped rules sign leng clause clauses read next wrong number text made (dc K) lines opn ((K.length : Int)) stack top word said xx was undone kept sumOf faced slotAt dayAt row bestRow tMany tMost drawX images imageX isMade) (ab_is (some (ab_I (st_in K))) (mo_W tape taped rules sign leng clause clauses read next wrong number text made (dc K) lines opn ((K.length : Int)) stack top word said xx was undone kept sumOf faced slotAt dayAt row bestRow tMany tMost drawX images imageX isMade)) := by
  intro n
  induction n with
  | zero =>
    intro j
    intro g0 g1 g2 g3; omega
  | succ n ih =>
    intro j
    intro g0 g1 g2 g3
    refine ev_iload_n de_Mo_isInside_2 rfl rfl ?_
    refine ev_aload_n de_Mo_isInside_3 rfl rfl ?_
    refine ev_getfield de_Mo_isInside_4 rfl fl_Mo_152 rfl ?_
    refine ev_icmp_ge (tgt := 29) de_Mo_isInside_7 (by decide) (by omega) (by omega) (fun h7 => ?_) (fun h7 => ?_)
    · skip
      have e : st_in K = 0 := if_neg (st_not hst (fun i hi0 hi1 => g3 i hi0 (by omega)))
      rw [e]
      refine ev_iconst de_Mo_isInside_29 ?_
      exact ev_zreturn de_Mo_isInside_30 rfl (by decide) ⟨rfl, rfl⟩
    · skip
      have q := st_el_b hel _ (st_nth hst j g0 (by omega))
      refine ev_aload_n de_Mo_isInside_10 rfl rfl ?_
      refine ev_getfield de_Mo_isInside_11 rfl fl_Mo_29 rfl ?_
      refine ev_iload_n de_Mo_isInside_14 rfl rfl ?_
      refine ev_iaload de_Mo_isInside_15 rfl (by omega) (by omega) (by omega) ?_
      refine ev_bipush de_Mo_isInside_16 rfl ?_
      refine ev_icmp_ne (tgt := 23) de_Mo_isInside_18 (by decide) (by omega) (by omega) (fun h18 => ?_) (fun h18 => ?_)
      · skip
        refine ev_iinc (l' := [_, _]) de_Mo_isInside_23 rfl rfl ?_
        refine ev_goto (tgt := 2) de_Mo_isInside_26 (by decide) ?_
        exact ih (j + 1) (by omega) (by omega) (by omega) (fun i hi0 hi1 => by by_cases c : i = j; (rw [c]; exact h18); exact g3 i hi0 (by omega))
      · skip
        have e : st_in K = 1 := if_pos (by rw [← h18]; exact st_nth hst j g0 (by omega))
        rw [e]
        refine ev_iconst de_Mo_isInside_21 ?_
        exact ev_zreturn de_Mo_isInside_22 rfl (by decide) ⟨rfl, rfl⟩
set_option maxHeartbeats 4000000 in
set_option maxRecDepth 10000 in
theorem co_Mo_isInside (K : List Int) (hK : (K.length : Int) ≤ 400) (hst : st_ok opn K) (hel : st_el K) : ab_Mt g_G g_rs mt_Mo_isInside 0 0 0 [ab_R 0] (mo_W tape taped rules sign leng clause clauses read next wrong number text made (dc K) lines opn ((K.length : Int)) stack top word said xx was undone kept sumOf faced slotAt dayAt row bestRow tMany tMost drawX images imageX isMade) (ab_is (some (ab_I (st_in K))) (mo_W tape taped rules sign leng clause clauses read next wrong number text made (dc K) lines opn ((K.length : Int)) stack top word said xx was undone kept sumOf faced slotAt dayAt row bestRow tMany tMost drawX images imageX isMade)) := by
  refine ab_Mt.of rfl (Nat.le_of_ble_eq_true rfl) ?_
  show ab_Ev g_G g_rs mt_Mo_isInside _ _ _ 0 [some (ab_R 0), none] [] _ _
  refine ev_iconst de_Mo_isInside_0 ?_
  refine ev_istore_n (l' := [_, _]) de_Mo_isInside_1 rfl (Nat.le_of_ble_eq_true rfl) rfl ?_
  exact lo_Mo_isInside K hK hst hel (K.length + 1) 0 (by omega) (by omega) (by omega) (fun i h0 h1 => by omega)
end MO
