section MO
variable {tape : Int → Int} {taped : Int} {rules : Int} {sign : Int → Int} {leng : Int → Int} {clause : Int → Int} {clauses : Int → Int} {read : Int → Int} {next : Int} {wrong : Int} {number : Int} {text : Int} {made : Int} {deep : Int} {lines : Int} {opn : Int → Int} {opened : Int} {stack : Int → Int64} {top : Int} {word : Int → Int64} {said : Int → Int} {xx : Int} {was : Int → Int} {undone : Int} {kept : Int → Int} {sumOf : Int → Int} {faced : Int → Int} {slotAt : Int → Int} {dayAt : Int → Int} {row : Int → Int} {bestRow : Int → Int} {tMany : Int} {tMost : Int} {drawX : Int64} {images : Int → Int} {imageX : Int → Int} {isMade : Int → Int}
/-! rules worked out: a stack of longs -/
def sp_one (s : Int) (x y : Int64) : Int64 := if s = 2 then x + y else if s = 3 then x - y else if s = 4 then x * y else if s = 5 then (if y = 0 then 0 else x / y) else if s = 14 then (if y = 0 then 0 else x - x / y * y) else if s = 6 then (if x < y then 1 else 0) else if s = 7 then (if x ≤ y then 1 else 0) else if s = 8 then (if x = y then 1 else 0) else if s = 9 then (if y ≤ x then 1 else 0) else if s = 10 then (if y < x then 1 else 0) else if s = 12 then x &&& y else x ||| y
def sp_op (word : Int → Int64) (o : Int) (st : List Int64) : Option (List Int64) :=
  if 0 ≤ o ∧ o ≤ 2000000 then
    (if o % 16 = 0 then some (Int64.ofInt (o / 16) :: st)
    else if o % 16 = 1 then (if o / 16 ≤ 11 then some (word (o / 16) :: st) else none)
    else if o % 16 = 11 then (match st with
      | y :: r => some ((1 - y) :: r)
      | _ => none)
    else (match st with
      | y :: x :: r => some (sp_one (o % 16) x y :: r)
      | _ => none))
  else none
def sp_rk (word : Int → Int64) (code : Int → Int) : Nat → Int → List Int64 → Option (List Int64)
  | 0, _, st => some st
  | n + 1, i, st => match sp_op word (code i) st with
    | some st' => if st'.length ≤ 60 then sp_rk word code n (i + 1) st' else none
    | none => none
def sp_ev (word : Int → Int64) (code : Int → Int) (b e : Int) : Option Int64 := match sp_rk word code (e - b).toNat b [] with
  | some [z] => some z
  | _ => none
/-- the row holds the stack -/
def sp_stk (stack : Int → Int64) (st : List Int64) : Prop := ∀ (i : Nat) (z : Int64), st.reverse[i]? = some z → stack (i : Int) = z
theorem sp_stk_push {stack : Int → Int64} {st : List Int64} (h : sp_stk stack st) (z : Int64) : sp_stk (ab_up stack (st.length : Int) z) (z :: st) := by
  intro i v hi
  rw [List.reverse_cons] at hi
  by_cases h1 : i < st.length
  · rw [List.getElem?_append_left (by simpa using h1)] at hi
    rw [ab_upn _ _ (by omega)]
    exact h i v hi
  · rw [List.getElem?_append_right (by simpa using h1)] at hi
    have h2 : i - st.reverse.length < 1 := (List.getElem?_eq_some_iff.mp hi).1
    have h3 : i = st.length := by simp at h2; omega
    subst h3
    simp at hi
    subst hi
    exact ab_upe _ _ _
theorem sp_stk_pop {stack : Int → Int64} {st : List Int64} {y : Int64} (h : sp_stk stack (y :: st)) : sp_stk stack st ∧ stack (st.length : Int) = y := by
  refine ⟨fun i z hi => ?_, ?_⟩
  · refine h i z ?_
    rw [List.reverse_cons, List.getElem?_append_left (by exact (List.getElem?_eq_some_iff.mp hi).1)]
    exact hi
  · refine h st.length y ?_
    rw [List.reverse_cons, List.getElem?_append_right (by simp)]
    simp
theorem ab_cmp0 (x y : Int64) : (ab_cmp x y < 0 ↔ x < y) ∧ (0 < ab_cmp x y ↔ y < x) ∧ (ab_cmp x y = 0 ↔ x = y) ∧ -1 ≤ ab_cmp x y ∧ ab_cmp x y ≤ 1 := by
  unfold ab_cmp
  by_cases h1 : x > y
  · rw [if_pos h1]
    have h1' : y < x := h1
    have h2 : ¬ x < y := Int64.not_lt.mpr (Int64.le_of_lt h1')
    have h3 : ¬ x = y := fun e => Int64.lt_irrefl (e ▸ h1')
    simp [h1', h2, h3]
  · rw [if_neg h1]
    have h1' : ¬ y < x := h1
    by_cases h2 : x = y
    · subst h2
      rw [if_pos rfl]
      simp [Int64.lt_irrefl]
    · rw [if_neg h2]
      have h3 : x < y := Int64.lt_of_le_of_ne (Int64.not_lt.mp h1') h2
      simp [h1', h2, h3]
theorem de_Mo_isRule_0 : decode prog_14_method_44_code 0 = .ok (.iload_n 1, 1) := by decide +kernel
theorem de_Mo_isRule_1 : decode prog_14_method_44_code 1 = .ok (.ifCond .lt 15, 3) := by decide +kernel
theorem de_Mo_isRule_4 : decode prog_14_method_44_code 4 = .ok (.iload_n 1, 1) := by decide +kernel
theorem de_Mo_isRule_5 : decode prog_14_method_44_code 5 = .ok (.aload_n 0, 1) := by decide +kernel
theorem de_Mo_isRule_6 : decode prog_14_method_44_code 6 = .ok (.getfield 266, 3) := by decide +kernel
theorem de_Mo_isRule_9 : decode prog_14_method_44_code 9 = .ok (.if_icmp .ge 7, 3) := by decide +kernel
theorem de_Mo_isRule_12 : decode prog_14_method_44_code 12 = .ok (.iconst 1, 1) := by decide +kernel
theorem de_Mo_isRule_13 : decode prog_14_method_44_code 13 = .ok (.goto 4, 3) := by decide +kernel
theorem de_Mo_isRule_16 : decode prog_14_method_44_code 16 = .ok (.iconst 0, 1) := by decide +kernel
theorem de_Mo_isRule_17 : decode prog_14_method_44_code 17 = .ok (.ireturn, 1) := by decide +kernel
set_option maxRecDepth 10000 in
theorem co_Mo_isRule (hr : 0 ≤ rules ∧ rules ≤ 6) (k : Int) (hk : ab_in k) : ab_Mt g_G g_rs mt_Mo_isRule 0 0 0 [ab_R 0, ab_I k] (mo_W tape taped rules sign leng clause clauses read next wrong number text made deep lines opn opened stack top word said xx was undone kept sumOf faced slotAt dayAt row bestRow tMany tMost drawX images imageX isMade) (ab_is (some (ab_I (if 0 ≤ k ∧ k < rules then 1 else 0))) (mo_W tape taped rules sign leng clause clauses read next wrong number text made deep lines opn opened stack top word said xx was undone kept sumOf faced slotAt dayAt row bestRow tMany tMost drawX images imageX isMade)) := by
  refine ab_Mt.of rfl (Nat.le_of_ble_eq_true rfl) ?_
  show ab_Ev g_G g_rs mt_Mo_isRule _ _ _ 0 [some (ab_R 0), some (ab_I k)] [] _ _
  refine ev_iload_n de_Mo_isRule_0 rfl rfl ?_
  refine ev_if_lt (tgt := 16) de_Mo_isRule_1 (by decide) (by omega) (fun h1 => ?_) (fun h1 => ?_)
  · skip
    refine ev_iconst de_Mo_isRule_16 ?_
    exact ev_zreturn de_Mo_isRule_17 rfl (by omega) ⟨by first | rw [if_pos (by omega)] | rw [if_neg (by omega)], rfl⟩
  · skip
    refine ev_iload_n de_Mo_isRule_4 rfl rfl ?_
    refine ev_aload_n de_Mo_isRule_5 rfl rfl ?_
    refine ev_getfield de_Mo_isRule_6 rfl fl_Mo_266 rfl ?_
    refine ev_icmp_ge (tgt := 16) de_Mo_isRule_9 (by decide) (by omega) (by omega) (fun h9 => ?_) (fun h9 => ?_)
    · skip
      refine ev_iconst de_Mo_isRule_16 ?_
      exact ev_zreturn de_Mo_isRule_17 rfl (by omega) ⟨by first | rw [if_pos (by omega)] | rw [if_neg (by omega)], rfl⟩
    · skip
      refine ev_iconst de_Mo_isRule_12 ?_
      refine ev_goto (tgt := 17) de_Mo_isRule_13 (by decide) ?_
      exact ev_zreturn de_Mo_isRule_17 rfl (by omega) ⟨by first | rw [if_pos (by omega)] | rw [if_neg (by omega)], rfl⟩
theorem de_Mo_push_0 : decode prog_14_method_45_code 0 = .ok (.aload_n 0, 1) := by decide +kernel
theorem de_Mo_push_1 : decode prog_14_method_45_code 1 = .ok (.getfield 32, 3) := by decide +kernel
theorem de_Mo_push_4 : decode prog_14_method_45_code 4 = .ok (.aload_n 0, 1) := by decide +kernel
theorem de_Mo_push_5 : decode prog_14_method_45_code 5 = .ok (.getfield 275, 3) := by decide +kernel
theorem de_Mo_push_8 : decode prog_14_method_45_code 8 = .ok (.lload_n 1, 1) := by decide +kernel
theorem de_Mo_push_9 : decode prog_14_method_45_code 9 = .ok (.lastore, 1) := by decide +kernel
theorem de_Mo_push_10 : decode prog_14_method_45_code 10 = .ok (.aload_n 0, 1) := by decide +kernel
theorem de_Mo_push_11 : decode prog_14_method_45_code 11 = .ok (.dup, 1) := by decide +kernel
theorem de_Mo_push_12 : decode prog_14_method_45_code 12 = .ok (.getfield 275, 3) := by decide +kernel
theorem de_Mo_push_15 : decode prog_14_method_45_code 15 = .ok (.iconst 1, 1) := by decide +kernel
theorem de_Mo_push_16 : decode prog_14_method_45_code 16 = .ok (.iadd, 1) := by decide +kernel
theorem de_Mo_push_17 : decode prog_14_method_45_code 17 = .ok (.putfield 275, 3) := by decide +kernel
theorem de_Mo_push_20 : decode prog_14_method_45_code 20 = .ok (.return_, 1) := by decide +kernel
set_option maxRecDepth 10000 in
theorem co_Mo_push (ht : 0 ≤ top) (ht1 : top < 64) (v : Int64) : ab_Mt g_G g_rs mt_Mo_push 0 0 0 [ab_R 0, ab_J v] (mo_W tape taped rules sign leng clause clauses read next wrong number text made deep lines opn opened stack top word said xx was undone kept sumOf faced slotAt dayAt row bestRow tMany tMost drawX images imageX isMade) (ab_is none (mo_W tape taped rules sign leng clause clauses read next wrong number text made deep lines opn opened (ab_up stack top v) (top + 1) word said xx was undone kept sumOf faced slotAt dayAt row bestRow tMany tMost drawX images imageX isMade)) := by
  refine ab_Mt.of rfl (Nat.le_of_ble_eq_true rfl) ?_
  show ab_Ev g_G g_rs mt_Mo_push _ _ _ 0 [some (ab_R 0), some (ab_J v), none] [] _ _
  refine ev_aload_n de_Mo_push_0 rfl rfl ?_
  refine ev_getfield de_Mo_push_1 rfl fl_Mo_32 rfl ?_
  refine ev_aload_n de_Mo_push_4 rfl rfl ?_
  refine ev_getfield de_Mo_push_5 rfl fl_Mo_275 rfl ?_
  refine ev_lload_n de_Mo_push_8 rfl rfl ?_
  refine ev_lastore de_Mo_push_9 rfl (by omega) (by omega) (by omega) ?_
  refine ev_world (w' := mo_W _ _ _ _ _ _ _ _ _ _ _ _ _ _ _ _ _ _ _ _ _ _ _ _ _ _ _ _ _ _ _ _ _ _ _ _ _) rfl ?_
  refine ev_aload_n de_Mo_push_10 rfl rfl ?_
  refine ev_dup de_Mo_push_11 rfl ?_
  refine ev_getfield de_Mo_push_12 rfl fl_Mo_275 rfl ?_
  refine ev_iconst de_Mo_push_15 ?_
  refine ev_iadd de_Mo_push_16 ?_
  refine ev_putfield de_Mo_push_17 rfl (fp_Mo_275 _) (Nat.le_of_ble_eq_true rfl) trivial ?_
  refine ev_world (w' := mo_W _ _ _ _ _ _ _ _ _ _ _ _ _ _ _ _ _ _ _ _ _ _ _ _ _ _ _ _ _ _ _ _ _ _ _ _ _) rfl ?_
  exact ev_return de_Mo_push_20 rfl ⟨rfl, rfl⟩
theorem de_Mo_pop_0 : decode prog_14_method_46_code 0 = .ok (.aload_n 0, 1) := by decide +kernel
theorem de_Mo_pop_1 : decode prog_14_method_46_code 1 = .ok (.dup, 1) := by decide +kernel
theorem de_Mo_pop_2 : decode prog_14_method_46_code 2 = .ok (.getfield 275, 3) := by decide +kernel
theorem de_Mo_pop_5 : decode prog_14_method_46_code 5 = .ok (.iconst 1, 1) := by decide +kernel
theorem de_Mo_pop_6 : decode prog_14_method_46_code 6 = .ok (.isub, 1) := by decide +kernel
theorem de_Mo_pop_7 : decode prog_14_method_46_code 7 = .ok (.putfield 275, 3) := by decide +kernel
theorem de_Mo_pop_10 : decode prog_14_method_46_code 10 = .ok (.aload_n 0, 1) := by decide +kernel
theorem de_Mo_pop_11 : decode prog_14_method_46_code 11 = .ok (.getfield 32, 3) := by decide +kernel
theorem de_Mo_pop_14 : decode prog_14_method_46_code 14 = .ok (.aload_n 0, 1) := by decide +kernel
theorem de_Mo_pop_15 : decode prog_14_method_46_code 15 = .ok (.getfield 275, 3) := by decide +kernel
theorem de_Mo_pop_18 : decode prog_14_method_46_code 18 = .ok (.laload, 1) := by decide +kernel
theorem de_Mo_pop_19 : decode prog_14_method_46_code 19 = .ok (.lreturn, 1) := by decide +kernel
set_option maxRecDepth 10000 in
theorem co_Mo_pop (ht : 1 ≤ top) (ht1 : top ≤ 64) : ab_Mt g_G g_rs mt_Mo_pop 0 0 0 [ab_R 0] (mo_W tape taped rules sign leng clause clauses read next wrong number text made deep lines opn opened stack top word said xx was undone kept sumOf faced slotAt dayAt row bestRow tMany tMost drawX images imageX isMade) (ab_is (some (ab_J (stack (top - 1)))) (mo_W tape taped rules sign leng clause clauses read next wrong number text made deep lines opn opened stack (top - 1) word said xx was undone kept sumOf faced slotAt dayAt row bestRow tMany tMost drawX images imageX isMade)) := by
  refine ab_Mt.of rfl (Nat.le_of_ble_eq_true rfl) ?_
  show ab_Ev g_G g_rs mt_Mo_pop _ _ _ 0 [some (ab_R 0)] [] _ _
  refine ev_aload_n de_Mo_pop_0 rfl rfl ?_
  refine ev_dup de_Mo_pop_1 rfl ?_
  refine ev_getfield de_Mo_pop_2 rfl fl_Mo_275 rfl ?_
  refine ev_iconst de_Mo_pop_5 ?_
  refine ev_isub de_Mo_pop_6 ?_
  refine ev_putfield de_Mo_pop_7 rfl (fp_Mo_275 _) (Nat.le_of_ble_eq_true rfl) trivial ?_
  refine ev_world (w' := mo_W _ _ _ _ _ _ _ _ _ _ _ _ _ _ _ _ _ _ _ _ _ _ _ _ _ _ _ _ _ _ _ _ _ _ _ _ _) rfl ?_
  refine ev_aload_n de_Mo_pop_10 rfl rfl ?_
  refine ev_getfield de_Mo_pop_11 rfl fl_Mo_32 rfl ?_
  refine ev_aload_n de_Mo_pop_14 rfl rfl ?_
  refine ev_getfield de_Mo_pop_15 rfl fl_Mo_275 rfl ?_
  refine ev_laload de_Mo_pop_18 rfl (by omega) (by omega) (by omega) ?_
  exact ev_lreturn de_Mo_pop_19 rfl ⟨rfl, rfl⟩
theorem de_Mo_one_0 : decode prog_14_method_47_code 0 = .ok (.iload_n 0, 1) := by decide +kernel
theorem de_Mo_one_1 : decode prog_14_method_47_code 1 = .ok (.tableswitch 171 2 14 #[67, 71, 75, 79, 107, 119, 131, 143, 155, 171, 167, 171, 93], 67) := by decide +kernel
theorem de_Mo_one_68 : decode prog_14_method_47_code 68 = .ok (.lload_n 1, 1) := by decide +kernel
theorem de_Mo_one_69 : decode prog_14_method_47_code 69 = .ok (.lload_n 3, 1) := by decide +kernel
theorem de_Mo_one_70 : decode prog_14_method_47_code 70 = .ok (.ladd, 1) := by decide +kernel
theorem de_Mo_one_71 : decode prog_14_method_47_code 71 = .ok (.lreturn, 1) := by decide +kernel
theorem de_Mo_one_72 : decode prog_14_method_47_code 72 = .ok (.lload_n 1, 1) := by decide +kernel
theorem de_Mo_one_73 : decode prog_14_method_47_code 73 = .ok (.lload_n 3, 1) := by decide +kernel
theorem de_Mo_one_74 : decode prog_14_method_47_code 74 = .ok (.lsub, 1) := by decide +kernel
theorem de_Mo_one_75 : decode prog_14_method_47_code 75 = .ok (.lreturn, 1) := by decide +kernel
theorem de_Mo_one_76 : decode prog_14_method_47_code 76 = .ok (.lload_n 1, 1) := by decide +kernel
theorem de_Mo_one_77 : decode prog_14_method_47_code 77 = .ok (.lload_n 3, 1) := by decide +kernel
theorem de_Mo_one_78 : decode prog_14_method_47_code 78 = .ok (.lmul, 1) := by decide +kernel
theorem de_Mo_one_79 : decode prog_14_method_47_code 79 = .ok (.lreturn, 1) := by decide +kernel
theorem de_Mo_one_80 : decode prog_14_method_47_code 80 = .ok (.lload_n 3, 1) := by decide +kernel
theorem de_Mo_one_81 : decode prog_14_method_47_code 81 = .ok (.lconst 0, 1) := by decide +kernel
theorem de_Mo_one_82 : decode prog_14_method_47_code 82 = .ok (.lcmp, 1) := by decide +kernel
theorem de_Mo_one_83 : decode prog_14_method_47_code 83 = .ok (.ifCond .ne 7, 3) := by decide +kernel
theorem de_Mo_one_86 : decode prog_14_method_47_code 86 = .ok (.lconst 0, 1) := by decide +kernel
theorem de_Mo_one_87 : decode prog_14_method_47_code 87 = .ok (.goto 6, 3) := by decide +kernel
theorem de_Mo_one_90 : decode prog_14_method_47_code 90 = .ok (.lload_n 1, 1) := by decide +kernel
theorem de_Mo_one_91 : decode prog_14_method_47_code 91 = .ok (.lload_n 3, 1) := by decide +kernel
theorem de_Mo_one_92 : decode prog_14_method_47_code 92 = .ok (.ldiv, 1) := by decide +kernel
theorem de_Mo_one_93 : decode prog_14_method_47_code 93 = .ok (.lreturn, 1) := by decide +kernel
theorem de_Mo_one_94 : decode prog_14_method_47_code 94 = .ok (.lload_n 3, 1) := by decide +kernel
theorem de_Mo_one_95 : decode prog_14_method_47_code 95 = .ok (.lconst 0, 1) := by decide +kernel
theorem de_Mo_one_96 : decode prog_14_method_47_code 96 = .ok (.lcmp, 1) := by decide +kernel
theorem de_Mo_one_97 : decode prog_14_method_47_code 97 = .ok (.ifCond .ne 7, 3) := by decide +kernel
theorem de_Mo_one_100 : decode prog_14_method_47_code 100 = .ok (.lconst 0, 1) := by decide +kernel
theorem de_Mo_one_101 : decode prog_14_method_47_code 101 = .ok (.goto 6, 3) := by decide +kernel
theorem de_Mo_one_104 : decode prog_14_method_47_code 104 = .ok (.lload_n 1, 1) := by decide +kernel
theorem de_Mo_one_105 : decode prog_14_method_47_code 105 = .ok (.lload_n 3, 1) := by decide +kernel
theorem de_Mo_one_106 : decode prog_14_method_47_code 106 = .ok (.lrem, 1) := by decide +kernel
theorem de_Mo_one_107 : decode prog_14_method_47_code 107 = .ok (.lreturn, 1) := by decide +kernel
theorem de_Mo_one_108 : decode prog_14_method_47_code 108 = .ok (.lload_n 1, 1) := by decide +kernel
theorem de_Mo_one_109 : decode prog_14_method_47_code 109 = .ok (.lload_n 3, 1) := by decide +kernel
theorem de_Mo_one_110 : decode prog_14_method_47_code 110 = .ok (.lcmp, 1) := by decide +kernel
theorem de_Mo_one_111 : decode prog_14_method_47_code 111 = .ok (.ifCond .ge 7, 3) := by decide +kernel
theorem de_Mo_one_114 : decode prog_14_method_47_code 114 = .ok (.lconst 1, 1) := by decide +kernel
theorem de_Mo_one_115 : decode prog_14_method_47_code 115 = .ok (.goto 4, 3) := by decide +kernel
theorem de_Mo_one_118 : decode prog_14_method_47_code 118 = .ok (.lconst 0, 1) := by decide +kernel
theorem de_Mo_one_119 : decode prog_14_method_47_code 119 = .ok (.lreturn, 1) := by decide +kernel
theorem de_Mo_one_120 : decode prog_14_method_47_code 120 = .ok (.lload_n 1, 1) := by decide +kernel
theorem de_Mo_one_121 : decode prog_14_method_47_code 121 = .ok (.lload_n 3, 1) := by decide +kernel
theorem de_Mo_one_122 : decode prog_14_method_47_code 122 = .ok (.lcmp, 1) := by decide +kernel
theorem de_Mo_one_123 : decode prog_14_method_47_code 123 = .ok (.ifCond .gt 7, 3) := by decide +kernel
theorem de_Mo_one_126 : decode prog_14_method_47_code 126 = .ok (.lconst 1, 1) := by decide +kernel
theorem de_Mo_one_127 : decode prog_14_method_47_code 127 = .ok (.goto 4, 3) := by decide +kernel
theorem de_Mo_one_130 : decode prog_14_method_47_code 130 = .ok (.lconst 0, 1) := by decide +kernel
theorem de_Mo_one_131 : decode prog_14_method_47_code 131 = .ok (.lreturn, 1) := by decide +kernel
theorem de_Mo_one_132 : decode prog_14_method_47_code 132 = .ok (.lload_n 1, 1) := by decide +kernel
theorem de_Mo_one_133 : decode prog_14_method_47_code 133 = .ok (.lload_n 3, 1) := by decide +kernel
theorem de_Mo_one_134 : decode prog_14_method_47_code 134 = .ok (.lcmp, 1) := by decide +kernel
theorem de_Mo_one_135 : decode prog_14_method_47_code 135 = .ok (.ifCond .ne 7, 3) := by decide +kernel
theorem de_Mo_one_138 : decode prog_14_method_47_code 138 = .ok (.lconst 1, 1) := by decide +kernel
theorem de_Mo_one_139 : decode prog_14_method_47_code 139 = .ok (.goto 4, 3) := by decide +kernel
theorem de_Mo_one_142 : decode prog_14_method_47_code 142 = .ok (.lconst 0, 1) := by decide +kernel
theorem de_Mo_one_143 : decode prog_14_method_47_code 143 = .ok (.lreturn, 1) := by decide +kernel
theorem de_Mo_one_144 : decode prog_14_method_47_code 144 = .ok (.lload_n 1, 1) := by decide +kernel
theorem de_Mo_one_145 : decode prog_14_method_47_code 145 = .ok (.lload_n 3, 1) := by decide +kernel
theorem de_Mo_one_146 : decode prog_14_method_47_code 146 = .ok (.lcmp, 1) := by decide +kernel
theorem de_Mo_one_147 : decode prog_14_method_47_code 147 = .ok (.ifCond .lt 7, 3) := by decide +kernel
theorem de_Mo_one_150 : decode prog_14_method_47_code 150 = .ok (.lconst 1, 1) := by decide +kernel
theorem de_Mo_one_151 : decode prog_14_method_47_code 151 = .ok (.goto 4, 3) := by decide +kernel
theorem de_Mo_one_154 : decode prog_14_method_47_code 154 = .ok (.lconst 0, 1) := by decide +kernel
theorem de_Mo_one_155 : decode prog_14_method_47_code 155 = .ok (.lreturn, 1) := by decide +kernel
theorem de_Mo_one_156 : decode prog_14_method_47_code 156 = .ok (.lload_n 1, 1) := by decide +kernel
theorem de_Mo_one_157 : decode prog_14_method_47_code 157 = .ok (.lload_n 3, 1) := by decide +kernel
theorem de_Mo_one_158 : decode prog_14_method_47_code 158 = .ok (.lcmp, 1) := by decide +kernel
theorem de_Mo_one_159 : decode prog_14_method_47_code 159 = .ok (.ifCond .le 7, 3) := by decide +kernel
theorem de_Mo_one_162 : decode prog_14_method_47_code 162 = .ok (.lconst 1, 1) := by decide +kernel
theorem de_Mo_one_163 : decode prog_14_method_47_code 163 = .ok (.goto 4, 3) := by decide +kernel
theorem de_Mo_one_166 : decode prog_14_method_47_code 166 = .ok (.lconst 0, 1) := by decide +kernel
theorem de_Mo_one_167 : decode prog_14_method_47_code 167 = .ok (.lreturn, 1) := by decide +kernel
theorem de_Mo_one_168 : decode prog_14_method_47_code 168 = .ok (.lload_n 1, 1) := by decide +kernel
theorem de_Mo_one_169 : decode prog_14_method_47_code 169 = .ok (.lload_n 3, 1) := by decide +kernel
theorem de_Mo_one_170 : decode prog_14_method_47_code 170 = .ok (.land, 1) := by decide +kernel
theorem de_Mo_one_171 : decode prog_14_method_47_code 171 = .ok (.lreturn, 1) := by decide +kernel
theorem de_Mo_one_172 : decode prog_14_method_47_code 172 = .ok (.lload_n 1, 1) := by decide +kernel
theorem de_Mo_one_173 : decode prog_14_method_47_code 173 = .ok (.lload_n 3, 1) := by decide +kernel
theorem de_Mo_one_174 : decode prog_14_method_47_code 174 = .ok (.lor, 1) := by decide +kernel
theorem de_Mo_one_175 : decode prog_14_method_47_code 175 = .ok (.lreturn, 1) := by decide +kernel
set_option maxRecDepth 10000 in
theorem co_Mo_one (w : ab_W) (s : Int) (hs : ab_in s) (x y : Int64) : ab_Mt g_G g_rs mt_Mo_one 0 0 0 [ab_I s, ab_J x, ab_J y] w (ab_is (some (ab_J (sp_one s x y))) w) := by
  refine ab_Mt.of rfl (Nat.le_of_ble_eq_true rfl) ?_
  show ab_Ev g_G g_rs mt_Mo_one _ _ _ 0 [some (ab_I s), some (ab_J x), none, some (ab_J y), none] [] _ _
  refine ev_iload_n de_Mo_one_0 rfl rfl ?_
  rcases (by omega : s < 2 ∨ 14 < s ∨ s = 2 ∨ s = 3 ∨ s = 4 ∨ s = 5 ∨ s = 6 ∨ s = 7 ∨ s = 8 ∨ s = 9 ∨ s = 10 ∨ s = 11 ∨ s = 12 ∨ s = 13 ∨ s = 14) with c | c | c | c | c | c | c | c | c | c | c | c | c | c | c
  · refine ev_tableOut (tgt := 172) de_Mo_one_1 (by omega) (by omega) (by decide) ?_
    refine ev_lload_n de_Mo_one_172 rfl rfl ?_
    refine ev_lload_n de_Mo_one_173 rfl rfl ?_
    refine ev_lor de_Mo_one_174 ?_
    exact ev_lreturn de_Mo_one_175 rfl ⟨by unfold sp_one; first | rfl | (rw [if_neg (by omega), if_neg (by omega), if_neg (by omega), if_neg (by omega), if_neg (by omega), if_neg (by omega), if_neg (by omega), if_neg (by omega), if_neg (by omega), if_neg (by omega), if_neg (by omega)]), rfl⟩
  · refine ev_tableOut (tgt := 172) de_Mo_one_1 (by omega) (by omega) (by decide) ?_
    refine ev_lload_n de_Mo_one_172 rfl rfl ?_
    refine ev_lload_n de_Mo_one_173 rfl rfl ?_
    refine ev_lor de_Mo_one_174 ?_
    exact ev_lreturn de_Mo_one_175 rfl ⟨by unfold sp_one; first | rfl | (rw [if_neg (by omega), if_neg (by omega), if_neg (by omega), if_neg (by omega), if_neg (by omega), if_neg (by omega), if_neg (by omega), if_neg (by omega), if_neg (by omega), if_neg (by omega), if_neg (by omega)]), rfl⟩
  · subst c
    refine ev_tableIn (off := 67) (tgt := 68) de_Mo_one_1 (by decide) (by decide) (by decide) rfl (by decide) ?_
    refine ev_lload_n de_Mo_one_68 rfl rfl ?_
    refine ev_lload_n de_Mo_one_69 rfl rfl ?_
    refine ev_ladd de_Mo_one_70 ?_
    exact ev_lreturn de_Mo_one_71 rfl ⟨by unfold sp_one; first | rfl | (simp [*]; done) | (simp_all; done), rfl⟩
  · subst c
    refine ev_tableIn (off := 71) (tgt := 72) de_Mo_one_1 (by decide) (by decide) (by decide) rfl (by decide) ?_
    refine ev_lload_n de_Mo_one_72 rfl rfl ?_
    refine ev_lload_n de_Mo_one_73 rfl rfl ?_
    refine ev_lsub de_Mo_one_74 ?_
    exact ev_lreturn de_Mo_one_75 rfl ⟨by unfold sp_one; first | rfl | (simp [*]; done) | (simp_all; done), rfl⟩
  · subst c
    refine ev_tableIn (off := 75) (tgt := 76) de_Mo_one_1 (by decide) (by decide) (by decide) rfl (by decide) ?_
    refine ev_lload_n de_Mo_one_76 rfl rfl ?_
    refine ev_lload_n de_Mo_one_77 rfl rfl ?_
    refine ev_lmul de_Mo_one_78 ?_
    exact ev_lreturn de_Mo_one_79 rfl ⟨by unfold sp_one; first | rfl | (simp [*]; done) | (simp_all; done), rfl⟩
  · subst c
    refine ev_tableIn (off := 79) (tgt := 80) de_Mo_one_1 (by decide) (by decide) (by decide) rfl (by decide) ?_
    refine ev_lload_n de_Mo_one_80 rfl rfl ?_
    refine ev_lconsti (n := 0) de_Mo_one_81 (by decide) ?_
    refine ev_lcmp de_Mo_one_82 ?_
    have q83 := ab_cmp0 y (Int64.ofInt 0)
    refine ev_if_ne (tgt := 90) de_Mo_one_83 (by decide) (by omega) (fun h83 => ?_) (fun h83 => ?_)
    · skip
      refine ev_lload_n de_Mo_one_90 rfl rfl ?_
      refine ev_lload_n de_Mo_one_91 rfl rfl ?_
      refine ev_ldiv de_Mo_one_92 (fun z => h83 (q83.2.2.1.mpr z)) ?_
      exact ev_lreturn de_Mo_one_93 rfl ⟨by show _ = some (ab_J (if y = 0 then 0 else x / y)); first | (rw [if_pos (show y = 0 from q83.2.2.1.mp h83)]; rfl) | rw [if_neg (fun z : y = 0 => h83 (q83.2.2.1.mpr z))], rfl⟩
    · skip
      refine ev_lconsti (n := 0) de_Mo_one_86 (by decide) ?_
      refine ev_goto (tgt := 93) de_Mo_one_87 (by decide) ?_
      exact ev_lreturn de_Mo_one_93 rfl ⟨by show _ = some (ab_J (if y = 0 then 0 else x / y)); first | (rw [if_pos (show y = 0 from q83.2.2.1.mp h83)]; rfl) | rw [if_neg (fun z : y = 0 => h83 (q83.2.2.1.mpr z))], rfl⟩
  · subst c
    refine ev_tableIn (off := 107) (tgt := 108) de_Mo_one_1 (by decide) (by decide) (by decide) rfl (by decide) ?_
    refine ev_lload_n de_Mo_one_108 rfl rfl ?_
    refine ev_lload_n de_Mo_one_109 rfl rfl ?_
    refine ev_lcmp de_Mo_one_110 ?_
    have q111 := ab_cmp0 x y
    refine ev_if_ge (tgt := 118) de_Mo_one_111 (by decide) (by omega) (fun h111 => ?_) (fun h111 => ?_)
    · skip
      refine ev_lconsti (n := 0) de_Mo_one_118 (by decide) ?_
      exact ev_lreturn de_Mo_one_119 rfl ⟨by show _ = some (ab_J (if x < y then 1 else 0)); first | (rw [if_pos (q111.1.mp (by omega))]; rfl) | (rw [if_neg (fun z => absurd (q111.1.mpr z) (by omega))]; rfl), rfl⟩
    · skip
      refine ev_lconsti (n := 1) de_Mo_one_114 (by decide) ?_
      refine ev_goto (tgt := 119) de_Mo_one_115 (by decide) ?_
      exact ev_lreturn de_Mo_one_119 rfl ⟨by show _ = some (ab_J (if x < y then 1 else 0)); first | (rw [if_pos (q111.1.mp (by omega))]; rfl) | (rw [if_neg (fun z => absurd (q111.1.mpr z) (by omega))]; rfl), rfl⟩
  · subst c
    refine ev_tableIn (off := 119) (tgt := 120) de_Mo_one_1 (by decide) (by decide) (by decide) rfl (by decide) ?_
    refine ev_lload_n de_Mo_one_120 rfl rfl ?_
    refine ev_lload_n de_Mo_one_121 rfl rfl ?_
    refine ev_lcmp de_Mo_one_122 ?_
    have q123 := ab_cmp0 x y
    refine ev_if_gt (tgt := 130) de_Mo_one_123 (by decide) (by omega) (fun h123 => ?_) (fun h123 => ?_)
    · skip
      refine ev_lconsti (n := 0) de_Mo_one_130 (by decide) ?_
      exact ev_lreturn de_Mo_one_131 rfl ⟨by show _ = some (ab_J (if x ≤ y then 1 else 0)); first | (rw [if_pos (Int64.not_lt.mp (fun z => absurd (q123.2.1.mpr z) (by omega)))]; rfl) | (rw [if_neg (fun z => absurd (q123.2.1.mp (by omega)) (Int64.not_lt.mpr z))]; rfl), rfl⟩
    · skip
      refine ev_lconsti (n := 1) de_Mo_one_126 (by decide) ?_
      refine ev_goto (tgt := 131) de_Mo_one_127 (by decide) ?_
      exact ev_lreturn de_Mo_one_131 rfl ⟨by show _ = some (ab_J (if x ≤ y then 1 else 0)); first | (rw [if_pos (Int64.not_lt.mp (fun z => absurd (q123.2.1.mpr z) (by omega)))]; rfl) | (rw [if_neg (fun z => absurd (q123.2.1.mp (by omega)) (Int64.not_lt.mpr z))]; rfl), rfl⟩
  · subst c
    refine ev_tableIn (off := 131) (tgt := 132) de_Mo_one_1 (by decide) (by decide) (by decide) rfl (by decide) ?_
    refine ev_lload_n de_Mo_one_132 rfl rfl ?_
    refine ev_lload_n de_Mo_one_133 rfl rfl ?_
    refine ev_lcmp de_Mo_one_134 ?_
    have q135 := ab_cmp0 x y
    refine ev_if_ne (tgt := 142) de_Mo_one_135 (by decide) (by omega) (fun h135 => ?_) (fun h135 => ?_)
    · skip
      refine ev_lconsti (n := 0) de_Mo_one_142 (by decide) ?_
      exact ev_lreturn de_Mo_one_143 rfl ⟨by show _ = some (ab_J (if x = y then 1 else 0)); first | (rw [if_pos (q135.2.2.1.mp (by omega))]; rfl) | (rw [if_neg (fun z => absurd (q135.2.2.1.mpr z) (by omega))]; rfl), rfl⟩
    · skip
      refine ev_lconsti (n := 1) de_Mo_one_138 (by decide) ?_
      refine ev_goto (tgt := 143) de_Mo_one_139 (by decide) ?_
      exact ev_lreturn de_Mo_one_143 rfl ⟨by show _ = some (ab_J (if x = y then 1 else 0)); first | (rw [if_pos (q135.2.2.1.mp (by omega))]; rfl) | (rw [if_neg (fun z => absurd (q135.2.2.1.mpr z) (by omega))]; rfl), rfl⟩
  · subst c
    refine ev_tableIn (off := 143) (tgt := 144) de_Mo_one_1 (by decide) (by decide) (by decide) rfl (by decide) ?_
    refine ev_lload_n de_Mo_one_144 rfl rfl ?_
    refine ev_lload_n de_Mo_one_145 rfl rfl ?_
    refine ev_lcmp de_Mo_one_146 ?_
    have q147 := ab_cmp0 x y
    refine ev_if_lt (tgt := 154) de_Mo_one_147 (by decide) (by omega) (fun h147 => ?_) (fun h147 => ?_)
    · skip
      refine ev_lconsti (n := 0) de_Mo_one_154 (by decide) ?_
      exact ev_lreturn de_Mo_one_155 rfl ⟨by show _ = some (ab_J (if y ≤ x then 1 else 0)); first | (rw [if_pos (Int64.not_lt.mp (fun z => absurd (q147.1.mpr z) (by omega)))]; rfl) | (rw [if_neg (fun z => absurd (q147.1.mp (by omega)) (Int64.not_lt.mpr z))]; rfl), rfl⟩
    · skip
      refine ev_lconsti (n := 1) de_Mo_one_150 (by decide) ?_
      refine ev_goto (tgt := 155) de_Mo_one_151 (by decide) ?_
      exact ev_lreturn de_Mo_one_155 rfl ⟨by show _ = some (ab_J (if y ≤ x then 1 else 0)); first | (rw [if_pos (Int64.not_lt.mp (fun z => absurd (q147.1.mpr z) (by omega)))]; rfl) | (rw [if_neg (fun z => absurd (q147.1.mp (by omega)) (Int64.not_lt.mpr z))]; rfl), rfl⟩
  · subst c
    refine ev_tableIn (off := 155) (tgt := 156) de_Mo_one_1 (by decide) (by decide) (by decide) rfl (by decide) ?_
    refine ev_lload_n de_Mo_one_156 rfl rfl ?_
    refine ev_lload_n de_Mo_one_157 rfl rfl ?_
    refine ev_lcmp de_Mo_one_158 ?_
    have q159 := ab_cmp0 x y
    refine ev_if_le (tgt := 166) de_Mo_one_159 (by decide) (by omega) (fun h159 => ?_) (fun h159 => ?_)
    · skip
      refine ev_lconsti (n := 0) de_Mo_one_166 (by decide) ?_
      exact ev_lreturn de_Mo_one_167 rfl ⟨by show _ = some (ab_J (if y < x then 1 else 0)); first | (rw [if_pos (q159.2.1.mp (by omega))]; rfl) | (rw [if_neg (fun z => absurd (q159.2.1.mpr z) (by omega))]; rfl), rfl⟩
    · skip
      refine ev_lconsti (n := 1) de_Mo_one_162 (by decide) ?_
      refine ev_goto (tgt := 167) de_Mo_one_163 (by decide) ?_
      exact ev_lreturn de_Mo_one_167 rfl ⟨by show _ = some (ab_J (if y < x then 1 else 0)); first | (rw [if_pos (q159.2.1.mp (by omega))]; rfl) | (rw [if_neg (fun z => absurd (q159.2.1.mpr z) (by omega))]; rfl), rfl⟩
  · subst c
    refine ev_tableIn (off := 171) (tgt := 172) de_Mo_one_1 (by decide) (by decide) (by decide) rfl (by decide) ?_
    refine ev_lload_n de_Mo_one_172 rfl rfl ?_
    refine ev_lload_n de_Mo_one_173 rfl rfl ?_
    refine ev_lor de_Mo_one_174 ?_
    exact ev_lreturn de_Mo_one_175 rfl ⟨by unfold sp_one; first | rfl | (rw [if_neg (by omega), if_neg (by omega), if_neg (by omega), if_neg (by omega), if_neg (by omega), if_neg (by omega), if_neg (by omega), if_neg (by omega), if_neg (by omega), if_neg (by omega), if_neg (by omega)]), rfl⟩
  · subst c
    refine ev_tableIn (off := 167) (tgt := 168) de_Mo_one_1 (by decide) (by decide) (by decide) rfl (by decide) ?_
    refine ev_lload_n de_Mo_one_168 rfl rfl ?_
    refine ev_lload_n de_Mo_one_169 rfl rfl ?_
    refine ev_land de_Mo_one_170 ?_
    exact ev_lreturn de_Mo_one_171 rfl ⟨by unfold sp_one; first | rfl | (simp [*]; done) | (simp_all; done), rfl⟩
  · subst c
    refine ev_tableIn (off := 171) (tgt := 172) de_Mo_one_1 (by decide) (by decide) (by decide) rfl (by decide) ?_
    refine ev_lload_n de_Mo_one_172 rfl rfl ?_
    refine ev_lload_n de_Mo_one_173 rfl rfl ?_
    refine ev_lor de_Mo_one_174 ?_
    exact ev_lreturn de_Mo_one_175 rfl ⟨by unfold sp_one; first | rfl | (rw [if_neg (by omega), if_neg (by omega), if_neg (by omega), if_neg (by omega), if_neg (by omega), if_neg (by omega), if_neg (by omega), if_neg (by omega), if_neg (by omega), if_neg (by omega), if_neg (by omega)]), rfl⟩
  · subst c
    refine ev_tableIn (off := 93) (tgt := 94) de_Mo_one_1 (by decide) (by decide) (by decide) rfl (by decide) ?_
    refine ev_lload_n de_Mo_one_94 rfl rfl ?_
    refine ev_lconsti (n := 0) de_Mo_one_95 (by decide) ?_
    refine ev_lcmp de_Mo_one_96 ?_
    have q97 := ab_cmp0 y (Int64.ofInt 0)
    refine ev_if_ne (tgt := 104) de_Mo_one_97 (by decide) (by omega) (fun h97 => ?_) (fun h97 => ?_)
    · skip
      refine ev_lload_n de_Mo_one_104 rfl rfl ?_
      refine ev_lload_n de_Mo_one_105 rfl rfl ?_
      refine ev_lrem de_Mo_one_106 (fun z => h97 (q97.2.2.1.mpr z)) ?_
      exact ev_lreturn de_Mo_one_107 rfl ⟨by show _ = some (ab_J (if y = 0 then 0 else x - x / y * y)); first | (rw [if_pos (show y = 0 from q97.2.2.1.mp h97)]; rfl) | rw [if_neg (fun z : y = 0 => h97 (q97.2.2.1.mpr z))], rfl⟩
    · skip
      refine ev_lconsti (n := 0) de_Mo_one_100 (by decide) ?_
      refine ev_goto (tgt := 107) de_Mo_one_101 (by decide) ?_
      exact ev_lreturn de_Mo_one_107 rfl ⟨by show _ = some (ab_J (if y = 0 then 0 else x - x / y * y)); first | (rw [if_pos (show y = 0 from q97.2.2.1.mp h97)]; rfl) | rw [if_neg (fun z : y = 0 => h97 (q97.2.2.1.mpr z))], rfl⟩
theorem sp_and15 {o : Int} (h0 : 0 ≤ o) (h1 : o ≤ 2147483647) : ab_iand o 15 = o % 16 := by
  rw [ab_iand_nat h0 h1 (by decide) (by decide)]
  show ((o.toNat &&& 15 : Nat) : Int) = _
  rw [show o.toNat &&& 15 = o.toNat % 16 from Nat.and_two_pow_sub_one_eq_mod o.toNat 4]
  omega
theorem sp_rk_s {word : Int → Int64} {code : Int → Int} {n : Nat} {i : Int} {st : List Int64} {r : List Int64} (h : sp_rk word code (n + 1) i st = some r) : ∃ st', sp_op word (code i) st = some st' ∧ st'.length ≤ 60 ∧ sp_rk word code n (i + 1) st' = some r := by
  rw [sp_rk] at h
  cases ho : sp_op word (code i) st with
  | none => rw [ho] at h; cases h
  | some st' =>
    rw [ho] at h
    dsimp only at h
    by_cases hl : st'.length ≤ 60
    · rw [if_pos hl] at h; exact ⟨st', rfl, hl, h⟩
    · rw [if_neg hl] at h; cases h
theorem sp_op_in {word : Int → Int64} {o : Int} {st st' : List Int64} (h : sp_op word o st = some st') : 0 ≤ o ∧ o ≤ 2000000 := by
  unfold sp_op at h
  by_cases c : 0 ≤ o ∧ o ≤ 2000000
  · exact c
  · rw [if_neg c] at h; cases h
theorem sp_op_0 {word : Int → Int64} {o : Int} {st st' : List Int64} (h : sp_op word o st = some st') (h0 : o % 16 = 0) : st' = Int64.ofInt (o / 16) :: st := by
  have c := sp_op_in h
  unfold sp_op at h
  rw [if_pos c, if_pos h0] at h
  exact (Option.some.inj h).symm
theorem sp_op_1 {word : Int → Int64} {o : Int} {st st' : List Int64} (h : sp_op word o st = some st') (h0 : o % 16 = 1) : o / 16 ≤ 11 ∧ st' = word (o / 16) :: st := by
  have c := sp_op_in h
  unfold sp_op at h
  rw [if_pos c, if_neg (by omega), if_pos h0] at h
  by_cases d : o / 16 ≤ 11
  · rw [if_pos d] at h; exact ⟨d, (Option.some.inj h).symm⟩
  · rw [if_neg d] at h; cases h
theorem sp_op_11 {word : Int → Int64} {o : Int} {st st' : List Int64} (h : sp_op word o st = some st') (h0 : o % 16 = 11) : ∃ y r, st = y :: r ∧ st' = (1 - y) :: r := by
  have c := sp_op_in h
  unfold sp_op at h
  rw [if_pos c, if_neg (by omega), if_neg (by omega), if_pos h0] at h
  cases st with
  | nil => cases h
  | cons y r => exact ⟨y, r, rfl, (Option.some.inj h).symm⟩
theorem sp_op_2 {word : Int → Int64} {o : Int} {st st' : List Int64} (h : sp_op word o st = some st') (h0 : ¬ o % 16 = 0) (h1 : ¬ o % 16 = 1) (h2 : ¬ o % 16 = 11) : ∃ y x r, st = y :: x :: r ∧ st' = sp_one (o % 16) x y :: r := by
  have c := sp_op_in h
  unfold sp_op at h
  rw [if_pos c, if_neg h0, if_neg h1, if_neg h2] at h
  rcases st with _ | ⟨y, _ | ⟨x, r⟩⟩
  · cases h
  · cases h
  · exact ⟨y, x, r, rfl, (Option.some.inj h).symm⟩
theorem de_Mo_reckons_0 : decode prog_14_method_48_code 0 = .ok (.aload_n 0, 1) := by decide +kernel
theorem de_Mo_reckons_1 : decode prog_14_method_48_code 1 = .ok (.iconst 0, 1) := by decide +kernel
theorem de_Mo_reckons_2 : decode prog_14_method_48_code 2 = .ok (.putfield 275, 3) := by decide +kernel
theorem de_Mo_reckons_5 : decode prog_14_method_48_code 5 = .ok (.iload_n 2, 1) := by decide +kernel
theorem de_Mo_reckons_6 : decode prog_14_method_48_code 6 = .ok (.istore 4, 2) := by decide +kernel
theorem de_Mo_reckons_8 : decode prog_14_method_48_code 8 = .ok (.iload 4, 2) := by decide +kernel
theorem de_Mo_reckons_10 : decode prog_14_method_48_code 10 = .ok (.iload_n 3, 1) := by decide +kernel
theorem de_Mo_reckons_11 : decode prog_14_method_48_code 11 = .ok (.if_icmp .ge 124, 3) := by decide +kernel
theorem de_Mo_reckons_14 : decode prog_14_method_48_code 14 = .ok (.aload_n 0, 1) := by decide +kernel
theorem de_Mo_reckons_15 : decode prog_14_method_48_code 15 = .ok (.getfield 13, 3) := by decide +kernel
theorem de_Mo_reckons_18 : decode prog_14_method_48_code 18 = .ok (.sipush 400, 3) := by decide +kernel
theorem de_Mo_reckons_21 : decode prog_14_method_48_code 21 = .ok (.iload_n 1, 1) := by decide +kernel
theorem de_Mo_reckons_22 : decode prog_14_method_48_code 22 = .ok (.imul, 1) := by decide +kernel
theorem de_Mo_reckons_23 : decode prog_14_method_48_code 23 = .ok (.iload 4, 2) := by decide +kernel
theorem de_Mo_reckons_25 : decode prog_14_method_48_code 25 = .ok (.iadd, 1) := by decide +kernel
theorem de_Mo_reckons_26 : decode prog_14_method_48_code 26 = .ok (.iaload, 1) := by decide +kernel
theorem de_Mo_reckons_27 : decode prog_14_method_48_code 27 = .ok (.bipush 15, 2) := by decide +kernel
theorem de_Mo_reckons_29 : decode prog_14_method_48_code 29 = .ok (.iand, 1) := by decide +kernel
theorem de_Mo_reckons_30 : decode prog_14_method_48_code 30 = .ok (.istore 5, 2) := by decide +kernel
theorem de_Mo_reckons_32 : decode prog_14_method_48_code 32 = .ok (.aload_n 0, 1) := by decide +kernel
theorem de_Mo_reckons_33 : decode prog_14_method_48_code 33 = .ok (.getfield 13, 3) := by decide +kernel
theorem de_Mo_reckons_36 : decode prog_14_method_48_code 36 = .ok (.sipush 400, 3) := by decide +kernel
theorem de_Mo_reckons_39 : decode prog_14_method_48_code 39 = .ok (.iload_n 1, 1) := by decide +kernel
theorem de_Mo_reckons_40 : decode prog_14_method_48_code 40 = .ok (.imul, 1) := by decide +kernel
theorem de_Mo_reckons_41 : decode prog_14_method_48_code 41 = .ok (.iload 4, 2) := by decide +kernel
theorem de_Mo_reckons_43 : decode prog_14_method_48_code 43 = .ok (.iadd, 1) := by decide +kernel
theorem de_Mo_reckons_44 : decode prog_14_method_48_code 44 = .ok (.iaload, 1) := by decide +kernel
theorem de_Mo_reckons_45 : decode prog_14_method_48_code 45 = .ok (.iconst 4, 1) := by decide +kernel
theorem de_Mo_reckons_46 : decode prog_14_method_48_code 46 = .ok (.ishr, 1) := by decide +kernel
theorem de_Mo_reckons_47 : decode prog_14_method_48_code 47 = .ok (.istore 6, 2) := by decide +kernel
theorem de_Mo_reckons_49 : decode prog_14_method_48_code 49 = .ok (.iload 5, 2) := by decide +kernel
theorem de_Mo_reckons_51 : decode prog_14_method_48_code 51 = .ok (.ifCond .ne 13, 3) := by decide +kernel
theorem de_Mo_reckons_54 : decode prog_14_method_48_code 54 = .ok (.aload_n 0, 1) := by decide +kernel
theorem de_Mo_reckons_55 : decode prog_14_method_48_code 55 = .ok (.iload 6, 2) := by decide +kernel
theorem de_Mo_reckons_57 : decode prog_14_method_48_code 57 = .ok (.i2l, 1) := by decide +kernel
theorem de_Mo_reckons_58 : decode prog_14_method_48_code 58 = .ok (.invokevirtual 278, 3) := by decide +kernel
theorem de_Mo_reckons_61 : decode prog_14_method_48_code 61 = .ok (.goto 68, 3) := by decide +kernel
theorem de_Mo_reckons_64 : decode prog_14_method_48_code 64 = .ok (.iload 5, 2) := by decide +kernel
theorem de_Mo_reckons_66 : decode prog_14_method_48_code 66 = .ok (.iconst 1, 1) := by decide +kernel
theorem de_Mo_reckons_67 : decode prog_14_method_48_code 67 = .ok (.if_icmp .ne 17, 3) := by decide +kernel
theorem de_Mo_reckons_70 : decode prog_14_method_48_code 70 = .ok (.aload_n 0, 1) := by decide +kernel
theorem de_Mo_reckons_71 : decode prog_14_method_48_code 71 = .ok (.aload_n 0, 1) := by decide +kernel
theorem de_Mo_reckons_72 : decode prog_14_method_48_code 72 = .ok (.getfield 36, 3) := by decide +kernel
theorem de_Mo_reckons_75 : decode prog_14_method_48_code 75 = .ok (.iload 6, 2) := by decide +kernel
theorem de_Mo_reckons_77 : decode prog_14_method_48_code 77 = .ok (.laload, 1) := by decide +kernel
theorem de_Mo_reckons_78 : decode prog_14_method_48_code 78 = .ok (.invokevirtual 278, 3) := by decide +kernel
theorem de_Mo_reckons_81 : decode prog_14_method_48_code 81 = .ok (.goto 48, 3) := by decide +kernel
theorem de_Mo_reckons_84 : decode prog_14_method_48_code 84 = .ok (.iload 5, 2) := by decide +kernel
theorem de_Mo_reckons_86 : decode prog_14_method_48_code 86 = .ok (.bipush 11, 2) := by decide +kernel
theorem de_Mo_reckons_88 : decode prog_14_method_48_code 88 = .ok (.if_icmp .ne 16, 3) := by decide +kernel
theorem de_Mo_reckons_91 : decode prog_14_method_48_code 91 = .ok (.aload_n 0, 1) := by decide +kernel
theorem de_Mo_reckons_92 : decode prog_14_method_48_code 92 = .ok (.lconst 1, 1) := by decide +kernel
theorem de_Mo_reckons_93 : decode prog_14_method_48_code 93 = .ok (.aload_n 0, 1) := by decide +kernel
theorem de_Mo_reckons_94 : decode prog_14_method_48_code 94 = .ok (.invokevirtual 282, 3) := by decide +kernel
theorem de_Mo_reckons_97 : decode prog_14_method_48_code 97 = .ok (.lsub, 1) := by decide +kernel
theorem de_Mo_reckons_98 : decode prog_14_method_48_code 98 = .ok (.invokevirtual 278, 3) := by decide +kernel
theorem de_Mo_reckons_101 : decode prog_14_method_48_code 101 = .ok (.goto 28, 3) := by decide +kernel
theorem de_Mo_reckons_104 : decode prog_14_method_48_code 104 = .ok (.aload_n 0, 1) := by decide +kernel
theorem de_Mo_reckons_105 : decode prog_14_method_48_code 105 = .ok (.invokevirtual 282, 3) := by decide +kernel
theorem de_Mo_reckons_108 : decode prog_14_method_48_code 108 = .ok (.lstore 7, 2) := by decide +kernel
theorem de_Mo_reckons_110 : decode prog_14_method_48_code 110 = .ok (.aload_n 0, 1) := by decide +kernel
theorem de_Mo_reckons_111 : decode prog_14_method_48_code 111 = .ok (.invokevirtual 282, 3) := by decide +kernel
theorem de_Mo_reckons_114 : decode prog_14_method_48_code 114 = .ok (.lstore 9, 2) := by decide +kernel
theorem de_Mo_reckons_116 : decode prog_14_method_48_code 116 = .ok (.aload_n 0, 1) := by decide +kernel
theorem de_Mo_reckons_117 : decode prog_14_method_48_code 117 = .ok (.iload 5, 2) := by decide +kernel
theorem de_Mo_reckons_119 : decode prog_14_method_48_code 119 = .ok (.lload 9, 2) := by decide +kernel
theorem de_Mo_reckons_121 : decode prog_14_method_48_code 121 = .ok (.lload 7, 2) := by decide +kernel
theorem de_Mo_reckons_123 : decode prog_14_method_48_code 123 = .ok (.invokestatic 286, 3) := by decide +kernel
theorem de_Mo_reckons_126 : decode prog_14_method_48_code 126 = .ok (.invokevirtual 278, 3) := by decide +kernel
theorem de_Mo_reckons_129 : decode prog_14_method_48_code 129 = .ok (.iinc 4 1, 3) := by decide +kernel
theorem de_Mo_reckons_132 : decode prog_14_method_48_code 132 = .ok (.goto (-124), 3) := by decide +kernel
theorem de_Mo_reckons_135 : decode prog_14_method_48_code 135 = .ok (.aload_n 0, 1) := by decide +kernel
theorem de_Mo_reckons_136 : decode prog_14_method_48_code 136 = .ok (.invokevirtual 282, 3) := by decide +kernel
theorem de_Mo_reckons_139 : decode prog_14_method_48_code 139 = .ok (.lreturn, 1) := by decide +kernel
set_option maxRecDepth 10000 in
theorem lo_Mo_reckons (tt bb ee : Int) (ht0 : 0 ≤ tt) (ht1 : tt ≤ 5) (hb0 : 0 ≤ bb) (he1 : ee ≤ 400) (z : Int64) : ∀ (n : Nat) (i : Int) (st : List Int64) (stack : Int → Int64) (l5 l6 l7 l8 l9 l10 : Option ab_V) (x5 : ab_l2 (some l5) = false) (x6 : ab_l2 (some l6) = false) (x8 : ab_l2 (some l8) = false), bb ≤ i → i ≤ ee → ee < i + n → sp_stk stack st → st.length ≤ 60 → sp_rk word (fun j => sign (400 * tt + j)) (ee - i).toNat i st = some [z] → ab_Ev g_G g_rs mt_Mo_reckons 1 0 0 8 [some (ab_R 0), some (ab_I tt), some (ab_I bb), some (ab_I ee), some (ab_I i), l5, l6, l7, l8, l9, l10] [] (mo_W tape taped rules sign leng clause clauses read next wrong number text made deep lines opn opened (stack) ((st.length : Int)) word said xx was undone kept sumOf faced slotAt dayAt row bestRow tMany tMost drawX images imageX isMade) (fun r w2 => r = some (ab_J z) ∧ ∃ S T, w2 = (mo_W tape taped rules sign leng clause clauses read next wrong number text made deep lines opn opened (S) (T) word said xx was undone kept sumOf faced slotAt dayAt row bestRow tMany tMost drawX images imageX isMade)) := by
  intro n
  induction n with
  | zero =>
    intro i st stack l5 l6 l7 l8 l9 l10 x5 x6 x8
    intro g1 g2 g3; omega
  | succ n ih =>
    intro i st stack l5 l6 l7 l8 l9 l10 x5 x6 x8
    intro g1 g2 g3 hst hl0 hr
    refine ev_iload de_Mo_reckons_8 rfl ?_
    refine ev_iload_n de_Mo_reckons_10 rfl rfl ?_
    refine ev_icmp_ge (tgt := 135) de_Mo_reckons_11 (by decide) (by omega) (by omega) (fun h11 => ?_) (fun h11 => ?_)
    · skip
      rw [show (ee - i).toNat = 0 by omega] at hr
      have e : st = [z] := Option.some.inj hr
      subst e
      have hpp := sp_stk_pop hst
      refine ev_aload_n de_Mo_reckons_135 rfl rfl ?_
      refine ev_vv (ci := 11) de_Mo_reckons_136 (co_Mo_pop (by simp) (by simp)) kb_Mo_282 ⟨im_Mo_pop, se_Mo_pop⟩ rfl rfl rfl (Nat.le_of_ble_eq_true rfl) (by decide) rfl ?_
      refine ev_top (show _ = ab_J z from congrArg (fun v => Sum.inr (Sum.inl v)) hpp.2) ?_
      exact ev_lreturn de_Mo_reckons_139 rfl ⟨rfl, _, _, rfl⟩
    · skip
      rw [show (ee - i).toNat = (ee - (i + 1)).toNat + 1 by omega] at hr
      obtain ⟨st2, hop, hl2, hr2⟩ := sp_rk_s hr
      have hin := sp_op_in hop
      have hin : 0 ≤ sign (400 * tt + i) ∧ sign (400 * tt + i) ≤ 2000000 := hin
      refine ev_aload_n de_Mo_reckons_14 rfl rfl ?_
      refine ev_getfield de_Mo_reckons_15 rfl fl_Mo_13 rfl ?_
      refine ev_sipush de_Mo_reckons_18 rfl ?_
      refine ev_iload_n de_Mo_reckons_21 rfl rfl ?_
      refine ev_imul de_Mo_reckons_22 ?_
      refine ev_iload de_Mo_reckons_23 rfl ?_
      refine ev_iadd de_Mo_reckons_25 ?_
      refine ev_iaload de_Mo_reckons_26 rfl (by omega) (by omega) (by omega) ?_
      refine ev_bipush de_Mo_reckons_27 rfl ?_
      refine ev_iand de_Mo_reckons_29 ?_
      refine ev_top (congrArg Sum.inl (sp_and15 (by omega) (by omega))) ?_
      refine ev_istore (l' := [_, _, _, _, _, _, _, _, _, _, _]) de_Mo_reckons_30 (Nat.le_of_ble_eq_true rfl) rfl ?_
      refine ev_aload_n de_Mo_reckons_32 rfl rfl ?_
      refine ev_getfield de_Mo_reckons_33 rfl fl_Mo_13 rfl ?_
      refine ev_sipush de_Mo_reckons_36 rfl ?_
      refine ev_iload_n de_Mo_reckons_39 rfl rfl ?_
      refine ev_imul de_Mo_reckons_40 ?_
      refine ev_iload de_Mo_reckons_41 rfl ?_
      refine ev_iadd de_Mo_reckons_43 ?_
      refine ev_iaload de_Mo_reckons_44 rfl (by omega) (by omega) (by omega) ?_
      refine ev_iconst de_Mo_reckons_45 ?_
      refine ev_ishr de_Mo_reckons_46 (by omega) (by omega) (by omega) ?_
      refine ev_top (show _ = ab_I (sign (400 * tt + i) / 16) from rfl) ?_
      refine ev_istore (l' := [_, _, _, _, _, _, _, _, _, _, _]) de_Mo_reckons_47 (Nat.le_of_ble_eq_true rfl) rfl ?_
      refine ev_iload de_Mo_reckons_49 rfl ?_
      refine ev_if_ne (tgt := 64) de_Mo_reckons_51 (by decide) (by omega) (fun h51 => ?_) (fun h51 => ?_)
      · skip
        refine ev_iload de_Mo_reckons_64 rfl ?_
        refine ev_iconst de_Mo_reckons_66 ?_
        refine ev_icmp_ne (tgt := 84) de_Mo_reckons_67 (by decide) (by omega) (by omega) (fun h67 => ?_) (fun h67 => ?_)
        · skip
          refine ev_iload de_Mo_reckons_84 rfl ?_
          refine ev_bipush de_Mo_reckons_86 rfl ?_
          refine ev_icmp_ne (tgt := 104) de_Mo_reckons_88 (by decide) (by omega) (by omega) (fun h88 => ?_) (fun h88 => ?_)
          · skip
            obtain ⟨y, x, r, hy, hop2⟩ := sp_op_2 hop h51 h67 h88
            subst hy
            subst hop2
            rw [List.length_cons] at hl0 hl2
            rw [List.length_cons] at hl0
            have hpp := sp_stk_pop hst
            have hpq := sp_stk_pop hpp.1
            refine ev_aload_n de_Mo_reckons_104 rfl rfl ?_
            refine ev_vv (ci := 11) de_Mo_reckons_105 (co_Mo_pop (by rw [List.length_cons, List.length_cons]; omega) (by rw [List.length_cons, List.length_cons]; omega)) kb_Mo_282 ⟨im_Mo_pop, se_Mo_pop⟩ rfl rfl rfl (Nat.le_of_ble_eq_true rfl) (by decide) rfl ?_
            rw [show ((List.length (y :: x :: r) : Int) - 1) = ((x :: r).length : Int) by rw [List.length_cons, List.length_cons]; omega]
            refine ev_top (show _ = ab_J y from by rw [hpp.2]) ?_
            refine ev_lstore (l' := [_, _, _, _, _, _, _, _, _, _, _]) de_Mo_reckons_108 (Nat.le_of_ble_eq_true rfl) rfl ?_
            refine ev_aload_n de_Mo_reckons_110 rfl rfl ?_
            refine ev_vv (ci := 11) de_Mo_reckons_111 (co_Mo_pop (by rw [List.length_cons]; omega) (by rw [List.length_cons]; omega)) kb_Mo_282 ⟨im_Mo_pop, se_Mo_pop⟩ rfl rfl rfl (Nat.le_of_ble_eq_true rfl) (by decide) rfl ?_
            rw [show ((List.length (x :: r) : Int) - 1) = (r.length : Int) by rw [List.length_cons]; omega]
            refine ev_top (show _ = ab_J x from by rw [hpq.2]) ?_
            refine ev_lstore (l' := [_, _, _, _, _, _, _, _, _, _, _]) de_Mo_reckons_114 (Nat.le_of_ble_eq_true rfl) rfl ?_
            refine ev_aload_n de_Mo_reckons_116 rfl rfl ?_
            refine ev_iload de_Mo_reckons_117 rfl ?_
            refine ev_lload de_Mo_reckons_119 rfl ?_
            refine ev_lload de_Mo_reckons_121 rfl ?_
            refine ev_sv de_Mo_reckons_123 (co_Mo_one _ _ (by omega) _ _) kb_Mo_286 sc_Mo_one rfl (Nat.le_of_ble_eq_true rfl) (by decide) rfl ?_
            refine ev_vn (ci := 11) de_Mo_reckons_126 (co_Mo_push (by omega) (by omega) _) kb_Mo_278 ⟨im_Mo_push, se_Mo_push⟩ rfl rfl rfl (Nat.le_of_ble_eq_true rfl) (by decide) rfl ?_
            refine ev_world (w' := (mo_W tape taped rules sign leng clause clauses read next wrong number text made deep lines opn opened (_) (((sp_one (sign (400 * tt + i) % 16) x y :: r).length : Int)) word said xx was undone kept sumOf faced slotAt dayAt row bestRow tMany tMost drawX images imageX isMade)) (by rw [show ((((sp_one (sign (400 * tt + i) % 16) x y :: r).length : Nat)) : Int) = (r.length : Int) + 1 from rfl]) ?_
            have hs2 := sp_stk_push hpq.1 (sp_one (sign (400 * tt + i) % 16) x y)
            refine ev_iinc (l' := [_, _, _, _, _, _, _, _, _, _, _]) de_Mo_reckons_129 rfl rfl ?_
            refine ev_goto (tgt := 8) de_Mo_reckons_132 (by decide) ?_
            exact ih (i + 1) _ _ _ _ _ _ _ _ rfl rfl (by first | rfl | assumption) (by omega) (by omega) (by omega) hs2 hl2 hr2
          · skip
            obtain ⟨y, r, hy, hop2⟩ := sp_op_11 hop h88
            subst hy
            subst hop2
            rw [List.length_cons] at hl0 hl2
            have hpp := sp_stk_pop hst
            refine ev_aload_n de_Mo_reckons_91 rfl rfl ?_
            refine ev_lconsti (n := 1) de_Mo_reckons_92 (by decide) ?_
            refine ev_aload_n de_Mo_reckons_93 rfl rfl ?_
            refine ev_vv (ci := 11) de_Mo_reckons_94 (co_Mo_pop (by rw [List.length_cons]; omega) (by rw [List.length_cons]; omega)) kb_Mo_282 ⟨im_Mo_pop, se_Mo_pop⟩ rfl rfl rfl (Nat.le_of_ble_eq_true rfl) (by decide) rfl ?_
            rw [show ((List.length (y :: r) : Int) - 1) = (r.length : Int) by rw [List.length_cons]; omega]
            refine ev_top (show _ = ab_J y from by rw [hpp.2]) ?_
            refine ev_lsub de_Mo_reckons_97 ?_
            refine ev_vn (ci := 11) de_Mo_reckons_98 (co_Mo_push (by omega) (by omega) _) kb_Mo_278 ⟨im_Mo_push, se_Mo_push⟩ rfl rfl rfl (Nat.le_of_ble_eq_true rfl) (by decide) rfl ?_
            refine ev_world (w' := (mo_W tape taped rules sign leng clause clauses read next wrong number text made deep lines opn opened (_) ((((1 - y) :: r).length : Int)) word said xx was undone kept sumOf faced slotAt dayAt row bestRow tMany tMost drawX images imageX isMade)) (by rw [show (((((1 - y) :: r).length : Nat)) : Int) = (r.length : Int) + 1 from rfl]) ?_
            have hs2 := sp_stk_push hpp.1 (1 - y)
            refine ev_goto (tgt := 129) de_Mo_reckons_101 (by decide) ?_
            refine ev_iinc (l' := [_, _, _, _, _, _, _, _, _, _, _]) de_Mo_reckons_129 rfl rfl ?_
            refine ev_goto (tgt := 8) de_Mo_reckons_132 (by decide) ?_
            exact ih (i + 1) _ _ _ _ _ _ _ _ rfl rfl (by first | rfl | assumption) (by omega) (by omega) (by omega) hs2 hl2 hr2
        · skip
          obtain ⟨hw11, hop2⟩ := sp_op_1 hop h67
          subst hop2
          refine ev_aload_n de_Mo_reckons_70 rfl rfl ?_
          refine ev_aload_n de_Mo_reckons_71 rfl rfl ?_
          refine ev_getfield de_Mo_reckons_72 rfl fl_Mo_36 rfl ?_
          refine ev_iload de_Mo_reckons_75 rfl ?_
          refine ev_laload de_Mo_reckons_77 rfl (by omega) (by omega) (by omega) ?_
          refine ev_vn (ci := 11) de_Mo_reckons_78 (co_Mo_push (by omega) (by omega) _) kb_Mo_278 ⟨im_Mo_push, se_Mo_push⟩ rfl rfl rfl (Nat.le_of_ble_eq_true rfl) (by decide) rfl ?_
          refine ev_world (w' := (mo_W tape taped rules sign leng clause clauses read next wrong number text made deep lines opn opened (_) (((word (sign (400 * tt + i) / 16) :: st).length : Int)) word said xx was undone kept sumOf faced slotAt dayAt row bestRow tMany tMost drawX images imageX isMade)) (by rw [show ((((word (sign (400 * tt + i) / 16) :: st).length : Nat)) : Int) = (st.length : Int) + 1 from rfl]) ?_
          have hs2 := sp_stk_push hst (word (sign (400 * tt + i) / 16))
          refine ev_goto (tgt := 129) de_Mo_reckons_81 (by decide) ?_
          refine ev_iinc (l' := [_, _, _, _, _, _, _, _, _, _, _]) de_Mo_reckons_129 rfl rfl ?_
          refine ev_goto (tgt := 8) de_Mo_reckons_132 (by decide) ?_
          exact ih (i + 1) _ _ _ _ _ _ _ _ rfl rfl (by first | rfl | assumption) (by omega) (by omega) (by omega) hs2 hl2 hr2
      · skip
        have hop2 := sp_op_0 hop h51
        subst hop2
        refine ev_aload_n de_Mo_reckons_54 rfl rfl ?_
        refine ev_iload de_Mo_reckons_55 rfl ?_
        refine ev_i2l de_Mo_reckons_57 (by omega) ?_
        refine ev_vn (ci := 11) de_Mo_reckons_58 (co_Mo_push (by omega) (by omega) _) kb_Mo_278 ⟨im_Mo_push, se_Mo_push⟩ rfl rfl rfl (Nat.le_of_ble_eq_true rfl) (by decide) rfl ?_
        refine ev_world (w' := (mo_W tape taped rules sign leng clause clauses read next wrong number text made deep lines opn opened (_) (((Int64.ofInt (sign (400 * tt + i) / 16) :: st).length : Int)) word said xx was undone kept sumOf faced slotAt dayAt row bestRow tMany tMost drawX images imageX isMade)) (by rw [show ((((Int64.ofInt (sign (400 * tt + i) / 16) :: st).length : Nat)) : Int) = (st.length : Int) + 1 from rfl]) ?_
        have hs2 := sp_stk_push hst (Int64.ofInt (sign (400 * tt + i) / 16))
        refine ev_goto (tgt := 129) de_Mo_reckons_61 (by decide) ?_
        refine ev_iinc (l' := [_, _, _, _, _, _, _, _, _, _, _]) de_Mo_reckons_129 rfl rfl ?_
        refine ev_goto (tgt := 8) de_Mo_reckons_132 (by decide) ?_
        exact ih (i + 1) _ _ _ _ _ _ _ _ rfl rfl (by first | rfl | assumption) (by omega) (by omega) (by omega) hs2 hl2 hr2
end MO
