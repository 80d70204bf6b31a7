/-! the Machine, exactly -/
theorem sp_set_tb (g : Int → Int) : ∀ n k : Nat, (sp_set g n).testBit k = (decide (k < n) && decide (¬ g (k : Int) = 0))
  | 0, k => by
    show Nat.testBit 0 k = _
    rw [Nat.zero_testBit]
    simp
  | n + 1, k => by
    show (sp_set g n ||| (if g (n : Int) = 0 then 0 else 2 ^ n)).testBit k = _
    rw [Nat.testBit_or, sp_set_tb g n k]
    by_cases h : g (n : Int) = 0
    · rw [if_pos h, Nat.zero_testBit, Bool.or_false]
      by_cases hk : k = n
      · subst hk; simp [h]
      · have e : (k < n) ↔ (k < n + 1) := by omega
        simp [e]
    · rw [if_neg h, Nat.testBit_two_pow]
      by_cases hk : k = n
      · subst hk; simp [h]
      · have e : (k < n) ↔ (k < n + 1) := by omega
        have e2 : ¬ n = k := fun z => hk z.symm
        simp [e, e2]
theorem sp_sum_cg {g h : Int → Int} : ∀ k : Nat, (∀ j : Nat, j < k → g (j : Int) = h (j : Int)) → sp_sum g k = sp_sum h k
  | 0, _ => rfl
  | k + 1, e => by
    show sp_sum g k + g (k : Int) = sp_sum h k + h (k : Int)
    rw [sp_sum_cg k (fun j hj => e j (by omega)), e k (by omega)]
theorem cs_sv_eq (f : Int → Int) : cs_sv f (f 1).toNat = sp_votesOf f (sp_whoStay f) := by
  unfold cs_sv sp_votesOf sp_whoStay
  refine sp_sum_cg _ (fun j hj => ?_)
  show (if sp_wantsI f (j : Int) = 1 then f (53 + (j : Int)) else 0) = if (sp_set (sp_wantsI f) (f 1).toNat).testBit ((j : Int).toNat) = true then f (53 + (j : Int)) else 0
  rw [Int.toNat_natCast, sp_set_tb]
  rcases sp_wantsI_01 f (j : Int) with h | h
  · rw [if_neg (by omega)]; simp [h]
  · rw [if_pos h]; simp [h, hj]
def cs_wd (f : Int → Int) (k : Int) : Int := if k = 0 then f 5 else if k = 1 then f 6 else if k = 2 then f 4 else if k = 3 then sp_rateNow f else if k = 4 then f (34 + f 4) else if k = 5 then sp_allLike f else if k = 6 then sp_best (sp_likesOf f) (f 1).toNat else if k = 7 then sp_lst (sp_likesOf f) (f 1).toNat else if k = 8 then sp_votesOf f (sp_whoStay f) else if k = 9 then sp_votesOf f (sp_every f) else if k = 10 then sp_atGates f else f 8
theorem cs_wd_wf (f : Int → Int) {k : Int} (h0 : 0 ≤ k) (h1 : k ≤ 11) : Int64.ofInt (cs_wd f k) = sp_wf f k := by
  rcases (by omega : k = 0 ∨ k = 1 ∨ k = 2 ∨ k = 3 ∨ k = 4 ∨ k = 5 ∨ k = 6 ∨ k = 7 ∨ k = 8 ∨ k = 9 ∨ k = 10 ∨ k = 11) with rfl | rfl | rfl | rfl | rfl | rfl | rfl | rfl | rfl | rfl | rfl | rfl <;> rfl
def vm_go (word : Int → Int64) : List Int → List Int64 → Option Int
  | [], _ => some 0
  | o :: l, st => if o = -34 then (match st with
      | y :: _ => some (sp_clamp y)
      | _ => none)
    else if o = -35 then (match st with
      | y :: x :: r => if y = 0 then vm_go word l r else some (sp_clamp x)
      | _ => none)
    else match vm_1 word o st with
      | some st' => vm_go word l st'
      | none => none
section VG
variable {word : Int → Int64} {l : List Int} {st : List Int64} {z x : Int}
theorem vg_1 (h1 : ¬ x = -34) (h2 : ¬ x = -35) (h : vm_go word (x :: l) st = some z) : ∃ st', vm_1 word x st = some st' ∧ vm_go word l st' = some z := by
  unfold vm_go at h
  rw [if_neg h1, if_neg h2] at h
  rcases he : vm_1 word x st with _ | s
  · rw [he] at h; cases h
  · rw [he] at h; exact ⟨s, rfl, h⟩
theorem vg_num (h0 : 0 ≤ x) (h : vm_go word (x :: l) st = some z) : st.length < 32 ∧ vm_go word l (Int64.ofInt x :: st) = some z := by
  obtain ⟨s, h1, h2⟩ := vg_1 (by omega) (by omega) h
  unfold vm_1 at h1
  rw [if_pos h0] at h1
  split at h1
  · cases h1
    exact ⟨by assumption, h2⟩
  · cases h1
theorem vg_wd (h0 : x < 0) (h3 : -12 ≤ x) (h : vm_go word (x :: l) st = some z) : st.length < 32 ∧ vm_go word l (word (-1 - x) :: st) = some z := by
  obtain ⟨s, h1, h2⟩ := vg_1 (by omega) (by omega) h
  unfold vm_1 at h1
  rw [if_neg (by omega), if_pos h3] at h1
  split at h1
  · cases h1
    exact ⟨by assumption, h2⟩
  · cases h1
theorem vg_not (h : vm_go word (-33 :: l) st = some z) : ∃ y r, st = y :: r ∧ vm_go word l ((if y = 0 then 1 else 0) :: r) = some z := by
  obtain ⟨s, h1, h2⟩ := vg_1 (by decide) (by decide) h
  unfold vm_1 at h1
  rw [if_neg (by decide), if_neg (by decide), if_pos rfl] at h1
  rcases st with _ | ⟨y, r⟩
  · cases h1
  · cases h1
    exact ⟨y, r, rfl, h2⟩
theorem vg_turn (h : vm_go word (-34 :: l) st = some z) : ∃ y r, st = y :: r ∧ z = sp_clamp y := by
  unfold vm_go at h
  rw [if_pos rfl] at h
  rcases st with _ | ⟨y, r⟩
  · cases h
  · exact ⟨y, r, rfl, (Option.some.inj h).symm⟩
theorem vg_if (h : vm_go word (-35 :: l) st = some z) : ∃ y x r, st = y :: x :: r ∧ ((y = 0 ∧ vm_go word l r = some z) ∨ (¬ y = 0 ∧ z = sp_clamp x)) := by
  unfold vm_go at h
  rw [if_neg (by decide), if_pos rfl] at h
  rcases st with _ | ⟨y, _ | ⟨x, r⟩⟩
  · cases h
  · cases h
  · dsimp only at h
    refine ⟨y, x, r, rfl, ?_⟩
    by_cases c : y = 0
    · rw [if_pos c] at h; exact Or.inl ⟨c, h⟩
    · rw [if_neg c] at h; exact Or.inr ⟨c, (Option.some.inj h).symm⟩
theorem vg_bin (h0 : x < -12) (h1 : ¬ x = -33) (h2 : ¬ x = -34) (h3 : ¬ x = -35) (h : vm_go word (x :: l) st = some z) : ∃ y q r, st = y :: q :: r ∧ vm_go word l (sp_one (cs_sg x) q y :: r) = some z := by
  obtain ⟨s, h4, h5⟩ := vg_1 h2 h3 h
  unfold vm_1 at h4
  rw [if_neg (by omega), if_neg (by omega), if_neg h1] at h4
  rcases st with _ | ⟨y, _ | ⟨q, r⟩⟩
  · cases h4
  · cases h4
  · cases h4
    exact ⟨y, q, r, rfl, h5⟩
theorem vg_end {ls : List Int} {k : Nat} (hk : ls.length ≤ k) (h : vm_go word (ls.drop k) st = some z) : z = 0 := by
  rw [List.drop_eq_nil_of_le hk] at h
  exact (Option.some.inj h).symm
theorem vg_at {ls : List Int} {k : Nat} (hk : k < ls.length) (h : vm_go word (ls.drop k) st = some z) : ∃ x, ls[k]? = some x ∧ vm_go word (x :: ls.drop (k + 1)) st = some z := ⟨ls[k], List.getElem?_eq_getElem hk, by rw [List.drop_eq_getElem_cons hk] at h; exact h⟩
end VG
theorem ab_cmp_in (x y : Int64) : ab_in (ab_cmp x y) := by have h := ab_cmp0 x y; omega
theorem cs_held (v : Int64) : (if (if v < Int64.ofInt 3 then v else Int64.ofInt 3) < Int64.ofInt (-3) then Int64.ofInt (-3) else (if v < Int64.ofInt 3 then v else Int64.ofInt 3)).toInt32.toInt = sp_clamp v := by
  unfold sp_clamp
  have e3 : (Int64.ofInt 3) = 3 := by decide
  have em : (Int64.ofInt (-3)) = -3 := by decide
  rw [e3, em]
  by_cases h1 : v < -3
  · have h2 : v < 3 := Int64.lt_trans h1 (by decide)
    rw [if_pos h2, if_pos h1, if_pos h1]
    decide
  · rw [if_neg h1]
    by_cases h2 : 3 < v
    · have h3 : ¬ v < 3 := Int64.not_lt.mpr (Int64.le_of_lt h2)
      rw [if_neg h3, if_neg (by decide), if_pos h2]
      decide
    · rw [if_neg h2]
      by_cases h3 : v < 3
      · rw [if_pos h3, if_neg h1]
      · have h4 : v = 3 := Int64.le_antisymm (Int64.not_lt.mp h2) (Int64.not_lt.mp h3)
        subst h4
        decide
theorem de_Ma_held_0 : decode prog_5_method_3_code 0 = .ok (.ldc2_w 49, 3) := by decide +kernel
theorem de_Ma_held_3 : decode prog_5_method_3_code 3 = .ok (.ldc2_w 51, 3) := by decide +kernel
theorem de_Ma_held_6 : decode prog_5_method_3_code 6 = .ok (.lload_n 0, 1) := by decide +kernel
theorem de_Ma_held_7 : decode prog_5_method_3_code 7 = .ok (.invokestatic 53, 3) := by decide +kernel
theorem de_Ma_held_10 : decode prog_5_method_3_code 10 = .ok (.invokestatic 59, 3) := by decide +kernel
theorem de_Ma_held_13 : decode prog_5_method_3_code 13 = .ok (.l2i, 1) := by decide +kernel
theorem de_Ma_held_14 : decode prog_5_method_3_code 14 = .ok (.ireturn, 1) := by decide +kernel
set_option maxHeartbeats 4000000 in
set_option maxRecDepth 10000 in
theorem co_Ma_held (w : ab_W) (v : Int64) : ab_Mt g_G g_rs mt_Ma_held 1 0 0 [ab_J v] w (ab_is (some (ab_I (sp_clamp v))) w) := by
  refine ab_Mt.of rfl (Nat.le_of_ble_eq_true rfl) ?_
  show ab_Ev g_G g_rs mt_Ma_held _ _ _ 0 [some (ab_J v), none] [] _ _
  refine ev_ldc2i (n := -3) de_Ma_held_0 cn_Ma_49 (by decide) ?_
  refine ev_ldc2i (n := 3) de_Ma_held_3 cn_Ma_51 (by decide) ?_
  refine ev_lload_n de_Ma_held_6 rfl rfl ?_
  refine ev_mmin_long de_Ma_held_7 mk_Ma_53 (Nat.le_of_ble_eq_true rfl) (by decide) ?_
  refine ev_mmax_long de_Ma_held_10 mk_Ma_59 (Nat.le_of_ble_eq_true rfl) (by decide) ?_
  refine ev_l2i de_Ma_held_13 ?_
  exact ev_ireturn de_Ma_held_14 rfl ⟨congrArg (fun z => some (ab_I z)) (by first | exact cs_held v | (rw [← cs_held v]; (repeat' split) <;> first | rfl | (exfalso; simp_all))), rfl⟩
theorem de_Ma_joined_0 : decode prog_5_method_7_code 0 = .ok (.iload_n 0, 1) := by decide +kernel
theorem de_Ma_joined_1 : decode prog_5_method_7_code 1 = .ok (.tableswitch 178 (-31) (-21) #[174, 159, 144, 129, 114, 99, 85, 71, 67, 63, 59], 59) := by decide +kernel
theorem de_Ma_joined_60 : decode prog_5_method_7_code 60 = .ok (.lload_n 1, 1) := by decide +kernel
theorem de_Ma_joined_61 : decode prog_5_method_7_code 61 = .ok (.lload_n 3, 1) := by decide +kernel
theorem de_Ma_joined_62 : decode prog_5_method_7_code 62 = .ok (.ladd, 1) := by decide +kernel
theorem de_Ma_joined_63 : decode prog_5_method_7_code 63 = .ok (.lreturn, 1) := by decide +kernel
theorem de_Ma_joined_64 : decode prog_5_method_7_code 64 = .ok (.lload_n 1, 1) := by decide +kernel
theorem de_Ma_joined_65 : decode prog_5_method_7_code 65 = .ok (.lload_n 3, 1) := by decide +kernel
theorem de_Ma_joined_66 : decode prog_5_method_7_code 66 = .ok (.lsub, 1) := by decide +kernel
theorem de_Ma_joined_67 : decode prog_5_method_7_code 67 = .ok (.lreturn, 1) := by decide +kernel
theorem de_Ma_joined_68 : decode prog_5_method_7_code 68 = .ok (.lload_n 1, 1) := by decide +kernel
theorem de_Ma_joined_69 : decode prog_5_method_7_code 69 = .ok (.lload_n 3, 1) := by decide +kernel
theorem de_Ma_joined_70 : decode prog_5_method_7_code 70 = .ok (.lmul, 1) := by decide +kernel
theorem de_Ma_joined_71 : decode prog_5_method_7_code 71 = .ok (.lreturn, 1) := by decide +kernel
theorem de_Ma_joined_72 : decode prog_5_method_7_code 72 = .ok (.lload_n 3, 1) := by decide +kernel
theorem de_Ma_joined_73 : decode prog_5_method_7_code 73 = .ok (.lconst 0, 1) := by decide +kernel
theorem de_Ma_joined_74 : decode prog_5_method_7_code 74 = .ok (.lcmp, 1) := by decide +kernel
theorem de_Ma_joined_75 : decode prog_5_method_7_code 75 = .ok (.ifCond .ne 7, 3) := by decide +kernel
theorem de_Ma_joined_78 : decode prog_5_method_7_code 78 = .ok (.lconst 0, 1) := by decide +kernel
theorem de_Ma_joined_79 : decode prog_5_method_7_code 79 = .ok (.goto 6, 3) := by decide +kernel
theorem de_Ma_joined_82 : decode prog_5_method_7_code 82 = .ok (.lload_n 1, 1) := by decide +kernel
theorem de_Ma_joined_83 : decode prog_5_method_7_code 83 = .ok (.lload_n 3, 1) := by decide +kernel
theorem de_Ma_joined_84 : decode prog_5_method_7_code 84 = .ok (.ldiv, 1) := by decide +kernel
theorem de_Ma_joined_85 : decode prog_5_method_7_code 85 = .ok (.lreturn, 1) := by decide +kernel
theorem de_Ma_joined_86 : decode prog_5_method_7_code 86 = .ok (.lload_n 3, 1) := by decide +kernel
theorem de_Ma_joined_87 : decode prog_5_method_7_code 87 = .ok (.lconst 0, 1) := by decide +kernel
theorem de_Ma_joined_88 : decode prog_5_method_7_code 88 = .ok (.lcmp, 1) := by decide +kernel
theorem de_Ma_joined_89 : decode prog_5_method_7_code 89 = .ok (.ifCond .ne 7, 3) := by decide +kernel
theorem de_Ma_joined_92 : decode prog_5_method_7_code 92 = .ok (.lconst 0, 1) := by decide +kernel
theorem de_Ma_joined_93 : decode prog_5_method_7_code 93 = .ok (.goto 6, 3) := by decide +kernel
theorem de_Ma_joined_96 : decode prog_5_method_7_code 96 = .ok (.lload_n 1, 1) := by decide +kernel
theorem de_Ma_joined_97 : decode prog_5_method_7_code 97 = .ok (.lload_n 3, 1) := by decide +kernel
theorem de_Ma_joined_98 : decode prog_5_method_7_code 98 = .ok (.lrem, 1) := by decide +kernel
theorem de_Ma_joined_99 : decode prog_5_method_7_code 99 = .ok (.lreturn, 1) := by decide +kernel
theorem de_Ma_joined_100 : decode prog_5_method_7_code 100 = .ok (.lload_n 1, 1) := by decide +kernel
theorem de_Ma_joined_101 : decode prog_5_method_7_code 101 = .ok (.lload_n 3, 1) := by decide +kernel
theorem de_Ma_joined_102 : decode prog_5_method_7_code 102 = .ok (.lcmp, 1) := by decide +kernel
theorem de_Ma_joined_103 : decode prog_5_method_7_code 103 = .ok (.ifCond .ge 7, 3) := by decide +kernel
theorem de_Ma_joined_106 : decode prog_5_method_7_code 106 = .ok (.iconst 1, 1) := by decide +kernel
theorem de_Ma_joined_107 : decode prog_5_method_7_code 107 = .ok (.goto 4, 3) := by decide +kernel
theorem de_Ma_joined_110 : decode prog_5_method_7_code 110 = .ok (.iconst 0, 1) := by decide +kernel
theorem de_Ma_joined_111 : decode prog_5_method_7_code 111 = .ok (.invokestatic 37, 3) := by decide +kernel
theorem de_Ma_joined_114 : decode prog_5_method_7_code 114 = .ok (.lreturn, 1) := by decide +kernel
theorem de_Ma_joined_115 : decode prog_5_method_7_code 115 = .ok (.lload_n 1, 1) := by decide +kernel
theorem de_Ma_joined_116 : decode prog_5_method_7_code 116 = .ok (.lload_n 3, 1) := by decide +kernel
theorem de_Ma_joined_117 : decode prog_5_method_7_code 117 = .ok (.lcmp, 1) := by decide +kernel
theorem de_Ma_joined_118 : decode prog_5_method_7_code 118 = .ok (.ifCond .gt 7, 3) := by decide +kernel
theorem de_Ma_joined_121 : decode prog_5_method_7_code 121 = .ok (.iconst 1, 1) := by decide +kernel
theorem de_Ma_joined_122 : decode prog_5_method_7_code 122 = .ok (.goto 4, 3) := by decide +kernel
theorem de_Ma_joined_125 : decode prog_5_method_7_code 125 = .ok (.iconst 0, 1) := by decide +kernel
theorem de_Ma_joined_126 : decode prog_5_method_7_code 126 = .ok (.invokestatic 37, 3) := by decide +kernel
theorem de_Ma_joined_129 : decode prog_5_method_7_code 129 = .ok (.lreturn, 1) := by decide +kernel
theorem de_Ma_joined_130 : decode prog_5_method_7_code 130 = .ok (.lload_n 1, 1) := by decide +kernel
theorem de_Ma_joined_131 : decode prog_5_method_7_code 131 = .ok (.lload_n 3, 1) := by decide +kernel
theorem de_Ma_joined_132 : decode prog_5_method_7_code 132 = .ok (.lcmp, 1) := by decide +kernel
theorem de_Ma_joined_133 : decode prog_5_method_7_code 133 = .ok (.ifCond .ne 7, 3) := by decide +kernel
theorem de_Ma_joined_136 : decode prog_5_method_7_code 136 = .ok (.iconst 1, 1) := by decide +kernel
theorem de_Ma_joined_137 : decode prog_5_method_7_code 137 = .ok (.goto 4, 3) := by decide +kernel
theorem de_Ma_joined_140 : decode prog_5_method_7_code 140 = .ok (.iconst 0, 1) := by decide +kernel
theorem de_Ma_joined_141 : decode prog_5_method_7_code 141 = .ok (.invokestatic 37, 3) := by decide +kernel
theorem de_Ma_joined_144 : decode prog_5_method_7_code 144 = .ok (.lreturn, 1) := by decide +kernel
theorem de_Ma_joined_145 : decode prog_5_method_7_code 145 = .ok (.lload_n 1, 1) := by decide +kernel
theorem de_Ma_joined_146 : decode prog_5_method_7_code 146 = .ok (.lload_n 3, 1) := by decide +kernel
theorem de_Ma_joined_147 : decode prog_5_method_7_code 147 = .ok (.lcmp, 1) := by decide +kernel
theorem de_Ma_joined_148 : decode prog_5_method_7_code 148 = .ok (.ifCond .lt 7, 3) := by decide +kernel
theorem de_Ma_joined_151 : decode prog_5_method_7_code 151 = .ok (.iconst 1, 1) := by decide +kernel
theorem de_Ma_joined_152 : decode prog_5_method_7_code 152 = .ok (.goto 4, 3) := by decide +kernel
theorem de_Ma_joined_155 : decode prog_5_method_7_code 155 = .ok (.iconst 0, 1) := by decide +kernel
theorem de_Ma_joined_156 : decode prog_5_method_7_code 156 = .ok (.invokestatic 37, 3) := by decide +kernel
theorem de_Ma_joined_159 : decode prog_5_method_7_code 159 = .ok (.lreturn, 1) := by decide +kernel
theorem de_Ma_joined_160 : decode prog_5_method_7_code 160 = .ok (.lload_n 1, 1) := by decide +kernel
theorem de_Ma_joined_161 : decode prog_5_method_7_code 161 = .ok (.lload_n 3, 1) := by decide +kernel
theorem de_Ma_joined_162 : decode prog_5_method_7_code 162 = .ok (.lcmp, 1) := by decide +kernel
theorem de_Ma_joined_163 : decode prog_5_method_7_code 163 = .ok (.ifCond .le 7, 3) := by decide +kernel
theorem de_Ma_joined_166 : decode prog_5_method_7_code 166 = .ok (.iconst 1, 1) := by decide +kernel
theorem de_Ma_joined_167 : decode prog_5_method_7_code 167 = .ok (.goto 4, 3) := by decide +kernel
theorem de_Ma_joined_170 : decode prog_5_method_7_code 170 = .ok (.iconst 0, 1) := by decide +kernel
theorem de_Ma_joined_171 : decode prog_5_method_7_code 171 = .ok (.invokestatic 37, 3) := by decide +kernel
theorem de_Ma_joined_174 : decode prog_5_method_7_code 174 = .ok (.lreturn, 1) := by decide +kernel
theorem de_Ma_joined_175 : decode prog_5_method_7_code 175 = .ok (.lload_n 1, 1) := by decide +kernel
theorem de_Ma_joined_176 : decode prog_5_method_7_code 176 = .ok (.lload_n 3, 1) := by decide +kernel
theorem de_Ma_joined_177 : decode prog_5_method_7_code 177 = .ok (.land, 1) := by decide +kernel
theorem de_Ma_joined_178 : decode prog_5_method_7_code 178 = .ok (.lreturn, 1) := by decide +kernel
theorem de_Ma_joined_179 : decode prog_5_method_7_code 179 = .ok (.lload_n 1, 1) := by decide +kernel
theorem de_Ma_joined_180 : decode prog_5_method_7_code 180 = .ok (.lload_n 3, 1) := by decide +kernel
theorem de_Ma_joined_181 : decode prog_5_method_7_code 181 = .ok (.lor, 1) := by decide +kernel
theorem de_Ma_joined_182 : decode prog_5_method_7_code 182 = .ok (.lreturn, 1) := by decide +kernel
set_option maxHeartbeats 4000000 in
set_option maxRecDepth 10000 in
theorem co_Ma_joined (w : ab_W) (o : Int) (ho : -32 ≤ o) (ho2 : o ≤ -21) (x y : Int64) : ab_Mt g_G g_rs mt_Ma_joined 1 0 0 [ab_I o, ab_J x, ab_J y] w (ab_is (some (ab_J (sp_one (cs_sg o) x y))) w) := by
  refine ab_Mt.of rfl (Nat.le_of_ble_eq_true rfl) ?_
  show ab_Ev g_G g_rs mt_Ma_joined _ _ _ 0 [some (ab_I o), some (ab_J x), none, some (ab_J y), none] [] _ _
  refine ev_iload_n de_Ma_joined_0 rfl rfl ?_
  rcases (by omega : o < -31 ∨ -21 < o ∨ o = -31 ∨ o = -30 ∨ o = -29 ∨ o = -28 ∨ o = -27 ∨ o = -26 ∨ o = -25 ∨ o = -24 ∨ o = -23 ∨ o = -22 ∨ o = -21) with c | c | c | c | c | c | c | c | c | c | c | c | c
  · refine ev_tableOut (tgt := 179) de_Ma_joined_1 (by omega) (by omega) (by decide) ?_
    refine ev_lload_n de_Ma_joined_179 rfl rfl ?_
    refine ev_lload_n de_Ma_joined_180 rfl rfl ?_
    refine ev_lor de_Ma_joined_181 ?_
    exact ev_lreturn de_Ma_joined_182 rfl (by first | (exfalso; omega) | (exact ⟨congrArg (fun z => some (ab_J z)) (by rw [show o = -32 by omega]; rfl), rfl⟩))
  · refine ev_tableOut (tgt := 179) de_Ma_joined_1 (by omega) (by omega) (by decide) ?_
    refine ev_lload_n de_Ma_joined_179 rfl rfl ?_
    refine ev_lload_n de_Ma_joined_180 rfl rfl ?_
    refine ev_lor de_Ma_joined_181 ?_
    exact ev_lreturn de_Ma_joined_182 rfl (by first | (exfalso; omega) | (exact ⟨congrArg (fun z => some (ab_J z)) (by rw [show o = -32 by omega]; rfl), rfl⟩))
  · subst c
    refine ev_tableIn (off := 174) (tgt := 175) de_Ma_joined_1 (by decide) (by decide) (by decide) rfl (by decide) ?_
    refine ev_lload_n de_Ma_joined_175 rfl rfl ?_
    refine ev_lload_n de_Ma_joined_176 rfl rfl ?_
    refine ev_land de_Ma_joined_177 ?_
    exact ev_lreturn de_Ma_joined_178 rfl ⟨rfl, rfl⟩
  · subst c
    refine ev_tableIn (off := 159) (tgt := 160) de_Ma_joined_1 (by decide) (by decide) (by decide) rfl (by decide) ?_
    refine ev_lload_n de_Ma_joined_160 rfl rfl ?_
    refine ev_lload_n de_Ma_joined_161 rfl rfl ?_
    refine ev_lcmp de_Ma_joined_162 ?_
    have cc := ab_cmp0 x y
    refine ev_if_le (tgt := 170) de_Ma_joined_163 (by decide) (ab_cmp_in _ _) (fun h163 => ?_) (fun h163 => ?_)
    · skip
      refine ev_iconst de_Ma_joined_170 ?_
      refine ev_sv de_Ma_joined_171 (co_Ma_truth w _ (by decide)) kb_Ma_37 sc_Ma_truth rfl (Nat.le_of_ble_eq_true rfl) (by decide) rfl ?_
      exact ev_lreturn de_Ma_joined_174 rfl ⟨congrArg (fun z => some (ab_J z)) (by show _ = (if y < x then 1 else 0 : Int64); first | (rw [if_pos (show y < x by exact cc.2.1.mp (by omega))]; rfl) | (rw [if_neg (show ¬ (y < x) by exact fun z => absurd (cc.2.1.mpr z) (by omega))]; rfl)), rfl⟩
    · skip
      refine ev_iconst de_Ma_joined_166 ?_
      refine ev_goto (tgt := 171) de_Ma_joined_167 (by decide) ?_
      refine ev_sv de_Ma_joined_171 (co_Ma_truth w _ (by decide)) kb_Ma_37 sc_Ma_truth rfl (Nat.le_of_ble_eq_true rfl) (by decide) rfl ?_
      exact ev_lreturn de_Ma_joined_174 rfl ⟨congrArg (fun z => some (ab_J z)) (by show _ = (if y < x then 1 else 0 : Int64); first | (rw [if_pos (show y < x by exact cc.2.1.mp (by omega))]; rfl) | (rw [if_neg (show ¬ (y < x) by exact fun z => absurd (cc.2.1.mpr z) (by omega))]; rfl)), rfl⟩
  · subst c
    refine ev_tableIn (off := 144) (tgt := 145) de_Ma_joined_1 (by decide) (by decide) (by decide) rfl (by decide) ?_
    refine ev_lload_n de_Ma_joined_145 rfl rfl ?_
    refine ev_lload_n de_Ma_joined_146 rfl rfl ?_
    refine ev_lcmp de_Ma_joined_147 ?_
    have cc := ab_cmp0 x y
    refine ev_if_lt (tgt := 155) de_Ma_joined_148 (by decide) (ab_cmp_in _ _) (fun h148 => ?_) (fun h148 => ?_)
    · skip
      refine ev_iconst de_Ma_joined_155 ?_
      refine ev_sv de_Ma_joined_156 (co_Ma_truth w _ (by decide)) kb_Ma_37 sc_Ma_truth rfl (Nat.le_of_ble_eq_true rfl) (by decide) rfl ?_
      exact ev_lreturn de_Ma_joined_159 rfl ⟨congrArg (fun z => some (ab_J z)) (by show _ = (if y ≤ x then 1 else 0 : Int64); first | (rw [if_pos (show y ≤ x by exact Int64.not_lt.mp (fun z => absurd (cc.1.mpr z) (by omega)))]; rfl) | (rw [if_neg (show ¬ (y ≤ x) by exact fun z => absurd (cc.1.mp (by omega)) (Int64.not_lt.mpr z))]; rfl)), rfl⟩
    · skip
      refine ev_iconst de_Ma_joined_151 ?_
      refine ev_goto (tgt := 156) de_Ma_joined_152 (by decide) ?_
      refine ev_sv de_Ma_joined_156 (co_Ma_truth w _ (by decide)) kb_Ma_37 sc_Ma_truth rfl (Nat.le_of_ble_eq_true rfl) (by decide) rfl ?_
      exact ev_lreturn de_Ma_joined_159 rfl ⟨congrArg (fun z => some (ab_J z)) (by show _ = (if y ≤ x then 1 else 0 : Int64); first | (rw [if_pos (show y ≤ x by exact Int64.not_lt.mp (fun z => absurd (cc.1.mpr z) (by omega)))]; rfl) | (rw [if_neg (show ¬ (y ≤ x) by exact fun z => absurd (cc.1.mp (by omega)) (Int64.not_lt.mpr z))]; rfl)), rfl⟩
  · subst c
    refine ev_tableIn (off := 129) (tgt := 130) de_Ma_joined_1 (by decide) (by decide) (by decide) rfl (by decide) ?_
    refine ev_lload_n de_Ma_joined_130 rfl rfl ?_
    refine ev_lload_n de_Ma_joined_131 rfl rfl ?_
    refine ev_lcmp de_Ma_joined_132 ?_
    have cc := ab_cmp0 x y
    refine ev_if_ne (tgt := 140) de_Ma_joined_133 (by decide) (ab_cmp_in _ _) (fun h133 => ?_) (fun h133 => ?_)
    · skip
      refine ev_iconst de_Ma_joined_140 ?_
      refine ev_sv de_Ma_joined_141 (co_Ma_truth w _ (by decide)) kb_Ma_37 sc_Ma_truth rfl (Nat.le_of_ble_eq_true rfl) (by decide) rfl ?_
      exact ev_lreturn de_Ma_joined_144 rfl ⟨congrArg (fun z => some (ab_J z)) (by show _ = (if x = y then 1 else 0 : Int64); first | (rw [if_pos (show x = y by exact cc.2.2.1.mp (by omega))]; rfl) | (rw [if_neg (show ¬ (x = y) by exact fun z => absurd (cc.2.2.1.mpr z) (by omega))]; rfl)), rfl⟩
    · skip
      refine ev_iconst de_Ma_joined_136 ?_
      refine ev_goto (tgt := 141) de_Ma_joined_137 (by decide) ?_
      refine ev_sv de_Ma_joined_141 (co_Ma_truth w _ (by decide)) kb_Ma_37 sc_Ma_truth rfl (Nat.le_of_ble_eq_true rfl) (by decide) rfl ?_
      exact ev_lreturn de_Ma_joined_144 rfl ⟨congrArg (fun z => some (ab_J z)) (by show _ = (if x = y then 1 else 0 : Int64); first | (rw [if_pos (show x = y by exact cc.2.2.1.mp (by omega))]; rfl) | (rw [if_neg (show ¬ (x = y) by exact fun z => absurd (cc.2.2.1.mpr z) (by omega))]; rfl)), rfl⟩
  · subst c
    refine ev_tableIn (off := 114) (tgt := 115) de_Ma_joined_1 (by decide) (by decide) (by decide) rfl (by decide) ?_
    refine ev_lload_n de_Ma_joined_115 rfl rfl ?_
    refine ev_lload_n de_Ma_joined_116 rfl rfl ?_
    refine ev_lcmp de_Ma_joined_117 ?_
    have cc := ab_cmp0 x y
    refine ev_if_gt (tgt := 125) de_Ma_joined_118 (by decide) (ab_cmp_in _ _) (fun h118 => ?_) (fun h118 => ?_)
    · skip
      refine ev_iconst de_Ma_joined_125 ?_
      refine ev_sv de_Ma_joined_126 (co_Ma_truth w _ (by decide)) kb_Ma_37 sc_Ma_truth rfl (Nat.le_of_ble_eq_true rfl) (by decide) rfl ?_
      exact ev_lreturn de_Ma_joined_129 rfl ⟨congrArg (fun z => some (ab_J z)) (by show _ = (if x ≤ y then 1 else 0 : Int64); first | (rw [if_pos (show x ≤ y by exact Int64.not_lt.mp (fun z => absurd (cc.2.1.mpr z) (by omega)))]; rfl) | (rw [if_neg (show ¬ (x ≤ y) by exact fun z => absurd (cc.2.1.mp (by omega)) (Int64.not_lt.mpr z))]; rfl)), rfl⟩
    · skip
      refine ev_iconst de_Ma_joined_121 ?_
      refine ev_goto (tgt := 126) de_Ma_joined_122 (by decide) ?_
      refine ev_sv de_Ma_joined_126 (co_Ma_truth w _ (by decide)) kb_Ma_37 sc_Ma_truth rfl (Nat.le_of_ble_eq_true rfl) (by decide) rfl ?_
      exact ev_lreturn de_Ma_joined_129 rfl ⟨congrArg (fun z => some (ab_J z)) (by show _ = (if x ≤ y then 1 else 0 : Int64); first | (rw [if_pos (show x ≤ y by exact Int64.not_lt.mp (fun z => absurd (cc.2.1.mpr z) (by omega)))]; rfl) | (rw [if_neg (show ¬ (x ≤ y) by exact fun z => absurd (cc.2.1.mp (by omega)) (Int64.not_lt.mpr z))]; rfl)), rfl⟩
  · subst c
    refine ev_tableIn (off := 99) (tgt := 100) de_Ma_joined_1 (by decide) (by decide) (by decide) rfl (by decide) ?_
    refine ev_lload_n de_Ma_joined_100 rfl rfl ?_
    refine ev_lload_n de_Ma_joined_101 rfl rfl ?_
    refine ev_lcmp de_Ma_joined_102 ?_
    have cc := ab_cmp0 x y
    refine ev_if_ge (tgt := 110) de_Ma_joined_103 (by decide) (ab_cmp_in _ _) (fun h103 => ?_) (fun h103 => ?_)
    · skip
      refine ev_iconst de_Ma_joined_110 ?_
      refine ev_sv de_Ma_joined_111 (co_Ma_truth w _ (by decide)) kb_Ma_37 sc_Ma_truth rfl (Nat.le_of_ble_eq_true rfl) (by decide) rfl ?_
      exact ev_lreturn de_Ma_joined_114 rfl ⟨congrArg (fun z => some (ab_J z)) (by show _ = (if x < y then 1 else 0 : Int64); first | (rw [if_pos (show x < y by exact cc.1.mp (by omega))]; rfl) | (rw [if_neg (show ¬ (x < y) by exact fun z => absurd (cc.1.mpr z) (by omega))]; rfl)), rfl⟩
    · skip
      refine ev_iconst de_Ma_joined_106 ?_
      refine ev_goto (tgt := 111) de_Ma_joined_107 (by decide) ?_
      refine ev_sv de_Ma_joined_111 (co_Ma_truth w _ (by decide)) kb_Ma_37 sc_Ma_truth rfl (Nat.le_of_ble_eq_true rfl) (by decide) rfl ?_
      exact ev_lreturn de_Ma_joined_114 rfl ⟨congrArg (fun z => some (ab_J z)) (by show _ = (if x < y then 1 else 0 : Int64); first | (rw [if_pos (show x < y by exact cc.1.mp (by omega))]; rfl) | (rw [if_neg (show ¬ (x < y) by exact fun z => absurd (cc.1.mpr z) (by omega))]; rfl)), rfl⟩
  · subst c
    refine ev_tableIn (off := 85) (tgt := 86) de_Ma_joined_1 (by decide) (by decide) (by decide) rfl (by decide) ?_
    refine ev_lload_n de_Ma_joined_86 rfl rfl ?_
    refine ev_lconsti (n := 0) de_Ma_joined_87 (by decide) ?_
    refine ev_lcmp de_Ma_joined_88 ?_
    have cc := ab_cmp0 y (Int64.ofInt 0)
    have ez0 : Int64.ofInt 0 = 0 := by decide
    rw [ez0] at cc ⊢
    refine ev_if_ne (tgt := 96) de_Ma_joined_89 (by decide) (ab_cmp_in _ _) (fun h89 => ?_) (fun h89 => ?_)
    · skip
      refine ev_lload_n de_Ma_joined_96 rfl rfl ?_
      refine ev_lload_n de_Ma_joined_97 rfl rfl ?_
      refine ev_lrem de_Ma_joined_98 (fun z => h89 (cc.2.2.1.mpr z)) ?_
      exact ev_lreturn de_Ma_joined_99 rfl ⟨congrArg (fun z => some (ab_J z)) (by show _ = (if y = 0 then 0 else x - x / y * y); first | (rw [if_pos (cc.2.2.1.mp (by omega))]; rfl) | (rw [if_neg (fun z => h89 (cc.2.2.1.mpr z))])), rfl⟩
    · skip
      refine ev_lconsti (n := 0) de_Ma_joined_92 (by decide) ?_
      refine ev_goto (tgt := 99) de_Ma_joined_93 (by decide) ?_
      exact ev_lreturn de_Ma_joined_99 rfl ⟨congrArg (fun z => some (ab_J z)) (by show _ = (if y = 0 then 0 else x - x / y * y); first | (rw [if_pos (cc.2.2.1.mp (by omega))]; rfl) | (rw [if_neg (fun z => h89 (cc.2.2.1.mpr z))])), rfl⟩
  · subst c
    refine ev_tableIn (off := 71) (tgt := 72) de_Ma_joined_1 (by decide) (by decide) (by decide) rfl (by decide) ?_
    refine ev_lload_n de_Ma_joined_72 rfl rfl ?_
    refine ev_lconsti (n := 0) de_Ma_joined_73 (by decide) ?_
    refine ev_lcmp de_Ma_joined_74 ?_
    have cc := ab_cmp0 y (Int64.ofInt 0)
    have ez0 : Int64.ofInt 0 = 0 := by decide
    rw [ez0] at cc ⊢
    refine ev_if_ne (tgt := 82) de_Ma_joined_75 (by decide) (ab_cmp_in _ _) (fun h75 => ?_) (fun h75 => ?_)
    · skip
      refine ev_lload_n de_Ma_joined_82 rfl rfl ?_
      refine ev_lload_n de_Ma_joined_83 rfl rfl ?_
      refine ev_ldiv de_Ma_joined_84 (fun z => h75 (cc.2.2.1.mpr z)) ?_
      exact ev_lreturn de_Ma_joined_85 rfl ⟨congrArg (fun z => some (ab_J z)) (by show _ = (if y = 0 then 0 else x / y); first | (rw [if_pos (cc.2.2.1.mp (by omega))]; rfl) | (rw [if_neg (fun z => h75 (cc.2.2.1.mpr z))])), rfl⟩
    · skip
      refine ev_lconsti (n := 0) de_Ma_joined_78 (by decide) ?_
      refine ev_goto (tgt := 85) de_Ma_joined_79 (by decide) ?_
      exact ev_lreturn de_Ma_joined_85 rfl ⟨congrArg (fun z => some (ab_J z)) (by show _ = (if y = 0 then 0 else x / y); first | (rw [if_pos (cc.2.2.1.mp (by omega))]; rfl) | (rw [if_neg (fun z => h75 (cc.2.2.1.mpr z))])), rfl⟩
  · subst c
    refine ev_tableIn (off := 67) (tgt := 68) de_Ma_joined_1 (by decide) (by decide) (by decide) rfl (by decide) ?_
    refine ev_lload_n de_Ma_joined_68 rfl rfl ?_
    refine ev_lload_n de_Ma_joined_69 rfl rfl ?_
    refine ev_lmul de_Ma_joined_70 ?_
    exact ev_lreturn de_Ma_joined_71 rfl ⟨rfl, rfl⟩
  · subst c
    refine ev_tableIn (off := 63) (tgt := 64) de_Ma_joined_1 (by decide) (by decide) (by decide) rfl (by decide) ?_
    refine ev_lload_n de_Ma_joined_64 rfl rfl ?_
    refine ev_lload_n de_Ma_joined_65 rfl rfl ?_
    refine ev_lsub de_Ma_joined_66 ?_
    exact ev_lreturn de_Ma_joined_67 rfl ⟨rfl, rfl⟩
  · subst c
    refine ev_tableIn (off := 59) (tgt := 60) de_Ma_joined_1 (by decide) (by decide) (by decide) rfl (by decide) ?_
    refine ev_lload_n de_Ma_joined_60 rfl rfl ?_
    refine ev_lload_n de_Ma_joined_61 rfl rfl ?_
    refine ev_ladd de_Ma_joined_62 ?_
    exact ev_lreturn de_Ma_joined_63 rfl ⟨rfl, rfl⟩
theorem de_Ma_wordOf_0 : decode prog_5_method_8_code 0 = .ok (.iload_n 0, 1) := by decide +kernel
theorem de_Ma_wordOf_1 : decode prog_5_method_8_code 1 = .ok (.tableswitch 132 0 10 #[59, 64, 69, 74, 84, 94, 107, 112, 117, 122, 127], 59) := by decide +kernel
theorem de_Ma_wordOf_60 : decode prog_5_method_8_code 60 = .ok (.aload_n 1, 1) := by decide +kernel
theorem de_Ma_wordOf_61 : decode prog_5_method_8_code 61 = .ok (.getfield 62, 3) := by decide +kernel
theorem de_Ma_wordOf_64 : decode prog_5_method_8_code 64 = .ok (.ireturn, 1) := by decide +kernel
theorem de_Ma_wordOf_65 : decode prog_5_method_8_code 65 = .ok (.aload_n 1, 1) := by decide +kernel
theorem de_Ma_wordOf_66 : decode prog_5_method_8_code 66 = .ok (.getfield 67, 3) := by decide +kernel
theorem de_Ma_wordOf_69 : decode prog_5_method_8_code 69 = .ok (.ireturn, 1) := by decide +kernel
theorem de_Ma_wordOf_70 : decode prog_5_method_8_code 70 = .ok (.aload_n 1, 1) := by decide +kernel
theorem de_Ma_wordOf_71 : decode prog_5_method_8_code 71 = .ok (.getfield 70, 3) := by decide +kernel
theorem de_Ma_wordOf_74 : decode prog_5_method_8_code 74 = .ok (.ireturn, 1) := by decide +kernel
theorem de_Ma_wordOf_75 : decode prog_5_method_8_code 75 = .ok (.aload_n 1, 1) := by decide +kernel
theorem de_Ma_wordOf_76 : decode prog_5_method_8_code 76 = .ok (.getfield 73, 3) := by decide +kernel
theorem de_Ma_wordOf_79 : decode prog_5_method_8_code 79 = .ok (.aload_n 1, 1) := by decide +kernel
theorem de_Ma_wordOf_80 : decode prog_5_method_8_code 80 = .ok (.getfield 62, 3) := by decide +kernel
theorem de_Ma_wordOf_83 : decode prog_5_method_8_code 83 = .ok (.iaload, 1) := by decide +kernel
theorem de_Ma_wordOf_84 : decode prog_5_method_8_code 84 = .ok (.ireturn, 1) := by decide +kernel
theorem de_Ma_wordOf_85 : decode prog_5_method_8_code 85 = .ok (.aload_n 1, 1) := by decide +kernel
theorem de_Ma_wordOf_86 : decode prog_5_method_8_code 86 = .ok (.getfield 76, 3) := by decide +kernel
theorem de_Ma_wordOf_89 : decode prog_5_method_8_code 89 = .ok (.aload_n 1, 1) := by decide +kernel
theorem de_Ma_wordOf_90 : decode prog_5_method_8_code 90 = .ok (.getfield 70, 3) := by decide +kernel
theorem de_Ma_wordOf_93 : decode prog_5_method_8_code 93 = .ok (.iaload, 1) := by decide +kernel
theorem de_Ma_wordOf_94 : decode prog_5_method_8_code 94 = .ok (.ireturn, 1) := by decide +kernel
theorem de_Ma_wordOf_95 : decode prog_5_method_8_code 95 = .ok (.aload_n 1, 1) := by decide +kernel
theorem de_Ma_wordOf_96 : decode prog_5_method_8_code 96 = .ok (.aload_n 1, 1) := by decide +kernel
theorem de_Ma_wordOf_97 : decode prog_5_method_8_code 97 = .ok (.getfield 70, 3) := by decide +kernel
theorem de_Ma_wordOf_100 : decode prog_5_method_8_code 100 = .ok (.aload_n 1, 1) := by decide +kernel
theorem de_Ma_wordOf_101 : decode prog_5_method_8_code 101 = .ok (.getfield 62, 3) := by decide +kernel
theorem de_Ma_wordOf_104 : decode prog_5_method_8_code 104 = .ok (.invokevirtual 79, 3) := by decide +kernel
theorem de_Ma_wordOf_107 : decode prog_5_method_8_code 107 = .ok (.ireturn, 1) := by decide +kernel
theorem de_Ma_wordOf_108 : decode prog_5_method_8_code 108 = .ok (.aload_n 1, 1) := by decide +kernel
theorem de_Ma_wordOf_109 : decode prog_5_method_8_code 109 = .ok (.invokevirtual 83, 3) := by decide +kernel
theorem de_Ma_wordOf_112 : decode prog_5_method_8_code 112 = .ok (.ireturn, 1) := by decide +kernel
theorem de_Ma_wordOf_113 : decode prog_5_method_8_code 113 = .ok (.aload_n 1, 1) := by decide +kernel
theorem de_Ma_wordOf_114 : decode prog_5_method_8_code 114 = .ok (.invokevirtual 87, 3) := by decide +kernel
theorem de_Ma_wordOf_117 : decode prog_5_method_8_code 117 = .ok (.ireturn, 1) := by decide +kernel
theorem de_Ma_wordOf_118 : decode prog_5_method_8_code 118 = .ok (.aload_n 1, 1) := by decide +kernel
theorem de_Ma_wordOf_119 : decode prog_5_method_8_code 119 = .ok (.invokevirtual 90, 3) := by decide +kernel
theorem de_Ma_wordOf_122 : decode prog_5_method_8_code 122 = .ok (.ireturn, 1) := by decide +kernel
theorem de_Ma_wordOf_123 : decode prog_5_method_8_code 123 = .ok (.aload_n 1, 1) := by decide +kernel
theorem de_Ma_wordOf_124 : decode prog_5_method_8_code 124 = .ok (.invokevirtual 93, 3) := by decide +kernel
theorem de_Ma_wordOf_127 : decode prog_5_method_8_code 127 = .ok (.ireturn, 1) := by decide +kernel
theorem de_Ma_wordOf_128 : decode prog_5_method_8_code 128 = .ok (.aload_n 1, 1) := by decide +kernel
theorem de_Ma_wordOf_129 : decode prog_5_method_8_code 129 = .ok (.invokevirtual 96, 3) := by decide +kernel
theorem de_Ma_wordOf_132 : decode prog_5_method_8_code 132 = .ok (.ireturn, 1) := by decide +kernel
theorem de_Ma_wordOf_133 : decode prog_5_method_8_code 133 = .ok (.aload_n 1, 1) := by decide +kernel
theorem de_Ma_wordOf_134 : decode prog_5_method_8_code 134 = .ok (.getfield 99, 3) := by decide +kernel
theorem de_Ma_wordOf_137 : decode prog_5_method_8_code 137 = .ok (.ireturn, 1) := by decide +kernel
set_option maxHeartbeats 4000000 in
set_option maxRecDepth 10000 in
theorem co_Ma_wordOf {o : Nat} {f : Int → Int} {x B : Int} {w : ab_W} (hI : sg_ok B f) (hR : ri_at_j o f x w) (k : Int) (hk0 : 0 ≤ k) (hk1 : k ≤ 11) : ab_Mt g_G g_rs mt_Ma_wordOf 4 0 0 [ab_I k, ab_R o] w (ab_is (some (ab_I (cs_wd f k))) w) := by
  have hR0 := hR
  have hI0 := hI
  obtain ⟨sl, fs, vo, li, ra, wo, dh, da, hzz⟩ := hR
  obtain ⟨ds, dn, vw, q0, q1, q2, q3, q4, hzz⟩ := hzz
  obtain ⟨q5, q6, q7, q8, q9, q10, q11, q12, hzz⟩ := hzz
  obtain ⟨e1, e2, e3, e4, e5, e6, e7, e8, e9⟩ := hzz
  obtain ⟨i0, i1, i2, i3, i4, i5, i6, i7, hzz⟩ := sg_all hI
  obtain ⟨i8, i9, i10, i11, i12, i13, i14, i15, hzz⟩ := hzz
  obtain ⟨i16, i17⟩ := hzz
  refine ab_Mt.of rfl (Nat.le_of_ble_eq_true rfl) ?_
  show ab_Ev g_G g_rs mt_Ma_wordOf _ _ _ 0 [some (ab_I k), some (ab_R o)] [] _ _
  refine ev_iload_n de_Ma_wordOf_0 rfl rfl ?_
  rcases (by omega : k < 0 ∨ 10 < k ∨ k = 0 ∨ k = 1 ∨ k = 2 ∨ k = 3 ∨ k = 4 ∨ k = 5 ∨ k = 6 ∨ k = 7 ∨ k = 8 ∨ k = 9 ∨ k = 10) with c | c | c | c | c | c | c | c | c | c | c | c | c
  · refine ev_tableOut (tgt := 133) de_Ma_wordOf_1 (by omega) (by omega) (by decide) ?_
    refine ev_aload_n de_Ma_wordOf_133 rfl rfl ?_
    refine ev_getfield de_Ma_wordOf_134 q0 fl_Ma_99 rfl ?_
    exact ev_ireturn de_Ma_wordOf_137 rfl (by first | (exfalso; omega) | (exact ⟨congrArg (fun z => some (ab_I z)) (by rw [show k = 11 by omega]; rfl), rfl⟩))
  · refine ev_tableOut (tgt := 133) de_Ma_wordOf_1 (by omega) (by omega) (by decide) ?_
    refine ev_aload_n de_Ma_wordOf_133 rfl rfl ?_
    refine ev_getfield de_Ma_wordOf_134 q0 fl_Ma_99 rfl ?_
    exact ev_ireturn de_Ma_wordOf_137 rfl (by first | (exfalso; omega) | (exact ⟨congrArg (fun z => some (ab_I z)) (by rw [show k = 11 by omega]; rfl), rfl⟩))
  · subst c
    refine ev_tableIn (off := 59) (tgt := 60) de_Ma_wordOf_1 (by decide) (by decide) (by decide) rfl (by decide) ?_
    refine ev_aload_n de_Ma_wordOf_60 rfl rfl ?_
    refine ev_getfield de_Ma_wordOf_61 q0 fl_Ma_62 rfl ?_
    exact ev_ireturn de_Ma_wordOf_64 rfl ⟨congrArg (fun z => some (ab_I z)) (by rfl), rfl⟩
  · subst c
    refine ev_tableIn (off := 64) (tgt := 65) de_Ma_wordOf_1 (by decide) (by decide) (by decide) rfl (by decide) ?_
    refine ev_aload_n de_Ma_wordOf_65 rfl rfl ?_
    refine ev_getfield de_Ma_wordOf_66 q0 fl_Ma_67 rfl ?_
    exact ev_ireturn de_Ma_wordOf_69 rfl ⟨congrArg (fun z => some (ab_I z)) (by rfl), rfl⟩
  · subst c
    refine ev_tableIn (off := 69) (tgt := 70) de_Ma_wordOf_1 (by decide) (by decide) (by decide) rfl (by decide) ?_
    refine ev_aload_n de_Ma_wordOf_70 rfl rfl ?_
    refine ev_getfield de_Ma_wordOf_71 q0 fl_Ma_70 rfl ?_
    exact ev_ireturn de_Ma_wordOf_74 rfl ⟨congrArg (fun z => some (ab_I z)) (by rfl), rfl⟩
  · subst c
    refine ev_tableIn (off := 74) (tgt := 75) de_Ma_wordOf_1 (by decide) (by decide) (by decide) rfl (by decide) ?_
    refine ev_aload_n de_Ma_wordOf_75 rfl rfl ?_
    refine ev_getfield de_Ma_wordOf_76 q0 fl_Ma_73 rfl ?_
    refine ev_aload_n de_Ma_wordOf_79 rfl rfl ?_
    refine ev_getfield de_Ma_wordOf_80 q0 fl_Ma_62 rfl ?_
    refine ev_iaload de_Ma_wordOf_83 q6 (by omega) (by omega) (by omega) ?_
    exact ev_ireturn de_Ma_wordOf_84 rfl ⟨congrArg (fun z => some (ab_I z)) (e5 (f 5) (by omega) (by omega)), rfl⟩
  · subst c
    refine ev_tableIn (off := 84) (tgt := 85) de_Ma_wordOf_1 (by decide) (by decide) (by decide) rfl (by decide) ?_
    refine ev_aload_n de_Ma_wordOf_85 rfl rfl ?_
    refine ev_getfield de_Ma_wordOf_86 q0 fl_Ma_76 rfl ?_
    refine ev_aload_n de_Ma_wordOf_89 rfl rfl ?_
    refine ev_getfield de_Ma_wordOf_90 q0 fl_Ma_70 rfl ?_
    refine ev_iaload de_Ma_wordOf_93 q7 (by omega) (by omega) (by omega) ?_
    exact ev_ireturn de_Ma_wordOf_94 rfl ⟨congrArg (fun z => some (ab_I z)) (e6 (f 4) (by omega) (by omega)), rfl⟩
  · subst c
    refine ev_tableIn (off := 94) (tgt := 95) de_Ma_wordOf_1 (by decide) (by decide) (by decide) rfl (by decide) ?_
    refine ev_aload_n de_Ma_wordOf_95 rfl rfl ?_
    refine ev_aload_n de_Ma_wordOf_96 rfl rfl ?_
    refine ev_getfield de_Ma_wordOf_97 q0 fl_Ma_70 rfl ?_
    refine ev_aload_n de_Ma_wordOf_100 rfl rfl ?_
    refine ev_getfield de_Ma_wordOf_101 q0 fl_Ma_62 rfl ?_
    refine ev_vv (ci := 5) de_Ma_wordOf_104 (co_Ri_allLike_j hI0 hR0 _ _ (by omega) (by omega) (by omega) (by omega)) kb_Ma_79 ⟨im_Ri_allLike, se_Ri_allLike⟩ rfl q0 rfl (Nat.le_of_ble_eq_true rfl) (by decide) rfl ?_
    exact ev_ireturn de_Ma_wordOf_107 rfl ⟨congrArg (fun z => some (ab_I z)) (by rfl), rfl⟩
  · subst c
    refine ev_tableIn (off := 107) (tgt := 108) de_Ma_wordOf_1 (by decide) (by decide) (by decide) rfl (by decide) ?_
    refine ev_aload_n de_Ma_wordOf_108 rfl rfl ?_
    refine ev_vv (ci := 5) de_Ma_wordOf_109 (co_Ri_bestLike_j hI0 hR0) kb_Ma_83 ⟨im_Ri_bestLike, se_Ri_bestLike⟩ rfl q0 rfl (Nat.le_of_ble_eq_true rfl) (by decide) rfl ?_
    exact ev_ireturn de_Ma_wordOf_112 rfl ⟨congrArg (fun z => some (ab_I z)) (by rfl), rfl⟩
  · subst c
    refine ev_tableIn (off := 112) (tgt := 113) de_Ma_wordOf_1 (by decide) (by decide) (by decide) rfl (by decide) ?_
    refine ev_aload_n de_Ma_wordOf_113 rfl rfl ?_
    refine ev_vv (ci := 5) de_Ma_wordOf_114 (co_Ri_leastLike_j hI0 hR0) kb_Ma_87 ⟨im_Ri_leastLike, se_Ri_leastLike⟩ rfl q0 rfl (Nat.le_of_ble_eq_true rfl) (by decide) rfl ?_
    exact ev_ireturn de_Ma_wordOf_117 rfl ⟨congrArg (fun z => some (ab_I z)) (by rfl), rfl⟩
  · subst c
    refine ev_tableIn (off := 117) (tgt := 118) de_Ma_wordOf_1 (by decide) (by decide) (by decide) rfl (by decide) ?_
    refine ev_aload_n de_Ma_wordOf_118 rfl rfl ?_
    refine ev_vv (ci := 5) de_Ma_wordOf_119 (co_Ri_stayVotes_j hI0 hR0) kb_Ma_90 ⟨im_Ri_stayVotes, se_Ri_stayVotes⟩ rfl q0 rfl (Nat.le_of_ble_eq_true rfl) (by decide) rfl ?_
    exact ev_ireturn de_Ma_wordOf_122 rfl ⟨congrArg (fun z => some (ab_I z)) (cs_sv_eq f), rfl⟩
  · subst c
    refine ev_tableIn (off := 122) (tgt := 123) de_Ma_wordOf_1 (by decide) (by decide) (by decide) rfl (by decide) ?_
    refine ev_aload_n de_Ma_wordOf_123 rfl rfl ?_
    refine ev_vv (ci := 5) de_Ma_wordOf_124 (co_Ri_allVotes_j hI0 hR0) kb_Ma_93 ⟨im_Ri_allVotes, se_Ri_allVotes⟩ rfl q0 rfl (Nat.le_of_ble_eq_true rfl) (by decide) rfl ?_
    exact ev_ireturn de_Ma_wordOf_127 rfl ⟨congrArg (fun z => some (ab_I z)) (by rfl), rfl⟩
  · subst c
    refine ev_tableIn (off := 127) (tgt := 128) de_Ma_wordOf_1 (by decide) (by decide) (by decide) rfl (by decide) ?_
    refine ev_aload_n de_Ma_wordOf_128 rfl rfl ?_
    refine ev_vv (ci := 5) de_Ma_wordOf_129 (co_Ri_atGates_j hI0 hR0) kb_Ma_96 ⟨im_Ri_atGates, se_Ri_atGates⟩ rfl q0 rfl (Nat.le_of_ble_eq_true rfl) (by decide) rfl ?_
    exact ev_ireturn de_Ma_wordOf_132 rfl ⟨congrArg (fun z => some (ab_I z)) (by rfl), rfl⟩
