section MO
variable {tape : Int → Int} {taped : Int} {rules : Int} {sign : Int → Int} {leng : Int → Int} {clause : Int → Int} {clauses : Int → Int} {read : Int → Int} {next : Int} {wrong : Int} {number : Int} {text : Int} {made : Int} {deep : Int} {lines : Int} {opn : Int → Int} {opened : Int} {stack : Int → Int64} {top : Int} {word : Int → Int64} {said : Int → Int} {xx : Int} {was : Int → Int} {undone : Int} {kept : Int → Int} {sumOf : Int → Int} {faced : Int → Int} {slotAt : Int → Int} {dayAt : Int → Int} {row : Int → Int} {bestRow : Int → Int} {tMany : Int} {tMost : Int} {drawX : Int64} {images : Int → Int} {imageX : Int → Int} {isMade : Int → Int}
/-! trade: it comes back (what it answers is not said) -/
def td_d (dayAt : Int → Int) : Prop := ∀ k, 0 ≤ k → k < 49 → -2000 ≤ dayAt k ∧ dayAt k ≤ 2000
def td_s (slotAt : Int → Int) : Prop := ∀ k, 0 ≤ k → k < 7 → 0 ≤ slotAt k ∧ slotAt k ≤ 11
theorem de_Mo_dayNow_0 : decode prog_14_method_98_code 0 = .ok (.iconst 0, 1) := by decide +kernel
theorem de_Mo_dayNow_1 : decode prog_14_method_98_code 1 = .ok (.istore_n 2, 1) := by decide +kernel
theorem de_Mo_dayNow_2 : decode prog_14_method_98_code 2 = .ok (.iload_n 2, 1) := by decide +kernel
theorem de_Mo_dayNow_3 : decode prog_14_method_98_code 3 = .ok (.aload_n 0, 1) := by decide +kernel
theorem de_Mo_dayNow_4 : decode prog_14_method_98_code 4 = .ok (.getfield 39, 3) := by decide +kernel
theorem de_Mo_dayNow_7 : decode prog_14_method_98_code 7 = .ok (.iconst 1, 1) := by decide +kernel
theorem de_Mo_dayNow_8 : decode prog_14_method_98_code 8 = .ok (.iaload, 1) := by decide +kernel
theorem de_Mo_dayNow_9 : decode prog_14_method_98_code 9 = .ok (.if_icmp .ge 39, 3) := by decide +kernel
theorem de_Mo_dayNow_12 : decode prog_14_method_98_code 12 = .ok (.aload_n 0, 1) := by decide +kernel
theorem de_Mo_dayNow_13 : decode prog_14_method_98_code 13 = .ok (.getfield 54, 3) := by decide +kernel
theorem de_Mo_dayNow_16 : decode prog_14_method_98_code 16 = .ok (.iload_n 2, 1) := by decide +kernel
theorem de_Mo_dayNow_17 : decode prog_14_method_98_code 17 = .ok (.iaload, 1) := by decide +kernel
theorem de_Mo_dayNow_18 : decode prog_14_method_98_code 18 = .ok (.aload_n 0, 1) := by decide +kernel
theorem de_Mo_dayNow_19 : decode prog_14_method_98_code 19 = .ok (.getfield 39, 3) := by decide +kernel
theorem de_Mo_dayNow_22 : decode prog_14_method_98_code 22 = .ok (.bipush 46, 2) := by decide +kernel
theorem de_Mo_dayNow_24 : decode prog_14_method_98_code 24 = .ok (.iload_n 1, 1) := by decide +kernel
theorem de_Mo_dayNow_25 : decode prog_14_method_98_code 25 = .ok (.iadd, 1) := by decide +kernel
theorem de_Mo_dayNow_26 : decode prog_14_method_98_code 26 = .ok (.iaload, 1) := by decide +kernel
theorem de_Mo_dayNow_27 : decode prog_14_method_98_code 27 = .ok (.if_icmp .ne 15, 3) := by decide +kernel
theorem de_Mo_dayNow_30 : decode prog_14_method_98_code 30 = .ok (.aload_n 0, 1) := by decide +kernel
theorem de_Mo_dayNow_31 : decode prog_14_method_98_code 31 = .ok (.getfield 57, 3) := by decide +kernel
theorem de_Mo_dayNow_34 : decode prog_14_method_98_code 34 = .ok (.bipush 7, 2) := by decide +kernel
theorem de_Mo_dayNow_36 : decode prog_14_method_98_code 36 = .ok (.iload_n 1, 1) := by decide +kernel
theorem de_Mo_dayNow_37 : decode prog_14_method_98_code 37 = .ok (.imul, 1) := by decide +kernel
theorem de_Mo_dayNow_38 : decode prog_14_method_98_code 38 = .ok (.iload_n 2, 1) := by decide +kernel
theorem de_Mo_dayNow_39 : decode prog_14_method_98_code 39 = .ok (.iadd, 1) := by decide +kernel
theorem de_Mo_dayNow_40 : decode prog_14_method_98_code 40 = .ok (.iaload, 1) := by decide +kernel
theorem de_Mo_dayNow_41 : decode prog_14_method_98_code 41 = .ok (.ireturn, 1) := by decide +kernel
theorem de_Mo_dayNow_42 : decode prog_14_method_98_code 42 = .ok (.iinc 2 1, 3) := by decide +kernel
theorem de_Mo_dayNow_45 : decode prog_14_method_98_code 45 = .ok (.goto (-43), 3) := by decide +kernel
def td_r (row : Int → Int) (n H : Int) : Prop := ∀ j, 0 ≤ j → j < n → 0 ≤ row j ∧ row j < H
theorem de_Mo_countsRow_0 : decode prog_14_method_97_code 0 = .ok (.iconst 0, 1) := by decide +kernel
theorem de_Mo_countsRow_1 : decode prog_14_method_97_code 1 = .ok (.istore_n 1, 1) := by decide +kernel
theorem de_Mo_countsRow_2 : decode prog_14_method_97_code 2 = .ok (.iconst 0, 1) := by decide +kernel
theorem de_Mo_countsRow_3 : decode prog_14_method_97_code 3 = .ok (.istore_n 2, 1) := by decide +kernel
theorem de_Mo_countsRow_4 : decode prog_14_method_97_code 4 = .ok (.iload_n 2, 1) := by decide +kernel
theorem de_Mo_countsRow_5 : decode prog_14_method_97_code 5 = .ok (.aload_n 0, 1) := by decide +kernel
theorem de_Mo_countsRow_6 : decode prog_14_method_97_code 6 = .ok (.getfield 39, 3) := by decide +kernel
theorem de_Mo_countsRow_9 : decode prog_14_method_97_code 9 = .ok (.iconst 1, 1) := by decide +kernel
theorem de_Mo_countsRow_10 : decode prog_14_method_97_code 10 = .ok (.iaload, 1) := by decide +kernel
theorem de_Mo_countsRow_11 : decode prog_14_method_97_code 11 = .ok (.if_icmp .ge 28, 3) := by decide +kernel
theorem de_Mo_countsRow_14 : decode prog_14_method_97_code 14 = .ok (.iload_n 1, 1) := by decide +kernel
theorem de_Mo_countsRow_15 : decode prog_14_method_97_code 15 = .ok (.aload_n 0, 1) := by decide +kernel
theorem de_Mo_countsRow_16 : decode prog_14_method_97_code 16 = .ok (.getfield 57, 3) := by decide +kernel
theorem de_Mo_countsRow_19 : decode prog_14_method_97_code 19 = .ok (.bipush 7, 2) := by decide +kernel
theorem de_Mo_countsRow_21 : decode prog_14_method_97_code 21 = .ok (.iload_n 2, 1) := by decide +kernel
theorem de_Mo_countsRow_22 : decode prog_14_method_97_code 22 = .ok (.imul, 1) := by decide +kernel
theorem de_Mo_countsRow_23 : decode prog_14_method_97_code 23 = .ok (.aload_n 0, 1) := by decide +kernel
theorem de_Mo_countsRow_24 : decode prog_14_method_97_code 24 = .ok (.getfield 60, 3) := by decide +kernel
theorem de_Mo_countsRow_27 : decode prog_14_method_97_code 27 = .ok (.iload_n 2, 1) := by decide +kernel
theorem de_Mo_countsRow_28 : decode prog_14_method_97_code 28 = .ok (.iaload, 1) := by decide +kernel
theorem de_Mo_countsRow_29 : decode prog_14_method_97_code 29 = .ok (.iadd, 1) := by decide +kernel
theorem de_Mo_countsRow_30 : decode prog_14_method_97_code 30 = .ok (.iaload, 1) := by decide +kernel
theorem de_Mo_countsRow_31 : decode prog_14_method_97_code 31 = .ok (.iadd, 1) := by decide +kernel
theorem de_Mo_countsRow_32 : decode prog_14_method_97_code 32 = .ok (.istore_n 1, 1) := by decide +kernel
theorem de_Mo_countsRow_33 : decode prog_14_method_97_code 33 = .ok (.iinc 2 1, 3) := by decide +kernel
theorem de_Mo_countsRow_36 : decode prog_14_method_97_code 36 = .ok (.goto (-32), 3) := by decide +kernel
theorem de_Mo_countsRow_39 : decode prog_14_method_97_code 39 = .ok (.aload_n 0, 1) := by decide +kernel
theorem de_Mo_countsRow_40 : decode prog_14_method_97_code 40 = .ok (.getfield 420, 3) := by decide +kernel
theorem de_Mo_countsRow_43 : decode prog_14_method_97_code 43 = .ok (.ifCond .eq 11, 3) := by decide +kernel
theorem de_Mo_countsRow_46 : decode prog_14_method_97_code 46 = .ok (.iload_n 1, 1) := by decide +kernel
theorem de_Mo_countsRow_47 : decode prog_14_method_97_code 47 = .ok (.aload_n 0, 1) := by decide +kernel
theorem de_Mo_countsRow_48 : decode prog_14_method_97_code 48 = .ok (.getfield 423, 3) := by decide +kernel
theorem de_Mo_countsRow_51 : decode prog_14_method_97_code 51 = .ok (.if_icmp .le 43, 3) := by decide +kernel
theorem de_Mo_countsRow_54 : decode prog_14_method_97_code 54 = .ok (.aload_n 0, 1) := by decide +kernel
theorem de_Mo_countsRow_55 : decode prog_14_method_97_code 55 = .ok (.iload_n 1, 1) := by decide +kernel
theorem de_Mo_countsRow_56 : decode prog_14_method_97_code 56 = .ok (.putfield 423, 3) := by decide +kernel
theorem de_Mo_countsRow_59 : decode prog_14_method_97_code 59 = .ok (.iconst 0, 1) := by decide +kernel
theorem de_Mo_countsRow_60 : decode prog_14_method_97_code 60 = .ok (.istore_n 2, 1) := by decide +kernel
theorem de_Mo_countsRow_61 : decode prog_14_method_97_code 61 = .ok (.iload_n 2, 1) := by decide +kernel
theorem de_Mo_countsRow_62 : decode prog_14_method_97_code 62 = .ok (.aload_n 0, 1) := by decide +kernel
theorem de_Mo_countsRow_63 : decode prog_14_method_97_code 63 = .ok (.getfield 39, 3) := by decide +kernel
theorem de_Mo_countsRow_66 : decode prog_14_method_97_code 66 = .ok (.iconst 1, 1) := by decide +kernel
theorem de_Mo_countsRow_67 : decode prog_14_method_97_code 67 = .ok (.iaload, 1) := by decide +kernel
theorem de_Mo_countsRow_68 : decode prog_14_method_97_code 68 = .ok (.if_icmp .ge 26, 3) := by decide +kernel
theorem de_Mo_countsRow_71 : decode prog_14_method_97_code 71 = .ok (.aload_n 0, 1) := by decide +kernel
theorem de_Mo_countsRow_72 : decode prog_14_method_97_code 72 = .ok (.getfield 63, 3) := by decide +kernel
theorem de_Mo_countsRow_75 : decode prog_14_method_97_code 75 = .ok (.iload_n 2, 1) := by decide +kernel
theorem de_Mo_countsRow_76 : decode prog_14_method_97_code 76 = .ok (.aload_n 0, 1) := by decide +kernel
theorem de_Mo_countsRow_77 : decode prog_14_method_97_code 77 = .ok (.getfield 54, 3) := by decide +kernel
theorem de_Mo_countsRow_80 : decode prog_14_method_97_code 80 = .ok (.aload_n 0, 1) := by decide +kernel
theorem de_Mo_countsRow_81 : decode prog_14_method_97_code 81 = .ok (.getfield 60, 3) := by decide +kernel
theorem de_Mo_countsRow_84 : decode prog_14_method_97_code 84 = .ok (.iload_n 2, 1) := by decide +kernel
theorem de_Mo_countsRow_85 : decode prog_14_method_97_code 85 = .ok (.iaload, 1) := by decide +kernel
theorem de_Mo_countsRow_86 : decode prog_14_method_97_code 86 = .ok (.iaload, 1) := by decide +kernel
theorem de_Mo_countsRow_87 : decode prog_14_method_97_code 87 = .ok (.iastore, 1) := by decide +kernel
theorem de_Mo_countsRow_88 : decode prog_14_method_97_code 88 = .ok (.iinc 2 1, 3) := by decide +kernel
theorem de_Mo_countsRow_91 : decode prog_14_method_97_code 91 = .ok (.goto (-30), 3) := by decide +kernel
theorem de_Mo_countsRow_94 : decode prog_14_method_97_code 94 = .ok (.aload_n 0, 1) := by decide +kernel
theorem de_Mo_countsRow_95 : decode prog_14_method_97_code 95 = .ok (.dup, 1) := by decide +kernel
theorem de_Mo_countsRow_96 : decode prog_14_method_97_code 96 = .ok (.getfield 420, 3) := by decide +kernel
theorem de_Mo_countsRow_99 : decode prog_14_method_97_code 99 = .ok (.iconst 1, 1) := by decide +kernel
theorem de_Mo_countsRow_100 : decode prog_14_method_97_code 100 = .ok (.iadd, 1) := by decide +kernel
theorem de_Mo_countsRow_101 : decode prog_14_method_97_code 101 = .ok (.putfield 420, 3) := by decide +kernel
theorem de_Mo_countsRow_104 : decode prog_14_method_97_code 104 = .ok (.return_, 1) := by decide +kernel
/-- how many HOUSES lie in SLOTS ahead of s, and of those in s the first h -/
def td_c (f : Int → Int) (s h : Int) : Nat → Int
  | 0 => 0
  | j + 1 => td_c f s h j + (if f (46 + (j : Int)) < s ∨ (f (46 + (j : Int)) = s ∧ (j : Int) < h) then 1 else 0)
theorem td_c_b (f : Int → Int) (s h : Int) : ∀ n : Nat, 0 ≤ td_c f s h n ∧ td_c f s h n ≤ (n : Int)
  | 0 => by unfold td_c; omega
  | n + 1 => by
    have ih := td_c_b f s h n
    unfold td_c
    split <;> omega
theorem td_c_lt (f : Int → Int) (s h : Int) (h0 : 0 ≤ h) (hs : f (46 + h) = s) : ∀ n : Nat, h < n → td_c f s h n < (n : Int)
  | 0, hn => by omega
  | n + 1, hn => by
    by_cases e : h = (n : Int)
    · subst e
      have b := td_c_b f s (n : Int) n
      unfold td_c
      rw [if_neg (by omega)]
      omega
    · have ih := td_c_lt f s h h0 hs n (by omega)
      unfold td_c
      split <;> omega
theorem td_c_s (f : Int → Int) (s h : Int) (h0 : 0 ≤ h) : ∀ n : Nat, td_c f s (h + 1) n = td_c f s h n + (if f (46 + h) = s ∧ h < n then 1 else 0)
  | 0 => by unfold td_c; rw [if_neg (by omega)]; rfl
  | n + 1 => by
    have ih := td_c_s f s h h0 n
    unfold td_c
    by_cases e : h = (n : Int)
    · subst e
      rw [ih]
      by_cases c : f (46 + (n : Int)) = s
      · rw [if_pos (show f (46 + (n : Int)) < s ∨ (f (46 + (n : Int)) = s ∧ (n : Int) < (n : Int) + 1) by omega), if_neg (show ¬ (f (46 + (n : Int)) < s ∨ (f (46 + (n : Int)) = s ∧ (n : Int) < (n : Int))) by omega), if_neg (by omega), if_pos (by omega)]
        try omega
      · by_cases c2 : f (46 + (n : Int)) < s
        · rw [if_pos (Or.inl c2), if_pos (Or.inl c2), if_neg (by omega), if_neg (by omega)]
          omega
        · rw [if_neg (by omega), if_neg (by omega), if_neg (by omega), if_neg (by omega)]
    · rw [ih]
      have e1 : (f (46 + (n : Int)) < s ∨ (f (46 + (n : Int)) = s ∧ (n : Int) < h + 1)) ↔ (f (46 + (n : Int)) < s ∨ (f (46 + (n : Int)) = s ∧ (n : Int) < h)) := by omega
      have e2 : (f (46 + h) = s ∧ h < ((n + 1 : Nat) : Int)) ↔ (f (46 + h) = s ∧ h < (n : Int)) := by omega
      simp only [e1, e2]
      omega
theorem td_c_n (f : Int → Int) (s H : Int) : ∀ n : Nat, (n : Int) ≤ H → td_c f (s + 1) 0 n = td_c f s H n
  | 0, _ => rfl
  | n + 1, hn => by
    have ih := td_c_n f s H n (by omega)
    unfold td_c
    rw [ih]
    by_cases c : f (46 + (n : Int)) < s ∨ (f (46 + (n : Int)) = s ∧ (n : Int) < H)
    · rw [if_pos c, if_pos (by omega)]
    · rw [if_neg c, if_neg (by omega)]
theorem td_s_up {slotAt : Int → Int} {j v : Int} (h : td_s slotAt) (hv : 0 ≤ v ∧ v ≤ 11) : td_s (ab_up slotAt j v) := by
  intro k h0 h1
  unfold ab_up
  split
  · exact hv
  · exact h k h0 h1
theorem td_d_up {dayAt : Int → Int} {j v : Int} (h : td_d dayAt) (hv : -2000 ≤ v ∧ v ≤ 2000) : td_d (ab_up dayAt j v) := by
  intro k h0 h1
  unfold ab_up
  split
  · exact hv
  · exact h k h0 h1
theorem td_c_00 {f : Int → Int} (h : ∀ j, 0 ≤ j → j < 7 → 0 ≤ f (46 + j)) : ∀ n : Nat, n ≤ 7 → td_c f 0 0 n = 0
  | 0, _ => rfl
  | n + 1, hn => by
    have ih := td_c_00 h n (by omega)
    have q := h (n : Int) (by omega) (by omega)
    unfold td_c
    rw [ih, if_neg (by omega)]
    rfl
theorem de_Mo_fillsDays_0 : decode prog_14_method_96_code 0 = .ok (.iconst 0, 1) := by decide +kernel
theorem de_Mo_fillsDays_1 : decode prog_14_method_96_code 1 = .ok (.istore_n 1, 1) := by decide +kernel
theorem de_Mo_fillsDays_2 : decode prog_14_method_96_code 2 = .ok (.iconst 0, 1) := by decide +kernel
theorem de_Mo_fillsDays_3 : decode prog_14_method_96_code 3 = .ok (.istore_n 2, 1) := by decide +kernel
theorem de_Mo_fillsDays_4 : decode prog_14_method_96_code 4 = .ok (.iload_n 2, 1) := by decide +kernel
theorem de_Mo_fillsDays_5 : decode prog_14_method_96_code 5 = .ok (.bipush 12, 2) := by decide +kernel
theorem de_Mo_fillsDays_7 : decode prog_14_method_96_code 7 = .ok (.if_icmp .ge 53, 3) := by decide +kernel
theorem de_Mo_fillsDays_10 : decode prog_14_method_96_code 10 = .ok (.iconst 0, 1) := by decide +kernel
theorem de_Mo_fillsDays_11 : decode prog_14_method_96_code 11 = .ok (.istore_n 3, 1) := by decide +kernel
theorem de_Mo_fillsDays_12 : decode prog_14_method_96_code 12 = .ok (.iload_n 3, 1) := by decide +kernel
theorem de_Mo_fillsDays_13 : decode prog_14_method_96_code 13 = .ok (.aload_n 0, 1) := by decide +kernel
theorem de_Mo_fillsDays_14 : decode prog_14_method_96_code 14 = .ok (.getfield 39, 3) := by decide +kernel
theorem de_Mo_fillsDays_17 : decode prog_14_method_96_code 17 = .ok (.iconst 1, 1) := by decide +kernel
theorem de_Mo_fillsDays_18 : decode prog_14_method_96_code 18 = .ok (.iaload, 1) := by decide +kernel
theorem de_Mo_fillsDays_19 : decode prog_14_method_96_code 19 = .ok (.if_icmp .ge 35, 3) := by decide +kernel
theorem de_Mo_fillsDays_22 : decode prog_14_method_96_code 22 = .ok (.aload_n 0, 1) := by decide +kernel
theorem de_Mo_fillsDays_23 : decode prog_14_method_96_code 23 = .ok (.getfield 39, 3) := by decide +kernel
theorem de_Mo_fillsDays_26 : decode prog_14_method_96_code 26 = .ok (.bipush 46, 2) := by decide +kernel
theorem de_Mo_fillsDays_28 : decode prog_14_method_96_code 28 = .ok (.iload_n 3, 1) := by decide +kernel
theorem de_Mo_fillsDays_29 : decode prog_14_method_96_code 29 = .ok (.iadd, 1) := by decide +kernel
theorem de_Mo_fillsDays_30 : decode prog_14_method_96_code 30 = .ok (.iaload, 1) := by decide +kernel
theorem de_Mo_fillsDays_31 : decode prog_14_method_96_code 31 = .ok (.iload_n 2, 1) := by decide +kernel
theorem de_Mo_fillsDays_32 : decode prog_14_method_96_code 32 = .ok (.if_icmp .eq 6, 3) := by decide +kernel
theorem de_Mo_fillsDays_35 : decode prog_14_method_96_code 35 = .ok (.goto 13, 3) := by decide +kernel
theorem de_Mo_fillsDays_38 : decode prog_14_method_96_code 38 = .ok (.aload_n 0, 1) := by decide +kernel
theorem de_Mo_fillsDays_39 : decode prog_14_method_96_code 39 = .ok (.getfield 54, 3) := by decide +kernel
theorem de_Mo_fillsDays_42 : decode prog_14_method_96_code 42 = .ok (.iload_n 1, 1) := by decide +kernel
theorem de_Mo_fillsDays_43 : decode prog_14_method_96_code 43 = .ok (.iload_n 2, 1) := by decide +kernel
theorem de_Mo_fillsDays_44 : decode prog_14_method_96_code 44 = .ok (.iastore, 1) := by decide +kernel
theorem de_Mo_fillsDays_45 : decode prog_14_method_96_code 45 = .ok (.iinc 1 1, 3) := by decide +kernel
theorem de_Mo_fillsDays_48 : decode prog_14_method_96_code 48 = .ok (.iinc 3 1, 3) := by decide +kernel
theorem de_Mo_fillsDays_51 : decode prog_14_method_96_code 51 = .ok (.goto (-39), 3) := by decide +kernel
theorem de_Mo_fillsDays_54 : decode prog_14_method_96_code 54 = .ok (.iinc 2 1, 3) := by decide +kernel
theorem de_Mo_fillsDays_57 : decode prog_14_method_96_code 57 = .ok (.goto (-53), 3) := by decide +kernel
theorem de_Mo_fillsDays_60 : decode prog_14_method_96_code 60 = .ok (.iconst 0, 1) := by decide +kernel
theorem de_Mo_fillsDays_61 : decode prog_14_method_96_code 61 = .ok (.istore_n 2, 1) := by decide +kernel
theorem de_Mo_fillsDays_62 : decode prog_14_method_96_code 62 = .ok (.iload_n 2, 1) := by decide +kernel
theorem de_Mo_fillsDays_63 : decode prog_14_method_96_code 63 = .ok (.aload_n 0, 1) := by decide +kernel
theorem de_Mo_fillsDays_64 : decode prog_14_method_96_code 64 = .ok (.getfield 39, 3) := by decide +kernel
theorem de_Mo_fillsDays_67 : decode prog_14_method_96_code 67 = .ok (.iconst 1, 1) := by decide +kernel
theorem de_Mo_fillsDays_68 : decode prog_14_method_96_code 68 = .ok (.iaload, 1) := by decide +kernel
theorem de_Mo_fillsDays_69 : decode prog_14_method_96_code 69 = .ok (.if_icmp .ge 49, 3) := by decide +kernel
theorem de_Mo_fillsDays_72 : decode prog_14_method_96_code 72 = .ok (.iconst 0, 1) := by decide +kernel
theorem de_Mo_fillsDays_73 : decode prog_14_method_96_code 73 = .ok (.istore_n 3, 1) := by decide +kernel
theorem de_Mo_fillsDays_74 : decode prog_14_method_96_code 74 = .ok (.iload_n 3, 1) := by decide +kernel
theorem de_Mo_fillsDays_75 : decode prog_14_method_96_code 75 = .ok (.aload_n 0, 1) := by decide +kernel
theorem de_Mo_fillsDays_76 : decode prog_14_method_96_code 76 = .ok (.getfield 39, 3) := by decide +kernel
theorem de_Mo_fillsDays_79 : decode prog_14_method_96_code 79 = .ok (.iconst 1, 1) := by decide +kernel
theorem de_Mo_fillsDays_80 : decode prog_14_method_96_code 80 = .ok (.iaload, 1) := by decide +kernel
theorem de_Mo_fillsDays_81 : decode prog_14_method_96_code 81 = .ok (.if_icmp .ge 31, 3) := by decide +kernel
theorem de_Mo_fillsDays_84 : decode prog_14_method_96_code 84 = .ok (.aload_n 0, 1) := by decide +kernel
theorem de_Mo_fillsDays_85 : decode prog_14_method_96_code 85 = .ok (.getfield 57, 3) := by decide +kernel
theorem de_Mo_fillsDays_88 : decode prog_14_method_96_code 88 = .ok (.bipush 7, 2) := by decide +kernel
theorem de_Mo_fillsDays_90 : decode prog_14_method_96_code 90 = .ok (.iload_n 2, 1) := by decide +kernel
theorem de_Mo_fillsDays_91 : decode prog_14_method_96_code 91 = .ok (.imul, 1) := by decide +kernel
theorem de_Mo_fillsDays_92 : decode prog_14_method_96_code 92 = .ok (.iload_n 3, 1) := by decide +kernel
theorem de_Mo_fillsDays_93 : decode prog_14_method_96_code 93 = .ok (.iadd, 1) := by decide +kernel
theorem de_Mo_fillsDays_94 : decode prog_14_method_96_code 94 = .ok (.aload_n 0, 1) := by decide +kernel
theorem de_Mo_fillsDays_95 : decode prog_14_method_96_code 95 = .ok (.iload_n 2, 1) := by decide +kernel
theorem de_Mo_fillsDays_96 : decode prog_14_method_96_code 96 = .ok (.aload_n 0, 1) := by decide +kernel
theorem de_Mo_fillsDays_97 : decode prog_14_method_96_code 97 = .ok (.getfield 54, 3) := by decide +kernel
theorem de_Mo_fillsDays_100 : decode prog_14_method_96_code 100 = .ok (.iload_n 3, 1) := by decide +kernel
theorem de_Mo_fillsDays_101 : decode prog_14_method_96_code 101 = .ok (.iaload, 1) := by decide +kernel
theorem de_Mo_fillsDays_102 : decode prog_14_method_96_code 102 = .ok (.invokevirtual 396, 3) := by decide +kernel
theorem de_Mo_fillsDays_105 : decode prog_14_method_96_code 105 = .ok (.iastore, 1) := by decide +kernel
theorem de_Mo_fillsDays_106 : decode prog_14_method_96_code 106 = .ok (.iinc 3 1, 3) := by decide +kernel
theorem de_Mo_fillsDays_109 : decode prog_14_method_96_code 109 = .ok (.goto (-35), 3) := by decide +kernel
theorem de_Mo_fillsDays_112 : decode prog_14_method_96_code 112 = .ok (.iinc 2 1, 3) := by decide +kernel
theorem de_Mo_fillsDays_115 : decode prog_14_method_96_code 115 = .ok (.goto (-53), 3) := by decide +kernel
theorem de_Mo_fillsDays_118 : decode prog_14_method_96_code 118 = .ok (.return_, 1) := by decide +kernel
end MO
