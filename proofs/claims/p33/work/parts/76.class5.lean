theorem sp_sortsAt_d {f g : Int → Int} (d h : Int) (h0 : 0 ≤ f 2) (h2 : f 2 ≤ 12) (hj : ∀ j, j = 2 ∨ (95 ≤ j ∧ j < 143) → g j = f j) : sp_sortsAt g d h = sp_sortsAt f d h := by
  unfold sp_sortsAt
  rw [hj 2 (Or.inl rfl)]
  exact sp_sorts_c d h _ (fun j a b => hj j (by omega))
/-! SLOTS swapped -/
def cs_swap (a b : Int) (f : Int → Int) : Int → Int := ab_up (ab_up f (46 + a) (f (46 + b))) (46 + b) (f (46 + a))
theorem cs_swap_j {a b j : Int} {f : Int → Int} (h : j < 46 + a ∨ 46 + a < j) (h2 : j < 46 + b ∨ 46 + b < j) : cs_swap a b f j = f j := by
  unfold cs_swap
  rw [ab_upn _ _ (by omega), ab_upn _ _ (by omega)]
theorem de_Ri_swapSlots_0 : decode prog_7_method_29_code 0 = .ok (.aload_n 0, 1) := by decide +kernel
theorem de_Ri_swapSlots_1 : decode prog_7_method_29_code 1 = .ok (.getfield 9, 3) := by decide +kernel
theorem de_Ri_swapSlots_4 : decode prog_7_method_29_code 4 = .ok (.iload_n 1, 1) := by decide +kernel
theorem de_Ri_swapSlots_5 : decode prog_7_method_29_code 5 = .ok (.iaload, 1) := by decide +kernel
theorem de_Ri_swapSlots_6 : decode prog_7_method_29_code 6 = .ok (.istore_n 3, 1) := by decide +kernel
theorem de_Ri_swapSlots_7 : decode prog_7_method_29_code 7 = .ok (.aload_n 0, 1) := by decide +kernel
theorem de_Ri_swapSlots_8 : decode prog_7_method_29_code 8 = .ok (.getfield 9, 3) := by decide +kernel
theorem de_Ri_swapSlots_11 : decode prog_7_method_29_code 11 = .ok (.iload_n 1, 1) := by decide +kernel
theorem de_Ri_swapSlots_12 : decode prog_7_method_29_code 12 = .ok (.aload_n 0, 1) := by decide +kernel
theorem de_Ri_swapSlots_13 : decode prog_7_method_29_code 13 = .ok (.getfield 9, 3) := by decide +kernel
theorem de_Ri_swapSlots_16 : decode prog_7_method_29_code 16 = .ok (.iload_n 2, 1) := by decide +kernel
theorem de_Ri_swapSlots_17 : decode prog_7_method_29_code 17 = .ok (.iaload, 1) := by decide +kernel
theorem de_Ri_swapSlots_18 : decode prog_7_method_29_code 18 = .ok (.iastore, 1) := by decide +kernel
theorem de_Ri_swapSlots_19 : decode prog_7_method_29_code 19 = .ok (.aload_n 0, 1) := by decide +kernel
theorem de_Ri_swapSlots_20 : decode prog_7_method_29_code 20 = .ok (.getfield 9, 3) := by decide +kernel
theorem de_Ri_swapSlots_23 : decode prog_7_method_29_code 23 = .ok (.iload_n 2, 1) := by decide +kernel
theorem de_Ri_swapSlots_24 : decode prog_7_method_29_code 24 = .ok (.iload_n 3, 1) := by decide +kernel
theorem de_Ri_swapSlots_25 : decode prog_7_method_29_code 25 = .ok (.iastore, 1) := by decide +kernel
theorem de_Ri_swapSlots_26 : decode prog_7_method_29_code 26 = .ok (.return_, 1) := by decide +kernel
/-! an HOUR taken back -/
def cs_un (b : Int) (g : Int → Int) : Int → Int := ab_up (ab_up g 4 ((g 4 - b) % 12)) (34 + (g 4 - b) % 12) (g (34 + (g 4 - b) % 12) - 1)
def cs_uns (b : Int) (f : Int → Int) : Nat → Int → Int
  | 0 => f
  | k + 1 => cs_un b (cs_uns b f k)
def cs_off (was : Int) (g : Int → Int) : Int → Int := if g 5 - 1 < 0 then ab_up (ab_up (ab_up g 7 was) 5 23) 6 (g 6 - 1) else ab_up (ab_up g 7 was) 5 (g 5 - 1)
def cs_back (n was : Int) (f : Int → Int) : Int → Int := cs_off was (cs_uns (sp_by n) f n.natAbs)
theorem cs_uns_s (b : Int) (f : Int → Int) : ∀ n : Nat, cs_uns b (cs_un b f) n = cs_uns b f (n + 1)
  | 0 => rfl
  | n + 1 => by
    show cs_un b (cs_uns b (cs_un b f) n) = cs_un b (cs_uns b f (n + 1))
    rw [cs_uns_s b f n]
theorem cs_un_4 (b : Int) (g : Int → Int) : cs_un b g 4 = (g 4 - b) % 12 := by
  unfold cs_un
  rw [ab_upn _ _ (by omega), ab_upe]
theorem cs_un_j (b : Int) (g : Int → Int) {j : Int} (h1 : j ≠ 4) (h2 : j < 34 ∨ 46 ≤ j) : cs_un b g j = g j := by
  unfold cs_un
  rw [ab_upn _ _ (by omega), ab_upn _ _ h1]
theorem cs_un_w (b : Int) (g wo : Int → Int) (hw : ∀ k, 0 ≤ k → k < 12 → wo k = g (34 + k)) : ∀ k, 0 ≤ k → k < 12 → ab_up wo ((g 4 - b) % 12) (wo ((g 4 - b) % 12) - 1) k = cs_un b g (34 + k) := by
  intro k a c
  have L : ab_up wo ((g 4 - b) % 12) (wo ((g 4 - b) % 12) - 1) k = if k = (g 4 - b) % 12 then wo ((g 4 - b) % 12) - 1 else wo k := rfl
  have R : cs_un b g (34 + k) = if 34 + k = 34 + (g 4 - b) % 12 then g (34 + (g 4 - b) % 12) - 1 else g (34 + k) := by
    show (if 34 + k = 34 + (g 4 - b) % 12 then _ else (if 34 + k = 4 then _ else _)) = _
    rw [if_neg (show ¬ 34 + k = 4 by omega)]
  rw [L, R, hw _ (by omega) (by omega), hw k a c]
  by_cases e : k = (g 4 - b) % 12
  · rw [if_pos e, if_pos (by omega)]
  · rw [if_neg e, if_neg (by omega)]
theorem cs_uns_j (b : Int) (f : Int → Int) (hf : 0 ≤ f 4 ∧ f 4 ≤ 11) : ∀ k : Nat, (0 ≤ cs_uns b f k 4 ∧ cs_uns b f k 4 ≤ 11) ∧ ∀ j, j ≠ 4 → (j < 34 ∨ 46 ≤ j) → cs_uns b f k j = f j
  | 0 => ⟨hf, fun _ _ _ => rfl⟩
  | k + 1 => by
    have ih := cs_uns_j b f hf k
    refine ⟨?_, fun j h1 h2 => ?_⟩
    · show 0 ≤ cs_un b (cs_uns b f k) 4 ∧ cs_un b (cs_uns b f k) 4 ≤ 11
      rw [cs_un_4]
      omega
    · show cs_un b (cs_uns b f k) j = f j
      rw [cs_un_j b _ h1 h2]
      exact ih.2 j h1 h2
theorem cs_off_j (was : Int) (g : Int → Int) {j : Int} (h5 : j ≠ 5) (h6 : j ≠ 6) (h7 : j ≠ 7) : cs_off was g j = g j := by
  unfold cs_off
  split
  · rw [ab_upn _ _ h6, ab_upn _ _ h5, ab_upn _ _ h7]
  · rw [ab_upn _ _ h5, ab_upn _ _ h7]
theorem cs_off_7 (was : Int) (g : Int → Int) : cs_off was g 7 = was := by
  unfold cs_off
  split
  · rw [ab_upn _ _ (by decide), ab_upn _ _ (by decide), ab_upe]
  · rw [ab_upn _ _ (by decide), ab_upe]
theorem cs_off_5 (was : Int) (g : Int → Int) : cs_off was g 5 = if g 5 - 1 < 0 then 23 else g 5 - 1 := by
  unfold cs_off
  split
  · rw [ab_upn _ _ (by decide), ab_upe]
  · rw [ab_upe]
theorem cs_off_6 (was : Int) (g : Int → Int) : cs_off was g 6 = if g 5 - 1 < 0 then g 6 - 1 else g 6 := by
  unfold cs_off
  split
  · rw [ab_upe]
  · rw [ab_upn _ _ (by decide), ab_upn _ _ (by decide)]
theorem de_Ri_takeHourBack_0 : decode prog_7_method_28_code 0 = .ok (.iload_n 1, 1) := by decide +kernel
theorem de_Ri_takeHourBack_1 : decode prog_7_method_28_code 1 = .ok (.ifCond .ge 7, 3) := by decide +kernel
theorem de_Ri_takeHourBack_4 : decode prog_7_method_28_code 4 = .ok (.iconst (-1), 1) := by decide +kernel
theorem de_Ri_takeHourBack_5 : decode prog_7_method_28_code 5 = .ok (.goto 4, 3) := by decide +kernel
theorem de_Ri_takeHourBack_8 : decode prog_7_method_28_code 8 = .ok (.iconst 1, 1) := by decide +kernel
theorem de_Ri_takeHourBack_9 : decode prog_7_method_28_code 9 = .ok (.istore_n 3, 1) := by decide +kernel
theorem de_Ri_takeHourBack_10 : decode prog_7_method_28_code 10 = .ok (.iload_n 1, 1) := by decide +kernel
theorem de_Ri_takeHourBack_11 : decode prog_7_method_28_code 11 = .ok (.invokestatic 140, 3) := by decide +kernel
theorem de_Ri_takeHourBack_14 : decode prog_7_method_28_code 14 = .ok (.istore 4, 2) := by decide +kernel
theorem de_Ri_takeHourBack_16 : decode prog_7_method_28_code 16 = .ok (.iload 4, 2) := by decide +kernel
theorem de_Ri_takeHourBack_18 : decode prog_7_method_28_code 18 = .ok (.ifCond .le 35, 3) := by decide +kernel
theorem de_Ri_takeHourBack_21 : decode prog_7_method_28_code 21 = .ok (.aload_n 0, 1) := by decide +kernel
theorem de_Ri_takeHourBack_22 : decode prog_7_method_28_code 22 = .ok (.aload_n 0, 1) := by decide +kernel
theorem de_Ri_takeHourBack_23 : decode prog_7_method_28_code 23 = .ok (.getfield 45, 3) := by decide +kernel
theorem de_Ri_takeHourBack_26 : decode prog_7_method_28_code 26 = .ok (.iload_n 3, 1) := by decide +kernel
theorem de_Ri_takeHourBack_27 : decode prog_7_method_28_code 27 = .ok (.isub, 1) := by decide +kernel
theorem de_Ri_takeHourBack_28 : decode prog_7_method_28_code 28 = .ok (.invokestatic 131, 3) := by decide +kernel
theorem de_Ri_takeHourBack_31 : decode prog_7_method_28_code 31 = .ok (.putfield 45, 3) := by decide +kernel
theorem de_Ri_takeHourBack_34 : decode prog_7_method_28_code 34 = .ok (.aload_n 0, 1) := by decide +kernel
theorem de_Ri_takeHourBack_35 : decode prog_7_method_28_code 35 = .ok (.getfield 31, 3) := by decide +kernel
theorem de_Ri_takeHourBack_38 : decode prog_7_method_28_code 38 = .ok (.aload_n 0, 1) := by decide +kernel
theorem de_Ri_takeHourBack_39 : decode prog_7_method_28_code 39 = .ok (.getfield 45, 3) := by decide +kernel
theorem de_Ri_takeHourBack_42 : decode prog_7_method_28_code 42 = .ok (.dup2, 1) := by decide +kernel
theorem de_Ri_takeHourBack_43 : decode prog_7_method_28_code 43 = .ok (.iaload, 1) := by decide +kernel
theorem de_Ri_takeHourBack_44 : decode prog_7_method_28_code 44 = .ok (.iconst 1, 1) := by decide +kernel
theorem de_Ri_takeHourBack_45 : decode prog_7_method_28_code 45 = .ok (.isub, 1) := by decide +kernel
theorem de_Ri_takeHourBack_46 : decode prog_7_method_28_code 46 = .ok (.iastore, 1) := by decide +kernel
theorem de_Ri_takeHourBack_47 : decode prog_7_method_28_code 47 = .ok (.iinc 4 (-1), 3) := by decide +kernel
theorem de_Ri_takeHourBack_50 : decode prog_7_method_28_code 50 = .ok (.goto (-34), 3) := by decide +kernel
theorem de_Ri_takeHourBack_53 : decode prog_7_method_28_code 53 = .ok (.aload_n 0, 1) := by decide +kernel
theorem de_Ri_takeHourBack_54 : decode prog_7_method_28_code 54 = .ok (.iload_n 2, 1) := by decide +kernel
theorem de_Ri_takeHourBack_55 : decode prog_7_method_28_code 55 = .ok (.putfield 55, 3) := by decide +kernel
theorem de_Ri_takeHourBack_58 : decode prog_7_method_28_code 58 = .ok (.aload_n 0, 1) := by decide +kernel
theorem de_Ri_takeHourBack_59 : decode prog_7_method_28_code 59 = .ok (.dup, 1) := by decide +kernel
theorem de_Ri_takeHourBack_60 : decode prog_7_method_28_code 60 = .ok (.getfield 49, 3) := by decide +kernel
theorem de_Ri_takeHourBack_63 : decode prog_7_method_28_code 63 = .ok (.iconst 1, 1) := by decide +kernel
theorem de_Ri_takeHourBack_64 : decode prog_7_method_28_code 64 = .ok (.isub, 1) := by decide +kernel
theorem de_Ri_takeHourBack_65 : decode prog_7_method_28_code 65 = .ok (.putfield 49, 3) := by decide +kernel
theorem de_Ri_takeHourBack_68 : decode prog_7_method_28_code 68 = .ok (.aload_n 0, 1) := by decide +kernel
theorem de_Ri_takeHourBack_69 : decode prog_7_method_28_code 69 = .ok (.getfield 49, 3) := by decide +kernel
theorem de_Ri_takeHourBack_72 : decode prog_7_method_28_code 72 = .ok (.ifCond .ge 19, 3) := by decide +kernel
theorem de_Ri_takeHourBack_75 : decode prog_7_method_28_code 75 = .ok (.aload_n 0, 1) := by decide +kernel
theorem de_Ri_takeHourBack_76 : decode prog_7_method_28_code 76 = .ok (.bipush 23, 2) := by decide +kernel
theorem de_Ri_takeHourBack_78 : decode prog_7_method_28_code 78 = .ok (.putfield 49, 3) := by decide +kernel
theorem de_Ri_takeHourBack_81 : decode prog_7_method_28_code 81 = .ok (.aload_n 0, 1) := by decide +kernel
theorem de_Ri_takeHourBack_82 : decode prog_7_method_28_code 82 = .ok (.dup, 1) := by decide +kernel
theorem de_Ri_takeHourBack_83 : decode prog_7_method_28_code 83 = .ok (.getfield 52, 3) := by decide +kernel
theorem de_Ri_takeHourBack_86 : decode prog_7_method_28_code 86 = .ok (.iconst 1, 1) := by decide +kernel
theorem de_Ri_takeHourBack_87 : decode prog_7_method_28_code 87 = .ok (.isub, 1) := by decide +kernel
theorem de_Ri_takeHourBack_88 : decode prog_7_method_28_code 88 = .ok (.putfield 52, 3) := by decide +kernel
theorem de_Ri_takeHourBack_91 : decode prog_7_method_28_code 91 = .ok (.return_, 1) := by decide +kernel