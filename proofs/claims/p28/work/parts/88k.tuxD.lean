/-! what to look at next: exactly -/
def lsum (F : Int → Int) : List Int → Int
  | [] => 0
  | c :: r => F c + lsum F r
theorem lsum_app (F : Int → Int) (c : Int) : ∀ L : List Int, lsum F (L ++ [c]) = lsum F L + F c
  | [] => by show F c + 0 = 0 + F c; omega
  | d :: r => by
    have ih := lsum_app F c r
    show F d + lsum F (r ++ [c]) = F d + lsum F r + F c
    omega
theorem saw_01 (f : Int → Int) (c h n s : Int) : sp_saw f c h n s = 0 ∨ sp_saw f c h n s = 1 := bit_at_01 _ _
theorem is_sum (f : Int → Int) (k n : Int) : ∀ m : Nat, sp_is f k n m = lsum (fun c => sp_saw f c (k / 5) n (k % 5)) (gl f m)
  | 0 => rfl
  | m + 1 => by
    have ih := is_sum f k n m
    have q := saw_01 f (m : Int) (k / 5) n (k % 5)
    unfold sp_is gl
    by_cases z : sp_fits f (m : Int) = 0
    · rw [if_pos z, if_pos z]
      exact ih
    · rw [if_neg z, if_neg z, lsum_app, ih]
      split <;> omega
theorem is_nt (f : Int → Int) (k n : Int) : ∀ m : Nat, sp_is f k n m + sp_nt f k n m = sp_many f m
  | 0 => rfl
  | m + 1 => by
    have ih := is_nt f k n m
    unfold sp_is sp_nt sp_many
    split
    · exact ih
    · split <;> omega
theorem sum_take (F g : Int → Int) (L : List Int) (h : ∀ (i : Nat) (c : Int), L[i]? = some c → g (i : Int) = F c) : ∀ i : Nat, i ≤ L.length → sp_sum g i = lsum F (L.take i)
  | 0, _ => rfl
  | i + 1, hi => by
    have ih := sum_take F g L h i (by omega)
    have hc : L[i]? = some L[i] := List.getElem?_eq_getElem (by omega)
    have e : L.take (i + 1) = L.take i ++ [L[i]] := (List.take_append_getElem (by omega)).symm
    rw [e, lsum_app, ← ih, ← h i _ hc]
    rfl
/-- in how many of the first i turns a SORT is seen -/
def cnt (f an ra : Int → Int) (n : Int) (i : Nat) (k : Int) : Int := sp_sum (fun j => bit_at (cs_see f (k / 5) n (an j) (ra j)) (k % 5).toNat) i
theorem cnt_is {f an ra : Int → Int} (hE : en_ (gl f 84) an ra) (n k : Int) : cnt f an ra n (gl f 84).length k = sp_is f k n 84 := by
  rw [is_sum]
  unfold cnt
  rw [sum_take (fun c => sp_saw f c (k / 5) n (k % 5)) _ (gl f 84) (fun i c hc => ?_) _ (Nat.le_refl _), List.take_length]
  obtain ⟨e1, e2⟩ := hE i c hc
  show bit_at (cs_see f (k / 5) n (an (i : Int)) (ra (i : Int))) (k % 5).toNat = _
  rw [e1, e2]
  rfl
def sr_ (f an ra sn : Int → Int) (n : Int) (i : Nat) (m : Int) : Prop := ∀ k, 0 ≤ k → k < 5 * f 1 → sn k = if k < m then cnt f an ra n (i + 1) k else cnt f an ra n i k
theorem sr_up {f an ra sn : Int → Int} {n m v : Int} {i : Nat} (h : sr_ f an ra sn n i m) (hv : v = sn m + bit_at (cs_see f (m / 5) n (an (i : Int)) (ra (i : Int))) (m % 5).toNat) (h0 : 0 ≤ m) (h1 : m < 5 * f 1) : sr_ f an ra (ab_up sn m v) n i (m + 1) := by
  intro k k0 k1
  by_cases e : k = m
  · subst e
    rw [ab_upe, if_pos (by omega), hv, h k k0 k1, if_neg (by omega)]
    rfl
  · rw [ab_upn _ _ e, h k k0 k1]
    by_cases z : k < m
    · rw [if_pos z, if_pos (by omega)]
    · rw [if_neg z, if_neg (by omega)]
theorem sr_nx {f an ra sn : Int → Int} {n : Int} {i : Nat} (h : sr_ f an ra sn n i (5 * f 1)) : sr_ f an ra sn n (i + 1) 0 := by
  intro k k0 k1
  rw [h k k0 k1, if_pos k1, if_neg (by omega)]
theorem gr_max (f : Int → Int) (k n : Int) : (if sp_is f k n 84 < sp_many f 84 - sp_is f k n 84 then sp_many f 84 - sp_is f k n 84 else sp_is f k n 84) = sp_gr f k n 84 := by
  have q := is_nt f k n 84
  unfold sp_gr
  (repeat' split) <;> omega
theorem gr_pos {f : Int → Int} (h : 0 < sp_many f 84) (k n : Int) : 0 < sp_gr f k n 84 := by
  have q := is_nt f k n 84
  have b1 := sp_is_b f k n 84
  have b2 := sp_nt_b f k n 84
  unfold sp_gr
  split <;> omega
theorem lk_pos {f : Int → Int} (h : 0 < sp_many f 84) (n : Int) : ∀ k : Nat, 0 ≤ (sp_lk f n 84 (k + 1)).1
  | 0 => by
    have g := gr_pos h ((0 : Nat) : Int) n
    show 0 ≤ (if sp_gr f ((0 : Nat) : Int) n 84 = 0 ∨ _ then sp_lk f n 84 0 else (((0 : Nat) : Int), sp_gr f ((0 : Nat) : Int) n 84)).1
    rw [if_neg (fun z => z.elim (fun y => by omega) (fun y => absurd (show (0 : Int) ≤ -2 from y.1) (by decide)))]
    exact Int.le_refl _
  | k + 1 => by
    have ih := lk_pos h n k
    show 0 ≤ (if _ then sp_lk f n 84 (k + 1) else (((k + 1 : Nat) : Int), sp_gr f ((k + 1 : Nat) : Int) n 84)).1
    split
    · exact ih
    · show (0 : Int) ≤ ((k + 1 : Nat) : Int)
      omega
theorem lk_s {f : Int → Int} (h : 0 < sp_many f 84) (n : Int) (k : Nat) : sp_lk f n 84 (k + 1) = if k = 0 ∨ sp_gr f (k : Int) n 84 < (sp_lk f n 84 k).2 then ((k : Int), sp_gr f (k : Int) n 84) else sp_lk f n 84 k := by
  have g := gr_pos h (k : Int) n
  show (if sp_gr f (k : Int) n 84 = 0 ∨ (0 ≤ (sp_lk f n 84 k).1 ∧ (sp_lk f n 84 k).2 ≤ sp_gr f (k : Int) n 84) then sp_lk f n 84 k else ((k : Int), sp_gr f (k : Int) n 84)) = _
  rcases k with _ | k
  · rw [if_neg (fun z => z.elim (fun y => by omega) (fun y => absurd (show (0 : Int) ≤ -2 from y.1) (by decide))), if_pos (Or.inl rfl)]
  · have p := lk_pos h n k
    by_cases z : sp_gr f ((k + 1 : Nat) : Int) n 84 < (sp_lk f n 84 (k + 1)).2
    · rw [if_pos (Or.inr z), if_neg (fun y => y.elim (fun y => by omega) (fun y => by omega))]
    · rw [if_pos (Or.inr ⟨p, by omega⟩), if_neg (fun y => y.elim (fun y => by omega) z)]
theorem lk_no {f : Int → Int} (h : sp_many f 84 = 0) (n : Int) : ∀ k : Nat, sp_lk f n 84 k = (-2, -2)
  | 0 => rfl
  | k + 1 => by
    have ih := lk_no h n k
    have q := is_nt f (k : Int) n 84
    have b1 := sp_is_b f (k : Int) n 84
    have b2 := sp_nt_b f (k : Int) n 84
    have g : sp_gr f (k : Int) n 84 = 0 := by
      unfold sp_gr
      split <;> omega
    unfold sp_lk
    rw [if_pos (Or.inl g)]
    exact ih
theorem de_Gu_findLook_0 : decode prog_4_method_5_code 0 = .ok (.aload_n 0, 1) := by decide +kernel
theorem de_Gu_findLook_1 : decode prog_4_method_5_code 1 = .ok (.getfield 18, 3) := by decide +kernel
theorem de_Gu_findLook_4 : decode prog_4_method_5_code 4 = .ok (.iconst 0, 1) := by decide +kernel
theorem de_Gu_findLook_5 : decode prog_4_method_5_code 5 = .ok (.invokestatic 70, 3) := by decide +kernel
theorem de_Gu_findLook_8 : decode prog_4_method_5_code 8 = .ok (.iconst 0, 1) := by decide +kernel
theorem de_Gu_findLook_9 : decode prog_4_method_5_code 9 = .ok (.istore_n 3, 1) := by decide +kernel
theorem de_Gu_findLook_10 : decode prog_4_method_5_code 10 = .ok (.iload_n 3, 1) := by decide +kernel
theorem de_Gu_findLook_11 : decode prog_4_method_5_code 11 = .ok (.aload_n 0, 1) := by decide +kernel
theorem de_Gu_findLook_12 : decode prog_4_method_5_code 12 = .ok (.getfield 21, 3) := by decide +kernel
theorem de_Gu_findLook_15 : decode prog_4_method_5_code 15 = .ok (.if_icmp .ge 85, 3) := by decide +kernel
theorem de_Gu_findLook_18 : decode prog_4_method_5_code 18 = .ok (.iconst 0, 1) := by decide +kernel
theorem de_Gu_findLook_19 : decode prog_4_method_5_code 19 = .ok (.istore 4, 2) := by decide +kernel
theorem de_Gu_findLook_21 : decode prog_4_method_5_code 21 = .ok (.iload 4, 2) := by decide +kernel
theorem de_Gu_findLook_23 : decode prog_4_method_5_code 23 = .ok (.aload_n 1, 1) := by decide +kernel
theorem de_Gu_findLook_24 : decode prog_4_method_5_code 24 = .ok (.getfield 76, 3) := by decide +kernel
theorem de_Gu_findLook_27 : decode prog_4_method_5_code 27 = .ok (.if_icmp .ge 67, 3) := by decide +kernel
theorem de_Gu_findLook_30 : decode prog_4_method_5_code 30 = .ok (.aload_n 1, 1) := by decide +kernel
theorem de_Gu_findLook_31 : decode prog_4_method_5_code 31 = .ok (.iload 4, 2) := by decide +kernel
theorem de_Gu_findLook_33 : decode prog_4_method_5_code 33 = .ok (.iload_n 2, 1) := by decide +kernel
theorem de_Gu_findLook_34 : decode prog_4_method_5_code 34 = .ok (.aload_n 0, 1) := by decide +kernel
theorem de_Gu_findLook_35 : decode prog_4_method_5_code 35 = .ok (.getfield 11, 3) := by decide +kernel
theorem de_Gu_findLook_38 : decode prog_4_method_5_code 38 = .ok (.iload_n 3, 1) := by decide +kernel
theorem de_Gu_findLook_39 : decode prog_4_method_5_code 39 = .ok (.iaload, 1) := by decide +kernel
theorem de_Gu_findLook_40 : decode prog_4_method_5_code 40 = .ok (.aload_n 0, 1) := by decide +kernel
theorem de_Gu_findLook_41 : decode prog_4_method_5_code 41 = .ok (.getfield 15, 3) := by decide +kernel
theorem de_Gu_findLook_44 : decode prog_4_method_5_code 44 = .ok (.iload_n 3, 1) := by decide +kernel
theorem de_Gu_findLook_45 : decode prog_4_method_5_code 45 = .ok (.iaload, 1) := by decide +kernel
theorem de_Gu_findLook_46 : decode prog_4_method_5_code 46 = .ok (.invokestatic 60, 3) := by decide +kernel
theorem de_Gu_findLook_49 : decode prog_4_method_5_code 49 = .ok (.istore 5, 2) := by decide +kernel
theorem de_Gu_findLook_51 : decode prog_4_method_5_code 51 = .ok (.iconst 0, 1) := by decide +kernel
theorem de_Gu_findLook_52 : decode prog_4_method_5_code 52 = .ok (.istore 6, 2) := by decide +kernel
theorem de_Gu_findLook_54 : decode prog_4_method_5_code 54 = .ok (.iload 6, 2) := by decide +kernel
theorem de_Gu_findLook_56 : decode prog_4_method_5_code 56 = .ok (.iconst 5, 1) := by decide +kernel
theorem de_Gu_findLook_57 : decode prog_4_method_5_code 57 = .ok (.if_icmp .ge 31, 3) := by decide +kernel
theorem de_Gu_findLook_60 : decode prog_4_method_5_code 60 = .ok (.aload_n 0, 1) := by decide +kernel
theorem de_Gu_findLook_61 : decode prog_4_method_5_code 61 = .ok (.getfield 18, 3) := by decide +kernel
theorem de_Gu_findLook_64 : decode prog_4_method_5_code 64 = .ok (.iload 4, 2) := by decide +kernel
theorem de_Gu_findLook_66 : decode prog_4_method_5_code 66 = .ok (.iconst 5, 1) := by decide +kernel
theorem de_Gu_findLook_67 : decode prog_4_method_5_code 67 = .ok (.imul, 1) := by decide +kernel
theorem de_Gu_findLook_68 : decode prog_4_method_5_code 68 = .ok (.iload 6, 2) := by decide +kernel
theorem de_Gu_findLook_70 : decode prog_4_method_5_code 70 = .ok (.iadd, 1) := by decide +kernel
theorem de_Gu_findLook_71 : decode prog_4_method_5_code 71 = .ok (.dup2, 1) := by decide +kernel
theorem de_Gu_findLook_72 : decode prog_4_method_5_code 72 = .ok (.iaload, 1) := by decide +kernel
theorem de_Gu_findLook_73 : decode prog_4_method_5_code 73 = .ok (.iload 5, 2) := by decide +kernel
theorem de_Gu_findLook_75 : decode prog_4_method_5_code 75 = .ok (.iload 6, 2) := by decide +kernel
theorem de_Gu_findLook_77 : decode prog_4_method_5_code 77 = .ok (.ishr, 1) := by decide +kernel
theorem de_Gu_findLook_78 : decode prog_4_method_5_code 78 = .ok (.iconst 1, 1) := by decide +kernel
theorem de_Gu_findLook_79 : decode prog_4_method_5_code 79 = .ok (.iand, 1) := by decide +kernel
theorem de_Gu_findLook_80 : decode prog_4_method_5_code 80 = .ok (.iadd, 1) := by decide +kernel
theorem de_Gu_findLook_81 : decode prog_4_method_5_code 81 = .ok (.iastore, 1) := by decide +kernel
theorem de_Gu_findLook_82 : decode prog_4_method_5_code 82 = .ok (.iinc 6 1, 3) := by decide +kernel
theorem de_Gu_findLook_85 : decode prog_4_method_5_code 85 = .ok (.goto (-31), 3) := by decide +kernel
theorem de_Gu_findLook_88 : decode prog_4_method_5_code 88 = .ok (.iinc 4 1, 3) := by decide +kernel
theorem de_Gu_findLook_91 : decode prog_4_method_5_code 91 = .ok (.goto (-70), 3) := by decide +kernel
theorem de_Gu_findLook_94 : decode prog_4_method_5_code 94 = .ok (.iinc 3 1, 3) := by decide +kernel
theorem de_Gu_findLook_97 : decode prog_4_method_5_code 97 = .ok (.goto (-87), 3) := by decide +kernel
theorem de_Gu_findLook_100 : decode prog_4_method_5_code 100 = .ok (.iconst 0, 1) := by decide +kernel
theorem de_Gu_findLook_101 : decode prog_4_method_5_code 101 = .ok (.istore_n 3, 1) := by decide +kernel
theorem de_Gu_findLook_102 : decode prog_4_method_5_code 102 = .ok (.iload_n 3, 1) := by decide +kernel
theorem de_Gu_findLook_103 : decode prog_4_method_5_code 103 = .ok (.aload_n 1, 1) := by decide +kernel
theorem de_Gu_findLook_104 : decode prog_4_method_5_code 104 = .ok (.getfield 76, 3) := by decide +kernel
theorem de_Gu_findLook_107 : decode prog_4_method_5_code 107 = .ok (.iconst 5, 1) := by decide +kernel
theorem de_Gu_findLook_108 : decode prog_4_method_5_code 108 = .ok (.imul, 1) := by decide +kernel
theorem de_Gu_findLook_109 : decode prog_4_method_5_code 109 = .ok (.if_icmp .ge 55, 3) := by decide +kernel
theorem de_Gu_findLook_112 : decode prog_4_method_5_code 112 = .ok (.aload_n 0, 1) := by decide +kernel
theorem de_Gu_findLook_113 : decode prog_4_method_5_code 113 = .ok (.getfield 18, 3) := by decide +kernel
theorem de_Gu_findLook_116 : decode prog_4_method_5_code 116 = .ok (.iload_n 3, 1) := by decide +kernel
theorem de_Gu_findLook_117 : decode prog_4_method_5_code 117 = .ok (.iaload, 1) := by decide +kernel
theorem de_Gu_findLook_118 : decode prog_4_method_5_code 118 = .ok (.aload_n 0, 1) := by decide +kernel
theorem de_Gu_findLook_119 : decode prog_4_method_5_code 119 = .ok (.getfield 21, 3) := by decide +kernel
theorem de_Gu_findLook_122 : decode prog_4_method_5_code 122 = .ok (.aload_n 0, 1) := by decide +kernel
theorem de_Gu_findLook_123 : decode prog_4_method_5_code 123 = .ok (.getfield 18, 3) := by decide +kernel
theorem de_Gu_findLook_126 : decode prog_4_method_5_code 126 = .ok (.iload_n 3, 1) := by decide +kernel
theorem de_Gu_findLook_127 : decode prog_4_method_5_code 127 = .ok (.iaload, 1) := by decide +kernel
theorem de_Gu_findLook_128 : decode prog_4_method_5_code 128 = .ok (.isub, 1) := by decide +kernel
theorem de_Gu_findLook_129 : decode prog_4_method_5_code 129 = .ok (.invokestatic 79, 3) := by decide +kernel
theorem de_Gu_findLook_132 : decode prog_4_method_5_code 132 = .ok (.istore 4, 2) := by decide +kernel
theorem de_Gu_findLook_134 : decode prog_4_method_5_code 134 = .ok (.iload_n 3, 1) := by decide +kernel
theorem de_Gu_findLook_135 : decode prog_4_method_5_code 135 = .ok (.ifCond .eq 12, 3) := by decide +kernel
theorem de_Gu_findLook_138 : decode prog_4_method_5_code 138 = .ok (.iload 4, 2) := by decide +kernel
theorem de_Gu_findLook_140 : decode prog_4_method_5_code 140 = .ok (.aload_n 0, 1) := by decide +kernel
theorem de_Gu_findLook_141 : decode prog_4_method_5_code 141 = .ok (.getfield 84, 3) := by decide +kernel
theorem de_Gu_findLook_144 : decode prog_4_method_5_code 144 = .ok (.if_icmp .ge 14, 3) := by decide +kernel
theorem de_Gu_findLook_147 : decode prog_4_method_5_code 147 = .ok (.aload_n 0, 1) := by decide +kernel
theorem de_Gu_findLook_148 : decode prog_4_method_5_code 148 = .ok (.iload_n 3, 1) := by decide +kernel
theorem de_Gu_findLook_149 : decode prog_4_method_5_code 149 = .ok (.putfield 87, 3) := by decide +kernel
theorem de_Gu_findLook_152 : decode prog_4_method_5_code 152 = .ok (.aload_n 0, 1) := by decide +kernel
theorem de_Gu_findLook_153 : decode prog_4_method_5_code 153 = .ok (.iload 4, 2) := by decide +kernel
theorem de_Gu_findLook_155 : decode prog_4_method_5_code 155 = .ok (.putfield 84, 3) := by decide +kernel
theorem de_Gu_findLook_158 : decode prog_4_method_5_code 158 = .ok (.iinc 3 1, 3) := by decide +kernel
theorem de_Gu_findLook_161 : decode prog_4_method_5_code 161 = .ok (.goto (-59), 3) := by decide +kernel
theorem de_Gu_findLook_164 : decode prog_4_method_5_code 164 = .ok (.return_, 1) := by decide +kernel
set_option maxHeartbeats 4000000 in
set_option maxRecDepth 10000 in
theorem ls_Gu_findLook {o g : Nat} {f : Int → Int} {x B : Int} {w0 : ab_W} (hI : sg_ok B f) (hR : ri_at_j o f x w0) (hdj : o + 13 ≤ g ∨ g + 4 ≤ o) (nn : Int) (hn0 : 0 ≤ nn) (hn1 : nn ≤ 99) {an ra : Int → Int} (hE : en_ (gl f 84) an ra) (la gp : Int) (i h : Nat) (hi : i < (gl f 84).length) (hh : (h : Int) < f 1) (Q : Option ab_V → ab_W → Prop) (hq : ∀ (sn : Int → Int) (x6 : Option ab_V) (w : ab_W), gua g an ra (sp_many f 84) sn la gp w → sr_ f an ra sn nn i (5 * ((h + 1 : Nat) : Int)) → fr_at g 4 w0 w → ab_Ev g_G g_rs mt_Gu_findLook 3 0 0 88 [some (ab_R g), some (ab_R o), some (ab_I nn), some (ab_I (i : Int)), some (ab_I (h : Int)), some (ab_I (((cs_see f (h : Int) nn (an (i : Int)) (ra (i : Int))) : Nat) : Int)), x6] [] w Q) : ∀ (n : Nat) (s : Nat) (sn : Int → Int) (w : ab_W), s ≤ 5 → 5 < s + n → gua g an ra (sp_many f 84) sn la gp w → sr_ f an ra sn nn i (5 * (h : Int) + (s : Int)) → fr_at g 4 w0 w → ab_Ev g_G g_rs mt_Gu_findLook 3 0 0 54 [some (ab_R g), some (ab_R o), some (ab_I nn), some (ab_I (i : Int)), some (ab_I (h : Int)), some (ab_I (((cs_see f (h : Int) nn (an (i : Int)) (ra (i : Int))) : Nat) : Int)), some (ab_I (s : Int))] [] w Q := by
  intro n
  induction n with
  | zero =>
    intro s sn w
    intro e1 e2 hG hS hf; omega
  | succ n ih =>
    intro s sn w
    intro y1 y2 hG hS hf
    obtain ⟨g0, g1, g2, g3⟩ := id hG
    have hl := gl_len f 84
    have hR0 := hR; have hRw := rj_fr hR hf (by omega)
    have hR := hRw
    obtain ⟨sl, fs, vo, li, ra9, wo, dh, da, hzz⟩ := hR
    obtain ⟨ds, dn, vw, q0, q1, q2, q3, q4, hzz⟩ := hzz
    obtain ⟨q5, q6, q7, q8, q9, q10, q11, q12, hzz⟩ := hzz
    obtain ⟨e1, e2, e3, e4, e5, e6, e7, e8, e9⟩ := hzz
    obtain ⟨i0, i1, i2, i3, i4, i5, i6, i7, hzz⟩ := sg_all hI
    obtain ⟨i8, i9, i10, i11, i12, i13, i14, i15, hzz⟩ := hzz
    obtain ⟨i16, i17⟩ := hzz
    have sl := see_lt hI (h : Int) nn (an (i : Int)) (ra (i : Int))
    have e5h : (h : Int) * 5 + (s : Int) = (5 * (h : Int) + (s : Int)) := by omega
    refine ev_iload de_Gu_findLook_54 rfl ?_
    refine ev_iconst de_Gu_findLook_56 ?_
    refine ev_icmp_ge (tgt := 88) de_Gu_findLook_57 (by decide) (by omega) (by omega) (fun h57 => ?_) (fun h57 => ?_)
    · skip
      have es : s = 5 := by omega
      subst es
      exact hq _ _ _ hG (by rw [show 5 * ((h + 1 : Nat) : Int) = 5 * (h : Int) + ((5 : Nat) : Int) by omega]; exact hS) hf
    · skip
      refine ev_aload_n de_Gu_findLook_60 rfl rfl ?_
      refine ev_getfield de_Gu_findLook_61 g0 fl_Gu_18 rfl ?_
      refine ev_iload de_Gu_findLook_64 rfl ?_
      refine ev_iconst de_Gu_findLook_66 ?_
      refine ev_imul de_Gu_findLook_67 ?_
      refine ev_iload de_Gu_findLook_68 rfl ?_
      refine ev_iadd de_Gu_findLook_70 ?_
      refine ev_top (congrArg Sum.inl e5h) ?_
      refine ev_dup2 de_Gu_findLook_71 rfl rfl ?_
      refine ev_iaload de_Gu_findLook_72 g3 (by omega) (by omega) (by omega) ?_
      refine ev_iload de_Gu_findLook_73 rfl ?_
      refine ev_iload de_Gu_findLook_75 rfl ?_
      refine ev_ishr de_Gu_findLook_77 (by omega) (by omega) (by omega) ?_
      refine ev_iconst de_Gu_findLook_78 ?_
      refine ev_iand de_Gu_findLook_79 ?_
      refine ev_top (congrArg Sum.inl (show _ = bit_at (cs_see f (h : Int) nn (an (i : Int)) (ra (i : Int))) s from ab_bit (by omega) (by omega))) ?_
      refine ev_iadd de_Gu_findLook_80 ?_
      refine ev_iastore de_Gu_findLook_81 g3 (by omega) (by omega) (by omega) ?_
      refine ev_gen (P := fun w1 => gua g an ra (sp_many f 84) (ab_up sn (5 * (h : Int) + (s : Int)) (sn (5 * (h : Int) + (s : Int)) + bit_at (cs_see f (h : Int) nn (an (i : Int)) (ra (i : Int))) s)) la gp w1 ∧ fr_at g 4 w0 w1) ⟨gua_3 hG, fr_set hf (by omega) (by omega)⟩ (fun w1 hm1 => ?_)
      obtain ⟨hG, hf⟩ := hm1
      refine ev_iinc (l' := [_, _, _, _, _, _, _]) de_Gu_findLook_82 rfl rfl ?_
      refine ev_goto (tgt := 54) de_Gu_findLook_85 (by decide) ?_
      exact ih (s + 1) _ _ (by omega) (by omega) hG (by rw [show 5 * (h : Int) + ((s + 1 : Nat) : Int) = (5 * (h : Int) + (s : Int)) + 1 by omega]; exact sr_up hS (by rw [show (5 * (h : Int) + (s : Int)) / 5 = (h : Int) by omega, show ((5 * (h : Int) + (s : Int)) % 5).toNat = s by omega]) (by omega) (by omega)) hf
set_option maxHeartbeats 4000000 in
set_option maxRecDepth 10000 in
theorem lh_Gu_findLook {o g : Nat} {f : Int → Int} {x B : Int} {w0 : ab_W} (hI : sg_ok B f) (hR : ri_at_j o f x w0) (hdj : o + 13 ≤ g ∨ g + 4 ≤ o) (nn : Int) (hn0 : 0 ≤ nn) (hn1 : nn ≤ 99) {an ra : Int → Int} (hE : en_ (gl f 84) an ra) (la gp : Int) (i : Nat) (hi : i < (gl f 84).length) (Q : Option ab_V → ab_W → Prop) (hq : ∀ (sn : Int → Int) (x4 x5 x6 : Option ab_V) (w : ab_W), gua g an ra (sp_many f 84) sn la gp w → sr_ f an ra sn nn (i + 1) 0 → fr_at g 4 w0 w → ab_Ev g_G g_rs mt_Gu_findLook 3 0 0 94 [some (ab_R g), some (ab_R o), some (ab_I nn), some (ab_I (i : Int)), x4, x5, x6] [] w Q) : ∀ (n : Nat) (h : Nat) (sn : Int → Int) (x5 x6 : Option ab_V) (w : ab_W), (h : Int) ≤ f 1 → f 1 < h + n → gua g an ra (sp_many f 84) sn la gp w → sr_ f an ra sn nn i (5 * (h : Int)) → fr_at g 4 w0 w → ab_Ev g_G g_rs mt_Gu_findLook 3 0 0 21 [some (ab_R g), some (ab_R o), some (ab_I nn), some (ab_I (i : Int)), some (ab_I (h : Int)), x5, x6] [] w Q := by
  intro n
  induction n with
  | zero =>
    intro h sn x5 x6 w
    intro y1 y2 hG hS hf; omega
  | succ n ih =>
    intro h sn x5 x6 w
    intro y1 y2 hG hS hf
    obtain ⟨g0, g1, g2, g3⟩ := id hG
    have hl := gl_len f 84
    have hR0 := hR; have hRw := rj_fr hR hf (by omega)
    have hR := hRw
    obtain ⟨sl, fs, vo, li, ra9, wo, dh, da, hzz⟩ := hR
    obtain ⟨ds, dn, vw, q0, q1, q2, q3, q4, hzz⟩ := hzz
    obtain ⟨q5, q6, q7, q8, q9, q10, q11, q12, hzz⟩ := hzz
    obtain ⟨e1, e2, e3, e4, e5, e6, e7, e8, e9⟩ := hzz
    obtain ⟨i0, i1, i2, i3, i4, i5, i6, i7, hzz⟩ := sg_all hI
    obtain ⟨i8, i9, i10, i11, i12, i13, i14, i15, hzz⟩ := hzz
    obtain ⟨i16, i17⟩ := hzz
    obtain ⟨cc, hc⟩ : ∃ cc, (gl f 84)[i]? = some cc := ⟨_, List.getElem?_eq_getElem hi⟩
    obtain ⟨ea, er⟩ := hE i cc hc
    have cb := gl_b f 84 cc (List.mem_of_getElem? hc)
    refine ev_iload de_Gu_findLook_21 rfl ?_
    refine ev_aload_n de_Gu_findLook_23 rfl rfl ?_
    refine ev_getfield de_Gu_findLook_24 q0 fl_Gu_76 rfl ?_
    refine ev_icmp_ge (tgt := 94) de_Gu_findLook_27 (by decide) (by omega) (by omega) (fun h27 => ?_) (fun h27 => ?_)
    · skip
      have eh : (h : Int) = f 1 := by omega
      rw [eh] at hS
      exact hq _ _ _ _ _ hG (sr_nx hS) hf
    · skip
      refine ev_aload_n de_Gu_findLook_30 rfl rfl ?_
      refine ev_iload de_Gu_findLook_31 rfl ?_
      refine ev_iload_n de_Gu_findLook_33 rfl rfl ?_
      refine ev_aload_n de_Gu_findLook_34 rfl rfl ?_
      refine ev_getfield de_Gu_findLook_35 g0 fl_Gu_11 rfl ?_
      refine ev_iload_n de_Gu_findLook_38 rfl rfl ?_
      refine ev_iaload de_Gu_findLook_39 g1 (by omega) (by omega) (by omega) ?_
      refine ev_aload_n de_Gu_findLook_40 rfl rfl ?_
      refine ev_getfield de_Gu_findLook_41 g0 fl_Gu_15 rfl ?_
      refine ev_iload_n de_Gu_findLook_44 rfl rfl ?_
      refine ev_iaload de_Gu_findLook_45 g2 (by omega) (by omega) (by omega) ?_
      refine ev_sv de_Gu_findLook_46 (co_Gu_sortsSeen hI hRw _ _ _ _ (by omega) (by omega) hn0 hn1 (by omega) (by omega) (by omega) (by omega)) kb_Gu_60 sc_Gu_sortsSeen rfl (Nat.le_of_ble_eq_true rfl) (by decide) rfl ?_
      refine ev_istore (l' := [_, _, _, _, _, _, _]) de_Gu_findLook_49 (Nat.le_of_ble_eq_true rfl) rfl ?_
      refine ev_iconst de_Gu_findLook_51 ?_
      refine ev_istore (l' := [_, _, _, _, _, _, _]) de_Gu_findLook_52 (Nat.le_of_ble_eq_true rfl) rfl ?_
      refine ls_Gu_findLook hI hR0 hdj nn hn0 hn1 hE la gp i h hi (by omega) _ (fun sn x6 w hG hS hf => ?_) 6 0 sn w (by decide) (by decide) hG (by rw [show 5 * (h : Int) + ((0 : Nat) : Int) = 5 * (h : Int) by omega]; exact hS) hf
      refine ev_iinc (l' := [_, _, _, _, _, _, _]) de_Gu_findLook_88 rfl rfl ?_
      refine ev_goto (tgt := 21) de_Gu_findLook_91 (by decide) ?_
      exact ih (h + 1) _ _ _ _ (by omega) (by omega) hG hS hf
set_option maxHeartbeats 4000000 in
set_option maxRecDepth 10000 in
theorem lb_Gu_findLook {o g : Nat} {f : Int → Int} {x B : Int} {w0 : ab_W} (hI : sg_ok B f) (hR : ri_at_j o f x w0) (hdj : o + 13 ≤ g ∨ g + 4 ≤ o) (nn : Int) (hn0 : 0 ≤ nn) (hn1 : nn ≤ 99) {an ra : Int → Int} (hE : en_ (gl f 84) an ra) (hm : 0 < sp_many f 84) (h11 : 1 ≤ f 1) : ∀ (n : Nat) (k : Nat) (sn : Int → Int) (la gp : Int) (x4 x5 x6 : Option ab_V) (w : ab_W), (k : Int) ≤ 5 * f 1 → 5 * f 1 < k + n → gua g an ra (sp_many f 84) sn la gp w → sr_ f an ra sn nn (gl f 84).length 0 → (k = 0 ∨ (la = (sp_lk f nn 84 k).1 ∧ gp = (sp_lk f nn 84 k).2)) → fr_at g 4 w0 w → ab_Ev g_G g_rs mt_Gu_findLook 3 0 0 102 [some (ab_R g), some (ab_R o), some (ab_I nn), some (ab_I (k : Int)), x4, x5, x6] [] w (fun r w2 => r = none ∧ (∃ sn : Int → Int, gua g an ra (sp_many f 84) sn (sp_lk f nn 84 (5 * f 1).toNat).1 (sp_lk f nn 84 (5 * f 1).toNat).2 w2) ∧ fr_at g 4 w0 w2) := by
  intro n
  induction n with
  | zero =>
    intro k sn la gp x4 x5 x6 w
    intro y1 y2 hG hS hb hf; omega
  | succ n ih =>
    intro k sn la gp x4 x5 x6 w
    intro y1 y2 hG hS hb hf
    obtain ⟨g0, g1, g2, g3⟩ := id hG
    have hl := gl_len f 84
    have hR0 := hR; have hRw := rj_fr hR hf (by omega)
    have hR := hRw
    obtain ⟨sl, fs, vo, li, ra9, wo, dh, da, hzz⟩ := hR
    obtain ⟨ds, dn, vw, q0, q1, q2, q3, q4, hzz⟩ := hzz
    obtain ⟨q5, q6, q7, q8, q9, q10, q11, q12, hzz⟩ := hzz
    obtain ⟨e1, e2, e3, e4, e5, e6, e7, e8, e9⟩ := hzz
    obtain ⟨i0, i1, i2, i3, i4, i5, i6, i7, hzz⟩ := sg_all hI
    obtain ⟨i8, i9, i10, i11, i12, i13, i14, i15, hzz⟩ := hzz
    obtain ⟨i16, i17⟩ := hzz
    have es := lk_s hm nn k
    have gb := sp_gr_b f (k : Int) nn 84
    have lb := sp_lk_b f nn 84 (by decide) k
    refine ev_iload_n de_Gu_findLook_102 rfl rfl ?_
    refine ev_aload_n de_Gu_findLook_103 rfl rfl ?_
    refine ev_getfield de_Gu_findLook_104 q0 fl_Gu_76 rfl ?_
    refine ev_iconst de_Gu_findLook_107 ?_
    refine ev_imul de_Gu_findLook_108 ?_
    refine ev_icmp_ge (tgt := 164) de_Gu_findLook_109 (by decide) (by omega) (by omega) (fun h109 => ?_) (fun h109 => ?_)
    · skip
      have ek : (k : Int) = 5 * f 1 := by omega
      have ek2 : k = (5 * f 1).toNat := by omega
      have hb9 : la = (sp_lk f nn 84 (5 * f 1).toNat).1 ∧ gp = (sp_lk f nn 84 (5 * f 1).toNat).2 := by rw [← ek2]; exact hb.resolve_left (by omega)
      obtain ⟨rfl, rfl⟩ := hb9
      exact ev_return de_Gu_findLook_164 rfl ⟨rfl, ⟨_, hG⟩, hf⟩
    · skip
      have hs1 : sn (k : Int) = sp_is f (k : Int) nn 84 := by rw [hS (k : Int) (by omega) (by omega), if_neg (by omega), cnt_is hE]
      have ib := sp_is_b f (k : Int) nn 84
      have hgr := gr_max f (k : Int) nn
      refine ev_aload_n de_Gu_findLook_112 rfl rfl ?_
      refine ev_getfield de_Gu_findLook_113 g0 fl_Gu_18 rfl ?_
      refine ev_iload_n de_Gu_findLook_116 rfl rfl ?_
      refine ev_iaload de_Gu_findLook_117 g3 (by omega) (by omega) (by omega) ?_
      refine ev_top (congrArg Sum.inl hs1) ?_
      refine ev_aload_n de_Gu_findLook_118 rfl rfl ?_
      refine ev_getfield de_Gu_findLook_119 g0 fl_Gu_21 rfl ?_
      refine ev_aload_n de_Gu_findLook_122 rfl rfl ?_
      refine ev_getfield de_Gu_findLook_123 g0 fl_Gu_18 rfl ?_
      refine ev_iload_n de_Gu_findLook_126 rfl rfl ?_
      refine ev_iaload de_Gu_findLook_127 g3 (by omega) (by omega) (by omega) ?_
      refine ev_top (congrArg Sum.inl hs1) ?_
      refine ev_isub de_Gu_findLook_128 ?_
      refine ev_mmax (by omega) (by omega) de_Gu_findLook_129 mk_Gu_79 (Nat.le_of_ble_eq_true rfl) (by decide) ?_
      refine ev_top (congrArg Sum.inl hgr) ?_
      refine ev_istore (l' := [_, _, _, _, _, _, _]) de_Gu_findLook_132 (Nat.le_of_ble_eq_true rfl) rfl ?_
      refine ev_iload_n de_Gu_findLook_134 rfl rfl ?_
      refine ev_if_eq (tgt := 147) de_Gu_findLook_135 (by decide) (by omega) (fun h135 => ?_) (fun h135 => ?_)
      · skip
        have ez : k = 0 := by omega
        have hcd : k = 0 ∨ (sp_gr f (k : Int) nn 84) < (sp_lk f nn 84 k).2 := by omega
        rw [if_pos hcd] at es
        refine ev_aload_n de_Gu_findLook_147 rfl rfl ?_
        refine ev_iload_n de_Gu_findLook_148 rfl rfl ?_
        refine ev_putfield de_Gu_findLook_149 g0 (fp_Gu_87 _) (Nat.le_of_ble_eq_true rfl) trivial ?_
        refine ev_gen (P := fun w1 => gua g an ra (sp_many f 84) sn (k : Int) gp w1 ∧ fr_at g 4 w0 w1) ⟨gua_o hG, fr_set hf (by omega) (by omega)⟩ (fun w1 hm1 => ?_)
        obtain ⟨hG, hf⟩ := hm1
        obtain ⟨g0, g1, g2, g3⟩ := id hG
        refine ev_aload_n de_Gu_findLook_152 rfl rfl ?_
        refine ev_iload de_Gu_findLook_153 rfl ?_
        refine ev_putfield de_Gu_findLook_155 g0 (fp_Gu_84 _) (Nat.le_of_ble_eq_true rfl) trivial ?_
        refine ev_gen (P := fun w1 => gua g an ra (sp_many f 84) sn (k : Int) (sp_gr f (k : Int) nn 84) w1 ∧ fr_at g 4 w0 w1) ⟨gua_o hG, fr_set hf (by omega) (by omega)⟩ (fun w1 hm1 => ?_)
        obtain ⟨hG, hf⟩ := hm1
        have hb9 : (k : Int) = (sp_lk f nn 84 (k + 1)).1 ∧ (sp_gr f (k : Int) nn 84) = (sp_lk f nn 84 (k + 1)).2 := by rw [es]; exact ⟨rfl, rfl⟩
        refine ev_iinc (l' := [_, _, _, _, _, _, _]) de_Gu_findLook_158 rfl rfl ?_
        refine ev_goto (tgt := 102) de_Gu_findLook_161 (by decide) ?_
        exact ih (k + 1) _ _ _ _ _ _ _ (by omega) (by omega) hG hS (Or.inr hb9) hf
      · skip
        refine ev_iload de_Gu_findLook_138 rfl ?_
        refine ev_aload_n de_Gu_findLook_140 rfl rfl ?_
        refine ev_getfield de_Gu_findLook_141 g0 fl_Gu_84 rfl ?_
        refine ev_icmp_ge (tgt := 158) de_Gu_findLook_144 (by decide) (by first | omega | assumption) (by first | omega | assumption) (fun h144 => ?_) (fun h144 => ?_)
        · skip
          have hb9 : la = (sp_lk f nn 84 (k + 1)).1 ∧ gp = (sp_lk f nn 84 (k + 1)).2 := by rw [es, if_neg (by omega)]; exact hb.resolve_left (by omega)
          refine ev_iinc (l' := [_, _, _, _, _, _, _]) de_Gu_findLook_158 rfl rfl ?_
          refine ev_goto (tgt := 102) de_Gu_findLook_161 (by decide) ?_
          exact ih (k + 1) _ _ _ _ _ _ _ (by omega) (by omega) hG hS (Or.inr hb9) hf
        · skip
          have ez : (sp_gr f (k : Int) nn 84) < gp := by omega
          have hcd : k = 0 ∨ (sp_gr f (k : Int) nn 84) < (sp_lk f nn 84 k).2 := by omega
          rw [if_pos hcd] at es
          refine ev_aload_n de_Gu_findLook_147 rfl rfl ?_
          refine ev_iload_n de_Gu_findLook_148 rfl rfl ?_
          refine ev_putfield de_Gu_findLook_149 g0 (fp_Gu_87 _) (Nat.le_of_ble_eq_true rfl) trivial ?_
          refine ev_gen (P := fun w1 => gua g an ra (sp_many f 84) sn (k : Int) gp w1 ∧ fr_at g 4 w0 w1) ⟨gua_o hG, fr_set hf (by omega) (by omega)⟩ (fun w1 hm1 => ?_)
          obtain ⟨hG, hf⟩ := hm1
          obtain ⟨g0, g1, g2, g3⟩ := id hG
          refine ev_aload_n de_Gu_findLook_152 rfl rfl ?_
          refine ev_iload de_Gu_findLook_153 rfl ?_
          refine ev_putfield de_Gu_findLook_155 g0 (fp_Gu_84 _) (Nat.le_of_ble_eq_true rfl) trivial ?_
          refine ev_gen (P := fun w1 => gua g an ra (sp_many f 84) sn (k : Int) (sp_gr f (k : Int) nn 84) w1 ∧ fr_at g 4 w0 w1) ⟨gua_o hG, fr_set hf (by omega) (by omega)⟩ (fun w1 hm1 => ?_)
          obtain ⟨hG, hf⟩ := hm1
          have hb9 : (k : Int) = (sp_lk f nn 84 (k + 1)).1 ∧ (sp_gr f (k : Int) nn 84) = (sp_lk f nn 84 (k + 1)).2 := by rw [es]; exact ⟨rfl, rfl⟩
          refine ev_iinc (l' := [_, _, _, _, _, _, _]) de_Gu_findLook_158 rfl rfl ?_
          refine ev_goto (tgt := 102) de_Gu_findLook_161 (by decide) ?_
          exact ih (k + 1) _ _ _ _ _ _ _ (by omega) (by omega) hG hS (Or.inr hb9) hf
set_option maxHeartbeats 4000000 in
set_option maxRecDepth 10000 in
theorem lt_Gu_findLook {o g : Nat} {f : Int → Int} {x B : Int} {w0 : ab_W} (hI : sg_ok B f) (hR : ri_at_j o f x w0) (hdj : o + 13 ≤ g ∨ g + 4 ≤ o) (nn : Int) (hn0 : 0 ≤ nn) (hn1 : nn ≤ 99) {an ra : Int → Int} (hE : en_ (gl f 84) an ra) (hm : 0 < sp_many f 84) (h11 : 1 ≤ f 1) (la gp : Int) : ∀ (n : Nat) (i : Nat) (sn : Int → Int) (x4 x5 x6 : Option ab_V) (w : ab_W), i ≤ (gl f 84).length → (gl f 84).length < i + n → gua g an ra (sp_many f 84) sn la gp w → sr_ f an ra sn nn i 0 → fr_at g 4 w0 w → ab_Ev g_G g_rs mt_Gu_findLook 3 0 0 10 [some (ab_R g), some (ab_R o), some (ab_I nn), some (ab_I (i : Int)), x4, x5, x6] [] w (fun r w2 => r = none ∧ (∃ sn : Int → Int, gua g an ra (sp_many f 84) sn (sp_lk f nn 84 (5 * f 1).toNat).1 (sp_lk f nn 84 (5 * f 1).toNat).2 w2) ∧ fr_at g 4 w0 w2) := by
  intro n
  induction n with
  | zero =>
    intro i sn x4 x5 x6 w
    intro y1 y2 hG hS hf; omega
  | succ n ih =>
    intro i sn x4 x5 x6 w
    intro y1 y2 hG hS hf
    obtain ⟨g0, g1, g2, g3⟩ := id hG
    have hl := gl_len f 84
    have hR0 := hR; have hRw := rj_fr hR hf (by omega)
    have hR := hRw
    obtain ⟨sl, fs, vo, li, ra9, wo, dh, da, hzz⟩ := hR
    obtain ⟨ds, dn, vw, q0, q1, q2, q3, q4, hzz⟩ := hzz
    obtain ⟨q5, q6, q7, q8, q9, q10, q11, q12, hzz⟩ := hzz
    obtain ⟨e1, e2, e3, e4, e5, e6, e7, e8, e9⟩ := hzz
    obtain ⟨i0, i1, i2, i3, i4, i5, i6, i7, hzz⟩ := sg_all hI
    obtain ⟨i8, i9, i10, i11, i12, i13, i14, i15, hzz⟩ := hzz
    obtain ⟨i16, i17⟩ := hzz
    refine ev_iload_n de_Gu_findLook_10 rfl rfl ?_
    refine ev_aload_n de_Gu_findLook_11 rfl rfl ?_
    refine ev_getfield de_Gu_findLook_12 g0 fl_Gu_21 rfl ?_
    refine ev_icmp_ge (tgt := 100) de_Gu_findLook_15 (by decide) (by omega) (by omega) (fun h15 => ?_) (fun h15 => ?_)
    · skip
      have ei : i = (gl f 84).length := by omega
      subst ei
      refine ev_iconst de_Gu_findLook_100 ?_
      refine ev_istore_n (l' := [_, _, _, _, _, _, _]) de_Gu_findLook_101 rfl (Nat.le_of_ble_eq_true rfl) rfl ?_
      exact lb_Gu_findLook hI hR0 hdj nn hn0 hn1 hE hm h11 ((5 * f 1).toNat + 1) 0 sn la gp _ _ _ w (by omega) (by omega) hG hS (Or.inl rfl) hf
    · skip
      have hi : i < (gl f 84).length := by omega
      refine ev_iconst de_Gu_findLook_18 ?_
      refine ev_istore (l' := [_, _, _, _, _, _, _]) de_Gu_findLook_19 (Nat.le_of_ble_eq_true rfl) rfl ?_
      refine lh_Gu_findLook hI hR0 hdj nn hn0 hn1 hE la gp i hi _ (fun sn x4 x5 x6 w hG hS hf => ?_) 8 0 sn _ _ w (by omega) (by omega) hG hS hf
      refine ev_iinc (l' := [_, _, _, _, _, _, _]) de_Gu_findLook_94 rfl rfl ?_
      refine ev_goto (tgt := 10) de_Gu_findLook_97 (by decide) ?_
      exact ih (i + 1) _ _ _ _ _ (by omega) (by omega) hG hS hf
set_option maxHeartbeats 4000000 in
set_option maxRecDepth 10000 in
theorem co_Gu_findLook {o g : Nat} {f : Int → Int} {x B : Int} {w0 : ab_W} (hI : sg_ok B f) (hR : ri_at_j o f x w0) (hdj : o + 13 ≤ g ∨ g + 4 ≤ o) (nn : Int) (hn0 : 0 ≤ nn) (hn1 : nn ≤ 99) {an ra : Int → Int} (hE : en_ (gl f 84) an ra) (hm : 0 < sp_many f 84) (h11 : 1 ≤ f 1) {sn : Int → Int} {la gp : Int} (hG : gua g an ra (sp_many f 84) sn la gp w0) : ab_Mt g_G g_rs mt_Gu_findLook 3 0 0 [ab_R g, ab_R o, ab_I nn] w0 (fun r w2 => r = none ∧ (∃ sn : Int → Int, gua g an ra (sp_many f 84) sn (sp_lk f nn 84 (5 * f 1).toNat).1 (sp_lk f nn 84 (5 * f 1).toNat).2 w2) ∧ fr_at g 4 w0 w2) := by
  obtain ⟨g0, g1, g2, g3⟩ := id hG
  refine ab_Mt.of rfl (Nat.le_of_ble_eq_true rfl) ?_
  show ab_Ev g_G g_rs mt_Gu_findLook _ _ _ 0 [some (ab_R g), some (ab_R o), some (ab_I nn), none, none, none, none] [] _ _
  refine ev_aload_n de_Gu_findLook_0 rfl rfl ?_
  refine ev_getfield de_Gu_findLook_1 g0 fl_Gu_18 rfl ?_
  refine ev_iconst de_Gu_findLook_4 ?_
  refine ev_sn de_Gu_findLook_5 (co_Ar_fill_AIIV _ _ 35 sn 0 g3 (by decide)) kb_Gu_70 sc_Ar_fill_AIIV rfl (Nat.le_of_ble_eq_true rfl) (by decide) (by rw [List.length_set]) ?_
  refine ev_gen (P := fun w1 => gua g an ra (sp_many f 84) (ab_fv sn 0 ((35 : Nat) : Int)) la gp w1 ∧ fr_at g 4 w0 w1) ⟨gua_3 hG, fr_set fr_0 (by omega) (by omega)⟩ (fun w1 hm1 => ?_)
  obtain ⟨hG, hf⟩ := hm1
  refine ev_iconst de_Gu_findLook_8 ?_
  refine ev_istore_n (l' := [_, _, _, _, _, _, _]) de_Gu_findLook_9 rfl (Nat.le_of_ble_eq_true rfl) rfl ?_
  exact lt_Gu_findLook hI hR hdj nn hn0 hn1 hE hm h11 la gp ((gl f 84).length + 1) 0 _ _ _ _ w1 (by omega) (by omega) hG (fun k k0 k1 => by have b1 := (sg_all hI).2.1; unfold ab_fv; rw [if_pos (by omega), if_neg (by omega)]; rfl) hf
theorem de_Tu_look_0 : decode prog_1_method_34_code 0 = .ok (.aload_n 0, 1) := by decide +kernel
theorem de_Tu_look_1 : decode prog_1_method_34_code 1 = .ok (.getfield 19, 3) := by decide +kernel
theorem de_Tu_look_4 : decode prog_1_method_34_code 4 = .ok (.getfield 152, 3) := by decide +kernel
theorem de_Tu_look_7 : decode prog_1_method_34_code 7 = .ok (.ifCond .eq 22, 3) := by decide +kernel
theorem de_Tu_look_10 : decode prog_1_method_34_code 10 = .ok (.iload_n 1, 1) := by decide +kernel
theorem de_Tu_look_11 : decode prog_1_method_34_code 11 = .ok (.ifCond .lt 18, 3) := by decide +kernel
theorem de_Tu_look_14 : decode prog_1_method_34_code 14 = .ok (.iload_n 1, 1) := by decide +kernel
theorem de_Tu_look_15 : decode prog_1_method_34_code 15 = .ok (.bipush 99, 2) := by decide +kernel
theorem de_Tu_look_17 : decode prog_1_method_34_code 17 = .ok (.if_icmp .gt 12, 3) := by decide +kernel
theorem de_Tu_look_20 : decode prog_1_method_34_code 20 = .ok (.iload_n 2, 1) := by decide +kernel
theorem de_Tu_look_21 : decode prog_1_method_34_code 21 = .ok (.ifCond .lt 8, 3) := by decide +kernel
theorem de_Tu_look_24 : decode prog_1_method_34_code 24 = .ok (.iload_n 2, 1) := by decide +kernel
theorem de_Tu_look_25 : decode prog_1_method_34_code 25 = .ok (.iconst 2, 1) := by decide +kernel
theorem de_Tu_look_26 : decode prog_1_method_34_code 26 = .ok (.if_icmp .le 5, 3) := by decide +kernel
theorem de_Tu_look_29 : decode prog_1_method_34_code 29 = .ok (.iconst (-1), 1) := by decide +kernel
theorem de_Tu_look_30 : decode prog_1_method_34_code 30 = .ok (.ireturn, 1) := by decide +kernel
theorem de_Tu_look_31 : decode prog_1_method_34_code 31 = .ok (.aload_n 0, 1) := by decide +kernel
theorem de_Tu_look_32 : decode prog_1_method_34_code 32 = .ok (.getfield 78, 3) := by decide +kernel
theorem de_Tu_look_35 : decode prog_1_method_34_code 35 = .ok (.aload_n 0, 1) := by decide +kernel
theorem de_Tu_look_36 : decode prog_1_method_34_code 36 = .ok (.getfield 19, 3) := by decide +kernel
theorem de_Tu_look_39 : decode prog_1_method_34_code 39 = .ok (.invokevirtual 313, 3) := by decide +kernel
theorem de_Tu_look_42 : decode prog_1_method_34_code 42 = .ok (.aload_n 0, 1) := by decide +kernel
theorem de_Tu_look_43 : decode prog_1_method_34_code 43 = .ok (.getfield 78, 3) := by decide +kernel
theorem de_Tu_look_46 : decode prog_1_method_34_code 46 = .ok (.getfield 316, 3) := by decide +kernel
theorem de_Tu_look_49 : decode prog_1_method_34_code 49 = .ok (.ifCond .eq 13, 3) := by decide +kernel
theorem de_Tu_look_52 : decode prog_1_method_34_code 52 = .ok (.aload_n 0, 1) := by decide +kernel
theorem de_Tu_look_53 : decode prog_1_method_34_code 53 = .ok (.getfield 19, 3) := by decide +kernel
theorem de_Tu_look_56 : decode prog_1_method_34_code 56 = .ok (.getfield 102, 3) := by decide +kernel
theorem de_Tu_look_59 : decode prog_1_method_34_code 59 = .ok (.ifCond .ne 6, 3) := by decide +kernel
theorem de_Tu_look_62 : decode prog_1_method_34_code 62 = .ok (.bipush (-2), 2) := by decide +kernel
theorem de_Tu_look_64 : decode prog_1_method_34_code 64 = .ok (.ireturn, 1) := by decide +kernel
theorem de_Tu_look_65 : decode prog_1_method_34_code 65 = .ok (.aload_n 0, 1) := by decide +kernel
theorem de_Tu_look_66 : decode prog_1_method_34_code 66 = .ok (.getfield 78, 3) := by decide +kernel
theorem de_Tu_look_69 : decode prog_1_method_34_code 69 = .ok (.aload_n 0, 1) := by decide +kernel
theorem de_Tu_look_70 : decode prog_1_method_34_code 70 = .ok (.getfield 19, 3) := by decide +kernel
theorem de_Tu_look_73 : decode prog_1_method_34_code 73 = .ok (.iload_n 1, 1) := by decide +kernel
theorem de_Tu_look_74 : decode prog_1_method_34_code 74 = .ok (.invokevirtual 324, 3) := by decide +kernel
theorem de_Tu_look_77 : decode prog_1_method_34_code 77 = .ok (.iload_n 2, 1) := by decide +kernel
theorem de_Tu_look_78 : decode prog_1_method_34_code 78 = .ok (.iconst 2, 1) := by decide +kernel
theorem de_Tu_look_79 : decode prog_1_method_34_code 79 = .ok (.if_icmp .ne 11, 3) := by decide +kernel
theorem de_Tu_look_82 : decode prog_1_method_34_code 82 = .ok (.aload_n 0, 1) := by decide +kernel
theorem de_Tu_look_83 : decode prog_1_method_34_code 83 = .ok (.getfield 78, 3) := by decide +kernel
theorem de_Tu_look_86 : decode prog_1_method_34_code 86 = .ok (.getfield 328, 3) := by decide +kernel
theorem de_Tu_look_89 : decode prog_1_method_34_code 89 = .ok (.ireturn, 1) := by decide +kernel
theorem de_Tu_look_90 : decode prog_1_method_34_code 90 = .ok (.iload_n 2, 1) := by decide +kernel
theorem de_Tu_look_91 : decode prog_1_method_34_code 91 = .ok (.ifCond .ne 15, 3) := by decide +kernel
theorem de_Tu_look_94 : decode prog_1_method_34_code 94 = .ok (.aload_n 0, 1) := by decide +kernel
theorem de_Tu_look_95 : decode prog_1_method_34_code 95 = .ok (.getfield 78, 3) := by decide +kernel
theorem de_Tu_look_98 : decode prog_1_method_34_code 98 = .ok (.getfield 331, 3) := by decide +kernel
theorem de_Tu_look_101 : decode prog_1_method_34_code 101 = .ok (.iconst 5, 1) := by decide +kernel
theorem de_Tu_look_102 : decode prog_1_method_34_code 102 = .ok (.idiv, 1) := by decide +kernel
theorem de_Tu_look_103 : decode prog_1_method_34_code 103 = .ok (.goto 12, 3) := by decide +kernel
theorem de_Tu_look_106 : decode prog_1_method_34_code 106 = .ok (.aload_n 0, 1) := by decide +kernel
theorem de_Tu_look_107 : decode prog_1_method_34_code 107 = .ok (.getfield 78, 3) := by decide +kernel
theorem de_Tu_look_110 : decode prog_1_method_34_code 110 = .ok (.getfield 331, 3) := by decide +kernel
theorem de_Tu_look_113 : decode prog_1_method_34_code 113 = .ok (.iconst 5, 1) := by decide +kernel
theorem de_Tu_look_114 : decode prog_1_method_34_code 114 = .ok (.irem, 1) := by decide +kernel
theorem de_Tu_look_115 : decode prog_1_method_34_code 115 = .ok (.ireturn, 1) := by decide +kernel
set_option maxHeartbeats 4000000 in
set_option maxRecDepth 10000 in
theorem co_Tu_look {a b : Nat} {rc : Int} {f : Int → Int} {x B : Int} {w : ab_W} (hI : sg_ok B f) (t0 : tu_at a b rc w) (hR : ri_at_j a f x w) (hab : a = 3 ∨ a = 16) (hd : ∀ k, 0 ≤ k → k < f 190 → f (150 + 4 * k) < f 1) {an0 ra0 sn : Int → Int} {tu0 la gp : Int} (hGu : gua 51 an0 ra0 tu0 sn la gp w) (y1 : Int) (hy1 : ab_in y1) (y2 : Int) (hy2 : ab_in y2) : ab_Mt g_G g_rs mt_Tu_look 4 0 0 [ab_R 0, ab_I y1, ab_I y2] w (fun r w2 => w2.length = w.length ∧ r = some (ab_I (if f 0 = 1 ∧ (0 ≤ y1 ∧ y1 ≤ 99) ∧ 0 ≤ y2 ∧ y2 ≤ 2 then sp_look f y1 y2 else -1))) := by
  have ht0 := t0
  have hR0 := hR
  have hI0 := hI
  unfold tu_at at t0
  obtain ⟨sl, fs, vo, li, ra, wo, dh, da, hzz⟩ := hR
  obtain ⟨ds, dn, vw, q0, q1, q2, q3, q4, hzz⟩ := hzz
  obtain ⟨q5, q6, q7, q8, q9, q10, q11, q12, hzz⟩ := hzz
  obtain ⟨e1, e2, e3, e4, e5, e6, e7, e8, e9⟩ := hzz
  obtain ⟨i0, i1, i2, i3, i4, i5, i6, i7, hzz⟩ := sg_all hI
  obtain ⟨i8, i9, i10, i11, i12, i13, i14, i15, hzz⟩ := hzz
  obtain ⟨i16, i17⟩ := hzz
  obtain ⟨gg0, gg1, gg2, gg3⟩ := id hGu
  refine ab_Mt.of rfl (Nat.le_of_ble_eq_true rfl) ?_
  show ab_Ev g_G g_rs mt_Tu_look _ _ _ 0 [some (ab_R 0), some (ab_I y1), some (ab_I y2)] [] _ _
  refine ev_aload_n de_Tu_look_0 rfl rfl ?_
  refine ev_getfield de_Tu_look_1 t0 fl_Tu_19 rfl ?_
  refine ev_getfield de_Tu_look_4 q0 fl_Tu_152 rfl ?_
  refine ev_if_eq (tgt := 29) de_Tu_look_7 (by decide) (by first | omega | assumption) (fun h7 => ?_) (fun h7 => ?_)
  · skip
    refine ev_iconst de_Tu_look_29 ?_
    exact ev_ireturn de_Tu_look_30 rfl ⟨rfl, congrArg (fun z => some (ab_I z)) (by rw [if_neg (fun z => by omega)])⟩
  · skip
    refine ev_iload_n de_Tu_look_10 rfl rfl ?_
    refine ev_if_lt (tgt := 29) de_Tu_look_11 (by decide) (by first | omega | assumption) (fun h11 => ?_) (fun h11 => ?_)
    · skip
      refine ev_iconst de_Tu_look_29 ?_
      exact ev_ireturn de_Tu_look_30 rfl ⟨rfl, congrArg (fun z => some (ab_I z)) (by rw [if_neg (fun z => by omega)])⟩
    · skip
      refine ev_iload_n de_Tu_look_14 rfl rfl ?_
      refine ev_bipush de_Tu_look_15 rfl ?_
      refine ev_icmp_gt (tgt := 29) de_Tu_look_17 (by decide) (by first | omega | assumption) (by first | omega | assumption) (fun h17 => ?_) (fun h17 => ?_)
      · skip
        refine ev_iconst de_Tu_look_29 ?_
        exact ev_ireturn de_Tu_look_30 rfl ⟨rfl, congrArg (fun z => some (ab_I z)) (by rw [if_neg (fun z => by omega)])⟩
      · skip
        refine ev_iload_n de_Tu_look_20 rfl rfl ?_
        refine ev_if_lt (tgt := 29) de_Tu_look_21 (by decide) (by first | omega | assumption) (fun h21 => ?_) (fun h21 => ?_)
        · skip
          refine ev_iconst de_Tu_look_29 ?_
          exact ev_ireturn de_Tu_look_30 rfl ⟨rfl, congrArg (fun z => some (ab_I z)) (by rw [if_neg (fun z => by omega)])⟩
        · skip
          refine ev_iload_n de_Tu_look_24 rfl rfl ?_
          refine ev_iconst de_Tu_look_25 ?_
          refine ev_icmp_le (tgt := 31) de_Tu_look_26 (by decide) (by first | omega | assumption) (by first | omega | assumption) (fun h26 => ?_) (fun h26 => ?_)
          · skip
            refine ev_aload_n de_Tu_look_31 rfl rfl ?_
            refine ev_getfield de_Tu_look_32 t0 fl_Tu_78 rfl ?_
            refine ev_aload_n de_Tu_look_35 rfl rfl ?_
            refine ev_getfield de_Tu_look_36 t0 fl_Tu_19 rfl ?_
            refine ev_virtual (ci := 2) (mc := 0) (ms := 0) (bc := 0) (bs := 0) de_Tu_look_39 (co_Gu_findTurns hI0 hR0 hd (by omega) sn la gp hGu) kb_Tu_313 ⟨im_Gu_findTurns, se_Gu_findTurns⟩ rfl gg0 rfl (Nat.le_of_ble_eq_true rfl) (by decide) (Or.inl (fun r w1 h => h.2.2.1)) (fun r1 w1 hm1 => ?_)
            obtain ⟨rfl, hG9, hf1⟩ := hm1
            · skip
              have t0 := (hf1.2 0 (by omega)).trans t0
              have hR0 := rj_fr hR0 hf1 (by omega)
              have hR := hR0
              obtain ⟨sl, fs, vo, li, ra, wo, dh, da, hzz⟩ := hR
              obtain ⟨ds, dn, vw, q0, q1, q2, q3, q4, hzz⟩ := hzz
              obtain ⟨q5, q6, q7, q8, q9, q10, q11, q12, hzz⟩ := hzz
              obtain ⟨e1, e2, e3, e4, e5, e6, e7, e8, e9⟩ := hzz
              obtain ⟨an, ra9, hG, hE⟩ := hG9
              obtain ⟨g0, g1, g2, g3⟩ := id hG
              have hgl := gl_len f 84
              have hg : f 0 = 1 ∧ (0 ≤ y1 ∧ y1 ≤ 99) ∧ 0 ≤ y2 ∧ y2 ≤ 2 := by omega
              rw [if_pos hg]
              have mb := hgl
              refine ev_aload_n de_Tu_look_42 rfl rfl ?_
              refine ev_getfield de_Tu_look_43 t0 fl_Tu_78 rfl ?_
              refine ev_getfield de_Tu_look_46 g0 fl_Tu_316 rfl ?_
              refine ev_if_eq (tgt := 62) de_Tu_look_49 (by decide) (by first | omega | assumption) (fun h49 => ?_) (fun h49 => ?_)
              · skip
                refine ev_bipush de_Tu_look_62 rfl ?_
                exact ev_ireturn de_Tu_look_64 rfl ⟨hf1.1, congrArg (fun z => some (ab_I z)) (by unfold sp_look; first | (rw [lk_no (by assumption) y1]; rfl) | (rw [show f 1 = 0 by omega]; rfl))⟩
              · skip
                refine ev_aload_n de_Tu_look_52 rfl rfl ?_
                refine ev_getfield de_Tu_look_53 t0 fl_Tu_19 rfl ?_
                refine ev_getfield de_Tu_look_56 q0 fl_Tu_102 rfl ?_
                refine ev_if_ne (tgt := 65) de_Tu_look_59 (by decide) (by first | omega | assumption) (fun h59 => ?_) (fun h59 => ?_)
                · skip
                  refine ev_aload_n de_Tu_look_65 rfl rfl ?_
                  refine ev_getfield de_Tu_look_66 t0 fl_Tu_78 rfl ?_
                  refine ev_aload_n de_Tu_look_69 rfl rfl ?_
                  refine ev_getfield de_Tu_look_70 t0 fl_Tu_19 rfl ?_
                  refine ev_iload_n de_Tu_look_73 rfl rfl ?_
                  have hm : 0 < sp_many f 84 := by omega
                  refine ev_virtual (ci := 2) (mc := 0) (ms := 0) (bc := 0) (bs := 0) de_Tu_look_74 (co_Gu_findLook hI0 hR0 (by omega) y1 (by omega) (by omega) hE hm (by omega) hG) kb_Tu_324 ⟨im_Gu_findLook, se_Gu_findLook⟩ rfl g0 rfl (Nat.le_of_ble_eq_true rfl) (by decide) (Or.inl (fun r w1 h => h.2.2.1)) (fun r1 w1 hm1 => ?_)
                  obtain ⟨rfl, hG9, hf2⟩ := hm1
                  · skip
                    have hl2 := hf2.1
                    have t0 := (hf2.2 0 (by omega)).trans t0
                    have hR0 := rj_fr hR0 hf2 (by omega)
                    have hR := hR0
                    obtain ⟨sl, fs, vo, li, ra8, wo, dh, da, hzz⟩ := hR
                    obtain ⟨ds, dn, vw, q0, q1, q2, q3, q4, hzz⟩ := hzz
                    obtain ⟨q5, q6, q7, q8, q9, q10, q11, q12, hzz⟩ := hzz
                    obtain ⟨e1, e2, e3, e4, e5, e6, e7, e8, e9⟩ := hzz
                    obtain ⟨sn9, hG⟩ := hG9
                    obtain ⟨g0, g1, g2, g3⟩ := id hG
                    have lb := sp_lk_b f y1 84 (by decide) (5 * f 1).toNat
                    have lp : 0 ≤ (sp_lk f y1 84 (5 * f 1).toNat).1 := by rw [show (5 * f 1).toNat = ((5 * f 1).toNat - 1) + 1 by omega]; exact lk_pos hm y1 _
                    refine ev_iload_n de_Tu_look_77 rfl rfl ?_
                    refine ev_iconst de_Tu_look_78 ?_
                    refine ev_icmp_ne (tgt := 90) de_Tu_look_79 (by decide) (by first | omega | assumption) (by first | omega | assumption) (fun h79 => ?_) (fun h79 => ?_)
                    · skip
                      refine ev_iload_n de_Tu_look_90 rfl rfl ?_
                      refine ev_if_ne (tgt := 106) de_Tu_look_91 (by decide) (by first | omega | assumption) (fun h91 => ?_) (fun h91 => ?_)
                      · skip
                        refine ev_aload_n de_Tu_look_106 rfl rfl ?_
                        refine ev_getfield de_Tu_look_107 t0 fl_Tu_78 rfl ?_
                        refine ev_getfield de_Tu_look_110 g0 fl_Tu_331 rfl ?_
                        refine ev_iconst de_Tu_look_113 ?_
                        refine ev_irem de_Tu_look_114 (by first | omega | assumption) (by first | omega | assumption) (by first | omega | assumption) ?_
                        refine ev_top (congrArg Sum.inl ((ab_tme _ 5 (by decide)).1 lp)) ?_
                        exact ev_ireturn de_Tu_look_115 rfl ⟨hl2.trans hf1.1, congrArg (fun z => some (ab_I z)) (by unfold sp_look; rw [if_neg (by omega)]; first | (rw [if_pos (by omega)]; done) | (rw [if_neg (by omega), if_pos (by omega)]; done))⟩
                      · skip
                        refine ev_aload_n de_Tu_look_94 rfl rfl ?_
                        refine ev_getfield de_Tu_look_95 t0 fl_Tu_78 rfl ?_
                        refine ev_getfield de_Tu_look_98 g0 fl_Tu_331 rfl ?_
                        refine ev_iconst de_Tu_look_101 ?_
                        refine ev_idiv de_Tu_look_102 (by first | omega | assumption) (by first | omega | assumption) (by first | omega | assumption) ?_
                        refine ev_top (congrArg Sum.inl ((ab_tde _ 5 (by decide)).1 lp)) ?_
                        refine ev_goto (tgt := 115) de_Tu_look_103 (by decide) ?_
                        exact ev_ireturn de_Tu_look_115 rfl ⟨hl2.trans hf1.1, congrArg (fun z => some (ab_I z)) (by unfold sp_look; rw [if_neg (by omega)]; first | (rw [if_pos (by omega)]; done) | (rw [if_neg (by omega), if_pos (by omega)]; done))⟩
                    · skip
                      refine ev_aload_n de_Tu_look_82 rfl rfl ?_
                      refine ev_getfield de_Tu_look_83 t0 fl_Tu_78 rfl ?_
                      refine ev_getfield de_Tu_look_86 g0 fl_Tu_328 rfl ?_
                      exact ev_ireturn de_Tu_look_89 rfl ⟨hl2.trans hf1.1, congrArg (fun z => some (ab_I z)) (by unfold sp_look; rw [if_neg (by omega), if_neg (by omega), if_neg (by omega)])⟩
                · skip
                  refine ev_bipush de_Tu_look_62 rfl ?_
                  exact ev_ireturn de_Tu_look_64 rfl ⟨hf1.1, congrArg (fun z => some (ab_I z)) (by unfold sp_look; first | (rw [lk_no (by assumption) y1]; rfl) | (rw [show f 1 = 0 by omega]; rfl))⟩
          · skip
            refine ev_iconst de_Tu_look_29 ?_
            exact ev_ireturn de_Tu_look_30 rfl ⟨rfl, congrArg (fun z => some (ab_I z)) (by rw [if_neg (fun z => by omega)])⟩
