/-! an ERRAND, days by draws: exactly -/
/-- the direction faced t HOURS on -/
def ef (f : Int → Int) (h : Int) : Int → Int := fun t => (f (46 + h) + cs_ang f t.toNat) % 12
theorem sp_drI {x : Int} (h0 : 0 ≤ x) (h1 : x ≤ 2147483647) : (Int64.ofInt x * Int64.ofInt 1103515245 + Int64.ofInt 12345 - (Int64.ofInt x * Int64.ofInt 1103515245 + Int64.ofInt 12345) / Int64.ofInt 2147483648 * Int64.ofInt 2147483648).toInt32.toInt = sp_draw x := by
  have b := sp_draw_b x
  rw [sp_drawL h0 h1, Int64.toInt_toInt32, Int64.toInt_ofInt_of_le (by omega) (by omega)]
  exact Int.bmod_eq_of_le (by omega) (by omega)
theorem de_Tu_nextDraw_0 : decode prog_1_method_36_code 0 = .ok (.iload_n 0, 1) := by decide +kernel
theorem de_Tu_nextDraw_1 : decode prog_1_method_36_code 1 = .ok (.i2l, 1) := by decide +kernel
theorem de_Tu_nextDraw_2 : decode prog_1_method_36_code 2 = .ok (.ldc2_w 342, 3) := by decide +kernel
theorem de_Tu_nextDraw_5 : decode prog_1_method_36_code 5 = .ok (.lmul, 1) := by decide +kernel
theorem de_Tu_nextDraw_6 : decode prog_1_method_36_code 6 = .ok (.ldc2_w 344, 3) := by decide +kernel
theorem de_Tu_nextDraw_9 : decode prog_1_method_36_code 9 = .ok (.ladd, 1) := by decide +kernel
theorem de_Tu_nextDraw_10 : decode prog_1_method_36_code 10 = .ok (.ldc2_w 346, 3) := by decide +kernel
theorem de_Tu_nextDraw_13 : decode prog_1_method_36_code 13 = .ok (.lrem, 1) := by decide +kernel
theorem de_Tu_nextDraw_14 : decode prog_1_method_36_code 14 = .ok (.l2i, 1) := by decide +kernel
theorem de_Tu_nextDraw_15 : decode prog_1_method_36_code 15 = .ok (.ireturn, 1) := by decide +kernel
set_option maxHeartbeats 4000000 in
set_option maxRecDepth 10000 in
theorem co_Tu_nextDraw (w : ab_W) (x0 : Int) (h0 : 0 ≤ x0) (h1 : x0 ≤ 2147483647) : ab_Mt g_G g_rs mt_Tu_nextDraw 0 0 0 [ab_I x0] w (ab_is (some (ab_I (sp_draw x0))) w) := by
  refine ab_Mt.of rfl (Nat.le_of_ble_eq_true rfl) ?_
  show ab_Ev g_G g_rs mt_Tu_nextDraw _ _ _ 0 [some (ab_I x0)] [] _ _
  refine ev_iload_n de_Tu_nextDraw_0 rfl rfl ?_
  refine ev_i2l de_Tu_nextDraw_1 (by omega) ?_
  refine ev_ldc2i (n := 1103515245) de_Tu_nextDraw_2 cn_Tu_342 (by decide) ?_
  refine ev_lmul de_Tu_nextDraw_5 ?_
  refine ev_ldc2i (n := 12345) de_Tu_nextDraw_6 cn_Tu_344 (by decide) ?_
  refine ev_ladd de_Tu_nextDraw_9 ?_
  refine ev_ldc2i (n := 2147483648) de_Tu_nextDraw_10 cn_Tu_346 (by decide) ?_
  refine ev_lrem de_Tu_nextDraw_13 (by decide) ?_
  refine ev_l2i de_Tu_nextDraw_14 ?_
  refine ev_top (congrArg Sum.inl (sp_drI h0 h1)) ?_
  exact ev_ireturn de_Tu_nextDraw_15 rfl ⟨rfl, rfl⟩
theorem dn_all {B p x L S : Int} {f : Int → Int} (hI : sg_ok B f) : ∀ k : Nat, (0 ≤ (sp_dd p f x L S k).1 4 ∧ (sp_dd p f x L S k).1 4 ≤ 11) ∧ (sp_dd p f x L S k).1 5 = (f 5 + (k : Int)) % 24 ∧ (sp_dd p f x L S k).1 7 = (if k = 0 then f 7 else 0) ∧ ∀ j, j ≠ 4 → j ≠ 5 → j ≠ 6 → j ≠ 7 → (j < 34 ∨ 46 ≤ j) → (sp_dd p f x L S k).1 j = f j := by
  have b4 := (sg_all hI).2.2.2.2.1
  have b5 := (sg_all hI).2.2.2.2.2.1
  intro k
  induction k with
  | zero =>
    refine ⟨b4, ?_, rfl, fun _ _ _ _ _ _ => rfl⟩
    show f 5 = (f 5 + ((0 : Nat) : Int)) % 24
    omega
  | succ k ih =>
    obtain ⟨e4, e5, e7, ej⟩ := ih
    have d4 : sp_d1 p (sp_dd p f x L S k).1 (sp_dd p f x L S k).2.1 4 = (sp_dd p f x L S k).1 4 := sp_d1_k _ _ _ (by decide)
    have d5 : sp_d1 p (sp_dd p f x L S k).1 (sp_dd p f x L S k).2.1 5 = (sp_dd p f x L S k).1 5 := sp_d1_k _ _ _ (by decide)
    have h4 : 0 ≤ sp_d1 p (sp_dd p f x L S k).1 (sp_dd p f x L S k).2.1 4 ∧ sp_d1 p (sp_dd p f x L S k).1 (sp_dd p f x L S k).2.1 4 ≤ 11 := by rw [d4]; exact e4
    refine ⟨?_, ?_, ?_, fun j a b c d e => ?_⟩
    · show 0 ≤ sp_passAt _ (sp_d1 p (sp_dd p f x L S k).1 (sp_dd p f x L S k).2.1) 4 ∧ sp_passAt _ (sp_d1 p (sp_dd p f x L S k).1 (sp_dd p f x L S k).2.1) 4 ≤ 11
      rw [pa_4 h4]
      split
      · exact h4
      · omega
    · show sp_passAt _ (sp_d1 p (sp_dd p f x L S k).1 (sp_dd p f x L S k).2.1) 5 = _
      rw [pa_5 h4, d5, e5]
      split <;> omega
    · show sp_passAt _ (sp_d1 p (sp_dd p f x L S k).1 (sp_dd p f x L S k).2.1) 7 = _
      rw [pa_7 h4, if_neg (by omega)]
    · show sp_passAt _ (sp_d1 p (sp_dd p f x L S k).1 (sp_dd p f x L S k).2.1) j = _
      rw [pa_j h4 a b c d e, sp_d1_k _ _ _ d]
      exact ej j a b c d e
theorem sum_cg {g h : Int → Int} : ∀ n : Nat, (∀ j : Int, 0 ≤ j → j < n → g j = h j) → sp_sum g n = sp_sum h n
  | 0, _ => rfl
  | n + 1, e => by
    have ih := sum_cg (g := g) (h := h) n (fun j a b => e j a (by omega))
    show sp_sum g n + g (n : Int) = sp_sum h n + h (n : Int)
    rw [ih, e (n : Int) (by omega) (by omega)]
/-- what all like, told by what is told -/
theorem al_cg {B : Int} {f g : Int → Int} (hI : sg_ok B f) (e : ∀ j, (j < 4 ∨ 46 ≤ j) → g j = f j) : cs_all f (g 4) (g 5) (f 1).toNat = sp_allLike g := by
  have b1 := (sg_all hI).2.1
  unfold cs_all sp_allLike
  rw [e 1 (Or.inl (by decide))]
  refine sum_cg _ (fun j a b => ?_)
  show sp_likesAt f j ((f (46 + j) + g 4) % 12) (g 5) = sp_likesAt g j ((g (46 + j) + g 4) % 12) (g 5)
  rw [e (46 + j) (by omega), li_cg a (by omega) (sg_all hI).2.2.1 (fun i hi => e i (by omega))]
def dt_ (ww : Int) (D : (Int → Int) × Int × Int × Int) : Int := if ww = 1 then D.2.2.2 else D.2.2.1
def dm_ (ww : Int) (D : Int × Int × Int) : Int := if ww = 1 then D.2.2 else D.2.1
theorem de_Tu_days_0 : decode prog_1_method_35_code 0 = .ok (.aload_n 0, 1) := by decide +kernel
theorem de_Tu_days_1 : decode prog_1_method_35_code 1 = .ok (.getfield 19, 3) := by decide +kernel
theorem de_Tu_days_4 : decode prog_1_method_35_code 4 = .ok (.getfield 152, 3) := by decide +kernel
theorem de_Tu_days_7 : decode prog_1_method_35_code 7 = .ok (.ifCond .eq 46, 3) := by decide +kernel
theorem de_Tu_days_10 : decode prog_1_method_35_code 10 = .ok (.iload_n 1, 1) := by decide +kernel
theorem de_Tu_days_11 : decode prog_1_method_35_code 11 = .ok (.iconst 1, 1) := by decide +kernel
theorem de_Tu_days_12 : decode prog_1_method_35_code 12 = .ok (.if_icmp .lt 41, 3) := by decide +kernel
theorem de_Tu_days_15 : decode prog_1_method_35_code 15 = .ok (.iload_n 1, 1) := by decide +kernel
theorem de_Tu_days_16 : decode prog_1_method_35_code 16 = .ok (.bipush 10, 2) := by decide +kernel
theorem de_Tu_days_18 : decode prog_1_method_35_code 18 = .ok (.if_icmp .gt 35, 3) := by decide +kernel
theorem de_Tu_days_21 : decode prog_1_method_35_code 21 = .ok (.iload_n 2, 1) := by decide +kernel
theorem de_Tu_days_22 : decode prog_1_method_35_code 22 = .ok (.iconst 1, 1) := by decide +kernel
theorem de_Tu_days_23 : decode prog_1_method_35_code 23 = .ok (.if_icmp .lt 30, 3) := by decide +kernel
theorem de_Tu_days_26 : decode prog_1_method_35_code 26 = .ok (.iload_n 2, 1) := by decide +kernel
theorem de_Tu_days_27 : decode prog_1_method_35_code 27 = .ok (.bipush 96, 2) := by decide +kernel
theorem de_Tu_days_29 : decode prog_1_method_35_code 29 = .ok (.if_icmp .gt 24, 3) := by decide +kernel
theorem de_Tu_days_32 : decode prog_1_method_35_code 32 = .ok (.iload_n 3, 1) := by decide +kernel
theorem de_Tu_days_33 : decode prog_1_method_35_code 33 = .ok (.ifCond .lt 20, 3) := by decide +kernel
theorem de_Tu_days_36 : decode prog_1_method_35_code 36 = .ok (.iload_n 3, 1) := by decide +kernel
theorem de_Tu_days_37 : decode prog_1_method_35_code 37 = .ok (.bipush 100, 2) := by decide +kernel
theorem de_Tu_days_39 : decode prog_1_method_35_code 39 = .ok (.if_icmp .gt 14, 3) := by decide +kernel
theorem de_Tu_days_42 : decode prog_1_method_35_code 42 = .ok (.iload 4, 2) := by decide +kernel
theorem de_Tu_days_44 : decode prog_1_method_35_code 44 = .ok (.ifCond .lt 9, 3) := by decide +kernel
theorem de_Tu_days_47 : decode prog_1_method_35_code 47 = .ok (.iload 4, 2) := by decide +kernel
theorem de_Tu_days_49 : decode prog_1_method_35_code 49 = .ok (.iconst 1, 1) := by decide +kernel
theorem de_Tu_days_50 : decode prog_1_method_35_code 50 = .ok (.if_icmp .le 7, 3) := by decide +kernel
theorem de_Tu_days_53 : decode prog_1_method_35_code 53 = .ok (.ldc_w 334, 3) := by decide +kernel
theorem de_Tu_days_56 : decode prog_1_method_35_code 56 = .ok (.ireturn, 1) := by decide +kernel
theorem de_Tu_days_57 : decode prog_1_method_35_code 57 = .ok (.aload_n 0, 1) := by decide +kernel
theorem de_Tu_days_58 : decode prog_1_method_35_code 58 = .ok (.getfield 19, 3) := by decide +kernel
theorem de_Tu_days_61 : decode prog_1_method_35_code 61 = .ok (.getfield 96, 3) := by decide +kernel
theorem de_Tu_days_64 : decode prog_1_method_35_code 64 = .ok (.istore 5, 2) := by decide +kernel
theorem de_Tu_days_66 : decode prog_1_method_35_code 66 = .ok (.iconst 0, 1) := by decide +kernel
theorem de_Tu_days_67 : decode prog_1_method_35_code 67 = .ok (.istore 6, 2) := by decide +kernel
theorem de_Tu_days_69 : decode prog_1_method_35_code 69 = .ok (.iconst 0, 1) := by decide +kernel
theorem de_Tu_days_70 : decode prog_1_method_35_code 70 = .ok (.istore 7, 2) := by decide +kernel
theorem de_Tu_days_72 : decode prog_1_method_35_code 72 = .ok (.iload 7, 2) := by decide +kernel
theorem de_Tu_days_74 : decode prog_1_method_35_code 74 = .ok (.iload_n 1, 1) := by decide +kernel
theorem de_Tu_days_75 : decode prog_1_method_35_code 75 = .ok (.if_icmp .ge 154, 3) := by decide +kernel
theorem de_Tu_days_78 : decode prog_1_method_35_code 78 = .ok (.aload_n 0, 1) := by decide +kernel
theorem de_Tu_days_79 : decode prog_1_method_35_code 79 = .ok (.getfield 19, 3) := by decide +kernel
theorem de_Tu_days_82 : decode prog_1_method_35_code 82 = .ok (.getfield 177, 3) := by decide +kernel
theorem de_Tu_days_85 : decode prog_1_method_35_code 85 = .ok (.istore 8, 2) := by decide +kernel
theorem de_Tu_days_87 : decode prog_1_method_35_code 87 = .ok (.aload_n 0, 1) := by decide +kernel
theorem de_Tu_days_88 : decode prog_1_method_35_code 88 = .ok (.getfield 19, 3) := by decide +kernel
theorem de_Tu_days_91 : decode prog_1_method_35_code 91 = .ok (.getfield 186, 3) := by decide +kernel
theorem de_Tu_days_94 : decode prog_1_method_35_code 94 = .ok (.istore 9, 2) := by decide +kernel
theorem de_Tu_days_96 : decode prog_1_method_35_code 96 = .ok (.iconst 0, 1) := by decide +kernel
theorem de_Tu_days_97 : decode prog_1_method_35_code 97 = .ok (.istore 10, 2) := by decide +kernel
theorem de_Tu_days_99 : decode prog_1_method_35_code 99 = .ok (.iload 10, 2) := by decide +kernel
theorem de_Tu_days_101 : decode prog_1_method_35_code 101 = .ok (.iload_n 2, 1) := by decide +kernel
theorem de_Tu_days_102 : decode prog_1_method_35_code 102 = .ok (.if_icmp .ge 121, 3) := by decide +kernel
theorem de_Tu_days_105 : decode prog_1_method_35_code 105 = .ok (.iload 5, 2) := by decide +kernel
theorem de_Tu_days_107 : decode prog_1_method_35_code 107 = .ok (.invokestatic 335, 3) := by decide +kernel
theorem de_Tu_days_110 : decode prog_1_method_35_code 110 = .ok (.istore 5, 2) := by decide +kernel
theorem de_Tu_days_112 : decode prog_1_method_35_code 112 = .ok (.iload 9, 2) := by decide +kernel
theorem de_Tu_days_114 : decode prog_1_method_35_code 114 = .ok (.ifCond .ne 16, 3) := by decide +kernel
theorem de_Tu_days_117 : decode prog_1_method_35_code 117 = .ok (.iload 5, 2) := by decide +kernel
theorem de_Tu_days_119 : decode prog_1_method_35_code 119 = .ok (.ldc_w 338, 3) := by decide +kernel
theorem de_Tu_days_122 : decode prog_1_method_35_code 122 = .ok (.idiv, 1) := by decide +kernel
theorem de_Tu_days_123 : decode prog_1_method_35_code 123 = .ok (.bipush 100, 2) := by decide +kernel
theorem de_Tu_days_125 : decode prog_1_method_35_code 125 = .ok (.irem, 1) := by decide +kernel
theorem de_Tu_days_126 : decode prog_1_method_35_code 126 = .ok (.iload_n 3, 1) := by decide +kernel
theorem de_Tu_days_127 : decode prog_1_method_35_code 127 = .ok (.if_icmp .ge 7, 3) := by decide +kernel
theorem de_Tu_days_130 : decode prog_1_method_35_code 130 = .ok (.iconst 1, 1) := by decide +kernel
theorem de_Tu_days_131 : decode prog_1_method_35_code 131 = .ok (.goto 4, 3) := by decide +kernel
theorem de_Tu_days_134 : decode prog_1_method_35_code 134 = .ok (.iconst 0, 1) := by decide +kernel
theorem de_Tu_days_135 : decode prog_1_method_35_code 135 = .ok (.istore 9, 2) := by decide +kernel
theorem de_Tu_days_137 : decode prog_1_method_35_code 137 = .ok (.iload 9, 2) := by decide +kernel
theorem de_Tu_days_139 : decode prog_1_method_35_code 139 = .ok (.ifCond .eq 7, 3) := by decide +kernel
theorem de_Tu_days_142 : decode prog_1_method_35_code 142 = .ok (.iconst 0, 1) := by decide +kernel
theorem de_Tu_days_143 : decode prog_1_method_35_code 143 = .ok (.goto 20, 3) := by decide +kernel
theorem de_Tu_days_146 : decode prog_1_method_35_code 146 = .ok (.aload_n 0, 1) := by decide +kernel
theorem de_Tu_days_147 : decode prog_1_method_35_code 147 = .ok (.getfield 19, 3) := by decide +kernel
theorem de_Tu_days_150 : decode prog_1_method_35_code 150 = .ok (.getfield 165, 3) := by decide +kernel
theorem de_Tu_days_153 : decode prog_1_method_35_code 153 = .ok (.aload_n 0, 1) := by decide +kernel
theorem de_Tu_days_154 : decode prog_1_method_35_code 154 = .ok (.getfield 19, 3) := by decide +kernel
theorem de_Tu_days_157 : decode prog_1_method_35_code 157 = .ok (.iload 10, 2) := by decide +kernel
theorem de_Tu_days_159 : decode prog_1_method_35_code 159 = .ok (.invokevirtual 247, 3) := by decide +kernel
theorem de_Tu_days_162 : decode prog_1_method_35_code 162 = .ok (.iaload, 1) := by decide +kernel
theorem de_Tu_days_163 : decode prog_1_method_35_code 163 = .ok (.istore 11, 2) := by decide +kernel
theorem de_Tu_days_165 : decode prog_1_method_35_code 165 = .ok (.iconst 0, 1) := by decide +kernel
theorem de_Tu_days_166 : decode prog_1_method_35_code 166 = .ok (.istore 9, 2) := by decide +kernel
theorem de_Tu_days_168 : decode prog_1_method_35_code 168 = .ok (.iload 8, 2) := by decide +kernel
theorem de_Tu_days_170 : decode prog_1_method_35_code 170 = .ok (.iload 11, 2) := by decide +kernel
theorem de_Tu_days_172 : decode prog_1_method_35_code 172 = .ok (.iadd, 1) := by decide +kernel
theorem de_Tu_days_173 : decode prog_1_method_35_code 173 = .ok (.invokestatic 339, 3) := by decide +kernel
theorem de_Tu_days_176 : decode prog_1_method_35_code 176 = .ok (.istore 8, 2) := by decide +kernel
theorem de_Tu_days_178 : decode prog_1_method_35_code 178 = .ok (.iload 6, 2) := by decide +kernel
theorem de_Tu_days_180 : decode prog_1_method_35_code 180 = .ok (.iload 4, 2) := by decide +kernel
theorem de_Tu_days_182 : decode prog_1_method_35_code 182 = .ok (.iconst 1, 1) := by decide +kernel
theorem de_Tu_days_183 : decode prog_1_method_35_code 183 = .ok (.if_icmp .ne 11, 3) := by decide +kernel
theorem de_Tu_days_186 : decode prog_1_method_35_code 186 = .ok (.iload 11, 2) := by decide +kernel
theorem de_Tu_days_188 : decode prog_1_method_35_code 188 = .ok (.invokestatic 259, 3) := by decide +kernel
theorem de_Tu_days_191 : decode prog_1_method_35_code 191 = .ok (.goto 23, 3) := by decide +kernel
theorem de_Tu_days_194 : decode prog_1_method_35_code 194 = .ok (.aload_n 0, 1) := by decide +kernel
theorem de_Tu_days_195 : decode prog_1_method_35_code 195 = .ok (.getfield 19, 3) := by decide +kernel
theorem de_Tu_days_198 : decode prog_1_method_35_code 198 = .ok (.iload 8, 2) := by decide +kernel
theorem de_Tu_days_200 : decode prog_1_method_35_code 200 = .ok (.aload_n 0, 1) := by decide +kernel
theorem de_Tu_days_201 : decode prog_1_method_35_code 201 = .ok (.getfield 19, 3) := by decide +kernel
theorem de_Tu_days_204 : decode prog_1_method_35_code 204 = .ok (.iload 10, 2) := by decide +kernel
theorem de_Tu_days_206 : decode prog_1_method_35_code 206 = .ok (.iconst 1, 1) := by decide +kernel
theorem de_Tu_days_207 : decode prog_1_method_35_code 207 = .ok (.iadd, 1) := by decide +kernel
theorem de_Tu_days_208 : decode prog_1_method_35_code 208 = .ok (.invokevirtual 247, 3) := by decide +kernel
theorem de_Tu_days_211 : decode prog_1_method_35_code 211 = .ok (.invokevirtual 183, 3) := by decide +kernel
theorem de_Tu_days_214 : decode prog_1_method_35_code 214 = .ok (.iadd, 1) := by decide +kernel
theorem de_Tu_days_215 : decode prog_1_method_35_code 215 = .ok (.istore 6, 2) := by decide +kernel
theorem de_Tu_days_217 : decode prog_1_method_35_code 217 = .ok (.iinc 10 1, 3) := by decide +kernel
theorem de_Tu_days_220 : decode prog_1_method_35_code 220 = .ok (.goto (-121), 3) := by decide +kernel
theorem de_Tu_days_223 : decode prog_1_method_35_code 223 = .ok (.iinc 7 1, 3) := by decide +kernel
theorem de_Tu_days_226 : decode prog_1_method_35_code 226 = .ok (.goto (-154), 3) := by decide +kernel
theorem de_Tu_days_229 : decode prog_1_method_35_code 229 = .ok (.iload 6, 2) := by decide +kernel
theorem de_Tu_days_231 : decode prog_1_method_35_code 231 = .ok (.ireturn, 1) := by decide +kernel
set_option maxHeartbeats 4000000 in
set_option maxRecDepth 10000 in
theorem lj_Tu_days {a b : Nat} {rc : Int} {f : Int → Int} {x B : Int} {w : ab_W} (hI : sg_ok B f) (t0 : tu_at a b rc w) (hR : ri_at_j a f x w) (mm pp ww : Int) (hp : 0 ≤ pp ∧ pp ≤ 100) (hw : ww = 0 ∨ ww = 1) (nn : Nat) (hn : nn ≤ 96) (x0 L0 S0 y : Int) (k : Nat) (hk : k < nn) (s : Int) (hs : s = (sp_d1 pp (sp_dd pp f x0 L0 S0 k).1 (sp_dd pp f x0 L0 S0 k).2.1) 7) (hs01 : s = 0 ∨ s = 1) (l9 l11 : Option ab_V) (Q : Option ab_V → ab_W → Prop) (hq : ∀ l11 : Option ab_V, ab_Ev g_G g_rs mt_Tu_days 3 0 0 99 [some (ab_R 0), some (ab_I mm), some (ab_I (nn : Int)), some (ab_I pp), some (ab_I ww), some (ab_I (sp_dd pp f x0 L0 S0 (k + 1)).2.1), some (ab_I (dt_ ww (sp_dd pp f x0 L0 S0 (k + 1)))), some (ab_I y), some (ab_I ((sp_dd pp f x0 L0 S0 (k + 1)).1 4)), some (ab_I ((sp_dd pp f x0 L0 S0 (k + 1)).1 7)), some (ab_I ((k + 1 : Nat) : Int)), l11] [] w Q) : ab_Ev g_G g_rs mt_Tu_days 3 0 0 135 [some (ab_R 0), some (ab_I mm), some (ab_I (nn : Int)), some (ab_I pp), some (ab_I ww), some (ab_I (sp_draw (sp_dd pp f x0 L0 S0 k).2.1)), some (ab_I (dt_ ww (sp_dd pp f x0 L0 S0 k))), some (ab_I y), some (ab_I ((sp_dd pp f x0 L0 S0 k).1 4)), l9, some (ab_I (k : Int)), l11] [ab_I s] w Q := by
  have ht0 := t0
  have hR0 := hR
  have hI0 := hI
  unfold tu_at at t0
  obtain ⟨sl, fs, vo, li, ra, wo, dh, da, hzz⟩ := hR
  obtain ⟨ds, dn, vw, q0, q1, q2, q3, q4, hzz⟩ := hzz
  obtain ⟨q5, q6, q7, q8, q9, q10, q11, q12, hzz⟩ := hzz
  obtain ⟨e1, e2, e3, e4, e5, e6, e7, e8, e9⟩ := hzz
  obtain ⟨i0, i1, i2, i3, i4, i5, i6, i7, hzz⟩ := sg_all hI
  obtain ⟨i8, i9, i10, i11, i12, i13, i14, i15, hzz⟩ := hzz
  obtain ⟨i16, i17⟩ := hzz
  have dk := dn_all (p := pp) (x := x0) (L := L0) (S := S0) hI0 k
  have dk1 := dn_all (p := pp) (x := x0) (L := L0) (S := S0) hI0 (k + 1)
  obtain ⟨a4, a5, a7, aj⟩ := dk
  obtain ⟨c4, c5, c7, cj⟩ := dk1
  have d4 : (sp_d1 pp (sp_dd pp f x0 L0 S0 k).1 (sp_dd pp f x0 L0 S0 k).2.1) 4 = (sp_dd pp f x0 L0 S0 k).1 4 := sp_d1_k _ _ _ (by decide)
  have d5 : (sp_d1 pp (sp_dd pp f x0 L0 S0 k).1 (sp_dd pp f x0 L0 S0 k).2.1) 5 = (sp_dd pp f x0 L0 S0 k).1 5 := sp_d1_k _ _ _ (by decide)
  have h4 : 0 ≤ (sp_d1 pp (sp_dd pp f x0 L0 S0 k).1 (sp_dd pp f x0 L0 S0 k).2.1) 4 ∧ (sp_d1 pp (sp_dd pp f x0 L0 S0 k).1 (sp_dd pp f x0 L0 S0 k).2.1) 4 ≤ 11 := by rw [d4]; exact a4
  have ern : sp_rateNow (sp_d1 pp (sp_dd pp f x0 L0 S0 k).1 (sp_dd pp f x0 L0 S0 k).2.1) = f (10 + (f 5 + (k : Int)) % 24) := by
    unfold sp_rateNow
    rw [d5, a5, sp_d1_k _ _ _ (by omega)]
    exact aj _ (by omega) (by omega) (by omega) (by omega) (by omega)
  have rb := i9 (10 + (f 5 + (k : Int)) % 24) (by omega) (by omega)
  have rrb : -3 ≤ (sp_n (sp_d1 pp (sp_dd pp f x0 L0 S0 k).1 (sp_dd pp f x0 L0 S0 k).2.1) (sp_rateNow (sp_d1 pp (sp_dd pp f x0 L0 S0 k).1 (sp_dd pp f x0 L0 S0 k).2.1))) ∧ (sp_n (sp_d1 pp (sp_dd pp f x0 L0 S0 k).1 (sp_dd pp f x0 L0 S0 k).2.1) (sp_rateNow (sp_d1 pp (sp_dd pp f x0 L0 S0 k).1 (sp_dd pp f x0 L0 S0 k).2.1))) ≤ 3 := by unfold sp_n; rw [ern]; split <;> omega
  have eA : ((sp_dd pp f x0 L0 S0 k).1 4 + (sp_n (sp_d1 pp (sp_dd pp f x0 L0 S0 k).1 (sp_dd pp f x0 L0 S0 k).2.1) (sp_rateNow (sp_d1 pp (sp_dd pp f x0 L0 S0 k).1 (sp_dd pp f x0 L0 S0 k).2.1)))) % 12 = (sp_dd pp f x0 L0 S0 (k + 1)).1 4 := by
    show _ = sp_passAt (sp_rateNow (sp_d1 pp (sp_dd pp f x0 L0 S0 k).1 (sp_dd pp f x0 L0 S0 k).2.1)) (sp_d1 pp (sp_dd pp f x0 L0 S0 k).1 (sp_dd pp f x0 L0 S0 k).2.1) 4
    rw [pa_4 h4, d4]
    unfold sp_n
    split
    · omega
    · rfl
  have e7 : (0 : Int) = (sp_dd pp f x0 L0 S0 (k + 1)).1 7 := (pa_7 h4).symm
  have eL : cs_all f ((sp_dd pp f x0 L0 S0 (k + 1)).1 4) ((f 5 + ((k : Int) + 1)) % 24) (f 1).toNat = sp_allLike (sp_dd pp f x0 L0 S0 (k + 1)).1 := by
    rw [show (f 5 + ((k : Int) + 1)) % 24 = (sp_dd pp f x0 L0 S0 (k + 1)).1 5 by rw [c5]; rfl]
    exact al_cg hI0 (fun j hj => cj j (by omega) (by omega) (by omega) (by omega) (by omega))
  have z5 := e5 ((f 5 + (k : Int)) % 24) (by omega) (by omega)
  refine ev_istore (l' := [_, _, _, _, _, _, _, _, _, _, _, _]) de_Tu_days_135 (Nat.le_of_ble_eq_true rfl) rfl ?_
  refine ev_iload de_Tu_days_137 rfl ?_
  refine ev_if_eq (tgt := 146) de_Tu_days_139 (by decide) (by omega) (fun h139 => ?_) (fun h139 => ?_)
  · skip
    have es : (sp_d1 pp (sp_dd pp f x0 L0 S0 k).1 (sp_dd pp f x0 L0 S0 k).2.1) 7 = 0 := by omega
    have er : (sp_n (sp_d1 pp (sp_dd pp f x0 L0 S0 k).1 (sp_dd pp f x0 L0 S0 k).2.1) (sp_rateNow (sp_d1 pp (sp_dd pp f x0 L0 S0 k).1 (sp_dd pp f x0 L0 S0 k).2.1))) = ra ((f 5 + (k : Int)) % 24) := by
      unfold sp_n
      rw [if_neg (by omega), ern, z5]
    refine ev_aload_n de_Tu_days_146 rfl rfl ?_
    refine ev_getfield de_Tu_days_147 t0 fl_Tu_19 rfl ?_
    refine ev_getfield de_Tu_days_150 q0 fl_Tu_165 rfl ?_
    refine ev_aload_n de_Tu_days_153 rfl rfl ?_
    refine ev_getfield de_Tu_days_154 t0 fl_Tu_19 rfl ?_
    refine ev_iload de_Tu_days_157 rfl ?_
    refine ev_vv (ci := 5) de_Tu_days_159 (co_Ri_hourOn_j hI0 hR0 _ (by omega) (by omega)) kb_Tu_247 ⟨im_Ri_hourOn, se_Ri_hourOn⟩ rfl q0 rfl (Nat.le_of_ble_eq_true rfl) (by decide) rfl ?_
    refine ev_iaload de_Tu_days_162 q6 (by omega) (by omega) (by omega) ?_
    refine ev_top (b := ab_I (sp_n (sp_d1 pp (sp_dd pp f x0 L0 S0 k).1 (sp_dd pp f x0 L0 S0 k).2.1) (sp_rateNow (sp_d1 pp (sp_dd pp f x0 L0 S0 k).1 (sp_dd pp f x0 L0 S0 k).2.1)))) (congrArg Sum.inl (show _ = (sp_n (sp_d1 pp (sp_dd pp f x0 L0 S0 k).1 (sp_dd pp f x0 L0 S0 k).2.1) (sp_rateNow (sp_d1 pp (sp_dd pp f x0 L0 S0 k).1 (sp_dd pp f x0 L0 S0 k).2.1))) from er.symm)) ?_
    refine ev_istore (l' := [_, _, _, _, _, _, _, _, _, _, _, _]) de_Tu_days_163 (Nat.le_of_ble_eq_true rfl) rfl ?_
    refine ev_iconst de_Tu_days_165 ?_
    refine ev_top (congrArg Sum.inl e7) ?_
    refine ev_istore (l' := [_, _, _, _, _, _, _, _, _, _, _, _]) de_Tu_days_166 (Nat.le_of_ble_eq_true rfl) rfl ?_
    refine ev_iload de_Tu_days_168 rfl ?_
    refine ev_iload de_Tu_days_170 rfl ?_
    refine ev_iadd de_Tu_days_172 ?_
    refine ev_sv de_Tu_days_173 (co_Tu_wrapped _ _ (by omega)) kb_Tu_339 sc_Tu_wrapped rfl (Nat.le_of_ble_eq_true rfl) (by decide) rfl ?_
    refine ev_top (congrArg Sum.inl eA) ?_
    refine ev_istore (l' := [_, _, _, _, _, _, _, _, _, _, _, _]) de_Tu_days_176 (Nat.le_of_ble_eq_true rfl) rfl ?_
    refine ev_iload de_Tu_days_178 rfl ?_
    refine ev_iload de_Tu_days_180 rfl ?_
    refine ev_iconst de_Tu_days_182 ?_
    refine ev_icmp_ne (tgt := 194) de_Tu_days_183 (by decide) (by omega) (by omega) (fun h183 => ?_) (fun h183 => ?_)
    · skip
      have eT : dt_ ww (sp_dd pp f x0 L0 S0 k) + sp_allLike (sp_dd pp f x0 L0 S0 (k + 1)).1 = dt_ ww (sp_dd pp f x0 L0 S0 (k + 1)) := by
        unfold dt_
        rw [if_neg h183, if_neg h183]
        rfl
      refine ev_aload_n de_Tu_days_194 rfl rfl ?_
      refine ev_getfield de_Tu_days_195 t0 fl_Tu_19 rfl ?_
      refine ev_iload de_Tu_days_198 rfl ?_
      refine ev_aload_n de_Tu_days_200 rfl rfl ?_
      refine ev_getfield de_Tu_days_201 t0 fl_Tu_19 rfl ?_
      refine ev_iload de_Tu_days_204 rfl ?_
      refine ev_iconst de_Tu_days_206 ?_
      refine ev_iadd de_Tu_days_207 ?_
      refine ev_vv (ci := 5) de_Tu_days_208 (co_Ri_hourOn_j hI0 hR0 _ (by omega) (by omega)) kb_Tu_247 ⟨im_Ri_hourOn, se_Ri_hourOn⟩ rfl q0 rfl (Nat.le_of_ble_eq_true rfl) (by decide) rfl ?_
      refine ev_vv (ci := 5) de_Tu_days_211 (co_Ri_allLike_j hI0 hR0 _ _ (by omega) (by omega) (by omega) (by omega)) kb_Tu_183 ⟨im_Ri_allLike, se_Ri_allLike⟩ rfl q0 rfl (Nat.le_of_ble_eq_true rfl) (by decide) rfl ?_
      refine ev_top (congrArg Sum.inl eL) ?_
      refine ev_iadd de_Tu_days_214 ?_
      refine ev_top (congrArg Sum.inl eT) ?_
      refine ev_istore (l' := [_, _, _, _, _, _, _, _, _, _, _, _]) de_Tu_days_215 (Nat.le_of_ble_eq_true rfl) rfl ?_
      refine ev_iinc (l' := [_, _, _, _, _, _, _, _, _, _, _, _]) de_Tu_days_217 rfl rfl ?_
      refine ev_goto (tgt := 99) de_Tu_days_220 (by decide) ?_
      exact hq _
    · skip
      have eT : dt_ ww (sp_dd pp f x0 L0 S0 k) + ((sp_n (sp_d1 pp (sp_dd pp f x0 L0 S0 k).1 (sp_dd pp f x0 L0 S0 k).2.1) (sp_rateNow (sp_d1 pp (sp_dd pp f x0 L0 S0 k).1 (sp_dd pp f x0 L0 S0 k).2.1))).natAbs : Int) = dt_ ww (sp_dd pp f x0 L0 S0 (k + 1)) := by
        unfold dt_
        rw [if_pos (by omega), if_pos (by omega)]
        rfl
      have eab : (if 0 ≤ (sp_n (sp_d1 pp (sp_dd pp f x0 L0 S0 k).1 (sp_dd pp f x0 L0 S0 k).2.1) (sp_rateNow (sp_d1 pp (sp_dd pp f x0 L0 S0 k).1 (sp_dd pp f x0 L0 S0 k).2.1))) then (sp_n (sp_d1 pp (sp_dd pp f x0 L0 S0 k).1 (sp_dd pp f x0 L0 S0 k).2.1) (sp_rateNow (sp_d1 pp (sp_dd pp f x0 L0 S0 k).1 (sp_dd pp f x0 L0 S0 k).2.1))) else 0 - (sp_n (sp_d1 pp (sp_dd pp f x0 L0 S0 k).1 (sp_dd pp f x0 L0 S0 k).2.1) (sp_rateNow (sp_d1 pp (sp_dd pp f x0 L0 S0 k).1 (sp_dd pp f x0 L0 S0 k).2.1)))) = ((sp_n (sp_d1 pp (sp_dd pp f x0 L0 S0 k).1 (sp_dd pp f x0 L0 S0 k).2.1) (sp_rateNow (sp_d1 pp (sp_dd pp f x0 L0 S0 k).1 (sp_dd pp f x0 L0 S0 k).2.1))).natAbs : Int) := by split <;> omega
      refine ev_iload de_Tu_days_186 rfl ?_
      refine ev_mabs (by omega) de_Tu_days_188 mk_Tu_259 (Nat.le_of_ble_eq_true rfl) (by decide) ?_
      refine ev_top (congrArg Sum.inl eab) ?_
      refine ev_goto (tgt := 214) de_Tu_days_191 (by decide) ?_
      refine ev_iadd de_Tu_days_214 ?_
      refine ev_top (congrArg Sum.inl eT) ?_
      refine ev_istore (l' := [_, _, _, _, _, _, _, _, _, _, _, _]) de_Tu_days_215 (Nat.le_of_ble_eq_true rfl) rfl ?_
      refine ev_iinc (l' := [_, _, _, _, _, _, _, _, _, _, _, _]) de_Tu_days_217 rfl rfl ?_
      refine ev_goto (tgt := 99) de_Tu_days_220 (by decide) ?_
      exact hq _
  · skip
    have es : (sp_d1 pp (sp_dd pp f x0 L0 S0 k).1 (sp_dd pp f x0 L0 S0 k).2.1) 7 = 1 := by omega
    have er : (sp_n (sp_d1 pp (sp_dd pp f x0 L0 S0 k).1 (sp_dd pp f x0 L0 S0 k).2.1) (sp_rateNow (sp_d1 pp (sp_dd pp f x0 L0 S0 k).1 (sp_dd pp f x0 L0 S0 k).2.1))) = 0 := if_pos es
    refine ev_iconst de_Tu_days_142 ?_
    refine ev_goto (tgt := 163) de_Tu_days_143 (by decide) ?_
    refine ev_top (b := ab_I (sp_n (sp_d1 pp (sp_dd pp f x0 L0 S0 k).1 (sp_dd pp f x0 L0 S0 k).2.1) (sp_rateNow (sp_d1 pp (sp_dd pp f x0 L0 S0 k).1 (sp_dd pp f x0 L0 S0 k).2.1)))) (congrArg Sum.inl (show _ = (sp_n (sp_d1 pp (sp_dd pp f x0 L0 S0 k).1 (sp_dd pp f x0 L0 S0 k).2.1) (sp_rateNow (sp_d1 pp (sp_dd pp f x0 L0 S0 k).1 (sp_dd pp f x0 L0 S0 k).2.1))) from er.symm)) ?_
    refine ev_istore (l' := [_, _, _, _, _, _, _, _, _, _, _, _]) de_Tu_days_163 (Nat.le_of_ble_eq_true rfl) rfl ?_
    refine ev_iconst de_Tu_days_165 ?_
    refine ev_top (congrArg Sum.inl e7) ?_
    refine ev_istore (l' := [_, _, _, _, _, _, _, _, _, _, _, _]) de_Tu_days_166 (Nat.le_of_ble_eq_true rfl) rfl ?_
    refine ev_iload de_Tu_days_168 rfl ?_
    refine ev_iload de_Tu_days_170 rfl ?_
    refine ev_iadd de_Tu_days_172 ?_
    refine ev_sv de_Tu_days_173 (co_Tu_wrapped _ _ (by omega)) kb_Tu_339 sc_Tu_wrapped rfl (Nat.le_of_ble_eq_true rfl) (by decide) rfl ?_
    refine ev_top (congrArg Sum.inl eA) ?_
    refine ev_istore (l' := [_, _, _, _, _, _, _, _, _, _, _, _]) de_Tu_days_176 (Nat.le_of_ble_eq_true rfl) rfl ?_
    refine ev_iload de_Tu_days_178 rfl ?_
    refine ev_iload de_Tu_days_180 rfl ?_
    refine ev_iconst de_Tu_days_182 ?_
    refine ev_icmp_ne (tgt := 194) de_Tu_days_183 (by decide) (by omega) (by omega) (fun h183 => ?_) (fun h183 => ?_)
    · skip
      have eT : dt_ ww (sp_dd pp f x0 L0 S0 k) + sp_allLike (sp_dd pp f x0 L0 S0 (k + 1)).1 = dt_ ww (sp_dd pp f x0 L0 S0 (k + 1)) := by
        unfold dt_
        rw [if_neg h183, if_neg h183]
        rfl
      refine ev_aload_n de_Tu_days_194 rfl rfl ?_
      refine ev_getfield de_Tu_days_195 t0 fl_Tu_19 rfl ?_
      refine ev_iload de_Tu_days_198 rfl ?_
      refine ev_aload_n de_Tu_days_200 rfl rfl ?_
      refine ev_getfield de_Tu_days_201 t0 fl_Tu_19 rfl ?_
      refine ev_iload de_Tu_days_204 rfl ?_
      refine ev_iconst de_Tu_days_206 ?_
      refine ev_iadd de_Tu_days_207 ?_
      refine ev_vv (ci := 5) de_Tu_days_208 (co_Ri_hourOn_j hI0 hR0 _ (by omega) (by omega)) kb_Tu_247 ⟨im_Ri_hourOn, se_Ri_hourOn⟩ rfl q0 rfl (Nat.le_of_ble_eq_true rfl) (by decide) rfl ?_
      refine ev_vv (ci := 5) de_Tu_days_211 (co_Ri_allLike_j hI0 hR0 _ _ (by omega) (by omega) (by omega) (by omega)) kb_Tu_183 ⟨im_Ri_allLike, se_Ri_allLike⟩ rfl q0 rfl (Nat.le_of_ble_eq_true rfl) (by decide) rfl ?_
      refine ev_top (congrArg Sum.inl eL) ?_
      refine ev_iadd de_Tu_days_214 ?_
      refine ev_top (congrArg Sum.inl eT) ?_
      refine ev_istore (l' := [_, _, _, _, _, _, _, _, _, _, _, _]) de_Tu_days_215 (Nat.le_of_ble_eq_true rfl) rfl ?_
      refine ev_iinc (l' := [_, _, _, _, _, _, _, _, _, _, _, _]) de_Tu_days_217 rfl rfl ?_
      refine ev_goto (tgt := 99) de_Tu_days_220 (by decide) ?_
      exact hq _
    · skip
      have eT : dt_ ww (sp_dd pp f x0 L0 S0 k) + ((sp_n (sp_d1 pp (sp_dd pp f x0 L0 S0 k).1 (sp_dd pp f x0 L0 S0 k).2.1) (sp_rateNow (sp_d1 pp (sp_dd pp f x0 L0 S0 k).1 (sp_dd pp f x0 L0 S0 k).2.1))).natAbs : Int) = dt_ ww (sp_dd pp f x0 L0 S0 (k + 1)) := by
        unfold dt_
        rw [if_pos (by omega), if_pos (by omega)]
        rfl
      have eab : (if 0 ≤ (sp_n (sp_d1 pp (sp_dd pp f x0 L0 S0 k).1 (sp_dd pp f x0 L0 S0 k).2.1) (sp_rateNow (sp_d1 pp (sp_dd pp f x0 L0 S0 k).1 (sp_dd pp f x0 L0 S0 k).2.1))) then (sp_n (sp_d1 pp (sp_dd pp f x0 L0 S0 k).1 (sp_dd pp f x0 L0 S0 k).2.1) (sp_rateNow (sp_d1 pp (sp_dd pp f x0 L0 S0 k).1 (sp_dd pp f x0 L0 S0 k).2.1))) else 0 - (sp_n (sp_d1 pp (sp_dd pp f x0 L0 S0 k).1 (sp_dd pp f x0 L0 S0 k).2.1) (sp_rateNow (sp_d1 pp (sp_dd pp f x0 L0 S0 k).1 (sp_dd pp f x0 L0 S0 k).2.1)))) = ((sp_n (sp_d1 pp (sp_dd pp f x0 L0 S0 k).1 (sp_dd pp f x0 L0 S0 k).2.1) (sp_rateNow (sp_d1 pp (sp_dd pp f x0 L0 S0 k).1 (sp_dd pp f x0 L0 S0 k).2.1))).natAbs : Int) := by split <;> omega
      refine ev_iload de_Tu_days_186 rfl ?_
      refine ev_mabs (by omega) de_Tu_days_188 mk_Tu_259 (Nat.le_of_ble_eq_true rfl) (by decide) ?_
      refine ev_top (congrArg Sum.inl eab) ?_
      refine ev_goto (tgt := 214) de_Tu_days_191 (by decide) ?_
      refine ev_iadd de_Tu_days_214 ?_
      refine ev_top (congrArg Sum.inl eT) ?_
      refine ev_istore (l' := [_, _, _, _, _, _, _, _, _, _, _, _]) de_Tu_days_215 (Nat.le_of_ble_eq_true rfl) rfl ?_
      refine ev_iinc (l' := [_, _, _, _, _, _, _, _, _, _, _, _]) de_Tu_days_217 rfl rfl ?_
      refine ev_goto (tgt := 99) de_Tu_days_220 (by decide) ?_
      exact hq _
set_option maxHeartbeats 4000000 in
set_option maxRecDepth 10000 in
theorem li_Tu_days {a b : Nat} {rc : Int} {f : Int → Int} {x B : Int} {w : ab_W} (hI : sg_ok B f) (t0 : tu_at a b rc w) (hR : ri_at_j a f x w) (mm pp ww : Int) (hp : 0 ≤ pp ∧ pp ≤ 100) (hw : ww = 0 ∨ ww = 1) (nn : Nat) (hn : nn ≤ 96) (x0 L0 S0 y : Int) (hx : 0 ≤ x0 ∧ x0 ≤ 2147483647) (Q : Option ab_V → ab_W → Prop) (hq : ∀ l11 : Option ab_V, ab_Ev g_G g_rs mt_Tu_days 3 0 0 223 [some (ab_R 0), some (ab_I mm), some (ab_I (nn : Int)), some (ab_I pp), some (ab_I ww), some (ab_I (sp_dd pp f x0 L0 S0 nn).2.1), some (ab_I (dt_ ww (sp_dd pp f x0 L0 S0 nn))), some (ab_I y), some (ab_I ((sp_dd pp f x0 L0 S0 nn).1 4)), some (ab_I ((sp_dd pp f x0 L0 S0 nn).1 7)), some (ab_I (nn : Int)), l11] [] w Q) : ∀ (n : Nat) (k : Nat) (l11 : Option ab_V), k ≤ nn → nn < k + n → ab_Ev g_G g_rs mt_Tu_days 3 0 0 99 [some (ab_R 0), some (ab_I mm), some (ab_I (nn : Int)), some (ab_I pp), some (ab_I ww), some (ab_I (sp_dd pp f x0 L0 S0 k).2.1), some (ab_I (dt_ ww (sp_dd pp f x0 L0 S0 k))), some (ab_I y), some (ab_I ((sp_dd pp f x0 L0 S0 k).1 4)), some (ab_I ((sp_dd pp f x0 L0 S0 k).1 7)), some (ab_I (k : Int)), l11] [] w Q := by
  intro n
  induction n with
  | zero =>
    intro k l11
    intro g1 g2; omega
  | succ n ih =>
    intro k l11
    intro g1 g2
    have ht0 := t0
    have hR0 := hR
    have hI0 := hI
    unfold tu_at at t0
    obtain ⟨sl, fs, vo, li, ra, wo, dh, da, hzz⟩ := hR
    obtain ⟨ds, dn, vw, q0, q1, q2, q3, q4, hzz⟩ := hzz
    obtain ⟨q5, q6, q7, q8, q9, q10, q11, q12, hzz⟩ := hzz
    obtain ⟨e1, e2, e3, e4, e5, e6, e7, e8, e9⟩ := hzz
    obtain ⟨i0, i1, i2, i3, i4, i5, i6, i7, hzz⟩ := sg_all hI
    obtain ⟨i8, i9, i10, i11, i12, i13, i14, i15, hzz⟩ := hzz
    obtain ⟨i16, i17⟩ := hzz
    have hxk := sp_dd_x (p := pp) (f := f) (L := L0) (S := S0) hx k
    have dk := dn_all (p := pp) (x := x0) (L := L0) (S := S0) hI0 k
    obtain ⟨a4, a5, a7, aj⟩ := dk
    have a01 : (sp_dd pp f x0 L0 S0 k).1 7 = 0 ∨ (sp_dd pp f x0 L0 S0 k).1 7 = 1 := by rw [a7]; split <;> omega
    have db := sp_draw_b (sp_dd pp f x0 L0 S0 k).2.1
    have q1 := ab_tde (sp_draw (sp_dd pp f x0 L0 S0 k).2.1) 65536 (by decide)
    have q2 := ab_tme ((sp_draw (sp_dd pp f x0 L0 S0 k).2.1) / 65536) 100 (by decide)
    refine ev_iload de_Tu_days_99 rfl ?_
    refine ev_iload_n de_Tu_days_101 rfl rfl ?_
    refine ev_icmp_ge (tgt := 223) de_Tu_days_102 (by decide) (by omega) (by omega) (fun h102 => ?_) (fun h102 => ?_)
    · skip
      have ek : k = nn := by omega
      subst ek
      exact hq _
    · skip
      refine ev_iload de_Tu_days_105 rfl ?_
      refine ev_sv de_Tu_days_107 (co_Tu_nextDraw w _ hxk.1 hxk.2) kb_Tu_335 sc_Tu_nextDraw rfl (Nat.le_of_ble_eq_true rfl) (by decide) rfl ?_
      refine ev_istore (l' := [_, _, _, _, _, _, _, _, _, _, _, _]) de_Tu_days_110 (Nat.le_of_ble_eq_true rfl) rfl ?_
      refine ev_iload de_Tu_days_112 rfl ?_
      refine ev_if_ne (tgt := 130) de_Tu_days_114 (by decide) (by omega) (fun h114 => ?_) (fun h114 => ?_)
      · skip
        have es9 : (sp_d1 pp (sp_dd pp f x0 L0 S0 k).1 (sp_dd pp f x0 L0 S0 k).2.1) 7 = 1 := by
          unfold sp_d1
          split
          · exact ab_upe _ _ _
          · omega
        refine ev_iconst de_Tu_days_130 ?_
        refine ev_goto (tgt := 135) de_Tu_days_131 (by decide) ?_
        first | exact lj_Tu_days hI0 ht0 hR0 mm pp ww hp hw nn hn x0 L0 S0 y k (by omega) 1 es9.symm (by decide) _ _ _ (fun l11 => ih (k + 1) l11 (by omega) (by omega)) | exact lj_Tu_days hI0 ht0 hR0 mm pp ww hp hw nn hn x0 L0 S0 y k (by omega) 0 es9.symm (by decide) _ _ _ (fun l11 => ih (k + 1) l11 (by omega) (by omega))
      · skip
        refine ev_iload de_Tu_days_117 rfl ?_
        refine ev_ldcw (n := 65536) de_Tu_days_119 cn_Tu_338 rfl ?_
        refine ev_idiv de_Tu_days_122 (by omega) (by omega) (by omega) ?_
        refine ev_top (congrArg Sum.inl (q1.1 db.1)) ?_
        refine ev_bipush de_Tu_days_123 rfl ?_
        refine ev_irem de_Tu_days_125 (by omega) (by omega) (by omega) ?_
        refine ev_top (congrArg Sum.inl (q2.1 (by omega))) ?_
        refine ev_iload_n de_Tu_days_126 rfl rfl ?_
        refine ev_icmp_ge (tgt := 134) de_Tu_days_127 (by decide) (by omega) (by omega) (fun h127 => ?_) (fun h127 => ?_)
        · skip
          have es9 : (sp_d1 pp (sp_dd pp f x0 L0 S0 k).1 (sp_dd pp f x0 L0 S0 k).2.1) 7 = 0 := by
            unfold sp_d1
            rw [if_neg (by omega)]
            exact h114
          refine ev_iconst de_Tu_days_134 ?_
          first | exact lj_Tu_days hI0 ht0 hR0 mm pp ww hp hw nn hn x0 L0 S0 y k (by omega) 1 es9.symm (by decide) _ _ _ (fun l11 => ih (k + 1) l11 (by omega) (by omega)) | exact lj_Tu_days hI0 ht0 hR0 mm pp ww hp hw nn hn x0 L0 S0 y k (by omega) 0 es9.symm (by decide) _ _ _ (fun l11 => ih (k + 1) l11 (by omega) (by omega))
        · skip
          have es9 : (sp_d1 pp (sp_dd pp f x0 L0 S0 k).1 (sp_dd pp f x0 L0 S0 k).2.1) 7 = 1 := by
            unfold sp_d1
            rw [if_pos (by omega)]
            exact ab_upe _ _ _
          refine ev_iconst de_Tu_days_130 ?_
          refine ev_goto (tgt := 135) de_Tu_days_131 (by decide) ?_
          first | exact lj_Tu_days hI0 ht0 hR0 mm pp ww hp hw nn hn x0 L0 S0 y k (by omega) 1 es9.symm (by decide) _ _ _ (fun l11 => ih (k + 1) l11 (by omega) (by omega)) | exact lj_Tu_days hI0 ht0 hR0 mm pp ww hp hw nn hn x0 L0 S0 y k (by omega) 0 es9.symm (by decide) _ _ _ (fun l11 => ih (k + 1) l11 (by omega) (by omega))
set_option maxHeartbeats 4000000 in
set_option maxRecDepth 10000 in
theorem lo_Tu_days {a b : Nat} {rc : Int} {f : Int → Int} {x B : Int} {w : ab_W} (hI : sg_ok B f) (t0 : tu_at a b rc w) (hR : ri_at_j a f x w) (hx : 0 ≤ x ∧ x ≤ 2147483647) (mm pp ww : Int) (hp : 0 ≤ pp ∧ pp ≤ 100) (hw : ww = 0 ∨ ww = 1) (nn : Nat) (hn : nn ≤ 96) (M : Nat) (hM : mm = (M : Int)) (hM1 : M ≤ 10) : ∀ (n : Nat) (y : Nat) (l8 l9 l10 l11 : Option ab_V), y ≤ M → M < y + n → ab_Ev g_G g_rs mt_Tu_days 3 0 0 72 [some (ab_R 0), some (ab_I mm), some (ab_I (nn : Int)), some (ab_I pp), some (ab_I ww), some (ab_I (sp_dm pp f x nn y).1), some (ab_I (dm_ ww (sp_dm pp f x nn y))), some (ab_I (y : Int)), l8, l9, l10, l11] [] w (ab_is (some (ab_I (dm_ ww (sp_dm pp f x nn M)))) w) := by
  intro n
  induction n with
  | zero =>
    intro y l8 l9 l10 l11
    intro g1 g2; omega
  | succ n ih =>
    intro y l8 l9 l10 l11
    intro g1 g2
    have ht0 := t0
    have hR0 := hR
    have hI0 := hI
    unfold tu_at at t0
    obtain ⟨sl, fs, vo, li, ra, wo, dh, da, hzz⟩ := hR
    obtain ⟨ds, dn, vw, q0, q1, q2, q3, q4, hzz⟩ := hzz
    obtain ⟨q5, q6, q7, q8, q9, q10, q11, q12, hzz⟩ := hzz
    obtain ⟨e1, e2, e3, e4, e5, e6, e7, e8, e9⟩ := hzz
    obtain ⟨i0, i1, i2, i3, i4, i5, i6, i7, hzz⟩ := sg_all hI
    obtain ⟨i8, i9, i10, i11, i12, i13, i14, i15, hzz⟩ := hzz
    obtain ⟨i16, i17⟩ := hzz
    have hxy := sp_dm_x (p := pp) (f := f) hx nn y
    refine ev_iload de_Tu_days_72 rfl ?_
    refine ev_iload_n de_Tu_days_74 rfl rfl ?_
    refine ev_icmp_ge (tgt := 229) de_Tu_days_75 (by decide) (by omega) (by omega) (fun h75 => ?_) (fun h75 => ?_)
    · skip
      have ek : y = M := by omega
      subst ek
      refine ev_iload de_Tu_days_229 rfl ?_
      exact ev_ireturn de_Tu_days_231 rfl ⟨rfl, rfl⟩
    · skip
      refine ev_aload_n de_Tu_days_78 rfl rfl ?_
      refine ev_getfield de_Tu_days_79 t0 fl_Tu_19 rfl ?_
      refine ev_getfield de_Tu_days_82 q0 fl_Tu_177 rfl ?_
      refine ev_istore (l' := [_, _, _, _, _, _, _, _, _, _, _, _]) de_Tu_days_85 (Nat.le_of_ble_eq_true rfl) rfl ?_
      refine ev_aload_n de_Tu_days_87 rfl rfl ?_
      refine ev_getfield de_Tu_days_88 t0 fl_Tu_19 rfl ?_
      refine ev_getfield de_Tu_days_91 q0 fl_Tu_186 rfl ?_
      refine ev_istore (l' := [_, _, _, _, _, _, _, _, _, _, _, _]) de_Tu_days_94 (Nat.le_of_ble_eq_true rfl) rfl ?_
      refine ev_iconst de_Tu_days_96 ?_
      refine ev_istore (l' := [_, _, _, _, _, _, _, _, _, _, _, _]) de_Tu_days_97 (Nat.le_of_ble_eq_true rfl) rfl ?_
      refine li_Tu_days hI0 ht0 hR0 mm pp ww hp hw nn hn (sp_dm pp f x nn y).1 (sp_dm pp f x nn y).2.1 (sp_dm pp f x nn y).2.2 (y : Int) hxy _ (fun l11 => ?_) (nn + 1) 0 _ (by omega) (by omega)
      refine ev_iinc (l' := [_, _, _, _, _, _, _, _, _, _, _, _]) de_Tu_days_223 rfl rfl ?_
      refine ev_goto (tgt := 72) de_Tu_days_226 (by decide) ?_
      exact ih (y + 1) _ _ _ _ (by omega) (by omega)
set_option maxHeartbeats 4000000 in
set_option maxRecDepth 10000 in
theorem co_Tu_days {a b : Nat} {rc : Int} {f : Int → Int} {x B : Int} {w : ab_W} (hI : sg_ok B f) (t0 : tu_at a b rc w) (hR : ri_at_j a f x w) (hx : 0 ≤ x ∧ x ≤ 2147483647) (y1 : Int) (hy1 : ab_in y1) (y2 : Int) (hy2 : ab_in y2) (y3 : Int) (hy3 : ab_in y3) (y4 : Int) (hy4 : ab_in y4) : ab_Mt g_G g_rs mt_Tu_days 3 0 0 [ab_R 0, ab_I y1, ab_I y2, ab_I y3, ab_I y4] w (ab_is (some (ab_I (if f 0 = 1 ∧ (1 ≤ y1 ∧ y1 ≤ 10) ∧ (1 ≤ y2 ∧ y2 ≤ 96) ∧ (0 ≤ y3 ∧ y3 ≤ 100) ∧ 0 ≤ y4 ∧ y4 ≤ 1 then sp_days f x y1 y2 y3 y4 else -10000000))) w) := by
  have ht0 := t0
  have hR0 := hR
  have hI0 := hI
  unfold tu_at at t0
  obtain ⟨sl, fs, vo, li, ra, wo, dh, da, hzz⟩ := hR
  obtain ⟨ds, dn, vw, q0, q1, q2, q3, q4, hzz⟩ := hzz
  obtain ⟨q5, q6, q7, q8, q9, q10, q11, q12, hzz⟩ := hzz
  obtain ⟨e1, e2, e3, e4, e5, e6, e7, e8, e9⟩ := hzz
  obtain ⟨i0, i1, i2, i3, i4, i5, i6, i7, hzz⟩ := sg_all hI
  obtain ⟨i8, i9, i10, i11, i12, i13, i14, i15, hzz⟩ := hzz
  obtain ⟨i16, i17⟩ := hzz
  refine ab_Mt.of rfl (Nat.le_of_ble_eq_true rfl) ?_
  show ab_Ev g_G g_rs mt_Tu_days _ _ _ 0 [some (ab_R 0), some (ab_I y1), some (ab_I y2), some (ab_I y3), some (ab_I y4), none, none, none, none, none, none, none] [] _ _
  refine ev_aload_n de_Tu_days_0 rfl rfl ?_
  refine ev_getfield de_Tu_days_1 t0 fl_Tu_19 rfl ?_
  refine ev_getfield de_Tu_days_4 q0 fl_Tu_152 rfl ?_
  refine ev_if_eq (tgt := 53) de_Tu_days_7 (by decide) (by first | omega | assumption) (fun h7 => ?_) (fun h7 => ?_)
  · skip
    refine ev_ldcw (n := -10000000) de_Tu_days_53 cn_Tu_334 rfl ?_
    exact ev_ireturn de_Tu_days_56 rfl ⟨congrArg (fun z => some (ab_I z)) (by (repeat' split) <;> omega), rfl⟩
  · skip
    refine ev_iload_n de_Tu_days_10 rfl rfl ?_
    refine ev_iconst de_Tu_days_11 ?_
    refine ev_icmp_lt (tgt := 53) de_Tu_days_12 (by decide) (by first | omega | assumption) (by first | omega | assumption) (fun h12 => ?_) (fun h12 => ?_)
    · skip
      refine ev_ldcw (n := -10000000) de_Tu_days_53 cn_Tu_334 rfl ?_
      exact ev_ireturn de_Tu_days_56 rfl ⟨congrArg (fun z => some (ab_I z)) (by (repeat' split) <;> omega), rfl⟩
    · skip
      refine ev_iload_n de_Tu_days_15 rfl rfl ?_
      refine ev_bipush de_Tu_days_16 rfl ?_
      refine ev_icmp_gt (tgt := 53) de_Tu_days_18 (by decide) (by first | omega | assumption) (by first | omega | assumption) (fun h18 => ?_) (fun h18 => ?_)
      · skip
        refine ev_ldcw (n := -10000000) de_Tu_days_53 cn_Tu_334 rfl ?_
        exact ev_ireturn de_Tu_days_56 rfl ⟨congrArg (fun z => some (ab_I z)) (by (repeat' split) <;> omega), rfl⟩
      · skip
        refine ev_iload_n de_Tu_days_21 rfl rfl ?_
        refine ev_iconst de_Tu_days_22 ?_
        refine ev_icmp_lt (tgt := 53) de_Tu_days_23 (by decide) (by first | omega | assumption) (by first | omega | assumption) (fun h23 => ?_) (fun h23 => ?_)
        · skip
          refine ev_ldcw (n := -10000000) de_Tu_days_53 cn_Tu_334 rfl ?_
          exact ev_ireturn de_Tu_days_56 rfl ⟨congrArg (fun z => some (ab_I z)) (by (repeat' split) <;> omega), rfl⟩
        · skip
          refine ev_iload_n de_Tu_days_26 rfl rfl ?_
          refine ev_bipush de_Tu_days_27 rfl ?_
          refine ev_icmp_gt (tgt := 53) de_Tu_days_29 (by decide) (by first | omega | assumption) (by first | omega | assumption) (fun h29 => ?_) (fun h29 => ?_)
          · skip
            refine ev_ldcw (n := -10000000) de_Tu_days_53 cn_Tu_334 rfl ?_
            exact ev_ireturn de_Tu_days_56 rfl ⟨congrArg (fun z => some (ab_I z)) (by (repeat' split) <;> omega), rfl⟩
          · skip
            refine ev_iload_n de_Tu_days_32 rfl rfl ?_
            refine ev_if_lt (tgt := 53) de_Tu_days_33 (by decide) (by first | omega | assumption) (fun h33 => ?_) (fun h33 => ?_)
            · skip
              refine ev_ldcw (n := -10000000) de_Tu_days_53 cn_Tu_334 rfl ?_
              exact ev_ireturn de_Tu_days_56 rfl ⟨congrArg (fun z => some (ab_I z)) (by (repeat' split) <;> omega), rfl⟩
            · skip
              refine ev_iload_n de_Tu_days_36 rfl rfl ?_
              refine ev_bipush de_Tu_days_37 rfl ?_
              refine ev_icmp_gt (tgt := 53) de_Tu_days_39 (by decide) (by first | omega | assumption) (by first | omega | assumption) (fun h39 => ?_) (fun h39 => ?_)
              · skip
                refine ev_ldcw (n := -10000000) de_Tu_days_53 cn_Tu_334 rfl ?_
                exact ev_ireturn de_Tu_days_56 rfl ⟨congrArg (fun z => some (ab_I z)) (by (repeat' split) <;> omega), rfl⟩
              · skip
                refine ev_iload de_Tu_days_42 rfl ?_
                refine ev_if_lt (tgt := 53) de_Tu_days_44 (by decide) (by first | omega | assumption) (fun h44 => ?_) (fun h44 => ?_)
                · skip
                  refine ev_ldcw (n := -10000000) de_Tu_days_53 cn_Tu_334 rfl ?_
                  exact ev_ireturn de_Tu_days_56 rfl ⟨congrArg (fun z => some (ab_I z)) (by (repeat' split) <;> omega), rfl⟩
                · skip
                  refine ev_iload de_Tu_days_47 rfl ?_
                  refine ev_iconst de_Tu_days_49 ?_
                  refine ev_icmp_le (tgt := 57) de_Tu_days_50 (by decide) (by first | omega | assumption) (by first | omega | assumption) (fun h50 => ?_) (fun h50 => ?_)
                  · skip
                    have hg : f 0 = 1 ∧ (1 ≤ y1 ∧ y1 ≤ 10) ∧ (1 ≤ y2 ∧ y2 ≤ 96) ∧ (0 ≤ y3 ∧ y3 ≤ 100) ∧ 0 ≤ y4 ∧ y4 ≤ 1 := by omega
                    rw [if_pos hg]
                    obtain ⟨N, rfl⟩ := Int.eq_ofNat_of_zero_le (show 0 ≤ y2 by omega)
                    obtain ⟨M, rfl⟩ := Int.eq_ofNat_of_zero_le (show 0 ≤ y1 by omega)
                    have ed : sp_days f x (M : Int) (N : Int) y3 y4 = dm_ y4 (sp_dm y3 f x N M) := by
                      unfold sp_days dm_
                      rw [Int.toNat_natCast, Int.toNat_natCast]
                      by_cases z : y4 = 0
                      · rw [if_pos z, if_neg (by omega)]
                      · rw [if_neg z, if_pos (by omega)]
                    rw [ed]
                    have e00 : (0 : Int) = dm_ y4 (sp_dm y3 f x N 0) := by
                      show (0 : Int) = if y4 = 1 then (0 : Int) else 0
                      split <;> rfl
                    refine ev_aload_n de_Tu_days_57 rfl rfl ?_
                    refine ev_getfield de_Tu_days_58 t0 fl_Tu_19 rfl ?_
                    refine ev_getfield de_Tu_days_61 q0 fl_Tu_96 rfl ?_
                    refine ev_istore (l' := [_, _, _, _, _, _, _, _, _, _, _, _]) de_Tu_days_64 (Nat.le_of_ble_eq_true rfl) rfl ?_
                    refine ev_iconst de_Tu_days_66 ?_
                    refine ev_top (congrArg Sum.inl e00) ?_
                    refine ev_istore (l' := [_, _, _, _, _, _, _, _, _, _, _, _]) de_Tu_days_67 (Nat.le_of_ble_eq_true rfl) rfl ?_
                    refine ev_iconst de_Tu_days_69 ?_
                    refine ev_istore (l' := [_, _, _, _, _, _, _, _, _, _, _, _]) de_Tu_days_70 (Nat.le_of_ble_eq_true rfl) rfl ?_
                    exact lo_Tu_days hI0 ht0 hR0 hx (M : Int) y3 y4 (by omega) (by omega) N (by omega) M rfl (by omega) (M + 1) 0 _ _ _ _ (by omega) (by omega)
                  · skip
                    refine ev_ldcw (n := -10000000) de_Tu_days_53 cn_Tu_334 rfl ?_
                    exact ev_ireturn de_Tu_days_56 rfl ⟨congrArg (fun z => some (ab_I z)) (by (repeat' split) <;> omega), rfl⟩
