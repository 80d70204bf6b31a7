/-! String: length and charAt of the constants -/
theorem fs_38 : Cond.fieldLink "java/lang/String" 38 "java/lang/String" "COMPACT_STRINGS" "Z" ∈ g_G.2.1 := g_memT (g_t2 184 rfl) rfl
theorem fs_1053 : Cond.fieldLink "java/lang/String" 1053 "jdk/internal/util/Preconditions" "SIOOBE_FORMATTER" "Ljava/util/function/BiFunction;" ∈ g_G.2.1 := g_memT (g_t2 200 rfl) rfl
theorem fs_9 : Cond.fieldLink "java/lang/String" 9 "java/lang/String" "value" "[B" ∈ g_G.2.1 := g_memT (g_t7 187 rfl) rfl
theorem fs_15 : Cond.fieldLink "java/lang/String" 15 "java/lang/String" "coder" "B" ∈ g_G.2.1 := g_memT (g_t7 188 rfl) rfl
theorem de_St_coder_0 : decode prog_18_method_152_code 0 = .ok (.getstatic 38, 3) := by decide +kernel
theorem de_St_coder_3 : decode prog_18_method_152_code 3 = .ok (.ifCond .eq 10, 3) := by decide +kernel
theorem de_St_coder_6 : decode prog_18_method_152_code 6 = .ok (.aload_n 0, 1) := by decide +kernel
theorem de_St_coder_7 : decode prog_18_method_152_code 7 = .ok (.getfield 15, 3) := by decide +kernel
theorem de_St_coder_10 : decode prog_18_method_152_code 10 = .ok (.goto 4, 3) := by decide +kernel
theorem de_St_coder_14 : decode prog_18_method_152_code 14 = .ok (.ireturn, 1) := by decide +kernel
set_option maxRecDepth 10000 in
theorem co_St_coder (w : ab_W) (k : Nat) (hk : k < g_ln.length) : ab_Mt g_G g_rs mt_St_coder 0 0 0 [ab_R (ab_sb + k)] w (ab_is (some (ab_I 0)) w) := by
  refine ab_Mt.of rfl (Nat.le_of_ble_eq_true rfl) ?_
  show ab_Ev g_G g_rs mt_St_coder _ _ _ 0 [some (ab_R (ab_sb + k))] [] _ _
  refine ev_compact de_St_coder_0 fs_38 ?_
  refine ev_if_eq (tgt := 13) de_St_coder_3 (by decide) (by decide) (fun h => absurd h (by decide)) (fun _ => ?_)
  refine ev_aload_n de_St_coder_6 rfl rfl ?_
  refine ev_coder de_St_coder_7 fs_15 hk ?_
  refine ev_goto (tgt := 14) de_St_coder_10 (by decide) ?_
  exact ev_nreturn de_St_coder_14 rfl (by decide) ⟨rfl, rfl⟩
theorem de_St_isLatin1_0 : decode prog_18_method_154_code 0 = .ok (.getstatic 38, 3) := by decide +kernel
theorem de_St_isLatin1_3 : decode prog_18_method_154_code 3 = .ok (.ifCond .eq 14, 3) := by decide +kernel
theorem de_St_isLatin1_6 : decode prog_18_method_154_code 6 = .ok (.aload_n 0, 1) := by decide +kernel
theorem de_St_isLatin1_7 : decode prog_18_method_154_code 7 = .ok (.getfield 15, 3) := by decide +kernel
theorem de_St_isLatin1_10 : decode prog_18_method_154_code 10 = .ok (.ifCond .ne 7, 3) := by decide +kernel
theorem de_St_isLatin1_13 : decode prog_18_method_154_code 13 = .ok (.iconst 1, 1) := by decide +kernel
theorem de_St_isLatin1_14 : decode prog_18_method_154_code 14 = .ok (.goto 4, 3) := by decide +kernel
theorem de_St_isLatin1_18 : decode prog_18_method_154_code 18 = .ok (.ireturn, 1) := by decide +kernel
set_option maxRecDepth 10000 in
theorem co_St_isLatin1 (w : ab_W) (k : Nat) (hk : k < g_ln.length) : ab_Mt g_G g_rs mt_St_isLatin1 0 0 0 [ab_R (ab_sb + k)] w (ab_is (some (ab_I 1)) w) := by
  refine ab_Mt.of rfl (Nat.le_of_ble_eq_true rfl) ?_
  show ab_Ev g_G g_rs mt_St_isLatin1 _ _ _ 0 [some (ab_R (ab_sb + k))] [] _ _
  refine ev_compact de_St_isLatin1_0 fs_38 ?_
  refine ev_if_eq (tgt := 17) de_St_isLatin1_3 (by decide) (by decide) (fun h => absurd h (by decide)) (fun _ => ?_)
  refine ev_aload_n de_St_isLatin1_6 rfl rfl ?_
  refine ev_coder de_St_isLatin1_7 fs_15 hk ?_
  refine ev_if_ne (tgt := 17) de_St_isLatin1_10 (by decide) (by decide) (fun h => absurd rfl h) (fun _ => ?_)
  refine ev_iconst de_St_isLatin1_13 ?_
  refine ev_goto (tgt := 18) de_St_isLatin1_14 (by decide) ?_
  exact ev_zreturn de_St_isLatin1_18 rfl (by decide) ⟨rfl, rfl⟩
theorem ev_sk {G : ab_G} {rs : List String} {M : ab_M} {d bc bs pc : Nat} {l : ab_L} {st : List ab_V} {w : ab_W} {Q : Option ab_V → ab_W → Prop} {cm : ab_M} {idx d' k : Nat} {av st0 : List ab_V} {v : ab_V} (hd : decode M.2.1 pc = .ok (.invokevirtual idx, 3)) (hm : ab_Mt G rs cm d' 0 0 (.inr (.inr (some (ab_sb + k))) :: av) w (ab_is (some v) w)) (hcls : cm.1.cls = "java/lang/String") (hkk : k < G.2.2.2.2.1.length) (hk : ab_kb G M.1.cls idx cm av.length) (hst : Cond.instanceMethod cm.1 ∈ G.2.1 ∧ Cond.selects cm.1.cls cm.1 cm.1 ∈ G.2.1) (h0 : st0 = av.reverse ++ .inr (.inr (some (ab_sb + k))) :: st) (hw : ab_wd st ≤ 8) (hdd : d' + 1 ≤ d)
    (kk : ab_Ev G rs M d bc bs (pc + 3) l (v :: st) w Q) : ab_Ev G rs M d bc bs pc l st0 w Q := by
  intro p la e R s m args below meth c H locs cells slots D dA aK aV as A ls Qc free hF hs hP hD hS hl h1 h2 hR
  refine ab_after (Q1 := ab_is (some v) w) (bc := bc) (bs := bs) (mc := 0) (ms := 0) (a := (Value.ref (as (ab_sb + k)) :: av.map (ab_cv as)).toArray) hF hs hP hD hS hl h1 h2 hR ?_ (Or.inl (fun _ _ h => by rw [h.2])) (fun r w1 h => by obtain ⟨rfl, rfl⟩ := h; exact kk)
  have hF' := hF
  obtain ⟨hx, hb, hml, -, -, ho, -, ht, hfr, hlc, hC, hA⟩ := hF'
  have hM := hm la D dA aK aV as H.size hs
  have hrc := vk_recv hC.2.2.2.1 hkk hS
  rw [← (hs.1 k hkk).1, ← hcls] at hrc
  have hpre : PreV s H cm.1.cls (as (ab_sb + k)) (va_Pc ((Sum.inr (Sum.inr (some (ab_sb + k))) :: av).map (ab_cv as)) (ab_Pc G rs D dA aK aV as w H.size)) (av.map (ab_cv as)) := ⟨ab_Pc_blind, hrc, ab_Pc_at hF hP hD hS⟩
  have hrm : (ab_rm d' 0 0).frames + 1 ≤ R.frames ∧ 8 + (cm.2.2.1 + 11) + (ab_rm d' 0 0).locals ≤ R.locals := by
    have := hk.2.2.2.2.2
    rw [hfr, hlc]
    show d' + 1 ≤ d ∧ 8 + (cm.2.2.1 + 11) + 60 * d' ≤ 60 * d
    omega
  have hstk : st0.map (ab_cv as) = (av.map (ab_cv as)).reverse ++ Value.ref (as (ab_sb + k)) :: st.map (ab_cv as) := by rw [h0]; simp [ab_cv]
  have hwd : 2 * (F0 m pc ls (st0.map (ab_cv as))).monitorRoom + ((st.map (ab_cv as)).map fun v => v.category).sum ≤ 8 := lv_room (by rw [ab_wsum]; exact hw)
  have hsz : (F0 m pc ls (st0.map (ab_cv as))).locals.size = M.2.2.1 := by obtain ⟨-, lv, z, -⟩ := hl; exact z.1
  rcases hk.2.2.2.1 with hlk | ⟨h, hlk⟩
  · exact va_runV (C := cm.1.cls) ⟨hx, hb, hml, ho, ht⟩ hM ⟨callB_of av.length ht (ab_kgood hk) rfl rfl rfl (ht _ (List.mem_cons_of_mem _ hk.2.2.1)) (ht _ (List.mem_cons_of_mem _ hlk)) hk.2.2.2.2.1 hrm, ht _ (List.mem_cons_of_mem _ hst.1), ht _ (List.mem_cons_of_mem _ hst.2)⟩ hpre rfl (List.length_map ..) hsz hstk hwd hd ⟨by omega, by omega⟩
  · exact va_runVN (C := cm.1.cls) ⟨hx, hb, hml, ho, ht⟩ hM ⟨va_cnB av.length ht (ab_kgood hk) rfl rfl rfl (hC.2.2.1 _ hlk) (ht _ (List.mem_cons_of_mem _ hk.2.2.1)) hk.2.2.2.2.1 hrm, ht _ (List.mem_cons_of_mem _ hst.1), ht _ (List.mem_cons_of_mem _ hst.2)⟩ hpre rfl (List.length_map ..) hsz hstk hwd hd ⟨by omega, by omega⟩
theorem de_St_length_0 : decode prog_18_method_54_code 0 = .ok (.aload_n 0, 1) := by decide +kernel
theorem de_St_length_1 : decode prog_18_method_54_code 1 = .ok (.getfield 9, 3) := by decide +kernel
theorem de_St_length_4 : decode prog_18_method_54_code 4 = .ok (.arraylength, 1) := by decide +kernel
theorem de_St_length_5 : decode prog_18_method_54_code 5 = .ok (.aload_n 0, 1) := by decide +kernel
theorem de_St_length_6 : decode prog_18_method_54_code 6 = .ok (.invokevirtual 335, 3) := by decide +kernel
theorem de_St_length_9 : decode prog_18_method_54_code 9 = .ok (.ishr, 1) := by decide +kernel
theorem de_St_length_10 : decode prog_18_method_54_code 10 = .ok (.ireturn, 1) := by decide +kernel
set_option maxRecDepth 10000 in
theorem co_St_length (w : ab_W) (k : Nat) (hk : k < g_ln.length) : ab_Mt g_G g_rs mt_St_length 1 0 0 [ab_R (ab_sb + k)] w (ab_is (some (ab_I ((g_ln.getD k 0 : Nat) : Int))) w) := by
  refine ab_Mt.of rfl (Nat.le_of_ble_eq_true rfl) ?_
  show ab_Ev g_G g_rs mt_St_length _ _ _ 0 [some (ab_R (ab_sb + k))] [] _ _
  have hle : ∀ k, k < g_ln.length → g_ln.getD k 0 ≤ 1000 := by decide +kernel
  have hle := hle k hk
  refine ev_aload_n de_St_length_0 rfl rfl ?_
  refine ev_value de_St_length_1 fs_9 hk ?_
  refine ev_valen de_St_length_4 hk rfl ?_
  refine ev_aload_n de_St_length_5 rfl rfl ?_
  refine ev_sk de_St_length_6 (co_St_coder w k hk) rfl hk kb_St_335 ⟨im_St_coder, se_St_coder⟩ rfl (Nat.le_of_ble_eq_true rfl) (by decide) ?_
  refine ev_ishr de_St_length_9 (show ab_in ((g_ln.getD k 0 : Nat) : Int) by omega) (by decide) (by decide) ?_
  refine ev_top (b := ab_I ((g_ln.getD k 0 : Nat) : Int)) (congrArg Sum.inl (show ((g_ln.getD k 0 : Nat) : Int) / 2 ^ (0 : Int).toNat = _ by show ((g_ln.getD k 0 : Nat) : Int) / 1 = _; omega)) ?_
  exact ev_ireturn de_St_length_10 rfl ⟨rfl, rfl⟩
theorem de_Zz_checkIndex_0 : decode prog_23_method_11_code 0 = .ok (.iload_n 0, 1) := by decide +kernel
theorem de_Zz_checkIndex_1 : decode prog_23_method_11_code 1 = .ok (.ifCond .lt 8, 3) := by decide +kernel
theorem de_Zz_checkIndex_4 : decode prog_23_method_11_code 4 = .ok (.iload_n 0, 1) := by decide +kernel
theorem de_Zz_checkIndex_5 : decode prog_23_method_11_code 5 = .ok (.iload_n 1, 1) := by decide +kernel
theorem de_Zz_checkIndex_6 : decode prog_23_method_11_code 6 = .ok (.if_icmp .lt 10, 3) := by decide +kernel
theorem de_Zz_checkIndex_16 : decode prog_23_method_11_code 16 = .ok (.iload_n 0, 1) := by decide +kernel
theorem de_Zz_checkIndex_17 : decode prog_23_method_11_code 17 = .ok (.ireturn, 1) := by decide +kernel
set_option maxRecDepth 10000 in
theorem cn_Zz_checkIndex (w : ab_W) (i n : Int) (hi : ab_in i) (hn : ab_in n) (h0 : 0 ≤ i) (h1 : i < n) : ab_Mt g_G g_rs mt_Zz_checkIndex 0 0 0 [ab_I i, ab_I n, ab_N] w (ab_is (some (ab_I i)) w) := by
  refine ab_Mt.of rfl (Nat.le_of_ble_eq_true rfl) ?_
  show ab_Ev g_G g_rs mt_Zz_checkIndex _ _ _ 0 [some (ab_I i), some (ab_I n), some (ab_N)] [] _ _
  refine ev_iload_n de_Zz_checkIndex_0 rfl rfl ?_
  refine ev_if_lt (tgt := 9) de_Zz_checkIndex_1 (by decide) hi (fun h => absurd h (by omega)) (fun _ => ?_)
  refine ev_iload_n de_Zz_checkIndex_4 rfl rfl ?_
  refine ev_iload_n de_Zz_checkIndex_5 rfl rfl ?_
  refine ev_icmp_lt (tgt := 16) de_Zz_checkIndex_6 (by decide) hi hn (fun _ => ?_) (fun h => absurd h1 h)
  refine ev_iload_n de_Zz_checkIndex_16 rfl rfl ?_
  exact ev_ireturn de_Zz_checkIndex_17 rfl ⟨rfl, rfl⟩
set_option maxRecDepth 10000 in
theorem cr_Zz_checkIndex (w : ab_W) (i n : Int) (hi : ab_in i) (hn : ab_in n) (h0 : 0 ≤ i) (h1 : i < n) : ab_Mt g_G g_rs mt_Zz_checkIndex 0 0 0 [ab_I i, ab_I n, ab_R (ab_sb + 900)] w (ab_is (some (ab_I i)) w) := by
  refine ab_Mt.of rfl (Nat.le_of_ble_eq_true rfl) ?_
  show ab_Ev g_G g_rs mt_Zz_checkIndex _ _ _ 0 [some (ab_I i), some (ab_I n), some (ab_R (ab_sb + 900))] [] _ _
  refine ev_iload_n de_Zz_checkIndex_0 rfl rfl ?_
  refine ev_if_lt (tgt := 9) de_Zz_checkIndex_1 (by decide) hi (fun h => absurd h (by omega)) (fun _ => ?_)
  refine ev_iload_n de_Zz_checkIndex_4 rfl rfl ?_
  refine ev_iload_n de_Zz_checkIndex_5 rfl rfl ?_
  refine ev_icmp_lt (tgt := 16) de_Zz_checkIndex_6 (by decide) hi hn (fun _ => ?_) (fun h => absurd h1 h)
  refine ev_iload_n de_Zz_checkIndex_16 rfl rfl ?_
  exact ev_ireturn de_Zz_checkIndex_17 rfl ⟨rfl, rfl⟩
theorem de_St_checkIndex_0 : decode prog_18_method_155_code 0 = .ok (.iload_n 0, 1) := by decide +kernel
theorem de_St_checkIndex_1 : decode prog_18_method_155_code 1 = .ok (.iload_n 1, 1) := by decide +kernel
theorem de_St_checkIndex_2 : decode prog_18_method_155_code 2 = .ok (.getstatic 1053, 3) := by decide +kernel
theorem de_St_checkIndex_5 : decode prog_18_method_155_code 5 = .ok (.invokestatic 1059, 3) := by decide +kernel
theorem de_St_checkIndex_8 : decode prog_18_method_155_code 8 = .ok (.pop, 1) := by decide +kernel
theorem de_St_checkIndex_9 : decode prog_18_method_155_code 9 = .ok (.return_, 1) := by decide +kernel
set_option maxRecDepth 10000 in
theorem co_St_checkIndex (w : ab_W) (i n : Int) (hi : ab_in i) (hn : ab_in n) (h0 : 0 ≤ i) (h1 : i < n) : ab_Mt g_G g_rs mt_St_checkIndex 1 0 0 [ab_I i, ab_I n] w (ab_is none w) := by
  refine ab_Mt.of rfl (Nat.le_of_ble_eq_true rfl) ?_
  show ab_Ev g_G g_rs mt_St_checkIndex _ _ _ 0 [some (ab_I i), some (ab_I n)] [] _ _
  refine ev_iload_n de_St_checkIndex_0 rfl rfl ?_
  refine ev_iload_n de_St_checkIndex_1 rfl rfl ?_
  refine ev_siob de_St_checkIndex_2 fs_1053 ?_ ?_
  · refine ev_sv de_St_checkIndex_5 (cn_Zz_checkIndex w i n hi hn h0 h1) kb_St_1059 sc_Zz_checkIndex rfl (Nat.le_of_ble_eq_true rfl) (by decide) rfl ?_
    refine ev_pop de_St_checkIndex_8 rfl ?_
    exact ev_return de_St_checkIndex_9 rfl ⟨rfl, rfl⟩
  · refine ev_sv de_St_checkIndex_5 (cr_Zz_checkIndex w i n hi hn h0 h1) kb_St_1059 sc_Zz_checkIndex rfl (Nat.le_of_ble_eq_true rfl) (by decide) rfl ?_
    refine ev_pop de_St_checkIndex_8 rfl ?_
    exact ev_return de_St_checkIndex_9 rfl ⟨rfl, rfl⟩
theorem sb_all : ∀ k, k < g_ln.length → g_ln.getD k 0 ≤ 1000 ∧ ∀ j, j < g_ln.getD k 0 → 32 ≤ ((g_by.getD k []).getD j 0).toInt ∧ ((g_by.getD k []).getD j 0).toInt ≤ 122 := by decide +kernel
theorem sb_c2 : ∀ n : Nat, n < 128 → ab_iand (n : Int) 255 = (n : Int) ∧ ((Int32.ofInt (n : Int)).toUInt32 % 65536).toInt32 = Int32.ofInt (n : Int) ∧ narrow .char (.int (Int32.ofInt (n : Int))) = .int (Int32.ofInt (n : Int)) := by decide +kernel
theorem de_Sl_charAt_0 : decode prog_19_method_2_code 0 = .ok (.iload_n 1, 1) := by decide +kernel
theorem de_Sl_charAt_1 : decode prog_19_method_2_code 1 = .ok (.aload_n 0, 1) := by decide +kernel
theorem de_Sl_charAt_2 : decode prog_19_method_2_code 2 = .ok (.arraylength, 1) := by decide +kernel
theorem de_Sl_charAt_3 : decode prog_19_method_2_code 3 = .ok (.invokestatic 9, 3) := by decide +kernel
theorem de_Sl_charAt_6 : decode prog_19_method_2_code 6 = .ok (.aload_n 0, 1) := by decide +kernel
theorem de_Sl_charAt_7 : decode prog_19_method_2_code 7 = .ok (.iload_n 1, 1) := by decide +kernel
theorem de_Sl_charAt_8 : decode prog_19_method_2_code 8 = .ok (.baload, 1) := by decide +kernel
theorem de_Sl_charAt_9 : decode prog_19_method_2_code 9 = .ok (.sipush 255, 3) := by decide +kernel
theorem de_Sl_charAt_12 : decode prog_19_method_2_code 12 = .ok (.iand, 1) := by decide +kernel
theorem de_Sl_charAt_13 : decode prog_19_method_2_code 13 = .ok (.i2c, 1) := by decide +kernel
theorem de_Sl_charAt_14 : decode prog_19_method_2_code 14 = .ok (.ireturn, 1) := by decide +kernel
set_option maxRecDepth 10000 in
theorem co_Sl_charAt (w : ab_W) (k : Nat) (hk : k < g_ln.length) (i : Int) (h0 : 0 ≤ i) (h1 : i < ((g_ln.getD k 0 : Nat) : Int)) : ab_Mt g_G g_rs mt_Sl_charAt 2 0 0 [ab_R (ab_sb + 500 + k), ab_I i] w (ab_is (some (ab_I (((g_by.getD k []).getD i.toNat 0).toInt))) w) := by
  refine ab_Mt.of rfl (Nat.le_of_ble_eq_true rfl) ?_
  show ab_Ev g_G g_rs mt_Sl_charAt _ _ _ 0 [some (ab_R (ab_sb + 500 + k)), some (ab_I i)] [] _ _
  obtain ⟨hle, hby⟩ := sb_all k hk
  have hb2 := hby i.toNat (by omega)
  obtain ⟨z1, z2, z3⟩ := sb_c2 (((g_by.getD k []).getD i.toNat 0).toInt).toNat (by omega)
  rw [show (((((g_by.getD k []).getD i.toNat 0).toInt).toNat : Nat) : Int) = ((g_by.getD k []).getD i.toNat 0).toInt by omega] at z1 z2 z3
  refine ev_iload_n de_Sl_charAt_0 rfl rfl ?_
  refine ev_aload_n de_Sl_charAt_1 rfl rfl ?_
  refine ev_valen de_Sl_charAt_2 hk rfl ?_
  refine ev_sn de_Sl_charAt_3 (co_St_checkIndex w i _ (by omega) (show ab_in ((g_ln.getD k 0 : Nat) : Int) by omega) h0 h1) kb_Sl_9 sc_St_checkIndex rfl (Nat.le_of_ble_eq_true rfl) (by decide) rfl ?_
  refine ev_aload_n de_Sl_charAt_6 rfl rfl ?_
  refine ev_iload_n de_Sl_charAt_7 rfl rfl ?_
  refine ev_vald (b := ((g_by.getD k []).getD i.toNat 0).toInt) de_Sl_charAt_8 hk rfl h0 h1 (by omega) (ab_of _).symm ?_
  refine ev_sipush de_Sl_charAt_9 rfl ?_
  refine ev_iand de_Sl_charAt_12 ?_
  refine ev_top (congrArg Sum.inl z1) ?_
  refine ev_i2c de_Sl_charAt_13 z2 ?_
  exact ev_nreturn de_Sl_charAt_14 rfl z3 ⟨rfl, rfl⟩
theorem de_St_charAt_0 : decode prog_18_method_56_code 0 = .ok (.aload_n 0, 1) := by decide +kernel
theorem de_St_charAt_1 : decode prog_18_method_56_code 1 = .ok (.invokevirtual 492, 3) := by decide +kernel
theorem de_St_charAt_4 : decode prog_18_method_56_code 4 = .ok (.ifCond .eq 12, 3) := by decide +kernel
theorem de_St_charAt_7 : decode prog_18_method_56_code 7 = .ok (.aload_n 0, 1) := by decide +kernel
theorem de_St_charAt_8 : decode prog_18_method_56_code 8 = .ok (.getfield 9, 3) := by decide +kernel
theorem de_St_charAt_11 : decode prog_18_method_56_code 11 = .ok (.iload_n 1, 1) := by decide +kernel
theorem de_St_charAt_12 : decode prog_18_method_56_code 12 = .ok (.invokestatic 495, 3) := by decide +kernel
theorem de_St_charAt_15 : decode prog_18_method_56_code 15 = .ok (.ireturn, 1) := by decide +kernel
set_option maxRecDepth 10000 in
theorem co_St_charAt (w : ab_W) (k : Nat) (hk : k < g_ln.length) (i : Int) (h0 : 0 ≤ i) (h1 : i < ((g_ln.getD k 0 : Nat) : Int)) : ab_Mt g_G g_rs mt_St_charAt 3 0 0 [ab_R (ab_sb + k), ab_I i] w (ab_is (some (ab_I (((g_by.getD k []).getD i.toNat 0).toInt))) w) := by
  refine ab_Mt.of rfl (Nat.le_of_ble_eq_true rfl) ?_
  show ab_Ev g_G g_rs mt_St_charAt _ _ _ 0 [some (ab_R (ab_sb + k)), some (ab_I i)] [] _ _
  obtain ⟨hle, hby⟩ := sb_all k hk
  have hb2 := hby i.toNat (by omega)
  obtain ⟨z1, z2, z3⟩ := sb_c2 (((g_by.getD k []).getD i.toNat 0).toInt).toNat (by omega)
  rw [show (((((g_by.getD k []).getD i.toNat 0).toInt).toNat : Nat) : Int) = ((g_by.getD k []).getD i.toNat 0).toInt by omega] at z3
  refine ev_aload_n de_St_charAt_0 rfl rfl ?_
  refine ev_sk de_St_charAt_1 (co_St_isLatin1 w k hk) rfl hk kb_St_492 ⟨im_St_isLatin1, se_St_isLatin1⟩ rfl (Nat.le_of_ble_eq_true rfl) (by decide) ?_
  refine ev_if_eq (tgt := 16) de_St_charAt_4 (by decide) (by decide) (fun h => absurd h (by decide)) (fun _ => ?_)
  refine ev_aload_n de_St_charAt_7 rfl rfl ?_
  refine ev_value de_St_charAt_8 fs_9 hk ?_
  refine ev_iload_n de_St_charAt_11 rfl rfl ?_
  refine ev_sv de_St_charAt_12 (co_Sl_charAt w k hk i h0 h1) kb_St_495 sc_Sl_charAt rfl (Nat.le_of_ble_eq_true rfl) (by decide) rfl ?_
  exact ev_nreturn de_St_charAt_15 rfl z3 ⟨rfl, rfl⟩
