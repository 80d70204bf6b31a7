theorem la_and (a : Int) : 0 ≤ ab_iand a 31 ∧ ab_iand a 31 ≤ 31 := by
  unfold ab_iand
  have h : ((Int32.ofInt a &&& Int32.ofInt 31).toBitVec.toNat) ≤ 31 := by
    show ((Int32.ofInt a).toBitVec &&& (Int32.ofInt 31).toBitVec).toNat ≤ 31
    rw [BitVec.toNat_and]
    exact Nat.le_trans Nat.and_le_right (by decide)
  have e : (Int32.ofInt a &&& Int32.ofInt 31).toInt = ((Int32.ofInt a &&& Int32.ofInt 31).toBitVec.toNat : Int) := by
    show (Int32.ofInt a &&& Int32.ofInt 31).toBitVec.toInt = _
    exact BitVec.toInt_eq_toNat_of_lt (by omega)
  rw [e]
  omega
theorem la_out {b L : Nat} {xs : Nat → Int32} {bc bs : Nat} {l : ab_L} {w : ab_W} : ab_Ex b L xs g_G g_rs mt_La 10 bc bs 1190 l [] w () := by
  refine ex_iconst de_La_1190 ?_
  exact ex_ireturn de_La_1191
theorem la_end {b : Nat} {xs : Nat → Int32} {bc bs : Nat} (w : ab_W) : ab_Ex b 6 xs g_G g_rs mt_La 10 bc bs 1184 [some (ab_R (ab_sb + 1000)), some (ab_R 0), some (ab_R 107), some (ab_I 0)] [] w () := by
  refine ex_iinc (l' := [_, _, _, _]) de_La_1184 rfl rfl ?_
  refine ex_goto (tgt := 18) de_La_1187 (by decide) ?_
  refine ex_iload_n de_La_18 rfl rfl ?_
  refine ex_aload_n de_La_19 rfl rfl ?_
  refine ex_slen de_La_20 ?_
  refine ex_bipush de_La_21 rfl ?_
  refine ex_isub de_La_23 ?_
  refine ex_icmp_gt (tgt := 1190) de_La_24 (by decide) (by decide) (by decide) (fun _ => ?_) (fun h => absurd h (by decide))
  exact la_out
set_option maxRecDepth 20000 in
theorem la_0_0 {b : Nat} {xs : Nat → Int32} {bc bs : Nat} (v0 : Int) (e0 : (xs 1).toInt = v0) (hv0 : ab_in v0) (v1 : Int) (e1 : (xs 2).toInt = v1) (hv1 : ab_in v1) (v2 : Int) (e2 : (xs 3).toInt = v2) (hv2 : ab_in v2) (v3 : Int) (e3 : (xs 4).toInt = v3) (hv3 : ab_in v3) (v4 : Int) (e4 : (xs 5).toInt = v4) (hv4 : ab_in v4) : ab_Ex b 6 xs g_G g_rs mt_La 10 bc bs 176 [some (ab_R (ab_sb + 1000)), some (ab_R 0), some (ab_R 107), some (ab_I 0)] [] fw_0 () := by
  refine ex_aload_n de_La_176 rfl rfl ?_
  refine ex_aload_n de_La_177 rfl rfl ?_
  refine ex_iload_n de_La_178 rfl rfl ?_
  refine ex_iconst de_La_179 ?_
  refine ex_iadd de_La_180 ?_
  refine ex_top (c := ab_I 1) rfl ?_
  refine ex_sld de_La_181 (by decide) (by decide) (by decide) e0 ?_
  refine ex_aload_n de_La_182 rfl rfl ?_
  refine ex_iload_n de_La_183 rfl rfl ?_
  refine ex_iconst de_La_184 ?_
  refine ex_iadd de_La_185 ?_
  refine ex_top (c := ab_I 2) rfl ?_
  refine ex_sld de_La_186 (by decide) (by decide) (by decide) e1 ?_
  refine ex_aload_n de_La_187 rfl rfl ?_
  refine ex_iload_n de_La_188 rfl rfl ?_
  refine ex_iconst de_La_189 ?_
  refine ex_iadd de_La_190 ?_
  refine ex_top (c := ab_I 3) rfl ?_
  refine ex_sld de_La_191 (by decide) (by decide) (by decide) e2 ?_
  refine ex_aload_n de_La_192 rfl rfl ?_
  refine ex_iload_n de_La_193 rfl rfl ?_
  refine ex_iconst de_La_194 ?_
  refine ex_iadd de_La_195 ?_
  refine ex_top (c := ab_I 4) rfl ?_
  refine ex_sld de_La_196 (by decide) (by decide) (by decide) e3 ?_
  refine ex_aload_n de_La_197 rfl rfl ?_
  refine ex_iload_n de_La_198 rfl rfl ?_
  refine ex_iconst de_La_199 ?_
  refine ex_iadd de_La_200 ?_
  refine ex_top (c := ab_I 5) rfl ?_
  refine ex_sld de_La_201 (by decide) (by decide) (by decide) e4 ?_
  refine ex_vE (ci := 10) (W := fun g0 => ((fw_0.set 1 (ab_ob 8 [ab_R (2), ab_I (20), ab_I (0), ab_R (ab_sb + 0), ab_I (0), ab_I (0), ab_I (0), ab_I (0), ab_I (0)])).set 2 (ab_ai 1 400 (g0)))) de_La_202 (xx_feed (v0) (by first | assumption | decide) (v1) (by first | assumption | decide) (v2) (by first | assumption | decide) (v3) (by first | assumption | decide) (v4) (by first | assumption | decide)) kb_La_13 ⟨im_Tu_feed, se_Tu_feed⟩ rfl rfl rfl (Nat.le_of_ble_eq_true rfl) (by decide) (fun _ => rfl) (fun g => ?_)
  refine ex_aload_n de_La_205 rfl rfl ?_
  refine ex_aload_n de_La_206 rfl rfl ?_
  refine ex_iload_n de_La_207 rfl rfl ?_
  refine ex_iconst de_La_208 ?_
  refine ex_iadd de_La_209 ?_
  refine ex_top (c := ab_I 1) rfl ?_
  refine ex_sld de_La_210 (by decide) (by decide) (by decide) e0 ?_
  refine ex_aload_n de_La_211 rfl rfl ?_
  refine ex_iload_n de_La_212 rfl rfl ?_
  refine ex_iconst de_La_213 ?_
  refine ex_iadd de_La_214 ?_
  refine ex_top (c := ab_I 2) rfl ?_
  refine ex_sld de_La_215 (by decide) (by decide) (by decide) e1 ?_
  refine ex_aload_n de_La_216 rfl rfl ?_
  refine ex_iload_n de_La_217 rfl rfl ?_
  refine ex_iconst de_La_218 ?_
  refine ex_iadd de_La_219 ?_
  refine ex_top (c := ab_I 3) rfl ?_
  refine ex_sld de_La_220 (by decide) (by decide) (by decide) e2 ?_
  refine ex_aload_n de_La_221 rfl rfl ?_
  refine ex_iload_n de_La_222 rfl rfl ?_
  refine ex_iconst de_La_223 ?_
  refine ex_iadd de_La_224 ?_
  refine ex_top (c := ab_I 4) rfl ?_
  refine ex_sld de_La_225 (by decide) (by decide) (by decide) e3 ?_
  refine ex_aload_n de_La_226 rfl rfl ?_
  refine ex_iload_n de_La_227 rfl rfl ?_
  refine ex_iconst de_La_228 ?_
  refine ex_iadd de_La_229 ?_
  refine ex_top (c := ab_I 5) rfl ?_
  refine ex_sld de_La_230 (by decide) (by decide) (by decide) e4 ?_
  refine ex_va (ci := 11) de_La_231 (yy_feed g (v0) (by first | assumption | decide) (v1) (by first | assumption | decide) (v2) (by first | assumption | decide) (v3) (by first | assumption | decide) (v4) (by first | assumption | decide)) kb_La_17 ⟨im_Mo_feed, se_Mo_feed⟩ rfl rfl rfl (Nat.le_of_ble_eq_true rfl) (by decide) (fun w2 => ?_)
  refine ex_icmp_eq (tgt := 1184) de_La_234 (by decide) (by decide) (by decide) (fun _ => ?_) (fun h => absurd rfl h)
  exact la_end _
theorem la_op_0 {b : Nat} {xs : Nat → Int32} {bc bs : Nat} : ab_Ex b 6 xs g_G g_rs mt_La 10 bc bs 176 [some (ab_R (ab_sb + 1000)), some (ab_R 0), some (ab_R 107), some (ab_I 0)] [] fw_0 () := by
  obtain ⟨v0, e0⟩ : ∃ v, (xs 1).toInt = v := ⟨_, rfl⟩
  have hv0 : ab_in v0 := by rw [← e0]; exact ab_toin _
  obtain ⟨v1, e1⟩ : ∃ v, (xs 2).toInt = v := ⟨_, rfl⟩
  have hv1 : ab_in v1 := by rw [← e1]; exact ab_toin _
  obtain ⟨v2, e2⟩ : ∃ v, (xs 3).toInt = v := ⟨_, rfl⟩
  have hv2 : ab_in v2 := by rw [← e2]; exact ab_toin _
  obtain ⟨v3, e3⟩ : ∃ v, (xs 4).toInt = v := ⟨_, rfl⟩
  have hv3 : ab_in v3 := by rw [← e3]; exact ab_toin _
  obtain ⟨v4, e4⟩ : ∃ v, (xs 5).toInt = v := ⟨_, rfl⟩
  have hv4 : ab_in v4 := by rw [← e4]; exact ab_toin _
  exact la_0_0 v0 e0 hv0 v1 e1 hv1 v2 e2 hv2 v3 e3 hv3 v4 e4 hv4
set_option maxRecDepth 20000 in
theorem la_1_0 {b : Nat} {xs : Nat → Int32} {bc bs : Nat} (e0 : (xs 1).toInt = 0) : ab_Ex b 6 xs g_G g_rs mt_La 10 bc bs 239 [some (ab_R (ab_sb + 1000)), some (ab_R 0), some (ab_R 107), some (ab_I 0)] [] fw_0 () := by
  refine ex_aload_n de_La_239 rfl rfl ?_
  refine ex_aload_n de_La_240 rfl rfl ?_
  refine ex_iload_n de_La_241 rfl rfl ?_
  refine ex_iconst de_La_242 ?_
  refine ex_iadd de_La_243 ?_
  refine ex_top (c := ab_I 1) rfl ?_
  refine ex_sld de_La_244 (by decide) (by decide) (by decide) e0 ?_
  refine ex_vv (ci := 10) de_La_245 (xx_end_0) kb_La_18 ⟨im_Tu_end, se_Tu_end⟩ rfl rfl rfl (Nat.le_of_ble_eq_true rfl) (by decide) rfl ?_
  refine ex_aload_n de_La_248 rfl rfl ?_
  refine ex_aload_n de_La_249 rfl rfl ?_
  refine ex_iload_n de_La_250 rfl rfl ?_
  refine ex_iconst de_La_251 ?_
  refine ex_iadd de_La_252 ?_
  refine ex_top (c := ab_I 1) rfl ?_
  refine ex_sld de_La_253 (by decide) (by decide) (by decide) e0 ?_
  refine ex_vv (ci := 11) de_La_254 (yy_end_0) kb_La_22 ⟨im_Mo_end, se_Mo_end⟩ rfl rfl rfl (Nat.le_of_ble_eq_true rfl) (by decide) rfl ?_
  refine ex_icmp_eq (tgt := 1184) de_La_257 (by decide) (by decide) (by decide) (fun _ => ?_) (fun h => absurd rfl h)
  exact la_end _
set_option maxRecDepth 20000 in
theorem la_1_1 {b : Nat} {xs : Nat → Int32} {bc bs : Nat} (v0 : Int) (e0 : (xs 1).toInt = v0) (hv0 : ab_in v0) (hc0 : (v0 ≤ (-1)) ∨ (1 ≤ v0)) : ab_Ex b 6 xs g_G g_rs mt_La 10 bc bs 239 [some (ab_R (ab_sb + 1000)), some (ab_R 0), some (ab_R 107), some (ab_I 0)] [] fw_0 () := by
  refine ex_aload_n de_La_239 rfl rfl ?_
  refine ex_aload_n de_La_240 rfl rfl ?_
  refine ex_iload_n de_La_241 rfl rfl ?_
  refine ex_iconst de_La_242 ?_
  refine ex_iadd de_La_243 ?_
  refine ex_top (c := ab_I 1) rfl ?_
  refine ex_sld de_La_244 (by decide) (by decide) (by decide) e0 ?_
  refine ex_vv (ci := 10) de_La_245 (xx_end_1 (v0) (by first | assumption | decide) hc0) kb_La_18 ⟨im_Tu_end, se_Tu_end⟩ rfl rfl rfl (Nat.le_of_ble_eq_true rfl) (by decide) rfl ?_
  refine ex_aload_n de_La_248 rfl rfl ?_
  refine ex_aload_n de_La_249 rfl rfl ?_
  refine ex_iload_n de_La_250 rfl rfl ?_
  refine ex_iconst de_La_251 ?_
  refine ex_iadd de_La_252 ?_
  refine ex_top (c := ab_I 1) rfl ?_
  refine ex_sld de_La_253 (by decide) (by decide) (by decide) e0 ?_
  refine ex_vv (ci := 11) de_La_254 (yy_end_1 (v0) (by first | assumption | decide) hc0) kb_La_22 ⟨im_Mo_end, se_Mo_end⟩ rfl rfl rfl (Nat.le_of_ble_eq_true rfl) (by decide) rfl ?_
  refine ex_icmp_eq (tgt := 1184) de_La_257 (by decide) (by decide) (by decide) (fun _ => ?_) (fun h => absurd rfl h)
  exact la_end _
theorem la_op_1 {b : Nat} {xs : Nat → Int32} {bc bs : Nat} : ab_Ex b 6 xs g_G g_rs mt_La 10 bc bs 239 [some (ab_R (ab_sb + 1000)), some (ab_R 0), some (ab_R 107), some (ab_I 0)] [] fw_0 () := by
  obtain ⟨v0, e0⟩ : ∃ v, (xs 1).toInt = v := ⟨_, rfl⟩
  have hv0 : ab_in v0 := by rw [← e0]; exact ab_toin _
  rcases (by omega : v0 = 0 ∨ ((v0 ≤ (-1)) ∨ (1 ≤ v0))) with hc0 | hc0
  · exact la_1_0 (e0.trans hc0) 
  · exact la_1_1 v0 e0 hv0 hc0
set_option maxRecDepth 20000 in
theorem la_2_0 {b : Nat} {xs : Nat → Int32} {bc bs : Nat} : ab_Ex b 6 xs g_G g_rs mt_La 10 bc bs 262 [some (ab_R (ab_sb + 1000)), some (ab_R 0), some (ab_R 107), some (ab_I 0)] [] fw_0 () := by
  refine ex_aload_n de_La_262 rfl rfl ?_
  refine ex_vv (ci := 10) de_La_263 (xx_ring_0) kb_La_23 ⟨im_Tu_ring, se_Tu_ring⟩ rfl rfl rfl (Nat.le_of_ble_eq_true rfl) (by decide) rfl ?_
  refine ex_aload_n de_La_266 rfl rfl ?_
  refine ex_va (ci := 11) de_La_267 yy_ring kb_La_27 ⟨im_Mo_ring, se_Mo_ring⟩ rfl rfl rfl (Nat.le_of_ble_eq_true rfl) (by decide) (fun w2 => ?_)
  refine ex_icmp_eq (tgt := 1184) de_La_270 (by decide) (by decide) (by decide) (fun _ => ?_) (fun h => absurd rfl h)
  exact la_end _
theorem la_op_2 {b : Nat} {xs : Nat → Int32} {bc bs : Nat} : ab_Ex b 6 xs g_G g_rs mt_La 10 bc bs 262 [some (ab_R (ab_sb + 1000)), some (ab_R 0), some (ab_R 107), some (ab_I 0)] [] fw_0 () := by
  exact la_2_0 
set_option maxRecDepth 20000 in
theorem la_3_0 {b : Nat} {xs : Nat → Int32} {bc bs : Nat} : ab_Ex b 6 xs g_G g_rs mt_La 10 bc bs 275 [some (ab_R (ab_sb + 1000)), some (ab_R 0), some (ab_R 107), some (ab_I 0)] [] fw_0 () := by
  refine ex_aload_n de_La_275 rfl rfl ?_
  refine ex_vv (ci := 10) de_La_276 (xx_rule_0) kb_La_28 ⟨im_Tu_rule, se_Tu_rule⟩ rfl rfl rfl (Nat.le_of_ble_eq_true rfl) (by decide) rfl ?_
  refine ex_aload_n de_La_279 rfl rfl ?_
  refine ex_vv (ci := 11) de_La_280 (yy_rule_0) kb_La_31 ⟨im_Mo_rule, se_Mo_rule⟩ rfl rfl rfl (Nat.le_of_ble_eq_true rfl) (by decide) rfl ?_
  refine ex_icmp_eq (tgt := 1184) de_La_283 (by decide) (by decide) (by decide) (fun _ => ?_) (fun h => absurd rfl h)
  exact la_end _
theorem la_op_3 {b : Nat} {xs : Nat → Int32} {bc bs : Nat} : ab_Ex b 6 xs g_G g_rs mt_La 10 bc bs 275 [some (ab_R (ab_sb + 1000)), some (ab_R 0), some (ab_R 107), some (ab_I 0)] [] fw_0 () := by
  exact la_3_0 
set_option maxRecDepth 20000 in
theorem la_4_0 {b : Nat} {xs : Nat → Int32} {bc bs : Nat} (v0 : Int) (e0 : (xs 1).toInt = v0) (hv0 : ab_in v0) (v1 : Int) (e1 : (xs 2).toInt = v1) (hv1 : ab_in v1) : ab_Ex b 6 xs g_G g_rs mt_La 10 bc bs 288 [some (ab_R (ab_sb + 1000)), some (ab_R 0), some (ab_R 107), some (ab_I 0)] [] fw_0 () := by
  refine ex_aload_n de_La_288 rfl rfl ?_
  refine ex_aload_n de_La_289 rfl rfl ?_
  refine ex_iload_n de_La_290 rfl rfl ?_
  refine ex_iconst de_La_291 ?_
  refine ex_iadd de_La_292 ?_
  refine ex_top (c := ab_I 1) rfl ?_
  refine ex_sld de_La_293 (by decide) (by decide) (by decide) e0 ?_
  refine ex_aload_n de_La_294 rfl rfl ?_
  refine ex_iload_n de_La_295 rfl rfl ?_
  refine ex_iconst de_La_296 ?_
  refine ex_iadd de_La_297 ?_
  refine ex_top (c := ab_I 2) rfl ?_
  refine ex_sld de_La_298 (by decide) (by decide) (by decide) e1 ?_
  refine ex_vv (ci := 10) de_La_299 (xx_house_0 (v0) (by first | assumption | decide) (v1) (by first | assumption | decide)) kb_La_32 ⟨im_Tu_house, se_Tu_house⟩ rfl rfl rfl (Nat.le_of_ble_eq_true rfl) (by decide) rfl ?_
  refine ex_aload_n de_La_302 rfl rfl ?_
  refine ex_aload_n de_La_303 rfl rfl ?_
  refine ex_iload_n de_La_304 rfl rfl ?_
  refine ex_iconst de_La_305 ?_
  refine ex_iadd de_La_306 ?_
  refine ex_top (c := ab_I 1) rfl ?_
  refine ex_sld de_La_307 (by decide) (by decide) (by decide) e0 ?_
  refine ex_aload_n de_La_308 rfl rfl ?_
  refine ex_iload_n de_La_309 rfl rfl ?_
  refine ex_iconst de_La_310 ?_
  refine ex_iadd de_La_311 ?_
  refine ex_top (c := ab_I 2) rfl ?_
  refine ex_sld de_La_312 (by decide) (by decide) (by decide) e1 ?_
  refine ex_vv (ci := 11) de_La_313 (yy_house_0 (v0) (by first | assumption | decide) (v1) (by first | assumption | decide)) kb_La_36 ⟨im_Mo_house, se_Mo_house⟩ rfl rfl rfl (Nat.le_of_ble_eq_true rfl) (by decide) rfl ?_
  refine ex_icmp_eq (tgt := 1184) de_La_316 (by decide) (by decide) (by decide) (fun _ => ?_) (fun h => absurd rfl h)
  exact la_end _
theorem la_op_4 {b : Nat} {xs : Nat → Int32} {bc bs : Nat} : ab_Ex b 6 xs g_G g_rs mt_La 10 bc bs 288 [some (ab_R (ab_sb + 1000)), some (ab_R 0), some (ab_R 107), some (ab_I 0)] [] fw_0 () := by
  obtain ⟨v0, e0⟩ : ∃ v, (xs 1).toInt = v := ⟨_, rfl⟩
  have hv0 : ab_in v0 := by rw [← e0]; exact ab_toin _
  obtain ⟨v1, e1⟩ : ∃ v, (xs 2).toInt = v := ⟨_, rfl⟩
  have hv1 : ab_in v1 := by rw [← e1]; exact ab_toin _
  exact la_4_0 v0 e0 hv0 v1 e1 hv1
set_option maxRecDepth 20000 in
theorem la_5_0 {b : Nat} {xs : Nat → Int32} {bc bs : Nat} (v0 : Int) (e0 : (xs 1).toInt = v0) (hv0 : ab_in v0) (v1 : Int) (e1 : (xs 2).toInt = v1) (hv1 : ab_in v1) : ab_Ex b 6 xs g_G g_rs mt_La 10 bc bs 321 [some (ab_R (ab_sb + 1000)), some (ab_R 0), some (ab_R 107), some (ab_I 0)] [] fw_0 () := by
  refine ex_aload_n de_La_321 rfl rfl ?_
  refine ex_aload_n de_La_322 rfl rfl ?_
  refine ex_iload_n de_La_323 rfl rfl ?_
  refine ex_iconst de_La_324 ?_
  refine ex_iadd de_La_325 ?_
  refine ex_top (c := ab_I 1) rfl ?_
  refine ex_sld de_La_326 (by decide) (by decide) (by decide) e0 ?_
  refine ex_aload_n de_La_327 rfl rfl ?_
  refine ex_iload_n de_La_328 rfl rfl ?_
  refine ex_iconst de_La_329 ?_
  refine ex_iadd de_La_330 ?_
  refine ex_top (c := ab_I 2) rfl ?_
  refine ex_sld de_La_331 (by decide) (by decide) (by decide) e1 ?_
  refine ex_vv (ci := 10) de_La_332 (xx_direction_0 (v0) (by first | assumption | decide) (v1) (by first | assumption | decide)) kb_La_37 ⟨im_Tu_direction, se_Tu_direction⟩ rfl rfl rfl (Nat.le_of_ble_eq_true rfl) (by decide) rfl ?_
  refine ex_aload_n de_La_335 rfl rfl ?_
  refine ex_aload_n de_La_336 rfl rfl ?_
  refine ex_iload_n de_La_337 rfl rfl ?_
  refine ex_iconst de_La_338 ?_
  refine ex_iadd de_La_339 ?_
  refine ex_top (c := ab_I 1) rfl ?_
  refine ex_sld de_La_340 (by decide) (by decide) (by decide) e0 ?_
  refine ex_aload_n de_La_341 rfl rfl ?_
  refine ex_iload_n de_La_342 rfl rfl ?_
  refine ex_iconst de_La_343 ?_
  refine ex_iadd de_La_344 ?_
  refine ex_top (c := ab_I 2) rfl ?_
  refine ex_sld de_La_345 (by decide) (by decide) (by decide) e1 ?_
  refine ex_vv (ci := 11) de_La_346 (yy_direction_0 (v0) (by first | assumption | decide) (v1) (by first | assumption | decide)) kb_La_40 ⟨im_Mo_direction, se_Mo_direction⟩ rfl rfl rfl (Nat.le_of_ble_eq_true rfl) (by decide) rfl ?_
  refine ex_icmp_eq (tgt := 1184) de_La_349 (by decide) (by decide) (by decide) (fun _ => ?_) (fun h => absurd rfl h)
  exact la_end _
theorem la_op_5 {b : Nat} {xs : Nat → Int32} {bc bs : Nat} : ab_Ex b 6 xs g_G g_rs mt_La 10 bc bs 321 [some (ab_R (ab_sb + 1000)), some (ab_R 0), some (ab_R 107), some (ab_I 0)] [] fw_0 () := by
  obtain ⟨v0, e0⟩ : ∃ v, (xs 1).toInt = v := ⟨_, rfl⟩
  have hv0 : ab_in v0 := by rw [← e0]; exact ab_toin _
  obtain ⟨v1, e1⟩ : ∃ v, (xs 2).toInt = v := ⟨_, rfl⟩
  have hv1 : ab_in v1 := by rw [← e1]; exact ab_toin _
  exact la_5_0 v0 e0 hv0 v1 e1 hv1
set_option maxRecDepth 20000 in
theorem la_6_0 {b : Nat} {xs : Nat → Int32} {bc bs : Nat} (v0 : Int) (e0 : (xs 1).toInt = v0) (hv0 : ab_in v0) : ab_Ex b 6 xs g_G g_rs mt_La 10 bc bs 354 [some (ab_R (ab_sb + 1000)), some (ab_R 0), some (ab_R 107), some (ab_I 0)] [] fw_0 () := by
  refine ex_aload_n de_La_354 rfl rfl ?_
  refine ex_aload_n de_La_355 rfl rfl ?_
  refine ex_iload_n de_La_356 rfl rfl ?_
  refine ex_iconst de_La_357 ?_
  refine ex_iadd de_La_358 ?_
  refine ex_top (c := ab_I 1) rfl ?_
  refine ex_sld de_La_359 (by decide) (by decide) (by decide) e0 ?_
  refine ex_vv (ci := 10) de_La_360 (xx_rateOf_0 (v0) (by first | assumption | decide)) kb_La_41 ⟨im_Tu_rateOf, se_Tu_rateOf⟩ rfl rfl rfl (Nat.le_of_ble_eq_true rfl) (by decide) rfl ?_
  refine ex_aload_n de_La_363 rfl rfl ?_
  refine ex_aload_n de_La_364 rfl rfl ?_
  refine ex_iload_n de_La_365 rfl rfl ?_
  refine ex_iconst de_La_366 ?_
  refine ex_iadd de_La_367 ?_
  refine ex_top (c := ab_I 1) rfl ?_
  refine ex_sld de_La_368 (by decide) (by decide) (by decide) e0 ?_
  refine ex_vv (ci := 11) de_La_369 (yy_rateOf_0 (v0) (by first | assumption | decide)) kb_La_44 ⟨im_Mo_rateOf, se_Mo_rateOf⟩ rfl rfl rfl (Nat.le_of_ble_eq_true rfl) (by decide) rfl ?_
  refine ex_icmp_eq (tgt := 1184) de_La_372 (by decide) (by decide) (by decide) (fun _ => ?_) (fun h => absurd rfl h)
  exact la_end _
theorem la_op_6 {b : Nat} {xs : Nat → Int32} {bc bs : Nat} : ab_Ex b 6 xs g_G g_rs mt_La 10 bc bs 354 [some (ab_R (ab_sb + 1000)), some (ab_R 0), some (ab_R 107), some (ab_I 0)] [] fw_0 () := by
  obtain ⟨v0, e0⟩ : ∃ v, (xs 1).toInt = v := ⟨_, rfl⟩
  have hv0 : ab_in v0 := by rw [← e0]; exact ab_toin _
  exact la_6_0 v0 e0 hv0
set_option maxRecDepth 20000 in
theorem la_7_0 {b : Nat} {xs : Nat → Int32} {bc bs : Nat} (v0 : Int) (e0 : (xs 1).toInt = v0) (hv0 : ab_in v0) : ab_Ex b 6 xs g_G g_rs mt_La 10 bc bs 377 [some (ab_R (ab_sb + 1000)), some (ab_R 0), some (ab_R 107), some (ab_I 0)] [] fw_0 () := by
  refine ex_aload_n de_La_377 rfl rfl ?_
  refine ex_aload_n de_La_378 rfl rfl ?_
  refine ex_iload_n de_La_379 rfl rfl ?_
  refine ex_iconst de_La_380 ?_
  refine ex_iadd de_La_381 ?_
  refine ex_top (c := ab_I 1) rfl ?_
  refine ex_sld de_La_382 (by decide) (by decide) (by decide) e0 ?_
  refine ex_vv (ci := 10) de_La_383 (xx_worn_0 (v0) (by first | assumption | decide)) kb_La_45 ⟨im_Tu_worn, se_Tu_worn⟩ rfl rfl rfl (Nat.le_of_ble_eq_true rfl) (by decide) rfl ?_
  refine ex_aload_n de_La_386 rfl rfl ?_
  refine ex_aload_n de_La_387 rfl rfl ?_
  refine ex_iload_n de_La_388 rfl rfl ?_
  refine ex_iconst de_La_389 ?_
  refine ex_iadd de_La_390 ?_
  refine ex_top (c := ab_I 1) rfl ?_
  refine ex_sld de_La_391 (by decide) (by decide) (by decide) e0 ?_
  refine ex_vv (ci := 11) de_La_392 (yy_worn_0 (v0) (by first | assumption | decide)) kb_La_48 ⟨im_Mo_worn, se_Mo_worn⟩ rfl rfl rfl (Nat.le_of_ble_eq_true rfl) (by decide) rfl ?_
  refine ex_icmp_eq (tgt := 1184) de_La_395 (by decide) (by decide) (by decide) (fun _ => ?_) (fun h => absurd rfl h)
  exact la_end _
theorem la_op_7 {b : Nat} {xs : Nat → Int32} {bc bs : Nat} : ab_Ex b 6 xs g_G g_rs mt_La 10 bc bs 377 [some (ab_R (ab_sb + 1000)), some (ab_R 0), some (ab_R 107), some (ab_I 0)] [] fw_0 () := by
  obtain ⟨v0, e0⟩ : ∃ v, (xs 1).toInt = v := ⟨_, rfl⟩
  have hv0 : ab_in v0 := by rw [← e0]; exact ab_toin _
  exact la_7_0 v0 e0 hv0
set_option maxRecDepth 20000 in
theorem la_8_0 {b : Nat} {xs : Nat → Int32} {bc bs : Nat} : ab_Ex b 6 xs g_G g_rs mt_La 10 bc bs 400 [some (ab_R (ab_sb + 1000)), some (ab_R 0), some (ab_R 107), some (ab_I 0)] [] fw_0 () := by
  refine ex_aload_n de_La_400 rfl rfl ?_
  refine ex_vv (ci := 10) de_La_401 (xx_hour_0) kb_La_49 ⟨im_Tu_hour, se_Tu_hour⟩ rfl rfl rfl (Nat.le_of_ble_eq_true rfl) (by decide) rfl ?_
  refine ex_aload_n de_La_404 rfl rfl ?_
  refine ex_vv (ci := 11) de_La_405 (yy_hour_0) kb_La_52 ⟨im_Mo_hour, se_Mo_hour⟩ rfl rfl rfl (Nat.le_of_ble_eq_true rfl) (by decide) rfl ?_
  refine ex_icmp_eq (tgt := 1184) de_La_408 (by decide) (by decide) (by decide) (fun _ => ?_) (fun h => absurd rfl h)
  exact la_end _
theorem la_op_8 {b : Nat} {xs : Nat → Int32} {bc bs : Nat} : ab_Ex b 6 xs g_G g_rs mt_La 10 bc bs 400 [some (ab_R (ab_sb + 1000)), some (ab_R 0), some (ab_R 107), some (ab_I 0)] [] fw_0 () := by
  exact la_8_0 
set_option maxRecDepth 20000 in
theorem la_9_0 {b : Nat} {xs : Nat → Int32} {bc bs : Nat} (v0 : Int) (e0 : (xs 1).toInt = v0) (hv0 : ab_in v0) (v1 : Int) (e1 : (xs 2).toInt = v1) (hv1 : ab_in v1) : ab_Ex b 6 xs g_G g_rs mt_La 10 bc bs 413 [some (ab_R (ab_sb + 1000)), some (ab_R 0), some (ab_R 107), some (ab_I 0)] [] fw_0 () := by
  refine ex_aload_n de_La_413 rfl rfl ?_
  refine ex_aload_n de_La_414 rfl rfl ?_
  refine ex_iload_n de_La_415 rfl rfl ?_
  refine ex_iconst de_La_416 ?_
  refine ex_iadd de_La_417 ?_
  refine ex_top (c := ab_I 1) rfl ?_
  refine ex_sld de_La_418 (by decide) (by decide) (by decide) e0 ?_
  refine ex_aload_n de_La_419 rfl rfl ?_
  refine ex_iload_n de_La_420 rfl rfl ?_
  refine ex_iconst de_La_421 ?_
  refine ex_iadd de_La_422 ?_
  refine ex_top (c := ab_I 2) rfl ?_
  refine ex_sld de_La_423 (by decide) (by decide) (by decide) e1 ?_
  refine ex_vv (ci := 10) de_La_424 (xx_rate_0 (v0) (by first | assumption | decide) (v1) (by first | assumption | decide)) kb_La_53 ⟨im_Tu_rate, se_Tu_rate⟩ rfl rfl rfl (Nat.le_of_ble_eq_true rfl) (by decide) rfl ?_
  refine ex_aload_n de_La_427 rfl rfl ?_
  refine ex_aload_n de_La_428 rfl rfl ?_
  refine ex_iload_n de_La_429 rfl rfl ?_
  refine ex_iconst de_La_430 ?_
  refine ex_iadd de_La_431 ?_
  refine ex_top (c := ab_I 1) rfl ?_
  refine ex_sld de_La_432 (by decide) (by decide) (by decide) e0 ?_
  refine ex_aload_n de_La_433 rfl rfl ?_
  refine ex_iload_n de_La_434 rfl rfl ?_
  refine ex_iconst de_La_435 ?_
  refine ex_iadd de_La_436 ?_
  refine ex_top (c := ab_I 2) rfl ?_
  refine ex_sld de_La_437 (by decide) (by decide) (by decide) e1 ?_
  refine ex_vv (ci := 11) de_La_438 (yy_rate_0 (v0) (by first | assumption | decide) (v1) (by first | assumption | decide)) kb_La_56 ⟨im_Mo_rate, se_Mo_rate⟩ rfl rfl rfl (Nat.le_of_ble_eq_true rfl) (by decide) rfl ?_
  refine ex_icmp_eq (tgt := 1184) de_La_441 (by decide) (by decide) (by decide) (fun _ => ?_) (fun h => absurd rfl h)
  exact la_end _
theorem la_op_9 {b : Nat} {xs : Nat → Int32} {bc bs : Nat} : ab_Ex b 6 xs g_G g_rs mt_La 10 bc bs 413 [some (ab_R (ab_sb + 1000)), some (ab_R 0), some (ab_R 107), some (ab_I 0)] [] fw_0 () := by
  obtain ⟨v0, e0⟩ : ∃ v, (xs 1).toInt = v := ⟨_, rfl⟩
  have hv0 : ab_in v0 := by rw [← e0]; exact ab_toin _
  obtain ⟨v1, e1⟩ : ∃ v, (xs 2).toInt = v := ⟨_, rfl⟩
  have hv1 : ab_in v1 := by rw [← e1]; exact ab_toin _
  exact la_9_0 v0 e0 hv0 v1 e1 hv1
set_option maxRecDepth 20000 in
theorem la_10_0 {b : Nat} {xs : Nat → Int32} {bc bs : Nat} (v0 : Int) (e0 : (xs 1).toInt = v0) (hv0 : ab_in v0) (v1 : Int) (e1 : (xs 2).toInt = v1) (hv1 : ab_in v1) : ab_Ex b 6 xs g_G g_rs mt_La 10 bc bs 446 [some (ab_R (ab_sb + 1000)), some (ab_R 0), some (ab_R 107), some (ab_I 0)] [] fw_0 () := by
  refine ex_aload_n de_La_446 rfl rfl ?_
  refine ex_aload_n de_La_447 rfl rfl ?_
  refine ex_iload_n de_La_448 rfl rfl ?_
  refine ex_iconst de_La_449 ?_
  refine ex_iadd de_La_450 ?_
  refine ex_top (c := ab_I 1) rfl ?_
  refine ex_sld de_La_451 (by decide) (by decide) (by decide) e0 ?_
  refine ex_aload_n de_La_452 rfl rfl ?_
  refine ex_iload_n de_La_453 rfl rfl ?_
  refine ex_iconst de_La_454 ?_
  refine ex_iadd de_La_455 ?_
  refine ex_top (c := ab_I 2) rfl ?_
  refine ex_sld de_La_456 (by decide) (by decide) (by decide) e1 ?_
  refine ex_vv (ci := 10) de_La_457 (xx_swap_0 (v0) (by first | assumption | decide) (v1) (by first | assumption | decide)) kb_La_57 ⟨im_Tu_swap, se_Tu_swap⟩ rfl rfl rfl (Nat.le_of_ble_eq_true rfl) (by decide) rfl ?_
  refine ex_aload_n de_La_460 rfl rfl ?_
  refine ex_aload_n de_La_461 rfl rfl ?_
  refine ex_iload_n de_La_462 rfl rfl ?_
  refine ex_iconst de_La_463 ?_
  refine ex_iadd de_La_464 ?_
  refine ex_top (c := ab_I 1) rfl ?_
  refine ex_sld de_La_465 (by decide) (by decide) (by decide) e0 ?_
  refine ex_aload_n de_La_466 rfl rfl ?_
  refine ex_iload_n de_La_467 rfl rfl ?_
  refine ex_iconst de_La_468 ?_
  refine ex_iadd de_La_469 ?_
  refine ex_top (c := ab_I 2) rfl ?_
  refine ex_sld de_La_470 (by decide) (by decide) (by decide) e1 ?_
  refine ex_vv (ci := 11) de_La_471 (yy_swap_0 (v0) (by first | assumption | decide) (v1) (by first | assumption | decide)) kb_La_61 ⟨im_Mo_swap, se_Mo_swap⟩ rfl rfl rfl (Nat.le_of_ble_eq_true rfl) (by decide) rfl ?_
  refine ex_icmp_eq (tgt := 1184) de_La_474 (by decide) (by decide) (by decide) (fun _ => ?_) (fun h => absurd rfl h)
  exact la_end _
theorem la_op_10 {b : Nat} {xs : Nat → Int32} {bc bs : Nat} : ab_Ex b 6 xs g_G g_rs mt_La 10 bc bs 446 [some (ab_R (ab_sb + 1000)), some (ab_R 0), some (ab_R 107), some (ab_I 0)] [] fw_0 () := by
  obtain ⟨v0, e0⟩ : ∃ v, (xs 1).toInt = v := ⟨_, rfl⟩
  have hv0 : ab_in v0 := by rw [← e0]; exact ab_toin _
  obtain ⟨v1, e1⟩ : ∃ v, (xs 2).toInt = v := ⟨_, rfl⟩
  have hv1 : ab_in v1 := by rw [← e1]; exact ab_toin _
  exact la_10_0 v0 e0 hv0 v1 e1 hv1
set_option maxRecDepth 20000 in
theorem la_11_0 {b : Nat} {xs : Nat → Int32} {bc bs : Nat} : ab_Ex b 6 xs g_G g_rs mt_La 10 bc bs 479 [some (ab_R (ab_sb + 1000)), some (ab_R 0), some (ab_R 107), some (ab_I 0)] [] fw_0 () := by
  refine ex_aload_n de_La_479 rfl rfl ?_
  refine ex_vv (ci := 10) de_La_480 (xx_stop_0) kb_La_62 ⟨im_Tu_stop, se_Tu_stop⟩ rfl rfl rfl (Nat.le_of_ble_eq_true rfl) (by decide) rfl ?_
  refine ex_aload_n de_La_483 rfl rfl ?_
  refine ex_vv (ci := 11) de_La_484 (yy_stop_0) kb_La_66 ⟨im_Mo_stop, se_Mo_stop⟩ rfl rfl rfl (Nat.le_of_ble_eq_true rfl) (by decide) rfl ?_
  refine ex_icmp_eq (tgt := 1184) de_La_487 (by decide) (by decide) (by decide) (fun _ => ?_) (fun h => absurd rfl h)
  exact la_end _
theorem la_op_11 {b : Nat} {xs : Nat → Int32} {bc bs : Nat} : ab_Ex b 6 xs g_G g_rs mt_La 10 bc bs 479 [some (ab_R (ab_sb + 1000)), some (ab_R 0), some (ab_R 107), some (ab_I 0)] [] fw_0 () := by
  exact la_11_0 
set_option maxRecDepth 20000 in
theorem la_12_0 {b : Nat} {xs : Nat → Int32} {bc bs : Nat} : ab_Ex b 6 xs g_G g_rs mt_La 10 bc bs 492 [some (ab_R (ab_sb + 1000)), some (ab_R 0), some (ab_R 107), some (ab_I 0)] [] fw_0 () := by
  refine ex_aload_n de_La_492 rfl rfl ?_
  refine ex_vv (ci := 10) de_La_493 (xx_undo_0) kb_La_67 ⟨im_Tu_undo, se_Tu_undo⟩ rfl rfl rfl (Nat.le_of_ble_eq_true rfl) (by decide) rfl ?_
  refine ex_aload_n de_La_496 rfl rfl ?_
  refine ex_vv (ci := 11) de_La_497 (yy_undo_0) kb_La_70 ⟨im_Mo_undo, se_Mo_undo⟩ rfl rfl rfl (Nat.le_of_ble_eq_true rfl) (by decide) rfl ?_
  refine ex_icmp_eq (tgt := 1184) de_La_500 (by decide) (by decide) (by decide) (fun _ => ?_) (fun h => absurd rfl h)
  exact la_end _
theorem la_op_12 {b : Nat} {xs : Nat → Int32} {bc bs : Nat} : ab_Ex b 6 xs g_G g_rs mt_La 10 bc bs 492 [some (ab_R (ab_sb + 1000)), some (ab_R 0), some (ab_R 107), some (ab_I 0)] [] fw_0 () := by
  exact la_12_0 
set_option maxRecDepth 20000 in
theorem la_13_0 {b : Nat} {xs : Nat → Int32} {bc bs : Nat} (v0 : Int) (e0 : (xs 1).toInt = v0) (hv0 : ab_in v0) (v1 : Int) (e1 : (xs 2).toInt = v1) (hv1 : ab_in v1) : ab_Ex b 6 xs g_G g_rs mt_La 10 bc bs 505 [some (ab_R (ab_sb + 1000)), some (ab_R 0), some (ab_R 107), some (ab_I 0)] [] fw_0 () := by
  refine ex_aload_n de_La_505 rfl rfl ?_
  refine ex_aload_n de_La_506 rfl rfl ?_
  refine ex_iload_n de_La_507 rfl rfl ?_
  refine ex_iconst de_La_508 ?_
  refine ex_iadd de_La_509 ?_
  refine ex_top (c := ab_I 1) rfl ?_
  refine ex_sld de_La_510 (by decide) (by decide) (by decide) e0 ?_
  refine ex_aload_n de_La_511 rfl rfl ?_
  refine ex_iload_n de_La_512 rfl rfl ?_
  refine ex_iconst de_La_513 ?_
  refine ex_iadd de_La_514 ?_
  refine ex_top (c := ab_I 2) rfl ?_
  refine ex_sld de_La_515 (by decide) (by decide) (by decide) e1 ?_
  refine ex_vv (ci := 10) de_La_516 (xx_run_0 (v0) (by first | assumption | decide) (v1) (by first | assumption | decide)) kb_La_71 ⟨im_Tu_run, se_Tu_run⟩ rfl rfl rfl (Nat.le_of_ble_eq_true rfl) (by decide) rfl ?_
  refine ex_aload_n de_La_519 rfl rfl ?_
  refine ex_aload_n de_La_520 rfl rfl ?_
  refine ex_iload_n de_La_521 rfl rfl ?_
  refine ex_iconst de_La_522 ?_
  refine ex_iadd de_La_523 ?_
  refine ex_top (c := ab_I 1) rfl ?_
  refine ex_sld de_La_524 (by decide) (by decide) (by decide) e0 ?_
  refine ex_aload_n de_La_525 rfl rfl ?_
  refine ex_iload_n de_La_526 rfl rfl ?_
  refine ex_iconst de_La_527 ?_
  refine ex_iadd de_La_528 ?_
  refine ex_top (c := ab_I 2) rfl ?_
  refine ex_sld de_La_529 (by decide) (by decide) (by decide) e1 ?_
  refine ex_vv (ci := 11) de_La_530 (yy_run_0 (v0) (by first | assumption | decide) (v1) (by first | assumption | decide)) kb_La_74 ⟨im_Mo_run, se_Mo_run⟩ rfl rfl rfl (Nat.le_of_ble_eq_true rfl) (by decide) rfl ?_
  refine ex_icmp_eq (tgt := 1184) de_La_533 (by decide) (by decide) (by decide) (fun _ => ?_) (fun h => absurd rfl h)
  exact la_end _
theorem la_op_13 {b : Nat} {xs : Nat → Int32} {bc bs : Nat} : ab_Ex b 6 xs g_G g_rs mt_La 10 bc bs 505 [some (ab_R (ab_sb + 1000)), some (ab_R 0), some (ab_R 107), some (ab_I 0)] [] fw_0 () := by
  obtain ⟨v0, e0⟩ : ∃ v, (xs 1).toInt = v := ⟨_, rfl⟩
  have hv0 : ab_in v0 := by rw [← e0]; exact ab_toin _
  obtain ⟨v1, e1⟩ : ∃ v, (xs 2).toInt = v := ⟨_, rfl⟩
  have hv1 : ab_in v1 := by rw [← e1]; exact ab_toin _
  exact la_13_0 v0 e0 hv0 v1 e1 hv1
set_option maxRecDepth 20000 in
theorem la_14_0 {b : Nat} {xs : Nat → Int32} {bc bs : Nat} (v0 : Int) (e0 : (xs 1).toInt = v0) (hv0 : ab_in v0) (v1 : Int) (e1 : (xs 2).toInt = v1) (hv1 : ab_in v1) : ab_Ex b 6 xs g_G g_rs mt_La 10 bc bs 538 [some (ab_R (ab_sb + 1000)), some (ab_R 0), some (ab_R 107), some (ab_I 0)] [] fw_0 () := by
  refine ex_aload_n de_La_538 rfl rfl ?_
  refine ex_aload_n de_La_539 rfl rfl ?_
  refine ex_iload_n de_La_540 rfl rfl ?_
  refine ex_iconst de_La_541 ?_
  refine ex_iadd de_La_542 ?_
  refine ex_top (c := ab_I 1) rfl ?_
  refine ex_sld de_La_543 (by decide) (by decide) (by decide) e0 ?_
  refine ex_aload_n de_La_544 rfl rfl ?_
  refine ex_iload_n de_La_545 rfl rfl ?_
  refine ex_iconst de_La_546 ?_
  refine ex_iadd de_La_547 ?_
  refine ex_top (c := ab_I 2) rfl ?_
  refine ex_sld de_La_548 (by decide) (by decide) (by decide) e1 ?_
  refine ex_vv (ci := 10) de_La_549 (xx_faces_0 (v0) (by first | assumption | decide) (v1) (by first | assumption | decide)) kb_La_75 ⟨im_Tu_faces, se_Tu_faces⟩ rfl rfl rfl (Nat.le_of_ble_eq_true rfl) (by decide) rfl ?_
  refine ex_aload_n de_La_552 rfl rfl ?_
  refine ex_aload_n de_La_553 rfl rfl ?_
  refine ex_iload_n de_La_554 rfl rfl ?_
  refine ex_iconst de_La_555 ?_
  refine ex_iadd de_La_556 ?_
  refine ex_top (c := ab_I 1) rfl ?_
  refine ex_sld de_La_557 (by decide) (by decide) (by decide) e0 ?_
  refine ex_aload_n de_La_558 rfl rfl ?_
  refine ex_iload_n de_La_559 rfl rfl ?_
  refine ex_iconst de_La_560 ?_
  refine ex_iadd de_La_561 ?_
  refine ex_top (c := ab_I 2) rfl ?_
  refine ex_sld de_La_562 (by decide) (by decide) (by decide) e1 ?_
  refine ex_vv (ci := 11) de_La_563 (yy_faces_0 (v0) (by first | assumption | decide) (v1) (by first | assumption | decide)) kb_La_78 ⟨im_Mo_faces, se_Mo_faces⟩ rfl rfl rfl (Nat.le_of_ble_eq_true rfl) (by decide) rfl ?_
  refine ex_icmp_eq (tgt := 1184) de_La_566 (by decide) (by decide) (by decide) (fun _ => ?_) (fun h => absurd rfl h)
  exact la_end _
theorem la_op_14 {b : Nat} {xs : Nat → Int32} {bc bs : Nat} : ab_Ex b 6 xs g_G g_rs mt_La 10 bc bs 538 [some (ab_R (ab_sb + 1000)), some (ab_R 0), some (ab_R 107), some (ab_I 0)] [] fw_0 () := by
  obtain ⟨v0, e0⟩ : ∃ v, (xs 1).toInt = v := ⟨_, rfl⟩
  have hv0 : ab_in v0 := by rw [← e0]; exact ab_toin _
  obtain ⟨v1, e1⟩ : ∃ v, (xs 2).toInt = v := ⟨_, rfl⟩
  have hv1 : ab_in v1 := by rw [← e1]; exact ab_toin _
  exact la_14_0 v0 e0 hv0 v1 e1 hv1
set_option maxRecDepth 20000 in
theorem la_15_0 {b : Nat} {xs : Nat → Int32} {bc bs : Nat} (v0 : Int) (e0 : (xs 1).toInt = v0) (hv0 : ab_in v0) (v1 : Int) (e1 : (xs 2).toInt = v1) (hv1 : ab_in v1) : ab_Ex b 6 xs g_G g_rs mt_La 10 bc bs 571 [some (ab_R (ab_sb + 1000)), some (ab_R 0), some (ab_R 107), some (ab_I 0)] [] fw_0 () := by
  refine ex_aload_n de_La_571 rfl rfl ?_
  refine ex_aload_n de_La_572 rfl rfl ?_
  refine ex_iload_n de_La_573 rfl rfl ?_
  refine ex_iconst de_La_574 ?_
  refine ex_iadd de_La_575 ?_
  refine ex_top (c := ab_I 1) rfl ?_
  refine ex_sld de_La_576 (by decide) (by decide) (by decide) e0 ?_
  refine ex_aload_n de_La_577 rfl rfl ?_
  refine ex_iload_n de_La_578 rfl rfl ?_
  refine ex_iconst de_La_579 ?_
  refine ex_iadd de_La_580 ?_
  refine ex_top (c := ab_I 2) rfl ?_
  refine ex_sld de_La_581 (by decide) (by decide) (by decide) e1 ?_
  refine ex_vv (ci := 10) de_La_582 (xx_sees_0 (v0) (by first | assumption | decide) (v1) (by first | assumption | decide)) kb_La_79 ⟨im_Tu_sees, se_Tu_sees⟩ rfl rfl rfl (Nat.le_of_ble_eq_true rfl) (by decide) rfl ?_
  refine ex_aload_n de_La_585 rfl rfl ?_
  refine ex_aload_n de_La_586 rfl rfl ?_
  refine ex_iload_n de_La_587 rfl rfl ?_
  refine ex_iconst de_La_588 ?_
  refine ex_iadd de_La_589 ?_
  refine ex_top (c := ab_I 1) rfl ?_
  refine ex_sld de_La_590 (by decide) (by decide) (by decide) e0 ?_
  refine ex_aload_n de_La_591 rfl rfl ?_
  refine ex_iload_n de_La_592 rfl rfl ?_
  refine ex_iconst de_La_593 ?_
  refine ex_iadd de_La_594 ?_
  refine ex_top (c := ab_I 2) rfl ?_
  refine ex_sld de_La_595 (by decide) (by decide) (by decide) e1 ?_
  refine ex_vv (ci := 11) de_La_596 (yy_sees_0 (v0) (by first | assumption | decide) (v1) (by first | assumption | decide)) kb_La_82 ⟨im_Mo_sees, se_Mo_sees⟩ rfl rfl rfl (Nat.le_of_ble_eq_true rfl) (by decide) rfl ?_
  refine ex_icmp_eq (tgt := 1184) de_La_599 (by decide) (by decide) (by decide) (fun _ => ?_) (fun h => absurd rfl h)
  exact la_end _
theorem la_op_15 {b : Nat} {xs : Nat → Int32} {bc bs : Nat} : ab_Ex b 6 xs g_G g_rs mt_La 10 bc bs 571 [some (ab_R (ab_sb + 1000)), some (ab_R 0), some (ab_R 107), some (ab_I 0)] [] fw_0 () := by
  obtain ⟨v0, e0⟩ : ∃ v, (xs 1).toInt = v := ⟨_, rfl⟩
  have hv0 : ab_in v0 := by rw [← e0]; exact ab_toin _
  obtain ⟨v1, e1⟩ : ∃ v, (xs 2).toInt = v := ⟨_, rfl⟩
  have hv1 : ab_in v1 := by rw [← e1]; exact ab_toin _
  exact la_15_0 v0 e0 hv0 v1 e1 hv1
set_option maxRecDepth 20000 in
theorem la_16_0 {b : Nat} {xs : Nat → Int32} {bc bs : Nat} (v0 : Int) (e0 : (xs 1).toInt = v0) (hv0 : ab_in v0) : ab_Ex b 6 xs g_G g_rs mt_La 10 bc bs 604 [some (ab_R (ab_sb + 1000)), some (ab_R 0), some (ab_R 107), some (ab_I 0)] [] fw_0 () := by
  refine ex_aload_n de_La_604 rfl rfl ?_
  refine ex_aload_n de_La_605 rfl rfl ?_
  refine ex_iload_n de_La_606 rfl rfl ?_
  refine ex_iconst de_La_607 ?_
  refine ex_iadd de_La_608 ?_
  refine ex_top (c := ab_I 1) rfl ?_
  refine ex_sld de_La_609 (by decide) (by decide) (by decide) e0 ?_
  refine ex_vv (ci := 10) de_La_610 (xx_day_0 (v0) (by first | assumption | decide)) kb_La_83 ⟨im_Tu_day, se_Tu_day⟩ rfl rfl rfl (Nat.le_of_ble_eq_true rfl) (by decide) rfl ?_
  refine ex_aload_n de_La_613 rfl rfl ?_
  refine ex_aload_n de_La_614 rfl rfl ?_
  refine ex_iload_n de_La_615 rfl rfl ?_
  refine ex_iconst de_La_616 ?_
  refine ex_iadd de_La_617 ?_
  refine ex_top (c := ab_I 1) rfl ?_
  refine ex_sld de_La_618 (by decide) (by decide) (by decide) e0 ?_
  refine ex_vv (ci := 11) de_La_619 (yy_day_0 (v0) (by first | assumption | decide)) kb_La_86 ⟨im_Mo_day, se_Mo_day⟩ rfl rfl rfl (Nat.le_of_ble_eq_true rfl) (by decide) rfl ?_
  refine ex_icmp_eq (tgt := 1184) de_La_622 (by decide) (by decide) (by decide) (fun _ => ?_) (fun h => absurd rfl h)
  exact la_end _
theorem la_op_16 {b : Nat} {xs : Nat → Int32} {bc bs : Nat} : ab_Ex b 6 xs g_G g_rs mt_La 10 bc bs 604 [some (ab_R (ab_sb + 1000)), some (ab_R 0), some (ab_R 107), some (ab_I 0)] [] fw_0 () := by
  obtain ⟨v0, e0⟩ : ∃ v, (xs 1).toInt = v := ⟨_, rfl⟩
  have hv0 : ab_in v0 := by rw [← e0]; exact ab_toin _
  exact la_16_0 v0 e0 hv0
set_option maxRecDepth 20000 in
theorem la_17_0 {b : Nat} {xs : Nat → Int32} {bc bs : Nat} (v0 : Int) (e0 : (xs 1).toInt = v0) (hv0 : ab_in v0) (v1 : Int) (e1 : (xs 2).toInt = v1) (hv1 : ab_in v1) (v2 : Int) (e2 : (xs 3).toInt = v2) (hv2 : ab_in v2) : ab_Ex b 6 xs g_G g_rs mt_La 10 bc bs 627 [some (ab_R (ab_sb + 1000)), some (ab_R 0), some (ab_R 107), some (ab_I 0)] [] fw_0 () := by
  refine ex_aload_n de_La_627 rfl rfl ?_
  refine ex_aload_n de_La_628 rfl rfl ?_
  refine ex_iload_n de_La_629 rfl rfl ?_
  refine ex_iconst de_La_630 ?_
  refine ex_iadd de_La_631 ?_
  refine ex_top (c := ab_I 1) rfl ?_
  refine ex_sld de_La_632 (by decide) (by decide) (by decide) e0 ?_
  refine ex_aload_n de_La_633 rfl rfl ?_
  refine ex_iload_n de_La_634 rfl rfl ?_
  refine ex_iconst de_La_635 ?_
  refine ex_iadd de_La_636 ?_
  refine ex_top (c := ab_I 2) rfl ?_
  refine ex_sld de_La_637 (by decide) (by decide) (by decide) e1 ?_
  refine ex_if_eq (tgt := 645) de_La_638 (by decide) (by first | assumption | decide) (fun h638 => ?_) (fun h638 => ?_)
  · skip
    refine ex_iconst de_La_645 ?_
    refine ex_aload_n de_La_646 rfl rfl ?_
    refine ex_iload_n de_La_647 rfl rfl ?_
    refine ex_iconst de_La_648 ?_
    refine ex_iadd de_La_649 ?_
    refine ex_top (c := ab_I 3) rfl ?_
    refine ex_sld de_La_650 (by decide) (by decide) (by decide) e2 ?_
    refine ex_vv (ci := 10) de_La_651 (xx_plan_0 (v0) (by first | assumption | decide) (0) (by first | assumption | decide) (v2) (by first | assumption | decide)) kb_La_87 ⟨im_Tu_plan, se_Tu_plan⟩ rfl rfl rfl (Nat.le_of_ble_eq_true rfl) (by decide) rfl ?_
    refine ex_aload_n de_La_654 rfl rfl ?_
    refine ex_aload_n de_La_655 rfl rfl ?_
    refine ex_iload_n de_La_656 rfl rfl ?_
    refine ex_iconst de_La_657 ?_
    refine ex_iadd de_La_658 ?_
    refine ex_top (c := ab_I 1) rfl ?_
    refine ex_sld de_La_659 (by decide) (by decide) (by decide) e0 ?_
    refine ex_aload_n de_La_660 rfl rfl ?_
    refine ex_iload_n de_La_661 rfl rfl ?_
    refine ex_iconst de_La_662 ?_
    refine ex_iadd de_La_663 ?_
    refine ex_top (c := ab_I 2) rfl ?_
    refine ex_sld de_La_664 (by decide) (by decide) (by decide) e1 ?_
    refine ex_if_eq (tgt := 672) de_La_665 (by decide) (by first | assumption | decide) (fun h665 => ?_) (fun h665 => ?_)
    · skip
      refine ex_iconst de_La_672 ?_
      refine ex_aload_n de_La_673 rfl rfl ?_
      refine ex_iload_n de_La_674 rfl rfl ?_
      refine ex_iconst de_La_675 ?_
      refine ex_iadd de_La_676 ?_
      refine ex_top (c := ab_I 3) rfl ?_
      refine ex_sld de_La_677 (by decide) (by decide) (by decide) e2 ?_
      refine ex_vv (ci := 11) de_La_678 (yy_plan_0 (v0) (by first | assumption | decide) (0) (by first | assumption | decide) (v2) (by first | assumption | decide)) kb_La_91 ⟨im_Mo_plan, se_Mo_plan⟩ rfl rfl rfl (Nat.le_of_ble_eq_true rfl) (by decide) rfl ?_
      refine ex_icmp_eq (tgt := 1184) de_La_681 (by decide) (by decide) (by decide) (fun _ => ?_) (fun h => absurd rfl h)
      exact la_end _
    · skip
      refine ex_iconst de_La_668 ?_
      refine ex_goto (tgt := 673) de_La_669 (by decide) ?_
      refine ex_aload_n de_La_673 rfl rfl ?_
      refine ex_iload_n de_La_674 rfl rfl ?_
      refine ex_iconst de_La_675 ?_
      refine ex_iadd de_La_676 ?_
      refine ex_top (c := ab_I 3) rfl ?_
      refine ex_sld de_La_677 (by decide) (by decide) (by decide) e2 ?_
      refine ex_vv (ci := 11) de_La_678 (yy_plan_0 (v0) (by first | assumption | decide) (1) (by first | assumption | decide) (v2) (by first | assumption | decide)) kb_La_91 ⟨im_Mo_plan, se_Mo_plan⟩ rfl rfl rfl (Nat.le_of_ble_eq_true rfl) (by decide) rfl ?_
      refine ex_icmp_eq (tgt := 1184) de_La_681 (by decide) (by decide) (by decide) (fun _ => ?_) (fun h => absurd rfl h)
      exact la_end _
  · skip
    refine ex_iconst de_La_641 ?_
    refine ex_goto (tgt := 646) de_La_642 (by decide) ?_
    refine ex_aload_n de_La_646 rfl rfl ?_
    refine ex_iload_n de_La_647 rfl rfl ?_
    refine ex_iconst de_La_648 ?_
    refine ex_iadd de_La_649 ?_
    refine ex_top (c := ab_I 3) rfl ?_
    refine ex_sld de_La_650 (by decide) (by decide) (by decide) e2 ?_
    refine ex_vv (ci := 10) de_La_651 (xx_plan_0 (v0) (by first | assumption | decide) (1) (by first | assumption | decide) (v2) (by first | assumption | decide)) kb_La_87 ⟨im_Tu_plan, se_Tu_plan⟩ rfl rfl rfl (Nat.le_of_ble_eq_true rfl) (by decide) rfl ?_
    refine ex_aload_n de_La_654 rfl rfl ?_
    refine ex_aload_n de_La_655 rfl rfl ?_
    refine ex_iload_n de_La_656 rfl rfl ?_
    refine ex_iconst de_La_657 ?_
    refine ex_iadd de_La_658 ?_
    refine ex_top (c := ab_I 1) rfl ?_
    refine ex_sld de_La_659 (by decide) (by decide) (by decide) e0 ?_
    refine ex_aload_n de_La_660 rfl rfl ?_
    refine ex_iload_n de_La_661 rfl rfl ?_
    refine ex_iconst de_La_662 ?_
    refine ex_iadd de_La_663 ?_
    refine ex_top (c := ab_I 2) rfl ?_
    refine ex_sld de_La_664 (by decide) (by decide) (by decide) e1 ?_
    refine ex_if_eq (tgt := 672) de_La_665 (by decide) (by first | assumption | decide) (fun h665 => ?_) (fun h665 => ?_)
    · skip
      refine ex_iconst de_La_672 ?_
      refine ex_aload_n de_La_673 rfl rfl ?_
      refine ex_iload_n de_La_674 rfl rfl ?_
      refine ex_iconst de_La_675 ?_
      refine ex_iadd de_La_676 ?_
      refine ex_top (c := ab_I 3) rfl ?_
      refine ex_sld de_La_677 (by decide) (by decide) (by decide) e2 ?_
      refine ex_vv (ci := 11) de_La_678 (yy_plan_0 (v0) (by first | assumption | decide) (0) (by first | assumption | decide) (v2) (by first | assumption | decide)) kb_La_91 ⟨im_Mo_plan, se_Mo_plan⟩ rfl rfl rfl (Nat.le_of_ble_eq_true rfl) (by decide) rfl ?_
      refine ex_icmp_eq (tgt := 1184) de_La_681 (by decide) (by decide) (by decide) (fun _ => ?_) (fun h => absurd rfl h)
      exact la_end _
    · skip
      refine ex_iconst de_La_668 ?_
      refine ex_goto (tgt := 673) de_La_669 (by decide) ?_
      refine ex_aload_n de_La_673 rfl rfl ?_
      refine ex_iload_n de_La_674 rfl rfl ?_
      refine ex_iconst de_La_675 ?_
      refine ex_iadd de_La_676 ?_
      refine ex_top (c := ab_I 3) rfl ?_
      refine ex_sld de_La_677 (by decide) (by decide) (by decide) e2 ?_
      refine ex_vv (ci := 11) de_La_678 (yy_plan_0 (v0) (by first | assumption | decide) (1) (by first | assumption | decide) (v2) (by first | assumption | decide)) kb_La_91 ⟨im_Mo_plan, se_Mo_plan⟩ rfl rfl rfl (Nat.le_of_ble_eq_true rfl) (by decide) rfl ?_
      refine ex_icmp_eq (tgt := 1184) de_La_681 (by decide) (by decide) (by decide) (fun _ => ?_) (fun h => absurd rfl h)
      exact la_end _
theorem la_op_17 {b : Nat} {xs : Nat → Int32} {bc bs : Nat} : ab_Ex b 6 xs g_G g_rs mt_La 10 bc bs 627 [some (ab_R (ab_sb + 1000)), some (ab_R 0), some (ab_R 107), some (ab_I 0)] [] fw_0 () := by
  obtain ⟨v0, e0⟩ : ∃ v, (xs 1).toInt = v := ⟨_, rfl⟩
  have hv0 : ab_in v0 := by rw [← e0]; exact ab_toin _
  obtain ⟨v1, e1⟩ : ∃ v, (xs 2).toInt = v := ⟨_, rfl⟩
  have hv1 : ab_in v1 := by rw [← e1]; exact ab_toin _
  obtain ⟨v2, e2⟩ : ∃ v, (xs 3).toInt = v := ⟨_, rfl⟩
  have hv2 : ab_in v2 := by rw [← e2]; exact ab_toin _
  exact la_17_0 v0 e0 hv0 v1 e1 hv1 v2 e2 hv2
set_option maxRecDepth 20000 in
theorem la_18_0 {b : Nat} {xs : Nat → Int32} {bc bs : Nat} (v0 : Int) (e0 : (xs 1).toInt = v0) (hv0 : ab_in v0) (v1 : Int) (e1 : (xs 2).toInt = v1) (hv1 : ab_in v1) (v2 : Int) (e2 : (xs 3).toInt = v2) (hv2 : ab_in v2) (v3 : Int) (e3 : (xs 4).toInt = v3) (hv3 : ab_in v3) : ab_Ex b 6 xs g_G g_rs mt_La 10 bc bs 686 [some (ab_R (ab_sb + 1000)), some (ab_R 0), some (ab_R 107), some (ab_I 0)] [] fw_0 () := by
  refine ex_aload_n de_La_686 rfl rfl ?_
  refine ex_aload_n de_La_687 rfl rfl ?_
  refine ex_iload_n de_La_688 rfl rfl ?_
  refine ex_iconst de_La_689 ?_
  refine ex_iadd de_La_690 ?_
  refine ex_top (c := ab_I 1) rfl ?_
  refine ex_sld de_La_691 (by decide) (by decide) (by decide) e0 ?_
  refine ex_aload_n de_La_692 rfl rfl ?_
  refine ex_iload_n de_La_693 rfl rfl ?_
  refine ex_iconst de_La_694 ?_
  refine ex_iadd de_La_695 ?_
  refine ex_top (c := ab_I 2) rfl ?_
  refine ex_sld de_La_696 (by decide) (by decide) (by decide) e1 ?_
  refine ex_aload_n de_La_697 rfl rfl ?_
  refine ex_iload_n de_La_698 rfl rfl ?_
  refine ex_iconst de_La_699 ?_
  refine ex_iadd de_La_700 ?_
  refine ex_top (c := ab_I 3) rfl ?_
  refine ex_sld de_La_701 (by decide) (by decide) (by decide) e2 ?_
  refine ex_aload_n de_La_702 rfl rfl ?_
  refine ex_iload_n de_La_703 rfl rfl ?_
  refine ex_iconst de_La_704 ?_
  refine ex_iadd de_La_705 ?_
  refine ex_top (c := ab_I 4) rfl ?_
  refine ex_sld de_La_706 (by decide) (by decide) (by decide) e3 ?_
  refine ex_vv (ci := 10) de_La_707 (xx_errand_0 (v0) (by first | assumption | decide) (v1) (by first | assumption | decide) (v2) (by first | assumption | decide) (v3) (by first | assumption | decide)) kb_La_92 ⟨im_Tu_errand, se_Tu_errand⟩ rfl rfl rfl (Nat.le_of_ble_eq_true rfl) (by decide) rfl ?_
  refine ex_aload_n de_La_710 rfl rfl ?_
  refine ex_aload_n de_La_711 rfl rfl ?_
  refine ex_iload_n de_La_712 rfl rfl ?_
  refine ex_iconst de_La_713 ?_
  refine ex_iadd de_La_714 ?_
  refine ex_top (c := ab_I 1) rfl ?_
  refine ex_sld de_La_715 (by decide) (by decide) (by decide) e0 ?_
  refine ex_aload_n de_La_716 rfl rfl ?_
  refine ex_iload_n de_La_717 rfl rfl ?_
  refine ex_iconst de_La_718 ?_
  refine ex_iadd de_La_719 ?_
  refine ex_top (c := ab_I 2) rfl ?_
  refine ex_sld de_La_720 (by decide) (by decide) (by decide) e1 ?_
  refine ex_aload_n de_La_721 rfl rfl ?_
  refine ex_iload_n de_La_722 rfl rfl ?_
  refine ex_iconst de_La_723 ?_
  refine ex_iadd de_La_724 ?_
  refine ex_top (c := ab_I 3) rfl ?_
  refine ex_sld de_La_725 (by decide) (by decide) (by decide) e2 ?_
  refine ex_aload_n de_La_726 rfl rfl ?_
  refine ex_iload_n de_La_727 rfl rfl ?_
  refine ex_iconst de_La_728 ?_
  refine ex_iadd de_La_729 ?_
  refine ex_top (c := ab_I 4) rfl ?_
  refine ex_sld de_La_730 (by decide) (by decide) (by decide) e3 ?_
  refine ex_vv (ci := 11) de_La_731 (yy_errand_0 (v0) (by first | assumption | decide) (v1) (by first | assumption | decide) (v2) (by first | assumption | decide) (v3) (by first | assumption | decide)) kb_La_96 ⟨im_Mo_errand, se_Mo_errand⟩ rfl rfl rfl (Nat.le_of_ble_eq_true rfl) (by decide) rfl ?_
  refine ex_icmp_eq (tgt := 1184) de_La_734 (by decide) (by decide) (by decide) (fun _ => ?_) (fun h => absurd rfl h)
  exact la_end _
theorem la_op_18 {b : Nat} {xs : Nat → Int32} {bc bs : Nat} : ab_Ex b 6 xs g_G g_rs mt_La 10 bc bs 686 [some (ab_R (ab_sb + 1000)), some (ab_R 0), some (ab_R 107), some (ab_I 0)] [] fw_0 () := by
  obtain ⟨v0, e0⟩ : ∃ v, (xs 1).toInt = v := ⟨_, rfl⟩
  have hv0 : ab_in v0 := by rw [← e0]; exact ab_toin _
  obtain ⟨v1, e1⟩ : ∃ v, (xs 2).toInt = v := ⟨_, rfl⟩
  have hv1 : ab_in v1 := by rw [← e1]; exact ab_toin _
  obtain ⟨v2, e2⟩ : ∃ v, (xs 3).toInt = v := ⟨_, rfl⟩
  have hv2 : ab_in v2 := by rw [← e2]; exact ab_toin _
  obtain ⟨v3, e3⟩ : ∃ v, (xs 4).toInt = v := ⟨_, rfl⟩
  have hv3 : ab_in v3 := by rw [← e3]; exact ab_toin _
  exact la_18_0 v0 e0 hv0 v1 e1 hv1 v2 e2 hv2 v3 e3 hv3
set_option maxRecDepth 20000 in
theorem la_19_0 {b : Nat} {xs : Nat → Int32} {bc bs : Nat} (v0 : Int) (e0 : (xs 1).toInt = v0) (hv0 : ab_in v0) : ab_Ex b 6 xs g_G g_rs mt_La 10 bc bs 739 [some (ab_R (ab_sb + 1000)), some (ab_R 0), some (ab_R 107), some (ab_I 0)] [] fw_0 () := by
  refine ex_aload_n de_La_739 rfl rfl ?_
  refine ex_aload_n de_La_740 rfl rfl ?_
  refine ex_iload_n de_La_741 rfl rfl ?_
  refine ex_iconst de_La_742 ?_
  refine ex_iadd de_La_743 ?_
  refine ex_top (c := ab_I 1) rfl ?_
  refine ex_sld de_La_744 (by decide) (by decide) (by decide) e0 ?_
  refine ex_vv (ci := 10) de_La_745 (xx_stay_0 (v0) (by first | assumption | decide)) kb_La_97 ⟨im_Tu_stay, se_Tu_stay⟩ rfl rfl rfl (Nat.le_of_ble_eq_true rfl) (by decide) rfl ?_
  refine ex_aload_n de_La_748 rfl rfl ?_
  refine ex_aload_n de_La_749 rfl rfl ?_
  refine ex_iload_n de_La_750 rfl rfl ?_
  refine ex_iconst de_La_751 ?_
  refine ex_iadd de_La_752 ?_
  refine ex_top (c := ab_I 1) rfl ?_
  refine ex_sld de_La_753 (by decide) (by decide) (by decide) e0 ?_
  refine ex_vv (ci := 11) de_La_754 (yy_stay_0 (v0) (by first | assumption | decide)) kb_La_100 ⟨im_Mo_stay, se_Mo_stay⟩ rfl rfl rfl (Nat.le_of_ble_eq_true rfl) (by decide) rfl ?_
  refine ex_icmp_eq (tgt := 1184) de_La_757 (by decide) (by decide) (by decide) (fun _ => ?_) (fun h => absurd rfl h)
  exact la_end _
theorem la_op_19 {b : Nat} {xs : Nat → Int32} {bc bs : Nat} : ab_Ex b 6 xs g_G g_rs mt_La 10 bc bs 739 [some (ab_R (ab_sb + 1000)), some (ab_R 0), some (ab_R 107), some (ab_I 0)] [] fw_0 () := by
  obtain ⟨v0, e0⟩ : ∃ v, (xs 1).toInt = v := ⟨_, rfl⟩
  have hv0 : ab_in v0 := by rw [← e0]; exact ab_toin _
  exact la_19_0 v0 e0 hv0
set_option maxRecDepth 20000 in
theorem la_20_0 {b : Nat} {xs : Nat → Int32} {bc bs : Nat} (v0 : Int) (e0 : (xs 1).toInt = v0) (hv0 : ab_in v0) : ab_Ex b 6 xs g_G g_rs mt_La 10 bc bs 762 [some (ab_R (ab_sb + 1000)), some (ab_R 0), some (ab_R 107), some (ab_I 0)] [] fw_0 () := by
  refine ex_aload_n de_La_762 rfl rfl ?_
  refine ex_aload_n de_La_763 rfl rfl ?_
  refine ex_iload_n de_La_764 rfl rfl ?_
  refine ex_iconst de_La_765 ?_
  refine ex_iadd de_La_766 ?_
  refine ex_top (c := ab_I 1) rfl ?_
  refine ex_sld de_La_767 (by decide) (by decide) (by decide) e0 ?_
  refine ex_vv (ci := 10) de_La_768 (xx_swings_0 (v0) (by first | assumption | decide)) kb_La_101 ⟨im_Tu_swings, se_Tu_swings⟩ rfl rfl rfl (Nat.le_of_ble_eq_true rfl) (by decide) rfl ?_
  refine ex_aload_n de_La_771 rfl rfl ?_
  refine ex_aload_n de_La_772 rfl rfl ?_
  refine ex_iload_n de_La_773 rfl rfl ?_
  refine ex_iconst de_La_774 ?_
  refine ex_iadd de_La_775 ?_
  refine ex_top (c := ab_I 1) rfl ?_
  refine ex_sld de_La_776 (by decide) (by decide) (by decide) e0 ?_
  refine ex_vv (ci := 11) de_La_777 (yy_swings_0 (v0) (by first | assumption | decide)) kb_La_104 ⟨im_Mo_swings, se_Mo_swings⟩ rfl rfl rfl (Nat.le_of_ble_eq_true rfl) (by decide) rfl ?_
  refine ex_icmp_eq (tgt := 1184) de_La_780 (by decide) (by decide) (by decide) (fun _ => ?_) (fun h => absurd rfl h)
  exact la_end _
theorem la_op_20 {b : Nat} {xs : Nat → Int32} {bc bs : Nat} : ab_Ex b 6 xs g_G g_rs mt_La 10 bc bs 762 [some (ab_R (ab_sb + 1000)), some (ab_R 0), some (ab_R 107), some (ab_I 0)] [] fw_0 () := by
  obtain ⟨v0, e0⟩ : ∃ v, (xs 1).toInt = v := ⟨_, rfl⟩
  have hv0 : ab_in v0 := by rw [← e0]; exact ab_toin _
  exact la_20_0 v0 e0 hv0
set_option maxRecDepth 20000 in
theorem la_21_0 {b : Nat} {xs : Nat → Int32} {bc bs : Nat} (v0 : Int) (e0 : (xs 1).toInt = v0) (hv0 : ab_in v0) : ab_Ex b 6 xs g_G g_rs mt_La 10 bc bs 785 [some (ab_R (ab_sb + 1000)), some (ab_R 0), some (ab_R 107), some (ab_I 0)] [] fw_0 () := by
  refine ex_aload_n de_La_785 rfl rfl ?_
  refine ex_aload_n de_La_786 rfl rfl ?_
  refine ex_iload_n de_La_787 rfl rfl ?_
  refine ex_iconst de_La_788 ?_
  refine ex_iadd de_La_789 ?_
  refine ex_top (c := ab_I 1) rfl ?_
  refine ex_sld de_La_790 (by decide) (by decide) (by decide) e0 ?_
  refine ex_vv (ci := 10) de_La_791 (xx_trade_0 (v0) (by first | assumption | decide)) kb_La_105 ⟨im_Tu_trade, se_Tu_trade⟩ rfl rfl rfl (Nat.le_of_ble_eq_true rfl) (by decide) rfl ?_
  refine ex_aload_n de_La_794 rfl rfl ?_
  refine ex_aload_n de_La_795 rfl rfl ?_
  refine ex_iload_n de_La_796 rfl rfl ?_
  refine ex_iconst de_La_797 ?_
  refine ex_iadd de_La_798 ?_
  refine ex_top (c := ab_I 1) rfl ?_
  refine ex_sld de_La_799 (by decide) (by decide) (by decide) e0 ?_
  refine ex_vv (ci := 11) de_La_800 (yy_trade_0 (v0) (by first | assumption | decide)) kb_La_108 ⟨im_Mo_trade, se_Mo_trade⟩ rfl rfl rfl (Nat.le_of_ble_eq_true rfl) (by decide) rfl ?_
  refine ex_icmp_eq (tgt := 1184) de_La_803 (by decide) (by decide) (by decide) (fun _ => ?_) (fun h => absurd rfl h)
  exact la_end _
theorem la_op_21 {b : Nat} {xs : Nat → Int32} {bc bs : Nat} : ab_Ex b 6 xs g_G g_rs mt_La 10 bc bs 785 [some (ab_R (ab_sb + 1000)), some (ab_R 0), some (ab_R 107), some (ab_I 0)] [] fw_0 () := by
  obtain ⟨v0, e0⟩ : ∃ v, (xs 1).toInt = v := ⟨_, rfl⟩
  have hv0 : ab_in v0 := by rw [← e0]; exact ab_toin _
  exact la_21_0 v0 e0 hv0
set_option maxRecDepth 20000 in
theorem la_22_0 {b : Nat} {xs : Nat → Int32} {bc bs : Nat} (v0 : Int) (e0 : (xs 1).toInt = v0) (hv0 : ab_in v0) (v1 : Int) (e1 : (xs 2).toInt = v1) (hv1 : ab_in v1) (v2 : Int) (e2 : (xs 3).toInt = v2) (hv2 : ab_in v2) : ab_Ex b 6 xs g_G g_rs mt_La 10 bc bs 808 [some (ab_R (ab_sb + 1000)), some (ab_R 0), some (ab_R 107), some (ab_I 0)] [] fw_0 () := by
  refine ex_aload_n de_La_808 rfl rfl ?_
  refine ex_aload_n de_La_809 rfl rfl ?_
  refine ex_iload_n de_La_810 rfl rfl ?_
  refine ex_iconst de_La_811 ?_
  refine ex_iadd de_La_812 ?_
  refine ex_top (c := ab_I 1) rfl ?_
  refine ex_sld de_La_813 (by decide) (by decide) (by decide) e0 ?_
  refine ex_aload_n de_La_814 rfl rfl ?_
  refine ex_iload_n de_La_815 rfl rfl ?_
  refine ex_iconst de_La_816 ?_
  refine ex_iadd de_La_817 ?_
  refine ex_top (c := ab_I 2) rfl ?_
  refine ex_sld de_La_818 (by decide) (by decide) (by decide) e1 ?_
  refine ex_aload_n de_La_819 rfl rfl ?_
  refine ex_iload_n de_La_820 rfl rfl ?_
  refine ex_iconst de_La_821 ?_
  refine ex_iadd de_La_822 ?_
  refine ex_top (c := ab_I 3) rfl ?_
  refine ex_sld de_La_823 (by decide) (by decide) (by decide) e2 ?_
  refine ex_vv (ci := 10) de_La_824 (xx_spare_0 (v0) (by first | assumption | decide) (v1) (by first | assumption | decide) (v2) (by first | assumption | decide)) kb_La_109 ⟨im_Tu_spare, se_Tu_spare⟩ rfl rfl rfl (Nat.le_of_ble_eq_true rfl) (by decide) rfl ?_
  refine ex_aload_n de_La_827 rfl rfl ?_
  refine ex_aload_n de_La_828 rfl rfl ?_
  refine ex_iload_n de_La_829 rfl rfl ?_
  refine ex_iconst de_La_830 ?_
  refine ex_iadd de_La_831 ?_
  refine ex_top (c := ab_I 1) rfl ?_
  refine ex_sld de_La_832 (by decide) (by decide) (by decide) e0 ?_
  refine ex_aload_n de_La_833 rfl rfl ?_
  refine ex_iload_n de_La_834 rfl rfl ?_
  refine ex_iconst de_La_835 ?_
  refine ex_iadd de_La_836 ?_
  refine ex_top (c := ab_I 2) rfl ?_
  refine ex_sld de_La_837 (by decide) (by decide) (by decide) e1 ?_
  refine ex_aload_n de_La_838 rfl rfl ?_
  refine ex_iload_n de_La_839 rfl rfl ?_
  refine ex_iconst de_La_840 ?_
  refine ex_iadd de_La_841 ?_
  refine ex_top (c := ab_I 3) rfl ?_
  refine ex_sld de_La_842 (by decide) (by decide) (by decide) e2 ?_
  refine ex_vv (ci := 11) de_La_843 (yy_spare_0 (v0) (by first | assumption | decide) (v1) (by first | assumption | decide) (v2) (by first | assumption | decide)) kb_La_113 ⟨im_Mo_spare, se_Mo_spare⟩ rfl rfl rfl (Nat.le_of_ble_eq_true rfl) (by decide) rfl ?_
  refine ex_icmp_eq (tgt := 1184) de_La_846 (by decide) (by decide) (by decide) (fun _ => ?_) (fun h => absurd rfl h)
  exact la_end _
theorem la_op_22 {b : Nat} {xs : Nat → Int32} {bc bs : Nat} : ab_Ex b 6 xs g_G g_rs mt_La 10 bc bs 808 [some (ab_R (ab_sb + 1000)), some (ab_R 0), some (ab_R 107), some (ab_I 0)] [] fw_0 () := by
  obtain ⟨v0, e0⟩ : ∃ v, (xs 1).toInt = v := ⟨_, rfl⟩
  have hv0 : ab_in v0 := by rw [← e0]; exact ab_toin _
  obtain ⟨v1, e1⟩ : ∃ v, (xs 2).toInt = v := ⟨_, rfl⟩
  have hv1 : ab_in v1 := by rw [← e1]; exact ab_toin _
  obtain ⟨v2, e2⟩ : ∃ v, (xs 3).toInt = v := ⟨_, rfl⟩
  have hv2 : ab_in v2 := by rw [← e2]; exact ab_toin _
  exact la_22_0 v0 e0 hv0 v1 e1 hv1 v2 e2 hv2
set_option maxRecDepth 20000 in
theorem la_23_0 {b : Nat} {xs : Nat → Int32} {bc bs : Nat} (v0 : Int) (e0 : (xs 1).toInt = v0) (hv0 : ab_in v0) (v1 : Int) (e1 : (xs 2).toInt = v1) (hv1 : ab_in v1) (v2 : Int) (e2 : (xs 3).toInt = v2) (hv2 : ab_in v2) (v3 : Int) (e3 : (xs 4).toInt = v3) (hv3 : ab_in v3) (v4 : Int) (e4 : (xs 5).toInt = v4) (hv4 : ab_in v4) : ab_Ex b 6 xs g_G g_rs mt_La 10 bc bs 851 [some (ab_R (ab_sb + 1000)), some (ab_R 0), some (ab_R 107), some (ab_I 0)] [] fw_0 () := by
  refine ex_aload_n de_La_851 rfl rfl ?_
  refine ex_aload_n de_La_852 rfl rfl ?_
  refine ex_iload_n de_La_853 rfl rfl ?_
  refine ex_iconst de_La_854 ?_
  refine ex_iadd de_La_855 ?_
  refine ex_top (c := ab_I 1) rfl ?_
  refine ex_sld de_La_856 (by decide) (by decide) (by decide) e0 ?_
  refine ex_aload_n de_La_857 rfl rfl ?_
  refine ex_iload_n de_La_858 rfl rfl ?_
  refine ex_iconst de_La_859 ?_
  refine ex_iadd de_La_860 ?_
  refine ex_top (c := ab_I 2) rfl ?_
  refine ex_sld de_La_861 (by decide) (by decide) (by decide) e1 ?_
  refine ex_aload_n de_La_862 rfl rfl ?_
  refine ex_iload_n de_La_863 rfl rfl ?_
  refine ex_iconst de_La_864 ?_
  refine ex_iadd de_La_865 ?_
  refine ex_top (c := ab_I 3) rfl ?_
  refine ex_sld de_La_866 (by decide) (by decide) (by decide) e2 ?_
  refine ex_aload_n de_La_867 rfl rfl ?_
  refine ex_iload_n de_La_868 rfl rfl ?_
  refine ex_iconst de_La_869 ?_
  refine ex_iadd de_La_870 ?_
  refine ex_top (c := ab_I 4) rfl ?_
  refine ex_sld de_La_871 (by decide) (by decide) (by decide) e3 ?_
  refine ex_aload_n de_La_872 rfl rfl ?_
  refine ex_iload_n de_La_873 rfl rfl ?_
  refine ex_iconst de_La_874 ?_
  refine ex_iadd de_La_875 ?_
  refine ex_top (c := ab_I 5) rfl ?_
  refine ex_sld de_La_876 (by decide) (by decide) (by decide) e4 ?_
  refine ex_vv (ci := 10) de_La_877 (xx_apart_0 (v0) (by first | assumption | decide) (v1) (by first | assumption | decide) (v2) (by first | assumption | decide) (v3) (by first | assumption | decide) (v4) (by first | assumption | decide)) kb_La_114 ⟨im_Tu_apart, se_Tu_apart⟩ rfl rfl rfl (Nat.le_of_ble_eq_true rfl) (by decide) rfl ?_
  refine ex_aload_n de_La_880 rfl rfl ?_
  refine ex_aload_n de_La_881 rfl rfl ?_
  refine ex_iload_n de_La_882 rfl rfl ?_
  refine ex_iconst de_La_883 ?_
  refine ex_iadd de_La_884 ?_
  refine ex_top (c := ab_I 1) rfl ?_
  refine ex_sld de_La_885 (by decide) (by decide) (by decide) e0 ?_
  refine ex_aload_n de_La_886 rfl rfl ?_
  refine ex_iload_n de_La_887 rfl rfl ?_
  refine ex_iconst de_La_888 ?_
  refine ex_iadd de_La_889 ?_
  refine ex_top (c := ab_I 2) rfl ?_
  refine ex_sld de_La_890 (by decide) (by decide) (by decide) e1 ?_
  refine ex_aload_n de_La_891 rfl rfl ?_
  refine ex_iload_n de_La_892 rfl rfl ?_
  refine ex_iconst de_La_893 ?_
  refine ex_iadd de_La_894 ?_
  refine ex_top (c := ab_I 3) rfl ?_
  refine ex_sld de_La_895 (by decide) (by decide) (by decide) e2 ?_
  refine ex_aload_n de_La_896 rfl rfl ?_
  refine ex_iload_n de_La_897 rfl rfl ?_
  refine ex_iconst de_La_898 ?_
  refine ex_iadd de_La_899 ?_
  refine ex_top (c := ab_I 4) rfl ?_
  refine ex_sld de_La_900 (by decide) (by decide) (by decide) e3 ?_
  refine ex_aload_n de_La_901 rfl rfl ?_
  refine ex_iload_n de_La_902 rfl rfl ?_
  refine ex_iconst de_La_903 ?_
  refine ex_iadd de_La_904 ?_
  refine ex_top (c := ab_I 5) rfl ?_
  refine ex_sld de_La_905 (by decide) (by decide) (by decide) e4 ?_
  refine ex_vv (ci := 11) de_La_906 (yy_apart_0 (v0) (by first | assumption | decide) (v1) (by first | assumption | decide) (v2) (by first | assumption | decide) (v3) (by first | assumption | decide) (v4) (by first | assumption | decide)) kb_La_117 ⟨im_Mo_apart, se_Mo_apart⟩ rfl rfl rfl (Nat.le_of_ble_eq_true rfl) (by decide) rfl ?_
  refine ex_icmp_eq (tgt := 1184) de_La_909 (by decide) (by decide) (by decide) (fun _ => ?_) (fun h => absurd rfl h)
  exact la_end _
theorem la_op_23 {b : Nat} {xs : Nat → Int32} {bc bs : Nat} : ab_Ex b 6 xs g_G g_rs mt_La 10 bc bs 851 [some (ab_R (ab_sb + 1000)), some (ab_R 0), some (ab_R 107), some (ab_I 0)] [] fw_0 () := by
  obtain ⟨v0, e0⟩ : ∃ v, (xs 1).toInt = v := ⟨_, rfl⟩
  have hv0 : ab_in v0 := by rw [← e0]; exact ab_toin _
  obtain ⟨v1, e1⟩ : ∃ v, (xs 2).toInt = v := ⟨_, rfl⟩
  have hv1 : ab_in v1 := by rw [← e1]; exact ab_toin _
  obtain ⟨v2, e2⟩ : ∃ v, (xs 3).toInt = v := ⟨_, rfl⟩
  have hv2 : ab_in v2 := by rw [← e2]; exact ab_toin _
  obtain ⟨v3, e3⟩ : ∃ v, (xs 4).toInt = v := ⟨_, rfl⟩
  have hv3 : ab_in v3 := by rw [← e3]; exact ab_toin _
  obtain ⟨v4, e4⟩ : ∃ v, (xs 5).toInt = v := ⟨_, rfl⟩
  have hv4 : ab_in v4 := by rw [← e4]; exact ab_toin _
  exact la_23_0 v0 e0 hv0 v1 e1 hv1 v2 e2 hv2 v3 e3 hv3 v4 e4 hv4
set_option maxRecDepth 20000 in
theorem la_24_0 {b : Nat} {xs : Nat → Int32} {bc bs : Nat} (e0 : (xs 1).toInt = (-1)) (v1 : Int) (e1 : (xs 2).toInt = v1) (hv1 : ab_in v1) (v2 : Int) (e2 : (xs 3).toInt = v2) (hv2 : ab_in v2) (v3 : Int) (e3 : (xs 4).toInt = v3) (hv3 : ab_in v3) : ab_Ex b 6 xs g_G g_rs mt_La 10 bc bs 914 [some (ab_R (ab_sb + 1000)), some (ab_R 0), some (ab_R 107), some (ab_I 0)] [] fw_0 () := by
  refine ex_aload_n de_La_914 rfl rfl ?_
  refine ex_aload_n de_La_915 rfl rfl ?_
  refine ex_iload_n de_La_916 rfl rfl ?_
  refine ex_iconst de_La_917 ?_
  refine ex_iadd de_La_918 ?_
  refine ex_top (c := ab_I 1) rfl ?_
  refine ex_sld de_La_919 (by decide) (by decide) (by decide) e0 ?_
  refine ex_aload_n de_La_920 rfl rfl ?_
  refine ex_iload_n de_La_921 rfl rfl ?_
  refine ex_iconst de_La_922 ?_
  refine ex_iadd de_La_923 ?_
  refine ex_top (c := ab_I 2) rfl ?_
  refine ex_sld de_La_924 (by decide) (by decide) (by decide) e1 ?_
  refine ex_aload_n de_La_925 rfl rfl ?_
  refine ex_iload_n de_La_926 rfl rfl ?_
  refine ex_iconst de_La_927 ?_
  refine ex_iadd de_La_928 ?_
  refine ex_top (c := ab_I 3) rfl ?_
  refine ex_sld de_La_929 (by decide) (by decide) (by decide) e2 ?_
  refine ex_aload_n de_La_930 rfl rfl ?_
  refine ex_iload_n de_La_931 rfl rfl ?_
  refine ex_iconst de_La_932 ?_
  refine ex_iadd de_La_933 ?_
  refine ex_top (c := ab_I 4) rfl ?_
  refine ex_sld de_La_934 (by decide) (by decide) (by decide) e3 ?_
  refine ex_if_eq (tgt := 942) de_La_935 (by decide) (by first | assumption | decide) (fun h935 => ?_) (fun h935 => ?_)
  · skip
    refine ex_iconst de_La_942 ?_
    refine ex_vv (ci := 10) de_La_943 (xx_diary_0 (v1) (by first | assumption | decide) (v2) (by first | assumption | decide) (0) (by first | assumption | decide)) kb_La_118 ⟨im_Tu_diary, se_Tu_diary⟩ rfl rfl rfl (Nat.le_of_ble_eq_true rfl) (by decide) rfl ?_
    refine ex_aload_n de_La_946 rfl rfl ?_
    refine ex_aload_n de_La_947 rfl rfl ?_
    refine ex_iload_n de_La_948 rfl rfl ?_
    refine ex_iconst de_La_949 ?_
    refine ex_iadd de_La_950 ?_
    refine ex_top (c := ab_I 1) rfl ?_
    refine ex_sld de_La_951 (by decide) (by decide) (by decide) e0 ?_
    refine ex_aload_n de_La_952 rfl rfl ?_
    refine ex_iload_n de_La_953 rfl rfl ?_
    refine ex_iconst de_La_954 ?_
    refine ex_iadd de_La_955 ?_
    refine ex_top (c := ab_I 2) rfl ?_
    refine ex_sld de_La_956 (by decide) (by decide) (by decide) e1 ?_
    refine ex_aload_n de_La_957 rfl rfl ?_
    refine ex_iload_n de_La_958 rfl rfl ?_
    refine ex_iconst de_La_959 ?_
    refine ex_iadd de_La_960 ?_
    refine ex_top (c := ab_I 3) rfl ?_
    refine ex_sld de_La_961 (by decide) (by decide) (by decide) e2 ?_
    refine ex_aload_n de_La_962 rfl rfl ?_
    refine ex_iload_n de_La_963 rfl rfl ?_
    refine ex_iconst de_La_964 ?_
    refine ex_iadd de_La_965 ?_
    refine ex_top (c := ab_I 4) rfl ?_
    refine ex_sld de_La_966 (by decide) (by decide) (by decide) e3 ?_
    refine ex_if_eq (tgt := 974) de_La_967 (by decide) (by first | assumption | decide) (fun h967 => ?_) (fun h967 => ?_)
    · skip
      refine ex_iconst de_La_974 ?_
      refine ex_vv (ci := 11) de_La_975 (yy_diary_0 (v1) (by first | assumption | decide) (v2) (by first | assumption | decide) (0) (by first | assumption | decide)) kb_La_122 ⟨im_Mo_diary, se_Mo_diary⟩ rfl rfl rfl (Nat.le_of_ble_eq_true rfl) (by decide) rfl ?_
      refine ex_icmp_eq (tgt := 1184) de_La_978 (by decide) (by decide) (by decide) (fun _ => ?_) (fun h => absurd rfl h)
      exact la_end _
    · skip
      refine ex_iconst de_La_970 ?_
      refine ex_goto (tgt := 975) de_La_971 (by decide) ?_
      refine ex_vv (ci := 11) de_La_975 (yy_diary_0 (v1) (by first | assumption | decide) (v2) (by first | assumption | decide) (1) (by first | assumption | decide)) kb_La_122 ⟨im_Mo_diary, se_Mo_diary⟩ rfl rfl rfl (Nat.le_of_ble_eq_true rfl) (by decide) rfl ?_
      refine ex_icmp_eq (tgt := 1184) de_La_978 (by decide) (by decide) (by decide) (fun _ => ?_) (fun h => absurd rfl h)
      exact la_end _
  · skip
    refine ex_iconst de_La_938 ?_
    refine ex_goto (tgt := 943) de_La_939 (by decide) ?_
    refine ex_vv (ci := 10) de_La_943 (xx_diary_0 (v1) (by first | assumption | decide) (v2) (by first | assumption | decide) (1) (by first | assumption | decide)) kb_La_118 ⟨im_Tu_diary, se_Tu_diary⟩ rfl rfl rfl (Nat.le_of_ble_eq_true rfl) (by decide) rfl ?_
    refine ex_aload_n de_La_946 rfl rfl ?_
    refine ex_aload_n de_La_947 rfl rfl ?_
    refine ex_iload_n de_La_948 rfl rfl ?_
    refine ex_iconst de_La_949 ?_
    refine ex_iadd de_La_950 ?_
    refine ex_top (c := ab_I 1) rfl ?_
    refine ex_sld de_La_951 (by decide) (by decide) (by decide) e0 ?_
    refine ex_aload_n de_La_952 rfl rfl ?_
    refine ex_iload_n de_La_953 rfl rfl ?_
    refine ex_iconst de_La_954 ?_
    refine ex_iadd de_La_955 ?_
    refine ex_top (c := ab_I 2) rfl ?_
    refine ex_sld de_La_956 (by decide) (by decide) (by decide) e1 ?_
    refine ex_aload_n de_La_957 rfl rfl ?_
    refine ex_iload_n de_La_958 rfl rfl ?_
    refine ex_iconst de_La_959 ?_
    refine ex_iadd de_La_960 ?_
    refine ex_top (c := ab_I 3) rfl ?_
    refine ex_sld de_La_961 (by decide) (by decide) (by decide) e2 ?_
    refine ex_aload_n de_La_962 rfl rfl ?_
    refine ex_iload_n de_La_963 rfl rfl ?_
    refine ex_iconst de_La_964 ?_
    refine ex_iadd de_La_965 ?_
    refine ex_top (c := ab_I 4) rfl ?_
    refine ex_sld de_La_966 (by decide) (by decide) (by decide) e3 ?_
    refine ex_if_eq (tgt := 974) de_La_967 (by decide) (by first | assumption | decide) (fun h967 => ?_) (fun h967 => ?_)
    · skip
      refine ex_iconst de_La_974 ?_
      refine ex_vv (ci := 11) de_La_975 (yy_diary_0 (v1) (by first | assumption | decide) (v2) (by first | assumption | decide) (0) (by first | assumption | decide)) kb_La_122 ⟨im_Mo_diary, se_Mo_diary⟩ rfl rfl rfl (Nat.le_of_ble_eq_true rfl) (by decide) rfl ?_
      refine ex_icmp_eq (tgt := 1184) de_La_978 (by decide) (by decide) (by decide) (fun _ => ?_) (fun h => absurd rfl h)
      exact la_end _
    · skip
      refine ex_iconst de_La_970 ?_
      refine ex_goto (tgt := 975) de_La_971 (by decide) ?_
      refine ex_vv (ci := 11) de_La_975 (yy_diary_0 (v1) (by first | assumption | decide) (v2) (by first | assumption | decide) (1) (by first | assumption | decide)) kb_La_122 ⟨im_Mo_diary, se_Mo_diary⟩ rfl rfl rfl (Nat.le_of_ble_eq_true rfl) (by decide) rfl ?_
      refine ex_icmp_eq (tgt := 1184) de_La_978 (by decide) (by decide) (by decide) (fun _ => ?_) (fun h => absurd rfl h)
      exact la_end _
set_option maxRecDepth 20000 in
theorem la_24_1 {b : Nat} {xs : Nat → Int32} {bc bs : Nat} (v0 : Int) (e0 : (xs 1).toInt = v0) (hv0 : ab_in v0) (hc0 : (v0 ≤ (-2)) ∨ (0 ≤ v0)) (v1 : Int) (e1 : (xs 2).toInt = v1) (hv1 : ab_in v1) (v2 : Int) (e2 : (xs 3).toInt = v2) (hv2 : ab_in v2) (v3 : Int) (e3 : (xs 4).toInt = v3) (hv3 : ab_in v3) : ab_Ex b 6 xs g_G g_rs mt_La 10 bc bs 914 [some (ab_R (ab_sb + 1000)), some (ab_R 0), some (ab_R 107), some (ab_I 0)] [] fw_0 () := by
  refine ex_aload_n de_La_914 rfl rfl ?_
  refine ex_aload_n de_La_915 rfl rfl ?_
  refine ex_iload_n de_La_916 rfl rfl ?_
  refine ex_iconst de_La_917 ?_
  refine ex_iadd de_La_918 ?_
  refine ex_top (c := ab_I 1) rfl ?_
  refine ex_sld de_La_919 (by decide) (by decide) (by decide) e0 ?_
  refine ex_aload_n de_La_920 rfl rfl ?_
  refine ex_iload_n de_La_921 rfl rfl ?_
  refine ex_iconst de_La_922 ?_
  refine ex_iadd de_La_923 ?_
  refine ex_top (c := ab_I 2) rfl ?_
  refine ex_sld de_La_924 (by decide) (by decide) (by decide) e1 ?_
  refine ex_aload_n de_La_925 rfl rfl ?_
  refine ex_iload_n de_La_926 rfl rfl ?_
  refine ex_iconst de_La_927 ?_
  refine ex_iadd de_La_928 ?_
  refine ex_top (c := ab_I 3) rfl ?_
  refine ex_sld de_La_929 (by decide) (by decide) (by decide) e2 ?_
  refine ex_aload_n de_La_930 rfl rfl ?_
  refine ex_iload_n de_La_931 rfl rfl ?_
  refine ex_iconst de_La_932 ?_
  refine ex_iadd de_La_933 ?_
  refine ex_top (c := ab_I 4) rfl ?_
  refine ex_sld de_La_934 (by decide) (by decide) (by decide) e3 ?_
  refine ex_if_eq (tgt := 942) de_La_935 (by decide) (by first | assumption | decide) (fun h935 => ?_) (fun h935 => ?_)
  · skip
    refine ex_iconst de_La_942 ?_
    refine ex_vv (ci := 10) de_La_943 (xx_diary_1 (v0) (by first | assumption | decide) hc0 (v1) (by first | assumption | decide) (v2) (by first | assumption | decide) (0) (by first | assumption | decide)) kb_La_118 ⟨im_Tu_diary, se_Tu_diary⟩ rfl rfl rfl (Nat.le_of_ble_eq_true rfl) (by decide) rfl ?_
    refine ex_aload_n de_La_946 rfl rfl ?_
    refine ex_aload_n de_La_947 rfl rfl ?_
    refine ex_iload_n de_La_948 rfl rfl ?_
    refine ex_iconst de_La_949 ?_
    refine ex_iadd de_La_950 ?_
    refine ex_top (c := ab_I 1) rfl ?_
    refine ex_sld de_La_951 (by decide) (by decide) (by decide) e0 ?_
    refine ex_aload_n de_La_952 rfl rfl ?_
    refine ex_iload_n de_La_953 rfl rfl ?_
    refine ex_iconst de_La_954 ?_
    refine ex_iadd de_La_955 ?_
    refine ex_top (c := ab_I 2) rfl ?_
    refine ex_sld de_La_956 (by decide) (by decide) (by decide) e1 ?_
    refine ex_aload_n de_La_957 rfl rfl ?_
    refine ex_iload_n de_La_958 rfl rfl ?_
    refine ex_iconst de_La_959 ?_
    refine ex_iadd de_La_960 ?_
    refine ex_top (c := ab_I 3) rfl ?_
    refine ex_sld de_La_961 (by decide) (by decide) (by decide) e2 ?_
    refine ex_aload_n de_La_962 rfl rfl ?_
    refine ex_iload_n de_La_963 rfl rfl ?_
    refine ex_iconst de_La_964 ?_
    refine ex_iadd de_La_965 ?_
    refine ex_top (c := ab_I 4) rfl ?_
    refine ex_sld de_La_966 (by decide) (by decide) (by decide) e3 ?_
    refine ex_if_eq (tgt := 974) de_La_967 (by decide) (by first | assumption | decide) (fun h967 => ?_) (fun h967 => ?_)
    · skip
      refine ex_iconst de_La_974 ?_
      refine ex_vv (ci := 11) de_La_975 (yy_diary_1 (v0) (by first | assumption | decide) hc0 (v1) (by first | assumption | decide) (v2) (by first | assumption | decide) (0) (by first | assumption | decide)) kb_La_122 ⟨im_Mo_diary, se_Mo_diary⟩ rfl rfl rfl (Nat.le_of_ble_eq_true rfl) (by decide) rfl ?_
      refine ex_icmp_eq (tgt := 1184) de_La_978 (by decide) (by decide) (by decide) (fun _ => ?_) (fun h => absurd rfl h)
      exact la_end _
    · skip
      refine ex_iconst de_La_970 ?_
      refine ex_goto (tgt := 975) de_La_971 (by decide) ?_
      refine ex_vv (ci := 11) de_La_975 (yy_diary_1 (v0) (by first | assumption | decide) hc0 (v1) (by first | assumption | decide) (v2) (by first | assumption | decide) (1) (by first | assumption | decide)) kb_La_122 ⟨im_Mo_diary, se_Mo_diary⟩ rfl rfl rfl (Nat.le_of_ble_eq_true rfl) (by decide) rfl ?_
      refine ex_icmp_eq (tgt := 1184) de_La_978 (by decide) (by decide) (by decide) (fun _ => ?_) (fun h => absurd rfl h)
      exact la_end _
  · skip
    refine ex_iconst de_La_938 ?_
    refine ex_goto (tgt := 943) de_La_939 (by decide) ?_
    refine ex_vv (ci := 10) de_La_943 (xx_diary_1 (v0) (by first | assumption | decide) hc0 (v1) (by first | assumption | decide) (v2) (by first | assumption | decide) (1) (by first | assumption | decide)) kb_La_118 ⟨im_Tu_diary, se_Tu_diary⟩ rfl rfl rfl (Nat.le_of_ble_eq_true rfl) (by decide) rfl ?_
    refine ex_aload_n de_La_946 rfl rfl ?_
    refine ex_aload_n de_La_947 rfl rfl ?_
    refine ex_iload_n de_La_948 rfl rfl ?_
    refine ex_iconst de_La_949 ?_
    refine ex_iadd de_La_950 ?_
    refine ex_top (c := ab_I 1) rfl ?_
    refine ex_sld de_La_951 (by decide) (by decide) (by decide) e0 ?_
    refine ex_aload_n de_La_952 rfl rfl ?_
    refine ex_iload_n de_La_953 rfl rfl ?_
    refine ex_iconst de_La_954 ?_
    refine ex_iadd de_La_955 ?_
    refine ex_top (c := ab_I 2) rfl ?_
    refine ex_sld de_La_956 (by decide) (by decide) (by decide) e1 ?_
    refine ex_aload_n de_La_957 rfl rfl ?_
    refine ex_iload_n de_La_958 rfl rfl ?_
    refine ex_iconst de_La_959 ?_
    refine ex_iadd de_La_960 ?_
    refine ex_top (c := ab_I 3) rfl ?_
    refine ex_sld de_La_961 (by decide) (by decide) (by decide) e2 ?_
    refine ex_aload_n de_La_962 rfl rfl ?_
    refine ex_iload_n de_La_963 rfl rfl ?_
    refine ex_iconst de_La_964 ?_
    refine ex_iadd de_La_965 ?_
    refine ex_top (c := ab_I 4) rfl ?_
    refine ex_sld de_La_966 (by decide) (by decide) (by decide) e3 ?_
    refine ex_if_eq (tgt := 974) de_La_967 (by decide) (by first | assumption | decide) (fun h967 => ?_) (fun h967 => ?_)
    · skip
      refine ex_iconst de_La_974 ?_
      refine ex_vv (ci := 11) de_La_975 (yy_diary_1 (v0) (by first | assumption | decide) hc0 (v1) (by first | assumption | decide) (v2) (by first | assumption | decide) (0) (by first | assumption | decide)) kb_La_122 ⟨im_Mo_diary, se_Mo_diary⟩ rfl rfl rfl (Nat.le_of_ble_eq_true rfl) (by decide) rfl ?_
      refine ex_icmp_eq (tgt := 1184) de_La_978 (by decide) (by decide) (by decide) (fun _ => ?_) (fun h => absurd rfl h)
      exact la_end _
    · skip
      refine ex_iconst de_La_970 ?_
      refine ex_goto (tgt := 975) de_La_971 (by decide) ?_
      refine ex_vv (ci := 11) de_La_975 (yy_diary_1 (v0) (by first | assumption | decide) hc0 (v1) (by first | assumption | decide) (v2) (by first | assumption | decide) (1) (by first | assumption | decide)) kb_La_122 ⟨im_Mo_diary, se_Mo_diary⟩ rfl rfl rfl (Nat.le_of_ble_eq_true rfl) (by decide) rfl ?_
      refine ex_icmp_eq (tgt := 1184) de_La_978 (by decide) (by decide) (by decide) (fun _ => ?_) (fun h => absurd rfl h)
      exact la_end _
theorem la_op_24 {b : Nat} {xs : Nat → Int32} {bc bs : Nat} : ab_Ex b 6 xs g_G g_rs mt_La 10 bc bs 914 [some (ab_R (ab_sb + 1000)), some (ab_R 0), some (ab_R 107), some (ab_I 0)] [] fw_0 () := by
  obtain ⟨v0, e0⟩ : ∃ v, (xs 1).toInt = v := ⟨_, rfl⟩
  have hv0 : ab_in v0 := by rw [← e0]; exact ab_toin _
  obtain ⟨v1, e1⟩ : ∃ v, (xs 2).toInt = v := ⟨_, rfl⟩
  have hv1 : ab_in v1 := by rw [← e1]; exact ab_toin _
  obtain ⟨v2, e2⟩ : ∃ v, (xs 3).toInt = v := ⟨_, rfl⟩
  have hv2 : ab_in v2 := by rw [← e2]; exact ab_toin _
  obtain ⟨v3, e3⟩ : ∃ v, (xs 4).toInt = v := ⟨_, rfl⟩
  have hv3 : ab_in v3 := by rw [← e3]; exact ab_toin _
  rcases (by omega : v0 = (-1) ∨ ((v0 ≤ (-2)) ∨ (0 ≤ v0))) with hc0 | hc0
  · exact la_24_0 (e0.trans hc0) v1 e1 hv1 v2 e2 hv2 v3 e3 hv3
  · exact la_24_1 v0 e0 hv0 hc0 v1 e1 hv1 v2 e2 hv2 v3 e3 hv3
set_option maxRecDepth 20000 in
theorem la_25_0 {b : Nat} {xs : Nat → Int32} {bc bs : Nat} (v0 : Int) (e0 : (xs 1).toInt = v0) (hv0 : ab_in v0) : ab_Ex b 6 xs g_G g_rs mt_La 10 bc bs 983 [some (ab_R (ab_sb + 1000)), some (ab_R 0), some (ab_R 107), some (ab_I 0)] [] fw_0 () := by
  refine ex_aload_n de_La_983 rfl rfl ?_
  refine ex_aload_n de_La_984 rfl rfl ?_
  refine ex_iload_n de_La_985 rfl rfl ?_
  refine ex_iconst de_La_986 ?_
  refine ex_iadd de_La_987 ?_
  refine ex_top (c := ab_I 1) rfl ?_
  refine ex_sld de_La_988 (by decide) (by decide) (by decide) e0 ?_
  refine ex_vv (ci := 10) de_La_989 (xx_turned_0 (v0) (by first | assumption | decide)) kb_La_123 ⟨im_Tu_turned, se_Tu_turned⟩ rfl rfl rfl (Nat.le_of_ble_eq_true rfl) (by decide) rfl ?_
  refine ex_aload_n de_La_992 rfl rfl ?_
  refine ex_aload_n de_La_993 rfl rfl ?_
  refine ex_iload_n de_La_994 rfl rfl ?_
  refine ex_iconst de_La_995 ?_
  refine ex_iadd de_La_996 ?_
  refine ex_top (c := ab_I 1) rfl ?_
  refine ex_sld de_La_997 (by decide) (by decide) (by decide) e0 ?_
  refine ex_vv (ci := 11) de_La_998 (yy_turned_0 (v0) (by first | assumption | decide)) kb_La_126 ⟨im_Mo_turned, se_Mo_turned⟩ rfl rfl rfl (Nat.le_of_ble_eq_true rfl) (by decide) rfl ?_
  refine ex_icmp_eq (tgt := 1184) de_La_1001 (by decide) (by decide) (by decide) (fun _ => ?_) (fun h => absurd rfl h)
  exact la_end _
theorem la_op_25 {b : Nat} {xs : Nat → Int32} {bc bs : Nat} : ab_Ex b 6 xs g_G g_rs mt_La 10 bc bs 983 [some (ab_R (ab_sb + 1000)), some (ab_R 0), some (ab_R 107), some (ab_I 0)] [] fw_0 () := by
  obtain ⟨v0, e0⟩ : ∃ v, (xs 1).toInt = v := ⟨_, rfl⟩
  have hv0 : ab_in v0 := by rw [← e0]; exact ab_toin _
  exact la_25_0 v0 e0 hv0
set_option maxRecDepth 20000 in
theorem la_26_0 {b : Nat} {xs : Nat → Int32} {bc bs : Nat} (v0 : Int) (e0 : (xs 1).toInt = v0) (hv0 : ab_in v0) (v1 : Int) (e1 : (xs 2).toInt = v1) (hv1 : ab_in v1) : ab_Ex b 6 xs g_G g_rs mt_La 10 bc bs 1006 [some (ab_R (ab_sb + 1000)), some (ab_R 0), some (ab_R 107), some (ab_I 0)] [] fw_0 () := by
  refine ex_aload_n de_La_1006 rfl rfl ?_
  refine ex_aload_n de_La_1007 rfl rfl ?_
  refine ex_iload_n de_La_1008 rfl rfl ?_
  refine ex_iconst de_La_1009 ?_
  refine ex_iadd de_La_1010 ?_
  refine ex_top (c := ab_I 1) rfl ?_
  refine ex_sld de_La_1011 (by decide) (by decide) (by decide) e0 ?_
  refine ex_aload_n de_La_1012 rfl rfl ?_
  refine ex_iload_n de_La_1013 rfl rfl ?_
  refine ex_iconst de_La_1014 ?_
  refine ex_iadd de_La_1015 ?_
  refine ex_top (c := ab_I 2) rfl ?_
  refine ex_sld de_La_1016 (by decide) (by decide) (by decide) e1 ?_
  refine ex_vv (ci := 10) de_La_1017 (xx_look_0 (v0) (by first | assumption | decide) (v1) (by first | assumption | decide)) kb_La_127 ⟨im_Tu_look, se_Tu_look⟩ rfl rfl rfl (Nat.le_of_ble_eq_true rfl) (by decide) rfl ?_
  refine ex_aload_n de_La_1020 rfl rfl ?_
  refine ex_aload_n de_La_1021 rfl rfl ?_
  refine ex_iload_n de_La_1022 rfl rfl ?_
  refine ex_iconst de_La_1023 ?_
  refine ex_iadd de_La_1024 ?_
  refine ex_top (c := ab_I 1) rfl ?_
  refine ex_sld de_La_1025 (by decide) (by decide) (by decide) e0 ?_
  refine ex_aload_n de_La_1026 rfl rfl ?_
  refine ex_iload_n de_La_1027 rfl rfl ?_
  refine ex_iconst de_La_1028 ?_
  refine ex_iadd de_La_1029 ?_
  refine ex_top (c := ab_I 2) rfl ?_
  refine ex_sld de_La_1030 (by decide) (by decide) (by decide) e1 ?_
  refine ex_vv (ci := 11) de_La_1031 (yy_look_0 (v0) (by first | assumption | decide) (v1) (by first | assumption | decide)) kb_La_130 ⟨im_Mo_look, se_Mo_look⟩ rfl rfl rfl (Nat.le_of_ble_eq_true rfl) (by decide) rfl ?_
  refine ex_icmp_eq (tgt := 1184) de_La_1034 (by decide) (by decide) (by decide) (fun _ => ?_) (fun h => absurd rfl h)
  exact la_end _
theorem la_op_26 {b : Nat} {xs : Nat → Int32} {bc bs : Nat} : ab_Ex b 6 xs g_G g_rs mt_La 10 bc bs 1006 [some (ab_R (ab_sb + 1000)), some (ab_R 0), some (ab_R 107), some (ab_I 0)] [] fw_0 () := by
  obtain ⟨v0, e0⟩ : ∃ v, (xs 1).toInt = v := ⟨_, rfl⟩
  have hv0 : ab_in v0 := by rw [← e0]; exact ab_toin _
  obtain ⟨v1, e1⟩ : ∃ v, (xs 2).toInt = v := ⟨_, rfl⟩
  have hv1 : ab_in v1 := by rw [← e1]; exact ab_toin _
  exact la_26_0 v0 e0 hv0 v1 e1 hv1
set_option maxRecDepth 20000 in
theorem la_27_0 {b : Nat} {xs : Nat → Int32} {bc bs : Nat} (v0 : Int) (e0 : (xs 1).toInt = v0) (hv0 : ab_in v0) (hc0 : (v0 ≤ (-1))) : ab_Ex b 6 xs g_G g_rs mt_La 10 bc bs 1039 [some (ab_R (ab_sb + 1000)), some (ab_R 0), some (ab_R 107), some (ab_I 0)] [] fw_0 () := by
  refine ex_aload_n de_La_1039 rfl rfl ?_
  refine ex_aload_n de_La_1040 rfl rfl ?_
  refine ex_iload_n de_La_1041 rfl rfl ?_
  refine ex_iconst de_La_1042 ?_
  refine ex_iadd de_La_1043 ?_
  refine ex_top (c := ab_I 1) rfl ?_
  refine ex_sld de_La_1044 (by decide) (by decide) (by decide) e0 ?_
  refine ex_vv (ci := 10) de_La_1045 (xx_seed_0 (v0) (by first | assumption | decide) hc0) kb_La_131 ⟨im_Tu_seed, se_Tu_seed⟩ rfl rfl rfl (Nat.le_of_ble_eq_true rfl) (by decide) rfl ?_
  refine ex_aload_n de_La_1048 rfl rfl ?_
  refine ex_aload_n de_La_1049 rfl rfl ?_
  refine ex_iload_n de_La_1050 rfl rfl ?_
  refine ex_iconst de_La_1051 ?_
  refine ex_iadd de_La_1052 ?_
  refine ex_top (c := ab_I 1) rfl ?_
  refine ex_sld de_La_1053 (by decide) (by decide) (by decide) e0 ?_
  refine ex_vv (ci := 11) de_La_1054 (yy_seed_0 (v0) (by first | assumption | decide) hc0) kb_La_134 ⟨im_Mo_seed, se_Mo_seed⟩ rfl rfl rfl (Nat.le_of_ble_eq_true rfl) (by decide) rfl ?_
  refine ex_icmp_eq (tgt := 1184) de_La_1057 (by decide) (by decide) (by decide) (fun _ => ?_) (fun h => absurd rfl h)
  exact la_end _
set_option maxRecDepth 20000 in
theorem la_27_1 {b : Nat} {xs : Nat → Int32} {bc bs : Nat} (v0 : Int) (e0 : (xs 1).toInt = v0) (hv0 : ab_in v0) (hc0 : (0 ≤ v0)) : ab_Ex b 6 xs g_G g_rs mt_La 10 bc bs 1039 [some (ab_R (ab_sb + 1000)), some (ab_R 0), some (ab_R 107), some (ab_I 0)] [] fw_0 () := by
  refine ex_aload_n de_La_1039 rfl rfl ?_
  refine ex_aload_n de_La_1040 rfl rfl ?_
  refine ex_iload_n de_La_1041 rfl rfl ?_
  refine ex_iconst de_La_1042 ?_
  refine ex_iadd de_La_1043 ?_
  refine ex_top (c := ab_I 1) rfl ?_
  refine ex_sld de_La_1044 (by decide) (by decide) (by decide) e0 ?_
  refine ex_vv (ci := 10) de_La_1045 (xx_seed_1 (v0) (by first | assumption | decide) hc0) kb_La_131 ⟨im_Tu_seed, se_Tu_seed⟩ rfl rfl rfl (Nat.le_of_ble_eq_true rfl) (by decide) rfl ?_
  refine ex_aload_n de_La_1048 rfl rfl ?_
  refine ex_aload_n de_La_1049 rfl rfl ?_
  refine ex_iload_n de_La_1050 rfl rfl ?_
  refine ex_iconst de_La_1051 ?_
  refine ex_iadd de_La_1052 ?_
  refine ex_top (c := ab_I 1) rfl ?_
  refine ex_sld de_La_1053 (by decide) (by decide) (by decide) e0 ?_
  refine ex_vv (ci := 11) de_La_1054 (yy_seed_1 (v0) (by first | assumption | decide) hc0) kb_La_134 ⟨im_Mo_seed, se_Mo_seed⟩ rfl rfl rfl (Nat.le_of_ble_eq_true rfl) (by decide) rfl ?_
  refine ex_icmp_eq (tgt := 1184) de_La_1057 (by decide) (by decide) (by decide) (fun _ => ?_) (fun h => absurd rfl h)
  exact la_end _
theorem la_op_27 {b : Nat} {xs : Nat → Int32} {bc bs : Nat} : ab_Ex b 6 xs g_G g_rs mt_La 10 bc bs 1039 [some (ab_R (ab_sb + 1000)), some (ab_R 0), some (ab_R 107), some (ab_I 0)] [] fw_0 () := by
  obtain ⟨v0, e0⟩ : ∃ v, (xs 1).toInt = v := ⟨_, rfl⟩
  have hv0 : ab_in v0 := by rw [← e0]; exact ab_toin _
  rcases (by omega : ((v0 ≤ (-1))) ∨ ((0 ≤ v0))) with hc0 | hc0
  · exact la_27_0 v0 e0 hv0 hc0
  · exact la_27_1 v0 e0 hv0 hc0
set_option maxRecDepth 20000 in
theorem la_28_0 {b : Nat} {xs : Nat → Int32} {bc bs : Nat} (v0 : Int) (e0 : (xs 1).toInt = v0) (hv0 : ab_in v0) (v1 : Int) (e1 : (xs 2).toInt = v1) (hv1 : ab_in v1) (v2 : Int) (e2 : (xs 3).toInt = v2) (hv2 : ab_in v2) (v3 : Int) (e3 : (xs 4).toInt = v3) (hv3 : ab_in v3) : ab_Ex b 6 xs g_G g_rs mt_La 10 bc bs 1062 [some (ab_R (ab_sb + 1000)), some (ab_R 0), some (ab_R 107), some (ab_I 0)] [] fw_0 () := by
  refine ex_aload_n de_La_1062 rfl rfl ?_
  refine ex_aload_n de_La_1063 rfl rfl ?_
  refine ex_iload_n de_La_1064 rfl rfl ?_
  refine ex_iconst de_La_1065 ?_
  refine ex_iadd de_La_1066 ?_
  refine ex_top (c := ab_I 1) rfl ?_
  refine ex_sld de_La_1067 (by decide) (by decide) (by decide) e0 ?_
  refine ex_aload_n de_La_1068 rfl rfl ?_
  refine ex_iload_n de_La_1069 rfl rfl ?_
  refine ex_iconst de_La_1070 ?_
  refine ex_iadd de_La_1071 ?_
  refine ex_top (c := ab_I 2) rfl ?_
  refine ex_sld de_La_1072 (by decide) (by decide) (by decide) e1 ?_
  refine ex_aload_n de_La_1073 rfl rfl ?_
  refine ex_iload_n de_La_1074 rfl rfl ?_
  refine ex_iconst de_La_1075 ?_
  refine ex_iadd de_La_1076 ?_
  refine ex_top (c := ab_I 3) rfl ?_
  refine ex_sld de_La_1077 (by decide) (by decide) (by decide) e2 ?_
  refine ex_aload_n de_La_1078 rfl rfl ?_
  refine ex_iload_n de_La_1079 rfl rfl ?_
  refine ex_iconst de_La_1080 ?_
  refine ex_iadd de_La_1081 ?_
  refine ex_top (c := ab_I 4) rfl ?_
  refine ex_sld de_La_1082 (by decide) (by decide) (by decide) e3 ?_
  refine ex_vv (ci := 10) de_La_1083 (xx_days_0 (v0) (by first | assumption | decide) (v1) (by first | assumption | decide) (v2) (by first | assumption | decide) (v3) (by first | assumption | decide)) kb_La_135 ⟨im_Tu_days, se_Tu_days⟩ rfl rfl rfl (Nat.le_of_ble_eq_true rfl) (by decide) rfl ?_
  refine ex_aload_n de_La_1086 rfl rfl ?_
  refine ex_aload_n de_La_1087 rfl rfl ?_
  refine ex_iload_n de_La_1088 rfl rfl ?_
  refine ex_iconst de_La_1089 ?_
  refine ex_iadd de_La_1090 ?_
  refine ex_top (c := ab_I 1) rfl ?_
  refine ex_sld de_La_1091 (by decide) (by decide) (by decide) e0 ?_
  refine ex_aload_n de_La_1092 rfl rfl ?_
  refine ex_iload_n de_La_1093 rfl rfl ?_
  refine ex_iconst de_La_1094 ?_
  refine ex_iadd de_La_1095 ?_
  refine ex_top (c := ab_I 2) rfl ?_
  refine ex_sld de_La_1096 (by decide) (by decide) (by decide) e1 ?_
  refine ex_aload_n de_La_1097 rfl rfl ?_
  refine ex_iload_n de_La_1098 rfl rfl ?_
  refine ex_iconst de_La_1099 ?_
  refine ex_iadd de_La_1100 ?_
  refine ex_top (c := ab_I 3) rfl ?_
  refine ex_sld de_La_1101 (by decide) (by decide) (by decide) e2 ?_
  refine ex_aload_n de_La_1102 rfl rfl ?_
  refine ex_iload_n de_La_1103 rfl rfl ?_
  refine ex_iconst de_La_1104 ?_
  refine ex_iadd de_La_1105 ?_
  refine ex_top (c := ab_I 4) rfl ?_
  refine ex_sld de_La_1106 (by decide) (by decide) (by decide) e3 ?_
  refine ex_vv (ci := 11) de_La_1107 (yy_days_0 (v0) (by first | assumption | decide) (v1) (by first | assumption | decide) (v2) (by first | assumption | decide) (v3) (by first | assumption | decide)) kb_La_138 ⟨im_Mo_days, se_Mo_days⟩ rfl rfl rfl (Nat.le_of_ble_eq_true rfl) (by decide) rfl ?_
  refine ex_icmp_eq (tgt := 1184) de_La_1110 (by decide) (by decide) (by decide) (fun _ => ?_) (fun h => absurd rfl h)
  exact la_end _
theorem la_op_28 {b : Nat} {xs : Nat → Int32} {bc bs : Nat} : ab_Ex b 6 xs g_G g_rs mt_La 10 bc bs 1062 [some (ab_R (ab_sb + 1000)), some (ab_R 0), some (ab_R 107), some (ab_I 0)] [] fw_0 () := by
  obtain ⟨v0, e0⟩ : ∃ v, (xs 1).toInt = v := ⟨_, rfl⟩
  have hv0 : ab_in v0 := by rw [← e0]; exact ab_toin _
  obtain ⟨v1, e1⟩ : ∃ v, (xs 2).toInt = v := ⟨_, rfl⟩
  have hv1 : ab_in v1 := by rw [← e1]; exact ab_toin _
  obtain ⟨v2, e2⟩ : ∃ v, (xs 3).toInt = v := ⟨_, rfl⟩
  have hv2 : ab_in v2 := by rw [← e2]; exact ab_toin _
  obtain ⟨v3, e3⟩ : ∃ v, (xs 4).toInt = v := ⟨_, rfl⟩
  have hv3 : ab_in v3 := by rw [← e3]; exact ab_toin _
  exact la_28_0 v0 e0 hv0 v1 e1 hv1 v2 e2 hv2 v3 e3 hv3
set_option maxRecDepth 20000 in
theorem la_29_0 {b : Nat} {xs : Nat → Int32} {bc bs : Nat} (e0 : (xs 1).toInt = 0) : ab_Ex b 6 xs g_G g_rs mt_La 10 bc bs 1115 [some (ab_R (ab_sb + 1000)), some (ab_R 0), some (ab_R 107), some (ab_I 0)] [] fw_0 () := by
  refine ex_aload_n de_La_1115 rfl rfl ?_
  refine ex_aload_n de_La_1116 rfl rfl ?_
  refine ex_iload_n de_La_1117 rfl rfl ?_
  refine ex_iconst de_La_1118 ?_
  refine ex_iadd de_La_1119 ?_
  refine ex_top (c := ab_I 1) rfl ?_
  refine ex_sld de_La_1120 (by decide) (by decide) (by decide) e0 ?_
  refine ex_vv (ci := 10) de_La_1121 (xx_count_0) kb_La_139 ⟨im_Tu_count, se_Tu_count⟩ rfl rfl rfl (Nat.le_of_ble_eq_true rfl) (by decide) rfl ?_
  refine ex_aload_n de_La_1124 rfl rfl ?_
  refine ex_aload_n de_La_1125 rfl rfl ?_
  refine ex_iload_n de_La_1126 rfl rfl ?_
  refine ex_iconst de_La_1127 ?_
  refine ex_iadd de_La_1128 ?_
  refine ex_top (c := ab_I 1) rfl ?_
  refine ex_sld de_La_1129 (by decide) (by decide) (by decide) e0 ?_
  refine ex_vv (ci := 11) de_La_1130 (yy_count_0) kb_La_142 ⟨im_Mo_count, se_Mo_count⟩ rfl rfl rfl (Nat.le_of_ble_eq_true rfl) (by decide) rfl ?_
  refine ex_icmp_eq (tgt := 1184) de_La_1133 (by decide) (by decide) (by decide) (fun _ => ?_) (fun h => absurd rfl h)
  exact la_end _
set_option maxRecDepth 20000 in
theorem la_29_1 {b : Nat} {xs : Nat → Int32} {bc bs : Nat} (e0 : (xs 1).toInt = 1) : ab_Ex b 6 xs g_G g_rs mt_La 10 bc bs 1115 [some (ab_R (ab_sb + 1000)), some (ab_R 0), some (ab_R 107), some (ab_I 0)] [] fw_0 () := by
  refine ex_aload_n de_La_1115 rfl rfl ?_
  refine ex_aload_n de_La_1116 rfl rfl ?_
  refine ex_iload_n de_La_1117 rfl rfl ?_
  refine ex_iconst de_La_1118 ?_
  refine ex_iadd de_La_1119 ?_
  refine ex_top (c := ab_I 1) rfl ?_
  refine ex_sld de_La_1120 (by decide) (by decide) (by decide) e0 ?_
  refine ex_vv (ci := 10) de_La_1121 (xx_count_1) kb_La_139 ⟨im_Tu_count, se_Tu_count⟩ rfl rfl rfl (Nat.le_of_ble_eq_true rfl) (by decide) rfl ?_
  refine ex_aload_n de_La_1124 rfl rfl ?_
  refine ex_aload_n de_La_1125 rfl rfl ?_
  refine ex_iload_n de_La_1126 rfl rfl ?_
  refine ex_iconst de_La_1127 ?_
  refine ex_iadd de_La_1128 ?_
  refine ex_top (c := ab_I 1) rfl ?_
  refine ex_sld de_La_1129 (by decide) (by decide) (by decide) e0 ?_
  refine ex_vv (ci := 11) de_La_1130 (yy_count_1) kb_La_142 ⟨im_Mo_count, se_Mo_count⟩ rfl rfl rfl (Nat.le_of_ble_eq_true rfl) (by decide) rfl ?_
  refine ex_icmp_eq (tgt := 1184) de_La_1133 (by decide) (by decide) (by decide) (fun _ => ?_) (fun h => absurd rfl h)
  exact la_end _
set_option maxRecDepth 20000 in
theorem la_29_2 {b : Nat} {xs : Nat → Int32} {bc bs : Nat} (e0 : (xs 1).toInt = 2) : ab_Ex b 6 xs g_G g_rs mt_La 10 bc bs 1115 [some (ab_R (ab_sb + 1000)), some (ab_R 0), some (ab_R 107), some (ab_I 0)] [] fw_0 () := by
  refine ex_aload_n de_La_1115 rfl rfl ?_
  refine ex_aload_n de_La_1116 rfl rfl ?_
  refine ex_iload_n de_La_1117 rfl rfl ?_
  refine ex_iconst de_La_1118 ?_
  refine ex_iadd de_La_1119 ?_
  refine ex_top (c := ab_I 1) rfl ?_
  refine ex_sld de_La_1120 (by decide) (by decide) (by decide) e0 ?_
  refine ex_vv (ci := 10) de_La_1121 (xx_count_2) kb_La_139 ⟨im_Tu_count, se_Tu_count⟩ rfl rfl rfl (Nat.le_of_ble_eq_true rfl) (by decide) rfl ?_
  refine ex_aload_n de_La_1124 rfl rfl ?_
  refine ex_aload_n de_La_1125 rfl rfl ?_
  refine ex_iload_n de_La_1126 rfl rfl ?_
  refine ex_iconst de_La_1127 ?_
  refine ex_iadd de_La_1128 ?_
  refine ex_top (c := ab_I 1) rfl ?_
  refine ex_sld de_La_1129 (by decide) (by decide) (by decide) e0 ?_
  refine ex_vv (ci := 11) de_La_1130 (yy_count_2) kb_La_142 ⟨im_Mo_count, se_Mo_count⟩ rfl rfl rfl (Nat.le_of_ble_eq_true rfl) (by decide) rfl ?_
  refine ex_icmp_eq (tgt := 1184) de_La_1133 (by decide) (by decide) (by decide) (fun _ => ?_) (fun h => absurd rfl h)
  exact la_end _
set_option maxRecDepth 20000 in
theorem la_29_3 {b : Nat} {xs : Nat → Int32} {bc bs : Nat} (e0 : (xs 1).toInt = 3) : ab_Ex b 6 xs g_G g_rs mt_La 10 bc bs 1115 [some (ab_R (ab_sb + 1000)), some (ab_R 0), some (ab_R 107), some (ab_I 0)] [] fw_0 () := by
  refine ex_aload_n de_La_1115 rfl rfl ?_
  refine ex_aload_n de_La_1116 rfl rfl ?_
  refine ex_iload_n de_La_1117 rfl rfl ?_
  refine ex_iconst de_La_1118 ?_
  refine ex_iadd de_La_1119 ?_
  refine ex_top (c := ab_I 1) rfl ?_
  refine ex_sld de_La_1120 (by decide) (by decide) (by decide) e0 ?_
  refine ex_vv (ci := 10) de_La_1121 (xx_count_3) kb_La_139 ⟨im_Tu_count, se_Tu_count⟩ rfl rfl rfl (Nat.le_of_ble_eq_true rfl) (by decide) rfl ?_
  refine ex_aload_n de_La_1124 rfl rfl ?_
  refine ex_aload_n de_La_1125 rfl rfl ?_
  refine ex_iload_n de_La_1126 rfl rfl ?_
  refine ex_iconst de_La_1127 ?_
  refine ex_iadd de_La_1128 ?_
  refine ex_top (c := ab_I 1) rfl ?_
  refine ex_sld de_La_1129 (by decide) (by decide) (by decide) e0 ?_
  refine ex_vv (ci := 11) de_La_1130 (yy_count_3) kb_La_142 ⟨im_Mo_count, se_Mo_count⟩ rfl rfl rfl (Nat.le_of_ble_eq_true rfl) (by decide) rfl ?_
  refine ex_icmp_eq (tgt := 1184) de_La_1133 (by decide) (by decide) (by decide) (fun _ => ?_) (fun h => absurd rfl h)
  exact la_end _
set_option maxRecDepth 20000 in
theorem la_29_4 {b : Nat} {xs : Nat → Int32} {bc bs : Nat} (e0 : (xs 1).toInt = 4) : ab_Ex b 6 xs g_G g_rs mt_La 10 bc bs 1115 [some (ab_R (ab_sb + 1000)), some (ab_R 0), some (ab_R 107), some (ab_I 0)] [] fw_0 () := by
  refine ex_aload_n de_La_1115 rfl rfl ?_
  refine ex_aload_n de_La_1116 rfl rfl ?_
  refine ex_iload_n de_La_1117 rfl rfl ?_
  refine ex_iconst de_La_1118 ?_
  refine ex_iadd de_La_1119 ?_
  refine ex_top (c := ab_I 1) rfl ?_
  refine ex_sld de_La_1120 (by decide) (by decide) (by decide) e0 ?_
  refine ex_vv (ci := 10) de_La_1121 (xx_count_4) kb_La_139 ⟨im_Tu_count, se_Tu_count⟩ rfl rfl rfl (Nat.le_of_ble_eq_true rfl) (by decide) rfl ?_
  refine ex_aload_n de_La_1124 rfl rfl ?_
  refine ex_aload_n de_La_1125 rfl rfl ?_
  refine ex_iload_n de_La_1126 rfl rfl ?_
  refine ex_iconst de_La_1127 ?_
  refine ex_iadd de_La_1128 ?_
  refine ex_top (c := ab_I 1) rfl ?_
  refine ex_sld de_La_1129 (by decide) (by decide) (by decide) e0 ?_
  refine ex_vv (ci := 11) de_La_1130 (yy_count_4) kb_La_142 ⟨im_Mo_count, se_Mo_count⟩ rfl rfl rfl (Nat.le_of_ble_eq_true rfl) (by decide) rfl ?_
  refine ex_icmp_eq (tgt := 1184) de_La_1133 (by decide) (by decide) (by decide) (fun _ => ?_) (fun h => absurd rfl h)
  exact la_end _
set_option maxRecDepth 20000 in
theorem la_29_5 {b : Nat} {xs : Nat → Int32} {bc bs : Nat} (e0 : (xs 1).toInt = 5) : ab_Ex b 6 xs g_G g_rs mt_La 10 bc bs 1115 [some (ab_R (ab_sb + 1000)), some (ab_R 0), some (ab_R 107), some (ab_I 0)] [] fw_0 () := by
  refine ex_aload_n de_La_1115 rfl rfl ?_
  refine ex_aload_n de_La_1116 rfl rfl ?_
  refine ex_iload_n de_La_1117 rfl rfl ?_
  refine ex_iconst de_La_1118 ?_
  refine ex_iadd de_La_1119 ?_
  refine ex_top (c := ab_I 1) rfl ?_
  refine ex_sld de_La_1120 (by decide) (by decide) (by decide) e0 ?_
  refine ex_vv (ci := 10) de_La_1121 (xx_count_5) kb_La_139 ⟨im_Tu_count, se_Tu_count⟩ rfl rfl rfl (Nat.le_of_ble_eq_true rfl) (by decide) rfl ?_
  refine ex_aload_n de_La_1124 rfl rfl ?_
  refine ex_aload_n de_La_1125 rfl rfl ?_
  refine ex_iload_n de_La_1126 rfl rfl ?_
  refine ex_iconst de_La_1127 ?_
  refine ex_iadd de_La_1128 ?_
  refine ex_top (c := ab_I 1) rfl ?_
  refine ex_sld de_La_1129 (by decide) (by decide) (by decide) e0 ?_
  refine ex_vv (ci := 11) de_La_1130 (yy_count_5) kb_La_142 ⟨im_Mo_count, se_Mo_count⟩ rfl rfl rfl (Nat.le_of_ble_eq_true rfl) (by decide) rfl ?_
  refine ex_icmp_eq (tgt := 1184) de_La_1133 (by decide) (by decide) (by decide) (fun _ => ?_) (fun h => absurd rfl h)
  exact la_end _
set_option maxRecDepth 20000 in
theorem la_29_6 {b : Nat} {xs : Nat → Int32} {bc bs : Nat} (e0 : (xs 1).toInt = 6) : ab_Ex b 6 xs g_G g_rs mt_La 10 bc bs 1115 [some (ab_R (ab_sb + 1000)), some (ab_R 0), some (ab_R 107), some (ab_I 0)] [] fw_0 () := by
  refine ex_aload_n de_La_1115 rfl rfl ?_
  refine ex_aload_n de_La_1116 rfl rfl ?_
  refine ex_iload_n de_La_1117 rfl rfl ?_
  refine ex_iconst de_La_1118 ?_
  refine ex_iadd de_La_1119 ?_
  refine ex_top (c := ab_I 1) rfl ?_
  refine ex_sld de_La_1120 (by decide) (by decide) (by decide) e0 ?_
  refine ex_vv (ci := 10) de_La_1121 (xx_count_6) kb_La_139 ⟨im_Tu_count, se_Tu_count⟩ rfl rfl rfl (Nat.le_of_ble_eq_true rfl) (by decide) rfl ?_
  refine ex_aload_n de_La_1124 rfl rfl ?_
  refine ex_aload_n de_La_1125 rfl rfl ?_
  refine ex_iload_n de_La_1126 rfl rfl ?_
  refine ex_iconst de_La_1127 ?_
  refine ex_iadd de_La_1128 ?_
  refine ex_top (c := ab_I 1) rfl ?_
  refine ex_sld de_La_1129 (by decide) (by decide) (by decide) e0 ?_
  refine ex_vv (ci := 11) de_La_1130 (yy_count_6) kb_La_142 ⟨im_Mo_count, se_Mo_count⟩ rfl rfl rfl (Nat.le_of_ble_eq_true rfl) (by decide) rfl ?_
  refine ex_icmp_eq (tgt := 1184) de_La_1133 (by decide) (by decide) (by decide) (fun _ => ?_) (fun h => absurd rfl h)
  exact la_end _
set_option maxRecDepth 20000 in
theorem la_29_7 {b : Nat} {xs : Nat → Int32} {bc bs : Nat} (e0 : (xs 1).toInt = 7) : ab_Ex b 6 xs g_G g_rs mt_La 10 bc bs 1115 [some (ab_R (ab_sb + 1000)), some (ab_R 0), some (ab_R 107), some (ab_I 0)] [] fw_0 () := by
  refine ex_aload_n de_La_1115 rfl rfl ?_
  refine ex_aload_n de_La_1116 rfl rfl ?_
  refine ex_iload_n de_La_1117 rfl rfl ?_
  refine ex_iconst de_La_1118 ?_
  refine ex_iadd de_La_1119 ?_
  refine ex_top (c := ab_I 1) rfl ?_
  refine ex_sld de_La_1120 (by decide) (by decide) (by decide) e0 ?_
  refine ex_vv (ci := 10) de_La_1121 (xx_count_7) kb_La_139 ⟨im_Tu_count, se_Tu_count⟩ rfl rfl rfl (Nat.le_of_ble_eq_true rfl) (by decide) rfl ?_
  refine ex_aload_n de_La_1124 rfl rfl ?_
  refine ex_aload_n de_La_1125 rfl rfl ?_
  refine ex_iload_n de_La_1126 rfl rfl ?_
  refine ex_iconst de_La_1127 ?_
  refine ex_iadd de_La_1128 ?_
  refine ex_top (c := ab_I 1) rfl ?_
  refine ex_sld de_La_1129 (by decide) (by decide) (by decide) e0 ?_
  refine ex_vv (ci := 11) de_La_1130 (yy_count_7) kb_La_142 ⟨im_Mo_count, se_Mo_count⟩ rfl rfl rfl (Nat.le_of_ble_eq_true rfl) (by decide) rfl ?_
  refine ex_icmp_eq (tgt := 1184) de_La_1133 (by decide) (by decide) (by decide) (fun _ => ?_) (fun h => absurd rfl h)
  exact la_end _
set_option maxRecDepth 20000 in
theorem la_29_8 {b : Nat} {xs : Nat → Int32} {bc bs : Nat} (e0 : (xs 1).toInt = 8) : ab_Ex b 6 xs g_G g_rs mt_La 10 bc bs 1115 [some (ab_R (ab_sb + 1000)), some (ab_R 0), some (ab_R 107), some (ab_I 0)] [] fw_0 () := by
  refine ex_aload_n de_La_1115 rfl rfl ?_
  refine ex_aload_n de_La_1116 rfl rfl ?_
  refine ex_iload_n de_La_1117 rfl rfl ?_
  refine ex_iconst de_La_1118 ?_
  refine ex_iadd de_La_1119 ?_
  refine ex_top (c := ab_I 1) rfl ?_
  refine ex_sld de_La_1120 (by decide) (by decide) (by decide) e0 ?_
  refine ex_vv (ci := 10) de_La_1121 (xx_count_8) kb_La_139 ⟨im_Tu_count, se_Tu_count⟩ rfl rfl rfl (Nat.le_of_ble_eq_true rfl) (by decide) rfl ?_
  refine ex_aload_n de_La_1124 rfl rfl ?_
  refine ex_aload_n de_La_1125 rfl rfl ?_
  refine ex_iload_n de_La_1126 rfl rfl ?_
  refine ex_iconst de_La_1127 ?_
  refine ex_iadd de_La_1128 ?_
  refine ex_top (c := ab_I 1) rfl ?_
  refine ex_sld de_La_1129 (by decide) (by decide) (by decide) e0 ?_
  refine ex_vv (ci := 11) de_La_1130 (yy_count_8) kb_La_142 ⟨im_Mo_count, se_Mo_count⟩ rfl rfl rfl (Nat.le_of_ble_eq_true rfl) (by decide) rfl ?_
  refine ex_icmp_eq (tgt := 1184) de_La_1133 (by decide) (by decide) (by decide) (fun _ => ?_) (fun h => absurd rfl h)
  exact la_end _
set_option maxRecDepth 20000 in
theorem la_29_9 {b : Nat} {xs : Nat → Int32} {bc bs : Nat} (e0 : (xs 1).toInt = 9) : ab_Ex b 6 xs g_G g_rs mt_La 10 bc bs 1115 [some (ab_R (ab_sb + 1000)), some (ab_R 0), some (ab_R 107), some (ab_I 0)] [] fw_0 () := by
  refine ex_aload_n de_La_1115 rfl rfl ?_
  refine ex_aload_n de_La_1116 rfl rfl ?_
  refine ex_iload_n de_La_1117 rfl rfl ?_
  refine ex_iconst de_La_1118 ?_
  refine ex_iadd de_La_1119 ?_
  refine ex_top (c := ab_I 1) rfl ?_
  refine ex_sld de_La_1120 (by decide) (by decide) (by decide) e0 ?_
  refine ex_vv (ci := 10) de_La_1121 (xx_count_9) kb_La_139 ⟨im_Tu_count, se_Tu_count⟩ rfl rfl rfl (Nat.le_of_ble_eq_true rfl) (by decide) rfl ?_
  refine ex_aload_n de_La_1124 rfl rfl ?_
  refine ex_aload_n de_La_1125 rfl rfl ?_
  refine ex_iload_n de_La_1126 rfl rfl ?_
  refine ex_iconst de_La_1127 ?_
  refine ex_iadd de_La_1128 ?_
  refine ex_top (c := ab_I 1) rfl ?_
  refine ex_sld de_La_1129 (by decide) (by decide) (by decide) e0 ?_
  refine ex_vv (ci := 11) de_La_1130 (yy_count_9) kb_La_142 ⟨im_Mo_count, se_Mo_count⟩ rfl rfl rfl (Nat.le_of_ble_eq_true rfl) (by decide) rfl ?_
  refine ex_icmp_eq (tgt := 1184) de_La_1133 (by decide) (by decide) (by decide) (fun _ => ?_) (fun h => absurd rfl h)
  exact la_end _
set_option maxRecDepth 20000 in
theorem la_29_10 {b : Nat} {xs : Nat → Int32} {bc bs : Nat} (e0 : (xs 1).toInt = 10) : ab_Ex b 6 xs g_G g_rs mt_La 10 bc bs 1115 [some (ab_R (ab_sb + 1000)), some (ab_R 0), some (ab_R 107), some (ab_I 0)] [] fw_0 () := by
  refine ex_aload_n de_La_1115 rfl rfl ?_
  refine ex_aload_n de_La_1116 rfl rfl ?_
  refine ex_iload_n de_La_1117 rfl rfl ?_
  refine ex_iconst de_La_1118 ?_
  refine ex_iadd de_La_1119 ?_
  refine ex_top (c := ab_I 1) rfl ?_
  refine ex_sld de_La_1120 (by decide) (by decide) (by decide) e0 ?_
  refine ex_vv (ci := 10) de_La_1121 (xx_count_10) kb_La_139 ⟨im_Tu_count, se_Tu_count⟩ rfl rfl rfl (Nat.le_of_ble_eq_true rfl) (by decide) rfl ?_
  refine ex_aload_n de_La_1124 rfl rfl ?_
  refine ex_aload_n de_La_1125 rfl rfl ?_
  refine ex_iload_n de_La_1126 rfl rfl ?_
  refine ex_iconst de_La_1127 ?_
  refine ex_iadd de_La_1128 ?_
  refine ex_top (c := ab_I 1) rfl ?_
  refine ex_sld de_La_1129 (by decide) (by decide) (by decide) e0 ?_
  refine ex_vv (ci := 11) de_La_1130 (yy_count_10) kb_La_142 ⟨im_Mo_count, se_Mo_count⟩ rfl rfl rfl (Nat.le_of_ble_eq_true rfl) (by decide) rfl ?_
  refine ex_icmp_eq (tgt := 1184) de_La_1133 (by decide) (by decide) (by decide) (fun _ => ?_) (fun h => absurd rfl h)
  exact la_end _
set_option maxRecDepth 20000 in
theorem la_29_11 {b : Nat} {xs : Nat → Int32} {bc bs : Nat} (e0 : (xs 1).toInt = 11) : ab_Ex b 6 xs g_G g_rs mt_La 10 bc bs 1115 [some (ab_R (ab_sb + 1000)), some (ab_R 0), some (ab_R 107), some (ab_I 0)] [] fw_0 () := by
  refine ex_aload_n de_La_1115 rfl rfl ?_
  refine ex_aload_n de_La_1116 rfl rfl ?_
  refine ex_iload_n de_La_1117 rfl rfl ?_
  refine ex_iconst de_La_1118 ?_
  refine ex_iadd de_La_1119 ?_
  refine ex_top (c := ab_I 1) rfl ?_
  refine ex_sld de_La_1120 (by decide) (by decide) (by decide) e0 ?_
  refine ex_vv (ci := 10) de_La_1121 (xx_count_11) kb_La_139 ⟨im_Tu_count, se_Tu_count⟩ rfl rfl rfl (Nat.le_of_ble_eq_true rfl) (by decide) rfl ?_
  refine ex_aload_n de_La_1124 rfl rfl ?_
  refine ex_aload_n de_La_1125 rfl rfl ?_
  refine ex_iload_n de_La_1126 rfl rfl ?_
  refine ex_iconst de_La_1127 ?_
  refine ex_iadd de_La_1128 ?_
  refine ex_top (c := ab_I 1) rfl ?_
  refine ex_sld de_La_1129 (by decide) (by decide) (by decide) e0 ?_
  refine ex_vv (ci := 11) de_La_1130 (yy_count_11) kb_La_142 ⟨im_Mo_count, se_Mo_count⟩ rfl rfl rfl (Nat.le_of_ble_eq_true rfl) (by decide) rfl ?_
  refine ex_icmp_eq (tgt := 1184) de_La_1133 (by decide) (by decide) (by decide) (fun _ => ?_) (fun h => absurd rfl h)
  exact la_end _
set_option maxRecDepth 20000 in
theorem la_29_12 {b : Nat} {xs : Nat → Int32} {bc bs : Nat} (e0 : (xs 1).toInt = 12) : ab_Ex b 6 xs g_G g_rs mt_La 10 bc bs 1115 [some (ab_R (ab_sb + 1000)), some (ab_R 0), some (ab_R 107), some (ab_I 0)] [] fw_0 () := by
  refine ex_aload_n de_La_1115 rfl rfl ?_
  refine ex_aload_n de_La_1116 rfl rfl ?_
  refine ex_iload_n de_La_1117 rfl rfl ?_
  refine ex_iconst de_La_1118 ?_
  refine ex_iadd de_La_1119 ?_
  refine ex_top (c := ab_I 1) rfl ?_
  refine ex_sld de_La_1120 (by decide) (by decide) (by decide) e0 ?_
  refine ex_vv (ci := 10) de_La_1121 (xx_count_12) kb_La_139 ⟨im_Tu_count, se_Tu_count⟩ rfl rfl rfl (Nat.le_of_ble_eq_true rfl) (by decide) rfl ?_
  refine ex_aload_n de_La_1124 rfl rfl ?_
  refine ex_aload_n de_La_1125 rfl rfl ?_
  refine ex_iload_n de_La_1126 rfl rfl ?_
  refine ex_iconst de_La_1127 ?_
  refine ex_iadd de_La_1128 ?_
  refine ex_top (c := ab_I 1) rfl ?_
  refine ex_sld de_La_1129 (by decide) (by decide) (by decide) e0 ?_
  refine ex_vv (ci := 11) de_La_1130 (yy_count_12) kb_La_142 ⟨im_Mo_count, se_Mo_count⟩ rfl rfl rfl (Nat.le_of_ble_eq_true rfl) (by decide) rfl ?_
  refine ex_icmp_eq (tgt := 1184) de_La_1133 (by decide) (by decide) (by decide) (fun _ => ?_) (fun h => absurd rfl h)
  exact la_end _
set_option maxRecDepth 20000 in
theorem la_29_13 {b : Nat} {xs : Nat → Int32} {bc bs : Nat} (e0 : (xs 1).toInt = 13) : ab_Ex b 6 xs g_G g_rs mt_La 10 bc bs 1115 [some (ab_R (ab_sb + 1000)), some (ab_R 0), some (ab_R 107), some (ab_I 0)] [] fw_0 () := by
  refine ex_aload_n de_La_1115 rfl rfl ?_
  refine ex_aload_n de_La_1116 rfl rfl ?_
  refine ex_iload_n de_La_1117 rfl rfl ?_
  refine ex_iconst de_La_1118 ?_
  refine ex_iadd de_La_1119 ?_
  refine ex_top (c := ab_I 1) rfl ?_
  refine ex_sld de_La_1120 (by decide) (by decide) (by decide) e0 ?_
  refine ex_vv (ci := 10) de_La_1121 (xx_count_13) kb_La_139 ⟨im_Tu_count, se_Tu_count⟩ rfl rfl rfl (Nat.le_of_ble_eq_true rfl) (by decide) rfl ?_
  refine ex_aload_n de_La_1124 rfl rfl ?_
  refine ex_aload_n de_La_1125 rfl rfl ?_
  refine ex_iload_n de_La_1126 rfl rfl ?_
  refine ex_iconst de_La_1127 ?_
  refine ex_iadd de_La_1128 ?_
  refine ex_top (c := ab_I 1) rfl ?_
  refine ex_sld de_La_1129 (by decide) (by decide) (by decide) e0 ?_
  refine ex_vv (ci := 11) de_La_1130 (yy_count_13) kb_La_142 ⟨im_Mo_count, se_Mo_count⟩ rfl rfl rfl (Nat.le_of_ble_eq_true rfl) (by decide) rfl ?_
  refine ex_icmp_eq (tgt := 1184) de_La_1133 (by decide) (by decide) (by decide) (fun _ => ?_) (fun h => absurd rfl h)
  exact la_end _
set_option maxRecDepth 20000 in
theorem la_29_14 {b : Nat} {xs : Nat → Int32} {bc bs : Nat} (e0 : (xs 1).toInt = 14) : ab_Ex b 6 xs g_G g_rs mt_La 10 bc bs 1115 [some (ab_R (ab_sb + 1000)), some (ab_R 0), some (ab_R 107), some (ab_I 0)] [] fw_0 () := by
  refine ex_aload_n de_La_1115 rfl rfl ?_
  refine ex_aload_n de_La_1116 rfl rfl ?_
  refine ex_iload_n de_La_1117 rfl rfl ?_
  refine ex_iconst de_La_1118 ?_
  refine ex_iadd de_La_1119 ?_
  refine ex_top (c := ab_I 1) rfl ?_
  refine ex_sld de_La_1120 (by decide) (by decide) (by decide) e0 ?_
  refine ex_vv (ci := 10) de_La_1121 (xx_count_14) kb_La_139 ⟨im_Tu_count, se_Tu_count⟩ rfl rfl rfl (Nat.le_of_ble_eq_true rfl) (by decide) rfl ?_
  refine ex_aload_n de_La_1124 rfl rfl ?_
  refine ex_aload_n de_La_1125 rfl rfl ?_
  refine ex_iload_n de_La_1126 rfl rfl ?_
  refine ex_iconst de_La_1127 ?_
  refine ex_iadd de_La_1128 ?_
  refine ex_top (c := ab_I 1) rfl ?_
  refine ex_sld de_La_1129 (by decide) (by decide) (by decide) e0 ?_
  refine ex_vv (ci := 11) de_La_1130 (yy_count_14) kb_La_142 ⟨im_Mo_count, se_Mo_count⟩ rfl rfl rfl (Nat.le_of_ble_eq_true rfl) (by decide) rfl ?_
  refine ex_icmp_eq (tgt := 1184) de_La_1133 (by decide) (by decide) (by decide) (fun _ => ?_) (fun h => absurd rfl h)
  exact la_end _
set_option maxRecDepth 20000 in
theorem la_29_15 {b : Nat} {xs : Nat → Int32} {bc bs : Nat} (v0 : Int) (e0 : (xs 1).toInt = v0) (hv0 : ab_in v0) (hc0 : (v0 ≤ (-1)) ∨ (15 ≤ v0)) : ab_Ex b 6 xs g_G g_rs mt_La 10 bc bs 1115 [some (ab_R (ab_sb + 1000)), some (ab_R 0), some (ab_R 107), some (ab_I 0)] [] fw_0 () := by
  refine ex_aload_n de_La_1115 rfl rfl ?_
  refine ex_aload_n de_La_1116 rfl rfl ?_
  refine ex_iload_n de_La_1117 rfl rfl ?_
  refine ex_iconst de_La_1118 ?_
  refine ex_iadd de_La_1119 ?_
  refine ex_top (c := ab_I 1) rfl ?_
  refine ex_sld de_La_1120 (by decide) (by decide) (by decide) e0 ?_
  refine ex_vv (ci := 10) de_La_1121 (xx_count_15 (v0) (by first | assumption | decide) hc0) kb_La_139 ⟨im_Tu_count, se_Tu_count⟩ rfl rfl rfl (Nat.le_of_ble_eq_true rfl) (by decide) rfl ?_
  refine ex_aload_n de_La_1124 rfl rfl ?_
  refine ex_aload_n de_La_1125 rfl rfl ?_
  refine ex_iload_n de_La_1126 rfl rfl ?_
  refine ex_iconst de_La_1127 ?_
  refine ex_iadd de_La_1128 ?_
  refine ex_top (c := ab_I 1) rfl ?_
  refine ex_sld de_La_1129 (by decide) (by decide) (by decide) e0 ?_
  refine ex_vv (ci := 11) de_La_1130 (yy_count_15 (v0) (by first | assumption | decide) hc0) kb_La_142 ⟨im_Mo_count, se_Mo_count⟩ rfl rfl rfl (Nat.le_of_ble_eq_true rfl) (by decide) rfl ?_
  refine ex_icmp_eq (tgt := 1184) de_La_1133 (by decide) (by decide) (by decide) (fun _ => ?_) (fun h => absurd rfl h)
  exact la_end _
theorem la_op_29 {b : Nat} {xs : Nat → Int32} {bc bs : Nat} : ab_Ex b 6 xs g_G g_rs mt_La 10 bc bs 1115 [some (ab_R (ab_sb + 1000)), some (ab_R 0), some (ab_R 107), some (ab_I 0)] [] fw_0 () := by
  obtain ⟨v0, e0⟩ : ∃ v, (xs 1).toInt = v := ⟨_, rfl⟩
  have hv0 : ab_in v0 := by rw [← e0]; exact ab_toin _
  rcases (by omega : v0 = 0 ∨ v0 = 1 ∨ v0 = 2 ∨ v0 = 3 ∨ v0 = 4 ∨ v0 = 5 ∨ v0 = 6 ∨ v0 = 7 ∨ v0 = 8 ∨ v0 = 9 ∨ v0 = 10 ∨ v0 = 11 ∨ v0 = 12 ∨ v0 = 13 ∨ v0 = 14 ∨ ((v0 ≤ (-1)) ∨ (15 ≤ v0))) with hc0 | hc0 | hc0 | hc0 | hc0 | hc0 | hc0 | hc0 | hc0 | hc0 | hc0 | hc0 | hc0 | hc0 | hc0 | hc0
  · exact la_29_0 (e0.trans hc0) 
  · exact la_29_1 (e0.trans hc0) 
  · exact la_29_2 (e0.trans hc0) 
  · exact la_29_3 (e0.trans hc0) 
  · exact la_29_4 (e0.trans hc0) 
  · exact la_29_5 (e0.trans hc0) 
  · exact la_29_6 (e0.trans hc0) 
  · exact la_29_7 (e0.trans hc0) 
  · exact la_29_8 (e0.trans hc0) 
  · exact la_29_9 (e0.trans hc0) 
  · exact la_29_10 (e0.trans hc0) 
  · exact la_29_11 (e0.trans hc0) 
  · exact la_29_12 (e0.trans hc0) 
  · exact la_29_13 (e0.trans hc0) 
  · exact la_29_14 (e0.trans hc0) 
  · exact la_29_15 v0 e0 hv0 hc0
set_option maxRecDepth 20000 in
theorem la_30_0 {b : Nat} {xs : Nat → Int32} {bc bs : Nat} (e0 : (xs 1).toInt = 0) : ab_Ex b 6 xs g_G g_rs mt_La 10 bc bs 1138 [some (ab_R (ab_sb + 1000)), some (ab_R 0), some (ab_R 107), some (ab_I 0)] [] fw_0 () := by
  refine ex_aload_n de_La_1138 rfl rfl ?_
  refine ex_aload_n de_La_1139 rfl rfl ?_
  refine ex_iload_n de_La_1140 rfl rfl ?_
  refine ex_iconst de_La_1141 ?_
  refine ex_iadd de_La_1142 ?_
  refine ex_top (c := ab_I 1) rfl ?_
  refine ex_sld de_La_1143 (by decide) (by decide) (by decide) e0 ?_
  refine ex_vv (ci := 10) de_La_1144 (xx_image_0) kb_La_143 ⟨im_Tu_image, se_Tu_image⟩ rfl rfl rfl (Nat.le_of_ble_eq_true rfl) (by decide) rfl ?_
  refine ex_aload_n de_La_1147 rfl rfl ?_
  refine ex_aload_n de_La_1148 rfl rfl ?_
  refine ex_iload_n de_La_1149 rfl rfl ?_
  refine ex_iconst de_La_1150 ?_
  refine ex_iadd de_La_1151 ?_
  refine ex_top (c := ab_I 1) rfl ?_
  refine ex_sld de_La_1152 (by decide) (by decide) (by decide) e0 ?_
  refine ex_va (ci := 11) de_La_1153 yy_image_0 kb_La_146 ⟨im_Mo_image, se_Mo_image⟩ rfl rfl rfl (Nat.le_of_ble_eq_true rfl) (by decide) (fun w2 => ?_)
  refine ex_icmp_eq (tgt := 1184) de_La_1156 (by decide) (by decide) (by decide) (fun _ => ?_) (fun h => absurd rfl h)
  exact la_end _
set_option maxRecDepth 20000 in
theorem la_30_1 {b : Nat} {xs : Nat → Int32} {bc bs : Nat} (e0 : (xs 1).toInt = 1) : ab_Ex b 6 xs g_G g_rs mt_La 10 bc bs 1138 [some (ab_R (ab_sb + 1000)), some (ab_R 0), some (ab_R 107), some (ab_I 0)] [] fw_0 () := by
  refine ex_aload_n de_La_1138 rfl rfl ?_
  refine ex_aload_n de_La_1139 rfl rfl ?_
  refine ex_iload_n de_La_1140 rfl rfl ?_
  refine ex_iconst de_La_1141 ?_
  refine ex_iadd de_La_1142 ?_
  refine ex_top (c := ab_I 1) rfl ?_
  refine ex_sld de_La_1143 (by decide) (by decide) (by decide) e0 ?_
  refine ex_vv (ci := 10) de_La_1144 (xx_image_1) kb_La_143 ⟨im_Tu_image, se_Tu_image⟩ rfl rfl rfl (Nat.le_of_ble_eq_true rfl) (by decide) rfl ?_
  refine ex_aload_n de_La_1147 rfl rfl ?_
  refine ex_aload_n de_La_1148 rfl rfl ?_
  refine ex_iload_n de_La_1149 rfl rfl ?_
  refine ex_iconst de_La_1150 ?_
  refine ex_iadd de_La_1151 ?_
  refine ex_top (c := ab_I 1) rfl ?_
  refine ex_sld de_La_1152 (by decide) (by decide) (by decide) e0 ?_
  refine ex_va (ci := 11) de_La_1153 yy_image_1 kb_La_146 ⟨im_Mo_image, se_Mo_image⟩ rfl rfl rfl (Nat.le_of_ble_eq_true rfl) (by decide) (fun w2 => ?_)
  refine ex_icmp_eq (tgt := 1184) de_La_1156 (by decide) (by decide) (by decide) (fun _ => ?_) (fun h => absurd rfl h)
  exact la_end _
set_option maxRecDepth 20000 in
theorem la_30_2 {b : Nat} {xs : Nat → Int32} {bc bs : Nat} (e0 : (xs 1).toInt = 2) : ab_Ex b 6 xs g_G g_rs mt_La 10 bc bs 1138 [some (ab_R (ab_sb + 1000)), some (ab_R 0), some (ab_R 107), some (ab_I 0)] [] fw_0 () := by
  refine ex_aload_n de_La_1138 rfl rfl ?_
  refine ex_aload_n de_La_1139 rfl rfl ?_
  refine ex_iload_n de_La_1140 rfl rfl ?_
  refine ex_iconst de_La_1141 ?_
  refine ex_iadd de_La_1142 ?_
  refine ex_top (c := ab_I 1) rfl ?_
  refine ex_sld de_La_1143 (by decide) (by decide) (by decide) e0 ?_
  refine ex_vv (ci := 10) de_La_1144 (xx_image_2) kb_La_143 ⟨im_Tu_image, se_Tu_image⟩ rfl rfl rfl (Nat.le_of_ble_eq_true rfl) (by decide) rfl ?_
  refine ex_aload_n de_La_1147 rfl rfl ?_
  refine ex_aload_n de_La_1148 rfl rfl ?_
  refine ex_iload_n de_La_1149 rfl rfl ?_
  refine ex_iconst de_La_1150 ?_
  refine ex_iadd de_La_1151 ?_
  refine ex_top (c := ab_I 1) rfl ?_
  refine ex_sld de_La_1152 (by decide) (by decide) (by decide) e0 ?_
  refine ex_va (ci := 11) de_La_1153 yy_image_2 kb_La_146 ⟨im_Mo_image, se_Mo_image⟩ rfl rfl rfl (Nat.le_of_ble_eq_true rfl) (by decide) (fun w2 => ?_)
  refine ex_icmp_eq (tgt := 1184) de_La_1156 (by decide) (by decide) (by decide) (fun _ => ?_) (fun h => absurd rfl h)
  exact la_end _
set_option maxRecDepth 20000 in
theorem la_30_3 {b : Nat} {xs : Nat → Int32} {bc bs : Nat} (e0 : (xs 1).toInt = 3) : ab_Ex b 6 xs g_G g_rs mt_La 10 bc bs 1138 [some (ab_R (ab_sb + 1000)), some (ab_R 0), some (ab_R 107), some (ab_I 0)] [] fw_0 () := by
  refine ex_aload_n de_La_1138 rfl rfl ?_
  refine ex_aload_n de_La_1139 rfl rfl ?_
  refine ex_iload_n de_La_1140 rfl rfl ?_
  refine ex_iconst de_La_1141 ?_
  refine ex_iadd de_La_1142 ?_
  refine ex_top (c := ab_I 1) rfl ?_
  refine ex_sld de_La_1143 (by decide) (by decide) (by decide) e0 ?_
  refine ex_vv (ci := 10) de_La_1144 (xx_image_3) kb_La_143 ⟨im_Tu_image, se_Tu_image⟩ rfl rfl rfl (Nat.le_of_ble_eq_true rfl) (by decide) rfl ?_
  refine ex_aload_n de_La_1147 rfl rfl ?_
  refine ex_aload_n de_La_1148 rfl rfl ?_
  refine ex_iload_n de_La_1149 rfl rfl ?_
  refine ex_iconst de_La_1150 ?_
  refine ex_iadd de_La_1151 ?_
  refine ex_top (c := ab_I 1) rfl ?_
  refine ex_sld de_La_1152 (by decide) (by decide) (by decide) e0 ?_
  refine ex_va (ci := 11) de_La_1153 yy_image_3 kb_La_146 ⟨im_Mo_image, se_Mo_image⟩ rfl rfl rfl (Nat.le_of_ble_eq_true rfl) (by decide) (fun w2 => ?_)
  refine ex_icmp_eq (tgt := 1184) de_La_1156 (by decide) (by decide) (by decide) (fun _ => ?_) (fun h => absurd rfl h)
  exact la_end _
set_option maxRecDepth 20000 in
theorem la_30_4 {b : Nat} {xs : Nat → Int32} {bc bs : Nat} (v0 : Int) (e0 : (xs 1).toInt = v0) (hv0 : ab_in v0) (hc0 : (v0 ≤ (-1)) ∨ (4 ≤ v0)) : ab_Ex b 6 xs g_G g_rs mt_La 10 bc bs 1138 [some (ab_R (ab_sb + 1000)), some (ab_R 0), some (ab_R 107), some (ab_I 0)] [] fw_0 () := by
  refine ex_aload_n de_La_1138 rfl rfl ?_
  refine ex_aload_n de_La_1139 rfl rfl ?_
  refine ex_iload_n de_La_1140 rfl rfl ?_
  refine ex_iconst de_La_1141 ?_
  refine ex_iadd de_La_1142 ?_
  refine ex_top (c := ab_I 1) rfl ?_
  refine ex_sld de_La_1143 (by decide) (by decide) (by decide) e0 ?_
  refine ex_vv (ci := 10) de_La_1144 (xx_image_4 (v0) (by first | assumption | decide) hc0) kb_La_143 ⟨im_Tu_image, se_Tu_image⟩ rfl rfl rfl (Nat.le_of_ble_eq_true rfl) (by decide) rfl ?_
  refine ex_aload_n de_La_1147 rfl rfl ?_
  refine ex_aload_n de_La_1148 rfl rfl ?_
  refine ex_iload_n de_La_1149 rfl rfl ?_
  refine ex_iconst de_La_1150 ?_
  refine ex_iadd de_La_1151 ?_
  refine ex_top (c := ab_I 1) rfl ?_
  refine ex_sld de_La_1152 (by decide) (by decide) (by decide) e0 ?_
  refine ex_vv (ci := 11) de_La_1153 (yy_image_4 (v0) (by first | assumption | decide) hc0) kb_La_146 ⟨im_Mo_image, se_Mo_image⟩ rfl rfl rfl (Nat.le_of_ble_eq_true rfl) (by decide) rfl ?_
  refine ex_icmp_eq (tgt := 1184) de_La_1156 (by decide) (by decide) (by decide) (fun _ => ?_) (fun h => absurd rfl h)
  exact la_end _
theorem la_op_30 {b : Nat} {xs : Nat → Int32} {bc bs : Nat} : ab_Ex b 6 xs g_G g_rs mt_La 10 bc bs 1138 [some (ab_R (ab_sb + 1000)), some (ab_R 0), some (ab_R 107), some (ab_I 0)] [] fw_0 () := by
  obtain ⟨v0, e0⟩ : ∃ v, (xs 1).toInt = v := ⟨_, rfl⟩
  have hv0 : ab_in v0 := by rw [← e0]; exact ab_toin _
  rcases (by omega : v0 = 0 ∨ v0 = 1 ∨ v0 = 2 ∨ v0 = 3 ∨ ((v0 ≤ (-1)) ∨ (4 ≤ v0))) with hc0 | hc0 | hc0 | hc0 | hc0
  · exact la_30_0 (e0.trans hc0) 
  · exact la_30_1 (e0.trans hc0) 
  · exact la_30_2 (e0.trans hc0) 
  · exact la_30_3 (e0.trans hc0) 
  · exact la_30_4 v0 e0 hv0 hc0
set_option maxRecDepth 20000 in
theorem la_31_0 {b : Nat} {xs : Nat → Int32} {bc bs : Nat} (e0 : (xs 1).toInt = 0) : ab_Ex b 6 xs g_G g_rs mt_La 10 bc bs 1161 [some (ab_R (ab_sb + 1000)), some (ab_R 0), some (ab_R 107), some (ab_I 0)] [] fw_0 () := by
  refine ex_aload_n de_La_1161 rfl rfl ?_
  refine ex_aload_n de_La_1162 rfl rfl ?_
  refine ex_iload_n de_La_1163 rfl rfl ?_
  refine ex_iconst de_La_1164 ?_
  refine ex_iadd de_La_1165 ?_
  refine ex_top (c := ab_I 1) rfl ?_
  refine ex_sld de_La_1166 (by decide) (by decide) (by decide) e0 ?_
  refine ex_vv (ci := 10) de_La_1167 (xx_back_0) kb_La_147 ⟨im_Tu_back, se_Tu_back⟩ rfl rfl rfl (Nat.le_of_ble_eq_true rfl) (by decide) rfl ?_
  refine ex_aload_n de_La_1170 rfl rfl ?_
  refine ex_aload_n de_La_1171 rfl rfl ?_
  refine ex_iload_n de_La_1172 rfl rfl ?_
  refine ex_iconst de_La_1173 ?_
  refine ex_iadd de_La_1174 ?_
  refine ex_top (c := ab_I 1) rfl ?_
  refine ex_sld de_La_1175 (by decide) (by decide) (by decide) e0 ?_
  refine ex_vv (ci := 11) de_La_1176 (yy_back_0) kb_La_150 ⟨im_Mo_back, se_Mo_back⟩ rfl rfl rfl (Nat.le_of_ble_eq_true rfl) (by decide) rfl ?_
  refine ex_icmp_eq (tgt := 1184) de_La_1179 (by decide) (by decide) (by decide) (fun _ => ?_) (fun h => absurd rfl h)
  exact la_end _
set_option maxRecDepth 20000 in
theorem la_31_1 {b : Nat} {xs : Nat → Int32} {bc bs : Nat} (e0 : (xs 1).toInt = 1) : ab_Ex b 6 xs g_G g_rs mt_La 10 bc bs 1161 [some (ab_R (ab_sb + 1000)), some (ab_R 0), some (ab_R 107), some (ab_I 0)] [] fw_0 () := by
  refine ex_aload_n de_La_1161 rfl rfl ?_
  refine ex_aload_n de_La_1162 rfl rfl ?_
  refine ex_iload_n de_La_1163 rfl rfl ?_
  refine ex_iconst de_La_1164 ?_
  refine ex_iadd de_La_1165 ?_
  refine ex_top (c := ab_I 1) rfl ?_
  refine ex_sld de_La_1166 (by decide) (by decide) (by decide) e0 ?_
  refine ex_vv (ci := 10) de_La_1167 (xx_back_1) kb_La_147 ⟨im_Tu_back, se_Tu_back⟩ rfl rfl rfl (Nat.le_of_ble_eq_true rfl) (by decide) rfl ?_
  refine ex_aload_n de_La_1170 rfl rfl ?_
  refine ex_aload_n de_La_1171 rfl rfl ?_
  refine ex_iload_n de_La_1172 rfl rfl ?_
  refine ex_iconst de_La_1173 ?_
  refine ex_iadd de_La_1174 ?_
  refine ex_top (c := ab_I 1) rfl ?_
  refine ex_sld de_La_1175 (by decide) (by decide) (by decide) e0 ?_
  refine ex_vv (ci := 11) de_La_1176 (yy_back_1) kb_La_150 ⟨im_Mo_back, se_Mo_back⟩ rfl rfl rfl (Nat.le_of_ble_eq_true rfl) (by decide) rfl ?_
  refine ex_icmp_eq (tgt := 1184) de_La_1179 (by decide) (by decide) (by decide) (fun _ => ?_) (fun h => absurd rfl h)
  exact la_end _
set_option maxRecDepth 20000 in
theorem la_31_2 {b : Nat} {xs : Nat → Int32} {bc bs : Nat} (e0 : (xs 1).toInt = 2) : ab_Ex b 6 xs g_G g_rs mt_La 10 bc bs 1161 [some (ab_R (ab_sb + 1000)), some (ab_R 0), some (ab_R 107), some (ab_I 0)] [] fw_0 () := by
  refine ex_aload_n de_La_1161 rfl rfl ?_
  refine ex_aload_n de_La_1162 rfl rfl ?_
  refine ex_iload_n de_La_1163 rfl rfl ?_
  refine ex_iconst de_La_1164 ?_
  refine ex_iadd de_La_1165 ?_
  refine ex_top (c := ab_I 1) rfl ?_
  refine ex_sld de_La_1166 (by decide) (by decide) (by decide) e0 ?_
  refine ex_vv (ci := 10) de_La_1167 (xx_back_2) kb_La_147 ⟨im_Tu_back, se_Tu_back⟩ rfl rfl rfl (Nat.le_of_ble_eq_true rfl) (by decide) rfl ?_
  refine ex_aload_n de_La_1170 rfl rfl ?_
  refine ex_aload_n de_La_1171 rfl rfl ?_
  refine ex_iload_n de_La_1172 rfl rfl ?_
  refine ex_iconst de_La_1173 ?_
  refine ex_iadd de_La_1174 ?_
  refine ex_top (c := ab_I 1) rfl ?_
  refine ex_sld de_La_1175 (by decide) (by decide) (by decide) e0 ?_
  refine ex_vv (ci := 11) de_La_1176 (yy_back_2) kb_La_150 ⟨im_Mo_back, se_Mo_back⟩ rfl rfl rfl (Nat.le_of_ble_eq_true rfl) (by decide) rfl ?_
  refine ex_icmp_eq (tgt := 1184) de_La_1179 (by decide) (by decide) (by decide) (fun _ => ?_) (fun h => absurd rfl h)
  exact la_end _
set_option maxRecDepth 20000 in
theorem la_31_3 {b : Nat} {xs : Nat → Int32} {bc bs : Nat} (e0 : (xs 1).toInt = 3) : ab_Ex b 6 xs g_G g_rs mt_La 10 bc bs 1161 [some (ab_R (ab_sb + 1000)), some (ab_R 0), some (ab_R 107), some (ab_I 0)] [] fw_0 () := by
  refine ex_aload_n de_La_1161 rfl rfl ?_
  refine ex_aload_n de_La_1162 rfl rfl ?_
  refine ex_iload_n de_La_1163 rfl rfl ?_
  refine ex_iconst de_La_1164 ?_
  refine ex_iadd de_La_1165 ?_
  refine ex_top (c := ab_I 1) rfl ?_
  refine ex_sld de_La_1166 (by decide) (by decide) (by decide) e0 ?_
  refine ex_vv (ci := 10) de_La_1167 (xx_back_3) kb_La_147 ⟨im_Tu_back, se_Tu_back⟩ rfl rfl rfl (Nat.le_of_ble_eq_true rfl) (by decide) rfl ?_
  refine ex_aload_n de_La_1170 rfl rfl ?_
  refine ex_aload_n de_La_1171 rfl rfl ?_
  refine ex_iload_n de_La_1172 rfl rfl ?_
  refine ex_iconst de_La_1173 ?_
  refine ex_iadd de_La_1174 ?_
  refine ex_top (c := ab_I 1) rfl ?_
  refine ex_sld de_La_1175 (by decide) (by decide) (by decide) e0 ?_
  refine ex_vv (ci := 11) de_La_1176 (yy_back_3) kb_La_150 ⟨im_Mo_back, se_Mo_back⟩ rfl rfl rfl (Nat.le_of_ble_eq_true rfl) (by decide) rfl ?_
  refine ex_icmp_eq (tgt := 1184) de_La_1179 (by decide) (by decide) (by decide) (fun _ => ?_) (fun h => absurd rfl h)
  exact la_end _
set_option maxRecDepth 20000 in
theorem la_31_4 {b : Nat} {xs : Nat → Int32} {bc bs : Nat} (v0 : Int) (e0 : (xs 1).toInt = v0) (hv0 : ab_in v0) (hc0 : (v0 ≤ (-1)) ∨ (4 ≤ v0)) : ab_Ex b 6 xs g_G g_rs mt_La 10 bc bs 1161 [some (ab_R (ab_sb + 1000)), some (ab_R 0), some (ab_R 107), some (ab_I 0)] [] fw_0 () := by
  refine ex_aload_n de_La_1161 rfl rfl ?_
  refine ex_aload_n de_La_1162 rfl rfl ?_
  refine ex_iload_n de_La_1163 rfl rfl ?_
  refine ex_iconst de_La_1164 ?_
  refine ex_iadd de_La_1165 ?_
  refine ex_top (c := ab_I 1) rfl ?_
  refine ex_sld de_La_1166 (by decide) (by decide) (by decide) e0 ?_
  refine ex_vv (ci := 10) de_La_1167 (xx_back_4 (v0) (by first | assumption | decide) hc0) kb_La_147 ⟨im_Tu_back, se_Tu_back⟩ rfl rfl rfl (Nat.le_of_ble_eq_true rfl) (by decide) rfl ?_
  refine ex_aload_n de_La_1170 rfl rfl ?_
  refine ex_aload_n de_La_1171 rfl rfl ?_
  refine ex_iload_n de_La_1172 rfl rfl ?_
  refine ex_iconst de_La_1173 ?_
  refine ex_iadd de_La_1174 ?_
  refine ex_top (c := ab_I 1) rfl ?_
  refine ex_sld de_La_1175 (by decide) (by decide) (by decide) e0 ?_
  refine ex_vv (ci := 11) de_La_1176 (yy_back_4 (v0) (by first | assumption | decide) hc0) kb_La_150 ⟨im_Mo_back, se_Mo_back⟩ rfl rfl rfl (Nat.le_of_ble_eq_true rfl) (by decide) rfl ?_
  refine ex_icmp_eq (tgt := 1184) de_La_1179 (by decide) (by decide) (by decide) (fun _ => ?_) (fun h => absurd rfl h)
  exact la_end _
theorem la_op_31 {b : Nat} {xs : Nat → Int32} {bc bs : Nat} : ab_Ex b 6 xs g_G g_rs mt_La 10 bc bs 1161 [some (ab_R (ab_sb + 1000)), some (ab_R 0), some (ab_R 107), some (ab_I 0)] [] fw_0 () := by
  obtain ⟨v0, e0⟩ : ∃ v, (xs 1).toInt = v := ⟨_, rfl⟩
  have hv0 : ab_in v0 := by rw [← e0]; exact ab_toin _
  rcases (by omega : v0 = 0 ∨ v0 = 1 ∨ v0 = 2 ∨ v0 = 3 ∨ ((v0 ≤ (-1)) ∨ (4 ≤ v0))) with hc0 | hc0 | hc0 | hc0 | hc0
  · exact la_31_0 (e0.trans hc0) 
  · exact la_31_1 (e0.trans hc0) 
  · exact la_31_2 (e0.trans hc0) 
  · exact la_31_3 (e0.trans hc0) 
  · exact la_31_4 v0 e0 hv0 hc0
set_option maxRecDepth 20000 in
theorem la_head {b L : Nat} {xs : Nat → Int32} {bc bs : Nat} (hL : L ≤ 6) : ab_Ex b L xs g_G g_rs mt_La 10 bc bs 18 [some (ab_R (ab_sb + 1000)), some (ab_R 0), some (ab_R 107), some (ab_I 0)] [] fw_0 () := by
  refine ex_iload_n de_La_18 rfl rfl ?_
  refine ex_aload_n de_La_19 rfl rfl ?_
  refine ex_slen de_La_20 ?_
  refine ex_bipush de_La_21 rfl ?_
  refine ex_isub de_La_23 ?_
  refine ex_icmp_gt (tgt := 1190) de_La_24 (by decide) (by decide) (by omega) (fun _ => ?_) (fun h24 => ?_)
  · exact la_out
  · have e : L = 6 := by omega
    subst e
    obtain ⟨a0, e0⟩ : ∃ v, (xs 0).toInt = v := ⟨_, rfl⟩
    refine ex_aload_n de_La_27 rfl rfl ?_
    refine ex_iload_n de_La_28 rfl rfl ?_
    refine ex_sld de_La_29 (by decide) (by decide) (by decide) e0 ?_
    refine ex_bipush de_La_30 rfl ?_
    refine ex_iand de_La_32 ?_
    have q := la_and a0
    generalize ab_iand a0 31 = k at q ⊢
    rcases (by omega : k = 0 ∨ k = 1 ∨ k = 2 ∨ k = 3 ∨ k = 4 ∨ k = 5 ∨ k = 6 ∨ k = 7 ∨ k = 8 ∨ k = 9 ∨ k = 10 ∨ k = 11 ∨ k = 12 ∨ k = 13 ∨ k = 14 ∨ k = 15 ∨ k = 16 ∨ k = 17 ∨ k = 18 ∨ k = 19 ∨ k = 20 ∨ k = 21 ∨ k = 22 ∨ k = 23 ∨ k = 24 ∨ k = 25 ∨ k = 26 ∨ k = 27 ∨ k = 28 ∨ k = 29 ∨ k = 30 ∨ k = 31) with c | c | c | c | c | c | c | c | c | c | c | c | c | c | c | c | c | c | c | c | c | c | c | c | c | c | c | c | c | c | c | c
    · subst c
      exact ex_tableIn (off := 143) (tgt := 176) de_La_33 (by decide) (by decide) (by decide) rfl (by decide) la_op_0
    · subst c
      exact ex_tableIn (off := 206) (tgt := 239) de_La_33 (by decide) (by decide) (by decide) rfl (by decide) la_op_1
    · subst c
      exact ex_tableIn (off := 229) (tgt := 262) de_La_33 (by decide) (by decide) (by decide) rfl (by decide) la_op_2
    · subst c
      exact ex_tableIn (off := 242) (tgt := 275) de_La_33 (by decide) (by decide) (by decide) rfl (by decide) la_op_3
    · subst c
      exact ex_tableIn (off := 255) (tgt := 288) de_La_33 (by decide) (by decide) (by decide) rfl (by decide) la_op_4
    · subst c
      exact ex_tableIn (off := 288) (tgt := 321) de_La_33 (by decide) (by decide) (by decide) rfl (by decide) la_op_5
    · subst c
      exact ex_tableIn (off := 321) (tgt := 354) de_La_33 (by decide) (by decide) (by decide) rfl (by decide) la_op_6
    · subst c
      exact ex_tableIn (off := 344) (tgt := 377) de_La_33 (by decide) (by decide) (by decide) rfl (by decide) la_op_7
    · subst c
      exact ex_tableIn (off := 367) (tgt := 400) de_La_33 (by decide) (by decide) (by decide) rfl (by decide) la_op_8
    · subst c
      exact ex_tableIn (off := 380) (tgt := 413) de_La_33 (by decide) (by decide) (by decide) rfl (by decide) la_op_9
    · subst c
      exact ex_tableIn (off := 413) (tgt := 446) de_La_33 (by decide) (by decide) (by decide) rfl (by decide) la_op_10
    · subst c
      exact ex_tableIn (off := 446) (tgt := 479) de_La_33 (by decide) (by decide) (by decide) rfl (by decide) la_op_11
    · subst c
      exact ex_tableIn (off := 459) (tgt := 492) de_La_33 (by decide) (by decide) (by decide) rfl (by decide) la_op_12
    · subst c
      exact ex_tableIn (off := 472) (tgt := 505) de_La_33 (by decide) (by decide) (by decide) rfl (by decide) la_op_13
    · subst c
      exact ex_tableIn (off := 505) (tgt := 538) de_La_33 (by decide) (by decide) (by decide) rfl (by decide) la_op_14
    · subst c
      exact ex_tableIn (off := 538) (tgt := 571) de_La_33 (by decide) (by decide) (by decide) rfl (by decide) la_op_15
    · subst c
      exact ex_tableIn (off := 571) (tgt := 604) de_La_33 (by decide) (by decide) (by decide) rfl (by decide) la_op_16
    · subst c
      exact ex_tableIn (off := 594) (tgt := 627) de_La_33 (by decide) (by decide) (by decide) rfl (by decide) la_op_17
    · subst c
      exact ex_tableIn (off := 653) (tgt := 686) de_La_33 (by decide) (by decide) (by decide) rfl (by decide) la_op_18
    · subst c
      exact ex_tableIn (off := 706) (tgt := 739) de_La_33 (by decide) (by decide) (by decide) rfl (by decide) la_op_19
    · subst c
      exact ex_tableIn (off := 729) (tgt := 762) de_La_33 (by decide) (by decide) (by decide) rfl (by decide) la_op_20
    · subst c
      exact ex_tableIn (off := 752) (tgt := 785) de_La_33 (by decide) (by decide) (by decide) rfl (by decide) la_op_21
    · subst c
      exact ex_tableIn (off := 775) (tgt := 808) de_La_33 (by decide) (by decide) (by decide) rfl (by decide) la_op_22
    · subst c
      exact ex_tableIn (off := 818) (tgt := 851) de_La_33 (by decide) (by decide) (by decide) rfl (by decide) la_op_23
    · subst c
      exact ex_tableIn (off := 881) (tgt := 914) de_La_33 (by decide) (by decide) (by decide) rfl (by decide) la_op_24
    · subst c
      exact ex_tableIn (off := 950) (tgt := 983) de_La_33 (by decide) (by decide) (by decide) rfl (by decide) la_op_25
    · subst c
      exact ex_tableIn (off := 973) (tgt := 1006) de_La_33 (by decide) (by decide) (by decide) rfl (by decide) la_op_26
    · subst c
      exact ex_tableIn (off := 1006) (tgt := 1039) de_La_33 (by decide) (by decide) (by decide) rfl (by decide) la_op_27
    · subst c
      exact ex_tableIn (off := 1029) (tgt := 1062) de_La_33 (by decide) (by decide) (by decide) rfl (by decide) la_op_28
    · subst c
      exact ex_tableIn (off := 1082) (tgt := 1115) de_La_33 (by decide) (by decide) (by decide) rfl (by decide) la_op_29
    · subst c
      exact ex_tableIn (off := 1105) (tgt := 1138) de_La_33 (by decide) (by decide) (by decide) rfl (by decide) la_op_30
    · subst c
      exact ex_tableIn (off := 1128) (tgt := 1161) de_La_33 (by decide) (by decide) (by decide) rfl (by decide) la_op_31
set_option maxRecDepth 20000 in
theorem la_start {b L : Nat} {xs : Nat → Int32} (hL : L ≤ 6) : ab_Ex b L xs g_G g_rs mt_La 10 129 8622 0 [some (ab_R (ab_sb + 1000)), none, none, none] [] [] () := by
  refine ex_new (N := 13) (bc := 128) (bs := 8609) de_La_0 nw_La_7 (Nat.le_of_ble_eq_true rfl) (ab_okW_of rfl) (ab_okS_of rfl) (ab_okL_of rfl) (ab_okS_of rfl) ?_
  refine ex_top (c := ab_R 0) rfl ?_
  refine ex_world (w' := fw_a) rfl ?_
  refine ex_dup de_La_3 rfl ?_
  refine ex_xn (bc := 22) (bs := 6014) de_La_4 co_Tu_init kb_La_9 ⟨im_Tu_init, rfl, rfl⟩ rfl (Nat.le_of_ble_eq_true rfl) (by decide) (ab_okL_of rfl) (ab_okS_of rfl) ?_
  refine ex_astore_n (l' := [_, _, _, _]) de_La_7 rfl (Nat.le_of_ble_eq_true rfl) rfl ?_
  refine ex_new (N := 37) (bc := 21) (bs := 5977) de_La_8 nw_La_10 (Nat.le_of_ble_eq_true rfl) (ab_okW_r (by decide +kernel) rfl (ab_all2 (ab_okru (by decide) (ab_okru (by decide) (ab_okru (by decide) (ab_okru (by decide) ab_okr0)))) ab_okr0)) (ab_okS_of rfl) (ab_okL_of rfl) (ab_okS_of rfl) ?_
  refine ex_top (c := ab_R 107) rfl ?_
  refine ex_world (w' := fw_b) rfl ?_
  refine ex_dup de_La_11 rfl ?_
  refine ex_xn (bc := 0) (bs := 0) de_La_12 co_Mo_init kb_La_12 ⟨im_Mo_init, rfl, rfl⟩ rfl (Nat.le_of_ble_eq_true rfl) (by decide) (ab_okL_of rfl) (ab_okS_of rfl) ?_
  refine ex_world (w' := fw_0) rfl ?_
  refine ex_astore_n (l' := [_, _, _, _]) de_La_15 rfl (Nat.le_of_ble_eq_true rfl) rfl ?_
  refine ex_iconst de_La_16 ?_
  refine ex_istore_n (l' := [_, _, _, _]) de_La_17 rfl (Nat.le_of_ble_eq_true rfl) rfl ?_
  exact la_head hL
