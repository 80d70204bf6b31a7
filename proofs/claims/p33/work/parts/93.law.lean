theorem la_okL {n : Nat} {i : Int} (h : 108 ≤ n) : ab_okL n [some (ab_R (ab_sb + 1000)), some (ab_R 0), some (ab_R 107), some (ab_I i)] := by
  intro k v hk
  match k with
  | 0 => cases hk; exact Or.inr (Nat.le_add_right _ _)
  | 1 => cases hk; exact Or.inl (by omega)
  | 2 => cases hk; exact Or.inl (by omega)
  | 3 => cases hk; trivial
  | k + 4 => cases hk
theorem la_and (a : Int) : 0 ≤ ab_iand a 31 ∧ ab_iand a 31 ≤ 31 := (tm_iand_b a 31).2.2 (by decide) (by decide)
theorem la_out {b L : Nat} {xs : Nat → Int32} {bc bs : Nat} {l : ab_L} {w : ab_W} : ab_Ex b L xs g_G g_rs mt_La 40 bc bs 1190 l [] w () := by
  refine ex_iconst de_La_1190 ?_
  exact ex_ireturn de_La_1191
set_option maxHeartbeats 4000000 in
set_option maxRecDepth 20000 in
theorem la_0 {b L : Nat} {xs : Nat → Int32} {bc bs : Nat} {i c : Int} {w : ab_W} (hc0 : 0 ≤ c) (hc1 : c ≤ 1000) (h : lj_I c w) (hi : 0 ≤ i) (h6 : i + 6 ≤ L) (hL : L ≤ 3072) (K : ∀ w2, lj_I (c + 1) w2 → ab_Ex b L xs g_G g_rs mt_La 40 bc bs 1184 [some (ab_R (ab_sb + 1000)), some (ab_R 0), some (ab_R 107), some (ab_I i)] [] w2 ()) : ab_Ex b L xs g_G g_rs mt_La 40 (bc + 2) (bs + 401) 176 [some (ab_R (ab_sb + 1000)), some (ab_R 0), some (ab_R 107), some (ab_I i)] [] w () := by
  obtain ⟨S, wm, hci, hmi⟩ := h
  refine ex_room (bc := bc + 0) (bs := bs + 0) (by omega) (by omega) ?_
  obtain ⟨v1, e1⟩ : ∃ v, (xs (i + 1).toNat).toInt = v := ⟨_, rfl⟩
  have hv1 : ab_in v1 := by rw [← e1]; exact ab_toin _
  obtain ⟨v2, e2⟩ : ∃ v, (xs (i + 2).toNat).toInt = v := ⟨_, rfl⟩
  have hv2 : ab_in v2 := by rw [← e2]; exact ab_toin _
  obtain ⟨v3, e3⟩ : ∃ v, (xs (i + 3).toNat).toInt = v := ⟨_, rfl⟩
  have hv3 : ab_in v3 := by rw [← e3]; exact ab_toin _
  obtain ⟨v4, e4⟩ : ∃ v, (xs (i + 4).toNat).toInt = v := ⟨_, rfl⟩
  have hv4 : ab_in v4 := by rw [← e4]; exact ab_toin _
  obtain ⟨v5, e5⟩ : ∃ v, (xs (i + 5).toNat).toInt = v := ⟨_, rfl⟩
  have hv5 : ab_in v5 := by rw [← e5]; exact ab_toin _
  refine ex_aload_n de_La_176 rfl rfl ?_
  refine ex_aload_n de_La_177 rfl rfl ?_
  refine ex_iload_n de_La_178 rfl rfl ?_
  refine ex_iconst de_La_179 ?_
  refine ex_iadd de_La_180 ?_
  refine ex_sld de_La_181 (by omega) (by omega) (by omega) e1 ?_
  refine ex_aload_n de_La_182 rfl rfl ?_
  refine ex_iload_n de_La_183 rfl rfl ?_
  refine ex_iconst de_La_184 ?_
  refine ex_iadd de_La_185 ?_
  refine ex_sld de_La_186 (by omega) (by omega) (by omega) e2 ?_
  refine ex_aload_n de_La_187 rfl rfl ?_
  refine ex_iload_n de_La_188 rfl rfl ?_
  refine ex_iconst de_La_189 ?_
  refine ex_iadd de_La_190 ?_
  refine ex_sld de_La_191 (by omega) (by omega) (by omega) e3 ?_
  refine ex_aload_n de_La_192 rfl rfl ?_
  refine ex_iload_n de_La_193 rfl rfl ?_
  refine ex_iconst de_La_194 ?_
  refine ex_iadd de_La_195 ?_
  refine ex_sld de_La_196 (by omega) (by omega) (by omega) e4 ?_
  refine ex_aload_n de_La_197 rfl rfl ?_
  refine ex_iload_n de_La_198 rfl rfl ?_
  refine ex_iconst de_La_199 ?_
  refine ex_iadd de_La_200 ?_
  refine ex_sld de_La_201 (by omega) (by omega) (by omega) e5 ?_
  obtain ⟨fs0, ho0⟩ := cy_obj hci
  have hln := cy_len hci
  refine ex_virtual (ci := 10) (bc := bc) (bs := bs) de_La_202 (cy_feed hci (my_ok hmi) hc1 v1 hv1 v2 hv2 v3 hv3 v4 hv4 v5 hv5) kb_La_13 ⟨im_Tu_feed, se_Tu_feed⟩ rfl ho0 rfl (Nat.le_of_ble_eq_true rfl) (by decide) (Or.inr ⟨la_okL (by omega), ab_okS_n⟩) (fun r1 w1 hq1 => ?_)
  obtain ⟨rfl, hci⟩ := hq1
  refine ex_pop de_La_205 rfl ?_
  refine ex_aload_n de_La_206 rfl rfl ?_
  refine ex_aload_n de_La_207 rfl rfl ?_
  refine ex_iload_n de_La_208 rfl rfl ?_
  refine ex_iconst de_La_209 ?_
  refine ex_iadd de_La_210 ?_
  refine ex_sld de_La_211 (by omega) (by omega) (by omega) e1 ?_
  refine ex_aload_n de_La_212 rfl rfl ?_
  refine ex_iload_n de_La_213 rfl rfl ?_
  refine ex_iconst de_La_214 ?_
  refine ex_iadd de_La_215 ?_
  refine ex_sld de_La_216 (by omega) (by omega) (by omega) e2 ?_
  refine ex_aload_n de_La_217 rfl rfl ?_
  refine ex_iload_n de_La_218 rfl rfl ?_
  refine ex_iconst de_La_219 ?_
  refine ex_iadd de_La_220 ?_
  refine ex_sld de_La_221 (by omega) (by omega) (by omega) e3 ?_
  refine ex_aload_n de_La_222 rfl rfl ?_
  refine ex_iload_n de_La_223 rfl rfl ?_
  refine ex_iconst de_La_224 ?_
  refine ex_iadd de_La_225 ?_
  refine ex_sld de_La_226 (by omega) (by omega) (by omega) e4 ?_
  refine ex_aload_n de_La_227 rfl rfl ?_
  refine ex_iload_n de_La_228 rfl rfl ?_
  refine ex_iconst de_La_229 ?_
  refine ex_iadd de_La_230 ?_
  refine ex_sld de_La_231 (by omega) (by omega) (by omega) e5 ?_
  obtain ⟨fs1, ho1⟩ := lj_obj hmi hci
  have hln1 := cy_len hci
  refine ex_virtual (ci := 11) (mc := 0) (ms := 0) de_La_232 (lj_mod (R := fun r => r = some (ab_I (fa_feed S))) (my_feed hc0 hc1 hmi v1 hv1 v2 hv2 v3 hv3 v4 hv4 v5 hv5) (fun r h => ⟨_, h⟩) (by intro v hv; simp only [List.mem_cons, List.not_mem_nil, or_false] at hv; rcases hv with rfl | rfl | rfl | rfl | rfl <;> exact ⟨_, rfl⟩) hmi hci) kb_La_17 ⟨im_Mo_feed, se_Mo_feed⟩ rfl ho1 rfl (Nat.le_of_ble_eq_true rfl) (by decide) (Or.inr ⟨la_okL (by omega), ab_okS_n⟩) (fun r2 w2 hq2 => ?_)
  obtain ⟨rfl, hL3⟩ := hq2
  refine ex_pop de_La_235 rfl ?_
  refine ex_goto (tgt := 1184) de_La_236 (by decide) ?_
  exact K _ hL3
set_option maxHeartbeats 4000000 in
set_option maxRecDepth 20000 in
theorem la_1 {b L : Nat} {xs : Nat → Int32} {bc bs : Nat} {i c : Int} {w : ab_W} (hc0 : 0 ≤ c) (hc1 : c ≤ 1000) (h : lj_I c w) (hi : 0 ≤ i) (h6 : i + 6 ≤ L) (hL : L ≤ 3072) (K : ∀ w2, lj_I (c + 1) w2 → ab_Ex b L xs g_G g_rs mt_La 40 bc bs 1184 [some (ab_R (ab_sb + 1000)), some (ab_R 0), some (ab_R 107), some (ab_I i)] [] w2 ()) : ab_Ex b L xs g_G g_rs mt_La 40 (bc + 2) (bs + 401) 239 [some (ab_R (ab_sb + 1000)), some (ab_R 0), some (ab_R 107), some (ab_I i)] [] w () := by
  obtain ⟨S, wm, hci, hmi⟩ := h
  refine ex_room (bc := bc + 0) (bs := bs + 0) (by omega) (by omega) ?_
  obtain ⟨v1, e1⟩ : ∃ v, (xs (i + 1).toNat).toInt = v := ⟨_, rfl⟩
  have hv1 : ab_in v1 := by rw [← e1]; exact ab_toin _
  refine ex_aload_n de_La_239 rfl rfl ?_
  refine ex_aload_n de_La_240 rfl rfl ?_
  refine ex_iload_n de_La_241 rfl rfl ?_
  refine ex_iconst de_La_242 ?_
  refine ex_iadd de_La_243 ?_
  refine ex_sld de_La_244 (by omega) (by omega) (by omega) e1 ?_
  obtain ⟨fs0, ho0⟩ := cy_obj hci
  have hln := cy_len hci
  refine ex_virtual (ci := 10) (bc := bc) (bs := bs) de_La_245 (cy_end hci (my_ok hmi) hc1 v1 hv1) kb_La_18 ⟨im_Tu_end, se_Tu_end⟩ rfl ho0 rfl (Nat.le_of_ble_eq_true rfl) (by decide) (Or.inr ⟨la_okL (by omega), ab_okS_n⟩) (fun r1 w1 hq1 => ?_)
  obtain ⟨rfl, hci⟩ := hq1
  refine ex_pop de_La_248 rfl ?_
  refine ex_aload_n de_La_249 rfl rfl ?_
  refine ex_aload_n de_La_250 rfl rfl ?_
  refine ex_iload_n de_La_251 rfl rfl ?_
  refine ex_iconst de_La_252 ?_
  refine ex_iadd de_La_253 ?_
  refine ex_sld de_La_254 (by omega) (by omega) (by omega) e1 ?_
  obtain ⟨fs1, ho1⟩ := lj_obj hmi hci
  have hln1 := cy_len hci
  refine ex_virtual (ci := 11) (mc := 0) (ms := 0) de_La_255 (lj_mod (R := fun r => r = some (ab_I (fa_end S v1))) (my_end hc0 hc1 hmi v1 hv1) (fun r h => ⟨_, h⟩) (by intro v hv; simp only [List.mem_cons, List.not_mem_nil, or_false] at hv; rcases hv with rfl <;> exact ⟨_, rfl⟩) hmi hci) kb_La_22 ⟨im_Mo_end, se_Mo_end⟩ rfl ho1 rfl (Nat.le_of_ble_eq_true rfl) (by decide) (Or.inr ⟨la_okL (by omega), ab_okS_n⟩) (fun r2 w2 hq2 => ?_)
  obtain ⟨rfl, hL3⟩ := hq2
  refine ex_pop de_La_258 rfl ?_
  refine ex_goto (tgt := 1184) de_La_259 (by decide) ?_
  exact K _ hL3
set_option maxHeartbeats 4000000 in
set_option maxRecDepth 20000 in
theorem la_2 {b L : Nat} {xs : Nat → Int32} {bc bs : Nat} {i c : Int} {w : ab_W} (hc0 : 0 ≤ c) (hc1 : c ≤ 1000) (h : lj_I c w) (hi : 0 ≤ i) (h6 : i + 6 ≤ L) (hL : L ≤ 3072) (K : ∀ w2, lj_I (c + 1) w2 → ab_Ex b L xs g_G g_rs mt_La 40 bc bs 1184 [some (ab_R (ab_sb + 1000)), some (ab_R 0), some (ab_R 107), some (ab_I i)] [] w2 ()) : ab_Ex b L xs g_G g_rs mt_La 40 (bc + 2) (bs + 401) 262 [some (ab_R (ab_sb + 1000)), some (ab_R 0), some (ab_R 107), some (ab_I i)] [] w () := by
  obtain ⟨S, wm, hci, hmi⟩ := h
  obtain ⟨rd0, hr0, hmr⟩ := my_ring hc0 hc1 hmi
  refine ex_room (bc := bc + 0) (bs := bs + 0) (by omega) (by omega) ?_
  refine ex_aload_n de_La_262 rfl rfl ?_
  obtain ⟨fs0, ho0⟩ := cy_obj hci
  have hln := cy_len hci
  refine ex_virtual (ci := 10) (bc := bc) (bs := bs) de_La_263 (cy_ring hci (my_ok hmi) hc1 rd0 hr0) kb_La_23 ⟨im_Tu_ring, se_Tu_ring⟩ rfl ho0 rfl (Nat.le_of_ble_eq_true rfl) (by decide) (Or.inr ⟨la_okL (by omega), ab_okS_n⟩) (fun r1 w1 hq1 => ?_)
  obtain ⟨rfl, hci⟩ := hq1
  refine ex_pop de_La_266 rfl ?_
  refine ex_aload_n de_La_267 rfl rfl ?_
  obtain ⟨fs1, ho1⟩ := lj_obj hmi hci
  have hln1 := cy_len hci
  refine ex_virtual (ci := 11) (mc := 0) (ms := 0) de_La_268 (lj_mod (R := fun r => r = some (ab_I (fa_ring S rd0))) hmr (fun r h => ⟨_, h⟩) (fun v hv => by cases hv) hmi hci) kb_La_27 ⟨im_Mo_ring, se_Mo_ring⟩ rfl ho1 rfl (Nat.le_of_ble_eq_true rfl) (by decide) (Or.inr ⟨la_okL (by omega), ab_okS_n⟩) (fun r2 w2 hq2 => ?_)
  obtain ⟨rfl, hL3⟩ := hq2
  refine ex_pop de_La_271 rfl ?_
  refine ex_goto (tgt := 1184) de_La_272 (by decide) ?_
  exact K _ hL3
set_option maxHeartbeats 4000000 in
set_option maxRecDepth 20000 in
theorem la_3 {b L : Nat} {xs : Nat → Int32} {bc bs : Nat} {i c : Int} {w : ab_W} (hc0 : 0 ≤ c) (hc1 : c ≤ 1000) (h : lj_I c w) (hi : 0 ≤ i) (h6 : i + 6 ≤ L) (hL : L ≤ 3072) (K : ∀ w2, lj_I (c + 1) w2 → ab_Ex b L xs g_G g_rs mt_La 40 bc bs 1184 [some (ab_R (ab_sb + 1000)), some (ab_R 0), some (ab_R 107), some (ab_I i)] [] w2 ()) : ab_Ex b L xs g_G g_rs mt_La 40 (bc + 2) (bs + 401) 275 [some (ab_R (ab_sb + 1000)), some (ab_R 0), some (ab_R 107), some (ab_I i)] [] w () := by
  obtain ⟨S, wm, hci, hmi⟩ := h
  refine ex_aload_n de_La_275 rfl rfl ?_
  obtain ⟨fs0, ho0⟩ := cy_obj hci
  have hln := cy_len hci
  refine ex_virtual (ci := 10) (bc := bc) (bs := bs) de_La_276 (cy_rule hci (my_ok hmi) hc1) kb_La_28 ⟨im_Tu_rule, se_Tu_rule⟩ rfl ho0 rfl (Nat.le_of_ble_eq_true rfl) (by decide) (Or.inr ⟨la_okL (by omega), ab_okS_n⟩) (fun r1 w1 hq1 => ?_)
  obtain ⟨rfl, hci⟩ := hq1
  refine ex_pop de_La_279 rfl ?_
  refine ex_aload_n de_La_280 rfl rfl ?_
  obtain ⟨fs1, ho1⟩ := lj_obj hmi hci
  have hln1 := cy_len hci
  obtain ⟨dr, hdr, hmr⟩ := my_rule hc0 hc1 hmi
  refine ex_virtual (ci := 11) (mc := 0) (ms := 0) de_La_281 (lj_mod (R := fun r => r = some (ab_I (fa_rule S))) hmr (fun r h => ⟨_, h⟩) (fun v hv => by cases hv) hmi hci) kb_La_31 ⟨im_Mo_rule, se_Mo_rule⟩ rfl ho1 rfl (Nat.le_of_ble_eq_true rfl) (by omega) (Or.inr ⟨la_okL (by omega), ab_okS_n⟩) (fun r2 w2 hq2 => ?_)
  obtain ⟨rfl, hL3⟩ := hq2
  refine ex_pop de_La_284 rfl ?_
  refine ex_goto (tgt := 1184) de_La_285 (by decide) ?_
  exact K _ hL3
set_option maxHeartbeats 4000000 in
set_option maxRecDepth 20000 in
theorem la_4 {b L : Nat} {xs : Nat → Int32} {bc bs : Nat} {i c : Int} {w : ab_W} (hc0 : 0 ≤ c) (hc1 : c ≤ 1000) (h : lj_I c w) (hi : 0 ≤ i) (h6 : i + 6 ≤ L) (hL : L ≤ 3072) (K : ∀ w2, lj_I (c + 1) w2 → ab_Ex b L xs g_G g_rs mt_La 40 bc bs 1184 [some (ab_R (ab_sb + 1000)), some (ab_R 0), some (ab_R 107), some (ab_I i)] [] w2 ()) : ab_Ex b L xs g_G g_rs mt_La 40 (bc + 2) (bs + 401) 288 [some (ab_R (ab_sb + 1000)), some (ab_R 0), some (ab_R 107), some (ab_I i)] [] w () := by
  obtain ⟨S, wm, hci, hmi⟩ := h
  refine ex_room (bc := bc + 0) (bs := bs + 0) (by omega) (by omega) ?_
  obtain ⟨v1, e1⟩ : ∃ v, (xs (i + 1).toNat).toInt = v := ⟨_, rfl⟩
  have hv1 : ab_in v1 := by rw [← e1]; exact ab_toin _
  obtain ⟨v2, e2⟩ : ∃ v, (xs (i + 2).toNat).toInt = v := ⟨_, rfl⟩
  have hv2 : ab_in v2 := by rw [← e2]; exact ab_toin _
  refine ex_aload_n de_La_288 rfl rfl ?_
  refine ex_aload_n de_La_289 rfl rfl ?_
  refine ex_iload_n de_La_290 rfl rfl ?_
  refine ex_iconst de_La_291 ?_
  refine ex_iadd de_La_292 ?_
  refine ex_sld de_La_293 (by omega) (by omega) (by omega) e1 ?_
  refine ex_aload_n de_La_294 rfl rfl ?_
  refine ex_iload_n de_La_295 rfl rfl ?_
  refine ex_iconst de_La_296 ?_
  refine ex_iadd de_La_297 ?_
  refine ex_sld de_La_298 (by omega) (by omega) (by omega) e2 ?_
  obtain ⟨fs0, ho0⟩ := cy_obj hci
  have hln := cy_len hci
  refine ex_virtual (ci := 10) (bc := bc) (bs := bs) de_La_299 (cy_house hci (my_ok hmi) hc1 v1 hv1 v2 hv2) kb_La_32 ⟨im_Tu_house, se_Tu_house⟩ rfl ho0 rfl (Nat.le_of_ble_eq_true rfl) (by decide) (Or.inr ⟨la_okL (by omega), ab_okS_n⟩) (fun r1 w1 hq1 => ?_)
  obtain ⟨rfl, hci⟩ := hq1
  refine ex_pop de_La_302 rfl ?_
  refine ex_aload_n de_La_303 rfl rfl ?_
  refine ex_aload_n de_La_304 rfl rfl ?_
  refine ex_iload_n de_La_305 rfl rfl ?_
  refine ex_iconst de_La_306 ?_
  refine ex_iadd de_La_307 ?_
  refine ex_sld de_La_308 (by omega) (by omega) (by omega) e1 ?_
  refine ex_aload_n de_La_309 rfl rfl ?_
  refine ex_iload_n de_La_310 rfl rfl ?_
  refine ex_iconst de_La_311 ?_
  refine ex_iadd de_La_312 ?_
  refine ex_sld de_La_313 (by omega) (by omega) (by omega) e2 ?_
  obtain ⟨fs1, ho1⟩ := lj_obj hmi hci
  have hln1 := cy_len hci
  refine ex_virtual (ci := 11) (mc := 0) (ms := 0) de_La_314 (lj_mod (R := fun r => r = some (ab_I (fa_house S v1 v2))) (my_house hc0 hc1 hmi v1 hv1 v2 hv2) (fun r h => ⟨_, h⟩) (by intro v hv; simp only [List.mem_cons, List.not_mem_nil, or_false] at hv; rcases hv with rfl | rfl <;> exact ⟨_, rfl⟩) hmi hci) kb_La_36 ⟨im_Mo_house, se_Mo_house⟩ rfl ho1 rfl (Nat.le_of_ble_eq_true rfl) (by decide) (Or.inr ⟨la_okL (by omega), ab_okS_n⟩) (fun r2 w2 hq2 => ?_)
  obtain ⟨rfl, hL3⟩ := hq2
  refine ex_pop de_La_317 rfl ?_
  refine ex_goto (tgt := 1184) de_La_318 (by decide) ?_
  exact K _ hL3
set_option maxHeartbeats 4000000 in
set_option maxRecDepth 20000 in
theorem la_5 {b L : Nat} {xs : Nat → Int32} {bc bs : Nat} {i c : Int} {w : ab_W} (hc0 : 0 ≤ c) (hc1 : c ≤ 1000) (h : lj_I c w) (hi : 0 ≤ i) (h6 : i + 6 ≤ L) (hL : L ≤ 3072) (K : ∀ w2, lj_I (c + 1) w2 → ab_Ex b L xs g_G g_rs mt_La 40 bc bs 1184 [some (ab_R (ab_sb + 1000)), some (ab_R 0), some (ab_R 107), some (ab_I i)] [] w2 ()) : ab_Ex b L xs g_G g_rs mt_La 40 (bc + 2) (bs + 401) 321 [some (ab_R (ab_sb + 1000)), some (ab_R 0), some (ab_R 107), some (ab_I i)] [] w () := by
  obtain ⟨S, wm, hci, hmi⟩ := h
  refine ex_room (bc := bc + 0) (bs := bs + 0) (by omega) (by omega) ?_
  obtain ⟨v1, e1⟩ : ∃ v, (xs (i + 1).toNat).toInt = v := ⟨_, rfl⟩
  have hv1 : ab_in v1 := by rw [← e1]; exact ab_toin _
  obtain ⟨v2, e2⟩ : ∃ v, (xs (i + 2).toNat).toInt = v := ⟨_, rfl⟩
  have hv2 : ab_in v2 := by rw [← e2]; exact ab_toin _
  refine ex_aload_n de_La_321 rfl rfl ?_
  refine ex_aload_n de_La_322 rfl rfl ?_
  refine ex_iload_n de_La_323 rfl rfl ?_
  refine ex_iconst de_La_324 ?_
  refine ex_iadd de_La_325 ?_
  refine ex_sld de_La_326 (by omega) (by omega) (by omega) e1 ?_
  refine ex_aload_n de_La_327 rfl rfl ?_
  refine ex_iload_n de_La_328 rfl rfl ?_
  refine ex_iconst de_La_329 ?_
  refine ex_iadd de_La_330 ?_
  refine ex_sld de_La_331 (by omega) (by omega) (by omega) e2 ?_
  obtain ⟨fs0, ho0⟩ := cy_obj hci
  have hln := cy_len hci
  refine ex_virtual (ci := 10) (bc := bc) (bs := bs) de_La_332 (cy_direction hci (my_ok hmi) hc1 v1 hv1 v2 hv2) kb_La_37 ⟨im_Tu_direction, se_Tu_direction⟩ rfl ho0 rfl (Nat.le_of_ble_eq_true rfl) (by decide) (Or.inr ⟨la_okL (by omega), ab_okS_n⟩) (fun r1 w1 hq1 => ?_)
  obtain ⟨rfl, hci⟩ := hq1
  refine ex_pop de_La_335 rfl ?_
  refine ex_aload_n de_La_336 rfl rfl ?_
  refine ex_aload_n de_La_337 rfl rfl ?_
  refine ex_iload_n de_La_338 rfl rfl ?_
  refine ex_iconst de_La_339 ?_
  refine ex_iadd de_La_340 ?_
  refine ex_sld de_La_341 (by omega) (by omega) (by omega) e1 ?_
  refine ex_aload_n de_La_342 rfl rfl ?_
  refine ex_iload_n de_La_343 rfl rfl ?_
  refine ex_iconst de_La_344 ?_
  refine ex_iadd de_La_345 ?_
  refine ex_sld de_La_346 (by omega) (by omega) (by omega) e2 ?_
  obtain ⟨fs1, ho1⟩ := lj_obj hmi hci
  have hln1 := cy_len hci
  refine ex_virtual (ci := 11) (mc := 0) (ms := 0) de_La_347 (lj_mod (R := fun r => r = some (ab_I (fa_direction S v1 v2))) (my_direction hc0 hc1 hmi v1 hv1 v2 hv2) (fun r h => ⟨_, h⟩) (by intro v hv; simp only [List.mem_cons, List.not_mem_nil, or_false] at hv; rcases hv with rfl | rfl <;> exact ⟨_, rfl⟩) hmi hci) kb_La_40 ⟨im_Mo_direction, se_Mo_direction⟩ rfl ho1 rfl (Nat.le_of_ble_eq_true rfl) (by decide) (Or.inr ⟨la_okL (by omega), ab_okS_n⟩) (fun r2 w2 hq2 => ?_)
  obtain ⟨rfl, hL3⟩ := hq2
  refine ex_pop de_La_350 rfl ?_
  refine ex_goto (tgt := 1184) de_La_351 (by decide) ?_
  exact K _ hL3
set_option maxHeartbeats 4000000 in
set_option maxRecDepth 20000 in
theorem la_6 {b L : Nat} {xs : Nat → Int32} {bc bs : Nat} {i c : Int} {w : ab_W} (hc0 : 0 ≤ c) (hc1 : c ≤ 1000) (h : lj_I c w) (hi : 0 ≤ i) (h6 : i + 6 ≤ L) (hL : L ≤ 3072) (K : ∀ w2, lj_I (c + 1) w2 → ab_Ex b L xs g_G g_rs mt_La 40 bc bs 1184 [some (ab_R (ab_sb + 1000)), some (ab_R 0), some (ab_R 107), some (ab_I i)] [] w2 ()) : ab_Ex b L xs g_G g_rs mt_La 40 (bc + 2) (bs + 401) 354 [some (ab_R (ab_sb + 1000)), some (ab_R 0), some (ab_R 107), some (ab_I i)] [] w () := by
  obtain ⟨S, wm, hci, hmi⟩ := h
  refine ex_room (bc := bc + 0) (bs := bs + 0) (by omega) (by omega) ?_
  obtain ⟨v1, e1⟩ : ∃ v, (xs (i + 1).toNat).toInt = v := ⟨_, rfl⟩
  have hv1 : ab_in v1 := by rw [← e1]; exact ab_toin _
  refine ex_aload_n de_La_354 rfl rfl ?_
  refine ex_aload_n de_La_355 rfl rfl ?_
  refine ex_iload_n de_La_356 rfl rfl ?_
  refine ex_iconst de_La_357 ?_
  refine ex_iadd de_La_358 ?_
  refine ex_sld de_La_359 (by omega) (by omega) (by omega) e1 ?_
  obtain ⟨fs0, ho0⟩ := cy_obj hci
  have hln := cy_len hci
  refine ex_virtual (ci := 10) (bc := bc) (bs := bs) de_La_360 (cy_rateOf hci (my_ok hmi) hc1 v1 hv1) kb_La_41 ⟨im_Tu_rateOf, se_Tu_rateOf⟩ rfl ho0 rfl (Nat.le_of_ble_eq_true rfl) (by decide) (Or.inr ⟨la_okL (by omega), ab_okS_n⟩) (fun r1 w1 hq1 => ?_)
  obtain ⟨rfl, hci⟩ := hq1
  refine ex_pop de_La_363 rfl ?_
  refine ex_aload_n de_La_364 rfl rfl ?_
  refine ex_aload_n de_La_365 rfl rfl ?_
  refine ex_iload_n de_La_366 rfl rfl ?_
  refine ex_iconst de_La_367 ?_
  refine ex_iadd de_La_368 ?_
  refine ex_sld de_La_369 (by omega) (by omega) (by omega) e1 ?_
  obtain ⟨fs1, ho1⟩ := lj_obj hmi hci
  have hln1 := cy_len hci
  refine ex_virtual (ci := 11) (mc := 0) (ms := 0) de_La_370 (lj_mod (R := fun r => r = some (ab_I (fa_rateOf S v1))) (my_rateOf hc0 hc1 hmi v1 hv1) (fun r h => ⟨_, h⟩) (by intro v hv; simp only [List.mem_cons, List.not_mem_nil, or_false] at hv; rcases hv with rfl <;> exact ⟨_, rfl⟩) hmi hci) kb_La_44 ⟨im_Mo_rateOf, se_Mo_rateOf⟩ rfl ho1 rfl (Nat.le_of_ble_eq_true rfl) (by decide) (Or.inr ⟨la_okL (by omega), ab_okS_n⟩) (fun r2 w2 hq2 => ?_)
  obtain ⟨rfl, hL3⟩ := hq2
  refine ex_pop de_La_373 rfl ?_
  refine ex_goto (tgt := 1184) de_La_374 (by decide) ?_
  exact K _ hL3
set_option maxHeartbeats 4000000 in
set_option maxRecDepth 20000 in
theorem la_7 {b L : Nat} {xs : Nat → Int32} {bc bs : Nat} {i c : Int} {w : ab_W} (hc0 : 0 ≤ c) (hc1 : c ≤ 1000) (h : lj_I c w) (hi : 0 ≤ i) (h6 : i + 6 ≤ L) (hL : L ≤ 3072) (K : ∀ w2, lj_I (c + 1) w2 → ab_Ex b L xs g_G g_rs mt_La 40 bc bs 1184 [some (ab_R (ab_sb + 1000)), some (ab_R 0), some (ab_R 107), some (ab_I i)] [] w2 ()) : ab_Ex b L xs g_G g_rs mt_La 40 (bc + 2) (bs + 401) 377 [some (ab_R (ab_sb + 1000)), some (ab_R 0), some (ab_R 107), some (ab_I i)] [] w () := by
  obtain ⟨S, wm, hci, hmi⟩ := h
  refine ex_room (bc := bc + 0) (bs := bs + 0) (by omega) (by omega) ?_
  obtain ⟨v1, e1⟩ : ∃ v, (xs (i + 1).toNat).toInt = v := ⟨_, rfl⟩
  have hv1 : ab_in v1 := by rw [← e1]; exact ab_toin _
  refine ex_aload_n de_La_377 rfl rfl ?_
  refine ex_aload_n de_La_378 rfl rfl ?_
  refine ex_iload_n de_La_379 rfl rfl ?_
  refine ex_iconst de_La_380 ?_
  refine ex_iadd de_La_381 ?_
  refine ex_sld de_La_382 (by omega) (by omega) (by omega) e1 ?_
  obtain ⟨fs0, ho0⟩ := cy_obj hci
  have hln := cy_len hci
  refine ex_virtual (ci := 10) (bc := bc) (bs := bs) de_La_383 (cy_worn hci (my_ok hmi) hc1 v1 hv1) kb_La_45 ⟨im_Tu_worn, se_Tu_worn⟩ rfl ho0 rfl (Nat.le_of_ble_eq_true rfl) (by decide) (Or.inr ⟨la_okL (by omega), ab_okS_n⟩) (fun r1 w1 hq1 => ?_)
  obtain ⟨rfl, hci⟩ := hq1
  refine ex_pop de_La_386 rfl ?_
  refine ex_aload_n de_La_387 rfl rfl ?_
  refine ex_aload_n de_La_388 rfl rfl ?_
  refine ex_iload_n de_La_389 rfl rfl ?_
  refine ex_iconst de_La_390 ?_
  refine ex_iadd de_La_391 ?_
  refine ex_sld de_La_392 (by omega) (by omega) (by omega) e1 ?_
  obtain ⟨fs1, ho1⟩ := lj_obj hmi hci
  have hln1 := cy_len hci
  refine ex_virtual (ci := 11) (mc := 0) (ms := 0) de_La_393 (lj_mod (R := fun r => r = some (ab_I (fa_worn S v1))) (my_worn hc0 hc1 hmi v1 hv1) (fun r h => ⟨_, h⟩) (by intro v hv; simp only [List.mem_cons, List.not_mem_nil, or_false] at hv; rcases hv with rfl <;> exact ⟨_, rfl⟩) hmi hci) kb_La_48 ⟨im_Mo_worn, se_Mo_worn⟩ rfl ho1 rfl (Nat.le_of_ble_eq_true rfl) (by decide) (Or.inr ⟨la_okL (by omega), ab_okS_n⟩) (fun r2 w2 hq2 => ?_)
  obtain ⟨rfl, hL3⟩ := hq2
  refine ex_pop de_La_396 rfl ?_
  refine ex_goto (tgt := 1184) de_La_397 (by decide) ?_
  exact K _ hL3
set_option maxHeartbeats 4000000 in
set_option maxRecDepth 20000 in
theorem la_8 {b L : Nat} {xs : Nat → Int32} {bc bs : Nat} {i c : Int} {w : ab_W} (hc0 : 0 ≤ c) (hc1 : c ≤ 1000) (h : lj_I c w) (hi : 0 ≤ i) (h6 : i + 6 ≤ L) (hL : L ≤ 3072) (K : ∀ w2, lj_I (c + 1) w2 → ab_Ex b L xs g_G g_rs mt_La 40 bc bs 1184 [some (ab_R (ab_sb + 1000)), some (ab_R 0), some (ab_R 107), some (ab_I i)] [] w2 ()) : ab_Ex b L xs g_G g_rs mt_La 40 (bc + 2) (bs + 401) 400 [some (ab_R (ab_sb + 1000)), some (ab_R 0), some (ab_R 107), some (ab_I i)] [] w () := by
  obtain ⟨S, wm, hci, hmi⟩ := h
  refine ex_room (bc := bc + 0) (bs := bs + 0) (by omega) (by omega) ?_
  refine ex_aload_n de_La_400 rfl rfl ?_
  obtain ⟨fs0, ho0⟩ := cy_obj hci
  have hln := cy_len hci
  refine ex_virtual (ci := 10) (bc := bc) (bs := bs) de_La_401 (cy_hour hci (my_ok hmi) hc1) kb_La_49 ⟨im_Tu_hour, se_Tu_hour⟩ rfl ho0 rfl (Nat.le_of_ble_eq_true rfl) (by decide) (Or.inr ⟨la_okL (by omega), ab_okS_n⟩) (fun r1 w1 hq1 => ?_)
  obtain ⟨rfl, hci⟩ := hq1
  refine ex_pop de_La_404 rfl ?_
  refine ex_aload_n de_La_405 rfl rfl ?_
  obtain ⟨fs1, ho1⟩ := lj_obj hmi hci
  have hln1 := cy_len hci
  refine ex_virtual (ci := 11) (mc := 0) (ms := 0) de_La_406 (lj_mod (R := fun r => r = some (ab_I (fa_hour S))) (my_hour hc0 hc1 hmi) (fun r h => ⟨_, h⟩) (fun v hv => by cases hv) hmi hci) kb_La_52 ⟨im_Mo_hour, se_Mo_hour⟩ rfl ho1 rfl (Nat.le_of_ble_eq_true rfl) (by decide) (Or.inr ⟨la_okL (by omega), ab_okS_n⟩) (fun r2 w2 hq2 => ?_)
  obtain ⟨rfl, hL3⟩ := hq2
  refine ex_pop de_La_409 rfl ?_
  refine ex_goto (tgt := 1184) de_La_410 (by decide) ?_
  exact K _ hL3
set_option maxHeartbeats 4000000 in
set_option maxRecDepth 20000 in
theorem la_9 {b L : Nat} {xs : Nat → Int32} {bc bs : Nat} {i c : Int} {w : ab_W} (hc0 : 0 ≤ c) (hc1 : c ≤ 1000) (h : lj_I c w) (hi : 0 ≤ i) (h6 : i + 6 ≤ L) (hL : L ≤ 3072) (K : ∀ w2, lj_I (c + 1) w2 → ab_Ex b L xs g_G g_rs mt_La 40 bc bs 1184 [some (ab_R (ab_sb + 1000)), some (ab_R 0), some (ab_R 107), some (ab_I i)] [] w2 ()) : ab_Ex b L xs g_G g_rs mt_La 40 (bc + 2) (bs + 401) 413 [some (ab_R (ab_sb + 1000)), some (ab_R 0), some (ab_R 107), some (ab_I i)] [] w () := by
  obtain ⟨S, wm, hci, hmi⟩ := h
  refine ex_room (bc := bc + 0) (bs := bs + 0) (by omega) (by omega) ?_
  obtain ⟨v1, e1⟩ : ∃ v, (xs (i + 1).toNat).toInt = v := ⟨_, rfl⟩
  have hv1 : ab_in v1 := by rw [← e1]; exact ab_toin _
  obtain ⟨v2, e2⟩ : ∃ v, (xs (i + 2).toNat).toInt = v := ⟨_, rfl⟩
  have hv2 : ab_in v2 := by rw [← e2]; exact ab_toin _
  refine ex_aload_n de_La_413 rfl rfl ?_
  refine ex_aload_n de_La_414 rfl rfl ?_
  refine ex_iload_n de_La_415 rfl rfl ?_
  refine ex_iconst de_La_416 ?_
  refine ex_iadd de_La_417 ?_
  refine ex_sld de_La_418 (by omega) (by omega) (by omega) e1 ?_
  refine ex_aload_n de_La_419 rfl rfl ?_
  refine ex_iload_n de_La_420 rfl rfl ?_
  refine ex_iconst de_La_421 ?_
  refine ex_iadd de_La_422 ?_
  refine ex_sld de_La_423 (by omega) (by omega) (by omega) e2 ?_
  obtain ⟨fs0, ho0⟩ := cy_obj hci
  have hln := cy_len hci
  refine ex_virtual (ci := 10) (bc := bc) (bs := bs) de_La_424 (cy_rate hci (my_ok hmi) hc1 v1 hv1 v2 hv2) kb_La_53 ⟨im_Tu_rate, se_Tu_rate⟩ rfl ho0 rfl (Nat.le_of_ble_eq_true rfl) (by decide) (Or.inr ⟨la_okL (by omega), ab_okS_n⟩) (fun r1 w1 hq1 => ?_)
  obtain ⟨rfl, hci⟩ := hq1
  refine ex_pop de_La_427 rfl ?_
  refine ex_aload_n de_La_428 rfl rfl ?_
  refine ex_aload_n de_La_429 rfl rfl ?_
  refine ex_iload_n de_La_430 rfl rfl ?_
  refine ex_iconst de_La_431 ?_
  refine ex_iadd de_La_432 ?_
  refine ex_sld de_La_433 (by omega) (by omega) (by omega) e1 ?_
  refine ex_aload_n de_La_434 rfl rfl ?_
  refine ex_iload_n de_La_435 rfl rfl ?_
  refine ex_iconst de_La_436 ?_
  refine ex_iadd de_La_437 ?_
  refine ex_sld de_La_438 (by omega) (by omega) (by omega) e2 ?_
  obtain ⟨fs1, ho1⟩ := lj_obj hmi hci
  have hln1 := cy_len hci
  refine ex_virtual (ci := 11) (mc := 0) (ms := 0) de_La_439 (lj_mod (R := fun r => r = some (ab_I (fa_rate S v1 v2))) (my_rate hc0 hc1 hmi v1 hv1 v2 hv2) (fun r h => ⟨_, h⟩) (by intro v hv; simp only [List.mem_cons, List.not_mem_nil, or_false] at hv; rcases hv with rfl | rfl <;> exact ⟨_, rfl⟩) hmi hci) kb_La_56 ⟨im_Mo_rate, se_Mo_rate⟩ rfl ho1 rfl (Nat.le_of_ble_eq_true rfl) (by decide) (Or.inr ⟨la_okL (by omega), ab_okS_n⟩) (fun r2 w2 hq2 => ?_)
  obtain ⟨rfl, hL3⟩ := hq2
  refine ex_pop de_La_442 rfl ?_
  refine ex_goto (tgt := 1184) de_La_443 (by decide) ?_
  exact K _ hL3
set_option maxHeartbeats 4000000 in
set_option maxRecDepth 20000 in
theorem la_10 {b L : Nat} {xs : Nat → Int32} {bc bs : Nat} {i c : Int} {w : ab_W} (hc0 : 0 ≤ c) (hc1 : c ≤ 1000) (h : lj_I c w) (hi : 0 ≤ i) (h6 : i + 6 ≤ L) (hL : L ≤ 3072) (K : ∀ w2, lj_I (c + 1) w2 → ab_Ex b L xs g_G g_rs mt_La 40 bc bs 1184 [some (ab_R (ab_sb + 1000)), some (ab_R 0), some (ab_R 107), some (ab_I i)] [] w2 ()) : ab_Ex b L xs g_G g_rs mt_La 40 (bc + 2) (bs + 401) 446 [some (ab_R (ab_sb + 1000)), some (ab_R 0), some (ab_R 107), some (ab_I i)] [] w () := by
  obtain ⟨S, wm, hci, hmi⟩ := h
  refine ex_room (bc := bc + 0) (bs := bs + 0) (by omega) (by omega) ?_
  obtain ⟨v1, e1⟩ : ∃ v, (xs (i + 1).toNat).toInt = v := ⟨_, rfl⟩
  have hv1 : ab_in v1 := by rw [← e1]; exact ab_toin _
  obtain ⟨v2, e2⟩ : ∃ v, (xs (i + 2).toNat).toInt = v := ⟨_, rfl⟩
  have hv2 : ab_in v2 := by rw [← e2]; exact ab_toin _
  refine ex_aload_n de_La_446 rfl rfl ?_
  refine ex_aload_n de_La_447 rfl rfl ?_
  refine ex_iload_n de_La_448 rfl rfl ?_
  refine ex_iconst de_La_449 ?_
  refine ex_iadd de_La_450 ?_
  refine ex_sld de_La_451 (by omega) (by omega) (by omega) e1 ?_
  refine ex_aload_n de_La_452 rfl rfl ?_
  refine ex_iload_n de_La_453 rfl rfl ?_
  refine ex_iconst de_La_454 ?_
  refine ex_iadd de_La_455 ?_
  refine ex_sld de_La_456 (by omega) (by omega) (by omega) e2 ?_
  obtain ⟨fs0, ho0⟩ := cy_obj hci
  have hln := cy_len hci
  refine ex_virtual (ci := 10) (bc := bc) (bs := bs) de_La_457 (cy_swap hci (my_ok hmi) hc1 v1 hv1 v2 hv2) kb_La_57 ⟨im_Tu_swap, se_Tu_swap⟩ rfl ho0 rfl (Nat.le_of_ble_eq_true rfl) (by decide) (Or.inr ⟨la_okL (by omega), ab_okS_n⟩) (fun r1 w1 hq1 => ?_)
  obtain ⟨rfl, hci⟩ := hq1
  refine ex_pop de_La_460 rfl ?_
  refine ex_aload_n de_La_461 rfl rfl ?_
  refine ex_aload_n de_La_462 rfl rfl ?_
  refine ex_iload_n de_La_463 rfl rfl ?_
  refine ex_iconst de_La_464 ?_
  refine ex_iadd de_La_465 ?_
  refine ex_sld de_La_466 (by omega) (by omega) (by omega) e1 ?_
  refine ex_aload_n de_La_467 rfl rfl ?_
  refine ex_iload_n de_La_468 rfl rfl ?_
  refine ex_iconst de_La_469 ?_
  refine ex_iadd de_La_470 ?_
  refine ex_sld de_La_471 (by omega) (by omega) (by omega) e2 ?_
  obtain ⟨fs1, ho1⟩ := lj_obj hmi hci
  have hln1 := cy_len hci
  refine ex_virtual (ci := 11) (mc := 0) (ms := 0) de_La_472 (lj_mod (R := fun r => r = some (ab_I (fa_swap S v1 v2))) (my_swap hc0 hc1 hmi v1 hv1 v2 hv2) (fun r h => ⟨_, h⟩) (by intro v hv; simp only [List.mem_cons, List.not_mem_nil, or_false] at hv; rcases hv with rfl | rfl <;> exact ⟨_, rfl⟩) hmi hci) kb_La_61 ⟨im_Mo_swap, se_Mo_swap⟩ rfl ho1 rfl (Nat.le_of_ble_eq_true rfl) (by decide) (Or.inr ⟨la_okL (by omega), ab_okS_n⟩) (fun r2 w2 hq2 => ?_)
  obtain ⟨rfl, hL3⟩ := hq2
  refine ex_pop de_La_475 rfl ?_
  refine ex_goto (tgt := 1184) de_La_476 (by decide) ?_
  exact K _ hL3
set_option maxHeartbeats 4000000 in
set_option maxRecDepth 20000 in
theorem la_11 {b L : Nat} {xs : Nat → Int32} {bc bs : Nat} {i c : Int} {w : ab_W} (hc0 : 0 ≤ c) (hc1 : c ≤ 1000) (h : lj_I c w) (hi : 0 ≤ i) (h6 : i + 6 ≤ L) (hL : L ≤ 3072) (K : ∀ w2, lj_I (c + 1) w2 → ab_Ex b L xs g_G g_rs mt_La 40 bc bs 1184 [some (ab_R (ab_sb + 1000)), some (ab_R 0), some (ab_R 107), some (ab_I i)] [] w2 ()) : ab_Ex b L xs g_G g_rs mt_La 40 (bc + 2) (bs + 401) 479 [some (ab_R (ab_sb + 1000)), some (ab_R 0), some (ab_R 107), some (ab_I i)] [] w () := by
  obtain ⟨S, wm, hci, hmi⟩ := h
  refine ex_room (bc := bc + 0) (bs := bs + 0) (by omega) (by omega) ?_
  refine ex_aload_n de_La_479 rfl rfl ?_
  obtain ⟨fs0, ho0⟩ := cy_obj hci
  have hln := cy_len hci
  refine ex_virtual (ci := 10) (bc := bc) (bs := bs) de_La_480 (cy_stop hci (my_ok hmi) hc1) kb_La_62 ⟨im_Tu_stop, se_Tu_stop⟩ rfl ho0 rfl (Nat.le_of_ble_eq_true rfl) (by decide) (Or.inr ⟨la_okL (by omega), ab_okS_n⟩) (fun r1 w1 hq1 => ?_)
  obtain ⟨rfl, hci⟩ := hq1
  refine ex_pop de_La_483 rfl ?_
  refine ex_aload_n de_La_484 rfl rfl ?_
  obtain ⟨fs1, ho1⟩ := lj_obj hmi hci
  have hln1 := cy_len hci
  refine ex_virtual (ci := 11) (mc := 0) (ms := 0) de_La_485 (lj_mod (R := fun r => r = some (ab_I (fa_stop S))) (my_stop hc0 hc1 hmi) (fun r h => ⟨_, h⟩) (fun v hv => by cases hv) hmi hci) kb_La_66 ⟨im_Mo_stop, se_Mo_stop⟩ rfl ho1 rfl (Nat.le_of_ble_eq_true rfl) (by decide) (Or.inr ⟨la_okL (by omega), ab_okS_n⟩) (fun r2 w2 hq2 => ?_)
  obtain ⟨rfl, hL3⟩ := hq2
  refine ex_pop de_La_488 rfl ?_
  refine ex_goto (tgt := 1184) de_La_489 (by decide) ?_
  exact K _ hL3
set_option maxHeartbeats 4000000 in
set_option maxRecDepth 20000 in
theorem la_12 {b L : Nat} {xs : Nat → Int32} {bc bs : Nat} {i c : Int} {w : ab_W} (hc0 : 0 ≤ c) (hc1 : c ≤ 1000) (h : lj_I c w) (hi : 0 ≤ i) (h6 : i + 6 ≤ L) (hL : L ≤ 3072) (K : ∀ w2, lj_I (c + 1) w2 → ab_Ex b L xs g_G g_rs mt_La 40 bc bs 1184 [some (ab_R (ab_sb + 1000)), some (ab_R 0), some (ab_R 107), some (ab_I i)] [] w2 ()) : ab_Ex b L xs g_G g_rs mt_La 40 (bc + 2) (bs + 401) 492 [some (ab_R (ab_sb + 1000)), some (ab_R 0), some (ab_R 107), some (ab_I i)] [] w () := by
  obtain ⟨S, wm, hci, hmi⟩ := h
  refine ex_room (bc := bc + 0) (bs := bs + 0) (by omega) (by omega) ?_
  refine ex_aload_n de_La_492 rfl rfl ?_
  obtain ⟨fs0, ho0⟩ := cy_obj hci
  have hln := cy_len hci
  refine ex_virtual (ci := 10) (bc := bc) (bs := bs) de_La_493 (cy_undo hci (my_ok hmi) hc1) kb_La_67 ⟨im_Tu_undo, se_Tu_undo⟩ rfl ho0 rfl (Nat.le_of_ble_eq_true rfl) (by decide) (Or.inr ⟨la_okL (by omega), ab_okS_n⟩) (fun r1 w1 hq1 => ?_)
  obtain ⟨rfl, hci⟩ := hq1
  refine ex_pop de_La_496 rfl ?_
  refine ex_aload_n de_La_497 rfl rfl ?_
  obtain ⟨fs1, ho1⟩ := lj_obj hmi hci
  have hln1 := cy_len hci
  refine ex_virtual (ci := 11) (mc := 0) (ms := 0) de_La_498 (lj_mod (R := fun r => r = some (ab_I (fa_undo S))) (my_undo hc0 hc1 hmi) (fun r h => ⟨_, h⟩) (fun v hv => by cases hv) hmi hci) kb_La_70 ⟨im_Mo_undo, se_Mo_undo⟩ rfl ho1 rfl (Nat.le_of_ble_eq_true rfl) (by decide) (Or.inr ⟨la_okL (by omega), ab_okS_n⟩) (fun r2 w2 hq2 => ?_)
  obtain ⟨rfl, hL3⟩ := hq2
  refine ex_pop de_La_501 rfl ?_
  refine ex_goto (tgt := 1184) de_La_502 (by decide) ?_
  exact K _ hL3
set_option maxHeartbeats 4000000 in
set_option maxRecDepth 20000 in
theorem la_13 {b L : Nat} {xs : Nat → Int32} {bc bs : Nat} {i c : Int} {w : ab_W} (hc0 : 0 ≤ c) (hc1 : c ≤ 1000) (h : lj_I c w) (hi : 0 ≤ i) (h6 : i + 6 ≤ L) (hL : L ≤ 3072) (K : ∀ w2, lj_I (c + 1) w2 → ab_Ex b L xs g_G g_rs mt_La 40 bc bs 1184 [some (ab_R (ab_sb + 1000)), some (ab_R 0), some (ab_R 107), some (ab_I i)] [] w2 ()) : ab_Ex b L xs g_G g_rs mt_La 40 (bc + 2) (bs + 401) 505 [some (ab_R (ab_sb + 1000)), some (ab_R 0), some (ab_R 107), some (ab_I i)] [] w () := by
  obtain ⟨S, wm, hci, hmi⟩ := h
  refine ex_room (bc := bc + 0) (bs := bs + 0) (by omega) (by omega) ?_
  obtain ⟨v1, e1⟩ : ∃ v, (xs (i + 1).toNat).toInt = v := ⟨_, rfl⟩
  have hv1 : ab_in v1 := by rw [← e1]; exact ab_toin _
  obtain ⟨v2, e2⟩ : ∃ v, (xs (i + 2).toNat).toInt = v := ⟨_, rfl⟩
  have hv2 : ab_in v2 := by rw [← e2]; exact ab_toin _
  refine ex_aload_n de_La_505 rfl rfl ?_
  refine ex_aload_n de_La_506 rfl rfl ?_
  refine ex_iload_n de_La_507 rfl rfl ?_
  refine ex_iconst de_La_508 ?_
  refine ex_iadd de_La_509 ?_
  refine ex_sld de_La_510 (by omega) (by omega) (by omega) e1 ?_
  refine ex_aload_n de_La_511 rfl rfl ?_
  refine ex_iload_n de_La_512 rfl rfl ?_
  refine ex_iconst de_La_513 ?_
  refine ex_iadd de_La_514 ?_
  refine ex_sld de_La_515 (by omega) (by omega) (by omega) e2 ?_
  obtain ⟨fs0, ho0⟩ := cy_obj hci
  have hln := cy_len hci
  refine ex_virtual (ci := 10) (bc := bc) (bs := bs) de_La_516 (cy_run hci (my_ok hmi) hc1 v1 hv1 v2 hv2) kb_La_71 ⟨im_Tu_run, se_Tu_run⟩ rfl ho0 rfl (Nat.le_of_ble_eq_true rfl) (by decide) (Or.inr ⟨la_okL (by omega), ab_okS_n⟩) (fun r1 w1 hq1 => ?_)
  obtain ⟨rfl, hci⟩ := hq1
  refine ex_pop de_La_519 rfl ?_
  refine ex_aload_n de_La_520 rfl rfl ?_
  refine ex_aload_n de_La_521 rfl rfl ?_
  refine ex_iload_n de_La_522 rfl rfl ?_
  refine ex_iconst de_La_523 ?_
  refine ex_iadd de_La_524 ?_
  refine ex_sld de_La_525 (by omega) (by omega) (by omega) e1 ?_
  refine ex_aload_n de_La_526 rfl rfl ?_
  refine ex_iload_n de_La_527 rfl rfl ?_
  refine ex_iconst de_La_528 ?_
  refine ex_iadd de_La_529 ?_
  refine ex_sld de_La_530 (by omega) (by omega) (by omega) e2 ?_
  obtain ⟨fs1, ho1⟩ := lj_obj hmi hci
  have hln1 := cy_len hci
  refine ex_virtual (ci := 11) (mc := 0) (ms := 0) de_La_531 (lj_mod (R := fun r => r = some (ab_I (fa_run S v1 v2))) (my_run hc0 hc1 hmi v1 hv1 v2 hv2) (fun r h => ⟨_, h⟩) (by intro v hv; simp only [List.mem_cons, List.not_mem_nil, or_false] at hv; rcases hv with rfl | rfl <;> exact ⟨_, rfl⟩) hmi hci) kb_La_74 ⟨im_Mo_run, se_Mo_run⟩ rfl ho1 rfl (Nat.le_of_ble_eq_true rfl) (by decide) (Or.inr ⟨la_okL (by omega), ab_okS_n⟩) (fun r2 w2 hq2 => ?_)
  obtain ⟨rfl, hL3⟩ := hq2
  refine ex_pop de_La_534 rfl ?_
  refine ex_goto (tgt := 1184) de_La_535 (by decide) ?_
  exact K _ hL3
set_option maxHeartbeats 4000000 in
set_option maxRecDepth 20000 in
theorem la_14 {b L : Nat} {xs : Nat → Int32} {bc bs : Nat} {i c : Int} {w : ab_W} (hc0 : 0 ≤ c) (hc1 : c ≤ 1000) (h : lj_I c w) (hi : 0 ≤ i) (h6 : i + 6 ≤ L) (hL : L ≤ 3072) (K : ∀ w2, lj_I (c + 1) w2 → ab_Ex b L xs g_G g_rs mt_La 40 bc bs 1184 [some (ab_R (ab_sb + 1000)), some (ab_R 0), some (ab_R 107), some (ab_I i)] [] w2 ()) : ab_Ex b L xs g_G g_rs mt_La 40 (bc + 2) (bs + 401) 538 [some (ab_R (ab_sb + 1000)), some (ab_R 0), some (ab_R 107), some (ab_I i)] [] w () := by
  obtain ⟨S, wm, hci, hmi⟩ := h
  refine ex_room (bc := bc + 0) (bs := bs + 0) (by omega) (by omega) ?_
  obtain ⟨v1, e1⟩ : ∃ v, (xs (i + 1).toNat).toInt = v := ⟨_, rfl⟩
  have hv1 : ab_in v1 := by rw [← e1]; exact ab_toin _
  obtain ⟨v2, e2⟩ : ∃ v, (xs (i + 2).toNat).toInt = v := ⟨_, rfl⟩
  have hv2 : ab_in v2 := by rw [← e2]; exact ab_toin _
  refine ex_aload_n de_La_538 rfl rfl ?_
  refine ex_aload_n de_La_539 rfl rfl ?_
  refine ex_iload_n de_La_540 rfl rfl ?_
  refine ex_iconst de_La_541 ?_
  refine ex_iadd de_La_542 ?_
  refine ex_sld de_La_543 (by omega) (by omega) (by omega) e1 ?_
  refine ex_aload_n de_La_544 rfl rfl ?_
  refine ex_iload_n de_La_545 rfl rfl ?_
  refine ex_iconst de_La_546 ?_
  refine ex_iadd de_La_547 ?_
  refine ex_sld de_La_548 (by omega) (by omega) (by omega) e2 ?_
  obtain ⟨fs0, ho0⟩ := cy_obj hci
  have hln := cy_len hci
  refine ex_virtual (ci := 10) (bc := bc) (bs := bs) de_La_549 (cz_faces hci (my_ok hmi) hc1 v1 hv1 v2 hv2) kb_La_75 ⟨im_Tu_faces, se_Tu_faces⟩ rfl ho0 rfl (Nat.le_of_ble_eq_true rfl) (by decide) (Or.inr ⟨la_okL (by omega), ab_okS_n⟩) (fun r1 w1 hq1 => ?_)
  obtain ⟨rfl, hci⟩ := hq1
  refine ex_pop de_La_552 rfl ?_
  refine ex_aload_n de_La_553 rfl rfl ?_
  refine ex_aload_n de_La_554 rfl rfl ?_
  refine ex_iload_n de_La_555 rfl rfl ?_
  refine ex_iconst de_La_556 ?_
  refine ex_iadd de_La_557 ?_
  refine ex_sld de_La_558 (by omega) (by omega) (by omega) e1 ?_
  refine ex_aload_n de_La_559 rfl rfl ?_
  refine ex_iload_n de_La_560 rfl rfl ?_
  refine ex_iconst de_La_561 ?_
  refine ex_iadd de_La_562 ?_
  refine ex_sld de_La_563 (by omega) (by omega) (by omega) e2 ?_
  obtain ⟨fs1, ho1⟩ := lj_obj hmi hci
  have hln1 := cy_len hci
  refine ex_virtual (ci := 11) (mc := 0) (ms := 0) de_La_564 (lj_mod (R := fun r => r = some (ab_I (fa_faces S v1 v2))) (my_faces hc0 hc1 hmi v1 hv1 v2 hv2) (fun r h => ⟨_, h⟩) (by intro v hv; simp only [List.mem_cons, List.not_mem_nil, or_false] at hv; rcases hv with rfl | rfl <;> exact ⟨_, rfl⟩) hmi hci) kb_La_78 ⟨im_Mo_faces, se_Mo_faces⟩ rfl ho1 rfl (Nat.le_of_ble_eq_true rfl) (by decide) (Or.inr ⟨la_okL (by omega), ab_okS_n⟩) (fun r2 w2 hq2 => ?_)
  obtain ⟨rfl, hL3⟩ := hq2
  refine ex_pop de_La_567 rfl ?_
  refine ex_goto (tgt := 1184) de_La_568 (by decide) ?_
  exact K _ hL3
set_option maxHeartbeats 4000000 in
set_option maxRecDepth 20000 in
theorem la_15 {b L : Nat} {xs : Nat → Int32} {bc bs : Nat} {i c : Int} {w : ab_W} (hc0 : 0 ≤ c) (hc1 : c ≤ 1000) (h : lj_I c w) (hi : 0 ≤ i) (h6 : i + 6 ≤ L) (hL : L ≤ 3072) (K : ∀ w2, lj_I (c + 1) w2 → ab_Ex b L xs g_G g_rs mt_La 40 bc bs 1184 [some (ab_R (ab_sb + 1000)), some (ab_R 0), some (ab_R 107), some (ab_I i)] [] w2 ()) : ab_Ex b L xs g_G g_rs mt_La 40 (bc + 2) (bs + 401) 571 [some (ab_R (ab_sb + 1000)), some (ab_R 0), some (ab_R 107), some (ab_I i)] [] w () := by
  obtain ⟨S, wm, hci, hmi⟩ := h
  refine ex_room (bc := bc + 0) (bs := bs + 0) (by omega) (by omega) ?_
  obtain ⟨v1, e1⟩ : ∃ v, (xs (i + 1).toNat).toInt = v := ⟨_, rfl⟩
  have hv1 : ab_in v1 := by rw [← e1]; exact ab_toin _
  obtain ⟨v2, e2⟩ : ∃ v, (xs (i + 2).toNat).toInt = v := ⟨_, rfl⟩
  have hv2 : ab_in v2 := by rw [← e2]; exact ab_toin _
  refine ex_aload_n de_La_571 rfl rfl ?_
  refine ex_aload_n de_La_572 rfl rfl ?_
  refine ex_iload_n de_La_573 rfl rfl ?_
  refine ex_iconst de_La_574 ?_
  refine ex_iadd de_La_575 ?_
  refine ex_sld de_La_576 (by omega) (by omega) (by omega) e1 ?_
  refine ex_aload_n de_La_577 rfl rfl ?_
  refine ex_iload_n de_La_578 rfl rfl ?_
  refine ex_iconst de_La_579 ?_
  refine ex_iadd de_La_580 ?_
  refine ex_sld de_La_581 (by omega) (by omega) (by omega) e2 ?_
  obtain ⟨fs0, ho0⟩ := cy_obj hci
  have hln := cy_len hci
  refine ex_virtual (ci := 10) (bc := bc) (bs := bs) de_La_582 (cz_sees hci (my_ok hmi) hc1 v1 hv1 v2 hv2) kb_La_79 ⟨im_Tu_sees, se_Tu_sees⟩ rfl ho0 rfl (Nat.le_of_ble_eq_true rfl) (by decide) (Or.inr ⟨la_okL (by omega), ab_okS_n⟩) (fun r1 w1 hq1 => ?_)
  obtain ⟨rfl, hci⟩ := hq1
  refine ex_pop de_La_585 rfl ?_
  refine ex_aload_n de_La_586 rfl rfl ?_
  refine ex_aload_n de_La_587 rfl rfl ?_
  refine ex_iload_n de_La_588 rfl rfl ?_
  refine ex_iconst de_La_589 ?_
  refine ex_iadd de_La_590 ?_
  refine ex_sld de_La_591 (by omega) (by omega) (by omega) e1 ?_
  refine ex_aload_n de_La_592 rfl rfl ?_
  refine ex_iload_n de_La_593 rfl rfl ?_
  refine ex_iconst de_La_594 ?_
  refine ex_iadd de_La_595 ?_
  refine ex_sld de_La_596 (by omega) (by omega) (by omega) e2 ?_
  obtain ⟨fs1, ho1⟩ := lj_obj hmi hci
  have hln1 := cy_len hci
  refine ex_virtual (ci := 11) (mc := 0) (ms := 0) de_La_597 (lj_mod (R := fun r => r = some (ab_I (fa_sees S v1 v2))) (my_sees hc0 hc1 hmi v1 hv1 v2 hv2) (fun r h => ⟨_, h⟩) (by intro v hv; simp only [List.mem_cons, List.not_mem_nil, or_false] at hv; rcases hv with rfl | rfl <;> exact ⟨_, rfl⟩) hmi hci) kb_La_82 ⟨im_Mo_sees, se_Mo_sees⟩ rfl ho1 rfl (Nat.le_of_ble_eq_true rfl) (by decide) (Or.inr ⟨la_okL (by omega), ab_okS_n⟩) (fun r2 w2 hq2 => ?_)
  obtain ⟨rfl, hL3⟩ := hq2
  refine ex_pop de_La_600 rfl ?_
  refine ex_goto (tgt := 1184) de_La_601 (by decide) ?_
  exact K _ hL3
set_option maxHeartbeats 4000000 in
set_option maxRecDepth 20000 in
theorem la_16 {b L : Nat} {xs : Nat → Int32} {bc bs : Nat} {i c : Int} {w : ab_W} (hc0 : 0 ≤ c) (hc1 : c ≤ 1000) (h : lj_I c w) (hi : 0 ≤ i) (h6 : i + 6 ≤ L) (hL : L ≤ 3072) (K : ∀ w2, lj_I (c + 1) w2 → ab_Ex b L xs g_G g_rs mt_La 40 bc bs 1184 [some (ab_R (ab_sb + 1000)), some (ab_R 0), some (ab_R 107), some (ab_I i)] [] w2 ()) : ab_Ex b L xs g_G g_rs mt_La 40 (bc + 2) (bs + 401) 604 [some (ab_R (ab_sb + 1000)), some (ab_R 0), some (ab_R 107), some (ab_I i)] [] w () := by
  obtain ⟨S, wm, hci, hmi⟩ := h
  refine ex_room (bc := bc + 0) (bs := bs + 0) (by omega) (by omega) ?_
  obtain ⟨v1, e1⟩ : ∃ v, (xs (i + 1).toNat).toInt = v := ⟨_, rfl⟩
  have hv1 : ab_in v1 := by rw [← e1]; exact ab_toin _
  refine ex_aload_n de_La_604 rfl rfl ?_
  refine ex_aload_n de_La_605 rfl rfl ?_
  refine ex_iload_n de_La_606 rfl rfl ?_
  refine ex_iconst de_La_607 ?_
  refine ex_iadd de_La_608 ?_
  refine ex_sld de_La_609 (by omega) (by omega) (by omega) e1 ?_
  obtain ⟨fs0, ho0⟩ := cy_obj hci
  have hln := cy_len hci
  refine ex_virtual (ci := 10) (bc := bc) (bs := bs) de_La_610 (cz_day hci (my_ok hmi) hc1 v1 hv1) kb_La_83 ⟨im_Tu_day, se_Tu_day⟩ rfl ho0 rfl (Nat.le_of_ble_eq_true rfl) (by decide) (Or.inr ⟨la_okL (by omega), ab_okS_n⟩) (fun r1 w1 hq1 => ?_)
  obtain ⟨rfl, hci⟩ := hq1
  refine ex_pop de_La_613 rfl ?_
  refine ex_aload_n de_La_614 rfl rfl ?_
  refine ex_aload_n de_La_615 rfl rfl ?_
  refine ex_iload_n de_La_616 rfl rfl ?_
  refine ex_iconst de_La_617 ?_
  refine ex_iadd de_La_618 ?_
  refine ex_sld de_La_619 (by omega) (by omega) (by omega) e1 ?_
  obtain ⟨fs1, ho1⟩ := lj_obj hmi hci
  have hln1 := cy_len hci
  refine ex_virtual (ci := 11) (mc := 0) (ms := 0) de_La_620 (lj_mod (R := fun r => r = some (ab_I (fa_day S v1))) (my_day hc0 hc1 hmi v1 hv1) (fun r h => ⟨_, h⟩) (by intro v hv; simp only [List.mem_cons, List.not_mem_nil, or_false] at hv; rcases hv with rfl <;> exact ⟨_, rfl⟩) hmi hci) kb_La_86 ⟨im_Mo_day, se_Mo_day⟩ rfl ho1 rfl (Nat.le_of_ble_eq_true rfl) (by decide) (Or.inr ⟨la_okL (by omega), ab_okS_n⟩) (fun r2 w2 hq2 => ?_)
  obtain ⟨rfl, hL3⟩ := hq2
  refine ex_pop de_La_623 rfl ?_
  refine ex_goto (tgt := 1184) de_La_624 (by decide) ?_
  exact K _ hL3
set_option maxHeartbeats 4000000 in
set_option maxRecDepth 20000 in
theorem la_17 {b L : Nat} {xs : Nat → Int32} {bc bs : Nat} {i c : Int} {w : ab_W} (hc0 : 0 ≤ c) (hc1 : c ≤ 1000) (h : lj_I c w) (hi : 0 ≤ i) (h6 : i + 6 ≤ L) (hL : L ≤ 3072) (K : ∀ w2, lj_I (c + 1) w2 → ab_Ex b L xs g_G g_rs mt_La 40 bc bs 1184 [some (ab_R (ab_sb + 1000)), some (ab_R 0), some (ab_R 107), some (ab_I i)] [] w2 ()) : ab_Ex b L xs g_G g_rs mt_La 40 (bc + 2) (bs + 401) 627 [some (ab_R (ab_sb + 1000)), some (ab_R 0), some (ab_R 107), some (ab_I i)] [] w () := by
  obtain ⟨S, wm, hci, hmi⟩ := h
  refine ex_room (bc := bc + 0) (bs := bs + 0) (by omega) (by omega) ?_
  obtain ⟨v1, e1⟩ : ∃ v, (xs (i + 1).toNat).toInt = v := ⟨_, rfl⟩
  have hv1 : ab_in v1 := by rw [← e1]; exact ab_toin _
  obtain ⟨v2, e2⟩ : ∃ v, (xs (i + 2).toNat).toInt = v := ⟨_, rfl⟩
  have hv2 : ab_in v2 := by rw [← e2]; exact ab_toin _
  obtain ⟨v3, e3⟩ : ∃ v, (xs (i + 3).toNat).toInt = v := ⟨_, rfl⟩
  have hv3 : ab_in v3 := by rw [← e3]; exact ab_toin _
  refine ex_aload_n de_La_627 rfl rfl ?_
  refine ex_aload_n de_La_628 rfl rfl ?_
  refine ex_iload_n de_La_629 rfl rfl ?_
  refine ex_iconst de_La_630 ?_
  refine ex_iadd de_La_631 ?_
  refine ex_sld de_La_632 (by omega) (by omega) (by omega) e1 ?_
  refine ex_aload_n de_La_633 rfl rfl ?_
  refine ex_iload_n de_La_634 rfl rfl ?_
  refine ex_iconst de_La_635 ?_
  refine ex_iadd de_La_636 ?_
  refine ex_sld de_La_637 (by omega) (by omega) (by omega) e2 ?_
  refine ex_if_eq (tgt := 645) de_La_638 (by decide) hv2 (fun h638 => ?_) (fun h638 => ?_)
  · skip
    refine ex_iconst de_La_645 ?_
    refine ex_aload_n de_La_646 rfl rfl ?_
    refine ex_iload_n de_La_647 rfl rfl ?_
    refine ex_iconst de_La_648 ?_
    refine ex_iadd de_La_649 ?_
    refine ex_sld de_La_650 (by omega) (by omega) (by omega) e3 ?_
    obtain ⟨fs0, ho0⟩ := cy_obj hci
    have hln := cy_len hci
    refine ex_virtual (ci := 10) (bc := bc) (bs := bs) de_La_651 (cy_plan hci (my_ok hmi) hc1 v1 hv1 0 (by decide) v3 hv3) kb_La_87 ⟨im_Tu_plan, se_Tu_plan⟩ rfl ho0 rfl (Nat.le_of_ble_eq_true rfl) (by decide) (Or.inr ⟨la_okL (by omega), ab_okS_n⟩) (fun r1 w1 hq1 => ?_)
    obtain ⟨⟨v9, rfl⟩, hci⟩ := hq1
    refine ex_pop de_La_654 rfl ?_
    refine ex_aload_n de_La_655 rfl rfl ?_
    refine ex_aload_n de_La_656 rfl rfl ?_
    refine ex_iload_n de_La_657 rfl rfl ?_
    refine ex_iconst de_La_658 ?_
    refine ex_iadd de_La_659 ?_
    refine ex_sld de_La_660 (by omega) (by omega) (by omega) e1 ?_
    refine ex_aload_n de_La_661 rfl rfl ?_
    refine ex_iload_n de_La_662 rfl rfl ?_
    refine ex_iconst de_La_663 ?_
    refine ex_iadd de_La_664 ?_
    refine ex_sld de_La_665 (by omega) (by omega) (by omega) e2 ?_
    refine ex_if_eq (tgt := 673) de_La_666 (by decide) hv2 (fun h666 => ?_) (fun h666 => ?_)
    · skip
      refine ex_iconst de_La_673 ?_
      refine ex_aload_n de_La_674 rfl rfl ?_
      refine ex_iload_n de_La_675 rfl rfl ?_
      refine ex_iconst de_La_676 ?_
      refine ex_iadd de_La_677 ?_
      refine ex_sld de_La_678 (by omega) (by omega) (by omega) e3 ?_
      obtain ⟨fs1, ho1⟩ := lj_obj hmi hci
      have hln1 := cy_len hci
      refine ex_virtual (ci := 11) (mc := 0) (ms := 0) de_La_679 (lj_mod (R := fun r => r = some (ab_I (fa_plan S v1 0 v3))) (my_plan hc0 hc1 hmi v1 hv1 0 (by decide) v3 hv3) (fun r h => ⟨_, h⟩) (by intro v hv; simp only [List.mem_cons, List.not_mem_nil, or_false] at hv; rcases hv with rfl | rfl | rfl <;> exact ⟨_, rfl⟩) hmi hci) kb_La_91 ⟨im_Mo_plan, se_Mo_plan⟩ rfl ho1 rfl (Nat.le_of_ble_eq_true rfl) (by decide) (Or.inr ⟨la_okL (by omega), ab_okS_n⟩) (fun r2 w2 hq2 => ?_)
      obtain ⟨rfl, hL3⟩ := hq2
      refine ex_pop de_La_682 rfl ?_
      refine ex_goto (tgt := 1184) de_La_683 (by decide) ?_
      exact K _ hL3
    · exact absurd h638 h666
  · skip
    refine ex_iconst de_La_641 ?_
    refine ex_goto (tgt := 646) de_La_642 (by decide) ?_
    refine ex_aload_n de_La_646 rfl rfl ?_
    refine ex_iload_n de_La_647 rfl rfl ?_
    refine ex_iconst de_La_648 ?_
    refine ex_iadd de_La_649 ?_
    refine ex_sld de_La_650 (by omega) (by omega) (by omega) e3 ?_
    obtain ⟨fs0, ho0⟩ := cy_obj hci
    have hln := cy_len hci
    refine ex_virtual (ci := 10) (bc := bc) (bs := bs) de_La_651 (cy_plan hci (my_ok hmi) hc1 v1 hv1 1 (by decide) v3 hv3) kb_La_87 ⟨im_Tu_plan, se_Tu_plan⟩ rfl ho0 rfl (Nat.le_of_ble_eq_true rfl) (by decide) (Or.inr ⟨la_okL (by omega), ab_okS_n⟩) (fun r1 w1 hq1 => ?_)
    obtain ⟨⟨v9, rfl⟩, hci⟩ := hq1
    refine ex_pop de_La_654 rfl ?_
    refine ex_aload_n de_La_655 rfl rfl ?_
    refine ex_aload_n de_La_656 rfl rfl ?_
    refine ex_iload_n de_La_657 rfl rfl ?_
    refine ex_iconst de_La_658 ?_
    refine ex_iadd de_La_659 ?_
    refine ex_sld de_La_660 (by omega) (by omega) (by omega) e1 ?_
    refine ex_aload_n de_La_661 rfl rfl ?_
    refine ex_iload_n de_La_662 rfl rfl ?_
    refine ex_iconst de_La_663 ?_
    refine ex_iadd de_La_664 ?_
    refine ex_sld de_La_665 (by omega) (by omega) (by omega) e2 ?_
    refine ex_if_eq (tgt := 673) de_La_666 (by decide) hv2 (fun h666 => ?_) (fun h666 => ?_)
    · exact absurd h666 h638
    · skip
      refine ex_iconst de_La_669 ?_
      refine ex_goto (tgt := 674) de_La_670 (by decide) ?_
      refine ex_aload_n de_La_674 rfl rfl ?_
      refine ex_iload_n de_La_675 rfl rfl ?_
      refine ex_iconst de_La_676 ?_
      refine ex_iadd de_La_677 ?_
      refine ex_sld de_La_678 (by omega) (by omega) (by omega) e3 ?_
      obtain ⟨fs1, ho1⟩ := lj_obj hmi hci
      have hln1 := cy_len hci
      refine ex_virtual (ci := 11) (mc := 0) (ms := 0) de_La_679 (lj_mod (R := fun r => r = some (ab_I (fa_plan S v1 1 v3))) (my_plan hc0 hc1 hmi v1 hv1 1 (by decide) v3 hv3) (fun r h => ⟨_, h⟩) (by intro v hv; simp only [List.mem_cons, List.not_mem_nil, or_false] at hv; rcases hv with rfl | rfl | rfl <;> exact ⟨_, rfl⟩) hmi hci) kb_La_91 ⟨im_Mo_plan, se_Mo_plan⟩ rfl ho1 rfl (Nat.le_of_ble_eq_true rfl) (by decide) (Or.inr ⟨la_okL (by omega), ab_okS_n⟩) (fun r2 w2 hq2 => ?_)
      obtain ⟨rfl, hL3⟩ := hq2
      refine ex_pop de_La_682 rfl ?_
      refine ex_goto (tgt := 1184) de_La_683 (by decide) ?_
      exact K _ hL3
set_option maxHeartbeats 4000000 in
set_option maxRecDepth 20000 in
theorem la_18 {b L : Nat} {xs : Nat → Int32} {bc bs : Nat} {i c : Int} {w : ab_W} (hc0 : 0 ≤ c) (hc1 : c ≤ 1000) (h : lj_I c w) (hi : 0 ≤ i) (h6 : i + 6 ≤ L) (hL : L ≤ 3072) (K : ∀ w2, lj_I (c + 1) w2 → ab_Ex b L xs g_G g_rs mt_La 40 bc bs 1184 [some (ab_R (ab_sb + 1000)), some (ab_R 0), some (ab_R 107), some (ab_I i)] [] w2 ()) : ab_Ex b L xs g_G g_rs mt_La 40 (bc + 2) (bs + 401) 686 [some (ab_R (ab_sb + 1000)), some (ab_R 0), some (ab_R 107), some (ab_I i)] [] w () := by
  obtain ⟨S, wm, hci, hmi⟩ := h
  refine ex_room (bc := bc + 0) (bs := bs + 0) (by omega) (by omega) ?_
  obtain ⟨v1, e1⟩ : ∃ v, (xs (i + 1).toNat).toInt = v := ⟨_, rfl⟩
  have hv1 : ab_in v1 := by rw [← e1]; exact ab_toin _
  obtain ⟨v2, e2⟩ : ∃ v, (xs (i + 2).toNat).toInt = v := ⟨_, rfl⟩
  have hv2 : ab_in v2 := by rw [← e2]; exact ab_toin _
  obtain ⟨v3, e3⟩ : ∃ v, (xs (i + 3).toNat).toInt = v := ⟨_, rfl⟩
  have hv3 : ab_in v3 := by rw [← e3]; exact ab_toin _
  obtain ⟨v4, e4⟩ : ∃ v, (xs (i + 4).toNat).toInt = v := ⟨_, rfl⟩
  have hv4 : ab_in v4 := by rw [← e4]; exact ab_toin _
  refine ex_aload_n de_La_686 rfl rfl ?_
  refine ex_aload_n de_La_687 rfl rfl ?_
  refine ex_iload_n de_La_688 rfl rfl ?_
  refine ex_iconst de_La_689 ?_
  refine ex_iadd de_La_690 ?_
  refine ex_sld de_La_691 (by omega) (by omega) (by omega) e1 ?_
  refine ex_aload_n de_La_692 rfl rfl ?_
  refine ex_iload_n de_La_693 rfl rfl ?_
  refine ex_iconst de_La_694 ?_
  refine ex_iadd de_La_695 ?_
  refine ex_sld de_La_696 (by omega) (by omega) (by omega) e2 ?_
  refine ex_aload_n de_La_697 rfl rfl ?_
  refine ex_iload_n de_La_698 rfl rfl ?_
  refine ex_iconst de_La_699 ?_
  refine ex_iadd de_La_700 ?_
  refine ex_sld de_La_701 (by omega) (by omega) (by omega) e3 ?_
  refine ex_aload_n de_La_702 rfl rfl ?_
  refine ex_iload_n de_La_703 rfl rfl ?_
  refine ex_iconst de_La_704 ?_
  refine ex_iadd de_La_705 ?_
  refine ex_sld de_La_706 (by omega) (by omega) (by omega) e4 ?_
  obtain ⟨fs0, ho0⟩ := cy_obj hci
  have hln := cy_len hci
  refine ex_virtual (ci := 10) (bc := bc) (bs := bs) de_La_707 (cy_errand hci (my_ok hmi) hc1 v1 hv1 v2 hv2 v3 hv3 v4 hv4) kb_La_92 ⟨im_Tu_errand, se_Tu_errand⟩ rfl ho0 rfl (Nat.le_of_ble_eq_true rfl) (by decide) (Or.inr ⟨la_okL (by omega), ab_okS_n⟩) (fun r1 w1 hq1 => ?_)
  obtain ⟨⟨v9, rfl⟩, hci⟩ := hq1
  refine ex_pop de_La_710 rfl ?_
  refine ex_aload_n de_La_711 rfl rfl ?_
  refine ex_aload_n de_La_712 rfl rfl ?_
  refine ex_iload_n de_La_713 rfl rfl ?_
  refine ex_iconst de_La_714 ?_
  refine ex_iadd de_La_715 ?_
  refine ex_sld de_La_716 (by omega) (by omega) (by omega) e1 ?_
  refine ex_aload_n de_La_717 rfl rfl ?_
  refine ex_iload_n de_La_718 rfl rfl ?_
  refine ex_iconst de_La_719 ?_
  refine ex_iadd de_La_720 ?_
  refine ex_sld de_La_721 (by omega) (by omega) (by omega) e2 ?_
  refine ex_aload_n de_La_722 rfl rfl ?_
  refine ex_iload_n de_La_723 rfl rfl ?_
  refine ex_iconst de_La_724 ?_
  refine ex_iadd de_La_725 ?_
  refine ex_sld de_La_726 (by omega) (by omega) (by omega) e3 ?_
  refine ex_aload_n de_La_727 rfl rfl ?_
  refine ex_iload_n de_La_728 rfl rfl ?_
  refine ex_iconst de_La_729 ?_
  refine ex_iadd de_La_730 ?_
  refine ex_sld de_La_731 (by omega) (by omega) (by omega) e4 ?_
  obtain ⟨fs1, ho1⟩ := lj_obj hmi hci
  have hln1 := cy_len hci
  refine ex_virtual (ci := 11) (mc := 0) (ms := 0) de_La_732 (lj_mod (R := fun r => ∃ v, r = some (ab_I v)) (my_errand hc0 hc1 hmi v1 hv1 v2 hv2 v3 hv3 v4 hv4) (fun r h => h) (by intro v hv; simp only [List.mem_cons, List.not_mem_nil, or_false] at hv; rcases hv with rfl | rfl | rfl | rfl <;> exact ⟨_, rfl⟩) hmi hci) kb_La_96 ⟨im_Mo_errand, se_Mo_errand⟩ rfl ho1 rfl (Nat.le_of_ble_eq_true rfl) (by decide) (Or.inr ⟨la_okL (by omega), ab_okS_n⟩) (fun r2 w2 hq2 => ?_)
  obtain ⟨⟨v8, rfl⟩, hL3⟩ := hq2
  refine ex_pop de_La_735 rfl ?_
  refine ex_goto (tgt := 1184) de_La_736 (by decide) ?_
  exact K _ hL3
set_option maxHeartbeats 4000000 in
set_option maxRecDepth 20000 in
theorem la_19 {b L : Nat} {xs : Nat → Int32} {bc bs : Nat} {i c : Int} {w : ab_W} (hc0 : 0 ≤ c) (hc1 : c ≤ 1000) (h : lj_I c w) (hi : 0 ≤ i) (h6 : i + 6 ≤ L) (hL : L ≤ 3072) (K : ∀ w2, lj_I (c + 1) w2 → ab_Ex b L xs g_G g_rs mt_La 40 bc bs 1184 [some (ab_R (ab_sb + 1000)), some (ab_R 0), some (ab_R 107), some (ab_I i)] [] w2 ()) : ab_Ex b L xs g_G g_rs mt_La 40 (bc + 2) (bs + 401) 739 [some (ab_R (ab_sb + 1000)), some (ab_R 0), some (ab_R 107), some (ab_I i)] [] w () := by
  obtain ⟨S, wm, hci, hmi⟩ := h
  refine ex_room (bc := bc + 0) (bs := bs + 0) (by omega) (by omega) ?_
  obtain ⟨v1, e1⟩ : ∃ v, (xs (i + 1).toNat).toInt = v := ⟨_, rfl⟩
  have hv1 : ab_in v1 := by rw [← e1]; exact ab_toin _
  refine ex_aload_n de_La_739 rfl rfl ?_
  refine ex_aload_n de_La_740 rfl rfl ?_
  refine ex_iload_n de_La_741 rfl rfl ?_
  refine ex_iconst de_La_742 ?_
  refine ex_iadd de_La_743 ?_
  refine ex_sld de_La_744 (by omega) (by omega) (by omega) e1 ?_
  obtain ⟨fs0, ho0⟩ := cy_obj hci
  have hln := cy_len hci
  refine ex_virtual (ci := 10) (bc := bc) (bs := bs) de_La_745 (cy_stay hci (my_ok hmi) hc1 v1 hv1) kb_La_97 ⟨im_Tu_stay, se_Tu_stay⟩ rfl ho0 rfl (Nat.le_of_ble_eq_true rfl) (by decide) (Or.inr ⟨la_okL (by omega), ab_okS_n⟩) (fun r1 w1 hq1 => ?_)
  obtain ⟨⟨v9, rfl⟩, hci⟩ := hq1
  refine ex_pop de_La_748 rfl ?_
  refine ex_aload_n de_La_749 rfl rfl ?_
  refine ex_aload_n de_La_750 rfl rfl ?_
  refine ex_iload_n de_La_751 rfl rfl ?_
  refine ex_iconst de_La_752 ?_
  refine ex_iadd de_La_753 ?_
  refine ex_sld de_La_754 (by omega) (by omega) (by omega) e1 ?_
  obtain ⟨fs1, ho1⟩ := lj_obj hmi hci
  have hln1 := cy_len hci
  refine ex_virtual (ci := 11) (mc := 0) (ms := 0) de_La_755 (lj_mod (R := fun r => r = some (ab_I (fa_stay S v1))) (my_stay hc0 hc1 hmi v1 hv1) (fun r h => ⟨_, h⟩) (by intro v hv; simp only [List.mem_cons, List.not_mem_nil, or_false] at hv; rcases hv with rfl <;> exact ⟨_, rfl⟩) hmi hci) kb_La_100 ⟨im_Mo_stay, se_Mo_stay⟩ rfl ho1 rfl (Nat.le_of_ble_eq_true rfl) (by decide) (Or.inr ⟨la_okL (by omega), ab_okS_n⟩) (fun r2 w2 hq2 => ?_)
  obtain ⟨rfl, hL3⟩ := hq2
  refine ex_pop de_La_758 rfl ?_
  refine ex_goto (tgt := 1184) de_La_759 (by decide) ?_
  exact K _ hL3
set_option maxHeartbeats 4000000 in
set_option maxRecDepth 20000 in
theorem la_20 {b L : Nat} {xs : Nat → Int32} {bc bs : Nat} {i c : Int} {w : ab_W} (hc0 : 0 ≤ c) (hc1 : c ≤ 1000) (h : lj_I c w) (hi : 0 ≤ i) (h6 : i + 6 ≤ L) (hL : L ≤ 3072) (K : ∀ w2, lj_I (c + 1) w2 → ab_Ex b L xs g_G g_rs mt_La 40 bc bs 1184 [some (ab_R (ab_sb + 1000)), some (ab_R 0), some (ab_R 107), some (ab_I i)] [] w2 ()) : ab_Ex b L xs g_G g_rs mt_La 40 (bc + 2) (bs + 401) 762 [some (ab_R (ab_sb + 1000)), some (ab_R 0), some (ab_R 107), some (ab_I i)] [] w () := by
  obtain ⟨S, wm, hci, hmi⟩ := h
  refine ex_room (bc := bc + 0) (bs := bs + 0) (by omega) (by omega) ?_
  obtain ⟨v1, e1⟩ : ∃ v, (xs (i + 1).toNat).toInt = v := ⟨_, rfl⟩
  have hv1 : ab_in v1 := by rw [← e1]; exact ab_toin _
  refine ex_aload_n de_La_762 rfl rfl ?_
  refine ex_aload_n de_La_763 rfl rfl ?_
  refine ex_iload_n de_La_764 rfl rfl ?_
  refine ex_iconst de_La_765 ?_
  refine ex_iadd de_La_766 ?_
  refine ex_sld de_La_767 (by omega) (by omega) (by omega) e1 ?_
  obtain ⟨fs0, ho0⟩ := cy_obj hci
  have hln := cy_len hci
  refine ex_virtual (ci := 10) (bc := bc) (bs := bs) de_La_768 (cy_swings hci (my_ok hmi) hc1 v1 hv1) kb_La_101 ⟨im_Tu_swings, se_Tu_swings⟩ rfl ho0 rfl (Nat.le_of_ble_eq_true rfl) (by decide) (Or.inr ⟨la_okL (by omega), ab_okS_n⟩) (fun r1 w1 hq1 => ?_)
  obtain ⟨⟨v9, rfl⟩, hci⟩ := hq1
  refine ex_pop de_La_771 rfl ?_
  refine ex_aload_n de_La_772 rfl rfl ?_
  refine ex_aload_n de_La_773 rfl rfl ?_
  refine ex_iload_n de_La_774 rfl rfl ?_
  refine ex_iconst de_La_775 ?_
  refine ex_iadd de_La_776 ?_
  refine ex_sld de_La_777 (by omega) (by omega) (by omega) e1 ?_
  obtain ⟨fs1, ho1⟩ := lj_obj hmi hci
  have hln1 := cy_len hci
  refine ex_virtual (ci := 11) (mc := 0) (ms := 0) de_La_778 (lj_mod (R := fun r => r = some (ab_I (fa_swings S v1))) (my_swings hc0 hc1 hmi v1 hv1) (fun r h => ⟨_, h⟩) (by intro v hv; simp only [List.mem_cons, List.not_mem_nil, or_false] at hv; rcases hv with rfl <;> exact ⟨_, rfl⟩) hmi hci) kb_La_104 ⟨im_Mo_swings, se_Mo_swings⟩ rfl ho1 rfl (Nat.le_of_ble_eq_true rfl) (by decide) (Or.inr ⟨la_okL (by omega), ab_okS_n⟩) (fun r2 w2 hq2 => ?_)
  obtain ⟨rfl, hL3⟩ := hq2
  refine ex_pop de_La_781 rfl ?_
  refine ex_goto (tgt := 1184) de_La_782 (by decide) ?_
  exact K _ hL3
set_option maxHeartbeats 4000000 in
set_option maxRecDepth 20000 in
theorem la_21 {b L : Nat} {xs : Nat → Int32} {bc bs : Nat} {i c : Int} {w : ab_W} (hc0 : 0 ≤ c) (hc1 : c ≤ 1000) (h : lj_I c w) (hi : 0 ≤ i) (h6 : i + 6 ≤ L) (hL : L ≤ 3072) (K : ∀ w2, lj_I (c + 1) w2 → ab_Ex b L xs g_G g_rs mt_La 40 bc bs 1184 [some (ab_R (ab_sb + 1000)), some (ab_R 0), some (ab_R 107), some (ab_I i)] [] w2 ()) : ab_Ex b L xs g_G g_rs mt_La 40 (bc + 2) (bs + 401) 785 [some (ab_R (ab_sb + 1000)), some (ab_R 0), some (ab_R 107), some (ab_I i)] [] w () := by
  obtain ⟨S, wm, hci, hmi⟩ := h
  refine ex_room (bc := bc + 0) (bs := bs + 0) (by omega) (by omega) ?_
  obtain ⟨v1, e1⟩ : ∃ v, (xs (i + 1).toNat).toInt = v := ⟨_, rfl⟩
  have hv1 : ab_in v1 := by rw [← e1]; exact ab_toin _
  refine ex_aload_n de_La_785 rfl rfl ?_
  refine ex_aload_n de_La_786 rfl rfl ?_
  refine ex_iload_n de_La_787 rfl rfl ?_
  refine ex_iconst de_La_788 ?_
  refine ex_iadd de_La_789 ?_
  refine ex_sld de_La_790 (by omega) (by omega) (by omega) e1 ?_
  obtain ⟨fs0, ho0⟩ := cy_obj hci
  have hln := cy_len hci
  refine ex_virtual (ci := 10) (bc := bc) (bs := bs) de_La_791 (cy_trade hci (my_ok hmi) hc1 v1 hv1) kb_La_105 ⟨im_Tu_trade, se_Tu_trade⟩ rfl ho0 rfl (Nat.le_of_ble_eq_true rfl) (by decide) (Or.inr ⟨la_okL (by omega), ab_okS_n⟩) (fun r1 w1 hq1 => ?_)
  obtain ⟨⟨v9, rfl⟩, hci⟩ := hq1
  refine ex_pop de_La_794 rfl ?_
  refine ex_aload_n de_La_795 rfl rfl ?_
  refine ex_aload_n de_La_796 rfl rfl ?_
  refine ex_iload_n de_La_797 rfl rfl ?_
  refine ex_iconst de_La_798 ?_
  refine ex_iadd de_La_799 ?_
  refine ex_sld de_La_800 (by omega) (by omega) (by omega) e1 ?_
  obtain ⟨fs1, ho1⟩ := lj_obj hmi hci
  have hln1 := cy_len hci
  refine ex_virtual (ci := 11) (mc := 0) (ms := 0) de_La_801 (lj_mod (R := fun r => ∃ v, r = some (ab_I v)) (my_trade hc0 hc1 hmi v1 hv1) (fun r h => h) (by intro v hv; simp only [List.mem_cons, List.not_mem_nil, or_false] at hv; rcases hv with rfl <;> exact ⟨_, rfl⟩) hmi hci) kb_La_108 ⟨im_Mo_trade, se_Mo_trade⟩ rfl ho1 rfl (Nat.le_of_ble_eq_true rfl) (by decide) (Or.inr ⟨la_okL (by omega), ab_okS_n⟩) (fun r2 w2 hq2 => ?_)
  obtain ⟨⟨v8, rfl⟩, hL3⟩ := hq2
  refine ex_pop de_La_804 rfl ?_
  refine ex_goto (tgt := 1184) de_La_805 (by decide) ?_
  exact K _ hL3
set_option maxHeartbeats 4000000 in
set_option maxRecDepth 20000 in
theorem la_22 {b L : Nat} {xs : Nat → Int32} {bc bs : Nat} {i c : Int} {w : ab_W} (hc0 : 0 ≤ c) (hc1 : c ≤ 1000) (h : lj_I c w) (hi : 0 ≤ i) (h6 : i + 6 ≤ L) (hL : L ≤ 3072) (K : ∀ w2, lj_I (c + 1) w2 → ab_Ex b L xs g_G g_rs mt_La 40 bc bs 1184 [some (ab_R (ab_sb + 1000)), some (ab_R 0), some (ab_R 107), some (ab_I i)] [] w2 ()) : ab_Ex b L xs g_G g_rs mt_La 40 (bc + 2) (bs + 401) 808 [some (ab_R (ab_sb + 1000)), some (ab_R 0), some (ab_R 107), some (ab_I i)] [] w () := by
  obtain ⟨S, wm, hci, hmi⟩ := h
  refine ex_room (bc := bc + 0) (bs := bs + 0) (by omega) (by omega) ?_
  obtain ⟨v1, e1⟩ : ∃ v, (xs (i + 1).toNat).toInt = v := ⟨_, rfl⟩
  have hv1 : ab_in v1 := by rw [← e1]; exact ab_toin _
  obtain ⟨v2, e2⟩ : ∃ v, (xs (i + 2).toNat).toInt = v := ⟨_, rfl⟩
  have hv2 : ab_in v2 := by rw [← e2]; exact ab_toin _
  obtain ⟨v3, e3⟩ : ∃ v, (xs (i + 3).toNat).toInt = v := ⟨_, rfl⟩
  have hv3 : ab_in v3 := by rw [← e3]; exact ab_toin _
  refine ex_aload_n de_La_808 rfl rfl ?_
  refine ex_aload_n de_La_809 rfl rfl ?_
  refine ex_iload_n de_La_810 rfl rfl ?_
  refine ex_iconst de_La_811 ?_
  refine ex_iadd de_La_812 ?_
  refine ex_sld de_La_813 (by omega) (by omega) (by omega) e1 ?_
  refine ex_aload_n de_La_814 rfl rfl ?_
  refine ex_iload_n de_La_815 rfl rfl ?_
  refine ex_iconst de_La_816 ?_
  refine ex_iadd de_La_817 ?_
  refine ex_sld de_La_818 (by omega) (by omega) (by omega) e2 ?_
  refine ex_aload_n de_La_819 rfl rfl ?_
  refine ex_iload_n de_La_820 rfl rfl ?_
  refine ex_iconst de_La_821 ?_
  refine ex_iadd de_La_822 ?_
  refine ex_sld de_La_823 (by omega) (by omega) (by omega) e3 ?_
  obtain ⟨fs0, ho0⟩ := cy_obj hci
  have hln := cy_len hci
  refine ex_virtual (ci := 10) (bc := bc) (bs := bs) de_La_824 (cy_spare hci (my_ok hmi) hc1 v1 hv1 v2 hv2 v3 hv3) kb_La_109 ⟨im_Tu_spare, se_Tu_spare⟩ rfl ho0 rfl (Nat.le_of_ble_eq_true rfl) (by decide) (Or.inr ⟨la_okL (by omega), ab_okS_n⟩) (fun r1 w1 hq1 => ?_)
  obtain ⟨⟨v9, rfl⟩, hci⟩ := hq1
  refine ex_pop de_La_827 rfl ?_
  refine ex_aload_n de_La_828 rfl rfl ?_
  refine ex_aload_n de_La_829 rfl rfl ?_
  refine ex_iload_n de_La_830 rfl rfl ?_
  refine ex_iconst de_La_831 ?_
  refine ex_iadd de_La_832 ?_
  refine ex_sld de_La_833 (by omega) (by omega) (by omega) e1 ?_
  refine ex_aload_n de_La_834 rfl rfl ?_
  refine ex_iload_n de_La_835 rfl rfl ?_
  refine ex_iconst de_La_836 ?_
  refine ex_iadd de_La_837 ?_
  refine ex_sld de_La_838 (by omega) (by omega) (by omega) e2 ?_
  refine ex_aload_n de_La_839 rfl rfl ?_
  refine ex_iload_n de_La_840 rfl rfl ?_
  refine ex_iconst de_La_841 ?_
  refine ex_iadd de_La_842 ?_
  refine ex_sld de_La_843 (by omega) (by omega) (by omega) e3 ?_
  obtain ⟨fs1, ho1⟩ := lj_obj hmi hci
  have hln1 := cy_len hci
  refine ex_virtual (ci := 11) (mc := 0) (ms := 0) de_La_844 (lj_mod (R := fun r => r = some (ab_I (fa_spare S v1 v2 v3))) (my_spare hc0 hc1 hmi v1 hv1 v2 hv2 v3 hv3) (fun r h => ⟨_, h⟩) (by intro v hv; simp only [List.mem_cons, List.not_mem_nil, or_false] at hv; rcases hv with rfl | rfl | rfl <;> exact ⟨_, rfl⟩) hmi hci) kb_La_113 ⟨im_Mo_spare, se_Mo_spare⟩ rfl ho1 rfl (Nat.le_of_ble_eq_true rfl) (by decide) (Or.inr ⟨la_okL (by omega), ab_okS_n⟩) (fun r2 w2 hq2 => ?_)
  obtain ⟨rfl, hL3⟩ := hq2
  refine ex_pop de_La_847 rfl ?_
  refine ex_goto (tgt := 1184) de_La_848 (by decide) ?_
  exact K _ hL3
set_option maxHeartbeats 4000000 in
set_option maxRecDepth 20000 in
theorem la_23 {b L : Nat} {xs : Nat → Int32} {bc bs : Nat} {i c : Int} {w : ab_W} (hc0 : 0 ≤ c) (hc1 : c ≤ 1000) (h : lj_I c w) (hi : 0 ≤ i) (h6 : i + 6 ≤ L) (hL : L ≤ 3072) (K : ∀ w2, lj_I (c + 1) w2 → ab_Ex b L xs g_G g_rs mt_La 40 bc bs 1184 [some (ab_R (ab_sb + 1000)), some (ab_R 0), some (ab_R 107), some (ab_I i)] [] w2 ()) : ab_Ex b L xs g_G g_rs mt_La 40 (bc + 2) (bs + 401) 851 [some (ab_R (ab_sb + 1000)), some (ab_R 0), some (ab_R 107), some (ab_I i)] [] w () := by
  obtain ⟨S, wm, hci, hmi⟩ := h
  refine ex_room (bc := bc + 0) (bs := bs + 0) (by omega) (by omega) ?_
  obtain ⟨v1, e1⟩ : ∃ v, (xs (i + 1).toNat).toInt = v := ⟨_, rfl⟩
  have hv1 : ab_in v1 := by rw [← e1]; exact ab_toin _
  obtain ⟨v2, e2⟩ : ∃ v, (xs (i + 2).toNat).toInt = v := ⟨_, rfl⟩
  have hv2 : ab_in v2 := by rw [← e2]; exact ab_toin _
  obtain ⟨v3, e3⟩ : ∃ v, (xs (i + 3).toNat).toInt = v := ⟨_, rfl⟩
  have hv3 : ab_in v3 := by rw [← e3]; exact ab_toin _
  obtain ⟨v4, e4⟩ : ∃ v, (xs (i + 4).toNat).toInt = v := ⟨_, rfl⟩
  have hv4 : ab_in v4 := by rw [← e4]; exact ab_toin _
  obtain ⟨v5, e5⟩ : ∃ v, (xs (i + 5).toNat).toInt = v := ⟨_, rfl⟩
  have hv5 : ab_in v5 := by rw [← e5]; exact ab_toin _
  refine ex_aload_n de_La_851 rfl rfl ?_
  refine ex_aload_n de_La_852 rfl rfl ?_
  refine ex_iload_n de_La_853 rfl rfl ?_
  refine ex_iconst de_La_854 ?_
  refine ex_iadd de_La_855 ?_
  refine ex_sld de_La_856 (by omega) (by omega) (by omega) e1 ?_
  refine ex_aload_n de_La_857 rfl rfl ?_
  refine ex_iload_n de_La_858 rfl rfl ?_
  refine ex_iconst de_La_859 ?_
  refine ex_iadd de_La_860 ?_
  refine ex_sld de_La_861 (by omega) (by omega) (by omega) e2 ?_
  refine ex_aload_n de_La_862 rfl rfl ?_
  refine ex_iload_n de_La_863 rfl rfl ?_
  refine ex_iconst de_La_864 ?_
  refine ex_iadd de_La_865 ?_
  refine ex_sld de_La_866 (by omega) (by omega) (by omega) e3 ?_
  refine ex_aload_n de_La_867 rfl rfl ?_
  refine ex_iload_n de_La_868 rfl rfl ?_
  refine ex_iconst de_La_869 ?_
  refine ex_iadd de_La_870 ?_
  refine ex_sld de_La_871 (by omega) (by omega) (by omega) e4 ?_
  refine ex_aload_n de_La_872 rfl rfl ?_
  refine ex_iload_n de_La_873 rfl rfl ?_
  refine ex_iconst de_La_874 ?_
  refine ex_iadd de_La_875 ?_
  refine ex_sld de_La_876 (by omega) (by omega) (by omega) e5 ?_
  obtain ⟨fs0, ho0⟩ := cy_obj hci
  have hln := cy_len hci
  refine ex_virtual (ci := 10) (bc := bc) (bs := bs) de_La_877 (cy_apart hci (my_ok hmi) hc1 v1 hv1 v2 hv2 v3 hv3 v4 hv4 v5 hv5) kb_La_114 ⟨im_Tu_apart, se_Tu_apart⟩ rfl ho0 rfl (Nat.le_of_ble_eq_true rfl) (by decide) (Or.inr ⟨la_okL (by omega), ab_okS_n⟩) (fun r1 w1 hq1 => ?_)
  obtain ⟨⟨v9, rfl⟩, hci⟩ := hq1
  refine ex_pop de_La_880 rfl ?_
  refine ex_aload_n de_La_881 rfl rfl ?_
  refine ex_aload_n de_La_882 rfl rfl ?_
  refine ex_iload_n de_La_883 rfl rfl ?_
  refine ex_iconst de_La_884 ?_
  refine ex_iadd de_La_885 ?_
  refine ex_sld de_La_886 (by omega) (by omega) (by omega) e1 ?_
  refine ex_aload_n de_La_887 rfl rfl ?_
  refine ex_iload_n de_La_888 rfl rfl ?_
  refine ex_iconst de_La_889 ?_
  refine ex_iadd de_La_890 ?_
  refine ex_sld de_La_891 (by omega) (by omega) (by omega) e2 ?_
  refine ex_aload_n de_La_892 rfl rfl ?_
  refine ex_iload_n de_La_893 rfl rfl ?_
  refine ex_iconst de_La_894 ?_
  refine ex_iadd de_La_895 ?_
  refine ex_sld de_La_896 (by omega) (by omega) (by omega) e3 ?_
  refine ex_aload_n de_La_897 rfl rfl ?_
  refine ex_iload_n de_La_898 rfl rfl ?_
  refine ex_iconst de_La_899 ?_
  refine ex_iadd de_La_900 ?_
  refine ex_sld de_La_901 (by omega) (by omega) (by omega) e4 ?_
  refine ex_aload_n de_La_902 rfl rfl ?_
  refine ex_iload_n de_La_903 rfl rfl ?_
  refine ex_iconst de_La_904 ?_
  refine ex_iadd de_La_905 ?_
  refine ex_sld de_La_906 (by omega) (by omega) (by omega) e5 ?_
  obtain ⟨fs1, ho1⟩ := lj_obj hmi hci
  have hln1 := cy_len hci
  refine ex_virtual (ci := 11) (mc := 0) (ms := 0) de_La_907 (lj_mod (R := fun r => ∃ v, r = some (ab_I v)) (my_apart hc0 hc1 hmi v1 hv1 v2 hv2 v3 hv3 v4 hv4 v5 hv5) (fun r h => h) (by intro v hv; simp only [List.mem_cons, List.not_mem_nil, or_false] at hv; rcases hv with rfl | rfl | rfl | rfl | rfl <;> exact ⟨_, rfl⟩) hmi hci) kb_La_117 ⟨im_Mo_apart, se_Mo_apart⟩ rfl ho1 rfl (Nat.le_of_ble_eq_true rfl) (by decide) (Or.inr ⟨la_okL (by omega), ab_okS_n⟩) (fun r2 w2 hq2 => ?_)
  obtain ⟨⟨v8, rfl⟩, hL3⟩ := hq2
  refine ex_pop de_La_910 rfl ?_
  refine ex_goto (tgt := 1184) de_La_911 (by decide) ?_
  exact K _ hL3
set_option maxHeartbeats 4000000 in
set_option maxRecDepth 20000 in
theorem la_24 {b L : Nat} {xs : Nat → Int32} {bc bs : Nat} {i c : Int} {w : ab_W} (hc0 : 0 ≤ c) (hc1 : c ≤ 1000) (h : lj_I c w) (hi : 0 ≤ i) (h6 : i + 6 ≤ L) (hL : L ≤ 3072) (K : ∀ w2, lj_I (c + 1) w2 → ab_Ex b L xs g_G g_rs mt_La 40 bc bs 1184 [some (ab_R (ab_sb + 1000)), some (ab_R 0), some (ab_R 107), some (ab_I i)] [] w2 ()) : ab_Ex b L xs g_G g_rs mt_La 40 (bc + 2) (bs + 401) 914 [some (ab_R (ab_sb + 1000)), some (ab_R 0), some (ab_R 107), some (ab_I i)] [] w () := by
  obtain ⟨S, wm, hci, hmi⟩ := h
  refine ex_room (bc := bc + 0) (bs := bs + 0) (by omega) (by omega) ?_
  obtain ⟨v1, e1⟩ : ∃ v, (xs (i + 1).toNat).toInt = v := ⟨_, rfl⟩
  have hv1 : ab_in v1 := by rw [← e1]; exact ab_toin _
  obtain ⟨v2, e2⟩ : ∃ v, (xs (i + 2).toNat).toInt = v := ⟨_, rfl⟩
  have hv2 : ab_in v2 := by rw [← e2]; exact ab_toin _
  obtain ⟨v3, e3⟩ : ∃ v, (xs (i + 3).toNat).toInt = v := ⟨_, rfl⟩
  have hv3 : ab_in v3 := by rw [← e3]; exact ab_toin _
  obtain ⟨v4, e4⟩ : ∃ v, (xs (i + 4).toNat).toInt = v := ⟨_, rfl⟩
  have hv4 : ab_in v4 := by rw [← e4]; exact ab_toin _
  refine ex_aload_n de_La_914 rfl rfl ?_
  refine ex_aload_n de_La_915 rfl rfl ?_
  refine ex_iload_n de_La_916 rfl rfl ?_
  refine ex_iconst de_La_917 ?_
  refine ex_iadd de_La_918 ?_
  refine ex_sld de_La_919 (by omega) (by omega) (by omega) e1 ?_
  refine ex_aload_n de_La_920 rfl rfl ?_
  refine ex_iload_n de_La_921 rfl rfl ?_
  refine ex_iconst de_La_922 ?_
  refine ex_iadd de_La_923 ?_
  refine ex_sld de_La_924 (by omega) (by omega) (by omega) e2 ?_
  refine ex_aload_n de_La_925 rfl rfl ?_
  refine ex_iload_n de_La_926 rfl rfl ?_
  refine ex_iconst de_La_927 ?_
  refine ex_iadd de_La_928 ?_
  refine ex_sld de_La_929 (by omega) (by omega) (by omega) e3 ?_
  refine ex_aload_n de_La_930 rfl rfl ?_
  refine ex_iload_n de_La_931 rfl rfl ?_
  refine ex_iconst de_La_932 ?_
  refine ex_iadd de_La_933 ?_
  refine ex_sld de_La_934 (by omega) (by omega) (by omega) e4 ?_
  refine ex_if_eq (tgt := 942) de_La_935 (by decide) hv4 (fun h935 => ?_) (fun h935 => ?_)
  · skip
    refine ex_iconst de_La_942 ?_
    obtain ⟨fs0, ho0⟩ := cy_obj hci
    have hln := cy_len hci
    refine ex_virtual (ci := 10) (bc := bc) (bs := bs) de_La_943 (cy_diary hci (my_ok hmi) hc1 v1 hv1 v2 hv2 v3 hv3 0 (by decide)) kb_La_118 ⟨im_Tu_diary, se_Tu_diary⟩ rfl ho0 rfl (Nat.le_of_ble_eq_true rfl) (by decide) (Or.inr ⟨la_okL (by omega), ab_okS_n⟩) (fun r1 w1 hq1 => ?_)
    obtain ⟨rfl, hci⟩ := hq1
    refine ex_pop de_La_946 rfl ?_
    refine ex_aload_n de_La_947 rfl rfl ?_
    refine ex_aload_n de_La_948 rfl rfl ?_
    refine ex_iload_n de_La_949 rfl rfl ?_
    refine ex_iconst de_La_950 ?_
    refine ex_iadd de_La_951 ?_
    refine ex_sld de_La_952 (by omega) (by omega) (by omega) e1 ?_
    refine ex_aload_n de_La_953 rfl rfl ?_
    refine ex_iload_n de_La_954 rfl rfl ?_
    refine ex_iconst de_La_955 ?_
    refine ex_iadd de_La_956 ?_
    refine ex_sld de_La_957 (by omega) (by omega) (by omega) e2 ?_
    refine ex_aload_n de_La_958 rfl rfl ?_
    refine ex_iload_n de_La_959 rfl rfl ?_
    refine ex_iconst de_La_960 ?_
    refine ex_iadd de_La_961 ?_
    refine ex_sld de_La_962 (by omega) (by omega) (by omega) e3 ?_
    refine ex_aload_n de_La_963 rfl rfl ?_
    refine ex_iload_n de_La_964 rfl rfl ?_
    refine ex_iconst de_La_965 ?_
    refine ex_iadd de_La_966 ?_
    refine ex_sld de_La_967 (by omega) (by omega) (by omega) e4 ?_
    refine ex_if_eq (tgt := 975) de_La_968 (by decide) hv4 (fun h968 => ?_) (fun h968 => ?_)
    · skip
      refine ex_iconst de_La_975 ?_
      obtain ⟨fs1, ho1⟩ := lj_obj hmi hci
      have hln1 := cy_len hci
      refine ex_virtual (ci := 11) (mc := 0) (ms := 0) de_La_976 (lj_mod (R := fun r => r = some (ab_I (fa_diary S v1 v2 v3 0))) (my_diary hc0 hc1 hmi v1 hv1 v2 hv2 v3 hv3 0 (by decide) (by decide)) (fun r h => ⟨_, h⟩) (by intro v hv; simp only [List.mem_cons, List.not_mem_nil, or_false] at hv; rcases hv with rfl | rfl | rfl | rfl <;> exact ⟨_, rfl⟩) hmi hci) kb_La_122 ⟨im_Mo_diary, se_Mo_diary⟩ rfl ho1 rfl (Nat.le_of_ble_eq_true rfl) (by decide) (Or.inr ⟨la_okL (by omega), ab_okS_n⟩) (fun r2 w2 hq2 => ?_)
      obtain ⟨rfl, hL3⟩ := hq2
      refine ex_pop de_La_979 rfl ?_
      refine ex_goto (tgt := 1184) de_La_980 (by decide) ?_
      exact K _ hL3
    · exact absurd h935 h968
  · skip
    refine ex_iconst de_La_938 ?_
    refine ex_goto (tgt := 943) de_La_939 (by decide) ?_
    obtain ⟨fs0, ho0⟩ := cy_obj hci
    have hln := cy_len hci
    refine ex_virtual (ci := 10) (bc := bc) (bs := bs) de_La_943 (cy_diary hci (my_ok hmi) hc1 v1 hv1 v2 hv2 v3 hv3 1 (by decide)) kb_La_118 ⟨im_Tu_diary, se_Tu_diary⟩ rfl ho0 rfl (Nat.le_of_ble_eq_true rfl) (by decide) (Or.inr ⟨la_okL (by omega), ab_okS_n⟩) (fun r1 w1 hq1 => ?_)
    obtain ⟨rfl, hci⟩ := hq1
    refine ex_pop de_La_946 rfl ?_
    refine ex_aload_n de_La_947 rfl rfl ?_
    refine ex_aload_n de_La_948 rfl rfl ?_
    refine ex_iload_n de_La_949 rfl rfl ?_
    refine ex_iconst de_La_950 ?_
    refine ex_iadd de_La_951 ?_
    refine ex_sld de_La_952 (by omega) (by omega) (by omega) e1 ?_
    refine ex_aload_n de_La_953 rfl rfl ?_
    refine ex_iload_n de_La_954 rfl rfl ?_
    refine ex_iconst de_La_955 ?_
    refine ex_iadd de_La_956 ?_
    refine ex_sld de_La_957 (by omega) (by omega) (by omega) e2 ?_
    refine ex_aload_n de_La_958 rfl rfl ?_
    refine ex_iload_n de_La_959 rfl rfl ?_
    refine ex_iconst de_La_960 ?_
    refine ex_iadd de_La_961 ?_
    refine ex_sld de_La_962 (by omega) (by omega) (by omega) e3 ?_
    refine ex_aload_n de_La_963 rfl rfl ?_
    refine ex_iload_n de_La_964 rfl rfl ?_
    refine ex_iconst de_La_965 ?_
    refine ex_iadd de_La_966 ?_
    refine ex_sld de_La_967 (by omega) (by omega) (by omega) e4 ?_
    refine ex_if_eq (tgt := 975) de_La_968 (by decide) hv4 (fun h968 => ?_) (fun h968 => ?_)
    · exact absurd h968 h935
    · skip
      refine ex_iconst de_La_971 ?_
      refine ex_goto (tgt := 976) de_La_972 (by decide) ?_
      obtain ⟨fs1, ho1⟩ := lj_obj hmi hci
      have hln1 := cy_len hci
      refine ex_virtual (ci := 11) (mc := 0) (ms := 0) de_La_976 (lj_mod (R := fun r => r = some (ab_I (fa_diary S v1 v2 v3 1))) (my_diary hc0 hc1 hmi v1 hv1 v2 hv2 v3 hv3 1 (by decide) (by decide)) (fun r h => ⟨_, h⟩) (by intro v hv; simp only [List.mem_cons, List.not_mem_nil, or_false] at hv; rcases hv with rfl | rfl | rfl | rfl <;> exact ⟨_, rfl⟩) hmi hci) kb_La_122 ⟨im_Mo_diary, se_Mo_diary⟩ rfl ho1 rfl (Nat.le_of_ble_eq_true rfl) (by decide) (Or.inr ⟨la_okL (by omega), ab_okS_n⟩) (fun r2 w2 hq2 => ?_)
      obtain ⟨rfl, hL3⟩ := hq2
      refine ex_pop de_La_979 rfl ?_
      refine ex_goto (tgt := 1184) de_La_980 (by decide) ?_
      exact K _ hL3
set_option maxHeartbeats 4000000 in
set_option maxRecDepth 20000 in
theorem la_25 {b L : Nat} {xs : Nat → Int32} {bc bs : Nat} {i c : Int} {w : ab_W} (hc0 : 0 ≤ c) (hc1 : c ≤ 1000) (h : lj_I c w) (hi : 0 ≤ i) (h6 : i + 6 ≤ L) (hL : L ≤ 3072) (K : ∀ w2, lj_I (c + 1) w2 → ab_Ex b L xs g_G g_rs mt_La 40 bc bs 1184 [some (ab_R (ab_sb + 1000)), some (ab_R 0), some (ab_R 107), some (ab_I i)] [] w2 ()) : ab_Ex b L xs g_G g_rs mt_La 40 (bc + 2) (bs + 401) 983 [some (ab_R (ab_sb + 1000)), some (ab_R 0), some (ab_R 107), some (ab_I i)] [] w () := by
  obtain ⟨S, wm, hci, hmi⟩ := h
  refine ex_room (bc := bc + 0) (bs := bs + 0) (by omega) (by omega) ?_
  obtain ⟨v1, e1⟩ : ∃ v, (xs (i + 1).toNat).toInt = v := ⟨_, rfl⟩
  have hv1 : ab_in v1 := by rw [← e1]; exact ab_toin _
  refine ex_aload_n de_La_983 rfl rfl ?_
  refine ex_aload_n de_La_984 rfl rfl ?_
  refine ex_iload_n de_La_985 rfl rfl ?_
  refine ex_iconst de_La_986 ?_
  refine ex_iadd de_La_987 ?_
  refine ex_sld de_La_988 (by omega) (by omega) (by omega) e1 ?_
  obtain ⟨fs0, ho0⟩ := cy_obj hci
  have hln := cy_len hci
  refine ex_virtual (ci := 10) (bc := bc) (bs := bs) de_La_989 (cy_turned hci (my_ok hmi) hc1 v1 hv1) kb_La_123 ⟨im_Tu_turned, se_Tu_turned⟩ rfl ho0 rfl (Nat.le_of_ble_eq_true rfl) (by decide) (Or.inr ⟨la_okL (by omega), ab_okS_n⟩) (fun r1 w1 hq1 => ?_)
  obtain ⟨⟨v9, rfl⟩, hci⟩ := hq1
  refine ex_pop de_La_992 rfl ?_
  refine ex_aload_n de_La_993 rfl rfl ?_
  refine ex_aload_n de_La_994 rfl rfl ?_
  refine ex_iload_n de_La_995 rfl rfl ?_
  refine ex_iconst de_La_996 ?_
  refine ex_iadd de_La_997 ?_
  refine ex_sld de_La_998 (by omega) (by omega) (by omega) e1 ?_
  obtain ⟨fs1, ho1⟩ := lj_obj hmi hci
  have hln1 := cy_len hci
  refine ex_virtual (ci := 11) (mc := 0) (ms := 0) de_La_999 (lj_mod (R := fun r => r = some (ab_I (fa_turned S v1))) (my_turned hc0 hc1 hmi v1 hv1) (fun r h => ⟨_, h⟩) (by intro v hv; simp only [List.mem_cons, List.not_mem_nil, or_false] at hv; rcases hv with rfl <;> exact ⟨_, rfl⟩) hmi hci) kb_La_126 ⟨im_Mo_turned, se_Mo_turned⟩ rfl ho1 rfl (Nat.le_of_ble_eq_true rfl) (by decide) (Or.inr ⟨la_okL (by omega), ab_okS_n⟩) (fun r2 w2 hq2 => ?_)
  obtain ⟨rfl, hL3⟩ := hq2
  refine ex_pop de_La_1002 rfl ?_
  refine ex_goto (tgt := 1184) de_La_1003 (by decide) ?_
  exact K _ hL3
set_option maxHeartbeats 4000000 in
set_option maxRecDepth 20000 in
theorem la_26 {b L : Nat} {xs : Nat → Int32} {bc bs : Nat} {i c : Int} {w : ab_W} (hc0 : 0 ≤ c) (hc1 : c ≤ 1000) (h : lj_I c w) (hi : 0 ≤ i) (h6 : i + 6 ≤ L) (hL : L ≤ 3072) (K : ∀ w2, lj_I (c + 1) w2 → ab_Ex b L xs g_G g_rs mt_La 40 bc bs 1184 [some (ab_R (ab_sb + 1000)), some (ab_R 0), some (ab_R 107), some (ab_I i)] [] w2 ()) : ab_Ex b L xs g_G g_rs mt_La 40 (bc + 2) (bs + 401) 1006 [some (ab_R (ab_sb + 1000)), some (ab_R 0), some (ab_R 107), some (ab_I i)] [] w () := by
  obtain ⟨S, wm, hci, hmi⟩ := h
  refine ex_room (bc := bc + 0) (bs := bs + 0) (by omega) (by omega) ?_
  obtain ⟨v1, e1⟩ : ∃ v, (xs (i + 1).toNat).toInt = v := ⟨_, rfl⟩
  have hv1 : ab_in v1 := by rw [← e1]; exact ab_toin _
  obtain ⟨v2, e2⟩ : ∃ v, (xs (i + 2).toNat).toInt = v := ⟨_, rfl⟩
  have hv2 : ab_in v2 := by rw [← e2]; exact ab_toin _
  refine ex_aload_n de_La_1006 rfl rfl ?_
  refine ex_aload_n de_La_1007 rfl rfl ?_
  refine ex_iload_n de_La_1008 rfl rfl ?_
  refine ex_iconst de_La_1009 ?_
  refine ex_iadd de_La_1010 ?_
  refine ex_sld de_La_1011 (by omega) (by omega) (by omega) e1 ?_
  refine ex_aload_n de_La_1012 rfl rfl ?_
  refine ex_iload_n de_La_1013 rfl rfl ?_
  refine ex_iconst de_La_1014 ?_
  refine ex_iadd de_La_1015 ?_
  refine ex_sld de_La_1016 (by omega) (by omega) (by omega) e2 ?_
  obtain ⟨fs0, ho0⟩ := cy_obj hci
  have hln := cy_len hci
  refine ex_virtual (ci := 10) (bc := bc) (bs := bs) de_La_1017 (cy_look hci (my_ok hmi) hc1 v1 hv1 v2 hv2) kb_La_127 ⟨im_Tu_look, se_Tu_look⟩ rfl ho0 rfl (Nat.le_of_ble_eq_true rfl) (by decide) (Or.inr ⟨la_okL (by omega), ab_okS_n⟩) (fun r1 w1 hq1 => ?_)
  obtain ⟨⟨v9, rfl⟩, hci⟩ := hq1
  refine ex_pop de_La_1020 rfl ?_
  refine ex_aload_n de_La_1021 rfl rfl ?_
  refine ex_aload_n de_La_1022 rfl rfl ?_
  refine ex_iload_n de_La_1023 rfl rfl ?_
  refine ex_iconst de_La_1024 ?_
  refine ex_iadd de_La_1025 ?_
  refine ex_sld de_La_1026 (by omega) (by omega) (by omega) e1 ?_
  refine ex_aload_n de_La_1027 rfl rfl ?_
  refine ex_iload_n de_La_1028 rfl rfl ?_
  refine ex_iconst de_La_1029 ?_
  refine ex_iadd de_La_1030 ?_
  refine ex_sld de_La_1031 (by omega) (by omega) (by omega) e2 ?_
  obtain ⟨fs1, ho1⟩ := lj_obj hmi hci
  have hln1 := cy_len hci
  refine ex_virtual (ci := 11) (mc := 0) (ms := 0) de_La_1032 (lj_mod (R := fun r => r = some (ab_I (fa_look S v1 v2))) (my_look hc0 hc1 hmi v1 hv1 v2 hv2) (fun r h => ⟨_, h⟩) (by intro v hv; simp only [List.mem_cons, List.not_mem_nil, or_false] at hv; rcases hv with rfl | rfl <;> exact ⟨_, rfl⟩) hmi hci) kb_La_130 ⟨im_Mo_look, se_Mo_look⟩ rfl ho1 rfl (Nat.le_of_ble_eq_true rfl) (by decide) (Or.inr ⟨la_okL (by omega), ab_okS_n⟩) (fun r2 w2 hq2 => ?_)
  obtain ⟨rfl, hL3⟩ := hq2
  refine ex_pop de_La_1035 rfl ?_
  refine ex_goto (tgt := 1184) de_La_1036 (by decide) ?_
  exact K _ hL3
set_option maxHeartbeats 4000000 in
set_option maxRecDepth 20000 in
theorem la_27 {b L : Nat} {xs : Nat → Int32} {bc bs : Nat} {i c : Int} {w : ab_W} (hc0 : 0 ≤ c) (hc1 : c ≤ 1000) (h : lj_I c w) (hi : 0 ≤ i) (h6 : i + 6 ≤ L) (hL : L ≤ 3072) (K : ∀ w2, lj_I (c + 1) w2 → ab_Ex b L xs g_G g_rs mt_La 40 bc bs 1184 [some (ab_R (ab_sb + 1000)), some (ab_R 0), some (ab_R 107), some (ab_I i)] [] w2 ()) : ab_Ex b L xs g_G g_rs mt_La 40 (bc + 2) (bs + 401) 1039 [some (ab_R (ab_sb + 1000)), some (ab_R 0), some (ab_R 107), some (ab_I i)] [] w () := by
  obtain ⟨S, wm, hci, hmi⟩ := h
  refine ex_room (bc := bc + 0) (bs := bs + 0) (by omega) (by omega) ?_
  obtain ⟨v1, e1⟩ : ∃ v, (xs (i + 1).toNat).toInt = v := ⟨_, rfl⟩
  have hv1 : ab_in v1 := by rw [← e1]; exact ab_toin _
  refine ex_aload_n de_La_1039 rfl rfl ?_
  refine ex_aload_n de_La_1040 rfl rfl ?_
  refine ex_iload_n de_La_1041 rfl rfl ?_
  refine ex_iconst de_La_1042 ?_
  refine ex_iadd de_La_1043 ?_
  refine ex_sld de_La_1044 (by omega) (by omega) (by omega) e1 ?_
  obtain ⟨fs0, ho0⟩ := cy_obj hci
  have hln := cy_len hci
  refine ex_virtual (ci := 10) (bc := bc) (bs := bs) de_La_1045 (cy_seed hci (my_ok hmi) hc1 v1 hv1) kb_La_131 ⟨im_Tu_seed, se_Tu_seed⟩ rfl ho0 rfl (Nat.le_of_ble_eq_true rfl) (by decide) (Or.inr ⟨la_okL (by omega), ab_okS_n⟩) (fun r1 w1 hq1 => ?_)
  obtain ⟨rfl, hci⟩ := hq1
  refine ex_pop de_La_1048 rfl ?_
  refine ex_aload_n de_La_1049 rfl rfl ?_
  refine ex_aload_n de_La_1050 rfl rfl ?_
  refine ex_iload_n de_La_1051 rfl rfl ?_
  refine ex_iconst de_La_1052 ?_
  refine ex_iadd de_La_1053 ?_
  refine ex_sld de_La_1054 (by omega) (by omega) (by omega) e1 ?_
  obtain ⟨fs1, ho1⟩ := lj_obj hmi hci
  have hln1 := cy_len hci
  refine ex_virtual (ci := 11) (mc := 0) (ms := 0) de_La_1055 (lj_mod (R := fun r => r = some (ab_I (fa_seed S v1))) (my_seed hc0 hc1 hmi v1 hv1) (fun r h => ⟨_, h⟩) (by intro v hv; simp only [List.mem_cons, List.not_mem_nil, or_false] at hv; rcases hv with rfl <;> exact ⟨_, rfl⟩) hmi hci) kb_La_134 ⟨im_Mo_seed, se_Mo_seed⟩ rfl ho1 rfl (Nat.le_of_ble_eq_true rfl) (by decide) (Or.inr ⟨la_okL (by omega), ab_okS_n⟩) (fun r2 w2 hq2 => ?_)
  obtain ⟨rfl, hL3⟩ := hq2
  refine ex_pop de_La_1058 rfl ?_
  refine ex_goto (tgt := 1184) de_La_1059 (by decide) ?_
  exact K _ hL3
set_option maxHeartbeats 4000000 in
set_option maxRecDepth 20000 in
theorem la_28 {b L : Nat} {xs : Nat → Int32} {bc bs : Nat} {i c : Int} {w : ab_W} (hc0 : 0 ≤ c) (hc1 : c ≤ 1000) (h : lj_I c w) (hi : 0 ≤ i) (h6 : i + 6 ≤ L) (hL : L ≤ 3072) (K : ∀ w2, lj_I (c + 1) w2 → ab_Ex b L xs g_G g_rs mt_La 40 bc bs 1184 [some (ab_R (ab_sb + 1000)), some (ab_R 0), some (ab_R 107), some (ab_I i)] [] w2 ()) : ab_Ex b L xs g_G g_rs mt_La 40 (bc + 2) (bs + 401) 1062 [some (ab_R (ab_sb + 1000)), some (ab_R 0), some (ab_R 107), some (ab_I i)] [] w () := by
  obtain ⟨S, wm, hci, hmi⟩ := h
  refine ex_room (bc := bc + 0) (bs := bs + 0) (by omega) (by omega) ?_
  obtain ⟨v1, e1⟩ : ∃ v, (xs (i + 1).toNat).toInt = v := ⟨_, rfl⟩
  have hv1 : ab_in v1 := by rw [← e1]; exact ab_toin _
  obtain ⟨v2, e2⟩ : ∃ v, (xs (i + 2).toNat).toInt = v := ⟨_, rfl⟩
  have hv2 : ab_in v2 := by rw [← e2]; exact ab_toin _
  obtain ⟨v3, e3⟩ : ∃ v, (xs (i + 3).toNat).toInt = v := ⟨_, rfl⟩
  have hv3 : ab_in v3 := by rw [← e3]; exact ab_toin _
  obtain ⟨v4, e4⟩ : ∃ v, (xs (i + 4).toNat).toInt = v := ⟨_, rfl⟩
  have hv4 : ab_in v4 := by rw [← e4]; exact ab_toin _
  refine ex_aload_n de_La_1062 rfl rfl ?_
  refine ex_aload_n de_La_1063 rfl rfl ?_
  refine ex_iload_n de_La_1064 rfl rfl ?_
  refine ex_iconst de_La_1065 ?_
  refine ex_iadd de_La_1066 ?_
  refine ex_sld de_La_1067 (by omega) (by omega) (by omega) e1 ?_
  refine ex_aload_n de_La_1068 rfl rfl ?_
  refine ex_iload_n de_La_1069 rfl rfl ?_
  refine ex_iconst de_La_1070 ?_
  refine ex_iadd de_La_1071 ?_
  refine ex_sld de_La_1072 (by omega) (by omega) (by omega) e2 ?_
  refine ex_aload_n de_La_1073 rfl rfl ?_
  refine ex_iload_n de_La_1074 rfl rfl ?_
  refine ex_iconst de_La_1075 ?_
  refine ex_iadd de_La_1076 ?_
  refine ex_sld de_La_1077 (by omega) (by omega) (by omega) e3 ?_
  refine ex_aload_n de_La_1078 rfl rfl ?_
  refine ex_iload_n de_La_1079 rfl rfl ?_
  refine ex_iconst de_La_1080 ?_
  refine ex_iadd de_La_1081 ?_
  refine ex_sld de_La_1082 (by omega) (by omega) (by omega) e4 ?_
  obtain ⟨fs0, ho0⟩ := cy_obj hci
  have hln := cy_len hci
  refine ex_virtual (ci := 10) (bc := bc) (bs := bs) de_La_1083 (cy_days hci (my_ok hmi) hc1 v1 hv1 v2 hv2 v3 hv3 v4 hv4) kb_La_135 ⟨im_Tu_days, se_Tu_days⟩ rfl ho0 rfl (Nat.le_of_ble_eq_true rfl) (by decide) (Or.inr ⟨la_okL (by omega), ab_okS_n⟩) (fun r1 w1 hq1 => ?_)
  obtain ⟨⟨v9, rfl⟩, hci⟩ := hq1
  refine ex_pop de_La_1086 rfl ?_
  refine ex_aload_n de_La_1087 rfl rfl ?_
  refine ex_aload_n de_La_1088 rfl rfl ?_
  refine ex_iload_n de_La_1089 rfl rfl ?_
  refine ex_iconst de_La_1090 ?_
  refine ex_iadd de_La_1091 ?_
  refine ex_sld de_La_1092 (by omega) (by omega) (by omega) e1 ?_
  refine ex_aload_n de_La_1093 rfl rfl ?_
  refine ex_iload_n de_La_1094 rfl rfl ?_
  refine ex_iconst de_La_1095 ?_
  refine ex_iadd de_La_1096 ?_
  refine ex_sld de_La_1097 (by omega) (by omega) (by omega) e2 ?_
  refine ex_aload_n de_La_1098 rfl rfl ?_
  refine ex_iload_n de_La_1099 rfl rfl ?_
  refine ex_iconst de_La_1100 ?_
  refine ex_iadd de_La_1101 ?_
  refine ex_sld de_La_1102 (by omega) (by omega) (by omega) e3 ?_
  refine ex_aload_n de_La_1103 rfl rfl ?_
  refine ex_iload_n de_La_1104 rfl rfl ?_
  refine ex_iconst de_La_1105 ?_
  refine ex_iadd de_La_1106 ?_
  refine ex_sld de_La_1107 (by omega) (by omega) (by omega) e4 ?_
  obtain ⟨fs1, ho1⟩ := lj_obj hmi hci
  have hln1 := cy_len hci
  refine ex_virtual (ci := 11) (mc := 0) (ms := 0) de_La_1108 (lj_mod (R := fun r => r = some (ab_I (fa_days S v1 v2 v3 v4))) (my_days hc0 hc1 hmi v1 hv1 v2 hv2 v3 hv3 v4 hv4) (fun r h => ⟨_, h⟩) (by intro v hv; simp only [List.mem_cons, List.not_mem_nil, or_false] at hv; rcases hv with rfl | rfl | rfl | rfl <;> exact ⟨_, rfl⟩) hmi hci) kb_La_138 ⟨im_Mo_days, se_Mo_days⟩ rfl ho1 rfl (Nat.le_of_ble_eq_true rfl) (by decide) (Or.inr ⟨la_okL (by omega), ab_okS_n⟩) (fun r2 w2 hq2 => ?_)
  obtain ⟨rfl, hL3⟩ := hq2
  refine ex_pop de_La_1111 rfl ?_
  refine ex_goto (tgt := 1184) de_La_1112 (by decide) ?_
  exact K _ hL3
set_option maxHeartbeats 4000000 in
set_option maxRecDepth 20000 in
theorem la_29 {b L : Nat} {xs : Nat → Int32} {bc bs : Nat} {i c : Int} {w : ab_W} (hc0 : 0 ≤ c) (hc1 : c ≤ 1000) (h : lj_I c w) (hi : 0 ≤ i) (h6 : i + 6 ≤ L) (hL : L ≤ 3072) (K : ∀ w2, lj_I (c + 1) w2 → ab_Ex b L xs g_G g_rs mt_La 40 bc bs 1184 [some (ab_R (ab_sb + 1000)), some (ab_R 0), some (ab_R 107), some (ab_I i)] [] w2 ()) : ab_Ex b L xs g_G g_rs mt_La 40 (bc + 2) (bs + 401) 1115 [some (ab_R (ab_sb + 1000)), some (ab_R 0), some (ab_R 107), some (ab_I i)] [] w () := by
  obtain ⟨S, wm, hci, hmi⟩ := h
  refine ex_room (bc := bc + 0) (bs := bs + 0) (by omega) (by omega) ?_
  obtain ⟨v1, e1⟩ : ∃ v, (xs (i + 1).toNat).toInt = v := ⟨_, rfl⟩
  have hv1 : ab_in v1 := by rw [← e1]; exact ab_toin _
  refine ex_aload_n de_La_1115 rfl rfl ?_
  refine ex_aload_n de_La_1116 rfl rfl ?_
  refine ex_iload_n de_La_1117 rfl rfl ?_
  refine ex_iconst de_La_1118 ?_
  refine ex_iadd de_La_1119 ?_
  refine ex_sld de_La_1120 (by omega) (by omega) (by omega) e1 ?_
  obtain ⟨fs0, ho0⟩ := cy_obj hci
  have hln := cy_len hci
  refine ex_virtual (ci := 10) (bc := bc) (bs := bs) de_La_1121 (cy_count hci (my_ok hmi) hc1 v1 hv1) kb_La_139 ⟨im_Tu_count, se_Tu_count⟩ rfl ho0 rfl (Nat.le_of_ble_eq_true rfl) (by decide) (Or.inr ⟨la_okL (by omega), ab_okS_n⟩) (fun r1 w1 hq1 => ?_)
  obtain ⟨rfl, hci⟩ := hq1
  refine ex_pop de_La_1124 rfl ?_
  refine ex_aload_n de_La_1125 rfl rfl ?_
  refine ex_aload_n de_La_1126 rfl rfl ?_
  refine ex_iload_n de_La_1127 rfl rfl ?_
  refine ex_iconst de_La_1128 ?_
  refine ex_iadd de_La_1129 ?_
  refine ex_sld de_La_1130 (by omega) (by omega) (by omega) e1 ?_
  obtain ⟨fs1, ho1⟩ := lj_obj hmi hci
  have hln1 := cy_len hci
  refine ex_virtual (ci := 11) (mc := 0) (ms := 0) de_La_1131 (lj_mod (R := fun r => r = some (ab_I (fa_count S v1))) (my_count hc0 hc1 hmi v1 hv1) (fun r h => ⟨_, h⟩) (by intro v hv; simp only [List.mem_cons, List.not_mem_nil, or_false] at hv; rcases hv with rfl <;> exact ⟨_, rfl⟩) hmi hci) kb_La_142 ⟨im_Mo_count, se_Mo_count⟩ rfl ho1 rfl (Nat.le_of_ble_eq_true rfl) (by decide) (Or.inr ⟨la_okL (by omega), ab_okS_n⟩) (fun r2 w2 hq2 => ?_)
  obtain ⟨rfl, hL3⟩ := hq2
  refine ex_pop de_La_1134 rfl ?_
  refine ex_goto (tgt := 1184) de_La_1135 (by decide) ?_
  exact K _ hL3
set_option maxHeartbeats 4000000 in
set_option maxRecDepth 20000 in
theorem la_30 {b L : Nat} {xs : Nat → Int32} {bc bs : Nat} {i c : Int} {w : ab_W} (hc0 : 0 ≤ c) (hc1 : c ≤ 1000) (h : lj_I c w) (hi : 0 ≤ i) (h6 : i + 6 ≤ L) (hL : L ≤ 3072) (K : ∀ w2, lj_I (c + 1) w2 → ab_Ex b L xs g_G g_rs mt_La 40 bc bs 1184 [some (ab_R (ab_sb + 1000)), some (ab_R 0), some (ab_R 107), some (ab_I i)] [] w2 ()) : ab_Ex b L xs g_G g_rs mt_La 40 (bc + 2) (bs + 401) 1138 [some (ab_R (ab_sb + 1000)), some (ab_R 0), some (ab_R 107), some (ab_I i)] [] w () := by
  obtain ⟨S, wm, hci, hmi⟩ := h
  refine ex_room (bc := bc + 0) (bs := bs + 0) (by omega) (by omega) ?_
  obtain ⟨v1, e1⟩ : ∃ v, (xs (i + 1).toNat).toInt = v := ⟨_, rfl⟩
  have hv1 : ab_in v1 := by rw [← e1]; exact ab_toin _
  refine ex_aload_n de_La_1138 rfl rfl ?_
  refine ex_aload_n de_La_1139 rfl rfl ?_
  refine ex_iload_n de_La_1140 rfl rfl ?_
  refine ex_iconst de_La_1141 ?_
  refine ex_iadd de_La_1142 ?_
  refine ex_sld de_La_1143 (by omega) (by omega) (by omega) e1 ?_
  obtain ⟨fs0, ho0⟩ := cy_obj hci
  have hln := cy_len hci
  refine ex_virtual (ci := 10) (bc := bc) (bs := bs) de_La_1144 (cy_image hci (my_ok hmi) hc1 v1 hv1) kb_La_143 ⟨im_Tu_image, se_Tu_image⟩ rfl ho0 rfl (Nat.le_of_ble_eq_true rfl) (by decide) (Or.inr ⟨la_okL (by omega), ab_okS_n⟩) (fun r1 w1 hq1 => ?_)
  obtain ⟨rfl, hci⟩ := hq1
  refine ex_pop de_La_1147 rfl ?_
  refine ex_aload_n de_La_1148 rfl rfl ?_
  refine ex_aload_n de_La_1149 rfl rfl ?_
  refine ex_iload_n de_La_1150 rfl rfl ?_
  refine ex_iconst de_La_1151 ?_
  refine ex_iadd de_La_1152 ?_
  refine ex_sld de_La_1153 (by omega) (by omega) (by omega) e1 ?_
  obtain ⟨fs1, ho1⟩ := lj_obj hmi hci
  have hln1 := cy_len hci
  refine ex_virtual (ci := 11) (mc := 0) (ms := 0) de_La_1154 (lj_mod (R := fun r => r = some (ab_I (fa_image S v1))) (my_image hc0 hc1 hmi v1 hv1) (fun r h => ⟨_, h⟩) (by intro v hv; simp only [List.mem_cons, List.not_mem_nil, or_false] at hv; rcases hv with rfl <;> exact ⟨_, rfl⟩) hmi hci) kb_La_146 ⟨im_Mo_image, se_Mo_image⟩ rfl ho1 rfl (Nat.le_of_ble_eq_true rfl) (by decide) (Or.inr ⟨la_okL (by omega), ab_okS_n⟩) (fun r2 w2 hq2 => ?_)
  obtain ⟨rfl, hL3⟩ := hq2
  refine ex_pop de_La_1157 rfl ?_
  refine ex_goto (tgt := 1184) de_La_1158 (by decide) ?_
  exact K _ hL3
set_option maxHeartbeats 4000000 in
set_option maxRecDepth 20000 in
theorem la_31 {b L : Nat} {xs : Nat → Int32} {bc bs : Nat} {i c : Int} {w : ab_W} (hc0 : 0 ≤ c) (hc1 : c ≤ 1000) (h : lj_I c w) (hi : 0 ≤ i) (h6 : i + 6 ≤ L) (hL : L ≤ 3072) (K : ∀ w2, lj_I (c + 1) w2 → ab_Ex b L xs g_G g_rs mt_La 40 bc bs 1184 [some (ab_R (ab_sb + 1000)), some (ab_R 0), some (ab_R 107), some (ab_I i)] [] w2 ()) : ab_Ex b L xs g_G g_rs mt_La 40 (bc + 2) (bs + 401) 1161 [some (ab_R (ab_sb + 1000)), some (ab_R 0), some (ab_R 107), some (ab_I i)] [] w () := by
  obtain ⟨S, wm, hci, hmi⟩ := h
  refine ex_room (bc := bc + 0) (bs := bs + 0) (by omega) (by omega) ?_
  obtain ⟨v1, e1⟩ : ∃ v, (xs (i + 1).toNat).toInt = v := ⟨_, rfl⟩
  have hv1 : ab_in v1 := by rw [← e1]; exact ab_toin _
  refine ex_aload_n de_La_1161 rfl rfl ?_
  refine ex_aload_n de_La_1162 rfl rfl ?_
  refine ex_iload_n de_La_1163 rfl rfl ?_
  refine ex_iconst de_La_1164 ?_
  refine ex_iadd de_La_1165 ?_
  refine ex_sld de_La_1166 (by omega) (by omega) (by omega) e1 ?_
  obtain ⟨fs0, ho0⟩ := cy_obj hci
  have hln := cy_len hci
  refine ex_virtual (ci := 10) (bc := bc) (bs := bs) de_La_1167 (cy_back hci (my_ok hmi) hc1 v1 hv1) kb_La_147 ⟨im_Tu_back, se_Tu_back⟩ rfl ho0 rfl (Nat.le_of_ble_eq_true rfl) (by decide) (Or.inr ⟨la_okL (by omega), ab_okS_n⟩) (fun r1 w1 hq1 => ?_)
  obtain ⟨rfl, hci⟩ := hq1
  refine ex_aload_n de_La_1170 rfl rfl ?_
  refine ex_aload_n de_La_1171 rfl rfl ?_
  refine ex_iload_n de_La_1172 rfl rfl ?_
  refine ex_iconst de_La_1173 ?_
  refine ex_iadd de_La_1174 ?_
  refine ex_sld de_La_1175 (by omega) (by omega) (by omega) e1 ?_
  obtain ⟨fs1, ho1⟩ := lj_obj hmi hci
  have hln1 := cy_len hci
  refine ex_virtual (ci := 11) (mc := 0) (ms := 0) de_La_1176 (lj_mod (R := fun r => r = some (ab_I (fa_back S v1))) (my_back hc0 hc1 hmi v1 hv1) (fun r h => ⟨_, h⟩) (by intro v hv; simp only [List.mem_cons, List.not_mem_nil, or_false] at hv; rcases hv with rfl <;> exact ⟨_, rfl⟩) hmi hci) kb_La_150 ⟨im_Mo_back, se_Mo_back⟩ rfl ho1 rfl (Nat.le_of_ble_eq_true rfl) (by decide) (Or.inr ⟨la_okL (by omega), (ab_okS_i ab_okS_n)⟩) (fun r2 w2 hq2 => ?_)
  obtain ⟨rfl, hL3⟩ := hq2
  refine ex_icmp_same (tgt := 1184) de_La_1179 (by decide) ?_
  exact K _ hL3
set_option maxHeartbeats 4000000 in
set_option maxRecDepth 20000 in
theorem la_loop {b L : Nat} {xs : Nat → Int32} (hL : L ≤ 3072) : ∀ (n : Nat) (i c : Int) (w : ab_W), 0 ≤ i → i ≤ L → (L : Int) - i < 6 * n → 0 ≤ c → c + n ≤ 1000 → lj_I c w → ab_Ex b L xs g_G g_rs mt_La 40 (2 * n) (401 * n) 18 [some (ab_R (ab_sb + 1000)), some (ab_R 0), some (ab_R 107), some (ab_I i)] [] w () := by
  intro n
  induction n with
  | zero => intro i c w h0 h1 h2; omega
  | succ n ih =>
    intro i c w h0 h1 h2 h3 h4 h
    refine ex_iload_n de_La_18 rfl rfl ?_
    refine ex_aload_n de_La_19 rfl rfl ?_
    refine ex_slen de_La_20 ?_
    refine ex_bipush de_La_21 rfl ?_
    refine ex_isub de_La_23 ?_
    refine ex_icmp_gt (tgt := 1190) de_La_24 (by decide) (by omega) (by omega) (fun _ => la_out) (fun h24 => ?_)
    obtain ⟨a0, e0⟩ : ∃ v, (xs i.toNat).toInt = v := ⟨_, rfl⟩
    refine ex_aload_n de_La_27 rfl rfl ?_
    refine ex_iload_n de_La_28 rfl rfl ?_
    refine ex_sld de_La_29 h0 (by omega) (by omega) e0 ?_
    refine ex_bipush de_La_30 rfl ?_
    refine ex_iand de_La_32 ?_
    have q := la_and a0
    generalize ab_iand a0 31 = k at q ⊢
    have K : ∀ w2, lj_I (c + 1) w2 → ab_Ex b L xs g_G g_rs mt_La 40 (2 * n) (401 * n) 1184 [some (ab_R (ab_sb + 1000)), some (ab_R 0), some (ab_R 107), some (ab_I i)] [] w2 () := by
      intro w2 hw2
      refine ex_iinc (l' := [_, _, _, _]) de_La_1184 rfl rfl ?_
      refine ex_goto (tgt := 18) de_La_1187 (by decide) ?_
      exact ih (i + 6) (c + 1) w2 (by omega) (by omega) (by omega) (by omega) (by omega) hw2
    rcases (by omega : k = 0 ∨ k = 1 ∨ k = 2 ∨ k = 3 ∨ k = 4 ∨ k = 5 ∨ k = 6 ∨ k = 7 ∨ k = 8 ∨ k = 9 ∨ k = 10 ∨ k = 11 ∨ k = 12 ∨ k = 13 ∨ k = 14 ∨ k = 15 ∨ k = 16 ∨ k = 17 ∨ k = 18 ∨ k = 19 ∨ k = 20 ∨ k = 21 ∨ k = 22 ∨ k = 23 ∨ k = 24 ∨ k = 25 ∨ k = 26 ∨ k = 27 ∨ k = 28 ∨ k = 29 ∨ k = 30 ∨ k = 31) with e | e | e | e | e | e | e | e | e | e | e | e | e | e | e | e | e | e | e | e | e | e | e | e | e | e | e | e | e | e | e | e
    · subst e
      exact ex_tableIn (off := 143) (tgt := 176) de_La_33 (by decide) (by decide) (by decide) rfl (by decide) (la_0 h3 (by omega) h h0 (by omega) hL K)
    · subst e
      exact ex_tableIn (off := 206) (tgt := 239) de_La_33 (by decide) (by decide) (by decide) rfl (by decide) (la_1 h3 (by omega) h h0 (by omega) hL K)
    · subst e
      exact ex_tableIn (off := 229) (tgt := 262) de_La_33 (by decide) (by decide) (by decide) rfl (by decide) (la_2 h3 (by omega) h h0 (by omega) hL K)
    · subst e
      exact ex_tableIn (off := 242) (tgt := 275) de_La_33 (by decide) (by decide) (by decide) rfl (by decide) (la_3 h3 (by omega) h h0 (by omega) hL K)
    · subst e
      exact ex_tableIn (off := 255) (tgt := 288) de_La_33 (by decide) (by decide) (by decide) rfl (by decide) (la_4 h3 (by omega) h h0 (by omega) hL K)
    · subst e
      exact ex_tableIn (off := 288) (tgt := 321) de_La_33 (by decide) (by decide) (by decide) rfl (by decide) (la_5 h3 (by omega) h h0 (by omega) hL K)
    · subst e
      exact ex_tableIn (off := 321) (tgt := 354) de_La_33 (by decide) (by decide) (by decide) rfl (by decide) (la_6 h3 (by omega) h h0 (by omega) hL K)
    · subst e
      exact ex_tableIn (off := 344) (tgt := 377) de_La_33 (by decide) (by decide) (by decide) rfl (by decide) (la_7 h3 (by omega) h h0 (by omega) hL K)
    · subst e
      exact ex_tableIn (off := 367) (tgt := 400) de_La_33 (by decide) (by decide) (by decide) rfl (by decide) (la_8 h3 (by omega) h h0 (by omega) hL K)
    · subst e
      exact ex_tableIn (off := 380) (tgt := 413) de_La_33 (by decide) (by decide) (by decide) rfl (by decide) (la_9 h3 (by omega) h h0 (by omega) hL K)
    · subst e
      exact ex_tableIn (off := 413) (tgt := 446) de_La_33 (by decide) (by decide) (by decide) rfl (by decide) (la_10 h3 (by omega) h h0 (by omega) hL K)
    · subst e
      exact ex_tableIn (off := 446) (tgt := 479) de_La_33 (by decide) (by decide) (by decide) rfl (by decide) (la_11 h3 (by omega) h h0 (by omega) hL K)
    · subst e
      exact ex_tableIn (off := 459) (tgt := 492) de_La_33 (by decide) (by decide) (by decide) rfl (by decide) (la_12 h3 (by omega) h h0 (by omega) hL K)
    · subst e
      exact ex_tableIn (off := 472) (tgt := 505) de_La_33 (by decide) (by decide) (by decide) rfl (by decide) (la_13 h3 (by omega) h h0 (by omega) hL K)
    · subst e
      exact ex_tableIn (off := 505) (tgt := 538) de_La_33 (by decide) (by decide) (by decide) rfl (by decide) (la_14 h3 (by omega) h h0 (by omega) hL K)
    · subst e
      exact ex_tableIn (off := 538) (tgt := 571) de_La_33 (by decide) (by decide) (by decide) rfl (by decide) (la_15 h3 (by omega) h h0 (by omega) hL K)
    · subst e
      exact ex_tableIn (off := 571) (tgt := 604) de_La_33 (by decide) (by decide) (by decide) rfl (by decide) (la_16 h3 (by omega) h h0 (by omega) hL K)
    · subst e
      exact ex_tableIn (off := 594) (tgt := 627) de_La_33 (by decide) (by decide) (by decide) rfl (by decide) (la_17 h3 (by omega) h h0 (by omega) hL K)
    · subst e
      exact ex_tableIn (off := 653) (tgt := 686) de_La_33 (by decide) (by decide) (by decide) rfl (by decide) (la_18 h3 (by omega) h h0 (by omega) hL K)
    · subst e
      exact ex_tableIn (off := 706) (tgt := 739) de_La_33 (by decide) (by decide) (by decide) rfl (by decide) (la_19 h3 (by omega) h h0 (by omega) hL K)
    · subst e
      exact ex_tableIn (off := 729) (tgt := 762) de_La_33 (by decide) (by decide) (by decide) rfl (by decide) (la_20 h3 (by omega) h h0 (by omega) hL K)
    · subst e
      exact ex_tableIn (off := 752) (tgt := 785) de_La_33 (by decide) (by decide) (by decide) rfl (by decide) (la_21 h3 (by omega) h h0 (by omega) hL K)
    · subst e
      exact ex_tableIn (off := 775) (tgt := 808) de_La_33 (by decide) (by decide) (by decide) rfl (by decide) (la_22 h3 (by omega) h h0 (by omega) hL K)
    · subst e
      exact ex_tableIn (off := 818) (tgt := 851) de_La_33 (by decide) (by decide) (by decide) rfl (by decide) (la_23 h3 (by omega) h h0 (by omega) hL K)
    · subst e
      exact ex_tableIn (off := 881) (tgt := 914) de_La_33 (by decide) (by decide) (by decide) rfl (by decide) (la_24 h3 (by omega) h h0 (by omega) hL K)
    · subst e
      exact ex_tableIn (off := 950) (tgt := 983) de_La_33 (by decide) (by decide) (by decide) rfl (by decide) (la_25 h3 (by omega) h h0 (by omega) hL K)
    · subst e
      exact ex_tableIn (off := 973) (tgt := 1006) de_La_33 (by decide) (by decide) (by decide) rfl (by decide) (la_26 h3 (by omega) h h0 (by omega) hL K)
    · subst e
      exact ex_tableIn (off := 1006) (tgt := 1039) de_La_33 (by decide) (by decide) (by decide) rfl (by decide) (la_27 h3 (by omega) h h0 (by omega) hL K)
    · subst e
      exact ex_tableIn (off := 1029) (tgt := 1062) de_La_33 (by decide) (by decide) (by decide) rfl (by decide) (la_28 h3 (by omega) h h0 (by omega) hL K)
    · subst e
      exact ex_tableIn (off := 1082) (tgt := 1115) de_La_33 (by decide) (by decide) (by decide) rfl (by decide) (la_29 h3 (by omega) h h0 (by omega) hL K)
    · subst e
      exact ex_tableIn (off := 1105) (tgt := 1138) de_La_33 (by decide) (by decide) (by decide) rfl (by decide) (la_30 h3 (by omega) h h0 (by omega) hL K)
    · subst e
      exact ex_tableIn (off := 1128) (tgt := 1161) de_La_33 (by decide) (by decide) (by decide) rfl (by decide) (la_31 h3 (by omega) h h0 (by omega) hL K)
