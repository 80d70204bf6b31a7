abbrev mt_La : ab_M := (⟨"TurnRingLaw", "law", "([I)Z"⟩, code, 4, some .boolean)
theorem db_La_0 : (decode code 0 = .ok (.new 7, 3)) ∧ (decode code 3 = .ok (.dup, 1)) ∧ (decode code 4 = .ok (.invokespecial 9, 3)) ∧ (decode code 7 = .ok (.astore_n 1, 1)) ∧ (decode code 8 = .ok (.new 10, 3)) ∧ (decode code 11 = .ok (.dup, 1)) ∧ (decode code 12 = .ok (.invokespecial 12, 3)) ∧ (decode code 15 = .ok (.astore_n 2, 1)) ∧ (decode code 16 = .ok (.iconst 0, 1)) ∧ (decode code 17 = .ok (.istore_n 3, 1)) ∧ (decode code 18 = .ok (.iload_n 3, 1)) ∧ (decode code 19 = .ok (.aload_n 0, 1)) := by decide +kernel
theorem de_La_0 : decode code 0 = .ok (.new 7, 3) := db_La_0.1
theorem de_La_3 : decode code 3 = .ok (.dup, 1) := db_La_0.2.1
theorem de_La_4 : decode code 4 = .ok (.invokespecial 9, 3) := db_La_0.2.2.1
theorem de_La_7 : decode code 7 = .ok (.astore_n 1, 1) := db_La_0.2.2.2.1
theorem de_La_8 : decode code 8 = .ok (.new 10, 3) := db_La_0.2.2.2.2.1
theorem de_La_11 : decode code 11 = .ok (.dup, 1) := db_La_0.2.2.2.2.2.1
theorem de_La_12 : decode code 12 = .ok (.invokespecial 12, 3) := db_La_0.2.2.2.2.2.2.1
theorem de_La_15 : decode code 15 = .ok (.astore_n 2, 1) := db_La_0.2.2.2.2.2.2.2.1
theorem de_La_16 : decode code 16 = .ok (.iconst 0, 1) := db_La_0.2.2.2.2.2.2.2.2.1
theorem de_La_17 : decode code 17 = .ok (.istore_n 3, 1) := db_La_0.2.2.2.2.2.2.2.2.2.1
theorem de_La_18 : decode code 18 = .ok (.iload_n 3, 1) := db_La_0.2.2.2.2.2.2.2.2.2.2.1
theorem de_La_19 : decode code 19 = .ok (.aload_n 0, 1) := db_La_0.2.2.2.2.2.2.2.2.2.2.2
theorem db_La_12 : (decode code 20 = .ok (.arraylength, 1)) ∧ (decode code 21 = .ok (.bipush 6, 2)) ∧ (decode code 23 = .ok (.isub, 1)) ∧ (decode code 24 = .ok (.if_icmp .gt 1166, 3)) ∧ (decode code 27 = .ok (.aload_n 0, 1)) ∧ (decode code 28 = .ok (.iload_n 3, 1)) ∧ (decode code 29 = .ok (.iaload, 1)) ∧ (decode code 30 = .ok (.bipush 31, 2)) ∧ (decode code 32 = .ok (.iand, 1)) ∧ (decode code 33 = .ok (.tableswitch 1151 0 31 #[143, 206, 229, 242, 255, 288, 321, 344, 367, 380, 413, 446, 459, 472, 505, 538, 571, 594, 653, 706, 729, 752, 775, 818, 881, 950, 973, 1006, 1029, 1082, 1105, 1128], 143)) ∧ (decode code 176 = .ok (.aload_n 1, 1)) ∧ (decode code 177 = .ok (.aload_n 0, 1)) := by decide +kernel
theorem de_La_20 : decode code 20 = .ok (.arraylength, 1) := db_La_12.1
theorem de_La_21 : decode code 21 = .ok (.bipush 6, 2) := db_La_12.2.1
theorem de_La_23 : decode code 23 = .ok (.isub, 1) := db_La_12.2.2.1
theorem de_La_24 : decode code 24 = .ok (.if_icmp .gt 1166, 3) := db_La_12.2.2.2.1
theorem de_La_27 : decode code 27 = .ok (.aload_n 0, 1) := db_La_12.2.2.2.2.1
theorem de_La_28 : decode code 28 = .ok (.iload_n 3, 1) := db_La_12.2.2.2.2.2.1
theorem de_La_29 : decode code 29 = .ok (.iaload, 1) := db_La_12.2.2.2.2.2.2.1
theorem de_La_30 : decode code 30 = .ok (.bipush 31, 2) := db_La_12.2.2.2.2.2.2.2.1
theorem de_La_32 : decode code 32 = .ok (.iand, 1) := db_La_12.2.2.2.2.2.2.2.2.1
theorem de_La_33 : decode code 33 = .ok (.tableswitch 1151 0 31 #[143, 206, 229, 242, 255, 288, 321, 344, 367, 380, 413, 446, 459, 472, 505, 538, 571, 594, 653, 706, 729, 752, 775, 818, 881, 950, 973, 1006, 1029, 1082, 1105, 1128], 143) := db_La_12.2.2.2.2.2.2.2.2.2.1
theorem de_La_176 : decode code 176 = .ok (.aload_n 1, 1) := db_La_12.2.2.2.2.2.2.2.2.2.2.1
theorem de_La_177 : decode code 177 = .ok (.aload_n 0, 1) := db_La_12.2.2.2.2.2.2.2.2.2.2.2
theorem db_La_24 : (decode code 178 = .ok (.iload_n 3, 1)) ∧ (decode code 179 = .ok (.iconst 1, 1)) ∧ (decode code 180 = .ok (.iadd, 1)) ∧ (decode code 181 = .ok (.iaload, 1)) ∧ (decode code 182 = .ok (.aload_n 0, 1)) ∧ (decode code 183 = .ok (.iload_n 3, 1)) ∧ (decode code 184 = .ok (.iconst 2, 1)) ∧ (decode code 185 = .ok (.iadd, 1)) ∧ (decode code 186 = .ok (.iaload, 1)) ∧ (decode code 187 = .ok (.aload_n 0, 1)) ∧ (decode code 188 = .ok (.iload_n 3, 1)) ∧ (decode code 189 = .ok (.iconst 3, 1)) := by decide +kernel
theorem de_La_178 : decode code 178 = .ok (.iload_n 3, 1) := db_La_24.1
theorem de_La_179 : decode code 179 = .ok (.iconst 1, 1) := db_La_24.2.1
theorem de_La_180 : decode code 180 = .ok (.iadd, 1) := db_La_24.2.2.1
theorem de_La_181 : decode code 181 = .ok (.iaload, 1) := db_La_24.2.2.2.1
theorem de_La_182 : decode code 182 = .ok (.aload_n 0, 1) := db_La_24.2.2.2.2.1
theorem de_La_183 : decode code 183 = .ok (.iload_n 3, 1) := db_La_24.2.2.2.2.2.1
theorem de_La_184 : decode code 184 = .ok (.iconst 2, 1) := db_La_24.2.2.2.2.2.2.1
theorem de_La_185 : decode code 185 = .ok (.iadd, 1) := db_La_24.2.2.2.2.2.2.2.1
theorem de_La_186 : decode code 186 = .ok (.iaload, 1) := db_La_24.2.2.2.2.2.2.2.2.1
theorem de_La_187 : decode code 187 = .ok (.aload_n 0, 1) := db_La_24.2.2.2.2.2.2.2.2.2.1
theorem de_La_188 : decode code 188 = .ok (.iload_n 3, 1) := db_La_24.2.2.2.2.2.2.2.2.2.2.1
theorem de_La_189 : decode code 189 = .ok (.iconst 3, 1) := db_La_24.2.2.2.2.2.2.2.2.2.2.2
theorem db_La_36 : (decode code 190 = .ok (.iadd, 1)) ∧ (decode code 191 = .ok (.iaload, 1)) ∧ (decode code 192 = .ok (.aload_n 0, 1)) ∧ (decode code 193 = .ok (.iload_n 3, 1)) ∧ (decode code 194 = .ok (.iconst 4, 1)) ∧ (decode code 195 = .ok (.iadd, 1)) ∧ (decode code 196 = .ok (.iaload, 1)) ∧ (decode code 197 = .ok (.aload_n 0, 1)) ∧ (decode code 198 = .ok (.iload_n 3, 1)) ∧ (decode code 199 = .ok (.iconst 5, 1)) ∧ (decode code 200 = .ok (.iadd, 1)) ∧ (decode code 201 = .ok (.iaload, 1)) := by decide +kernel
theorem de_La_190 : decode code 190 = .ok (.iadd, 1) := db_La_36.1
theorem de_La_191 : decode code 191 = .ok (.iaload, 1) := db_La_36.2.1
theorem de_La_192 : decode code 192 = .ok (.aload_n 0, 1) := db_La_36.2.2.1
theorem de_La_193 : decode code 193 = .ok (.iload_n 3, 1) := db_La_36.2.2.2.1
theorem de_La_194 : decode code 194 = .ok (.iconst 4, 1) := db_La_36.2.2.2.2.1
theorem de_La_195 : decode code 195 = .ok (.iadd, 1) := db_La_36.2.2.2.2.2.1
theorem de_La_196 : decode code 196 = .ok (.iaload, 1) := db_La_36.2.2.2.2.2.2.1
theorem de_La_197 : decode code 197 = .ok (.aload_n 0, 1) := db_La_36.2.2.2.2.2.2.2.1
theorem de_La_198 : decode code 198 = .ok (.iload_n 3, 1) := db_La_36.2.2.2.2.2.2.2.2.1
theorem de_La_199 : decode code 199 = .ok (.iconst 5, 1) := db_La_36.2.2.2.2.2.2.2.2.2.1
theorem de_La_200 : decode code 200 = .ok (.iadd, 1) := db_La_36.2.2.2.2.2.2.2.2.2.2.1
theorem de_La_201 : decode code 201 = .ok (.iaload, 1) := db_La_36.2.2.2.2.2.2.2.2.2.2.2
theorem db_La_48 : (decode code 202 = .ok (.invokevirtual 13, 3)) ∧ (decode code 205 = .ok (.pop, 1)) ∧ (decode code 206 = .ok (.aload_n 2, 1)) ∧ (decode code 207 = .ok (.aload_n 0, 1)) ∧ (decode code 208 = .ok (.iload_n 3, 1)) ∧ (decode code 209 = .ok (.iconst 1, 1)) ∧ (decode code 210 = .ok (.iadd, 1)) ∧ (decode code 211 = .ok (.iaload, 1)) ∧ (decode code 212 = .ok (.aload_n 0, 1)) ∧ (decode code 213 = .ok (.iload_n 3, 1)) ∧ (decode code 214 = .ok (.iconst 2, 1)) ∧ (decode code 215 = .ok (.iadd, 1)) := by decide +kernel
theorem de_La_202 : decode code 202 = .ok (.invokevirtual 13, 3) := db_La_48.1
theorem de_La_205 : decode code 205 = .ok (.pop, 1) := db_La_48.2.1
theorem de_La_206 : decode code 206 = .ok (.aload_n 2, 1) := db_La_48.2.2.1
theorem de_La_207 : decode code 207 = .ok (.aload_n 0, 1) := db_La_48.2.2.2.1
theorem de_La_208 : decode code 208 = .ok (.iload_n 3, 1) := db_La_48.2.2.2.2.1
theorem de_La_209 : decode code 209 = .ok (.iconst 1, 1) := db_La_48.2.2.2.2.2.1
theorem de_La_210 : decode code 210 = .ok (.iadd, 1) := db_La_48.2.2.2.2.2.2.1
theorem de_La_211 : decode code 211 = .ok (.iaload, 1) := db_La_48.2.2.2.2.2.2.2.1
theorem de_La_212 : decode code 212 = .ok (.aload_n 0, 1) := db_La_48.2.2.2.2.2.2.2.2.1
theorem de_La_213 : decode code 213 = .ok (.iload_n 3, 1) := db_La_48.2.2.2.2.2.2.2.2.2.1
theorem de_La_214 : decode code 214 = .ok (.iconst 2, 1) := db_La_48.2.2.2.2.2.2.2.2.2.2.1
theorem de_La_215 : decode code 215 = .ok (.iadd, 1) := db_La_48.2.2.2.2.2.2.2.2.2.2.2
theorem db_La_60 : (decode code 216 = .ok (.iaload, 1)) ∧ (decode code 217 = .ok (.aload_n 0, 1)) ∧ (decode code 218 = .ok (.iload_n 3, 1)) ∧ (decode code 219 = .ok (.iconst 3, 1)) ∧ (decode code 220 = .ok (.iadd, 1)) ∧ (decode code 221 = .ok (.iaload, 1)) ∧ (decode code 222 = .ok (.aload_n 0, 1)) ∧ (decode code 223 = .ok (.iload_n 3, 1)) ∧ (decode code 224 = .ok (.iconst 4, 1)) ∧ (decode code 225 = .ok (.iadd, 1)) ∧ (decode code 226 = .ok (.iaload, 1)) ∧ (decode code 227 = .ok (.aload_n 0, 1)) := by decide +kernel
theorem de_La_216 : decode code 216 = .ok (.iaload, 1) := db_La_60.1
theorem de_La_217 : decode code 217 = .ok (.aload_n 0, 1) := db_La_60.2.1
theorem de_La_218 : decode code 218 = .ok (.iload_n 3, 1) := db_La_60.2.2.1
theorem de_La_219 : decode code 219 = .ok (.iconst 3, 1) := db_La_60.2.2.2.1
theorem de_La_220 : decode code 220 = .ok (.iadd, 1) := db_La_60.2.2.2.2.1
theorem de_La_221 : decode code 221 = .ok (.iaload, 1) := db_La_60.2.2.2.2.2.1
theorem de_La_222 : decode code 222 = .ok (.aload_n 0, 1) := db_La_60.2.2.2.2.2.2.1
theorem de_La_223 : decode code 223 = .ok (.iload_n 3, 1) := db_La_60.2.2.2.2.2.2.2.1
theorem de_La_224 : decode code 224 = .ok (.iconst 4, 1) := db_La_60.2.2.2.2.2.2.2.2.1
theorem de_La_225 : decode code 225 = .ok (.iadd, 1) := db_La_60.2.2.2.2.2.2.2.2.2.1
theorem de_La_226 : decode code 226 = .ok (.iaload, 1) := db_La_60.2.2.2.2.2.2.2.2.2.2.1
theorem de_La_227 : decode code 227 = .ok (.aload_n 0, 1) := db_La_60.2.2.2.2.2.2.2.2.2.2.2
theorem db_La_72 : (decode code 228 = .ok (.iload_n 3, 1)) ∧ (decode code 229 = .ok (.iconst 5, 1)) ∧ (decode code 230 = .ok (.iadd, 1)) ∧ (decode code 231 = .ok (.iaload, 1)) ∧ (decode code 232 = .ok (.invokevirtual 17, 3)) ∧ (decode code 235 = .ok (.pop, 1)) ∧ (decode code 236 = .ok (.goto 948, 3)) ∧ (decode code 239 = .ok (.aload_n 1, 1)) ∧ (decode code 240 = .ok (.aload_n 0, 1)) ∧ (decode code 241 = .ok (.iload_n 3, 1)) ∧ (decode code 242 = .ok (.iconst 1, 1)) ∧ (decode code 243 = .ok (.iadd, 1)) := by decide +kernel
theorem de_La_228 : decode code 228 = .ok (.iload_n 3, 1) := db_La_72.1
theorem de_La_229 : decode code 229 = .ok (.iconst 5, 1) := db_La_72.2.1
theorem de_La_230 : decode code 230 = .ok (.iadd, 1) := db_La_72.2.2.1
theorem de_La_231 : decode code 231 = .ok (.iaload, 1) := db_La_72.2.2.2.1
theorem de_La_232 : decode code 232 = .ok (.invokevirtual 17, 3) := db_La_72.2.2.2.2.1
theorem de_La_235 : decode code 235 = .ok (.pop, 1) := db_La_72.2.2.2.2.2.1
theorem de_La_236 : decode code 236 = .ok (.goto 948, 3) := db_La_72.2.2.2.2.2.2.1
theorem de_La_239 : decode code 239 = .ok (.aload_n 1, 1) := db_La_72.2.2.2.2.2.2.2.1
theorem de_La_240 : decode code 240 = .ok (.aload_n 0, 1) := db_La_72.2.2.2.2.2.2.2.2.1
theorem de_La_241 : decode code 241 = .ok (.iload_n 3, 1) := db_La_72.2.2.2.2.2.2.2.2.2.1
theorem de_La_242 : decode code 242 = .ok (.iconst 1, 1) := db_La_72.2.2.2.2.2.2.2.2.2.2.1
theorem de_La_243 : decode code 243 = .ok (.iadd, 1) := db_La_72.2.2.2.2.2.2.2.2.2.2.2
theorem db_La_84 : (decode code 244 = .ok (.iaload, 1)) ∧ (decode code 245 = .ok (.invokevirtual 18, 3)) ∧ (decode code 248 = .ok (.pop, 1)) ∧ (decode code 249 = .ok (.aload_n 2, 1)) ∧ (decode code 250 = .ok (.aload_n 0, 1)) ∧ (decode code 251 = .ok (.iload_n 3, 1)) ∧ (decode code 252 = .ok (.iconst 1, 1)) ∧ (decode code 253 = .ok (.iadd, 1)) ∧ (decode code 254 = .ok (.iaload, 1)) ∧ (decode code 255 = .ok (.invokevirtual 22, 3)) ∧ (decode code 258 = .ok (.pop, 1)) ∧ (decode code 259 = .ok (.goto 925, 3)) := by decide +kernel
theorem de_La_244 : decode code 244 = .ok (.iaload, 1) := db_La_84.1
theorem de_La_245 : decode code 245 = .ok (.invokevirtual 18, 3) := db_La_84.2.1
theorem de_La_248 : decode code 248 = .ok (.pop, 1) := db_La_84.2.2.1
theorem de_La_249 : decode code 249 = .ok (.aload_n 2, 1) := db_La_84.2.2.2.1
theorem de_La_250 : decode code 250 = .ok (.aload_n 0, 1) := db_La_84.2.2.2.2.1
theorem de_La_251 : decode code 251 = .ok (.iload_n 3, 1) := db_La_84.2.2.2.2.2.1
theorem de_La_252 : decode code 252 = .ok (.iconst 1, 1) := db_La_84.2.2.2.2.2.2.1
theorem de_La_253 : decode code 253 = .ok (.iadd, 1) := db_La_84.2.2.2.2.2.2.2.1
theorem de_La_254 : decode code 254 = .ok (.iaload, 1) := db_La_84.2.2.2.2.2.2.2.2.1
theorem de_La_255 : decode code 255 = .ok (.invokevirtual 22, 3) := db_La_84.2.2.2.2.2.2.2.2.2.1
theorem de_La_258 : decode code 258 = .ok (.pop, 1) := db_La_84.2.2.2.2.2.2.2.2.2.2.1
theorem de_La_259 : decode code 259 = .ok (.goto 925, 3) := db_La_84.2.2.2.2.2.2.2.2.2.2.2
theorem db_La_96 : (decode code 262 = .ok (.aload_n 1, 1)) ∧ (decode code 263 = .ok (.invokevirtual 23, 3)) ∧ (decode code 266 = .ok (.pop, 1)) ∧ (decode code 267 = .ok (.aload_n 2, 1)) ∧ (decode code 268 = .ok (.invokevirtual 27, 3)) ∧ (decode code 271 = .ok (.pop, 1)) ∧ (decode code 272 = .ok (.goto 912, 3)) ∧ (decode code 275 = .ok (.aload_n 1, 1)) ∧ (decode code 276 = .ok (.invokevirtual 28, 3)) ∧ (decode code 279 = .ok (.pop, 1)) ∧ (decode code 280 = .ok (.aload_n 2, 1)) ∧ (decode code 281 = .ok (.invokevirtual 31, 3)) := by decide +kernel
theorem de_La_262 : decode code 262 = .ok (.aload_n 1, 1) := db_La_96.1
theorem de_La_263 : decode code 263 = .ok (.invokevirtual 23, 3) := db_La_96.2.1
theorem de_La_266 : decode code 266 = .ok (.pop, 1) := db_La_96.2.2.1
theorem de_La_267 : decode code 267 = .ok (.aload_n 2, 1) := db_La_96.2.2.2.1
theorem de_La_268 : decode code 268 = .ok (.invokevirtual 27, 3) := db_La_96.2.2.2.2.1
theorem de_La_271 : decode code 271 = .ok (.pop, 1) := db_La_96.2.2.2.2.2.1
theorem de_La_272 : decode code 272 = .ok (.goto 912, 3) := db_La_96.2.2.2.2.2.2.1
theorem de_La_275 : decode code 275 = .ok (.aload_n 1, 1) := db_La_96.2.2.2.2.2.2.2.1
theorem de_La_276 : decode code 276 = .ok (.invokevirtual 28, 3) := db_La_96.2.2.2.2.2.2.2.2.1
theorem de_La_279 : decode code 279 = .ok (.pop, 1) := db_La_96.2.2.2.2.2.2.2.2.2.1
theorem de_La_280 : decode code 280 = .ok (.aload_n 2, 1) := db_La_96.2.2.2.2.2.2.2.2.2.2.1
theorem de_La_281 : decode code 281 = .ok (.invokevirtual 31, 3) := db_La_96.2.2.2.2.2.2.2.2.2.2.2
theorem db_La_108 : (decode code 284 = .ok (.pop, 1)) ∧ (decode code 285 = .ok (.goto 899, 3)) ∧ (decode code 288 = .ok (.aload_n 1, 1)) ∧ (decode code 289 = .ok (.aload_n 0, 1)) ∧ (decode code 290 = .ok (.iload_n 3, 1)) ∧ (decode code 291 = .ok (.iconst 1, 1)) ∧ (decode code 292 = .ok (.iadd, 1)) ∧ (decode code 293 = .ok (.iaload, 1)) ∧ (decode code 294 = .ok (.aload_n 0, 1)) ∧ (decode code 295 = .ok (.iload_n 3, 1)) ∧ (decode code 296 = .ok (.iconst 2, 1)) ∧ (decode code 297 = .ok (.iadd, 1)) := by decide +kernel
theorem de_La_284 : decode code 284 = .ok (.pop, 1) := db_La_108.1
theorem de_La_285 : decode code 285 = .ok (.goto 899, 3) := db_La_108.2.1
theorem de_La_288 : decode code 288 = .ok (.aload_n 1, 1) := db_La_108.2.2.1
theorem de_La_289 : decode code 289 = .ok (.aload_n 0, 1) := db_La_108.2.2.2.1
theorem de_La_290 : decode code 290 = .ok (.iload_n 3, 1) := db_La_108.2.2.2.2.1
theorem de_La_291 : decode code 291 = .ok (.iconst 1, 1) := db_La_108.2.2.2.2.2.1
theorem de_La_292 : decode code 292 = .ok (.iadd, 1) := db_La_108.2.2.2.2.2.2.1
theorem de_La_293 : decode code 293 = .ok (.iaload, 1) := db_La_108.2.2.2.2.2.2.2.1
theorem de_La_294 : decode code 294 = .ok (.aload_n 0, 1) := db_La_108.2.2.2.2.2.2.2.2.1
theorem de_La_295 : decode code 295 = .ok (.iload_n 3, 1) := db_La_108.2.2.2.2.2.2.2.2.2.1
theorem de_La_296 : decode code 296 = .ok (.iconst 2, 1) := db_La_108.2.2.2.2.2.2.2.2.2.2.1
theorem de_La_297 : decode code 297 = .ok (.iadd, 1) := db_La_108.2.2.2.2.2.2.2.2.2.2.2
theorem db_La_120 : (decode code 298 = .ok (.iaload, 1)) ∧ (decode code 299 = .ok (.invokevirtual 32, 3)) ∧ (decode code 302 = .ok (.pop, 1)) ∧ (decode code 303 = .ok (.aload_n 2, 1)) ∧ (decode code 304 = .ok (.aload_n 0, 1)) ∧ (decode code 305 = .ok (.iload_n 3, 1)) ∧ (decode code 306 = .ok (.iconst 1, 1)) ∧ (decode code 307 = .ok (.iadd, 1)) ∧ (decode code 308 = .ok (.iaload, 1)) ∧ (decode code 309 = .ok (.aload_n 0, 1)) ∧ (decode code 310 = .ok (.iload_n 3, 1)) ∧ (decode code 311 = .ok (.iconst 2, 1)) := by decide +kernel
theorem de_La_298 : decode code 298 = .ok (.iaload, 1) := db_La_120.1
theorem de_La_299 : decode code 299 = .ok (.invokevirtual 32, 3) := db_La_120.2.1
theorem de_La_302 : decode code 302 = .ok (.pop, 1) := db_La_120.2.2.1
theorem de_La_303 : decode code 303 = .ok (.aload_n 2, 1) := db_La_120.2.2.2.1
theorem de_La_304 : decode code 304 = .ok (.aload_n 0, 1) := db_La_120.2.2.2.2.1
theorem de_La_305 : decode code 305 = .ok (.iload_n 3, 1) := db_La_120.2.2.2.2.2.1
theorem de_La_306 : decode code 306 = .ok (.iconst 1, 1) := db_La_120.2.2.2.2.2.2.1
theorem de_La_307 : decode code 307 = .ok (.iadd, 1) := db_La_120.2.2.2.2.2.2.2.1
theorem de_La_308 : decode code 308 = .ok (.iaload, 1) := db_La_120.2.2.2.2.2.2.2.2.1
theorem de_La_309 : decode code 309 = .ok (.aload_n 0, 1) := db_La_120.2.2.2.2.2.2.2.2.2.1
theorem de_La_310 : decode code 310 = .ok (.iload_n 3, 1) := db_La_120.2.2.2.2.2.2.2.2.2.2.1
theorem de_La_311 : decode code 311 = .ok (.iconst 2, 1) := db_La_120.2.2.2.2.2.2.2.2.2.2.2
theorem db_La_132 : (decode code 312 = .ok (.iadd, 1)) ∧ (decode code 313 = .ok (.iaload, 1)) ∧ (decode code 314 = .ok (.invokevirtual 36, 3)) ∧ (decode code 317 = .ok (.pop, 1)) ∧ (decode code 318 = .ok (.goto 866, 3)) ∧ (decode code 321 = .ok (.aload_n 1, 1)) ∧ (decode code 322 = .ok (.aload_n 0, 1)) ∧ (decode code 323 = .ok (.iload_n 3, 1)) ∧ (decode code 324 = .ok (.iconst 1, 1)) ∧ (decode code 325 = .ok (.iadd, 1)) ∧ (decode code 326 = .ok (.iaload, 1)) ∧ (decode code 327 = .ok (.aload_n 0, 1)) := by decide +kernel
theorem de_La_312 : decode code 312 = .ok (.iadd, 1) := db_La_132.1
theorem de_La_313 : decode code 313 = .ok (.iaload, 1) := db_La_132.2.1
theorem de_La_314 : decode code 314 = .ok (.invokevirtual 36, 3) := db_La_132.2.2.1
theorem de_La_317 : decode code 317 = .ok (.pop, 1) := db_La_132.2.2.2.1
theorem de_La_318 : decode code 318 = .ok (.goto 866, 3) := db_La_132.2.2.2.2.1
theorem de_La_321 : decode code 321 = .ok (.aload_n 1, 1) := db_La_132.2.2.2.2.2.1
theorem de_La_322 : decode code 322 = .ok (.aload_n 0, 1) := db_La_132.2.2.2.2.2.2.1
theorem de_La_323 : decode code 323 = .ok (.iload_n 3, 1) := db_La_132.2.2.2.2.2.2.2.1
theorem de_La_324 : decode code 324 = .ok (.iconst 1, 1) := db_La_132.2.2.2.2.2.2.2.2.1
theorem de_La_325 : decode code 325 = .ok (.iadd, 1) := db_La_132.2.2.2.2.2.2.2.2.2.1
theorem de_La_326 : decode code 326 = .ok (.iaload, 1) := db_La_132.2.2.2.2.2.2.2.2.2.2.1
theorem de_La_327 : decode code 327 = .ok (.aload_n 0, 1) := db_La_132.2.2.2.2.2.2.2.2.2.2.2
theorem db_La_144 : (decode code 328 = .ok (.iload_n 3, 1)) ∧ (decode code 329 = .ok (.iconst 2, 1)) ∧ (decode code 330 = .ok (.iadd, 1)) ∧ (decode code 331 = .ok (.iaload, 1)) ∧ (decode code 332 = .ok (.invokevirtual 37, 3)) ∧ (decode code 335 = .ok (.pop, 1)) ∧ (decode code 336 = .ok (.aload_n 2, 1)) ∧ (decode code 337 = .ok (.aload_n 0, 1)) ∧ (decode code 338 = .ok (.iload_n 3, 1)) ∧ (decode code 339 = .ok (.iconst 1, 1)) ∧ (decode code 340 = .ok (.iadd, 1)) ∧ (decode code 341 = .ok (.iaload, 1)) := by decide +kernel
theorem de_La_328 : decode code 328 = .ok (.iload_n 3, 1) := db_La_144.1
theorem de_La_329 : decode code 329 = .ok (.iconst 2, 1) := db_La_144.2.1
theorem de_La_330 : decode code 330 = .ok (.iadd, 1) := db_La_144.2.2.1
theorem de_La_331 : decode code 331 = .ok (.iaload, 1) := db_La_144.2.2.2.1
theorem de_La_332 : decode code 332 = .ok (.invokevirtual 37, 3) := db_La_144.2.2.2.2.1
theorem de_La_335 : decode code 335 = .ok (.pop, 1) := db_La_144.2.2.2.2.2.1
theorem de_La_336 : decode code 336 = .ok (.aload_n 2, 1) := db_La_144.2.2.2.2.2.2.1
theorem de_La_337 : decode code 337 = .ok (.aload_n 0, 1) := db_La_144.2.2.2.2.2.2.2.1
theorem de_La_338 : decode code 338 = .ok (.iload_n 3, 1) := db_La_144.2.2.2.2.2.2.2.2.1
theorem de_La_339 : decode code 339 = .ok (.iconst 1, 1) := db_La_144.2.2.2.2.2.2.2.2.2.1
theorem de_La_340 : decode code 340 = .ok (.iadd, 1) := db_La_144.2.2.2.2.2.2.2.2.2.2.1
theorem de_La_341 : decode code 341 = .ok (.iaload, 1) := db_La_144.2.2.2.2.2.2.2.2.2.2.2
theorem db_La_156 : (decode code 342 = .ok (.aload_n 0, 1)) ∧ (decode code 343 = .ok (.iload_n 3, 1)) ∧ (decode code 344 = .ok (.iconst 2, 1)) ∧ (decode code 345 = .ok (.iadd, 1)) ∧ (decode code 346 = .ok (.iaload, 1)) ∧ (decode code 347 = .ok (.invokevirtual 40, 3)) ∧ (decode code 350 = .ok (.pop, 1)) ∧ (decode code 351 = .ok (.goto 833, 3)) ∧ (decode code 354 = .ok (.aload_n 1, 1)) ∧ (decode code 355 = .ok (.aload_n 0, 1)) ∧ (decode code 356 = .ok (.iload_n 3, 1)) ∧ (decode code 357 = .ok (.iconst 1, 1)) := by decide +kernel
theorem de_La_342 : decode code 342 = .ok (.aload_n 0, 1) := db_La_156.1
theorem de_La_343 : decode code 343 = .ok (.iload_n 3, 1) := db_La_156.2.1
theorem de_La_344 : decode code 344 = .ok (.iconst 2, 1) := db_La_156.2.2.1
theorem de_La_345 : decode code 345 = .ok (.iadd, 1) := db_La_156.2.2.2.1
theorem de_La_346 : decode code 346 = .ok (.iaload, 1) := db_La_156.2.2.2.2.1
theorem de_La_347 : decode code 347 = .ok (.invokevirtual 40, 3) := db_La_156.2.2.2.2.2.1
theorem de_La_350 : decode code 350 = .ok (.pop, 1) := db_La_156.2.2.2.2.2.2.1
theorem de_La_351 : decode code 351 = .ok (.goto 833, 3) := db_La_156.2.2.2.2.2.2.2.1
theorem de_La_354 : decode code 354 = .ok (.aload_n 1, 1) := db_La_156.2.2.2.2.2.2.2.2.1
theorem de_La_355 : decode code 355 = .ok (.aload_n 0, 1) := db_La_156.2.2.2.2.2.2.2.2.2.1
theorem de_La_356 : decode code 356 = .ok (.iload_n 3, 1) := db_La_156.2.2.2.2.2.2.2.2.2.2.1
theorem de_La_357 : decode code 357 = .ok (.iconst 1, 1) := db_La_156.2.2.2.2.2.2.2.2.2.2.2
theorem db_La_168 : (decode code 358 = .ok (.iadd, 1)) ∧ (decode code 359 = .ok (.iaload, 1)) ∧ (decode code 360 = .ok (.invokevirtual 41, 3)) ∧ (decode code 363 = .ok (.pop, 1)) ∧ (decode code 364 = .ok (.aload_n 2, 1)) ∧ (decode code 365 = .ok (.aload_n 0, 1)) ∧ (decode code 366 = .ok (.iload_n 3, 1)) ∧ (decode code 367 = .ok (.iconst 1, 1)) ∧ (decode code 368 = .ok (.iadd, 1)) ∧ (decode code 369 = .ok (.iaload, 1)) ∧ (decode code 370 = .ok (.invokevirtual 44, 3)) ∧ (decode code 373 = .ok (.pop, 1)) := by decide +kernel
theorem de_La_358 : decode code 358 = .ok (.iadd, 1) := db_La_168.1
theorem de_La_359 : decode code 359 = .ok (.iaload, 1) := db_La_168.2.1
theorem de_La_360 : decode code 360 = .ok (.invokevirtual 41, 3) := db_La_168.2.2.1
theorem de_La_363 : decode code 363 = .ok (.pop, 1) := db_La_168.2.2.2.1
theorem de_La_364 : decode code 364 = .ok (.aload_n 2, 1) := db_La_168.2.2.2.2.1
theorem de_La_365 : decode code 365 = .ok (.aload_n 0, 1) := db_La_168.2.2.2.2.2.1
theorem de_La_366 : decode code 366 = .ok (.iload_n 3, 1) := db_La_168.2.2.2.2.2.2.1
theorem de_La_367 : decode code 367 = .ok (.iconst 1, 1) := db_La_168.2.2.2.2.2.2.2.1
theorem de_La_368 : decode code 368 = .ok (.iadd, 1) := db_La_168.2.2.2.2.2.2.2.2.1
theorem de_La_369 : decode code 369 = .ok (.iaload, 1) := db_La_168.2.2.2.2.2.2.2.2.2.1
theorem de_La_370 : decode code 370 = .ok (.invokevirtual 44, 3) := db_La_168.2.2.2.2.2.2.2.2.2.2.1
theorem de_La_373 : decode code 373 = .ok (.pop, 1) := db_La_168.2.2.2.2.2.2.2.2.2.2.2
theorem db_La_180 : (decode code 374 = .ok (.goto 810, 3)) ∧ (decode code 377 = .ok (.aload_n 1, 1)) ∧ (decode code 378 = .ok (.aload_n 0, 1)) ∧ (decode code 379 = .ok (.iload_n 3, 1)) ∧ (decode code 380 = .ok (.iconst 1, 1)) ∧ (decode code 381 = .ok (.iadd, 1)) ∧ (decode code 382 = .ok (.iaload, 1)) ∧ (decode code 383 = .ok (.invokevirtual 45, 3)) ∧ (decode code 386 = .ok (.pop, 1)) ∧ (decode code 387 = .ok (.aload_n 2, 1)) ∧ (decode code 388 = .ok (.aload_n 0, 1)) ∧ (decode code 389 = .ok (.iload_n 3, 1)) := by decide +kernel
theorem de_La_374 : decode code 374 = .ok (.goto 810, 3) := db_La_180.1
theorem de_La_377 : decode code 377 = .ok (.aload_n 1, 1) := db_La_180.2.1
theorem de_La_378 : decode code 378 = .ok (.aload_n 0, 1) := db_La_180.2.2.1
theorem de_La_379 : decode code 379 = .ok (.iload_n 3, 1) := db_La_180.2.2.2.1
theorem de_La_380 : decode code 380 = .ok (.iconst 1, 1) := db_La_180.2.2.2.2.1
theorem de_La_381 : decode code 381 = .ok (.iadd, 1) := db_La_180.2.2.2.2.2.1
theorem de_La_382 : decode code 382 = .ok (.iaload, 1) := db_La_180.2.2.2.2.2.2.1
theorem de_La_383 : decode code 383 = .ok (.invokevirtual 45, 3) := db_La_180.2.2.2.2.2.2.2.1
theorem de_La_386 : decode code 386 = .ok (.pop, 1) := db_La_180.2.2.2.2.2.2.2.2.1
theorem de_La_387 : decode code 387 = .ok (.aload_n 2, 1) := db_La_180.2.2.2.2.2.2.2.2.2.1
theorem de_La_388 : decode code 388 = .ok (.aload_n 0, 1) := db_La_180.2.2.2.2.2.2.2.2.2.2.1
theorem de_La_389 : decode code 389 = .ok (.iload_n 3, 1) := db_La_180.2.2.2.2.2.2.2.2.2.2.2
theorem db_La_192 : (decode code 390 = .ok (.iconst 1, 1)) ∧ (decode code 391 = .ok (.iadd, 1)) ∧ (decode code 392 = .ok (.iaload, 1)) ∧ (decode code 393 = .ok (.invokevirtual 48, 3)) ∧ (decode code 396 = .ok (.pop, 1)) ∧ (decode code 397 = .ok (.goto 787, 3)) ∧ (decode code 400 = .ok (.aload_n 1, 1)) ∧ (decode code 401 = .ok (.invokevirtual 49, 3)) ∧ (decode code 404 = .ok (.pop, 1)) ∧ (decode code 405 = .ok (.aload_n 2, 1)) ∧ (decode code 406 = .ok (.invokevirtual 52, 3)) ∧ (decode code 409 = .ok (.pop, 1)) := by decide +kernel
theorem de_La_390 : decode code 390 = .ok (.iconst 1, 1) := db_La_192.1
theorem de_La_391 : decode code 391 = .ok (.iadd, 1) := db_La_192.2.1
theorem de_La_392 : decode code 392 = .ok (.iaload, 1) := db_La_192.2.2.1
theorem de_La_393 : decode code 393 = .ok (.invokevirtual 48, 3) := db_La_192.2.2.2.1
theorem de_La_396 : decode code 396 = .ok (.pop, 1) := db_La_192.2.2.2.2.1
theorem de_La_397 : decode code 397 = .ok (.goto 787, 3) := db_La_192.2.2.2.2.2.1
theorem de_La_400 : decode code 400 = .ok (.aload_n 1, 1) := db_La_192.2.2.2.2.2.2.1
theorem de_La_401 : decode code 401 = .ok (.invokevirtual 49, 3) := db_La_192.2.2.2.2.2.2.2.1
theorem de_La_404 : decode code 404 = .ok (.pop, 1) := db_La_192.2.2.2.2.2.2.2.2.1
theorem de_La_405 : decode code 405 = .ok (.aload_n 2, 1) := db_La_192.2.2.2.2.2.2.2.2.2.1
theorem de_La_406 : decode code 406 = .ok (.invokevirtual 52, 3) := db_La_192.2.2.2.2.2.2.2.2.2.2.1
theorem de_La_409 : decode code 409 = .ok (.pop, 1) := db_La_192.2.2.2.2.2.2.2.2.2.2.2
theorem db_La_204 : (decode code 410 = .ok (.goto 774, 3)) ∧ (decode code 413 = .ok (.aload_n 1, 1)) ∧ (decode code 414 = .ok (.aload_n 0, 1)) ∧ (decode code 415 = .ok (.iload_n 3, 1)) ∧ (decode code 416 = .ok (.iconst 1, 1)) ∧ (decode code 417 = .ok (.iadd, 1)) ∧ (decode code 418 = .ok (.iaload, 1)) ∧ (decode code 419 = .ok (.aload_n 0, 1)) ∧ (decode code 420 = .ok (.iload_n 3, 1)) ∧ (decode code 421 = .ok (.iconst 2, 1)) ∧ (decode code 422 = .ok (.iadd, 1)) ∧ (decode code 423 = .ok (.iaload, 1)) := by decide +kernel
theorem de_La_410 : decode code 410 = .ok (.goto 774, 3) := db_La_204.1
theorem de_La_413 : decode code 413 = .ok (.aload_n 1, 1) := db_La_204.2.1
theorem de_La_414 : decode code 414 = .ok (.aload_n 0, 1) := db_La_204.2.2.1
theorem de_La_415 : decode code 415 = .ok (.iload_n 3, 1) := db_La_204.2.2.2.1
theorem de_La_416 : decode code 416 = .ok (.iconst 1, 1) := db_La_204.2.2.2.2.1
theorem de_La_417 : decode code 417 = .ok (.iadd, 1) := db_La_204.2.2.2.2.2.1
theorem de_La_418 : decode code 418 = .ok (.iaload, 1) := db_La_204.2.2.2.2.2.2.1
theorem de_La_419 : decode code 419 = .ok (.aload_n 0, 1) := db_La_204.2.2.2.2.2.2.2.1
theorem de_La_420 : decode code 420 = .ok (.iload_n 3, 1) := db_La_204.2.2.2.2.2.2.2.2.1
theorem de_La_421 : decode code 421 = .ok (.iconst 2, 1) := db_La_204.2.2.2.2.2.2.2.2.2.1
theorem de_La_422 : decode code 422 = .ok (.iadd, 1) := db_La_204.2.2.2.2.2.2.2.2.2.2.1
theorem de_La_423 : decode code 423 = .ok (.iaload, 1) := db_La_204.2.2.2.2.2.2.2.2.2.2.2
theorem db_La_216 : (decode code 424 = .ok (.invokevirtual 53, 3)) ∧ (decode code 427 = .ok (.pop, 1)) ∧ (decode code 428 = .ok (.aload_n 2, 1)) ∧ (decode code 429 = .ok (.aload_n 0, 1)) ∧ (decode code 430 = .ok (.iload_n 3, 1)) ∧ (decode code 431 = .ok (.iconst 1, 1)) ∧ (decode code 432 = .ok (.iadd, 1)) ∧ (decode code 433 = .ok (.iaload, 1)) ∧ (decode code 434 = .ok (.aload_n 0, 1)) ∧ (decode code 435 = .ok (.iload_n 3, 1)) ∧ (decode code 436 = .ok (.iconst 2, 1)) ∧ (decode code 437 = .ok (.iadd, 1)) := by decide +kernel
theorem de_La_424 : decode code 424 = .ok (.invokevirtual 53, 3) := db_La_216.1
theorem de_La_427 : decode code 427 = .ok (.pop, 1) := db_La_216.2.1
theorem de_La_428 : decode code 428 = .ok (.aload_n 2, 1) := db_La_216.2.2.1
theorem de_La_429 : decode code 429 = .ok (.aload_n 0, 1) := db_La_216.2.2.2.1
theorem de_La_430 : decode code 430 = .ok (.iload_n 3, 1) := db_La_216.2.2.2.2.1
theorem de_La_431 : decode code 431 = .ok (.iconst 1, 1) := db_La_216.2.2.2.2.2.1
theorem de_La_432 : decode code 432 = .ok (.iadd, 1) := db_La_216.2.2.2.2.2.2.1
theorem de_La_433 : decode code 433 = .ok (.iaload, 1) := db_La_216.2.2.2.2.2.2.2.1
theorem de_La_434 : decode code 434 = .ok (.aload_n 0, 1) := db_La_216.2.2.2.2.2.2.2.2.1
theorem de_La_435 : decode code 435 = .ok (.iload_n 3, 1) := db_La_216.2.2.2.2.2.2.2.2.2.1
theorem de_La_436 : decode code 436 = .ok (.iconst 2, 1) := db_La_216.2.2.2.2.2.2.2.2.2.2.1
theorem de_La_437 : decode code 437 = .ok (.iadd, 1) := db_La_216.2.2.2.2.2.2.2.2.2.2.2
theorem db_La_228 : (decode code 438 = .ok (.iaload, 1)) ∧ (decode code 439 = .ok (.invokevirtual 56, 3)) ∧ (decode code 442 = .ok (.pop, 1)) ∧ (decode code 443 = .ok (.goto 741, 3)) ∧ (decode code 446 = .ok (.aload_n 1, 1)) ∧ (decode code 447 = .ok (.aload_n 0, 1)) ∧ (decode code 448 = .ok (.iload_n 3, 1)) ∧ (decode code 449 = .ok (.iconst 1, 1)) ∧ (decode code 450 = .ok (.iadd, 1)) ∧ (decode code 451 = .ok (.iaload, 1)) ∧ (decode code 452 = .ok (.aload_n 0, 1)) ∧ (decode code 453 = .ok (.iload_n 3, 1)) := by decide +kernel
theorem de_La_438 : decode code 438 = .ok (.iaload, 1) := db_La_228.1
theorem de_La_439 : decode code 439 = .ok (.invokevirtual 56, 3) := db_La_228.2.1
theorem de_La_442 : decode code 442 = .ok (.pop, 1) := db_La_228.2.2.1
theorem de_La_443 : decode code 443 = .ok (.goto 741, 3) := db_La_228.2.2.2.1
theorem de_La_446 : decode code 446 = .ok (.aload_n 1, 1) := db_La_228.2.2.2.2.1
theorem de_La_447 : decode code 447 = .ok (.aload_n 0, 1) := db_La_228.2.2.2.2.2.1
theorem de_La_448 : decode code 448 = .ok (.iload_n 3, 1) := db_La_228.2.2.2.2.2.2.1
theorem de_La_449 : decode code 449 = .ok (.iconst 1, 1) := db_La_228.2.2.2.2.2.2.2.1
theorem de_La_450 : decode code 450 = .ok (.iadd, 1) := db_La_228.2.2.2.2.2.2.2.2.1
theorem de_La_451 : decode code 451 = .ok (.iaload, 1) := db_La_228.2.2.2.2.2.2.2.2.2.1
theorem de_La_452 : decode code 452 = .ok (.aload_n 0, 1) := db_La_228.2.2.2.2.2.2.2.2.2.2.1
theorem de_La_453 : decode code 453 = .ok (.iload_n 3, 1) := db_La_228.2.2.2.2.2.2.2.2.2.2.2
theorem db_La_240 : (decode code 454 = .ok (.iconst 2, 1)) ∧ (decode code 455 = .ok (.iadd, 1)) ∧ (decode code 456 = .ok (.iaload, 1)) ∧ (decode code 457 = .ok (.invokevirtual 57, 3)) ∧ (decode code 460 = .ok (.pop, 1)) ∧ (decode code 461 = .ok (.aload_n 2, 1)) ∧ (decode code 462 = .ok (.aload_n 0, 1)) ∧ (decode code 463 = .ok (.iload_n 3, 1)) ∧ (decode code 464 = .ok (.iconst 1, 1)) ∧ (decode code 465 = .ok (.iadd, 1)) ∧ (decode code 466 = .ok (.iaload, 1)) ∧ (decode code 467 = .ok (.aload_n 0, 1)) := by decide +kernel
theorem de_La_454 : decode code 454 = .ok (.iconst 2, 1) := db_La_240.1
theorem de_La_455 : decode code 455 = .ok (.iadd, 1) := db_La_240.2.1
theorem de_La_456 : decode code 456 = .ok (.iaload, 1) := db_La_240.2.2.1
theorem de_La_457 : decode code 457 = .ok (.invokevirtual 57, 3) := db_La_240.2.2.2.1
theorem de_La_460 : decode code 460 = .ok (.pop, 1) := db_La_240.2.2.2.2.1
theorem de_La_461 : decode code 461 = .ok (.aload_n 2, 1) := db_La_240.2.2.2.2.2.1
theorem de_La_462 : decode code 462 = .ok (.aload_n 0, 1) := db_La_240.2.2.2.2.2.2.1
theorem de_La_463 : decode code 463 = .ok (.iload_n 3, 1) := db_La_240.2.2.2.2.2.2.2.1
theorem de_La_464 : decode code 464 = .ok (.iconst 1, 1) := db_La_240.2.2.2.2.2.2.2.2.1
theorem de_La_465 : decode code 465 = .ok (.iadd, 1) := db_La_240.2.2.2.2.2.2.2.2.2.1
theorem de_La_466 : decode code 466 = .ok (.iaload, 1) := db_La_240.2.2.2.2.2.2.2.2.2.2.1
theorem de_La_467 : decode code 467 = .ok (.aload_n 0, 1) := db_La_240.2.2.2.2.2.2.2.2.2.2.2
theorem db_La_252 : (decode code 468 = .ok (.iload_n 3, 1)) ∧ (decode code 469 = .ok (.iconst 2, 1)) ∧ (decode code 470 = .ok (.iadd, 1)) ∧ (decode code 471 = .ok (.iaload, 1)) ∧ (decode code 472 = .ok (.invokevirtual 61, 3)) ∧ (decode code 475 = .ok (.pop, 1)) ∧ (decode code 476 = .ok (.goto 708, 3)) ∧ (decode code 479 = .ok (.aload_n 1, 1)) ∧ (decode code 480 = .ok (.invokevirtual 62, 3)) ∧ (decode code 483 = .ok (.pop, 1)) ∧ (decode code 484 = .ok (.aload_n 2, 1)) ∧ (decode code 485 = .ok (.invokevirtual 66, 3)) := by decide +kernel
theorem de_La_468 : decode code 468 = .ok (.iload_n 3, 1) := db_La_252.1
theorem de_La_469 : decode code 469 = .ok (.iconst 2, 1) := db_La_252.2.1
theorem de_La_470 : decode code 470 = .ok (.iadd, 1) := db_La_252.2.2.1
theorem de_La_471 : decode code 471 = .ok (.iaload, 1) := db_La_252.2.2.2.1
theorem de_La_472 : decode code 472 = .ok (.invokevirtual 61, 3) := db_La_252.2.2.2.2.1
theorem de_La_475 : decode code 475 = .ok (.pop, 1) := db_La_252.2.2.2.2.2.1
theorem de_La_476 : decode code 476 = .ok (.goto 708, 3) := db_La_252.2.2.2.2.2.2.1
theorem de_La_479 : decode code 479 = .ok (.aload_n 1, 1) := db_La_252.2.2.2.2.2.2.2.1
theorem de_La_480 : decode code 480 = .ok (.invokevirtual 62, 3) := db_La_252.2.2.2.2.2.2.2.2.1
theorem de_La_483 : decode code 483 = .ok (.pop, 1) := db_La_252.2.2.2.2.2.2.2.2.2.1
theorem de_La_484 : decode code 484 = .ok (.aload_n 2, 1) := db_La_252.2.2.2.2.2.2.2.2.2.2.1
theorem de_La_485 : decode code 485 = .ok (.invokevirtual 66, 3) := db_La_252.2.2.2.2.2.2.2.2.2.2.2
theorem db_La_264 : (decode code 488 = .ok (.pop, 1)) ∧ (decode code 489 = .ok (.goto 695, 3)) ∧ (decode code 492 = .ok (.aload_n 1, 1)) ∧ (decode code 493 = .ok (.invokevirtual 67, 3)) ∧ (decode code 496 = .ok (.pop, 1)) ∧ (decode code 497 = .ok (.aload_n 2, 1)) ∧ (decode code 498 = .ok (.invokevirtual 70, 3)) ∧ (decode code 501 = .ok (.pop, 1)) ∧ (decode code 502 = .ok (.goto 682, 3)) ∧ (decode code 505 = .ok (.aload_n 1, 1)) ∧ (decode code 506 = .ok (.aload_n 0, 1)) ∧ (decode code 507 = .ok (.iload_n 3, 1)) := by decide +kernel
theorem de_La_488 : decode code 488 = .ok (.pop, 1) := db_La_264.1
theorem de_La_489 : decode code 489 = .ok (.goto 695, 3) := db_La_264.2.1
theorem de_La_492 : decode code 492 = .ok (.aload_n 1, 1) := db_La_264.2.2.1
theorem de_La_493 : decode code 493 = .ok (.invokevirtual 67, 3) := db_La_264.2.2.2.1
theorem de_La_496 : decode code 496 = .ok (.pop, 1) := db_La_264.2.2.2.2.1
theorem de_La_497 : decode code 497 = .ok (.aload_n 2, 1) := db_La_264.2.2.2.2.2.1
theorem de_La_498 : decode code 498 = .ok (.invokevirtual 70, 3) := db_La_264.2.2.2.2.2.2.1
theorem de_La_501 : decode code 501 = .ok (.pop, 1) := db_La_264.2.2.2.2.2.2.2.1
theorem de_La_502 : decode code 502 = .ok (.goto 682, 3) := db_La_264.2.2.2.2.2.2.2.2.1
theorem de_La_505 : decode code 505 = .ok (.aload_n 1, 1) := db_La_264.2.2.2.2.2.2.2.2.2.1
theorem de_La_506 : decode code 506 = .ok (.aload_n 0, 1) := db_La_264.2.2.2.2.2.2.2.2.2.2.1
theorem de_La_507 : decode code 507 = .ok (.iload_n 3, 1) := db_La_264.2.2.2.2.2.2.2.2.2.2.2
theorem db_La_276 : (decode code 508 = .ok (.iconst 1, 1)) ∧ (decode code 509 = .ok (.iadd, 1)) ∧ (decode code 510 = .ok (.iaload, 1)) ∧ (decode code 511 = .ok (.aload_n 0, 1)) ∧ (decode code 512 = .ok (.iload_n 3, 1)) ∧ (decode code 513 = .ok (.iconst 2, 1)) ∧ (decode code 514 = .ok (.iadd, 1)) ∧ (decode code 515 = .ok (.iaload, 1)) ∧ (decode code 516 = .ok (.invokevirtual 71, 3)) ∧ (decode code 519 = .ok (.pop, 1)) ∧ (decode code 520 = .ok (.aload_n 2, 1)) ∧ (decode code 521 = .ok (.aload_n 0, 1)) := by decide +kernel
theorem de_La_508 : decode code 508 = .ok (.iconst 1, 1) := db_La_276.1
theorem de_La_509 : decode code 509 = .ok (.iadd, 1) := db_La_276.2.1
theorem de_La_510 : decode code 510 = .ok (.iaload, 1) := db_La_276.2.2.1
theorem de_La_511 : decode code 511 = .ok (.aload_n 0, 1) := db_La_276.2.2.2.1
theorem de_La_512 : decode code 512 = .ok (.iload_n 3, 1) := db_La_276.2.2.2.2.1
theorem de_La_513 : decode code 513 = .ok (.iconst 2, 1) := db_La_276.2.2.2.2.2.1
theorem de_La_514 : decode code 514 = .ok (.iadd, 1) := db_La_276.2.2.2.2.2.2.1
theorem de_La_515 : decode code 515 = .ok (.iaload, 1) := db_La_276.2.2.2.2.2.2.2.1
theorem de_La_516 : decode code 516 = .ok (.invokevirtual 71, 3) := db_La_276.2.2.2.2.2.2.2.2.1
theorem de_La_519 : decode code 519 = .ok (.pop, 1) := db_La_276.2.2.2.2.2.2.2.2.2.1
theorem de_La_520 : decode code 520 = .ok (.aload_n 2, 1) := db_La_276.2.2.2.2.2.2.2.2.2.2.1
theorem de_La_521 : decode code 521 = .ok (.aload_n 0, 1) := db_La_276.2.2.2.2.2.2.2.2.2.2.2
theorem db_La_288 : (decode code 522 = .ok (.iload_n 3, 1)) ∧ (decode code 523 = .ok (.iconst 1, 1)) ∧ (decode code 524 = .ok (.iadd, 1)) ∧ (decode code 525 = .ok (.iaload, 1)) ∧ (decode code 526 = .ok (.aload_n 0, 1)) ∧ (decode code 527 = .ok (.iload_n 3, 1)) ∧ (decode code 528 = .ok (.iconst 2, 1)) ∧ (decode code 529 = .ok (.iadd, 1)) ∧ (decode code 530 = .ok (.iaload, 1)) ∧ (decode code 531 = .ok (.invokevirtual 74, 3)) ∧ (decode code 534 = .ok (.pop, 1)) ∧ (decode code 535 = .ok (.goto 649, 3)) := by decide +kernel
theorem de_La_522 : decode code 522 = .ok (.iload_n 3, 1) := db_La_288.1
theorem de_La_523 : decode code 523 = .ok (.iconst 1, 1) := db_La_288.2.1
theorem de_La_524 : decode code 524 = .ok (.iadd, 1) := db_La_288.2.2.1
theorem de_La_525 : decode code 525 = .ok (.iaload, 1) := db_La_288.2.2.2.1
theorem de_La_526 : decode code 526 = .ok (.aload_n 0, 1) := db_La_288.2.2.2.2.1
theorem de_La_527 : decode code 527 = .ok (.iload_n 3, 1) := db_La_288.2.2.2.2.2.1
theorem de_La_528 : decode code 528 = .ok (.iconst 2, 1) := db_La_288.2.2.2.2.2.2.1
theorem de_La_529 : decode code 529 = .ok (.iadd, 1) := db_La_288.2.2.2.2.2.2.2.1
theorem de_La_530 : decode code 530 = .ok (.iaload, 1) := db_La_288.2.2.2.2.2.2.2.2.1
theorem de_La_531 : decode code 531 = .ok (.invokevirtual 74, 3) := db_La_288.2.2.2.2.2.2.2.2.2.1
theorem de_La_534 : decode code 534 = .ok (.pop, 1) := db_La_288.2.2.2.2.2.2.2.2.2.2.1
theorem de_La_535 : decode code 535 = .ok (.goto 649, 3) := db_La_288.2.2.2.2.2.2.2.2.2.2.2
