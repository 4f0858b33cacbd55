set_option maxRecDepth 100000 in
set_option maxHeartbeats 4000000 in
theorem law_day {k : zKx} {l : Launch} {D : va_G} {ty : zTy} {bS L : Nat} {xs : Nat → Int32} (K : zv_ok k l D room_1 cL_law 4 RL ty) (S : zl_ok k bS L xs) (hL : L ≤ 3072) {i : Nat} (hi : i + 6 ≤ L) {a b : Nat → Nat} {σ : zC} {τ : zM} (h : Inv σ τ) (kk : ∀ (σ2 : zC) (τ2 : zM), Inv σ2 τ2 → zv k 1059 [some (.ref bS), some (.ref (a 0)), some (.ref (b 0)), some (.int (nI i))] [] (zm b ty τ2 ++ zc a ty σ2)) : zv k 140 [some (.ref bS), some (.ref (a 0)), some (.ref (b 0)), some (.int (nI i))] [] (zm b ty τ ++ zc a ty σ) := by
  refine zv_aload_n K 141 dL_law_140 rfl rfl ?_
  refine zl_arg K S hL hi 1 146 dL_law_141 dL_law_142 dL_law_143 dL_law_144 dL_law_145 rfl (by decide) (by decide) rfl rfl ?_
  refine zn_cV1 K 1 149 (kX3_day l D ty a σ (xs (i + 1))) dL_law_146 rfl zw_1_141 zw_1_142 zw_1_143 zw_1_1 zw_1_144 ⟨rfl, rfl⟩ zh_yX3_day ⟨zle rfl, zle rfl⟩ (zc_at (j := 0) (by decide)) rfl rfl rfl (zle rfl) rfl ?_
  refine zn_swap ?_
  refine zv_aload_n K 150 dL_law_149 rfl rfl ?_
  refine zl_arg K S hL hi 1 155 dL_law_150 dL_law_151 dL_law_152 dL_law_153 dL_law_154 rfl (by decide) (by decide) rfl rfl ?_
  refine zn_cV1 K 1 158 (kX4_day l D ty b τ (xs (i + 1))) dL_law_155 rfl zw_3_43 zw_3_44 zw_3_45 zw_1_5 zw_3_46 ⟨rfl, rfl⟩ zh_yX4_day ⟨zle rfl, zle rfl⟩ (zm_at (p := 0) (j := 0) rfl) rfl rfl rfl (zle rfl) rfl ?_
  refine zn_swap ?_
  exact zv_icmp_eq K 1059 161 dL_law_158 (by decide) rfl (fun _ => kk _ _ (eq_day h (xs (i + 1))).2) (fun z => absurd (eq_day h (xs (i + 1))).1 z)
set_option maxRecDepth 100000 in
set_option maxHeartbeats 4000000 in
theorem law_rule {k : zKx} {l : Launch} {D : va_G} {ty : zTy} {bS L : Nat} {xs : Nat → Int32} (K : zv_ok k l D room_1 cL_law 4 RL ty) (S : zl_ok k bS L xs) (hL : L ≤ 3072) {i : Nat} (hi : i + 6 ≤ L) {a b : Nat → Nat} {σ : zC} {τ : zM} (h : Inv σ τ) (kk : ∀ (σ2 : zC) (τ2 : zM), Inv σ2 τ2 → zv k 1059 [some (.ref bS), some (.ref (a 0)), some (.ref (b 0)), some (.int (nI i))] [] (zm b ty τ2 ++ zc a ty σ2)) : zv k 163 [some (.ref bS), some (.ref (a 0)), some (.ref (b 0)), some (.int (nI i))] [] (zm b ty τ ++ zc a ty σ) := by
  refine zv_aload_n K 164 dL_law_163 rfl rfl ?_
  refine zl_arg K S hL hi 1 169 dL_law_164 dL_law_165 dL_law_166 dL_law_167 dL_law_168 rfl (by decide) (by decide) rfl rfl ?_
  refine zl_arg K S hL hi 2 174 dL_law_169 dL_law_170 dL_law_171 dL_law_172 dL_law_173 rfl (by decide) (by decide) rfl rfl ?_
  refine zn_cV1 K 2 177 (kX3_rule l D ty a σ (xs (i + 1)) (xs (i + 2))) dL_law_174 rfl zw_1_148 zw_1_149 zw_1_150 zw_1_1 zw_1_151 ⟨rfl, rfl⟩ zh_yX3_rule ⟨zle rfl, zle rfl⟩ (zc_at (j := 0) (by decide)) rfl rfl rfl (zle rfl) rfl ?_
  refine zn_swap ?_
  refine zv_aload_n K 178 dL_law_177 rfl rfl ?_
  refine zl_arg K S hL hi 1 183 dL_law_178 dL_law_179 dL_law_180 dL_law_181 dL_law_182 rfl (by decide) (by decide) rfl rfl ?_
  refine zl_arg K S hL hi 2 188 dL_law_183 dL_law_184 dL_law_185 dL_law_186 dL_law_187 rfl (by decide) (by decide) rfl rfl ?_
  refine zn_cV1 K 2 191 (kX4_rule l D ty b τ (xs (i + 1)) (xs (i + 2))) dL_law_188 rfl zw_3_50 zw_3_51 zw_3_52 zw_1_5 zw_3_53 ⟨rfl, rfl⟩ zh_yX4_rule ⟨zle rfl, zle rfl⟩ (zm_at (p := 0) (j := 0) rfl) rfl rfl rfl (zle rfl) rfl ?_
  refine zn_swap ?_
  exact zv_icmp_eq K 1059 194 dL_law_191 (by decide) rfl (fun _ => kk _ _ (eq_rule h (xs (i + 1)) (xs (i + 2))).2) (fun z => absurd (eq_rule h (xs (i + 1)) (xs (i + 2))).1 z)
set_option maxRecDepth 100000 in
set_option maxHeartbeats 4000000 in
theorem law_stake {k : zKx} {l : Launch} {D : va_G} {ty : zTy} {bS L : Nat} {xs : Nat → Int32} (K : zv_ok k l D room_1 cL_law 4 RL ty) (S : zl_ok k bS L xs) (hL : L ≤ 3072) {i : Nat} (hi : i + 6 ≤ L) {a b : Nat → Nat} {σ : zC} {τ : zM} (h : Inv σ τ) (kk : ∀ (σ2 : zC) (τ2 : zM), Inv σ2 τ2 → zv k 1059 [some (.ref bS), some (.ref (a 0)), some (.ref (b 0)), some (.int (nI i))] [] (zm b ty τ2 ++ zc a ty σ2)) : zv k 196 [some (.ref bS), some (.ref (a 0)), some (.ref (b 0)), some (.int (nI i))] [] (zm b ty τ ++ zc a ty σ) := by
  obtain ⟨⟨O, n, hb⟩, hs, hk⟩ := id h
  refine zv_aload_n K 197 dL_law_196 rfl rfl ?_
  refine zl_arg K S hL hi 1 202 dL_law_197 dL_law_198 dL_law_199 dL_law_200 dL_law_201 rfl (by decide) (by decide) rfl rfl ?_
  refine zl_arg K S hL hi 2 207 dL_law_202 dL_law_203 dL_law_204 dL_law_205 dL_law_206 rfl (by decide) (by decide) rfl rfl ?_
  refine zl_arg K S hL hi 3 212 dL_law_207 dL_law_208 dL_law_209 dL_law_210 dL_law_211 rfl (by decide) (by decide) rfl rfl ?_
  refine zl_arg K S hL hi 4 217 dL_law_212 dL_law_213 dL_law_214 dL_law_215 dL_law_216 rfl (by decide) (by decide) rfl rfl ?_
  refine zn_cV1 K 4 220 (kX3_stake l D ty a σ O n hb.zI (xs (i + 1)) (xs (i + 2)) (xs (i + 3)) (xs (i + 4))) dL_law_217 rfl zw_1_152 zw_1_153 zw_1_154 zw_1_1 zw_1_155 ⟨rfl, rfl⟩ zh_yX3_stake ⟨zle rfl, zle rfl⟩ (zc_at (j := 0) (by decide)) rfl rfl rfl (zle rfl) rfl ?_
  refine zn_swap ?_
  refine zv_aload_n K 221 dL_law_220 rfl rfl ?_
  refine zl_arg K S hL hi 1 226 dL_law_221 dL_law_222 dL_law_223 dL_law_224 dL_law_225 rfl (by decide) (by decide) rfl rfl ?_
  refine zl_arg K S hL hi 2 231 dL_law_226 dL_law_227 dL_law_228 dL_law_229 dL_law_230 rfl (by decide) (by decide) rfl rfl ?_
  refine zl_arg K S hL hi 3 236 dL_law_231 dL_law_232 dL_law_233 dL_law_234 dL_law_235 rfl (by decide) (by decide) rfl rfl ?_
  refine zl_arg K S hL hi 4 241 dL_law_236 dL_law_237 dL_law_238 dL_law_239 dL_law_240 rfl (by decide) (by decide) rfl rfl ?_
  refine zn_cV1 K 4 244 (kX4_stake l D ty b τ n hb.2.2.2.2.2.1 hb.2.2.1 (xs (i + 1)) (xs (i + 2)) (xs (i + 3)) (xs (i + 4))) dL_law_241 rfl zw_3_54 zw_3_55 zw_3_56 zw_1_5 zw_3_57 ⟨rfl, rfl⟩ zh_yX4_stake ⟨zle rfl, zle rfl⟩ (zm_at (p := 0) (j := 0) rfl) rfl rfl rfl (zle rfl) rfl ?_
  refine zn_swap ?_
  exact zv_icmp_eq K 1059 247 dL_law_244 (by decide) rfl (fun _ => kk _ _ (eq_stake h hb (xs (i + 1)) (xs (i + 2)) (xs (i + 3)) (xs (i + 4))).2) (fun z => absurd (eq_stake h hb (xs (i + 1)) (xs (i + 2)) (xs (i + 3)) (xs (i + 4))).1 z)
set_option maxRecDepth 100000 in
set_option maxHeartbeats 4000000 in
theorem law_work {k : zKx} {l : Launch} {D : va_G} {ty : zTy} {bS L : Nat} {xs : Nat → Int32} (K : zv_ok k l D room_1 cL_law 4 RL ty) (S : zl_ok k bS L xs) (hL : L ≤ 3072) {i : Nat} (hi : i + 6 ≤ L) {a b : Nat → Nat} {σ : zC} {τ : zM} (h : Inv σ τ) (kk : ∀ (σ2 : zC) (τ2 : zM), Inv σ2 τ2 → zv k 1059 [some (.ref bS), some (.ref (a 0)), some (.ref (b 0)), some (.int (nI i))] [] (zm b ty τ2 ++ zc a ty σ2)) : zv k 249 [some (.ref bS), some (.ref (a 0)), some (.ref (b 0)), some (.int (nI i))] [] (zm b ty τ ++ zc a ty σ) := by
  obtain ⟨⟨O, n, hb⟩, hs, hk⟩ := id h
  refine zv_aload_n K 250 dL_law_249 rfl rfl ?_
  refine zl_arg K S hL hi 1 255 dL_law_250 dL_law_251 dL_law_252 dL_law_253 dL_law_254 rfl (by decide) (by decide) rfl rfl ?_
  refine zl_arg K S hL hi 2 260 dL_law_255 dL_law_256 dL_law_257 dL_law_258 dL_law_259 rfl (by decide) (by decide) rfl rfl ?_
  refine zn_cV1 K 2 263 (kX3_work l D ty a σ O n hb.zI (xs (i + 1)) (xs (i + 2))) dL_law_260 rfl zw_1_200 zw_1_201 zw_1_202 zw_1_1 zw_1_203 ⟨rfl, rfl⟩ zh_yX3_work ⟨zle rfl, zle rfl⟩ (zc_at (j := 0) (by decide)) rfl rfl rfl (zle rfl) rfl ?_
  refine zn_swap ?_
  refine zv_aload_n K 264 dL_law_263 rfl rfl ?_
  refine zl_arg K S hL hi 1 269 dL_law_264 dL_law_265 dL_law_266 dL_law_267 dL_law_268 rfl (by decide) (by decide) rfl rfl ?_
  refine zl_arg K S hL hi 2 274 dL_law_269 dL_law_270 dL_law_271 dL_law_272 dL_law_273 rfl (by decide) (by decide) rfl rfl ?_
  refine zn_cV1 K 2 277 (kX4_work l D ty b τ n hb.2.2.2.2.2.1 hb.2.2.1 (xs (i + 1)) (xs (i + 2))) dL_law_274 rfl zw_3_71 zw_3_72 zw_3_73 zw_1_5 zw_3_74 ⟨rfl, rfl⟩ zh_yX4_work ⟨zle rfl, zle rfl⟩ (zm_at (p := 0) (j := 0) rfl) rfl rfl rfl (zle rfl) rfl ?_
  refine zn_swap ?_
  exact zv_icmp_eq K 1059 280 dL_law_277 (by decide) rfl (fun _ => kk _ _ (eq_work h hb (xs (i + 1)) (xs (i + 2))).2) (fun z => absurd (eq_work h hb (xs (i + 1)) (xs (i + 2))).1 z)
set_option maxRecDepth 100000 in
set_option maxHeartbeats 4000000 in
theorem law_nick {k : zKx} {l : Launch} {D : va_G} {ty : zTy} {bS L : Nat} {xs : Nat → Int32} (K : zv_ok k l D room_1 cL_law 4 RL ty) (S : zl_ok k bS L xs) (hL : L ≤ 3072) {i : Nat} (hi : i + 6 ≤ L) {a b : Nat → Nat} {σ : zC} {τ : zM} (h : Inv σ τ) (kk : ∀ (σ2 : zC) (τ2 : zM), Inv σ2 τ2 → zv k 1059 [some (.ref bS), some (.ref (a 0)), some (.ref (b 0)), some (.int (nI i))] [] (zm b ty τ2 ++ zc a ty σ2)) : zv k 282 [some (.ref bS), some (.ref (a 0)), some (.ref (b 0)), some (.int (nI i))] [] (zm b ty τ ++ zc a ty σ) := by
  obtain ⟨⟨O, n, hb⟩, hs, hk⟩ := id h
  refine zv_aload_n K 283 dL_law_282 rfl rfl ?_
  refine zl_arg K S hL hi 1 288 dL_law_283 dL_law_284 dL_law_285 dL_law_286 dL_law_287 rfl (by decide) (by decide) rfl rfl ?_
  refine zl_arg K S hL hi 2 293 dL_law_288 dL_law_289 dL_law_290 dL_law_291 dL_law_292 rfl (by decide) (by decide) rfl rfl ?_
  refine zl_arg K S hL hi 3 298 dL_law_293 dL_law_294 dL_law_295 dL_law_296 dL_law_297 rfl (by decide) (by decide) rfl rfl ?_
  refine zn_cV1 K 3 301 (kX3_nick l D ty a σ O n hb.zI (xs (i + 1)) (xs (i + 2)) (xs (i + 3))) dL_law_298 rfl zw_1_221 zw_1_222 zw_1_223 zw_1_1 zw_1_224 ⟨rfl, rfl⟩ zh_yX3_nick ⟨zle rfl, zle rfl⟩ (zc_at (j := 0) (by decide)) rfl rfl rfl (zle rfl) rfl ?_
  refine zn_swap ?_
  refine zv_aload_n K 302 dL_law_301 rfl rfl ?_
  refine zl_arg K S hL hi 1 307 dL_law_302 dL_law_303 dL_law_304 dL_law_305 dL_law_306 rfl (by decide) (by decide) rfl rfl ?_
  refine zl_arg K S hL hi 2 312 dL_law_307 dL_law_308 dL_law_309 dL_law_310 dL_law_311 rfl (by decide) (by decide) rfl rfl ?_
  refine zl_arg K S hL hi 3 317 dL_law_312 dL_law_313 dL_law_314 dL_law_315 dL_law_316 rfl (by decide) (by decide) rfl rfl ?_
  refine zn_cV1 K 3 320 (kX4_nick l D ty b τ n hb.2.2.2.2.2.1 hb.2.2.1 (xs (i + 1)) (xs (i + 2)) (xs (i + 3))) dL_law_317 rfl zw_3_83 zw_3_84 zw_3_85 zw_1_5 zw_3_86 ⟨rfl, rfl⟩ zh_yX4_nick ⟨zle rfl, zle rfl⟩ (zm_at (p := 0) (j := 0) rfl) rfl rfl rfl (zle rfl) rfl ?_
  refine zn_swap ?_
  exact zv_icmp_eq K 1059 323 dL_law_320 (by decide) rfl (fun _ => kk _ _ (eq_nick h hb (xs (i + 1)) (xs (i + 2)) (xs (i + 3))).2) (fun z => absurd (eq_nick h hb (xs (i + 1)) (xs (i + 2)) (xs (i + 3))).1 z)
set_option maxRecDepth 100000 in
set_option maxHeartbeats 4000000 in
theorem law_give {k : zKx} {l : Launch} {D : va_G} {ty : zTy} {bS L : Nat} {xs : Nat → Int32} (K : zv_ok k l D room_1 cL_law 4 RL ty) (S : zl_ok k bS L xs) (hL : L ≤ 3072) {i : Nat} (hi : i + 6 ≤ L) {a b : Nat → Nat} {σ : zC} {τ : zM} (h : Inv σ τ) (kk : ∀ (σ2 : zC) (τ2 : zM), Inv σ2 τ2 → zv k 1059 [some (.ref bS), some (.ref (a 0)), some (.ref (b 0)), some (.int (nI i))] [] (zm b ty τ2 ++ zc a ty σ2)) : zv k 325 [some (.ref bS), some (.ref (a 0)), some (.ref (b 0)), some (.int (nI i))] [] (zm b ty τ ++ zc a ty σ) := by
  obtain ⟨⟨O, n, hb⟩, hs, hk⟩ := id h
  refine zv_aload_n K 326 dL_law_325 rfl rfl ?_
  refine zl_arg K S hL hi 1 331 dL_law_326 dL_law_327 dL_law_328 dL_law_329 dL_law_330 rfl (by decide) (by decide) rfl rfl ?_
  refine zl_arg K S hL hi 2 336 dL_law_331 dL_law_332 dL_law_333 dL_law_334 dL_law_335 rfl (by decide) (by decide) rfl rfl ?_
  refine zn_cV1 K 2 339 (kX3_give l D ty a σ O n hb.zI (xs (i + 1)) (xs (i + 2))) dL_law_336 rfl zw_1_225 zw_1_226 zw_1_227 zw_1_1 zw_1_228 ⟨rfl, rfl⟩ zh_yX3_give ⟨zle rfl, zle rfl⟩ (zc_at (j := 0) (by decide)) rfl rfl rfl (zle rfl) rfl ?_
  refine zn_swap ?_
  refine zv_aload_n K 340 dL_law_339 rfl rfl ?_
  refine zl_arg K S hL hi 1 345 dL_law_340 dL_law_341 dL_law_342 dL_law_343 dL_law_344 rfl (by decide) (by decide) rfl rfl ?_
  refine zl_arg K S hL hi 2 350 dL_law_345 dL_law_346 dL_law_347 dL_law_348 dL_law_349 rfl (by decide) (by decide) rfl rfl ?_
  refine zn_cV1 K 2 353 (kX4_give l D ty b τ n hb.2.2.2.2.2.1 hb.2.2.1 (xs (i + 1)) (xs (i + 2))) dL_law_350 rfl zw_3_87 zw_3_88 zw_3_89 zw_1_5 zw_3_90 ⟨rfl, rfl⟩ zh_yX4_give ⟨zle rfl, zle rfl⟩ (zm_at (p := 0) (j := 0) rfl) rfl rfl rfl (zle rfl) rfl ?_
  refine zn_swap ?_
  exact zv_icmp_eq K 1059 356 dL_law_353 (by decide) rfl (fun _ => kk _ _ (eq_give h hb (xs (i + 1)) (xs (i + 2))).2) (fun z => absurd (eq_give h hb (xs (i + 1)) (xs (i + 2))).1 z)
set_option maxRecDepth 100000 in
set_option maxHeartbeats 4000000 in
theorem law_view {k : zKx} {l : Launch} {D : va_G} {ty : zTy} {bS L : Nat} {xs : Nat → Int32} (K : zv_ok k l D room_1 cL_law 4 RL ty) (S : zl_ok k bS L xs) (hL : L ≤ 3072) {i : Nat} (hi : i + 6 ≤ L) {a b : Nat → Nat} {σ : zC} {τ : zM} (h : Inv σ τ) (kk : ∀ (σ2 : zC) (τ2 : zM), Inv σ2 τ2 → zv k 1059 [some (.ref bS), some (.ref (a 0)), some (.ref (b 0)), some (.int (nI i))] [] (zm b ty τ2 ++ zc a ty σ2)) : zv k 358 [some (.ref bS), some (.ref (a 0)), some (.ref (b 0)), some (.int (nI i))] [] (zm b ty τ ++ zc a ty σ) := by
  obtain ⟨⟨O, n, hb⟩, hs, hk⟩ := id h
  refine zv_aload_n K 359 dL_law_358 rfl rfl ?_
  refine zl_arg K S hL hi 1 364 dL_law_359 dL_law_360 dL_law_361 dL_law_362 dL_law_363 rfl (by decide) (by decide) rfl rfl ?_
  refine zl_arg K S hL hi 2 369 dL_law_364 dL_law_365 dL_law_366 dL_law_367 dL_law_368 rfl (by decide) (by decide) rfl rfl ?_
  refine zl_arg K S hL hi 3 374 dL_law_369 dL_law_370 dL_law_371 dL_law_372 dL_law_373 rfl (by decide) (by decide) rfl rfl ?_
  refine zl_arg K S hL hi 4 379 dL_law_374 dL_law_375 dL_law_376 dL_law_377 dL_law_378 rfl (by decide) (by decide) rfl rfl ?_
  refine zn_cV1 K 4 382 (kX3_view l D ty a σ O n hb.zI (xs (i + 1)) (xs (i + 2)) (xs (i + 3)) (xs (i + 4))) dL_law_379 rfl zw_1_229 zw_1_230 zw_1_231 zw_1_1 zw_1_232 ⟨rfl, rfl⟩ zh_yX3_view ⟨zle rfl, zle rfl⟩ (zc_at (j := 0) (by decide)) rfl rfl rfl (zle rfl) rfl ?_
  refine zn_swap ?_
  refine zv_aload_n K 383 dL_law_382 rfl rfl ?_
  refine zl_arg K S hL hi 1 388 dL_law_383 dL_law_384 dL_law_385 dL_law_386 dL_law_387 rfl (by decide) (by decide) rfl rfl ?_
  refine zl_arg K S hL hi 2 393 dL_law_388 dL_law_389 dL_law_390 dL_law_391 dL_law_392 rfl (by decide) (by decide) rfl rfl ?_
  refine zl_arg K S hL hi 3 398 dL_law_393 dL_law_394 dL_law_395 dL_law_396 dL_law_397 rfl (by decide) (by decide) rfl rfl ?_
  refine zl_arg K S hL hi 4 403 dL_law_398 dL_law_399 dL_law_400 dL_law_401 dL_law_402 rfl (by decide) (by decide) rfl rfl ?_
  refine zn_cV1 K 4 406 (kX4_view l D ty b τ n hb.2.2.2.2.2.1 hb.2.2.1 (xs (i + 1)) (xs (i + 2)) (xs (i + 3)) (xs (i + 4))) dL_law_403 rfl zw_3_91 zw_3_92 zw_3_93 zw_1_5 zw_3_94 ⟨rfl, rfl⟩ zh_yX4_view ⟨zle rfl, zle rfl⟩ (zm_at (p := 0) (j := 0) rfl) rfl rfl rfl (zle rfl) rfl ?_
  refine zn_swap ?_
  exact zv_icmp_eq K 1059 409 dL_law_406 (by decide) rfl (fun _ => kk _ _ (eq_view h hb (xs (i + 1)) (xs (i + 2)) (xs (i + 3)) (xs (i + 4))).2) (fun z => absurd (eq_view h hb (xs (i + 1)) (xs (i + 2)) (xs (i + 3)) (xs (i + 4))).1 z)
set_option maxRecDepth 100000 in
set_option maxHeartbeats 4000000 in
theorem law_sell {k : zKx} {l : Launch} {D : va_G} {ty : zTy} {bS L : Nat} {xs : Nat → Int32} (K : zv_ok k l D room_1 cL_law 4 RL ty) (S : zl_ok k bS L xs) (hL : L ≤ 3072) {i : Nat} (hi : i + 6 ≤ L) {a b : Nat → Nat} {σ : zC} {τ : zM} (h : Inv σ τ) (kk : ∀ (σ2 : zC) (τ2 : zM), Inv σ2 τ2 → zv k 1059 [some (.ref bS), some (.ref (a 0)), some (.ref (b 0)), some (.int (nI i))] [] (zm b ty τ2 ++ zc a ty σ2)) : zv k 411 [some (.ref bS), some (.ref (a 0)), some (.ref (b 0)), some (.int (nI i))] [] (zm b ty τ ++ zc a ty σ) := by
  obtain ⟨⟨O, n, hb⟩, hs, hk⟩ := id h
  refine zv_aload_n K 412 dL_law_411 rfl rfl ?_
  refine zl_arg K S hL hi 1 417 dL_law_412 dL_law_413 dL_law_414 dL_law_415 dL_law_416 rfl (by decide) (by decide) rfl rfl ?_
  refine zl_arg K S hL hi 2 422 dL_law_417 dL_law_418 dL_law_419 dL_law_420 dL_law_421 rfl (by decide) (by decide) rfl rfl ?_
  refine zl_arg K S hL hi 3 427 dL_law_422 dL_law_423 dL_law_424 dL_law_425 dL_law_426 rfl (by decide) (by decide) rfl rfl ?_
  refine zl_arg K S hL hi 4 432 dL_law_427 dL_law_428 dL_law_429 dL_law_430 dL_law_431 rfl (by decide) (by decide) rfl rfl ?_
  refine zl_arg K S hL hi 5 437 dL_law_432 dL_law_433 dL_law_434 dL_law_435 dL_law_436 rfl (by decide) (by decide) rfl rfl ?_
  refine zn_cV1 K 5 440 (kX3_sell l D ty a σ O n hb.zI (xs (i + 1)) (xs (i + 2)) (xs (i + 3)) (xs (i + 4)) (xs (i + 5))) dL_law_437 rfl zw_1_233 zw_1_234 zw_1_235 zw_1_1 zw_1_236 ⟨rfl, rfl⟩ zh_yX3_sell ⟨zle rfl, zle rfl⟩ (zc_at (j := 0) (by decide)) rfl rfl rfl (zle rfl) rfl ?_
  refine zn_swap ?_
  refine zv_aload_n K 441 dL_law_440 rfl rfl ?_
  refine zl_arg K S hL hi 1 446 dL_law_441 dL_law_442 dL_law_443 dL_law_444 dL_law_445 rfl (by decide) (by decide) rfl rfl ?_
  refine zl_arg K S hL hi 2 451 dL_law_446 dL_law_447 dL_law_448 dL_law_449 dL_law_450 rfl (by decide) (by decide) rfl rfl ?_
  refine zl_arg K S hL hi 3 456 dL_law_451 dL_law_452 dL_law_453 dL_law_454 dL_law_455 rfl (by decide) (by decide) rfl rfl ?_
  refine zl_arg K S hL hi 4 461 dL_law_456 dL_law_457 dL_law_458 dL_law_459 dL_law_460 rfl (by decide) (by decide) rfl rfl ?_
  refine zl_arg K S hL hi 5 466 dL_law_461 dL_law_462 dL_law_463 dL_law_464 dL_law_465 rfl (by decide) (by decide) rfl rfl ?_
  refine zn_cV1 K 5 469 (kX4_sell l D ty b τ n hb.2.2.2.2.2.1 hb.2.2.1 (xs (i + 1)) (xs (i + 2)) (xs (i + 3)) (xs (i + 4)) (xs (i + 5))) dL_law_466 rfl zw_3_95 zw_3_96 zw_3_97 zw_1_5 zw_3_98 ⟨rfl, rfl⟩ zh_yX4_sell ⟨zle rfl, zle rfl⟩ (zm_at (p := 0) (j := 0) rfl) rfl rfl rfl (zle rfl) rfl ?_
  refine zn_swap ?_
  exact zv_icmp_eq K 1059 472 dL_law_469 (by decide) rfl (fun _ => kk _ _ (eq_sell h hb (xs (i + 1)) (xs (i + 2)) (xs (i + 3)) (xs (i + 4)) (xs (i + 5))).2) (fun z => absurd (eq_sell h hb (xs (i + 1)) (xs (i + 2)) (xs (i + 3)) (xs (i + 4)) (xs (i + 5))).1 z)
set_option maxRecDepth 100000 in
set_option maxHeartbeats 4000000 in
theorem law_dig {k : zKx} {l : Launch} {D : va_G} {ty : zTy} {bS L : Nat} {xs : Nat → Int32} (K : zv_ok k l D room_1 cL_law 4 RL ty) (S : zl_ok k bS L xs) (hL : L ≤ 3072) {i : Nat} (hi : i + 6 ≤ L) {a b : Nat → Nat} {σ : zC} {τ : zM} (h : Inv σ τ) (kk : ∀ (σ2 : zC) (τ2 : zM), Inv σ2 τ2 → zv k 1059 [some (.ref bS), some (.ref (a 0)), some (.ref (b 0)), some (.int (nI i))] [] (zm b ty τ2 ++ zc a ty σ2)) : zv k 474 [some (.ref bS), some (.ref (a 0)), some (.ref (b 0)), some (.int (nI i))] [] (zm b ty τ ++ zc a ty σ) := by
  obtain ⟨⟨O, n, hb⟩, hs, hk⟩ := id h
  refine zv_aload_n K 475 dL_law_474 rfl rfl ?_
  refine zl_arg K S hL hi 1 480 dL_law_475 dL_law_476 dL_law_477 dL_law_478 dL_law_479 rfl (by decide) (by decide) rfl rfl ?_
  refine zl_arg K S hL hi 2 485 dL_law_480 dL_law_481 dL_law_482 dL_law_483 dL_law_484 rfl (by decide) (by decide) rfl rfl ?_
  refine zl_arg K S hL hi 3 490 dL_law_485 dL_law_486 dL_law_487 dL_law_488 dL_law_489 rfl (by decide) (by decide) rfl rfl ?_
  refine zl_arg K S hL hi 4 495 dL_law_490 dL_law_491 dL_law_492 dL_law_493 dL_law_494 rfl (by decide) (by decide) rfl rfl ?_
  refine zn_cV1 K 4 498 (kX3_dig l D ty a σ O n hb.zI (xs (i + 1)) (xs (i + 2)) (xs (i + 3)) (xs (i + 4))) dL_law_495 rfl zw_1_237 zw_1_238 zw_1_239 zw_1_1 zw_2_0 ⟨rfl, rfl⟩ zh_yX3_dig ⟨zle rfl, zle rfl⟩ (zc_at (j := 0) (by decide)) rfl rfl rfl (zle rfl) rfl ?_
  refine zn_swap ?_
  refine zv_aload_n K 499 dL_law_498 rfl rfl ?_
  refine zl_arg K S hL hi 1 504 dL_law_499 dL_law_500 dL_law_501 dL_law_502 dL_law_503 rfl (by decide) (by decide) rfl rfl ?_
  refine zl_arg K S hL hi 2 509 dL_law_504 dL_law_505 dL_law_506 dL_law_507 dL_law_508 rfl (by decide) (by decide) rfl rfl ?_
  refine zl_arg K S hL hi 3 514 dL_law_509 dL_law_510 dL_law_511 dL_law_512 dL_law_513 rfl (by decide) (by decide) rfl rfl ?_
  refine zl_arg K S hL hi 4 519 dL_law_514 dL_law_515 dL_law_516 dL_law_517 dL_law_518 rfl (by decide) (by decide) rfl rfl ?_
  refine zn_cV1 K 4 522 (kX4_dig l D ty b τ n hb.2.2.2.2.2.1 hb.2.2.1 (xs (i + 1)) (xs (i + 2)) (xs (i + 3)) (xs (i + 4))) dL_law_519 rfl zw_3_99 zw_3_100 zw_3_101 zw_1_5 zw_3_102 ⟨rfl, rfl⟩ zh_yX4_dig ⟨zle rfl, zle rfl⟩ (zm_at (p := 0) (j := 0) rfl) rfl rfl rfl (zle rfl) rfl ?_
  refine zn_swap ?_
  exact zv_icmp_eq K 1059 525 dL_law_522 (by decide) rfl (fun _ => kk _ _ (eq_dig h hb (xs (i + 1)) (xs (i + 2)) (xs (i + 3)) (xs (i + 4))).2) (fun z => absurd (eq_dig h hb (xs (i + 1)) (xs (i + 2)) (xs (i + 3)) (xs (i + 4))).1 z)
set_option maxRecDepth 100000 in
set_option maxHeartbeats 4000000 in
theorem law_withdraw {k : zKx} {l : Launch} {D : va_G} {ty : zTy} {bS L : Nat} {xs : Nat → Int32} (K : zv_ok k l D room_1 cL_law 4 RL ty) (S : zl_ok k bS L xs) (hL : L ≤ 3072) {i : Nat} (hi : i + 6 ≤ L) {a b : Nat → Nat} {σ : zC} {τ : zM} (h : Inv σ τ) (kk : ∀ (σ2 : zC) (τ2 : zM), Inv σ2 τ2 → zv k 1059 [some (.ref bS), some (.ref (a 0)), some (.ref (b 0)), some (.int (nI i))] [] (zm b ty τ2 ++ zc a ty σ2)) : zv k 527 [some (.ref bS), some (.ref (a 0)), some (.ref (b 0)), some (.int (nI i))] [] (zm b ty τ ++ zc a ty σ) := by
  obtain ⟨⟨O, n, hb⟩, hs, hk⟩ := id h
  refine zv_aload_n K 528 dL_law_527 rfl rfl ?_
  refine zl_arg K S hL hi 1 533 dL_law_528 dL_law_529 dL_law_530 dL_law_531 dL_law_532 rfl (by decide) (by decide) rfl rfl ?_
  refine zn_cV1 K 1 536 (kX3_withdraw l D ty a σ O n hb.zI (xs (i + 1))) dL_law_533 rfl zw_2_1 zw_2_2 zw_2_3 zw_1_1 zw_2_4 ⟨rfl, rfl⟩ zh_yX3_withdraw ⟨zle rfl, zle rfl⟩ (zc_at (j := 0) (by decide)) rfl rfl rfl (zle rfl) rfl ?_
  refine zn_swap ?_
  refine zv_aload_n K 537 dL_law_536 rfl rfl ?_
  refine zl_arg K S hL hi 1 542 dL_law_537 dL_law_538 dL_law_539 dL_law_540 dL_law_541 rfl (by decide) (by decide) rfl rfl ?_
  refine zn_cV1 K 1 545 (kX4_withdraw l D ty b τ n hb.2.2.2.2.2.1 hb.2.2.1 (xs (i + 1))) dL_law_542 rfl zw_3_103 zw_3_104 zw_3_105 zw_1_5 zw_3_106 ⟨rfl, rfl⟩ zh_yX4_withdraw ⟨zle rfl, zle rfl⟩ (zm_at (p := 0) (j := 0) rfl) rfl rfl rfl (zle rfl) rfl ?_
  refine zn_swap ?_
  exact zv_icmp_eq K 1059 548 dL_law_545 (by decide) rfl (fun _ => kk _ _ (eq_withdraw h (xs (i + 1))).2) (fun z => absurd (eq_withdraw h (xs (i + 1))).1 z)
set_option maxRecDepth 100000 in
set_option maxHeartbeats 4000000 in
theorem law_fact {k : zKx} {l : Launch} {D : va_G} {ty : zTy} {bS L : Nat} {xs : Nat → Int32} (K : zv_ok k l D room_1 cL_law 4 RL ty) (S : zl_ok k bS L xs) (hL : L ≤ 3072) {i : Nat} (hi : i + 6 ≤ L) {a b : Nat → Nat} {σ : zC} {τ : zM} (h : Inv σ τ) (kk : ∀ (σ2 : zC) (τ2 : zM), Inv σ2 τ2 → zv k 1059 [some (.ref bS), some (.ref (a 0)), some (.ref (b 0)), some (.int (nI i))] [] (zm b ty τ2 ++ zc a ty σ2)) : zv k 550 [some (.ref bS), some (.ref (a 0)), some (.ref (b 0)), some (.int (nI i))] [] (zm b ty τ ++ zc a ty σ) := by
  obtain ⟨⟨O, n, hb⟩, hs, hk⟩ := id h
  refine zv_aload_n K 551 dL_law_550 rfl rfl ?_
  refine zl_arg K S hL hi 1 556 dL_law_551 dL_law_552 dL_law_553 dL_law_554 dL_law_555 rfl (by decide) (by decide) rfl rfl ?_
  refine zl_arg K S hL hi 2 561 dL_law_556 dL_law_557 dL_law_558 dL_law_559 dL_law_560 rfl (by decide) (by decide) rfl rfl ?_
  refine zn_cV1 K 2 564 (kX3_fact l D ty a σ O n hb.zI (xs (i + 1)) (xs (i + 2))) dL_law_561 rfl zw_2_9 zw_2_10 zw_2_11 zw_1_1 zw_2_12 ⟨rfl, rfl⟩ zh_yX3_fact ⟨zle rfl, zle rfl⟩ (zc_at (j := 0) (by decide)) rfl rfl rfl (zle rfl) rfl ?_
  refine zn_swap ?_
  refine zv_aload_n K 565 dL_law_564 rfl rfl ?_
  refine zl_arg K S hL hi 1 570 dL_law_565 dL_law_566 dL_law_567 dL_law_568 dL_law_569 rfl (by decide) (by decide) rfl rfl ?_
  refine zl_arg K S hL hi 2 575 dL_law_570 dL_law_571 dL_law_572 dL_law_573 dL_law_574 rfl (by decide) (by decide) rfl rfl ?_
  refine zn_cV1 K 2 578 (kX4_fact l D ty b τ n hb.2.2.2.2.2.1 hb.2.2.1 (xs (i + 1)) (xs (i + 2))) dL_law_575 rfl zw_3_107 zw_3_108 zw_3_109 zw_1_5 zw_3_110 ⟨rfl, rfl⟩ zh_yX4_fact ⟨zle rfl, zle rfl⟩ (zm_at (p := 0) (j := 0) rfl) rfl rfl rfl (zle rfl) rfl ?_
  refine zn_swap ?_
  exact zv_icmp_eq K 1059 581 dL_law_578 (by decide) rfl (fun _ => kk _ _ h) (fun z => absurd (eq_fact h (xs (i + 1)) (xs (i + 2))) z)
set_option maxRecDepth 100000 in
set_option maxHeartbeats 4000000 in
theorem law_owner {k : zKx} {l : Launch} {D : va_G} {ty : zTy} {bS L : Nat} {xs : Nat → Int32} (K : zv_ok k l D room_1 cL_law 4 RL ty) (S : zl_ok k bS L xs) (hL : L ≤ 3072) {i : Nat} (hi : i + 6 ≤ L) {a b : Nat → Nat} {σ : zC} {τ : zM} (h : Inv σ τ) (kk : ∀ (σ2 : zC) (τ2 : zM), Inv σ2 τ2 → zv k 1059 [some (.ref bS), some (.ref (a 0)), some (.ref (b 0)), some (.int (nI i))] [] (zm b ty τ2 ++ zc a ty σ2)) : zv k 583 [some (.ref bS), some (.ref (a 0)), some (.ref (b 0)), some (.int (nI i))] [] (zm b ty τ ++ zc a ty σ) := by
  obtain ⟨⟨O, n, hb⟩, hs, hk⟩ := id h
  refine zv_aload_n K 584 dL_law_583 rfl rfl ?_
  refine zl_arg K S hL hi 1 589 dL_law_584 dL_law_585 dL_law_586 dL_law_587 dL_law_588 rfl (by decide) (by decide) rfl rfl ?_
  refine zl_arg K S hL hi 2 594 dL_law_589 dL_law_590 dL_law_591 dL_law_592 dL_law_593 rfl (by decide) (by decide) rfl rfl ?_
  refine zl_arg K S hL hi 3 599 dL_law_594 dL_law_595 dL_law_596 dL_law_597 dL_law_598 rfl (by decide) (by decide) rfl rfl ?_
  refine zl_arg K S hL hi 4 604 dL_law_599 dL_law_600 dL_law_601 dL_law_602 dL_law_603 rfl (by decide) (by decide) rfl rfl ?_
  refine zn_cV1 K 4 607 (kX3_owner l D ty a σ O n hb.zI (xs (i + 1)) (xs (i + 2)) (xs (i + 3)) (xs (i + 4))) dL_law_604 rfl zw_2_14 zw_2_15 zw_2_16 zw_1_1 zw_2_17 ⟨rfl, rfl⟩ zh_yX3_owner ⟨zle rfl, zle rfl⟩ (zc_at (j := 0) (by decide)) rfl rfl rfl (zle rfl) rfl ?_
  refine zn_swap ?_
  refine zv_aload_n K 608 dL_law_607 rfl rfl ?_
  refine zl_arg K S hL hi 1 613 dL_law_608 dL_law_609 dL_law_610 dL_law_611 dL_law_612 rfl (by decide) (by decide) rfl rfl ?_
  refine zl_arg K S hL hi 2 618 dL_law_613 dL_law_614 dL_law_615 dL_law_616 dL_law_617 rfl (by decide) (by decide) rfl rfl ?_
  refine zl_arg K S hL hi 3 623 dL_law_618 dL_law_619 dL_law_620 dL_law_621 dL_law_622 rfl (by decide) (by decide) rfl rfl ?_
  refine zl_arg K S hL hi 4 628 dL_law_623 dL_law_624 dL_law_625 dL_law_626 dL_law_627 rfl (by decide) (by decide) rfl rfl ?_
  refine zn_cV1 K 4 631 (kX4_owner l D ty b τ n hb.2.2.2.2.2.1 hb.2.2.1 hb.ok (xs (i + 1)) (xs (i + 2)) (xs (i + 3)) (xs (i + 4))) dL_law_628 rfl zw_3_111 zw_3_112 zw_3_113 zw_1_5 zw_3_114 ⟨rfl, rfl⟩ zh_yX4_owner ⟨zle rfl, zle rfl⟩ (zm_at (p := 0) (j := 0) rfl) rfl rfl rfl (zle rfl) rfl ?_
  refine zn_swap ?_
  exact zv_icmp_eq K 1059 634 dL_law_631 (by decide) rfl (fun _ => kk _ _ (eq_owner h hb (xs (i + 1)) (xs (i + 2)) (xs (i + 3)) (xs (i + 4))).2) (fun z => absurd (eq_owner h hb (xs (i + 1)) (xs (i + 2)) (xs (i + 3)) (xs (i + 4))).1 z)
