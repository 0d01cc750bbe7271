set_option maxHeartbeats 1000000 in
set_option maxRecDepth 8000 in
theorem lc_0 (l : Launch) {Z : LZ} {b L i : Nat} {xs : Nat → Int32} {G : Gl} {K : CS} {M : MS} (h : Rel K M) (hi : i + 6 ≤ L) (hL : L ≤ 3072) (kk : ∀ (K : CS) (M : MS), Rel K M → Lw l Z b L xs G (K, M) 1385 (lsL G b i) []) : Lw l Z b L xs G (K, M) 200 (lsL G b i) [] := by
  refine la_aload_n dL_law_200 2 rfl 201 rfl ?_
  refine la_aload_n dL_law_201 3 rfl 202 rfl ?_
  refine la_iload_n dL_law_202 0 rfl 203 rfl ?_
  refine la_iconst dL_law_203 (nI 1) rfl 204 rfl ?_
  refine la_iaddN dL_law_204 205 rfl ?_
  refine la_sld (by omega) (by omega) dL_law_205 206 rfl ?_
  refine la_aload_n dL_law_206 3 rfl 207 rfl ?_
  refine la_iload_n dL_law_207 0 rfl 208 rfl ?_
  refine la_iconst dL_law_208 (nI 2) rfl 209 rfl ?_
  refine la_iaddN dL_law_209 210 rfl ?_
  refine la_sld (by omega) (by omega) dL_law_210 211 rfl ?_
  refine la_call (c_X4_weather l (xs (i + 1)) (xs (i + 2))) kal_X4_weather rfl dL_law_211 qw_221 qw_222 qw_223 rfl (by decide) (cel_obj G _) (by decide) [] (Nat.le_of_ble_eq_true rfl) rfl rfl 214 rfl ?_
  refine la_aload_n dL_law_214 1 rfl 215 rfl ?_
  refine la_aload_n dL_law_215 3 rfl 216 rfl ?_
  refine la_iload_n dL_law_216 0 rfl 217 rfl ?_
  refine la_iconst dL_law_217 (nI 1) rfl 218 rfl ?_
  refine la_iaddN dL_law_218 219 rfl ?_
  refine la_sld (by omega) (by omega) dL_law_219 220 rfl ?_
  refine la_aload_n dL_law_220 3 rfl 221 rfl ?_
  refine la_iload_n dL_law_221 0 rfl 222 rfl ?_
  refine la_iconst dL_law_222 (nI 2) rfl 223 rfl ?_
  refine la_iaddN dL_law_223 224 rfl ?_
  refine la_sld (by omega) (by omega) dL_law_224 225 rfl ?_
  refine la_call (c_X5_weather l (xs (i + 1)) (xs (i + 2))) kal_X5_weather rfl dL_law_225 qw_735 qw_736 qw_737 rfl (by decide) (cel_mod G _) (by decide) [.int (cWeather K (xs (i + 1)) (xs (i + 2))).1] (Nat.le_of_ble_eq_true rfl) rfl rfl 228 rfl ?_
  exact la_eq (r_weather h (xs (i + 1)) (xs (i + 2))).1 dL_law_228 1385 (by decide) (kk _ _ (r_weather h (xs (i + 1)) (xs (i + 2))).2)
set_option maxHeartbeats 1000000 in
set_option maxRecDepth 8000 in
theorem lc_1 (l : Launch) {Z : LZ} {b L i : Nat} {xs : Nat → Int32} {G : Gl} {K : CS} {M : MS} (h : Rel K M) (hi : i + 6 ≤ L) (hL : L ≤ 3072) (kk : ∀ (K : CS) (M : MS), Rel K M → Lw l Z b L xs G (K, M) 1385 (lsL G b i) []) : Lw l Z b L xs G (K, M) 233 (lsL G b i) [] := by
  refine la_aload_n dL_law_233 2 rfl 234 rfl ?_
  refine la_aload_n dL_law_234 3 rfl 235 rfl ?_
  refine la_iload_n dL_law_235 0 rfl 236 rfl ?_
  refine la_iconst dL_law_236 (nI 1) rfl 237 rfl ?_
  refine la_iaddN dL_law_237 238 rfl ?_
  refine la_sld (by omega) (by omega) dL_law_238 239 rfl ?_
  refine la_aload_n dL_law_239 3 rfl 240 rfl ?_
  refine la_iload_n dL_law_240 0 rfl 241 rfl ?_
  refine la_iconst dL_law_241 (nI 2) rfl 242 rfl ?_
  refine la_iaddN dL_law_242 243 rfl ?_
  refine la_sld (by omega) (by omega) dL_law_243 244 rfl ?_
  refine la_call (c_X4_monthOf l (xs (i + 1)) (xs (i + 2))) kal_X4_monthOf rfl dL_law_244 qw_239 qw_240 qw_241 rfl (by decide) (cel_obj G _) (by decide) [] (Nat.le_of_ble_eq_true rfl) rfl rfl 247 rfl ?_
  refine la_aload_n dL_law_247 1 rfl 248 rfl ?_
  refine la_aload_n dL_law_248 3 rfl 249 rfl ?_
  refine la_iload_n dL_law_249 0 rfl 250 rfl ?_
  refine la_iconst dL_law_250 (nI 1) rfl 251 rfl ?_
  refine la_iaddN dL_law_251 252 rfl ?_
  refine la_sld (by omega) (by omega) dL_law_252 253 rfl ?_
  refine la_aload_n dL_law_253 3 rfl 254 rfl ?_
  refine la_iload_n dL_law_254 0 rfl 255 rfl ?_
  refine la_iconst dL_law_255 (nI 2) rfl 256 rfl ?_
  refine la_iaddN dL_law_256 257 rfl ?_
  refine la_sld (by omega) (by omega) dL_law_257 258 rfl ?_
  refine la_call (c_X5_monthOf l (xs (i + 1)) (xs (i + 2))) kal_X5_monthOf rfl dL_law_258 qw_760 qw_761 qw_762 rfl (by decide) (cel_mod G _) (by decide) [.int (cMonthOf K (xs (i + 1)) (xs (i + 2))).1] (Nat.le_of_ble_eq_true rfl) rfl rfl 261 rfl ?_
  exact la_eq (r_monthOf h (xs (i + 1)) (xs (i + 2))).1 dL_law_261 1385 (by decide) (kk _ _ (r_monthOf h (xs (i + 1)) (xs (i + 2))).2)
set_option maxHeartbeats 1000000 in
set_option maxRecDepth 8000 in
theorem lc_2 (l : Launch) {Z : LZ} {b L i : Nat} {xs : Nat → Int32} {G : Gl} {K : CS} {M : MS} (h : Rel K M) (hi : i + 6 ≤ L) (hL : L ≤ 3072) (kk : ∀ (K : CS) (M : MS), Rel K M → Lw l Z b L xs G (K, M) 1385 (lsL G b i) []) : Lw l Z b L xs G (K, M) 266 (lsL G b i) [] := by
  refine la_aload_n dL_law_266 2 rfl 267 rfl ?_
  refine la_aload_n dL_law_267 3 rfl 268 rfl ?_
  refine la_iload_n dL_law_268 0 rfl 269 rfl ?_
  refine la_iconst dL_law_269 (nI 1) rfl 270 rfl ?_
  refine la_iaddN dL_law_270 271 rfl ?_
  refine la_sld (by omega) (by omega) dL_law_271 272 rfl ?_
  refine la_call (c_X4_now l h.n8 h.mo (xs (i + 1))) kal_X4_now rfl dL_law_272 qw_243 qw_244 qw_245 rfl (by decide) (cel_obj G _) (by decide) [] (Nat.le_of_ble_eq_true rfl) rfl rfl 275 rfl ?_
  refine la_aload_n dL_law_275 1 rfl 276 rfl ?_
  refine la_aload_n dL_law_276 3 rfl 277 rfl ?_
  refine la_iload_n dL_law_277 0 rfl 278 rfl ?_
  refine la_iconst dL_law_278 (nI 1) rfl 279 rfl ?_
  refine la_iaddN dL_law_279 280 rfl ?_
  refine la_sld (by omega) (by omega) dL_law_280 281 rfl ?_
  refine la_call (c_X5_now l (nE := (K.1 0).2.1) (t0 := (K.1 0).1) h.1.1.2.1.1 h.n8 h.1.1.1 h.mo (xs (i + 1))) kal_X5_now rfl dL_law_281 qw_765 qw_766 qw_767 rfl (by decide) (cel_mod G _) (by decide) [.int (cNow K (xs (i + 1))).1] (Nat.le_of_ble_eq_true rfl) rfl rfl 284 rfl ?_
  exact la_eq (r_now h (xs (i + 1))).1 dL_law_284 1385 (by decide) (kk _ _ (r_now h (xs (i + 1))).2)
set_option maxHeartbeats 1000000 in
set_option maxRecDepth 8000 in
theorem lc_3 (l : Launch) {Z : LZ} {b L i : Nat} {xs : Nat → Int32} {G : Gl} {K : CS} {M : MS} (h : Rel K M) (hi : i + 6 ≤ L) (hL : L ≤ 3072) (kk : ∀ (K : CS) (M : MS), Rel K M → Lw l Z b L xs G (K, M) 1385 (lsL G b i) []) : Lw l Z b L xs G (K, M) 289 (lsL G b i) [] := by
  refine la_aload_n dL_law_289 2 rfl 290 rfl ?_
  refine la_aload_n dL_law_290 3 rfl 291 rfl ?_
  refine la_iload_n dL_law_291 0 rfl 292 rfl ?_
  refine la_iconst dL_law_292 (nI 1) rfl 293 rfl ?_
  refine la_iaddN dL_law_293 294 rfl ?_
  refine la_sld (by omega) (by omega) dL_law_294 295 rfl ?_
  refine la_call (c_X4_ewe l h.n8 (xs (i + 1))) kal_X4_ewe rfl dL_law_295 qw_258 qw_259 qw_260 rfl (by decide) (cel_obj G _) (by decide) [] (Nat.le_of_ble_eq_true rfl) rfl rfl 298 rfl ?_
  refine la_aload_n dL_law_298 1 rfl 299 rfl ?_
  refine la_aload_n dL_law_299 3 rfl 300 rfl ?_
  refine la_iload_n dL_law_300 0 rfl 301 rfl ?_
  refine la_iconst dL_law_301 (nI 1) rfl 302 rfl ?_
  refine la_iaddN dL_law_302 303 rfl ?_
  refine la_sld (by omega) (by omega) dL_law_303 304 rfl ?_
  refine la_call (c_X5_ewe l (nE := (K.1 0).2.1) h.1.1.2.1.1 h.n8 (xs (i + 1))) kal_X5_ewe rfl dL_law_304 qw_788 qw_789 qw_790 rfl (by decide) (cel_mod G _) (by decide) [.int (cEwe K (xs (i + 1))).1] (Nat.le_of_ble_eq_true rfl) rfl rfl 307 rfl ?_
  exact la_eq (r_ewe h (xs (i + 1))).1 dL_law_307 1385 (by decide) (kk _ _ (r_ewe h (xs (i + 1))).2)
set_option maxHeartbeats 1000000 in
set_option maxRecDepth 8000 in
theorem lc_4 (l : Launch) {Z : LZ} {b L i : Nat} {xs : Nat → Int32} {G : Gl} {K : CS} {M : MS} (h : Rel K M) (hi : i + 6 ≤ L) (hL : L ≤ 3072) (kk : ∀ (K : CS) (M : MS), Rel K M → Lw l Z b L xs G (K, M) 1385 (lsL G b i) []) : Lw l Z b L xs G (K, M) 312 (lsL G b i) [] := by
  refine la_aload_n dL_law_312 2 rfl 313 rfl ?_
  refine la_aload_n dL_law_313 3 rfl 314 rfl ?_
  refine la_iload_n dL_law_314 0 rfl 315 rfl ?_
  refine la_iconst dL_law_315 (nI 1) rfl 316 rfl ?_
  refine la_iaddN dL_law_316 317 rfl ?_
  refine la_sld (by omega) (by omega) dL_law_317 318 rfl ?_
  refine la_aload_n dL_law_318 3 rfl 319 rfl ?_
  refine la_iload_n dL_law_319 0 rfl 320 rfl ?_
  refine la_iconst dL_law_320 (nI 2) rfl 321 rfl ?_
  refine la_iaddN dL_law_321 322 rfl ?_
  refine la_sld (by omega) (by omega) dL_law_322 323 rfl ?_
  refine la_call (c_X4_of l h.n8 (xs (i + 1)) (xs (i + 2))) kal_X4_of rfl dL_law_323 qw_281 qw_282 qw_283 rfl (by decide) (cel_obj G _) (by decide) [] (Nat.le_of_ble_eq_true rfl) rfl rfl 326 rfl ?_
  refine la_aload_n dL_law_326 1 rfl 327 rfl ?_
  refine la_aload_n dL_law_327 3 rfl 328 rfl ?_
  refine la_iload_n dL_law_328 0 rfl 329 rfl ?_
  refine la_iconst dL_law_329 (nI 1) rfl 330 rfl ?_
  refine la_iaddN dL_law_330 331 rfl ?_
  refine la_sld (by omega) (by omega) dL_law_331 332 rfl ?_
  refine la_aload_n dL_law_332 3 rfl 333 rfl ?_
  refine la_iload_n dL_law_333 0 rfl 334 rfl ?_
  refine la_iconst dL_law_334 (nI 2) rfl 335 rfl ?_
  refine la_iaddN dL_law_335 336 rfl ?_
  refine la_sld (by omega) (by omega) dL_law_336 337 rfl ?_
  refine la_call (c_X5_of l (nE := (K.1 0).2.1) h.1.1.2.1.1 h.n8 (xs (i + 1)) (xs (i + 2))) kal_X5_of rfl dL_law_337 qw_801 qw_802 qw_803 rfl (by decide) (cel_mod G _) (by decide) [.int (cOf K (xs (i + 1)) (xs (i + 2))).1] (Nat.le_of_ble_eq_true rfl) rfl rfl 340 rfl ?_
  exact la_eq (r_of h (xs (i + 1)) (xs (i + 2))).1 dL_law_340 1385 (by decide) (kk _ _ (r_of h (xs (i + 1)) (xs (i + 2))).2)
set_option maxHeartbeats 1000000 in
set_option maxRecDepth 8000 in
theorem lc_5 (l : Launch) {Z : LZ} {b L i : Nat} {xs : Nat → Int32} {G : Gl} {K : CS} {M : MS} (h : Rel K M) (hi : i + 6 ≤ L) (hL : L ≤ 3072) (kk : ∀ (K : CS) (M : MS), Rel K M → Lw l Z b L xs G (K, M) 1385 (lsL G b i) []) : Lw l Z b L xs G (K, M) 345 (lsL G b i) [] := by
  refine la_aload_n dL_law_345 2 rfl 346 rfl ?_
  refine la_aload_n dL_law_346 3 rfl 347 rfl ?_
  refine la_iload_n dL_law_347 0 rfl 348 rfl ?_
  refine la_iconst dL_law_348 (nI 1) rfl 349 rfl ?_
  refine la_iaddN dL_law_349 350 rfl ?_
  refine la_sld (by omega) (by omega) dL_law_350 351 rfl ?_
  refine la_aload_n dL_law_351 3 rfl 352 rfl ?_
  refine la_iload_n dL_law_352 0 rfl 353 rfl ?_
  refine la_iconst dL_law_353 (nI 2) rfl 354 rfl ?_
  refine la_iaddN dL_law_354 355 rfl ?_
  refine la_sld (by omega) (by omega) dL_law_355 356 rfl ?_
  refine la_call (c_X4_fleece l h.n8 (xs (i + 1)) (xs (i + 2))) kal_X4_fleece rfl dL_law_356 qw_292 qw_293 qw_294 rfl (by decide) (cel_obj G _) (by decide) [] (Nat.le_of_ble_eq_true rfl) rfl rfl 359 rfl ?_
  refine la_aload_n dL_law_359 1 rfl 360 rfl ?_
  refine la_aload_n dL_law_360 3 rfl 361 rfl ?_
  refine la_iload_n dL_law_361 0 rfl 362 rfl ?_
  refine la_iconst dL_law_362 (nI 1) rfl 363 rfl ?_
  refine la_iaddN dL_law_363 364 rfl ?_
  refine la_sld (by omega) (by omega) dL_law_364 365 rfl ?_
  refine la_aload_n dL_law_365 3 rfl 366 rfl ?_
  refine la_iload_n dL_law_366 0 rfl 367 rfl ?_
  refine la_iconst dL_law_367 (nI 2) rfl 368 rfl ?_
  refine la_iaddN dL_law_368 369 rfl ?_
  refine la_sld (by omega) (by omega) dL_law_369 370 rfl ?_
  refine la_call (c_X5_fleece l (nE := (K.1 0).2.1) h.1.1.2.1.1 h.n8 (xs (i + 1)) (xs (i + 2))) kal_X5_fleece rfl dL_law_370 qw_818 qw_819 qw_820 rfl (by decide) (cel_mod G _) (by decide) [.int (cFleece K (xs (i + 1)) (xs (i + 2))).1] (Nat.le_of_ble_eq_true rfl) rfl rfl 373 rfl ?_
  exact la_eq (r_fleece h (xs (i + 1)) (xs (i + 2))).1 dL_law_373 1385 (by decide) (kk _ _ (r_fleece h (xs (i + 1)) (xs (i + 2))).2)
set_option maxHeartbeats 1000000 in
set_option maxRecDepth 8000 in
theorem lc_6 (l : Launch) {Z : LZ} {b L i : Nat} {xs : Nat → Int32} {G : Gl} {K : CS} {M : MS} (h : Rel K M) (hi : i + 6 ≤ L) (hL : L ≤ 3072) (kk : ∀ (K : CS) (M : MS), Rel K M → Lw l Z b L xs G (K, M) 1385 (lsL G b i) []) : Lw l Z b L xs G (K, M) 378 (lsL G b i) [] := by
  refine la_aload_n dL_law_378 2 rfl 379 rfl ?_
  refine la_aload_n dL_law_379 3 rfl 380 rfl ?_
  refine la_iload_n dL_law_380 0 rfl 381 rfl ?_
  refine la_iconst dL_law_381 (nI 1) rfl 382 rfl ?_
  refine la_iaddN dL_law_382 383 rfl ?_
  refine la_sld (by omega) (by omega) dL_law_383 384 rfl ?_
  refine la_aload_n dL_law_384 3 rfl 385 rfl ?_
  refine la_iload_n dL_law_385 0 rfl 386 rfl ?_
  refine la_iconst dL_law_386 (nI 2) rfl 387 rfl ?_
  refine la_iaddN dL_law_387 388 rfl ?_
  refine la_sld (by omega) (by omega) dL_law_388 389 rfl ?_
  refine la_aload_n dL_law_389 3 rfl 390 rfl ?_
  refine la_iload_n dL_law_390 0 rfl 391 rfl ?_
  refine la_iconst dL_law_391 (nI 3) rfl 392 rfl ?_
  refine la_iaddN dL_law_392 393 rfl ?_
  refine la_sld (by omega) (by omega) dL_law_393 394 rfl ?_
  refine la_call (c_X4_can l h.n8 (xs (i + 1)) (xs (i + 2)) (xs (i + 3))) kal_X4_can rfl dL_law_394 qw_296 qw_297 qw_298 rfl (by decide) (cel_obj G _) (by decide) [] (Nat.le_of_ble_eq_true rfl) rfl rfl 397 rfl ?_
  refine la_aload_n dL_law_397 1 rfl 398 rfl ?_
  refine la_aload_n dL_law_398 3 rfl 399 rfl ?_
  refine la_iload_n dL_law_399 0 rfl 400 rfl ?_
  refine la_iconst dL_law_400 (nI 1) rfl 401 rfl ?_
  refine la_iaddN dL_law_401 402 rfl ?_
  refine la_sld (by omega) (by omega) dL_law_402 403 rfl ?_
  refine la_aload_n dL_law_403 3 rfl 404 rfl ?_
  refine la_iload_n dL_law_404 0 rfl 405 rfl ?_
  refine la_iconst dL_law_405 (nI 2) rfl 406 rfl ?_
  refine la_iaddN dL_law_406 407 rfl ?_
  refine la_sld (by omega) (by omega) dL_law_407 408 rfl ?_
  refine la_aload_n dL_law_408 3 rfl 409 rfl ?_
  refine la_iload_n dL_law_409 0 rfl 410 rfl ?_
  refine la_iconst dL_law_410 (nI 3) rfl 411 rfl ?_
  refine la_iaddN dL_law_411 412 rfl ?_
  refine la_sld (by omega) (by omega) dL_law_412 413 rfl ?_
  refine la_call (c_X5_can l (nE := (K.1 0).2.1) h.1.1.2.1.1 h.n8 (xs (i + 1)) (xs (i + 2)) (xs (i + 3))) kal_X5_can rfl dL_law_413 qw_822 qw_823 qw_824 rfl (by decide) (cel_mod G _) (by decide) [.int (cCan K (xs (i + 1)) (xs (i + 2)) (xs (i + 3))).1] (Nat.le_of_ble_eq_true rfl) rfl rfl 416 rfl ?_
  exact la_eq (r_can h (xs (i + 1)) (xs (i + 2)) (xs (i + 3))).1 dL_law_416 1385 (by decide) (kk _ _ (r_can h (xs (i + 1)) (xs (i + 2)) (xs (i + 3))).2)
set_option maxHeartbeats 1000000 in
set_option maxRecDepth 8000 in
theorem lc_7 (l : Launch) {Z : LZ} {b L i : Nat} {xs : Nat → Int32} {G : Gl} {K : CS} {M : MS} (h : Rel K M) (hi : i + 6 ≤ L) (hL : L ≤ 3072) (kk : ∀ (K : CS) (M : MS), Rel K M → Lw l Z b L xs G (K, M) 1385 (lsL G b i) []) : Lw l Z b L xs G (K, M) 421 (lsL G b i) [] := by
  refine la_aload_n dL_law_421 2 rfl 422 rfl ?_
  refine la_aload_n dL_law_422 3 rfl 423 rfl ?_
  refine la_iload_n dL_law_423 0 rfl 424 rfl ?_
  refine la_iconst dL_law_424 (nI 1) rfl 425 rfl ?_
  refine la_iaddN dL_law_425 426 rfl ?_
  refine la_sld (by omega) (by omega) dL_law_426 427 rfl ?_
  refine la_aload_n dL_law_427 3 rfl 428 rfl ?_
  refine la_iload_n dL_law_428 0 rfl 429 rfl ?_
  refine la_iconst dL_law_429 (nI 2) rfl 430 rfl ?_
  refine la_iaddN dL_law_430 431 rfl ?_
  refine la_sld (by omega) (by omega) dL_law_431 432 rfl ?_
  refine la_call (c_X4_scare l h.n8 (xs (i + 1)) (xs (i + 2))) kal_X4_scare rfl dL_law_432 qw_312 qw_313 qw_314 rfl (by decide) (cel_obj G _) (by decide) [] (Nat.le_of_ble_eq_true rfl) rfl rfl 435 rfl ?_
  refine la_aload_n dL_law_435 1 rfl 436 rfl ?_
  refine la_aload_n dL_law_436 3 rfl 437 rfl ?_
  refine la_iload_n dL_law_437 0 rfl 438 rfl ?_
  refine la_iconst dL_law_438 (nI 1) rfl 439 rfl ?_
  refine la_iaddN dL_law_439 440 rfl ?_
  refine la_sld (by omega) (by omega) dL_law_440 441 rfl ?_
  refine la_aload_n dL_law_441 3 rfl 442 rfl ?_
  refine la_iload_n dL_law_442 0 rfl 443 rfl ?_
  refine la_iconst dL_law_443 (nI 2) rfl 444 rfl ?_
  refine la_iaddN dL_law_444 445 rfl ?_
  refine la_sld (by omega) (by omega) dL_law_445 446 rfl ?_
  refine la_call (c_X5_scare l (nE := (K.1 0).2.1) h.1.1.2.1.1 h.n8 (xs (i + 1)) (xs (i + 2))) kal_X5_scare rfl dL_law_446 qw_838 qw_839 qw_840 rfl (by decide) (cel_mod G _) (by decide) [.int (cScare K (xs (i + 1)) (xs (i + 2))).1] (Nat.le_of_ble_eq_true rfl) rfl rfl 449 rfl ?_
  exact la_eq (r_scare h (xs (i + 1)) (xs (i + 2))).1 dL_law_449 1385 (by decide) (kk _ _ (r_scare h (xs (i + 1)) (xs (i + 2))).2)
set_option maxHeartbeats 1000000 in
set_option maxRecDepth 8000 in
theorem lc_8 (l : Launch) {Z : LZ} {b L i : Nat} {xs : Nat → Int32} {G : Gl} {K : CS} {M : MS} (h : Rel K M) (hi : i + 6 ≤ L) (hL : L ≤ 3072) (kk : ∀ (K : CS) (M : MS), Rel K M → Lw l Z b L xs G (K, M) 1385 (lsL G b i) []) : Lw l Z b L xs G (K, M) 454 (lsL G b i) [] := by
  refine la_aload_n dL_law_454 2 rfl 455 rfl ?_
  refine la_aload_n dL_law_455 3 rfl 456 rfl ?_
  refine la_iload_n dL_law_456 0 rfl 457 rfl ?_
  refine la_iconst dL_law_457 (nI 1) rfl 458 rfl ?_
  refine la_iaddN dL_law_458 459 rfl ?_
  refine la_sld (by omega) (by omega) dL_law_459 460 rfl ?_
  refine la_aload_n dL_law_460 3 rfl 461 rfl ?_
  refine la_iload_n dL_law_461 0 rfl 462 rfl ?_
  refine la_iconst dL_law_462 (nI 2) rfl 463 rfl ?_
  refine la_iaddN dL_law_463 464 rfl ?_
  refine la_sld (by omega) (by omega) dL_law_464 465 rfl ?_
  refine la_call (c_X4_turn l h.n8 (xs (i + 1)) (xs (i + 2))) kal_X4_turn rfl dL_law_465 qw_316 qw_317 qw_318 rfl (by decide) (cel_obj G _) (by decide) [] (Nat.le_of_ble_eq_true rfl) rfl rfl 468 rfl ?_
  refine la_aload_n dL_law_468 1 rfl 469 rfl ?_
  refine la_aload_n dL_law_469 3 rfl 470 rfl ?_
  refine la_iload_n dL_law_470 0 rfl 471 rfl ?_
  refine la_iconst dL_law_471 (nI 1) rfl 472 rfl ?_
  refine la_iaddN dL_law_472 473 rfl ?_
  refine la_sld (by omega) (by omega) dL_law_473 474 rfl ?_
  refine la_aload_n dL_law_474 3 rfl 475 rfl ?_
  refine la_iload_n dL_law_475 0 rfl 476 rfl ?_
  refine la_iconst dL_law_476 (nI 2) rfl 477 rfl ?_
  refine la_iaddN dL_law_477 478 rfl ?_
  refine la_sld (by omega) (by omega) dL_law_478 479 rfl ?_
  refine la_call (c_X5_turn l (nE := (K.1 0).2.1) h.1.1.2.1.1 h.n8 (xs (i + 1)) (xs (i + 2))) kal_X5_turn rfl dL_law_479 qw_843 qw_844 qw_845 rfl (by decide) (cel_mod G _) (by decide) [.int (cTurn K (xs (i + 1)) (xs (i + 2))).1] (Nat.le_of_ble_eq_true rfl) rfl rfl 482 rfl ?_
  exact la_eq (r_turn h (xs (i + 1)) (xs (i + 2))).1 dL_law_482 1385 (by decide) (kk _ _ (r_turn h (xs (i + 1)) (xs (i + 2))).2)
set_option maxHeartbeats 1000000 in
set_option maxRecDepth 8000 in
theorem lc_9 (l : Launch) {Z : LZ} {b L i : Nat} {xs : Nat → Int32} {G : Gl} {K : CS} {M : MS} (h : Rel K M) (hi : i + 6 ≤ L) (hL : L ≤ 3072) (kk : ∀ (K : CS) (M : MS), Rel K M → Lw l Z b L xs G (K, M) 1385 (lsL G b i) []) : Lw l Z b L xs G (K, M) 487 (lsL G b i) [] := by
  refine la_aload_n dL_law_487 2 rfl 488 rfl ?_
  refine la_aload_n dL_law_488 3 rfl 489 rfl ?_
  refine la_iload_n dL_law_489 0 rfl 490 rfl ?_
  refine la_iconst dL_law_490 (nI 1) rfl 491 rfl ?_
  refine la_iaddN dL_law_491 492 rfl ?_
  refine la_sld (by omega) (by omega) dL_law_492 493 rfl ?_
  refine la_aload_n dL_law_493 3 rfl 494 rfl ?_
  refine la_iload_n dL_law_494 0 rfl 495 rfl ?_
  refine la_iconst dL_law_495 (nI 2) rfl 496 rfl ?_
  refine la_iaddN dL_law_496 497 rfl ?_
  refine la_sld (by omega) (by omega) dL_law_497 498 rfl ?_
  refine la_call (c_X4_as l h.n8 (xs (i + 1)) (xs (i + 2))) kal_X4_as rfl dL_law_498 qw_320 qw_321 qw_322 rfl (by decide) (cel_obj G _) (by decide) [] (Nat.le_of_ble_eq_true rfl) rfl rfl 501 rfl ?_
  refine la_aload_n dL_law_501 1 rfl 502 rfl ?_
  refine la_aload_n dL_law_502 3 rfl 503 rfl ?_
  refine la_iload_n dL_law_503 0 rfl 504 rfl ?_
  refine la_iconst dL_law_504 (nI 1) rfl 505 rfl ?_
  refine la_iaddN dL_law_505 506 rfl ?_
  refine la_sld (by omega) (by omega) dL_law_506 507 rfl ?_
  refine la_aload_n dL_law_507 3 rfl 508 rfl ?_
  refine la_iload_n dL_law_508 0 rfl 509 rfl ?_
  refine la_iconst dL_law_509 (nI 2) rfl 510 rfl ?_
  refine la_iaddN dL_law_510 511 rfl ?_
  refine la_sld (by omega) (by omega) dL_law_511 512 rfl ?_
  refine la_call (c_X5_as l (nE := (K.1 0).2.1) h.1.1.2.1.1 h.n8 (xs (i + 1)) (xs (i + 2))) kal_X5_as rfl dL_law_512 qw_847 qw_848 qw_849 rfl (by decide) (cel_mod G _) (by decide) [.int (cAs K (xs (i + 1)) (xs (i + 2))).1] (Nat.le_of_ble_eq_true rfl) rfl rfl 515 rfl ?_
  exact la_eq (r_as h (xs (i + 1)) (xs (i + 2))).1 dL_law_515 1385 (by decide) (kk _ _ (r_as h (xs (i + 1)) (xs (i + 2))).2)
set_option maxHeartbeats 1000000 in
set_option maxRecDepth 8000 in
theorem lc_10 (l : Launch) {Z : LZ} {b L i : Nat} {xs : Nat → Int32} {G : Gl} {K : CS} {M : MS} (h : Rel K M) (hi : i + 6 ≤ L) (hL : L ≤ 3072) (kk : ∀ (K : CS) (M : MS), Rel K M → Lw l Z b L xs G (K, M) 1385 (lsL G b i) []) : Lw l Z b L xs G (K, M) 520 (lsL G b i) [] := by
  refine la_aload_n dL_law_520 2 rfl 521 rfl ?_
  refine la_aload_n dL_law_521 3 rfl 522 rfl ?_
  refine la_iload_n dL_law_522 0 rfl 523 rfl ?_
  refine la_iconst dL_law_523 (nI 1) rfl 524 rfl ?_
  refine la_iaddN dL_law_524 525 rfl ?_
  refine la_sld (by omega) (by omega) dL_law_525 526 rfl ?_
  refine la_aload_n dL_law_526 3 rfl 527 rfl ?_
  refine la_iload_n dL_law_527 0 rfl 528 rfl ?_
  refine la_iconst dL_law_528 (nI 2) rfl 529 rfl ?_
  refine la_iaddN dL_law_529 530 rfl ?_
  refine la_sld (by omega) (by omega) dL_law_530 531 rfl ?_
  refine la_aload_n dL_law_531 3 rfl 532 rfl ?_
  refine la_iload_n dL_law_532 0 rfl 533 rfl ?_
  refine la_iconst dL_law_533 (nI 3) rfl 534 rfl ?_
  refine la_iaddN dL_law_534 535 rfl ?_
  refine la_sld (by omega) (by omega) dL_law_535 536 rfl ?_
  refine la_call (c_X4_cut l (xs (i + 1)) (xs (i + 2)) (xs (i + 3))) kal_X4_cut rfl dL_law_536 qw_330 qw_331 qw_332 rfl (by decide) (cel_obj G _) (by decide) [] (Nat.le_of_ble_eq_true rfl) rfl rfl 539 rfl ?_
  refine la_aload_n dL_law_539 1 rfl 540 rfl ?_
  refine la_aload_n dL_law_540 3 rfl 541 rfl ?_
  refine la_iload_n dL_law_541 0 rfl 542 rfl ?_
  refine la_iconst dL_law_542 (nI 1) rfl 543 rfl ?_
  refine la_iaddN dL_law_543 544 rfl ?_
  refine la_sld (by omega) (by omega) dL_law_544 545 rfl ?_
  refine la_aload_n dL_law_545 3 rfl 546 rfl ?_
  refine la_iload_n dL_law_546 0 rfl 547 rfl ?_
  refine la_iconst dL_law_547 (nI 2) rfl 548 rfl ?_
  refine la_iaddN dL_law_548 549 rfl ?_
  refine la_sld (by omega) (by omega) dL_law_549 550 rfl ?_
  refine la_aload_n dL_law_550 3 rfl 551 rfl ?_
  refine la_iload_n dL_law_551 0 rfl 552 rfl ?_
  refine la_iconst dL_law_552 (nI 3) rfl 553 rfl ?_
  refine la_iaddN dL_law_553 554 rfl ?_
  refine la_sld (by omega) (by omega) dL_law_554 555 rfl ?_
  refine la_call (c_X5_cut l (xs (i + 1)) (xs (i + 2)) (xs (i + 3))) kal_X5_cut rfl dL_law_555 qw_855 qw_856 qw_857 rfl (by decide) (cel_mod G _) (by decide) [.int (cCut K (xs (i + 1)) (xs (i + 2)) (xs (i + 3))).1] (Nat.le_of_ble_eq_true rfl) rfl rfl 558 rfl ?_
  exact la_eq (r_cut h (xs (i + 1)) (xs (i + 2)) (xs (i + 3))).1 dL_law_558 1385 (by decide) (kk _ _ (r_cut h (xs (i + 1)) (xs (i + 2)) (xs (i + 3))).2)
set_option maxHeartbeats 1000000 in
set_option maxRecDepth 8000 in
theorem lc_11 (l : Launch) {Z : LZ} {b L i : Nat} {xs : Nat → Int32} {G : Gl} {K : CS} {M : MS} (h : Rel K M) (hi : i + 6 ≤ L) (hL : L ≤ 3072) (kk : ∀ (K : CS) (M : MS), Rel K M → Lw l Z b L xs G (K, M) 1385 (lsL G b i) []) : Lw l Z b L xs G (K, M) 563 (lsL G b i) [] := by
  refine la_aload_n dL_law_563 2 rfl 564 rfl ?_
  refine la_aload_n dL_law_564 3 rfl 565 rfl ?_
  refine la_iload_n dL_law_565 0 rfl 566 rfl ?_
  refine la_iconst dL_law_566 (nI 1) rfl 567 rfl ?_
  refine la_iaddN dL_law_567 568 rfl ?_
  refine la_sld (by omega) (by omega) dL_law_568 569 rfl ?_
  refine la_aload_n dL_law_569 3 rfl 570 rfl ?_
  refine la_iload_n dL_law_570 0 rfl 571 rfl ?_
  refine la_iconst dL_law_571 (nI 2) rfl 572 rfl ?_
  refine la_iaddN dL_law_572 573 rfl ?_
  refine la_sld (by omega) (by omega) dL_law_573 574 rfl ?_
  refine la_call (c_X4_coatOf l (xs (i + 1)) (xs (i + 2))) kal_X4_coatOf rfl dL_law_574 qw_345 qw_346 qw_347 rfl (by decide) (cel_obj G _) (by decide) [] (Nat.le_of_ble_eq_true rfl) rfl rfl 577 rfl ?_
  refine la_aload_n dL_law_577 1 rfl 578 rfl ?_
  refine la_aload_n dL_law_578 3 rfl 579 rfl ?_
  refine la_iload_n dL_law_579 0 rfl 580 rfl ?_
  refine la_iconst dL_law_580 (nI 1) rfl 581 rfl ?_
  refine la_iaddN dL_law_581 582 rfl ?_
  refine la_sld (by omega) (by omega) dL_law_582 583 rfl ?_
  refine la_aload_n dL_law_583 3 rfl 584 rfl ?_
  refine la_iload_n dL_law_584 0 rfl 585 rfl ?_
  refine la_iconst dL_law_585 (nI 2) rfl 586 rfl ?_
  refine la_iaddN dL_law_586 587 rfl ?_
  refine la_sld (by omega) (by omega) dL_law_587 588 rfl ?_
  refine la_call (c_X5_coatOf l (xs (i + 1)) (xs (i + 2))) kal_X5_coatOf rfl dL_law_588 qw_871 qw_872 qw_873 rfl (by decide) (cel_mod G _) (by decide) [.int (cCoatOf K (xs (i + 1)) (xs (i + 2))).1] (Nat.le_of_ble_eq_true rfl) rfl rfl 591 rfl ?_
  exact la_eq (r_coatOf h (xs (i + 1)) (xs (i + 2))).1 dL_law_591 1385 (by decide) (kk _ _ (r_coatOf h (xs (i + 1)) (xs (i + 2))).2)
set_option maxHeartbeats 1000000 in
set_option maxRecDepth 8000 in
theorem lc_12 (l : Launch) {Z : LZ} {b L i : Nat} {xs : Nat → Int32} {G : Gl} {K : CS} {M : MS} (h : Rel K M) (hi : i + 6 ≤ L) (hL : L ≤ 3072) (kk : ∀ (K : CS) (M : MS), Rel K M → Lw l Z b L xs G (K, M) 1385 (lsL G b i) []) : Lw l Z b L xs G (K, M) 596 (lsL G b i) [] := by
  refine la_aload_n dL_law_596 2 rfl 597 rfl ?_
  refine la_aload_n dL_law_597 3 rfl 598 rfl ?_
  refine la_iload_n dL_law_598 0 rfl 599 rfl ?_
  refine la_iconst dL_law_599 (nI 1) rfl 600 rfl ?_
  refine la_iaddN dL_law_600 601 rfl ?_
  refine la_sld (by omega) (by omega) dL_law_601 602 rfl ?_
  refine la_call (c_X4_unpick l (xs (i + 1))) kal_X4_unpick rfl dL_law_602 qw_365 qw_366 qw_367 rfl (by decide) (cel_obj G _) (by decide) [] (Nat.le_of_ble_eq_true rfl) rfl rfl 605 rfl ?_
  refine la_aload_n dL_law_605 1 rfl 606 rfl ?_
  refine la_aload_n dL_law_606 3 rfl 607 rfl ?_
  refine la_iload_n dL_law_607 0 rfl 608 rfl ?_
  refine la_iconst dL_law_608 (nI 1) rfl 609 rfl ?_
  refine la_iaddN dL_law_609 610 rfl ?_
  refine la_sld (by omega) (by omega) dL_law_610 611 rfl ?_
  refine la_call (c_X5_unpick l (xs (i + 1))) kal_X5_unpick rfl dL_law_611 qw_887 qw_888 qw_889 rfl (by decide) (cel_mod G _) (by decide) [.int (cUnpick K (xs (i + 1))).1] (Nat.le_of_ble_eq_true rfl) rfl rfl 614 rfl ?_
  exact la_eq (r_unpick h (xs (i + 1))).1 dL_law_614 1385 (by decide) (kk _ _ (r_unpick h (xs (i + 1))).2)
set_option maxHeartbeats 1000000 in
set_option maxRecDepth 8000 in
theorem lc_13 (l : Launch) {Z : LZ} {b L i : Nat} {xs : Nat → Int32} {G : Gl} {K : CS} {M : MS} (h : Rel K M) (hi : i + 6 ≤ L) (hL : L ≤ 3072) (kk : ∀ (K : CS) (M : MS), Rel K M → Lw l Z b L xs G (K, M) 1385 (lsL G b i) []) : Lw l Z b L xs G (K, M) 619 (lsL G b i) [] := by
  refine la_aload_n dL_law_619 2 rfl 620 rfl ?_
  refine la_aload_n dL_law_620 3 rfl 621 rfl ?_
  refine la_iload_n dL_law_621 0 rfl 622 rfl ?_
  refine la_iconst dL_law_622 (nI 1) rfl 623 rfl ?_
  refine la_iaddN dL_law_623 624 rfl ?_
  refine la_sld (by omega) (by omega) dL_law_624 625 rfl ?_
  refine la_call (c_X4_months l h.n8 h.mo (xs (i + 1))) kal_X4_months rfl dL_law_625 qw_376 qw_377 qw_378 rfl (by decide) (cel_obj G _) (by decide) [] (Nat.le_of_ble_eq_true rfl) rfl rfl 628 rfl ?_
  refine la_aload_n dL_law_628 1 rfl 629 rfl ?_
  refine la_aload_n dL_law_629 3 rfl 630 rfl ?_
  refine la_iload_n dL_law_630 0 rfl 631 rfl ?_
  refine la_iconst dL_law_631 (nI 1) rfl 632 rfl ?_
  refine la_iaddN dL_law_632 633 rfl ?_
  refine la_sld (by omega) (by omega) dL_law_633 634 rfl ?_
  refine la_call (c_X5_months l (nE := (K.1 0).2.1) (t0 := (K.1 0).1) h.1.1.2.1.1 h.n8 h.1.1.1 h.mo (xs (i + 1))) kal_X5_months rfl dL_law_634 qw_894 qw_895 qw_896 rfl (by decide) (cel_mod G _) (by decide) [.int (cMonths K (xs (i + 1))).1] (Nat.le_of_ble_eq_true rfl) rfl rfl 637 rfl ?_
  exact la_eq (r_months h (xs (i + 1))).1 dL_law_637 1385 (by decide) (kk _ _ (r_months h (xs (i + 1))).2)
set_option maxHeartbeats 1000000 in
set_option maxRecDepth 8000 in
theorem lc_14 (l : Launch) {Z : LZ} {b L i : Nat} {xs : Nat → Int32} {G : Gl} {K : CS} {M : MS} (h : Rel K M) (hi : i + 6 ≤ L) (hL : L ≤ 3072) (kk : ∀ (K : CS) (M : MS), Rel K M → Lw l Z b L xs G (K, M) 1385 (lsL G b i) []) : Lw l Z b L xs G (K, M) 642 (lsL G b i) [] := by
  refine la_aload_n dL_law_642 2 rfl 643 rfl ?_
  refine la_aload_n dL_law_643 3 rfl 644 rfl ?_
  refine la_iload_n dL_law_644 0 rfl 645 rfl ?_
  refine la_iconst dL_law_645 (nI 1) rfl 646 rfl ?_
  refine la_iaddN dL_law_646 647 rfl ?_
  refine la_sld (by omega) (by omega) dL_law_647 648 rfl ?_
  refine la_aload_n dL_law_648 3 rfl 649 rfl ?_
  refine la_iload_n dL_law_649 0 rfl 650 rfl ?_
  refine la_iconst dL_law_650 (nI 2) rfl 651 rfl ?_
  refine la_iaddN dL_law_651 652 rfl ?_
  refine la_sld (by omega) (by omega) dL_law_652 653 rfl ?_
  refine la_aload_n dL_law_653 3 rfl 654 rfl ?_
  refine la_iload_n dL_law_654 0 rfl 655 rfl ?_
  refine la_iconst dL_law_655 (nI 3) rfl 656 rfl ?_
  refine la_iaddN dL_law_656 657 rfl ?_
  refine la_sld (by omega) (by omega) dL_law_657 658 rfl ?_
  refine la_call (c_X4_on l h.n8 h.mo (xs (i + 1)) (xs (i + 2)) (xs (i + 3))) kal_X4_on rfl dL_law_658 qw_403 qw_404 qw_405 rfl (by decide) (cel_obj G _) (by decide) [] (Nat.le_of_ble_eq_true rfl) rfl rfl 661 rfl ?_
  refine la_aload_n dL_law_661 1 rfl 662 rfl ?_
  refine la_aload_n dL_law_662 3 rfl 663 rfl ?_
  refine la_iload_n dL_law_663 0 rfl 664 rfl ?_
  refine la_iconst dL_law_664 (nI 1) rfl 665 rfl ?_
  refine la_iaddN dL_law_665 666 rfl ?_
  refine la_sld (by omega) (by omega) dL_law_666 667 rfl ?_
  refine la_aload_n dL_law_667 3 rfl 668 rfl ?_
  refine la_iload_n dL_law_668 0 rfl 669 rfl ?_
  refine la_iconst dL_law_669 (nI 2) rfl 670 rfl ?_
  refine la_iaddN dL_law_670 671 rfl ?_
  refine la_sld (by omega) (by omega) dL_law_671 672 rfl ?_
  refine la_aload_n dL_law_672 3 rfl 673 rfl ?_
  refine la_iload_n dL_law_673 0 rfl 674 rfl ?_
  refine la_iconst dL_law_674 (nI 3) rfl 675 rfl ?_
  refine la_iaddN dL_law_675 676 rfl ?_
  refine la_sld (by omega) (by omega) dL_law_676 677 rfl ?_
  refine la_call (c_X5_on l (nE := (K.1 0).2.1) (t0 := (K.1 0).1) h.1.1.2.1.1 h.n8 h.1.1.1 h.mo (xs (i + 1)) (xs (i + 2)) (xs (i + 3))) kal_X5_on rfl dL_law_677 qw_911 qw_912 qw_913 rfl (by decide) (cel_mod G _) (by decide) [.int (cOn K (xs (i + 1)) (xs (i + 2)) (xs (i + 3))).1] (Nat.le_of_ble_eq_true rfl) rfl rfl 680 rfl ?_
  exact la_eq (r_on h (xs (i + 1)) (xs (i + 2)) (xs (i + 3))).1 dL_law_680 1385 (by decide) (kk _ _ (r_on h (xs (i + 1)) (xs (i + 2)) (xs (i + 3))).2)
set_option maxHeartbeats 1000000 in
set_option maxRecDepth 8000 in
theorem lc_15 (l : Launch) {Z : LZ} {b L i : Nat} {xs : Nat → Int32} {G : Gl} {K : CS} {M : MS} (h : Rel K M) (hi : i + 6 ≤ L) (hL : L ≤ 3072) (kk : ∀ (K : CS) (M : MS), Rel K M → Lw l Z b L xs G (K, M) 1385 (lsL G b i) []) : Lw l Z b L xs G (K, M) 685 (lsL G b i) [] := by
  refine la_aload_n dL_law_685 2 rfl 686 rfl ?_
  refine la_aload_n dL_law_686 3 rfl 687 rfl ?_
  refine la_iload_n dL_law_687 0 rfl 688 rfl ?_
  refine la_iconst dL_law_688 (nI 1) rfl 689 rfl ?_
  refine la_iaddN dL_law_689 690 rfl ?_
  refine la_sld (by omega) (by omega) dL_law_690 691 rfl ?_
  refine la_aload_n dL_law_691 3 rfl 692 rfl ?_
  refine la_iload_n dL_law_692 0 rfl 693 rfl ?_
  refine la_iconst dL_law_693 (nI 2) rfl 694 rfl ?_
  refine la_iaddN dL_law_694 695 rfl ?_
  refine la_sld (by omega) (by omega) dL_law_695 696 rfl ?_
  refine la_aload_n dL_law_696 3 rfl 697 rfl ?_
  refine la_iload_n dL_law_697 0 rfl 698 rfl ?_
  refine la_iconst dL_law_698 (nI 3) rfl 699 rfl ?_
  refine la_iaddN dL_law_699 700 rfl ?_
  refine la_sld (by omega) (by omega) dL_law_700 701 rfl ?_
  refine la_call (c_X4_then l h.n8 h.mo (xs (i + 1)) (xs (i + 2)) (xs (i + 3))) kal_X4_then rfl dL_law_701 qw_424 qw_425 qw_426 rfl (by decide) (cel_obj G _) (by decide) [] (Nat.le_of_ble_eq_true rfl) rfl rfl 704 rfl ?_
  refine la_aload_n dL_law_704 1 rfl 705 rfl ?_
  refine la_aload_n dL_law_705 3 rfl 706 rfl ?_
  refine la_iload_n dL_law_706 0 rfl 707 rfl ?_
  refine la_iconst dL_law_707 (nI 1) rfl 708 rfl ?_
  refine la_iaddN dL_law_708 709 rfl ?_
  refine la_sld (by omega) (by omega) dL_law_709 710 rfl ?_
  refine la_aload_n dL_law_710 3 rfl 711 rfl ?_
  refine la_iload_n dL_law_711 0 rfl 712 rfl ?_
  refine la_iconst dL_law_712 (nI 2) rfl 713 rfl ?_
  refine la_iaddN dL_law_713 714 rfl ?_
  refine la_sld (by omega) (by omega) dL_law_714 715 rfl ?_
  refine la_aload_n dL_law_715 3 rfl 716 rfl ?_
  refine la_iload_n dL_law_716 0 rfl 717 rfl ?_
  refine la_iconst dL_law_717 (nI 3) rfl 718 rfl ?_
  refine la_iaddN dL_law_718 719 rfl ?_
  refine la_sld (by omega) (by omega) dL_law_719 720 rfl ?_
  refine la_call (c_X5_then l (nE := (K.1 0).2.1) (t0 := (K.1 0).1) h.1.1.2.1.1 h.n8 h.1.1.1 h.mo (xs (i + 1)) (xs (i + 2)) (xs (i + 3))) kal_X5_then rfl dL_law_720 qw_935 qw_936 qw_937 rfl (by decide) (cel_mod G _) (by decide) [.int (cThen K (xs (i + 1)) (xs (i + 2)) (xs (i + 3))).1] (Nat.le_of_ble_eq_true rfl) rfl rfl 723 rfl ?_
  exact la_eq (r_then h (xs (i + 1)) (xs (i + 2)) (xs (i + 3))).1 dL_law_723 1385 (by decide) (kk _ _ (r_then h (xs (i + 1)) (xs (i + 2)) (xs (i + 3))).2)
set_option maxHeartbeats 1000000 in
set_option maxRecDepth 8000 in
theorem lc_16 (l : Launch) {Z : LZ} {b L i : Nat} {xs : Nat → Int32} {G : Gl} {K : CS} {M : MS} (h : Rel K M) (hi : i + 6 ≤ L) (hL : L ≤ 3072) (kk : ∀ (K : CS) (M : MS), Rel K M → Lw l Z b L xs G (K, M) 1385 (lsL G b i) []) : Lw l Z b L xs G (K, M) 728 (lsL G b i) [] := by
  refine la_aload_n dL_law_728 2 rfl 729 rfl ?_
  refine la_aload_n dL_law_729 3 rfl 730 rfl ?_
  refine la_iload_n dL_law_730 0 rfl 731 rfl ?_
  refine la_iconst dL_law_731 (nI 1) rfl 732 rfl ?_
  refine la_iaddN dL_law_732 733 rfl ?_
  refine la_sld (by omega) (by omega) dL_law_733 734 rfl ?_
  refine la_aload_n dL_law_734 3 rfl 735 rfl ?_
  refine la_iload_n dL_law_735 0 rfl 736 rfl ?_
  refine la_iconst dL_law_736 (nI 2) rfl 737 rfl ?_
  refine la_iaddN dL_law_737 738 rfl ?_
  refine la_sld (by omega) (by omega) dL_law_738 739 rfl ?_
  refine la_call (c_X4_enough l h.n8 h.mo (xs (i + 1)) (xs (i + 2))) kal_X4_enough rfl dL_law_739 qw_434 qw_435 qw_436 rfl (by decide) (cel_obj G _) (by decide) [] (Nat.le_of_ble_eq_true rfl) rfl rfl 742 rfl ?_
  refine la_aload_n dL_law_742 1 rfl 743 rfl ?_
  refine la_aload_n dL_law_743 3 rfl 744 rfl ?_
  refine la_iload_n dL_law_744 0 rfl 745 rfl ?_
  refine la_iconst dL_law_745 (nI 1) rfl 746 rfl ?_
  refine la_iaddN dL_law_746 747 rfl ?_
  refine la_sld (by omega) (by omega) dL_law_747 748 rfl ?_
  refine la_aload_n dL_law_748 3 rfl 749 rfl ?_
  refine la_iload_n dL_law_749 0 rfl 750 rfl ?_
  refine la_iconst dL_law_750 (nI 2) rfl 751 rfl ?_
  refine la_iaddN dL_law_751 752 rfl ?_
  refine la_sld (by omega) (by omega) dL_law_752 753 rfl ?_
  refine la_call (c_X5_enough l (nE := (K.1 0).2.1) (t0 := (K.1 0).1) h.1.1.2.1.1 h.n8 h.1.1.1 h.mo (xs (i + 1)) (xs (i + 2))) kal_X5_enough rfl dL_law_753 qw_939 qw_940 qw_941 rfl (by decide) (cel_mod G _) (by decide) [.int (cEnough K (xs (i + 1)) (xs (i + 2))).1] (Nat.le_of_ble_eq_true rfl) rfl rfl 756 rfl ?_
  exact la_eq (r_enough h (xs (i + 1)) (xs (i + 2))).1 dL_law_756 1385 (by decide) (kk _ _ (r_enough h (xs (i + 1)) (xs (i + 2))).2)
set_option maxHeartbeats 1000000 in
set_option maxRecDepth 8000 in
theorem lc_17 (l : Launch) {Z : LZ} {b L i : Nat} {xs : Nat → Int32} {G : Gl} {K : CS} {M : MS} (h : Rel K M) (hi : i + 6 ≤ L) (hL : L ≤ 3072) (kk : ∀ (K : CS) (M : MS), Rel K M → Lw l Z b L xs G (K, M) 1385 (lsL G b i) []) : Lw l Z b L xs G (K, M) 761 (lsL G b i) [] := by
  refine la_aload_n dL_law_761 2 rfl 762 rfl ?_
  refine la_aload_n dL_law_762 3 rfl 763 rfl ?_
  refine la_iload_n dL_law_763 0 rfl 764 rfl ?_
  refine la_iconst dL_law_764 (nI 1) rfl 765 rfl ?_
  refine la_iaddN dL_law_765 766 rfl ?_
  refine la_sld (by omega) (by omega) dL_law_766 767 rfl ?_
  refine la_call (c_X4_calm l h.n8 (xs (i + 1))) kal_X4_calm rfl dL_law_767 qw_439 qw_440 qw_441 rfl (by decide) (cel_obj G _) (by decide) [] (Nat.le_of_ble_eq_true rfl) rfl rfl 770 rfl ?_
  refine la_aload_n dL_law_770 1 rfl 771 rfl ?_
  refine la_aload_n dL_law_771 3 rfl 772 rfl ?_
  refine la_iload_n dL_law_772 0 rfl 773 rfl ?_
  refine la_iconst dL_law_773 (nI 1) rfl 774 rfl ?_
  refine la_iaddN dL_law_774 775 rfl ?_
  refine la_sld (by omega) (by omega) dL_law_775 776 rfl ?_
  refine la_call (c_X5_calm l (nE := (K.1 0).2.1) (t0 := (K.1 0).1) h.1.1.2.1.1 h.n8 h.1.1.1 h.mo (xs (i + 1))) kal_X5_calm rfl dL_law_776 qw_949 qw_950 qw_951 rfl (by decide) (cel_mod G _) (by decide) [.int (cCalm K (xs (i + 1))).1] (Nat.le_of_ble_eq_true rfl) rfl rfl 779 rfl ?_
  exact la_eq (r_calm h (xs (i + 1))).1 dL_law_779 1385 (by decide) (kk _ _ (r_calm h (xs (i + 1))).2)
set_option maxHeartbeats 1000000 in
set_option maxRecDepth 8000 in
theorem lc_18 (l : Launch) {Z : LZ} {b L i : Nat} {xs : Nat → Int32} {G : Gl} {K : CS} {M : MS} (h : Rel K M) (hi : i + 6 ≤ L) (hL : L ≤ 3072) (kk : ∀ (K : CS) (M : MS), Rel K M → Lw l Z b L xs G (K, M) 1385 (lsL G b i) []) : Lw l Z b L xs G (K, M) 784 (lsL G b i) [] := by
  refine la_aload_n dL_law_784 2 rfl 785 rfl ?_
  refine la_aload_n dL_law_785 3 rfl 786 rfl ?_
  refine la_iload_n dL_law_786 0 rfl 787 rfl ?_
  refine la_iconst dL_law_787 (nI 1) rfl 788 rfl ?_
  refine la_iaddN dL_law_788 789 rfl ?_
  refine la_sld (by omega) (by omega) dL_law_789 790 rfl ?_
  refine la_aload_n dL_law_790 3 rfl 791 rfl ?_
  refine la_iload_n dL_law_791 0 rfl 792 rfl ?_
  refine la_iconst dL_law_792 (nI 2) rfl 793 rfl ?_
  refine la_iaddN dL_law_793 794 rfl ?_
  refine la_sld (by omega) (by omega) dL_law_794 795 rfl ?_
  refine la_call (c_X4_kind l h.n8 h.mo (xs (i + 1)) (xs (i + 2))) kal_X4_kind rfl dL_law_795 qw_443 qw_444 qw_445 rfl (by decide) (cel_obj G _) (by decide) [] (Nat.le_of_ble_eq_true rfl) rfl rfl 798 rfl ?_
  refine la_aload_n dL_law_798 1 rfl 799 rfl ?_
  refine la_aload_n dL_law_799 3 rfl 800 rfl ?_
  refine la_iload_n dL_law_800 0 rfl 801 rfl ?_
  refine la_iconst dL_law_801 (nI 1) rfl 802 rfl ?_
  refine la_iaddN dL_law_802 803 rfl ?_
  refine la_sld (by omega) (by omega) dL_law_803 804 rfl ?_
  refine la_aload_n dL_law_804 3 rfl 805 rfl ?_
  refine la_iload_n dL_law_805 0 rfl 806 rfl ?_
  refine la_iconst dL_law_806 (nI 2) rfl 807 rfl ?_
  refine la_iaddN dL_law_807 808 rfl ?_
  refine la_sld (by omega) (by omega) dL_law_808 809 rfl ?_
  refine la_call (c_X5_kind l (nE := (K.1 0).2.1) (t0 := (K.1 0).1) h.1.1.2.1.1 h.n8 h.1.1.1 h.mo (xs (i + 1)) (xs (i + 2))) kal_X5_kind rfl dL_law_809 qw_953 qw_954 qw_955 rfl (by decide) (cel_mod G _) (by decide) [.int (cKind K (xs (i + 1)) (xs (i + 2))).1] (Nat.le_of_ble_eq_true rfl) rfl rfl 812 rfl ?_
  exact la_eq (r_kind h (xs (i + 1)) (xs (i + 2))).1 dL_law_812 1385 (by decide) (kk _ _ (r_kind h (xs (i + 1)) (xs (i + 2))).2)
set_option maxHeartbeats 1000000 in
set_option maxRecDepth 8000 in
theorem lc_19 (l : Launch) {Z : LZ} {b L i : Nat} {xs : Nat → Int32} {G : Gl} {K : CS} {M : MS} (h : Rel K M) (hi : i + 6 ≤ L) (hL : L ≤ 3072) (kk : ∀ (K : CS) (M : MS), Rel K M → Lw l Z b L xs G (K, M) 1385 (lsL G b i) []) : Lw l Z b L xs G (K, M) 817 (lsL G b i) [] := by
  refine la_aload_n dL_law_817 2 rfl 818 rfl ?_
  refine la_aload_n dL_law_818 3 rfl 819 rfl ?_
  refine la_iload_n dL_law_819 0 rfl 820 rfl ?_
  refine la_iconst dL_law_820 (nI 1) rfl 821 rfl ?_
  refine la_iaddN dL_law_821 822 rfl ?_
  refine la_sld (by omega) (by omega) dL_law_822 823 rfl ?_
  refine la_aload_n dL_law_823 3 rfl 824 rfl ?_
  refine la_iload_n dL_law_824 0 rfl 825 rfl ?_
  refine la_iconst dL_law_825 (nI 2) rfl 826 rfl ?_
  refine la_iaddN dL_law_826 827 rfl ?_
  refine la_sld (by omega) (by omega) dL_law_827 828 rfl ?_
  refine la_aload_n dL_law_828 3 rfl 829 rfl ?_
  refine la_iload_n dL_law_829 0 rfl 830 rfl ?_
  refine la_iconst dL_law_830 (nI 3) rfl 831 rfl ?_
  refine la_iaddN dL_law_831 832 rfl ?_
  refine la_sld (by omega) (by omega) dL_law_832 833 rfl ?_
  refine la_call (c_X4_cold l h.n8 h.mo (xs (i + 1)) (xs (i + 2)) (xs (i + 3))) kal_X4_cold rfl dL_law_833 qw_447 qw_448 qw_449 rfl (by decide) (cel_obj G _) (by decide) [] (Nat.le_of_ble_eq_true rfl) rfl rfl 836 rfl ?_
  refine la_aload_n dL_law_836 1 rfl 837 rfl ?_
  refine la_aload_n dL_law_837 3 rfl 838 rfl ?_
  refine la_iload_n dL_law_838 0 rfl 839 rfl ?_
  refine la_iconst dL_law_839 (nI 1) rfl 840 rfl ?_
  refine la_iaddN dL_law_840 841 rfl ?_
  refine la_sld (by omega) (by omega) dL_law_841 842 rfl ?_
  refine la_aload_n dL_law_842 3 rfl 843 rfl ?_
  refine la_iload_n dL_law_843 0 rfl 844 rfl ?_
  refine la_iconst dL_law_844 (nI 2) rfl 845 rfl ?_
  refine la_iaddN dL_law_845 846 rfl ?_
  refine la_sld (by omega) (by omega) dL_law_846 847 rfl ?_
  refine la_aload_n dL_law_847 3 rfl 848 rfl ?_
  refine la_iload_n dL_law_848 0 rfl 849 rfl ?_
  refine la_iconst dL_law_849 (nI 3) rfl 850 rfl ?_
  refine la_iaddN dL_law_850 851 rfl ?_
  refine la_sld (by omega) (by omega) dL_law_851 852 rfl ?_
  refine la_call (c_X5_cold l (nE := (K.1 0).2.1) (t0 := (K.1 0).1) h.1.1.2.1.1 h.n8 h.1.1.1 h.mo (xs (i + 1)) (xs (i + 2)) (xs (i + 3))) kal_X5_cold rfl dL_law_852 qw_960 qw_961 qw_962 rfl (by decide) (cel_mod G _) (by decide) [.int (cCold K (xs (i + 1)) (xs (i + 2)) (xs (i + 3))).1] (Nat.le_of_ble_eq_true rfl) rfl rfl 855 rfl ?_
  exact la_eq (r_cold h (xs (i + 1)) (xs (i + 2)) (xs (i + 3))).1 dL_law_855 1385 (by decide) (kk _ _ (r_cold h (xs (i + 1)) (xs (i + 2)) (xs (i + 3))).2)
set_option maxHeartbeats 1000000 in
set_option maxRecDepth 8000 in
theorem lc_20 (l : Launch) {Z : LZ} {b L i : Nat} {xs : Nat → Int32} {G : Gl} {K : CS} {M : MS} (h : Rel K M) (hi : i + 6 ≤ L) (hL : L ≤ 3072) (kk : ∀ (K : CS) (M : MS), Rel K M → Lw l Z b L xs G (K, M) 1385 (lsL G b i) []) : Lw l Z b L xs G (K, M) 860 (lsL G b i) [] := by
  refine la_aload_n dL_law_860 2 rfl 861 rfl ?_
  refine la_aload_n dL_law_861 3 rfl 862 rfl ?_
  refine la_iload_n dL_law_862 0 rfl 863 rfl ?_
  refine la_iconst dL_law_863 (nI 1) rfl 864 rfl ?_
  refine la_iaddN dL_law_864 865 rfl ?_
  refine la_sld (by omega) (by omega) dL_law_865 866 rfl ?_
  refine la_aload_n dL_law_866 3 rfl 867 rfl ?_
  refine la_iload_n dL_law_867 0 rfl 868 rfl ?_
  refine la_iconst dL_law_868 (nI 2) rfl 869 rfl ?_
  refine la_iaddN dL_law_869 870 rfl ?_
  refine la_sld (by omega) (by omega) dL_law_870 871 rfl ?_
  refine la_call (c_X4_best l (xs (i + 1)) (xs (i + 2))) kal_X4_best rfl dL_law_871 qw_451 qw_452 qw_453 rfl (by decide) (cel_obj G _) (by decide) [] (Nat.le_of_ble_eq_true rfl) rfl rfl 874 rfl ?_
  refine la_aload_n dL_law_874 1 rfl 875 rfl ?_
  refine la_aload_n dL_law_875 3 rfl 876 rfl ?_
  refine la_iload_n dL_law_876 0 rfl 877 rfl ?_
  refine la_iconst dL_law_877 (nI 1) rfl 878 rfl ?_
  refine la_iaddN dL_law_878 879 rfl ?_
  refine la_sld (by omega) (by omega) dL_law_879 880 rfl ?_
  refine la_aload_n dL_law_880 3 rfl 881 rfl ?_
  refine la_iload_n dL_law_881 0 rfl 882 rfl ?_
  refine la_iconst dL_law_882 (nI 2) rfl 883 rfl ?_
  refine la_iaddN dL_law_883 884 rfl ?_
  refine la_sld (by omega) (by omega) dL_law_884 885 rfl ?_
  refine la_call (c_X5_best l (xs (i + 1)) (xs (i + 2))) kal_X5_best rfl dL_law_885 qw_964 qw_965 qw_966 rfl (by decide) (cel_mod G _) (by decide) [.int (cBest K (xs (i + 1)) (xs (i + 2))).1] (Nat.le_of_ble_eq_true rfl) rfl rfl 888 rfl ?_
  exact la_eq (r_best h (xs (i + 1)) (xs (i + 2))).1 dL_law_888 1385 (by decide) (kk _ _ (r_best h (xs (i + 1)) (xs (i + 2))).2)
set_option maxHeartbeats 1000000 in
set_option maxRecDepth 8000 in
theorem lc_21 (l : Launch) {Z : LZ} {b L i : Nat} {xs : Nat → Int32} {G : Gl} {K : CS} {M : MS} (h : Rel K M) (hi : i + 6 ≤ L) (hL : L ≤ 3072) (kk : ∀ (K : CS) (M : MS), Rel K M → Lw l Z b L xs G (K, M) 1385 (lsL G b i) []) : Lw l Z b L xs G (K, M) 893 (lsL G b i) [] := by
  refine la_aload_n dL_law_893 2 rfl 894 rfl ?_
  refine la_aload_n dL_law_894 3 rfl 895 rfl ?_
  refine la_iload_n dL_law_895 0 rfl 896 rfl ?_
  refine la_iconst dL_law_896 (nI 1) rfl 897 rfl ?_
  refine la_iaddN dL_law_897 898 rfl ?_
  refine la_sld (by omega) (by omega) dL_law_898 899 rfl ?_
  refine la_aload_n dL_law_899 3 rfl 900 rfl ?_
  refine la_iload_n dL_law_900 0 rfl 901 rfl ?_
  refine la_iconst dL_law_901 (nI 2) rfl 902 rfl ?_
  refine la_iaddN dL_law_902 903 rfl ?_
  refine la_sld (by omega) (by omega) dL_law_903 904 rfl ?_
  refine la_aload_n dL_law_904 3 rfl 905 rfl ?_
  refine la_iload_n dL_law_905 0 rfl 906 rfl ?_
  refine la_iconst dL_law_906 (nI 3) rfl 907 rfl ?_
  refine la_iaddN dL_law_907 908 rfl ?_
  refine la_sld (by omega) (by omega) dL_law_908 909 rfl ?_
  refine la_call (c_X4_bears l h.n8 h.mo (xs (i + 1)) (xs (i + 2)) (xs (i + 3))) kal_X4_bears rfl dL_law_909 qw_456 qw_457 qw_458 rfl (by decide) (cel_obj G _) (by decide) [] (Nat.le_of_ble_eq_true rfl) rfl rfl 912 rfl ?_
  refine la_aload_n dL_law_912 1 rfl 913 rfl ?_
  refine la_aload_n dL_law_913 3 rfl 914 rfl ?_
  refine la_iload_n dL_law_914 0 rfl 915 rfl ?_
  refine la_iconst dL_law_915 (nI 1) rfl 916 rfl ?_
  refine la_iaddN dL_law_916 917 rfl ?_
  refine la_sld (by omega) (by omega) dL_law_917 918 rfl ?_
  refine la_aload_n dL_law_918 3 rfl 919 rfl ?_
  refine la_iload_n dL_law_919 0 rfl 920 rfl ?_
  refine la_iconst dL_law_920 (nI 2) rfl 921 rfl ?_
  refine la_iaddN dL_law_921 922 rfl ?_
  refine la_sld (by omega) (by omega) dL_law_922 923 rfl ?_
  refine la_aload_n dL_law_923 3 rfl 924 rfl ?_
  refine la_iload_n dL_law_924 0 rfl 925 rfl ?_
  refine la_iconst dL_law_925 (nI 3) rfl 926 rfl ?_
  refine la_iaddN dL_law_926 927 rfl ?_
  refine la_sld (by omega) (by omega) dL_law_927 928 rfl ?_
  refine la_call (c_X5_bears l (nE := (K.1 0).2.1) (t0 := (K.1 0).1) h.1.1.2.1.1 h.n8 h.1.1.1 h.mo (xs (i + 1)) (xs (i + 2)) (xs (i + 3))) kal_X5_bears rfl dL_law_928 qw_968 qw_969 qw_970 rfl (by decide) (cel_mod G _) (by decide) [.int (cBears K (xs (i + 1)) (xs (i + 2)) (xs (i + 3))).1] (Nat.le_of_ble_eq_true rfl) rfl rfl 931 rfl ?_
  exact la_eq (r_bears h (xs (i + 1)) (xs (i + 2)) (xs (i + 3))).1 dL_law_931 1385 (by decide) (kk _ _ (r_bears h (xs (i + 1)) (xs (i + 2)) (xs (i + 3))).2)
set_option maxHeartbeats 1000000 in
set_option maxRecDepth 8000 in
theorem lc_22 (l : Launch) {Z : LZ} {b L i : Nat} {xs : Nat → Int32} {G : Gl} {K : CS} {M : MS} (h : Rel K M) (hi : i + 6 ≤ L) (hL : L ≤ 3072) (kk : ∀ (K : CS) (M : MS), Rel K M → Lw l Z b L xs G (K, M) 1385 (lsL G b i) []) : Lw l Z b L xs G (K, M) 936 (lsL G b i) [] := by
  refine la_aload_n dL_law_936 2 rfl 937 rfl ?_
  refine la_aload_n dL_law_937 3 rfl 938 rfl ?_
  refine la_iload_n dL_law_938 0 rfl 939 rfl ?_
  refine la_iconst dL_law_939 (nI 1) rfl 940 rfl ?_
  refine la_iaddN dL_law_940 941 rfl ?_
  refine la_sld (by omega) (by omega) dL_law_941 942 rfl ?_
  refine la_call (c_X4_milder l h.n8 h.mo (xs (i + 1))) kal_X4_milder rfl dL_law_942 qw_460 qw_461 qw_462 rfl (by decide) (cel_obj G _) (by decide) [] (Nat.le_of_ble_eq_true rfl) rfl rfl 945 rfl ?_
  refine la_aload_n dL_law_945 1 rfl 946 rfl ?_
  refine la_aload_n dL_law_946 3 rfl 947 rfl ?_
  refine la_iload_n dL_law_947 0 rfl 948 rfl ?_
  refine la_iconst dL_law_948 (nI 1) rfl 949 rfl ?_
  refine la_iaddN dL_law_949 950 rfl ?_
  refine la_sld (by omega) (by omega) dL_law_950 951 rfl ?_
  refine la_call (c_X5_milder l (nE := (K.1 0).2.1) (t0 := (K.1 0).1) h.1.1.2.1.1 h.n8 h.1.1.1 h.mo (xs (i + 1))) kal_X5_milder rfl dL_law_951 qw_973 qw_974 qw_975 rfl (by decide) (cel_mod G _) (by decide) [.int (cMilder K (xs (i + 1))).1] (Nat.le_of_ble_eq_true rfl) rfl rfl 954 rfl ?_
  exact la_eq (r_milder h (xs (i + 1))).1 dL_law_954 1385 (by decide) (kk _ _ (r_milder h (xs (i + 1))).2)
set_option maxHeartbeats 1000000 in
set_option maxRecDepth 8000 in
theorem lc_23 (l : Launch) {Z : LZ} {b L i : Nat} {xs : Nat → Int32} {G : Gl} {K : CS} {M : MS} (h : Rel K M) (hi : i + 6 ≤ L) (hL : L ≤ 3072) (kk : ∀ (K : CS) (M : MS), Rel K M → Lw l Z b L xs G (K, M) 1385 (lsL G b i) []) : Lw l Z b L xs G (K, M) 959 (lsL G b i) [] := by
  refine la_aload_n dL_law_959 2 rfl 960 rfl ?_
  refine la_call (c_X4_warmest l ) kal_X4_warmest rfl dL_law_960 qw_465 qw_466 qw_467 rfl (by decide) (cel_obj G _) (by decide) [] (Nat.le_of_ble_eq_true rfl) rfl rfl 963 rfl ?_
  refine la_aload_n dL_law_963 1 rfl 964 rfl ?_
  refine la_call (c_X5_warmest l ) kal_X5_warmest rfl dL_law_964 qw_978 qw_979 qw_980 rfl (by decide) (cel_mod G _) (by decide) [.int (cWarmest K).1] (Nat.le_of_ble_eq_true rfl) rfl rfl 967 rfl ?_
  exact la_eq (r_warmest h ).1 dL_law_967 1385 (by decide) (kk _ _ (r_warmest h ).2)
set_option maxHeartbeats 1000000 in
set_option maxRecDepth 8000 in
theorem lc_24 (l : Launch) {Z : LZ} {b L i : Nat} {xs : Nat → Int32} {G : Gl} {K : CS} {M : MS} (h : Rel K M) (hi : i + 6 ≤ L) (hL : L ≤ 3072) (kk : ∀ (K : CS) (M : MS), Rel K M → Lw l Z b L xs G (K, M) 1385 (lsL G b i) []) : Lw l Z b L xs G (K, M) 972 (lsL G b i) [] := by
  refine la_aload_n dL_law_972 2 rfl 973 rfl ?_
  refine la_aload_n dL_law_973 3 rfl 974 rfl ?_
  refine la_iload_n dL_law_974 0 rfl 975 rfl ?_
  refine la_iconst dL_law_975 (nI 1) rfl 976 rfl ?_
  refine la_iaddN dL_law_976 977 rfl ?_
  refine la_sld (by omega) (by omega) dL_law_977 978 rfl ?_
  refine la_aload_n dL_law_978 3 rfl 979 rfl ?_
  refine la_iload_n dL_law_979 0 rfl 980 rfl ?_
  refine la_iconst dL_law_980 (nI 2) rfl 981 rfl ?_
  refine la_iaddN dL_law_981 982 rfl ?_
  refine la_sld (by omega) (by omega) dL_law_982 983 rfl ?_
  refine la_call (c_X4_feed l h.tz (xs (i + 1)) (xs (i + 2))) kal_X4_feed rfl dL_law_983 qw_469 qw_470 qw_471 rfl (by decide) (cel_obj G _) (by decide) [] (Nat.le_of_ble_eq_true rfl) rfl rfl 986 rfl ?_
  refine la_aload_n dL_law_986 1 rfl 987 rfl ?_
  refine la_aload_n dL_law_987 3 rfl 988 rfl ?_
  refine la_iload_n dL_law_988 0 rfl 989 rfl ?_
  refine la_iconst dL_law_989 (nI 1) rfl 990 rfl ?_
  refine la_iaddN dL_law_990 991 rfl ?_
  refine la_sld (by omega) (by omega) dL_law_991 992 rfl ?_
  refine la_aload_n dL_law_992 3 rfl 993 rfl ?_
  refine la_iload_n dL_law_993 0 rfl 994 rfl ?_
  refine la_iconst dL_law_994 (nI 2) rfl 995 rfl ?_
  refine la_iaddN dL_law_995 996 rfl ?_
  refine la_sld (by omega) (by omega) dL_law_996 997 rfl ?_
  refine la_call (c_X5_feed l h.2.2.1.2.1 (xs (i + 1)) (xs (i + 2))) kal_X5_feed rfl dL_law_997 qw_982 qw_983 qw_984 rfl (by decide) (cel_mod G _) (by decide) [.int (cFeed K (xs (i + 1)) (xs (i + 2))).1] (Nat.le_of_ble_eq_true rfl) rfl rfl 1000 rfl ?_
  exact la_eq (r_feed h (xs (i + 1)) (xs (i + 2))).1 dL_law_1000 1385 (by decide) (kk _ _ (r_feed h (xs (i + 1)) (xs (i + 2))).2)
set_option maxHeartbeats 1000000 in
set_option maxRecDepth 8000 in
theorem lc_25 (l : Launch) {Z : LZ} {b L i : Nat} {xs : Nat → Int32} {G : Gl} {K : CS} {M : MS} (h : Rel K M) (hi : i + 6 ≤ L) (hL : L ≤ 3072) (kk : ∀ (K : CS) (M : MS), Rel K M → Lw l Z b L xs G (K, M) 1385 (lsL G b i) []) : Lw l Z b L xs G (K, M) 1005 (lsL G b i) [] := by
  refine la_aload_n dL_law_1005 2 rfl 1006 rfl ?_
  refine la_call (c_X4_wipe l ) kal_X4_wipe rfl dL_law_1006 qw_477 qw_478 qw_479 rfl (by decide) (cel_obj G _) (by decide) [] (Nat.le_of_ble_eq_true rfl) rfl rfl 1009 rfl ?_
  refine la_aload_n dL_law_1009 1 rfl 1010 rfl ?_
  refine la_call (c_X5_wipe l ) kal_X5_wipe rfl dL_law_1010 qw_987 qw_988 qw_989 rfl (by decide) (cel_mod G _) (by decide) [.int (cWipe K).1] (Nat.le_of_ble_eq_true rfl) rfl rfl 1013 rfl ?_
  exact la_eq (r_wipe h ).1 dL_law_1013 1385 (by decide) (kk _ _ (r_wipe h ).2)
set_option maxHeartbeats 1000000 in
set_option maxRecDepth 8000 in
theorem lc_26 (l : Launch) {Z : LZ} {b L i : Nat} {xs : Nat → Int32} {G : Gl} {K : CS} {M : MS} (h : Rel K M) (hi : i + 6 ≤ L) (hL : L ≤ 3072) (kk : ∀ (K : CS) (M : MS), Rel K M → Lw l Z b L xs G (K, M) 1385 (lsL G b i) []) : Lw l Z b L xs G (K, M) 1018 (lsL G b i) [] := by
  refine la_aload_n dL_law_1018 2 rfl 1019 rfl ?_
  refine la_call (c_X4_parish l h.n8 h.tz ) kal_X4_parish rfl dL_law_1019 qw_481 qw_482 qw_483 rfl (by decide) (cel_obj G _) (by decide) [] (Nat.le_of_ble_eq_true rfl) rfl rfl 1022 rfl ?_
  refine la_aload_n dL_law_1022 1 rfl 1023 rfl ?_
  refine la_call (c_X5_parish l h.2.2.1.2.1 h.sz ) kal_X5_parish rfl dL_law_1023 qw_991 qw_992 qw_993 rfl (by decide) (cel_mod G _) (by decide) [.int (cParish K).1] (Nat.le_of_ble_eq_true rfl) rfl rfl 1026 rfl ?_
  exact la_eq (r_parish h ).1 dL_law_1026 1385 (by decide) (kk _ _ (r_parish h ).2)
set_option maxHeartbeats 1000000 in
set_option maxRecDepth 8000 in
theorem lc_27 (l : Launch) {Z : LZ} {b L i : Nat} {xs : Nat → Int32} {G : Gl} {K : CS} {M : MS} (h : Rel K M) (hi : i + 6 ≤ L) (hL : L ≤ 3072) (kk : ∀ (K : CS) (M : MS), Rel K M → Lw l Z b L xs G (K, M) 1385 (lsL G b i) []) : Lw l Z b L xs G (K, M) 1031 (lsL G b i) [] := by
  refine la_aload_n dL_law_1031 2 rfl 1032 rfl ?_
  refine la_aload_n dL_law_1032 3 rfl 1033 rfl ?_
  refine la_iload_n dL_law_1033 0 rfl 1034 rfl ?_
  refine la_iconst dL_law_1034 (nI 1) rfl 1035 rfl ?_
  refine la_iaddN dL_law_1035 1036 rfl ?_
  refine la_sld (by omega) (by omega) dL_law_1036 1037 rfl ?_
  refine la_aload_n dL_law_1037 3 rfl 1038 rfl ?_
  refine la_iload_n dL_law_1038 0 rfl 1039 rfl ?_
  refine la_iconst dL_law_1039 (nI 2) rfl 1040 rfl ?_
  refine la_iaddN dL_law_1040 1041 rfl ?_
  refine la_sld (by omega) (by omega) dL_law_1041 1042 rfl ?_
  refine la_aload_n dL_law_1042 3 rfl 1043 rfl ?_
  refine la_iload_n dL_law_1043 0 rfl 1044 rfl ?_
  refine la_iconst dL_law_1044 (nI 3) rfl 1045 rfl ?_
  refine la_iaddN dL_law_1045 1046 rfl ?_
  refine la_sld (by omega) (by omega) dL_law_1046 1047 rfl ?_
  refine la_call (c_X4_sheet l (xs (i + 1)) (xs (i + 2)) (xs (i + 3))) kal_X4_sheet rfl dL_law_1047 qw_598 qw_599 qw_600 rfl (by decide) (cel_obj G _) (by decide) [] (Nat.le_of_ble_eq_true rfl) rfl rfl 1050 rfl ?_
  refine la_aload_n dL_law_1050 1 rfl 1051 rfl ?_
  refine la_aload_n dL_law_1051 3 rfl 1052 rfl ?_
  refine la_iload_n dL_law_1052 0 rfl 1053 rfl ?_
  refine la_iconst dL_law_1053 (nI 1) rfl 1054 rfl ?_
  refine la_iaddN dL_law_1054 1055 rfl ?_
  refine la_sld (by omega) (by omega) dL_law_1055 1056 rfl ?_
  refine la_aload_n dL_law_1056 3 rfl 1057 rfl ?_
  refine la_iload_n dL_law_1057 0 rfl 1058 rfl ?_
  refine la_iconst dL_law_1058 (nI 2) rfl 1059 rfl ?_
  refine la_iaddN dL_law_1059 1060 rfl ?_
  refine la_sld (by omega) (by omega) dL_law_1060 1061 rfl ?_
  refine la_aload_n dL_law_1061 3 rfl 1062 rfl ?_
  refine la_iload_n dL_law_1062 0 rfl 1063 rfl ?_
  refine la_iconst dL_law_1063 (nI 3) rfl 1064 rfl ?_
  refine la_iaddN dL_law_1064 1065 rfl ?_
  refine la_sld (by omega) (by omega) dL_law_1065 1066 rfl ?_
  refine la_call (c_X5_sheet l (xs (i + 1)) (xs (i + 2)) (xs (i + 3))) kal_X5_sheet rfl dL_law_1066 qw_1070 qw_1071 qw_1072 rfl (by decide) (cel_mod G _) (by decide) [.int (cSheet K (xs (i + 1)) (xs (i + 2)) (xs (i + 3))).1] (Nat.le_of_ble_eq_true rfl) rfl rfl 1069 rfl ?_
  exact la_eq (r_sheet h (xs (i + 1)) (xs (i + 2)) (xs (i + 3))).1 dL_law_1069 1385 (by decide) (kk _ _ (r_sheet h (xs (i + 1)) (xs (i + 2)) (xs (i + 3))).2)
set_option maxHeartbeats 1000000 in
set_option maxRecDepth 8000 in
theorem lc_28 (l : Launch) {Z : LZ} {b L i : Nat} {xs : Nat → Int32} {G : Gl} {K : CS} {M : MS} (h : Rel K M) (hi : i + 6 ≤ L) (hL : L ≤ 3072) (kk : ∀ (K : CS) (M : MS), Rel K M → Lw l Z b L xs G (K, M) 1385 (lsL G b i) []) : Lw l Z b L xs G (K, M) 1074 (lsL G b i) [] := by
  refine la_aload_n dL_law_1074 2 rfl 1075 rfl ?_
  refine la_aload_n dL_law_1075 3 rfl 1076 rfl ?_
  refine la_iload_n dL_law_1076 0 rfl 1077 rfl ?_
  refine la_iconst dL_law_1077 (nI 1) rfl 1078 rfl ?_
  refine la_iaddN dL_law_1078 1079 rfl ?_
  refine la_sld (by omega) (by omega) dL_law_1079 1080 rfl ?_
  refine la_aload_n dL_law_1080 3 rfl 1081 rfl ?_
  refine la_iload_n dL_law_1081 0 rfl 1082 rfl ?_
  refine la_iconst dL_law_1082 (nI 2) rfl 1083 rfl ?_
  refine la_iaddN dL_law_1083 1084 rfl ?_
  refine la_sld (by omega) (by omega) dL_law_1084 1085 rfl ?_
  refine la_aload_n dL_law_1085 3 rfl 1086 rfl ?_
  refine la_iload_n dL_law_1086 0 rfl 1087 rfl ?_
  refine la_iconst dL_law_1087 (nI 3) rfl 1088 rfl ?_
  refine la_iaddN dL_law_1088 1089 rfl ?_
  refine la_sld (by omega) (by omega) dL_law_1089 1090 rfl ?_
  refine la_i2l dL_law_1090 1091 rfl ?_
  refine la_bipush dL_law_1091 32 rfl 1093 rfl ?_
  refine la_lshl dL_law_1093 1094 rfl ?_
  refine la_aload_n dL_law_1094 3 rfl 1095 rfl ?_
  refine la_iload_n dL_law_1095 0 rfl 1096 rfl ?_
  refine la_iconst dL_law_1096 (nI 4) rfl 1097 rfl ?_
  refine la_iaddN dL_law_1097 1098 rfl ?_
  refine la_sld (by omega) (by omega) dL_law_1098 1099 rfl ?_
  refine la_i2l dL_law_1099 1100 rfl ?_
  refine la_ldc2 dL_law_1100 (4294967295) qw_1140 1103 rfl ?_
  refine la_land dL_law_1103 1104 rfl ?_
  refine la_lor dL_law_1104 1105 rfl ?_
  refine la_call (c_X4_write l h.z1 (xs (i + 1)) (xs (i + 2)) ((((xs (i + 3)).toInt64 <<< ((32 : Int32).toInt64 &&& 63)) ||| ((xs (i + 4)).toInt64 &&& (4294967295))))) kal_X4_write rfl dL_law_1105 qw_612 qw_613 qw_614 rfl (by decide) (cel_obj G _) (by decide) [] (Nat.le_of_ble_eq_true rfl) rfl rfl 1108 rfl ?_
  refine la_aload_n dL_law_1108 1 rfl 1109 rfl ?_
  refine la_aload_n dL_law_1109 3 rfl 1110 rfl ?_
  refine la_iload_n dL_law_1110 0 rfl 1111 rfl ?_
  refine la_iconst dL_law_1111 (nI 1) rfl 1112 rfl ?_
  refine la_iaddN dL_law_1112 1113 rfl ?_
  refine la_sld (by omega) (by omega) dL_law_1113 1114 rfl ?_
  refine la_aload_n dL_law_1114 3 rfl 1115 rfl ?_
  refine la_iload_n dL_law_1115 0 rfl 1116 rfl ?_
  refine la_iconst dL_law_1116 (nI 2) rfl 1117 rfl ?_
  refine la_iaddN dL_law_1117 1118 rfl ?_
  refine la_sld (by omega) (by omega) dL_law_1118 1119 rfl ?_
  refine la_aload_n dL_law_1119 3 rfl 1120 rfl ?_
  refine la_iload_n dL_law_1120 0 rfl 1121 rfl ?_
  refine la_iconst dL_law_1121 (nI 3) rfl 1122 rfl ?_
  refine la_iaddN dL_law_1122 1123 rfl ?_
  refine la_sld (by omega) (by omega) dL_law_1123 1124 rfl ?_
  refine la_i2l dL_law_1124 1125 rfl ?_
  refine la_bipush dL_law_1125 32 rfl 1127 rfl ?_
  refine la_lshl dL_law_1127 1128 rfl ?_
  refine la_aload_n dL_law_1128 3 rfl 1129 rfl ?_
  refine la_iload_n dL_law_1129 0 rfl 1130 rfl ?_
  refine la_iconst dL_law_1130 (nI 4) rfl 1131 rfl ?_
  refine la_iaddN dL_law_1131 1132 rfl ?_
  refine la_sld (by omega) (by omega) dL_law_1132 1133 rfl ?_
  refine la_i2l dL_law_1133 1134 rfl ?_
  refine la_ldc2 dL_law_1134 (4294967295) qw_1140 1137 rfl ?_
  refine la_land dL_law_1137 1138 rfl ?_
  refine la_lor dL_law_1138 1139 rfl ?_
  refine la_call (c_X5_write l (zf := fun s => (K.2.2.1 s).2.1) h.z2 (xs (i + 1)) (xs (i + 2)) ((((xs (i + 3)).toInt64 <<< ((32 : Int32).toInt64 &&& 63)) ||| ((xs (i + 4)).toInt64 &&& (4294967295))))) kal_X5_write rfl dL_law_1139 qw_1078 qw_1079 qw_1080 rfl (by decide) (cel_mod G _) (by decide) [.long (cWrite K (xs (i + 1)) (xs (i + 2)) ((((xs (i + 3)).toInt64 <<< ((32 : Int32).toInt64 &&& 63)) ||| ((xs (i + 4)).toInt64 &&& (4294967295))))).1] (Nat.le_of_ble_eq_true rfl) rfl rfl 1142 rfl ?_
  refine la_lcmp dL_law_1142 1143 rfl ?_
  exact la_if_eq ((lg_cmp_eq _ _).mpr (r_write h (xs (i + 1)) (xs (i + 2)) ((((xs (i + 3)).toInt64 <<< ((32 : Int32).toInt64 &&& 63)) ||| ((xs (i + 4)).toInt64 &&& (4294967295))))).1) dL_law_1143 1385 (by decide) (kk _ _ (r_write h (xs (i + 1)) (xs (i + 2)) ((((xs (i + 3)).toInt64 <<< ((32 : Int32).toInt64 &&& 63)) ||| ((xs (i + 4)).toInt64 &&& (4294967295))))).2)
set_option maxHeartbeats 1000000 in
set_option maxRecDepth 8000 in
theorem lc_29 (l : Launch) {Z : LZ} {b L i : Nat} {xs : Nat → Int32} {G : Gl} {K : CS} {M : MS} (h : Rel K M) (hi : i + 6 ≤ L) (hL : L ≤ 3072) (kk : ∀ (K : CS) (M : MS), Rel K M → Lw l Z b L xs G (K, M) 1385 (lsL G b i) []) : Lw l Z b L xs G (K, M) 1148 (lsL G b i) [] := by
  refine la_aload_n dL_law_1148 2 rfl 1149 rfl ?_
  refine la_aload_n dL_law_1149 3 rfl 1150 rfl ?_
  refine la_iload_n dL_law_1150 0 rfl 1151 rfl ?_
  refine la_iconst dL_law_1151 (nI 1) rfl 1152 rfl ?_
  refine la_iaddN dL_law_1152 1153 rfl ?_
  refine la_sld (by omega) (by omega) dL_law_1153 1154 rfl ?_
  refine la_aload_n dL_law_1154 3 rfl 1155 rfl ?_
  refine la_iload_n dL_law_1155 0 rfl 1156 rfl ?_
  refine la_iconst dL_law_1156 (nI 2) rfl 1157 rfl ?_
  refine la_iaddN dL_law_1157 1158 rfl ?_
  refine la_sld (by omega) (by omega) dL_law_1158 1159 rfl ?_
  refine la_aload_n dL_law_1159 3 rfl 1160 rfl ?_
  refine la_iload_n dL_law_1160 0 rfl 1161 rfl ?_
  refine la_iconst dL_law_1161 (nI 3) rfl 1162 rfl ?_
  refine la_iaddN dL_law_1162 1163 rfl ?_
  refine la_sld (by omega) (by omega) dL_law_1163 1164 rfl ?_
  refine la_aload_n dL_law_1164 3 rfl 1165 rfl ?_
  refine la_iload_n dL_law_1165 0 rfl 1166 rfl ?_
  refine la_iconst dL_law_1166 (nI 4) rfl 1167 rfl ?_
  refine la_iaddN dL_law_1167 1168 rfl ?_
  refine la_sld (by omega) (by omega) dL_law_1168 1169 rfl ?_
  refine la_aload_n dL_law_1169 3 rfl 1170 rfl ?_
  refine la_iload_n dL_law_1170 0 rfl 1171 rfl ?_
  refine la_iconst dL_law_1171 (nI 5) rfl 1172 rfl ?_
  refine la_iaddN dL_law_1172 1173 rfl ?_
  refine la_sld (by omega) (by omega) dL_law_1173 1174 rfl ?_
  refine la_call (c_X4_copy l h.z1 (xs (i + 1)) (xs (i + 2)) (xs (i + 3)) (xs (i + 4)) (xs (i + 5))) kal_X4_copy rfl dL_law_1174 qw_624 qw_625 qw_626 rfl (by decide) (cel_obj G _) (by decide) [] (Nat.le_of_ble_eq_true rfl) rfl rfl 1177 rfl ?_
  refine la_aload_n dL_law_1177 1 rfl 1178 rfl ?_
  refine la_aload_n dL_law_1178 3 rfl 1179 rfl ?_
  refine la_iload_n dL_law_1179 0 rfl 1180 rfl ?_
  refine la_iconst dL_law_1180 (nI 1) rfl 1181 rfl ?_
  refine la_iaddN dL_law_1181 1182 rfl ?_
  refine la_sld (by omega) (by omega) dL_law_1182 1183 rfl ?_
  refine la_aload_n dL_law_1183 3 rfl 1184 rfl ?_
  refine la_iload_n dL_law_1184 0 rfl 1185 rfl ?_
  refine la_iconst dL_law_1185 (nI 2) rfl 1186 rfl ?_
  refine la_iaddN dL_law_1186 1187 rfl ?_
  refine la_sld (by omega) (by omega) dL_law_1187 1188 rfl ?_
  refine la_aload_n dL_law_1188 3 rfl 1189 rfl ?_
  refine la_iload_n dL_law_1189 0 rfl 1190 rfl ?_
  refine la_iconst dL_law_1190 (nI 3) rfl 1191 rfl ?_
  refine la_iaddN dL_law_1191 1192 rfl ?_
  refine la_sld (by omega) (by omega) dL_law_1192 1193 rfl ?_
  refine la_aload_n dL_law_1193 3 rfl 1194 rfl ?_
  refine la_iload_n dL_law_1194 0 rfl 1195 rfl ?_
  refine la_iconst dL_law_1195 (nI 4) rfl 1196 rfl ?_
  refine la_iaddN dL_law_1196 1197 rfl ?_
  refine la_sld (by omega) (by omega) dL_law_1197 1198 rfl ?_
  refine la_aload_n dL_law_1198 3 rfl 1199 rfl ?_
  refine la_iload_n dL_law_1199 0 rfl 1200 rfl ?_
  refine la_iconst dL_law_1200 (nI 5) rfl 1201 rfl ?_
  refine la_iaddN dL_law_1201 1202 rfl ?_
  refine la_sld (by omega) (by omega) dL_law_1202 1203 rfl ?_
  refine la_call (c_X5_copy l (zf := fun s => (K.2.2.1 s).2.1) h.z2 (xs (i + 1)) (xs (i + 2)) (xs (i + 3)) (xs (i + 4)) (xs (i + 5))) kal_X5_copy rfl dL_law_1203 qw_1090 qw_1091 qw_1092 rfl (by decide) (cel_mod G _) (by decide) [.int (cCopy K (xs (i + 1)) (xs (i + 2)) (xs (i + 3)) (xs (i + 4)) (xs (i + 5))).1] (Nat.le_of_ble_eq_true rfl) rfl rfl 1206 rfl ?_
  exact la_eq (r_copy h (xs (i + 1)) (xs (i + 2)) (xs (i + 3)) (xs (i + 4)) (xs (i + 5))).1 dL_law_1206 1385 (by decide) (kk _ _ (r_copy h (xs (i + 1)) (xs (i + 2)) (xs (i + 3)) (xs (i + 4)) (xs (i + 5))).2)
set_option maxHeartbeats 1000000 in
set_option maxRecDepth 8000 in
theorem lc_30 (l : Launch) {Z : LZ} {b L i : Nat} {xs : Nat → Int32} {G : Gl} {K : CS} {M : MS} (h : Rel K M) (hi : i + 6 ≤ L) (hL : L ≤ 3072) (kk : ∀ (K : CS) (M : MS), Rel K M → Lw l Z b L xs G (K, M) 1385 (lsL G b i) []) : Lw l Z b L xs G (K, M) 1211 (lsL G b i) [] := by
  refine la_aload_n dL_law_1211 2 rfl 1212 rfl ?_
  refine la_aload_n dL_law_1212 3 rfl 1213 rfl ?_
  refine la_iload_n dL_law_1213 0 rfl 1214 rfl ?_
  refine la_iconst dL_law_1214 (nI 1) rfl 1215 rfl ?_
  refine la_iaddN dL_law_1215 1216 rfl ?_
  refine la_sld (by omega) (by omega) dL_law_1216 1217 rfl ?_
  refine la_call (c_X4_lays l h.z1 (xs (i + 1))) kal_X4_lays rfl dL_law_1217 qw_633 qw_634 qw_635 rfl (by decide) (cel_obj G _) (by decide) [] (Nat.le_of_ble_eq_true rfl) rfl rfl 1220 rfl ?_
  refine la_aload_n dL_law_1220 1 rfl 1221 rfl ?_
  refine la_aload_n dL_law_1221 3 rfl 1222 rfl ?_
  refine la_iload_n dL_law_1222 0 rfl 1223 rfl ?_
  refine la_iconst dL_law_1223 (nI 1) rfl 1224 rfl ?_
  refine la_iaddN dL_law_1224 1225 rfl ?_
  refine la_sld (by omega) (by omega) dL_law_1225 1226 rfl ?_
  refine la_call (c_X5_lays l (zf := fun s => (K.2.2.1 s).2.1) h.z2 (xs (i + 1))) kal_X5_lays rfl dL_law_1226 qw_1094 qw_1095 qw_1096 rfl (by decide) (cel_mod G _) (by decide) [.int (cLays K (xs (i + 1))).1] (Nat.le_of_ble_eq_true rfl) rfl rfl 1229 rfl ?_
  exact la_eq (r_lays h (xs (i + 1))).1 dL_law_1229 1385 (by decide) (kk _ _ (r_lays h (xs (i + 1))).2)
set_option maxHeartbeats 1000000 in
set_option maxRecDepth 8000 in
theorem lc_31 (l : Launch) {Z : LZ} {b L i : Nat} {xs : Nat → Int32} {G : Gl} {K : CS} {M : MS} (h : Rel K M) (hi : i + 6 ≤ L) (hL : L ≤ 3072) (kk : ∀ (K : CS) (M : MS), Rel K M → Lw l Z b L xs G (K, M) 1385 (lsL G b i) []) : Lw l Z b L xs G (K, M) 1234 (lsL G b i) [] := by
  refine la_aload_n dL_law_1234 2 rfl 1235 rfl ?_
  refine la_aload_n dL_law_1235 3 rfl 1236 rfl ?_
  refine la_iload_n dL_law_1236 0 rfl 1237 rfl ?_
  refine la_iconst dL_law_1237 (nI 1) rfl 1238 rfl ?_
  refine la_iaddN dL_law_1238 1239 rfl ?_
  refine la_sld (by omega) (by omega) dL_law_1239 1240 rfl ?_
  refine la_aload_n dL_law_1240 3 rfl 1241 rfl ?_
  refine la_iload_n dL_law_1241 0 rfl 1242 rfl ?_
  refine la_iconst dL_law_1242 (nI 2) rfl 1243 rfl ?_
  refine la_iaddN dL_law_1243 1244 rfl ?_
  refine la_sld (by omega) (by omega) dL_law_1244 1245 rfl ?_
  refine la_call (c_X4_book l h.n8 h.mo h.z1 (xs (i + 1)) (xs (i + 2))) kal_X4_book rfl dL_law_1245 qw_639 qw_640 qw_641 rfl (by decide) (cel_obj G _) (by decide) [] (Nat.le_of_ble_eq_true rfl) rfl rfl 1248 rfl ?_
  refine la_aload_n dL_law_1248 1 rfl 1249 rfl ?_
  refine la_aload_n dL_law_1249 3 rfl 1250 rfl ?_
  refine la_iload_n dL_law_1250 0 rfl 1251 rfl ?_
  refine la_iconst dL_law_1251 (nI 1) rfl 1252 rfl ?_
  refine la_iaddN dL_law_1252 1253 rfl ?_
  refine la_sld (by omega) (by omega) dL_law_1253 1254 rfl ?_
  refine la_aload_n dL_law_1254 3 rfl 1255 rfl ?_
  refine la_iload_n dL_law_1255 0 rfl 1256 rfl ?_
  refine la_iconst dL_law_1256 (nI 2) rfl 1257 rfl ?_
  refine la_iaddN dL_law_1257 1258 rfl ?_
  refine la_sld (by omega) (by omega) dL_law_1258 1259 rfl ?_
  refine la_call (c_X5_book l (nE := (K.1 0).2.1) (t0 := (K.1 0).1) (zf := fun s => (K.2.2.1 s).2.1) h.1.1.2.1.1 h.n8 h.1.1.1 h.mo h.z2 (xs (i + 1)) (xs (i + 2))) kal_X5_book rfl dL_law_1259 qw_1098 qw_1099 qw_1100 rfl (by decide) (cel_mod G _) (by decide) [.int (cBook K (xs (i + 1)) (xs (i + 2))).1] (Nat.le_of_ble_eq_true rfl) rfl rfl 1262 rfl ?_
  exact la_eq (r_book h (xs (i + 1)) (xs (i + 2))).1 dL_law_1262 1385 (by decide) (kk _ _ (r_book h (xs (i + 1)) (xs (i + 2))).2)
set_option maxHeartbeats 1000000 in
set_option maxRecDepth 8000 in
theorem lc_32 (l : Launch) {Z : LZ} {b L i : Nat} {xs : Nat → Int32} {G : Gl} {K : CS} {M : MS} (h : Rel K M) (hi : i + 6 ≤ L) (hL : L ≤ 3072) (kk : ∀ (K : CS) (M : MS), Rel K M → Lw l Z b L xs G (K, M) 1385 (lsL G b i) []) : Lw l Z b L xs G (K, M) 1267 (lsL G b i) [] := by
  refine la_aload_n dL_law_1267 2 rfl 1268 rfl ?_
  refine la_aload_n dL_law_1268 3 rfl 1269 rfl ?_
  refine la_iload_n dL_law_1269 0 rfl 1270 rfl ?_
  refine la_iconst dL_law_1270 (nI 1) rfl 1271 rfl ?_
  refine la_iaddN dL_law_1271 1272 rfl ?_
  refine la_sld (by omega) (by omega) dL_law_1272 1273 rfl ?_
  refine la_aload_n dL_law_1273 3 rfl 1274 rfl ?_
  refine la_iload_n dL_law_1274 0 rfl 1275 rfl ?_
  refine la_iconst dL_law_1275 (nI 2) rfl 1276 rfl ?_
  refine la_iaddN dL_law_1276 1277 rfl ?_
  refine la_sld (by omega) (by omega) dL_law_1277 1278 rfl ?_
  refine la_call (c_X4_read l h.n8 h.mo h.z1 (xs (i + 1)) (xs (i + 2))) kal_X4_read rfl dL_law_1278 qw_643 qw_644 qw_645 rfl (by decide) (cel_obj G _) (by decide) [] (Nat.le_of_ble_eq_true rfl) rfl rfl 1281 rfl ?_
  refine la_aload_n dL_law_1281 1 rfl 1282 rfl ?_
  refine la_aload_n dL_law_1282 3 rfl 1283 rfl ?_
  refine la_iload_n dL_law_1283 0 rfl 1284 rfl ?_
  refine la_iconst dL_law_1284 (nI 1) rfl 1285 rfl ?_
  refine la_iaddN dL_law_1285 1286 rfl ?_
  refine la_sld (by omega) (by omega) dL_law_1286 1287 rfl ?_
  refine la_aload_n dL_law_1287 3 rfl 1288 rfl ?_
  refine la_iload_n dL_law_1288 0 rfl 1289 rfl ?_
  refine la_iconst dL_law_1289 (nI 2) rfl 1290 rfl ?_
  refine la_iaddN dL_law_1290 1291 rfl ?_
  refine la_sld (by omega) (by omega) dL_law_1291 1292 rfl ?_
  refine la_call (c_X5_read l (nE := (K.1 0).2.1) (t0 := (K.1 0).1) (zf := fun s => (K.2.2.1 s).2.1) h.1.1.2.1.1 h.n8 h.1.1.1 h.mo h.z2 (xs (i + 1)) (xs (i + 2))) kal_X5_read rfl dL_law_1292 qw_1102 qw_1103 qw_1104 rfl (by decide) (cel_mod G _) (by decide) [.int (cRead K (xs (i + 1)) (xs (i + 2))).1] (Nat.le_of_ble_eq_true rfl) rfl rfl 1295 rfl ?_
  exact la_eq (r_read h (xs (i + 1)) (xs (i + 2))).1 dL_law_1295 1385 (by decide) (kk _ _ (r_read h (xs (i + 1)) (xs (i + 2))).2)
set_option maxHeartbeats 1000000 in
set_option maxRecDepth 8000 in
theorem lc_33 (l : Launch) {Z : LZ} {b L i : Nat} {xs : Nat → Int32} {G : Gl} {K : CS} {M : MS} (h : Rel K M) (hi : i + 6 ≤ L) (hL : L ≤ 3072) (kk : ∀ (K : CS) (M : MS), Rel K M → Lw l Z b L xs G (K, M) 1385 (lsL G b i) []) : Lw l Z b L xs G (K, M) 1300 (lsL G b i) [] := by
  refine la_aload_n dL_law_1300 2 rfl 1301 rfl ?_
  refine la_call (c_X4_image l h.n8 ) kal_X4_image rfl dL_law_1301 qw_651 qw_652 qw_653 rfl (by decide) (cel_obj G _) (by decide) [] (Nat.le_of_ble_eq_true rfl) rfl rfl 1304 rfl ?_
  refine la_aload_n dL_law_1304 1 rfl 1305 rfl ?_
  refine la_call (c_X5_image l ) kal_X5_image rfl dL_law_1305 qw_1110 qw_1111 qw_1112 rfl (by decide) (cel_mod G _) (by decide) [.int (cImage K).1] (Nat.le_of_ble_eq_true rfl) rfl rfl 1308 rfl ?_
  exact la_eq (r_image h ).1 dL_law_1308 1385 (by decide) (kk _ _ (r_image h ).2)
set_option maxHeartbeats 1000000 in
set_option maxRecDepth 8000 in
theorem lc_34 (l : Launch) {Z : LZ} {b L i : Nat} {xs : Nat → Int32} {G : Gl} {K : CS} {M : MS} (h : Rel K M) (hi : i + 6 ≤ L) (hL : L ≤ 3072) (kk : ∀ (K : CS) (M : MS), Rel K M → Lw l Z b L xs G (K, M) 1385 (lsL G b i) []) : Lw l Z b L xs G (K, M) 1313 (lsL G b i) [] := by
  refine la_aload_n dL_law_1313 2 rfl 1314 rfl ?_
  refine la_call (c_X4_undo l h.2.1.2.1 ) kal_X4_undo rfl dL_law_1314 qw_655 qw_656 qw_657 rfl (by decide) (cel_obj G _) (by decide) [] (Nat.le_of_ble_eq_true rfl) rfl rfl 1317 rfl ?_
  refine la_aload_n dL_law_1317 1 rfl 1318 rfl ?_
  refine la_call (c_X5_undo l ) kal_X5_undo rfl dL_law_1318 qw_1114 qw_1115 qw_1116 rfl (by decide) (cel_mod G _) (by decide) [.int (cUndo K).1] (Nat.le_of_ble_eq_true rfl) rfl rfl 1321 rfl ?_
  exact la_eq (r_undo h ).1 dL_law_1321 1385 (by decide) (kk _ _ (r_undo h ).2)
set_option maxHeartbeats 1000000 in
set_option maxRecDepth 8000 in
theorem lc_35 (l : Launch) {Z : LZ} {b L i : Nat} {xs : Nat → Int32} {G : Gl} {K : CS} {M : MS} (h : Rel K M) (hi : i + 6 ≤ L) (hL : L ≤ 3072) (kk : ∀ (K : CS) (M : MS), Rel K M → Lw l Z b L xs G (K, M) 1385 (lsL G b i) []) : Lw l Z b L xs G (K, M) 1326 (lsL G b i) [] := by
  refine la_aload_n dL_law_1326 2 rfl 1327 rfl ?_
  refine la_call (c_X4_tear l ) kal_X4_tear rfl dL_law_1327 qw_659 qw_660 qw_661 rfl (by decide) (cel_obj G _) (by decide) [] (Nat.le_of_ble_eq_true rfl) rfl rfl 1330 rfl ?_
  refine la_aload_n dL_law_1330 1 rfl 1331 rfl ?_
  refine la_call (c_X5_tear l ) kal_X5_tear rfl dL_law_1331 qw_1118 qw_1119 qw_1120 rfl (by decide) (cel_mod G _) (by decide) [.int (cTear K).1] (Nat.le_of_ble_eq_true rfl) rfl rfl 1334 rfl ?_
  exact la_eq (r_tear h ).1 dL_law_1334 1385 (by decide) (kk _ _ (r_tear h ).2)
set_option maxHeartbeats 1000000 in
set_option maxRecDepth 8000 in
theorem lc_36 (l : Launch) {Z : LZ} {b L i : Nat} {xs : Nat → Int32} {G : Gl} {K : CS} {M : MS} (h : Rel K M) (hi : i + 6 ≤ L) (hL : L ≤ 3072) (kk : ∀ (K : CS) (M : MS), Rel K M → Lw l Z b L xs G (K, M) 1385 (lsL G b i) []) : Lw l Z b L xs G (K, M) 1339 (lsL G b i) [] := by
  refine la_aload_n dL_law_1339 2 rfl 1340 rfl ?_
  refine la_aload_n dL_law_1340 3 rfl 1341 rfl ?_
  refine la_iload_n dL_law_1341 0 rfl 1342 rfl ?_
  refine la_iconst dL_law_1342 (nI 1) rfl 1343 rfl ?_
  refine la_iaddN dL_law_1343 1344 rfl ?_
  refine la_sld (by omega) (by omega) dL_law_1344 1345 rfl ?_
  refine la_call (c_X4_count l h.n8 (xs (i + 1))) kal_X4_count rfl dL_law_1345 qw_663 qw_664 qw_665 rfl (by decide) (cel_obj G _) (by decide) [] (Nat.le_of_ble_eq_true rfl) rfl rfl 1348 rfl ?_
  refine la_aload_n dL_law_1348 1 rfl 1349 rfl ?_
  refine la_aload_n dL_law_1349 3 rfl 1350 rfl ?_
  refine la_iload_n dL_law_1350 0 rfl 1351 rfl ?_
  refine la_iconst dL_law_1351 (nI 1) rfl 1352 rfl ?_
  refine la_iaddN dL_law_1352 1353 rfl ?_
  refine la_sld (by omega) (by omega) dL_law_1353 1354 rfl ?_
  refine la_call (c_X5_count l (nE := (K.1 0).2.1) h.1.1.2.1.1 h.n8 (xs (i + 1))) kal_X5_count rfl dL_law_1354 qw_1122 qw_1123 qw_1124 rfl (by decide) (cel_mod G _) (by decide) [.int (cCount K (xs (i + 1))).1] (Nat.le_of_ble_eq_true rfl) rfl rfl 1357 rfl ?_
  exact la_eq (r_count h (xs (i + 1))).1 dL_law_1357 1385 (by decide) (kk _ _ (r_count h (xs (i + 1))).2)
set_option maxHeartbeats 1000000 in
set_option maxRecDepth 8000 in
theorem lc_37 (l : Launch) {Z : LZ} {b L i : Nat} {xs : Nat → Int32} {G : Gl} {K : CS} {M : MS} (h : Rel K M) (hi : i + 6 ≤ L) (hL : L ≤ 3072) (kk : ∀ (K : CS) (M : MS), Rel K M → Lw l Z b L xs G (K, M) 1385 (lsL G b i) []) : Lw l Z b L xs G (K, M) 1362 (lsL G b i) [] := by
  refine la_aload_n dL_law_1362 2 rfl 1363 rfl ?_
  refine la_aload_n dL_law_1363 3 rfl 1364 rfl ?_
  refine la_iload_n dL_law_1364 0 rfl 1365 rfl ?_
  refine la_iconst dL_law_1365 (nI 1) rfl 1366 rfl ?_
  refine la_iaddN dL_law_1366 1367 rfl ?_
  refine la_sld (by omega) (by omega) dL_law_1367 1368 rfl ?_
  refine la_call (c_X4_status l (xs (i + 1))) kal_X4_status rfl dL_law_1368 qw_676 qw_677 qw_678 rfl (by decide) (cel_obj G _) (by decide) [] (Nat.le_of_ble_eq_true rfl) rfl rfl 1371 rfl ?_
  refine la_aload_n dL_law_1371 1 rfl 1372 rfl ?_
  refine la_aload_n dL_law_1372 3 rfl 1373 rfl ?_
  refine la_iload_n dL_law_1373 0 rfl 1374 rfl ?_
  refine la_iconst dL_law_1374 (nI 1) rfl 1375 rfl ?_
  refine la_iaddN dL_law_1375 1376 rfl ?_
  refine la_sld (by omega) (by omega) dL_law_1376 1377 rfl ?_
  refine la_call (c_X5_status l (xs (i + 1))) kal_X5_status rfl dL_law_1377 qw_1134 qw_1135 qw_1136 rfl (by decide) (cel_mod G _) (by decide) [.int (cStatus K (xs (i + 1))).1] (Nat.le_of_ble_eq_true rfl) rfl rfl 1380 rfl ?_
  exact la_eq (r_status h (xs (i + 1))).1 dL_law_1380 1385 (by decide) (kk _ _ (r_status h (xs (i + 1))).2)
