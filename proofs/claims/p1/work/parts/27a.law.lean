theorem dL_law_220 : decode cL_law 220 = .ok (.aload_n 1, 1) := by decide +kernel
theorem dL_law_221 : decode cL_law 221 = .ok (.invokevirtual 13, 3) := by decide +kernel
theorem mw_238 : Cond.methodLink RL 13 yX11_status ∈ wsL_law := inr_10 _ (List.mem_of_getElem? (i := 22) rfl)
theorem mw_241 : Cond.code yX11_status cX11_status 1 (some .int) ∈ wsL_law := inr_11 _ (List.mem_of_getElem? (i := 1) rfl)
theorem yk_X11_status : xY yX11_status RX11 cX11_status 1 (some .int) 0 := ⟨⟨rfl, by decide +kernel, by decide +kernel, by decide +kernel⟩, mw_2, mw_241⟩
theorem mw_239 : Cond.instanceMethod yX11_status ∈ wsL_law := inr_10 _ (List.mem_of_getElem? (i := 23) rfl)
theorem mw_240 : Cond.selects RX11 yX11_status yX11_status ∈ wsL_law := inr_11 _ (List.mem_of_getElem? (i := 0) rfl)
theorem dL_law_224 : decode cL_law 224 = .ok (.aload_n 2, 1) := by decide +kernel
theorem dL_law_225 : decode cL_law 225 = .ok (.invokevirtual 17, 3) := by decide +kernel
theorem mw_242 : Cond.methodLink RL 17 yX12_status ∈ wsL_law := inr_11 _ (List.mem_of_getElem? (i := 2) rfl)
theorem mw_245 : Cond.code yX12_status cX12_status 1 (some .int) ∈ wsL_law := inr_11 _ (List.mem_of_getElem? (i := 5) rfl)
theorem yk_X12_status : xY yX12_status RX12 cX12_status 1 (some .int) 0 := ⟨⟨rfl, by decide +kernel, by decide +kernel, by decide +kernel⟩, mw_5, mw_245⟩
theorem mw_243 : Cond.instanceMethod yX12_status ∈ wsL_law := inr_11 _ (List.mem_of_getElem? (i := 3) rfl)
theorem mw_244 : Cond.selects RX12 yX12_status yX12_status ∈ wsL_law := inr_11 _ (List.mem_of_getElem? (i := 4) rfl)
theorem dL_law_228 : decode cL_law 228 = .ok (.if_icmp .eq 1535, 3) := by decide +kernel
theorem dL_law_233 : decode cL_law 233 = .ok (.aload_n 1, 1) := by decide +kernel
theorem dL_law_234 : decode cL_law 234 = .ok (.invokevirtual 18, 3) := by decide +kernel
theorem mw_247 : Cond.methodLink RL 18 yX11_top ∈ wsL_law := inr_11 _ (List.mem_of_getElem? (i := 7) rfl)
theorem mw_250 : Cond.code yX11_top cX11_top 1 (some .long) ∈ wsL_law := inr_11 _ (List.mem_of_getElem? (i := 10) rfl)
theorem yk_X11_top : xY yX11_top RX11 cX11_top 1 (some .long) 0 := ⟨⟨rfl, by decide +kernel, by decide +kernel, by decide +kernel⟩, mw_2, mw_250⟩
theorem mw_248 : Cond.instanceMethod yX11_top ∈ wsL_law := inr_11 _ (List.mem_of_getElem? (i := 8) rfl)
theorem mw_249 : Cond.selects RX11 yX11_top yX11_top ∈ wsL_law := inr_11 _ (List.mem_of_getElem? (i := 9) rfl)
theorem dL_law_237 : decode cL_law 237 = .ok (.aload_n 2, 1) := by decide +kernel
theorem dL_law_238 : decode cL_law 238 = .ok (.invokevirtual 22, 3) := by decide +kernel
theorem mw_251 : Cond.methodLink RL 22 yX12_top ∈ wsL_law := inr_11 _ (List.mem_of_getElem? (i := 11) rfl)
theorem mw_254 : Cond.code yX12_top cX12_top 1 (some .long) ∈ wsL_law := inr_11 _ (List.mem_of_getElem? (i := 14) rfl)
theorem yk_X12_top : xY yX12_top RX12 cX12_top 1 (some .long) 0 := ⟨⟨rfl, by decide +kernel, by decide +kernel, by decide +kernel⟩, mw_5, mw_254⟩
theorem mw_252 : Cond.instanceMethod yX12_top ∈ wsL_law := inr_11 _ (List.mem_of_getElem? (i := 12) rfl)
theorem mw_253 : Cond.selects RX12 yX12_top yX12_top ∈ wsL_law := inr_11 _ (List.mem_of_getElem? (i := 13) rfl)
theorem dL_law_241 : decode cL_law 241 = .ok (.lcmp, 1) := by decide +kernel
theorem dL_law_242 : decode cL_law 242 = .ok (.ifCond .eq 1521, 3) := by decide +kernel
theorem dL_law_247 : decode cL_law 247 = .ok (.aload_n 1, 1) := by decide +kernel
theorem dL_law_248 : decode cL_law 248 = .ok (.invokevirtual 23, 3) := by decide +kernel
theorem mw_256 : Cond.methodLink RL 23 yX11_bottom ∈ wsL_law := inr_11 _ (List.mem_of_getElem? (i := 16) rfl)
theorem mw_259 : Cond.code yX11_bottom cX11_bottom 1 (some .long) ∈ wsL_law := inr_11 _ (List.mem_of_getElem? (i := 19) rfl)
theorem yk_X11_bottom : xY yX11_bottom RX11 cX11_bottom 1 (some .long) 0 := ⟨⟨rfl, by decide +kernel, by decide +kernel, by decide +kernel⟩, mw_2, mw_259⟩
theorem mw_257 : Cond.instanceMethod yX11_bottom ∈ wsL_law := inr_11 _ (List.mem_of_getElem? (i := 17) rfl)
theorem mw_258 : Cond.selects RX11 yX11_bottom yX11_bottom ∈ wsL_law := inr_11 _ (List.mem_of_getElem? (i := 18) rfl)
theorem dL_law_251 : decode cL_law 251 = .ok (.aload_n 2, 1) := by decide +kernel
theorem dL_law_252 : decode cL_law 252 = .ok (.invokevirtual 26, 3) := by decide +kernel
theorem mw_260 : Cond.methodLink RL 26 yX12_bottom ∈ wsL_law := inr_11 _ (List.mem_of_getElem? (i := 20) rfl)
theorem mw_263 : Cond.code yX12_bottom cX12_bottom 1 (some .long) ∈ wsL_law := inr_11 _ (List.mem_of_getElem? (i := 23) rfl)
theorem yk_X12_bottom : xY yX12_bottom RX12 cX12_bottom 1 (some .long) 0 := ⟨⟨rfl, by decide +kernel, by decide +kernel, by decide +kernel⟩, mw_5, mw_263⟩
theorem mw_261 : Cond.instanceMethod yX12_bottom ∈ wsL_law := inr_11 _ (List.mem_of_getElem? (i := 21) rfl)
theorem mw_262 : Cond.selects RX12 yX12_bottom yX12_bottom ∈ wsL_law := inr_11 _ (List.mem_of_getElem? (i := 22) rfl)
theorem dL_law_255 : decode cL_law 255 = .ok (.lcmp, 1) := by decide +kernel
theorem dL_law_256 : decode cL_law 256 = .ok (.ifCond .eq 1507, 3) := by decide +kernel
theorem dL_law_261 : decode cL_law 261 = .ok (.aload_n 1, 1) := by decide +kernel
theorem dL_law_262 : decode cL_law 262 = .ok (.aload_n 0, 1) := by decide +kernel
theorem dL_law_263 : decode cL_law 263 = .ok (.iload_n 3, 1) := by decide +kernel
theorem dL_law_264 : decode cL_law 264 = .ok (.iconst 1, 1) := by decide +kernel
theorem dL_law_265 : decode cL_law 265 = .ok (.iadd, 1) := by decide +kernel
theorem dL_law_266 : decode cL_law 266 = .ok (.iaload, 1) := by decide +kernel
theorem dL_law_267 : decode cL_law 267 = .ok (.aload_n 0, 1) := by decide +kernel
theorem dL_law_268 : decode cL_law 268 = .ok (.iload_n 3, 1) := by decide +kernel
theorem dL_law_269 : decode cL_law 269 = .ok (.iconst 2, 1) := by decide +kernel
theorem dL_law_270 : decode cL_law 270 = .ok (.iadd, 1) := by decide +kernel
theorem dL_law_271 : decode cL_law 271 = .ok (.iaload, 1) := by decide +kernel
theorem dL_law_272 : decode cL_law 272 = .ok (.aload_n 0, 1) := by decide +kernel
theorem dL_law_273 : decode cL_law 273 = .ok (.iload_n 3, 1) := by decide +kernel
theorem dL_law_274 : decode cL_law 274 = .ok (.iconst 3, 1) := by decide +kernel
theorem dL_law_275 : decode cL_law 275 = .ok (.iadd, 1) := by decide +kernel
theorem dL_law_276 : decode cL_law 276 = .ok (.iaload, 1) := by decide +kernel
theorem dL_law_277 : decode cL_law 277 = .ok (.invokevirtual 27, 3) := by decide +kernel
theorem mw_264 : Cond.methodLink RL 27 yX11_tray ∈ wsL_law := inr_12 _ (List.mem_of_getElem? (i := 0) rfl)
theorem mw_267 : Cond.code yX11_tray cX11_tray 4 (some .boolean) ∈ wsL_law := inr_12 _ (List.mem_of_getElem? (i := 3) rfl)
theorem yk_X11_tray : xY yX11_tray RX11 cX11_tray 4 (some .boolean) 3 := ⟨⟨rfl, by decide +kernel, by decide +kernel, by decide +kernel⟩, mw_2, mw_267⟩
theorem mw_265 : Cond.instanceMethod yX11_tray ∈ wsL_law := inr_12 _ (List.mem_of_getElem? (i := 1) rfl)
theorem mw_266 : Cond.selects RX11 yX11_tray yX11_tray ∈ wsL_law := inr_12 _ (List.mem_of_getElem? (i := 2) rfl)
theorem dL_law_280 : decode cL_law 280 = .ok (.aload_n 2, 1) := by decide +kernel
theorem dL_law_281 : decode cL_law 281 = .ok (.aload_n 0, 1) := by decide +kernel
theorem dL_law_282 : decode cL_law 282 = .ok (.iload_n 3, 1) := by decide +kernel
theorem dL_law_283 : decode cL_law 283 = .ok (.iconst 1, 1) := by decide +kernel
theorem dL_law_284 : decode cL_law 284 = .ok (.iadd, 1) := by decide +kernel
theorem dL_law_285 : decode cL_law 285 = .ok (.iaload, 1) := by decide +kernel
theorem dL_law_286 : decode cL_law 286 = .ok (.aload_n 0, 1) := by decide +kernel
theorem dL_law_287 : decode cL_law 287 = .ok (.iload_n 3, 1) := by decide +kernel
theorem dL_law_288 : decode cL_law 288 = .ok (.iconst 2, 1) := by decide +kernel
theorem dL_law_289 : decode cL_law 289 = .ok (.iadd, 1) := by decide +kernel
theorem dL_law_290 : decode cL_law 290 = .ok (.iaload, 1) := by decide +kernel
theorem dL_law_291 : decode cL_law 291 = .ok (.aload_n 0, 1) := by decide +kernel
theorem dL_law_292 : decode cL_law 292 = .ok (.iload_n 3, 1) := by decide +kernel
theorem dL_law_293 : decode cL_law 293 = .ok (.iconst 3, 1) := by decide +kernel
theorem dL_law_294 : decode cL_law 294 = .ok (.iadd, 1) := by decide +kernel
theorem dL_law_295 : decode cL_law 295 = .ok (.iaload, 1) := by decide +kernel
theorem dL_law_296 : decode cL_law 296 = .ok (.invokevirtual 31, 3) := by decide +kernel
theorem mw_279 : Cond.methodLink RL 31 yX12_tray ∈ wsL_law := inr_12 _ (List.mem_of_getElem? (i := 15) rfl)
theorem mw_282 : Cond.code yX12_tray cX12_tray 5 (some .boolean) ∈ wsL_law := inr_12 _ (List.mem_of_getElem? (i := 18) rfl)
theorem yk_X12_tray : xY yX12_tray RX12 cX12_tray 5 (some .boolean) 3 := ⟨⟨rfl, by decide +kernel, by decide +kernel, by decide +kernel⟩, mw_5, mw_282⟩
theorem mw_280 : Cond.instanceMethod yX12_tray ∈ wsL_law := inr_12 _ (List.mem_of_getElem? (i := 16) rfl)
theorem mw_281 : Cond.selects RX12 yX12_tray yX12_tray ∈ wsL_law := inr_12 _ (List.mem_of_getElem? (i := 17) rfl)
theorem dL_law_299 : decode cL_law 299 = .ok (.if_icmp .eq 1464, 3) := by decide +kernel
theorem dL_law_304 : decode cL_law 304 = .ok (.aload_n 1, 1) := by decide +kernel
theorem dL_law_305 : decode cL_law 305 = .ok (.aload_n 0, 1) := by decide +kernel
theorem dL_law_306 : decode cL_law 306 = .ok (.iload_n 3, 1) := by decide +kernel
theorem dL_law_307 : decode cL_law 307 = .ok (.iconst 1, 1) := by decide +kernel
theorem dL_law_308 : decode cL_law 308 = .ok (.iadd, 1) := by decide +kernel
theorem dL_law_309 : decode cL_law 309 = .ok (.iaload, 1) := by decide +kernel
theorem dL_law_310 : decode cL_law 310 = .ok (.aload_n 0, 1) := by decide +kernel
theorem dL_law_311 : decode cL_law 311 = .ok (.iload_n 3, 1) := by decide +kernel
theorem dL_law_312 : decode cL_law 312 = .ok (.iconst 2, 1) := by decide +kernel
theorem dL_law_313 : decode cL_law 313 = .ok (.iadd, 1) := by decide +kernel
theorem dL_law_314 : decode cL_law 314 = .ok (.iaload, 1) := by decide +kernel
theorem dL_law_315 : decode cL_law 315 = .ok (.aload_n 0, 1) := by decide +kernel
theorem dL_law_316 : decode cL_law 316 = .ok (.iload_n 3, 1) := by decide +kernel
theorem dL_law_317 : decode cL_law 317 = .ok (.iconst 3, 1) := by decide +kernel
theorem dL_law_318 : decode cL_law 318 = .ok (.iadd, 1) := by decide +kernel
theorem dL_law_319 : decode cL_law 319 = .ok (.iaload, 1) := by decide +kernel
theorem dL_law_320 : decode cL_law 320 = .ok (.i2l, 1) := by decide +kernel
theorem dL_law_321 : decode cL_law 321 = .ok (.bipush 32, 2) := by decide +kernel
theorem dL_law_323 : decode cL_law 323 = .ok (.lshl, 1) := by decide +kernel
theorem dL_law_324 : decode cL_law 324 = .ok (.aload_n 0, 1) := by decide +kernel
theorem dL_law_325 : decode cL_law 325 = .ok (.iload_n 3, 1) := by decide +kernel
theorem dL_law_326 : decode cL_law 326 = .ok (.iconst 4, 1) := by decide +kernel
theorem dL_law_327 : decode cL_law 327 = .ok (.iadd, 1) := by decide +kernel
theorem dL_law_328 : decode cL_law 328 = .ok (.iaload, 1) := by decide +kernel
theorem dL_law_329 : decode cL_law 329 = .ok (.i2l, 1) := by decide +kernel
theorem dL_law_330 : decode cL_law 330 = .ok (.ldc2_w 32, 3) := by decide +kernel
theorem mw_6 : Cond.constantLong RL 32 (4294967295) ∈ wsL_law := inr_1 _ (List.mem_of_getElem? (i := 6) rfl)
theorem dL_law_333 : decode cL_law 333 = .ok (.land, 1) := by decide +kernel
theorem dL_law_334 : decode cL_law 334 = .ok (.lor, 1) := by decide +kernel
theorem dL_law_335 : decode cL_law 335 = .ok (.invokevirtual 34, 3) := by decide +kernel
theorem mw_290 : Cond.methodLink RL 34 yX11_write ∈ wsL_law := inr_13 _ (List.mem_of_getElem? (i := 2) rfl)
theorem mw_293 : Cond.code yX11_write cX11_write 6 (some .boolean) ∈ wsL_law := inr_13 _ (List.mem_of_getElem? (i := 5) rfl)
theorem yk_X11_write : xY yX11_write RX11 cX11_write 6 (some .boolean) 3 := ⟨⟨rfl, by decide +kernel, by decide +kernel, by decide +kernel⟩, mw_2, mw_293⟩
theorem mw_291 : Cond.instanceMethod yX11_write ∈ wsL_law := inr_13 _ (List.mem_of_getElem? (i := 3) rfl)
theorem mw_292 : Cond.selects RX11 yX11_write yX11_write ∈ wsL_law := inr_13 _ (List.mem_of_getElem? (i := 4) rfl)
theorem dL_law_338 : decode cL_law 338 = .ok (.aload_n 2, 1) := by decide +kernel
theorem dL_law_339 : decode cL_law 339 = .ok (.aload_n 0, 1) := by decide +kernel
theorem dL_law_340 : decode cL_law 340 = .ok (.iload_n 3, 1) := by decide +kernel
theorem dL_law_341 : decode cL_law 341 = .ok (.iconst 1, 1) := by decide +kernel
theorem dL_law_342 : decode cL_law 342 = .ok (.iadd, 1) := by decide +kernel
theorem dL_law_343 : decode cL_law 343 = .ok (.iaload, 1) := by decide +kernel
theorem dL_law_344 : decode cL_law 344 = .ok (.aload_n 0, 1) := by decide +kernel
theorem dL_law_345 : decode cL_law 345 = .ok (.iload_n 3, 1) := by decide +kernel
theorem dL_law_346 : decode cL_law 346 = .ok (.iconst 2, 1) := by decide +kernel
theorem dL_law_347 : decode cL_law 347 = .ok (.iadd, 1) := by decide +kernel
theorem dL_law_348 : decode cL_law 348 = .ok (.iaload, 1) := by decide +kernel
theorem dL_law_349 : decode cL_law 349 = .ok (.aload_n 0, 1) := by decide +kernel
theorem dL_law_350 : decode cL_law 350 = .ok (.iload_n 3, 1) := by decide +kernel
theorem dL_law_351 : decode cL_law 351 = .ok (.iconst 3, 1) := by decide +kernel
theorem dL_law_352 : decode cL_law 352 = .ok (.iadd, 1) := by decide +kernel
theorem dL_law_353 : decode cL_law 353 = .ok (.iaload, 1) := by decide +kernel
theorem dL_law_354 : decode cL_law 354 = .ok (.i2l, 1) := by decide +kernel
theorem dL_law_355 : decode cL_law 355 = .ok (.bipush 32, 2) := by decide +kernel
theorem dL_law_357 : decode cL_law 357 = .ok (.lshl, 1) := by decide +kernel
theorem dL_law_358 : decode cL_law 358 = .ok (.aload_n 0, 1) := by decide +kernel
theorem dL_law_359 : decode cL_law 359 = .ok (.iload_n 3, 1) := by decide +kernel
theorem dL_law_360 : decode cL_law 360 = .ok (.iconst 4, 1) := by decide +kernel
theorem dL_law_361 : decode cL_law 361 = .ok (.iadd, 1) := by decide +kernel
theorem dL_law_362 : decode cL_law 362 = .ok (.iaload, 1) := by decide +kernel
theorem dL_law_363 : decode cL_law 363 = .ok (.i2l, 1) := by decide +kernel
theorem dL_law_364 : decode cL_law 364 = .ok (.ldc2_w 32, 3) := by decide +kernel
theorem dL_law_367 : decode cL_law 367 = .ok (.land, 1) := by decide +kernel
theorem dL_law_368 : decode cL_law 368 = .ok (.lor, 1) := by decide +kernel
theorem dL_law_369 : decode cL_law 369 = .ok (.invokevirtual 38, 3) := by decide +kernel
theorem mw_315 : Cond.methodLink RL 38 yX12_write ∈ wsL_law := inr_14 _ (List.mem_of_getElem? (i := 3) rfl)
theorem mw_318 : Cond.code yX12_write cX12_write 6 (some .boolean) ∈ wsL_law := inr_14 _ (List.mem_of_getElem? (i := 6) rfl)
theorem yk_X12_write : xY yX12_write RX12 cX12_write 6 (some .boolean) 3 := ⟨⟨rfl, by decide +kernel, by decide +kernel, by decide +kernel⟩, mw_5, mw_318⟩
theorem mw_316 : Cond.instanceMethod yX12_write ∈ wsL_law := inr_14 _ (List.mem_of_getElem? (i := 4) rfl)
theorem mw_317 : Cond.selects RX12 yX12_write yX12_write ∈ wsL_law := inr_14 _ (List.mem_of_getElem? (i := 5) rfl)
theorem dL_law_372 : decode cL_law 372 = .ok (.if_icmp .eq 1391, 3) := by decide +kernel
theorem dL_law_377 : decode cL_law 377 = .ok (.aload_n 1, 1) := by decide +kernel
theorem dL_law_378 : decode cL_law 378 = .ok (.aload_n 0, 1) := by decide +kernel
theorem dL_law_379 : decode cL_law 379 = .ok (.iload_n 3, 1) := by decide +kernel
theorem dL_law_380 : decode cL_law 380 = .ok (.iconst 1, 1) := by decide +kernel
theorem dL_law_381 : decode cL_law 381 = .ok (.iadd, 1) := by decide +kernel
theorem dL_law_382 : decode cL_law 382 = .ok (.iaload, 1) := by decide +kernel
theorem dL_law_383 : decode cL_law 383 = .ok (.aload_n 0, 1) := by decide +kernel
theorem dL_law_384 : decode cL_law 384 = .ok (.iload_n 3, 1) := by decide +kernel
theorem dL_law_385 : decode cL_law 385 = .ok (.iconst 2, 1) := by decide +kernel
theorem dL_law_386 : decode cL_law 386 = .ok (.iadd, 1) := by decide +kernel
theorem dL_law_387 : decode cL_law 387 = .ok (.iaload, 1) := by decide +kernel
theorem dL_law_388 : decode cL_law 388 = .ok (.invokevirtual 39, 3) := by decide +kernel
theorem mw_326 : Cond.methodLink RL 39 yX11_read ∈ wsL_law := inr_14 _ (List.mem_of_getElem? (i := 14) rfl)
theorem mw_329 : Cond.code yX11_read cX11_read 4 (some .long) ∈ wsL_law := inr_14 _ (List.mem_of_getElem? (i := 17) rfl)
theorem yk_X11_read : xY yX11_read RX11 cX11_read 4 (some .long) 2 := ⟨⟨rfl, by decide +kernel, by decide +kernel, by decide +kernel⟩, mw_2, mw_329⟩
theorem mw_327 : Cond.instanceMethod yX11_read ∈ wsL_law := inr_14 _ (List.mem_of_getElem? (i := 15) rfl)
theorem mw_328 : Cond.selects RX11 yX11_read yX11_read ∈ wsL_law := inr_14 _ (List.mem_of_getElem? (i := 16) rfl)
theorem dL_law_391 : decode cL_law 391 = .ok (.aload_n 2, 1) := by decide +kernel
theorem dL_law_392 : decode cL_law 392 = .ok (.aload_n 0, 1) := by decide +kernel
theorem dL_law_393 : decode cL_law 393 = .ok (.iload_n 3, 1) := by decide +kernel
theorem dL_law_394 : decode cL_law 394 = .ok (.iconst 1, 1) := by decide +kernel
theorem dL_law_395 : decode cL_law 395 = .ok (.iadd, 1) := by decide +kernel
theorem dL_law_396 : decode cL_law 396 = .ok (.iaload, 1) := by decide +kernel
theorem dL_law_397 : decode cL_law 397 = .ok (.aload_n 0, 1) := by decide +kernel
theorem dL_law_398 : decode cL_law 398 = .ok (.iload_n 3, 1) := by decide +kernel
theorem dL_law_399 : decode cL_law 399 = .ok (.iconst 2, 1) := by decide +kernel
theorem dL_law_400 : decode cL_law 400 = .ok (.iadd, 1) := by decide +kernel
theorem dL_law_401 : decode cL_law 401 = .ok (.iaload, 1) := by decide +kernel
theorem dL_law_402 : decode cL_law 402 = .ok (.invokevirtual 43, 3) := by decide +kernel
theorem mw_336 : Cond.methodLink RL 43 yX12_read ∈ wsL_law := inr_15 _ (List.mem_of_getElem? (i := 0) rfl)
theorem mw_339 : Cond.code yX12_read cX12_read 3 (some .long) ∈ wsL_law := inr_15 _ (List.mem_of_getElem? (i := 3) rfl)
theorem yk_X12_read : xY yX12_read RX12 cX12_read 3 (some .long) 2 := ⟨⟨rfl, by decide +kernel, by decide +kernel, by decide +kernel⟩, mw_5, mw_339⟩
theorem mw_337 : Cond.instanceMethod yX12_read ∈ wsL_law := inr_15 _ (List.mem_of_getElem? (i := 1) rfl)
theorem mw_338 : Cond.selects RX12 yX12_read yX12_read ∈ wsL_law := inr_15 _ (List.mem_of_getElem? (i := 2) rfl)
theorem dL_law_405 : decode cL_law 405 = .ok (.lcmp, 1) := by decide +kernel
theorem dL_law_406 : decode cL_law 406 = .ok (.ifCond .eq 1357, 3) := by decide +kernel
theorem dL_law_411 : decode cL_law 411 = .ok (.aload_n 1, 1) := by decide +kernel
theorem dL_law_412 : decode cL_law 412 = .ok (.aload_n 0, 1) := by decide +kernel
theorem dL_law_413 : decode cL_law 413 = .ok (.iload_n 3, 1) := by decide +kernel
theorem dL_law_414 : decode cL_law 414 = .ok (.iconst 1, 1) := by decide +kernel
theorem dL_law_415 : decode cL_law 415 = .ok (.iadd, 1) := by decide +kernel
theorem dL_law_416 : decode cL_law 416 = .ok (.iaload, 1) := by decide +kernel
theorem dL_law_417 : decode cL_law 417 = .ok (.aload_n 0, 1) := by decide +kernel
theorem dL_law_418 : decode cL_law 418 = .ok (.iload_n 3, 1) := by decide +kernel
theorem dL_law_419 : decode cL_law 419 = .ok (.iconst 2, 1) := by decide +kernel
theorem dL_law_420 : decode cL_law 420 = .ok (.iadd, 1) := by decide +kernel
theorem dL_law_421 : decode cL_law 421 = .ok (.iaload, 1) := by decide +kernel
theorem dL_law_422 : decode cL_law 422 = .ok (.aload_n 0, 1) := by decide +kernel
theorem dL_law_423 : decode cL_law 423 = .ok (.iload_n 3, 1) := by decide +kernel
theorem dL_law_424 : decode cL_law 424 = .ok (.iconst 3, 1) := by decide +kernel
theorem dL_law_425 : decode cL_law 425 = .ok (.iadd, 1) := by decide +kernel
theorem dL_law_426 : decode cL_law 426 = .ok (.iaload, 1) := by decide +kernel
theorem dL_law_427 : decode cL_law 427 = .ok (.aload_n 0, 1) := by decide +kernel
theorem dL_law_428 : decode cL_law 428 = .ok (.iload_n 3, 1) := by decide +kernel
theorem dL_law_429 : decode cL_law 429 = .ok (.iconst 4, 1) := by decide +kernel
theorem dL_law_430 : decode cL_law 430 = .ok (.iadd, 1) := by decide +kernel
theorem dL_law_431 : decode cL_law 431 = .ok (.iaload, 1) := by decide +kernel
theorem dL_law_432 : decode cL_law 432 = .ok (.aload_n 0, 1) := by decide +kernel
theorem dL_law_433 : decode cL_law 433 = .ok (.iload_n 3, 1) := by decide +kernel
theorem dL_law_434 : decode cL_law 434 = .ok (.iconst 5, 1) := by decide +kernel
theorem dL_law_435 : decode cL_law 435 = .ok (.iadd, 1) := by decide +kernel
theorem dL_law_436 : decode cL_law 436 = .ok (.iaload, 1) := by decide +kernel
theorem dL_law_437 : decode cL_law 437 = .ok (.invokevirtual 44, 3) := by decide +kernel
theorem mw_341 : Cond.methodLink RL 44 yX11_pour ∈ wsL_law := inr_15 _ (List.mem_of_getElem? (i := 5) rfl)
theorem mw_344 : Cond.code yX11_pour cX11_pour 8 (some .boolean) ∈ wsL_law := inr_15 _ (List.mem_of_getElem? (i := 8) rfl)
theorem yk_X11_pour : xY yX11_pour RX11 cX11_pour 8 (some .boolean) 5 := ⟨⟨rfl, by decide +kernel, by decide +kernel, by decide +kernel⟩, mw_2, mw_344⟩
theorem mw_342 : Cond.instanceMethod yX11_pour ∈ wsL_law := inr_15 _ (List.mem_of_getElem? (i := 6) rfl)
theorem mw_343 : Cond.selects RX11 yX11_pour yX11_pour ∈ wsL_law := inr_15 _ (List.mem_of_getElem? (i := 7) rfl)
theorem dL_law_440 : decode cL_law 440 = .ok (.aload_n 2, 1) := by decide +kernel
theorem dL_law_441 : decode cL_law 441 = .ok (.aload_n 0, 1) := by decide +kernel
theorem dL_law_442 : decode cL_law 442 = .ok (.iload_n 3, 1) := by decide +kernel
theorem dL_law_443 : decode cL_law 443 = .ok (.iconst 1, 1) := by decide +kernel
theorem dL_law_444 : decode cL_law 444 = .ok (.iadd, 1) := by decide +kernel
theorem dL_law_445 : decode cL_law 445 = .ok (.iaload, 1) := by decide +kernel
theorem dL_law_446 : decode cL_law 446 = .ok (.aload_n 0, 1) := by decide +kernel
theorem dL_law_447 : decode cL_law 447 = .ok (.iload_n 3, 1) := by decide +kernel
theorem dL_law_448 : decode cL_law 448 = .ok (.iconst 2, 1) := by decide +kernel
theorem dL_law_449 : decode cL_law 449 = .ok (.iadd, 1) := by decide +kernel
theorem dL_law_450 : decode cL_law 450 = .ok (.iaload, 1) := by decide +kernel
theorem dL_law_451 : decode cL_law 451 = .ok (.aload_n 0, 1) := by decide +kernel
theorem dL_law_452 : decode cL_law 452 = .ok (.iload_n 3, 1) := by decide +kernel
theorem dL_law_453 : decode cL_law 453 = .ok (.iconst 3, 1) := by decide +kernel
theorem dL_law_454 : decode cL_law 454 = .ok (.iadd, 1) := by decide +kernel
theorem dL_law_455 : decode cL_law 455 = .ok (.iaload, 1) := by decide +kernel
theorem dL_law_456 : decode cL_law 456 = .ok (.aload_n 0, 1) := by decide +kernel
theorem dL_law_457 : decode cL_law 457 = .ok (.iload_n 3, 1) := by decide +kernel
theorem dL_law_458 : decode cL_law 458 = .ok (.iconst 4, 1) := by decide +kernel
theorem dL_law_459 : decode cL_law 459 = .ok (.iadd, 1) := by decide +kernel
theorem dL_law_460 : decode cL_law 460 = .ok (.iaload, 1) := by decide +kernel
theorem dL_law_461 : decode cL_law 461 = .ok (.aload_n 0, 1) := by decide +kernel
theorem dL_law_462 : decode cL_law 462 = .ok (.iload_n 3, 1) := by decide +kernel
theorem dL_law_463 : decode cL_law 463 = .ok (.iconst 5, 1) := by decide +kernel
theorem dL_law_464 : decode cL_law 464 = .ok (.iadd, 1) := by decide +kernel
theorem dL_law_465 : decode cL_law 465 = .ok (.iaload, 1) := by decide +kernel
theorem dL_law_466 : decode cL_law 466 = .ok (.invokevirtual 48, 3) := by decide +kernel
theorem mw_351 : Cond.methodLink RL 48 yX12_pour ∈ wsL_law := inr_15 _ (List.mem_of_getElem? (i := 15) rfl)
theorem mw_354 : Cond.code yX12_pour cX12_pour 8 (some .boolean) ∈ wsL_law := inr_15 _ (List.mem_of_getElem? (i := 18) rfl)
theorem yk_X12_pour : xY yX12_pour RX12 cX12_pour 8 (some .boolean) 5 := ⟨⟨rfl, by decide +kernel, by decide +kernel, by decide +kernel⟩, mw_5, mw_354⟩
theorem mw_352 : Cond.instanceMethod yX12_pour ∈ wsL_law := inr_15 _ (List.mem_of_getElem? (i := 16) rfl)
theorem mw_353 : Cond.selects RX12 yX12_pour yX12_pour ∈ wsL_law := inr_15 _ (List.mem_of_getElem? (i := 17) rfl)
theorem dL_law_469 : decode cL_law 469 = .ok (.if_icmp .eq 1294, 3) := by decide +kernel
theorem dL_law_474 : decode cL_law 474 = .ok (.aload_n 1, 1) := by decide +kernel
theorem dL_law_475 : decode cL_law 475 = .ok (.aload_n 0, 1) := by decide +kernel
theorem dL_law_476 : decode cL_law 476 = .ok (.iload_n 3, 1) := by decide +kernel
theorem dL_law_477 : decode cL_law 477 = .ok (.iconst 1, 1) := by decide +kernel
theorem dL_law_478 : decode cL_law 478 = .ok (.iadd, 1) := by decide +kernel
theorem dL_law_479 : decode cL_law 479 = .ok (.iaload, 1) := by decide +kernel
theorem dL_law_480 : decode cL_law 480 = .ok (.aload_n 0, 1) := by decide +kernel
theorem dL_law_481 : decode cL_law 481 = .ok (.iload_n 3, 1) := by decide +kernel
theorem dL_law_482 : decode cL_law 482 = .ok (.iconst 2, 1) := by decide +kernel
theorem dL_law_483 : decode cL_law 483 = .ok (.iadd, 1) := by decide +kernel
theorem dL_law_484 : decode cL_law 484 = .ok (.iaload, 1) := by decide +kernel
theorem dL_law_485 : decode cL_law 485 = .ok (.aload_n 0, 1) := by decide +kernel
theorem dL_law_486 : decode cL_law 486 = .ok (.iload_n 3, 1) := by decide +kernel
theorem dL_law_487 : decode cL_law 487 = .ok (.iconst 3, 1) := by decide +kernel
theorem dL_law_488 : decode cL_law 488 = .ok (.iadd, 1) := by decide +kernel
theorem dL_law_489 : decode cL_law 489 = .ok (.iaload, 1) := by decide +kernel
theorem dL_law_490 : decode cL_law 490 = .ok (.aload_n 0, 1) := by decide +kernel
theorem dL_law_491 : decode cL_law 491 = .ok (.iload_n 3, 1) := by decide +kernel
theorem dL_law_492 : decode cL_law 492 = .ok (.iconst 4, 1) := by decide +kernel
theorem dL_law_493 : decode cL_law 493 = .ok (.iadd, 1) := by decide +kernel
theorem dL_law_494 : decode cL_law 494 = .ok (.iaload, 1) := by decide +kernel
theorem dL_law_495 : decode cL_law 495 = .ok (.aload_n 0, 1) := by decide +kernel
theorem dL_law_496 : decode cL_law 496 = .ok (.iload_n 3, 1) := by decide +kernel
theorem dL_law_497 : decode cL_law 497 = .ok (.iconst 5, 1) := by decide +kernel
theorem dL_law_498 : decode cL_law 498 = .ok (.iadd, 1) := by decide +kernel
theorem dL_law_499 : decode cL_law 499 = .ok (.iaload, 1) := by decide +kernel
theorem dL_law_500 : decode cL_law 500 = .ok (.invokevirtual 49, 3) := by decide +kernel
theorem mw_355 : Cond.methodLink RL 49 yX11_feed ∈ wsL_law := inr_15 _ (List.mem_of_getElem? (i := 19) rfl)
theorem mw_358 : Cond.code yX11_feed cX11_feed 6 (some .int) ∈ wsL_law := inr_15 _ (List.mem_of_getElem? (i := 22) rfl)
theorem yk_X11_feed : xY yX11_feed RX11 cX11_feed 6 (some .int) 5 := ⟨⟨rfl, by decide +kernel, by decide +kernel, by decide +kernel⟩, mw_2, mw_358⟩
theorem mw_356 : Cond.instanceMethod yX11_feed ∈ wsL_law := inr_15 _ (List.mem_of_getElem? (i := 20) rfl)
theorem mw_357 : Cond.selects RX11 yX11_feed yX11_feed ∈ wsL_law := inr_15 _ (List.mem_of_getElem? (i := 21) rfl)
theorem dL_law_503 : decode cL_law 503 = .ok (.aload_n 2, 1) := by decide +kernel
theorem dL_law_504 : decode cL_law 504 = .ok (.aload_n 0, 1) := by decide +kernel
theorem dL_law_505 : decode cL_law 505 = .ok (.iload_n 3, 1) := by decide +kernel
theorem dL_law_506 : decode cL_law 506 = .ok (.iconst 1, 1) := by decide +kernel
theorem dL_law_507 : decode cL_law 507 = .ok (.iadd, 1) := by decide +kernel
theorem dL_law_508 : decode cL_law 508 = .ok (.iaload, 1) := by decide +kernel
theorem dL_law_509 : decode cL_law 509 = .ok (.aload_n 0, 1) := by decide +kernel
theorem dL_law_510 : decode cL_law 510 = .ok (.iload_n 3, 1) := by decide +kernel
theorem dL_law_511 : decode cL_law 511 = .ok (.iconst 2, 1) := by decide +kernel
theorem dL_law_512 : decode cL_law 512 = .ok (.iadd, 1) := by decide +kernel
theorem dL_law_513 : decode cL_law 513 = .ok (.iaload, 1) := by decide +kernel
theorem dL_law_514 : decode cL_law 514 = .ok (.aload_n 0, 1) := by decide +kernel
theorem dL_law_515 : decode cL_law 515 = .ok (.iload_n 3, 1) := by decide +kernel
theorem dL_law_516 : decode cL_law 516 = .ok (.iconst 3, 1) := by decide +kernel
theorem dL_law_517 : decode cL_law 517 = .ok (.iadd, 1) := by decide +kernel
theorem dL_law_518 : decode cL_law 518 = .ok (.iaload, 1) := by decide +kernel
theorem dL_law_519 : decode cL_law 519 = .ok (.aload_n 0, 1) := by decide +kernel
theorem dL_law_520 : decode cL_law 520 = .ok (.iload_n 3, 1) := by decide +kernel
theorem dL_law_521 : decode cL_law 521 = .ok (.iconst 4, 1) := by decide +kernel
theorem dL_law_522 : decode cL_law 522 = .ok (.iadd, 1) := by decide +kernel
theorem dL_law_523 : decode cL_law 523 = .ok (.iaload, 1) := by decide +kernel
theorem dL_law_524 : decode cL_law 524 = .ok (.aload_n 0, 1) := by decide +kernel
theorem dL_law_525 : decode cL_law 525 = .ok (.iload_n 3, 1) := by decide +kernel
theorem dL_law_526 : decode cL_law 526 = .ok (.iconst 5, 1) := by decide +kernel
theorem dL_law_527 : decode cL_law 527 = .ok (.iadd, 1) := by decide +kernel
theorem dL_law_528 : decode cL_law 528 = .ok (.iaload, 1) := by decide +kernel
theorem dL_law_529 : decode cL_law 529 = .ok (.invokevirtual 53, 3) := by decide +kernel
theorem mw_363 : Cond.methodLink RL 53 yX12_feed ∈ wsL_law := inr_16 _ (List.mem_of_getElem? (i := 3) rfl)
theorem mw_366 : Cond.code yX12_feed cX12_feed 6 (some .int) ∈ wsL_law := inr_16 _ (List.mem_of_getElem? (i := 6) rfl)
theorem yk_X12_feed : xY yX12_feed RX12 cX12_feed 6 (some .int) 5 := ⟨⟨rfl, by decide +kernel, by decide +kernel, by decide +kernel⟩, mw_5, mw_366⟩
theorem mw_364 : Cond.instanceMethod yX12_feed ∈ wsL_law := inr_16 _ (List.mem_of_getElem? (i := 4) rfl)
theorem mw_365 : Cond.selects RX12 yX12_feed yX12_feed ∈ wsL_law := inr_16 _ (List.mem_of_getElem? (i := 5) rfl)
theorem dL_law_532 : decode cL_law 532 = .ok (.if_icmp .eq 1231, 3) := by decide +kernel
theorem dL_law_537 : decode cL_law 537 = .ok (.aload_n 1, 1) := by decide +kernel
theorem dL_law_538 : decode cL_law 538 = .ok (.aload_n 0, 1) := by decide +kernel
theorem dL_law_539 : decode cL_law 539 = .ok (.iload_n 3, 1) := by decide +kernel
theorem dL_law_540 : decode cL_law 540 = .ok (.iconst 1, 1) := by decide +kernel
theorem dL_law_541 : decode cL_law 541 = .ok (.iadd, 1) := by decide +kernel
theorem dL_law_542 : decode cL_law 542 = .ok (.iaload, 1) := by decide +kernel
theorem dL_law_543 : decode cL_law 543 = .ok (.invokevirtual 54, 3) := by decide +kernel
theorem mw_372 : Cond.methodLink RL 54 yX11_line ∈ wsL_law := inr_16 _ (List.mem_of_getElem? (i := 12) rfl)
theorem mw_375 : Cond.code yX11_line cX11_line 2 (some .int) ∈ wsL_law := inr_16 _ (List.mem_of_getElem? (i := 15) rfl)
theorem yk_X11_line : xY yX11_line RX11 cX11_line 2 (some .int) 1 := ⟨⟨rfl, by decide +kernel, by decide +kernel, by decide +kernel⟩, mw_2, mw_375⟩
theorem mw_373 : Cond.instanceMethod yX11_line ∈ wsL_law := inr_16 _ (List.mem_of_getElem? (i := 13) rfl)
theorem mw_374 : Cond.selects RX11 yX11_line yX11_line ∈ wsL_law := inr_16 _ (List.mem_of_getElem? (i := 14) rfl)
theorem dL_law_546 : decode cL_law 546 = .ok (.aload_n 2, 1) := by decide +kernel
theorem dL_law_547 : decode cL_law 547 = .ok (.aload_n 0, 1) := by decide +kernel
theorem dL_law_548 : decode cL_law 548 = .ok (.iload_n 3, 1) := by decide +kernel
theorem dL_law_549 : decode cL_law 549 = .ok (.iconst 1, 1) := by decide +kernel
theorem dL_law_550 : decode cL_law 550 = .ok (.iadd, 1) := by decide +kernel
theorem dL_law_551 : decode cL_law 551 = .ok (.iaload, 1) := by decide +kernel
theorem dL_law_552 : decode cL_law 552 = .ok (.invokevirtual 58, 3) := by decide +kernel
theorem mw_446 : Cond.methodLink RL 58 yX12_line ∈ wsL_law := inr_19 _ (List.mem_of_getElem? (i := 14) rfl)
theorem mw_449 : Cond.code yX12_line cX12_line 5 (some .int) ∈ wsL_law := inr_19 _ (List.mem_of_getElem? (i := 17) rfl)
theorem yk_X12_line : xY yX12_line RX12 cX12_line 5 (some .int) 1 := ⟨⟨rfl, by decide +kernel, by decide +kernel, by decide +kernel⟩, mw_5, mw_449⟩
theorem mw_447 : Cond.instanceMethod yX12_line ∈ wsL_law := inr_19 _ (List.mem_of_getElem? (i := 15) rfl)
theorem mw_448 : Cond.selects RX12 yX12_line yX12_line ∈ wsL_law := inr_19 _ (List.mem_of_getElem? (i := 16) rfl)
theorem dL_law_555 : decode cL_law 555 = .ok (.if_icmp .eq 1208, 3) := by decide +kernel
theorem dL_law_560 : decode cL_law 560 = .ok (.aload_n 1, 1) := by decide +kernel
theorem dL_law_561 : decode cL_law 561 = .ok (.aload_n 0, 1) := by decide +kernel
theorem dL_law_562 : decode cL_law 562 = .ok (.iload_n 3, 1) := by decide +kernel
theorem dL_law_563 : decode cL_law 563 = .ok (.iconst 1, 1) := by decide +kernel
theorem dL_law_564 : decode cL_law 564 = .ok (.iadd, 1) := by decide +kernel
theorem dL_law_565 : decode cL_law 565 = .ok (.iaload, 1) := by decide +kernel
theorem dL_law_566 : decode cL_law 566 = .ok (.aload_n 0, 1) := by decide +kernel
theorem dL_law_567 : decode cL_law 567 = .ok (.iload_n 3, 1) := by decide +kernel
theorem dL_law_568 : decode cL_law 568 = .ok (.iconst 2, 1) := by decide +kernel
theorem dL_law_569 : decode cL_law 569 = .ok (.iadd, 1) := by decide +kernel
theorem dL_law_570 : decode cL_law 570 = .ok (.iaload, 1) := by decide +kernel
theorem dL_law_571 : decode cL_law 571 = .ok (.invokevirtual 59, 3) := by decide +kernel
theorem mw_503 : Cond.methodLink RL 59 yX11_script ∈ wsL_law := inr_21 _ (List.mem_of_getElem? (i := 23) rfl)
theorem mw_506 : Cond.code yX11_script cX11_script 5 (some .int) ∈ wsL_law := inr_22 _ (List.mem_of_getElem? (i := 2) rfl)
theorem yk_X11_script : xY yX11_script RX11 cX11_script 5 (some .int) 2 := ⟨⟨rfl, by decide +kernel, by decide +kernel, by decide +kernel⟩, mw_2, mw_506⟩
theorem mw_504 : Cond.instanceMethod yX11_script ∈ wsL_law := inr_22 _ (List.mem_of_getElem? (i := 0) rfl)
theorem mw_505 : Cond.selects RX11 yX11_script yX11_script ∈ wsL_law := inr_22 _ (List.mem_of_getElem? (i := 1) rfl)
theorem dL_law_574 : decode cL_law 574 = .ok (.aload_n 2, 1) := by decide +kernel
theorem dL_law_575 : decode cL_law 575 = .ok (.aload_n 0, 1) := by decide +kernel
theorem dL_law_576 : decode cL_law 576 = .ok (.iload_n 3, 1) := by decide +kernel
theorem dL_law_577 : decode cL_law 577 = .ok (.iconst 1, 1) := by decide +kernel
theorem dL_law_578 : decode cL_law 578 = .ok (.iadd, 1) := by decide +kernel
theorem dL_law_579 : decode cL_law 579 = .ok (.iaload, 1) := by decide +kernel
theorem dL_law_580 : decode cL_law 580 = .ok (.aload_n 0, 1) := by decide +kernel
theorem dL_law_581 : decode cL_law 581 = .ok (.iload_n 3, 1) := by decide +kernel
theorem dL_law_582 : decode cL_law 582 = .ok (.iconst 2, 1) := by decide +kernel
theorem dL_law_583 : decode cL_law 583 = .ok (.iadd, 1) := by decide +kernel
theorem dL_law_584 : decode cL_law 584 = .ok (.iaload, 1) := by decide +kernel
theorem dL_law_585 : decode cL_law 585 = .ok (.invokevirtual 63, 3) := by decide +kernel
theorem mw_630 : Cond.methodLink RL 63 yX12_script ∈ wsL_law := inr_27 _ (List.mem_of_getElem? (i := 6) rfl)
theorem mw_633 : Cond.code yX12_script cX12_script 5 (some .int) ∈ wsL_law := inr_27 _ (List.mem_of_getElem? (i := 9) rfl)
theorem yk_X12_script : xY yX12_script RX12 cX12_script 5 (some .int) 2 := ⟨⟨rfl, by decide +kernel, by decide +kernel, by decide +kernel⟩, mw_5, mw_633⟩
theorem mw_631 : Cond.instanceMethod yX12_script ∈ wsL_law := inr_27 _ (List.mem_of_getElem? (i := 7) rfl)
theorem mw_632 : Cond.selects RX12 yX12_script yX12_script ∈ wsL_law := inr_27 _ (List.mem_of_getElem? (i := 8) rfl)
theorem dL_law_588 : decode cL_law 588 = .ok (.if_icmp .eq 1175, 3) := by decide +kernel
theorem dL_law_593 : decode cL_law 593 = .ok (.aload_n 1, 1) := by decide +kernel
theorem dL_law_594 : decode cL_law 594 = .ok (.aload_n 0, 1) := by decide +kernel
theorem dL_law_595 : decode cL_law 595 = .ok (.iload_n 3, 1) := by decide +kernel
theorem dL_law_596 : decode cL_law 596 = .ok (.iconst 1, 1) := by decide +kernel
theorem dL_law_597 : decode cL_law 597 = .ok (.iadd, 1) := by decide +kernel
theorem dL_law_598 : decode cL_law 598 = .ok (.iaload, 1) := by decide +kernel
theorem dL_law_599 : decode cL_law 599 = .ok (.invokevirtual 64, 3) := by decide +kernel
theorem mw_753 : Cond.methodLink RL 64 yX11_fault ∈ wsL_law := inr_32 _ (List.mem_of_getElem? (i := 9) rfl)
theorem mw_756 : Cond.code yX11_fault cX11_fault 2 (some .int) ∈ wsL_law := inr_32 _ (List.mem_of_getElem? (i := 12) rfl)
theorem yk_X11_fault : xY yX11_fault RX11 cX11_fault 2 (some .int) 1 := ⟨⟨rfl, by decide +kernel, by decide +kernel, by decide +kernel⟩, mw_2, mw_756⟩
theorem mw_754 : Cond.instanceMethod yX11_fault ∈ wsL_law := inr_32 _ (List.mem_of_getElem? (i := 10) rfl)
theorem mw_755 : Cond.selects RX11 yX11_fault yX11_fault ∈ wsL_law := inr_32 _ (List.mem_of_getElem? (i := 11) rfl)
theorem dL_law_602 : decode cL_law 602 = .ok (.aload_n 2, 1) := by decide +kernel
theorem dL_law_603 : decode cL_law 603 = .ok (.aload_n 0, 1) := by decide +kernel
theorem dL_law_604 : decode cL_law 604 = .ok (.iload_n 3, 1) := by decide +kernel
theorem dL_law_605 : decode cL_law 605 = .ok (.iconst 1, 1) := by decide +kernel
theorem dL_law_606 : decode cL_law 606 = .ok (.iadd, 1) := by decide +kernel
theorem dL_law_607 : decode cL_law 607 = .ok (.iaload, 1) := by decide +kernel
theorem dL_law_608 : decode cL_law 608 = .ok (.invokevirtual 67, 3) := by decide +kernel
theorem mw_759 : Cond.methodLink RL 67 yX12_fault ∈ wsL_law := inr_32 _ (List.mem_of_getElem? (i := 15) rfl)
theorem mw_762 : Cond.code yX12_fault cX12_fault 2 (some .int) ∈ wsL_law := inr_32 _ (List.mem_of_getElem? (i := 18) rfl)
theorem yk_X12_fault : xY yX12_fault RX12 cX12_fault 2 (some .int) 1 := ⟨⟨rfl, by decide +kernel, by decide +kernel, by decide +kernel⟩, mw_5, mw_762⟩
theorem mw_760 : Cond.instanceMethod yX12_fault ∈ wsL_law := inr_32 _ (List.mem_of_getElem? (i := 16) rfl)
theorem mw_761 : Cond.selects RX12 yX12_fault yX12_fault ∈ wsL_law := inr_32 _ (List.mem_of_getElem? (i := 17) rfl)
theorem dL_law_611 : decode cL_law 611 = .ok (.if_icmp .eq 1152, 3) := by decide +kernel
set_option maxHeartbeats 4000000 in
set_option maxRecDepth 100000 in
theorem law_c0 {p : Program} {l : Launch} {e : Env} {s : State} {m : MethodId} {below : List Frame} {meth : Method} {c : Code} {b : Nat} {xs : Nat → Int32} {D : va_G} {cy : Nat → ClassId} {A : Nat → Prop} {H : Heap} {locs : List Loc} {ls : Array Slot} {q r : Nat} {u v : Nat → Nat} (F : CallFix p m c cL_law 4 s #[Value.ref b] wsL_law RL) (hr : meth.sig.returnType = ret) (hlocks : meth.locks = false) (hX : va_X b 6 xs s s.heap) (hbl : b < s.heap.size) (hAs : ∀ q, A q → s.heap.size ≤ q) (h : xS D cy A s.heap (askW cy q u ++ modW cy r v) s H locs) (hl : lv_has ls 4 [(3, .int 0), (2, .ref r), (1, .ref q), (0, .ref b)]) : W p l e room_1 s m #[Value.ref b] below meth c H locs 857 99087 (lw_Z below #[Value.ref b] s) (F0 m 220 ls []) := by
  have hbA : ¬ A b := fun ha => absurd (hAs b ha) (Nat.not_le.mpr hbl)
  have h : xS D cy A s.heap ([(q, .inr (11, [.ref ((u 0)), .ref ((u 1)), .ref ((u 2)), .ref ((u 3)), .ref ((u 4)), .ref ((u 5)), .ref ((u 6)), .ref ((u 7)), .ref ((u 8)), .ref ((u 9)), .int 0, .int 0, .int (-1), .int 0, .int 0, .long 0, .long 1])), (r, .inr (12, (.ref ((v 0)) :: .int 0 :: .long 0 :: .long 1 :: .ref ((v 1)) :: .ref ((v 2)) :: .ref ((v 3)) :: .ref ((v 4)) :: .ref ((v 5)) :: .int 0 :: .int 0 :: .int 0 :: .int 0 :: .int 0 :: .int 0 :: .int (-1) :: .int (-1) :: .int 0 :: .ref ((v 6)) :: .int 0 :: .int 0 :: .ref ((v 7)) :: .ref ((v 8)) :: .ref ((v 9)) :: .ref ((v 10)) :: .ref ((v 11)) :: .ref ((v 12)) :: .ref ((v 13)) :: .int 0 :: .int 0 :: .int (-1) :: .int 0 :: .int (-1) :: .int 0 :: .ref ((v 14)) :: .int 0 :: .int 0 :: .int 0 :: .int 0 :: .int 0 :: .ref ((v 15)) :: .ref ((v 16)) :: .int 0 :: .int (-1) :: .int 0 :: .int 0 :: .int 0 :: .int 0 :: .ref ((v 17)) :: .ref ((v 18)) :: .ref ((v 19)) :: .int 0 :: .ref ((v 20)) :: .ref ((v 21)) :: .int 0 :: .ref ((v 22)) :: .int (-1) :: .int 0 :: .ref ((v 23)) :: .int (-1) :: .int (-1) :: .int 0 :: .ref ((v 24)) :: .ref ((v 25)) :: .int 0 :: [])))]) s H locs := h.sub [0, 146] (by decide +kernel) rfl
  refine lv_aload_n F.1 F.2.1 dL_law_220 rfl (lv_at hl 2 rfl) ?_
  refine x_Vi (wr := [(r, .inr (12, (.ref ((v 0)) :: .int 0 :: .long 0 :: .long 1 :: .ref ((v 1)) :: .ref ((v 2)) :: .ref ((v 3)) :: .ref ((v 4)) :: .ref ((v 5)) :: .int 0 :: .int 0 :: .int 0 :: .int 0 :: .int 0 :: .int 0 :: .int (-1) :: .int (-1) :: .int 0 :: .ref ((v 6)) :: .int 0 :: .int 0 :: .ref ((v 7)) :: .ref ((v 8)) :: .ref ((v 9)) :: .ref ((v 10)) :: .ref ((v 11)) :: .ref ((v 12)) :: .ref ((v 13)) :: .int 0 :: .int 0 :: .int (-1) :: .int 0 :: .int (-1) :: .int 0 :: .ref ((v 14)) :: .int 0 :: .int 0 :: .int 0 :: .int 0 :: .int 0 :: .ref ((v 15)) :: .ref ((v 16)) :: .int 0 :: .int (-1) :: .int 0 :: .int 0 :: .int 0 :: .int 0 :: .ref ((v 17)) :: .ref ((v 18)) :: .ref ((v 19)) :: .int 0 :: .ref ((v 20)) :: .ref ((v 21)) :: .int 0 :: .ref ((v 22)) :: .int (-1) :: .int 0 :: .ref ((v 23)) :: .int (-1) :: .int (-1) :: .int 0 :: .ref ((v 24)) :: .ref ((v 25)) :: .int 0 :: [])))]) F h yk_X11_status mw_238 mw_239 mw_240 (c_status l D cy q u ) [0] [1] 0 rfl rfl rfl rfl (by decide) rfl rfl hl.1 rfl (Nat.le_of_ble_eq_true rfl) ⟨Nat.le_of_ble_eq_true rfl, Nat.le_of_ble_eq_true rfl⟩ ⟨Nat.le_of_ble_eq_true rfl, Nat.le_of_ble_eq_true rfl⟩ dL_law_221 (fun r2 u3 H locs hp1 h => ?_)
  have h : xS D cy A s.heap ([(r, .inr (12, (.ref ((v 0)) :: .int 0 :: .long 0 :: .long 1 :: .ref ((v 1)) :: .ref ((v 2)) :: .ref ((v 3)) :: .ref ((v 4)) :: .ref ((v 5)) :: .int 0 :: .int 0 :: .int 0 :: .int 0 :: .int 0 :: .int 0 :: .int (-1) :: .int (-1) :: .int 0 :: .ref ((v 6)) :: .int 0 :: .int 0 :: .ref ((v 7)) :: .ref ((v 8)) :: .ref ((v 9)) :: .ref ((v 10)) :: .ref ((v 11)) :: .ref ((v 12)) :: .ref ((v 13)) :: .int 0 :: .int 0 :: .int (-1) :: .int 0 :: .int (-1) :: .int 0 :: .ref ((v 14)) :: .int 0 :: .int 0 :: .int 0 :: .int 0 :: .int 0 :: .ref ((v 15)) :: .ref ((v 16)) :: .int 0 :: .int (-1) :: .int 0 :: .int 0 :: .int 0 :: .int 0 :: .ref ((v 17)) :: .ref ((v 18)) :: .ref ((v 19)) :: .int 0 :: .ref ((v 20)) :: .ref ((v 21)) :: .int 0 :: .ref ((v 22)) :: .int (-1) :: .int 0 :: .ref ((v 23)) :: .int (-1) :: .int (-1) :: .int 0 :: .ref ((v 24)) :: .ref ((v 25)) :: .int 0 :: [])))]) s H locs := h
  obtain rfl : r2 = 0 := hp1
  refine lv_aload_n F.1 F.2.1 dL_law_224 rfl (lv_at hl 1 rfl) ?_
  refine x_Vi (wr := []) F h yk_X12_status mw_242 mw_243 mw_244 (c_m_status l D cy r v ) [0] [] 0 rfl rfl rfl rfl (by decide) rfl rfl hl.1 rfl (Nat.le_of_ble_eq_true rfl) ⟨Nat.le_of_ble_eq_true rfl, Nat.le_of_ble_eq_true rfl⟩ ⟨Nat.le_of_ble_eq_true rfl, Nat.le_of_ble_eq_true rfl⟩ dL_law_225 (fun r5 u6 H locs hp4 h => ?_)
  have h : xS D cy A s.heap ([]) s H locs := h
  obtain rfl : r5 = 0 := hp4
  refine lv_icmp_eq (tgt := 1763) F.1 F.2.1 dL_law_228 (by decide) (fun _ => ?_) (fun hc => absurd (by decide) hc)
  exact law_end F hr hlocks hX hbl hAs h (lv_sub hl [0, 3] rfl)
set_option maxHeartbeats 4000000 in
set_option maxRecDepth 100000 in
theorem law_c1 {p : Program} {l : Launch} {e : Env} {s : State} {m : MethodId} {below : List Frame} {meth : Method} {c : Code} {b : Nat} {xs : Nat → Int32} {D : va_G} {cy : Nat → ClassId} {A : Nat → Prop} {H : Heap} {locs : List Loc} {ls : Array Slot} {q r : Nat} {u v : Nat → Nat} (F : CallFix p m c cL_law 4 s #[Value.ref b] wsL_law RL) (hr : meth.sig.returnType = ret) (hlocks : meth.locks = false) (hX : va_X b 6 xs s s.heap) (hbl : b < s.heap.size) (hAs : ∀ q, A q → s.heap.size ≤ q) (h : xS D cy A s.heap (askW cy q u ++ modW cy r v) s H locs) (hl : lv_has ls 4 [(3, .int 0), (2, .ref r), (1, .ref q), (0, .ref b)]) : W p l e room_1 s m #[Value.ref b] below meth c H locs 857 99087 (lw_Z below #[Value.ref b] s) (F0 m 233 ls []) := by
  have hbA : ¬ A b := fun ha => absurd (hAs b ha) (Nat.not_le.mpr hbl)
  have h : xS D cy A s.heap ([(q, .inr (11, [.ref ((u 0)), .ref ((u 1)), .ref ((u 2)), .ref ((u 3)), .ref ((u 4)), .ref ((u 5)), .ref ((u 6)), .ref ((u 7)), .ref ((u 8)), .ref ((u 9)), .int 0, .int 0, .int (-1), .int 0, .int 0, .long 0, .long 1])), (r, .inr (12, (.ref ((v 0)) :: .int 0 :: .long 0 :: .long 1 :: .ref ((v 1)) :: .ref ((v 2)) :: .ref ((v 3)) :: .ref ((v 4)) :: .ref ((v 5)) :: .int 0 :: .int 0 :: .int 0 :: .int 0 :: .int 0 :: .int 0 :: .int (-1) :: .int (-1) :: .int 0 :: .ref ((v 6)) :: .int 0 :: .int 0 :: .ref ((v 7)) :: .ref ((v 8)) :: .ref ((v 9)) :: .ref ((v 10)) :: .ref ((v 11)) :: .ref ((v 12)) :: .ref ((v 13)) :: .int 0 :: .int 0 :: .int (-1) :: .int 0 :: .int (-1) :: .int 0 :: .ref ((v 14)) :: .int 0 :: .int 0 :: .int 0 :: .int 0 :: .int 0 :: .ref ((v 15)) :: .ref ((v 16)) :: .int 0 :: .int (-1) :: .int 0 :: .int 0 :: .int 0 :: .int 0 :: .ref ((v 17)) :: .ref ((v 18)) :: .ref ((v 19)) :: .int 0 :: .ref ((v 20)) :: .ref ((v 21)) :: .int 0 :: .ref ((v 22)) :: .int (-1) :: .int 0 :: .ref ((v 23)) :: .int (-1) :: .int (-1) :: .int 0 :: .ref ((v 24)) :: .ref ((v 25)) :: .int 0 :: [])))]) s H locs := h.sub [0, 146] (by decide +kernel) rfl
  refine lv_aload_n F.1 F.2.1 dL_law_233 rfl (lv_at hl 2 rfl) ?_
  refine x_Vl (wr := [(r, .inr (12, (.ref ((v 0)) :: .int 0 :: .long 0 :: .long 1 :: .ref ((v 1)) :: .ref ((v 2)) :: .ref ((v 3)) :: .ref ((v 4)) :: .ref ((v 5)) :: .int 0 :: .int 0 :: .int 0 :: .int 0 :: .int 0 :: .int 0 :: .int (-1) :: .int (-1) :: .int 0 :: .ref ((v 6)) :: .int 0 :: .int 0 :: .ref ((v 7)) :: .ref ((v 8)) :: .ref ((v 9)) :: .ref ((v 10)) :: .ref ((v 11)) :: .ref ((v 12)) :: .ref ((v 13)) :: .int 0 :: .int 0 :: .int (-1) :: .int 0 :: .int (-1) :: .int 0 :: .ref ((v 14)) :: .int 0 :: .int 0 :: .int 0 :: .int 0 :: .int 0 :: .ref ((v 15)) :: .ref ((v 16)) :: .int 0 :: .int (-1) :: .int 0 :: .int 0 :: .int 0 :: .int 0 :: .ref ((v 17)) :: .ref ((v 18)) :: .ref ((v 19)) :: .int 0 :: .ref ((v 20)) :: .ref ((v 21)) :: .int 0 :: .ref ((v 22)) :: .int (-1) :: .int 0 :: .ref ((v 23)) :: .int (-1) :: .int (-1) :: .int 0 :: .ref ((v 24)) :: .ref ((v 25)) :: .int 0 :: [])))]) F h yk_X11_top mw_247 mw_248 mw_249 (c_top l D cy q u ) [0] [1] 0 rfl rfl rfl rfl (by decide) rfl rfl hl.1 rfl (Nat.le_of_ble_eq_true rfl) ⟨Nat.le_of_ble_eq_true rfl, Nat.le_of_ble_eq_true rfl⟩ ⟨Nat.le_of_ble_eq_true rfl, Nat.le_of_ble_eq_true rfl⟩ dL_law_234 (fun r2 u3 H locs hp1 h => ?_)
  have h : xS D cy A s.heap ([(r, .inr (12, (.ref ((v 0)) :: .int 0 :: .long 0 :: .long 1 :: .ref ((v 1)) :: .ref ((v 2)) :: .ref ((v 3)) :: .ref ((v 4)) :: .ref ((v 5)) :: .int 0 :: .int 0 :: .int 0 :: .int 0 :: .int 0 :: .int 0 :: .int (-1) :: .int (-1) :: .int 0 :: .ref ((v 6)) :: .int 0 :: .int 0 :: .ref ((v 7)) :: .ref ((v 8)) :: .ref ((v 9)) :: .ref ((v 10)) :: .ref ((v 11)) :: .ref ((v 12)) :: .ref ((v 13)) :: .int 0 :: .int 0 :: .int (-1) :: .int 0 :: .int (-1) :: .int 0 :: .ref ((v 14)) :: .int 0 :: .int 0 :: .int 0 :: .int 0 :: .int 0 :: .ref ((v 15)) :: .ref ((v 16)) :: .int 0 :: .int (-1) :: .int 0 :: .int 0 :: .int 0 :: .int 0 :: .ref ((v 17)) :: .ref ((v 18)) :: .ref ((v 19)) :: .int 0 :: .ref ((v 20)) :: .ref ((v 21)) :: .int 0 :: .ref ((v 22)) :: .int (-1) :: .int 0 :: .ref ((v 23)) :: .int (-1) :: .int (-1) :: .int 0 :: .ref ((v 24)) :: .ref ((v 25)) :: .int 0 :: [])))]) s H locs := h
  obtain rfl : r2 = 0 := hp1
  refine lv_aload_n F.1 F.2.1 dL_law_237 rfl (lv_at hl 1 rfl) ?_
  refine x_Vl (wr := []) F h yk_X12_top mw_251 mw_252 mw_253 (c_m_top l D cy r v ) [0] [] 0 rfl rfl rfl rfl (by decide) rfl rfl hl.1 rfl (Nat.le_of_ble_eq_true rfl) ⟨Nat.le_of_ble_eq_true rfl, Nat.le_of_ble_eq_true rfl⟩ ⟨Nat.le_of_ble_eq_true rfl, Nat.le_of_ble_eq_true rfl⟩ dL_law_238 (fun r5 u6 H locs hp4 h => ?_)
  have h : xS D cy A s.heap ([]) s H locs := h
  obtain rfl : r5 = 0 := hp4
  refine W.lcmp F.1 F.2.1 dL_law_241 ?_
  refine x_topi (y := 0) (by decide +kernel) ?_
  refine lv_if_eq (tgt := 1763) F.1 F.2.1 dL_law_242 (by decide) (fun _ => ?_) (fun hc => absurd (by decide) hc)
  exact law_end F hr hlocks hX hbl hAs h (lv_sub hl [0, 3] rfl)
set_option maxHeartbeats 4000000 in
set_option maxRecDepth 100000 in
theorem law_c2 {p : Program} {l : Launch} {e : Env} {s : State} {m : MethodId} {below : List Frame} {meth : Method} {c : Code} {b : Nat} {xs : Nat → Int32} {D : va_G} {cy : Nat → ClassId} {A : Nat → Prop} {H : Heap} {locs : List Loc} {ls : Array Slot} {q r : Nat} {u v : Nat → Nat} (F : CallFix p m c cL_law 4 s #[Value.ref b] wsL_law RL) (hr : meth.sig.returnType = ret) (hlocks : meth.locks = false) (hX : va_X b 6 xs s s.heap) (hbl : b < s.heap.size) (hAs : ∀ q, A q → s.heap.size ≤ q) (h : xS D cy A s.heap (askW cy q u ++ modW cy r v) s H locs) (hl : lv_has ls 4 [(3, .int 0), (2, .ref r), (1, .ref q), (0, .ref b)]) : W p l e room_1 s m #[Value.ref b] below meth c H locs 857 99087 (lw_Z below #[Value.ref b] s) (F0 m 247 ls []) := by
  have hbA : ¬ A b := fun ha => absurd (hAs b ha) (Nat.not_le.mpr hbl)
  have h : xS D cy A s.heap ([(q, .inr (11, [.ref ((u 0)), .ref ((u 1)), .ref ((u 2)), .ref ((u 3)), .ref ((u 4)), .ref ((u 5)), .ref ((u 6)), .ref ((u 7)), .ref ((u 8)), .ref ((u 9)), .int 0, .int 0, .int (-1), .int 0, .int 0, .long 0, .long 1])), (r, .inr (12, (.ref ((v 0)) :: .int 0 :: .long 0 :: .long 1 :: .ref ((v 1)) :: .ref ((v 2)) :: .ref ((v 3)) :: .ref ((v 4)) :: .ref ((v 5)) :: .int 0 :: .int 0 :: .int 0 :: .int 0 :: .int 0 :: .int 0 :: .int (-1) :: .int (-1) :: .int 0 :: .ref ((v 6)) :: .int 0 :: .int 0 :: .ref ((v 7)) :: .ref ((v 8)) :: .ref ((v 9)) :: .ref ((v 10)) :: .ref ((v 11)) :: .ref ((v 12)) :: .ref ((v 13)) :: .int 0 :: .int 0 :: .int (-1) :: .int 0 :: .int (-1) :: .int 0 :: .ref ((v 14)) :: .int 0 :: .int 0 :: .int 0 :: .int 0 :: .int 0 :: .ref ((v 15)) :: .ref ((v 16)) :: .int 0 :: .int (-1) :: .int 0 :: .int 0 :: .int 0 :: .int 0 :: .ref ((v 17)) :: .ref ((v 18)) :: .ref ((v 19)) :: .int 0 :: .ref ((v 20)) :: .ref ((v 21)) :: .int 0 :: .ref ((v 22)) :: .int (-1) :: .int 0 :: .ref ((v 23)) :: .int (-1) :: .int (-1) :: .int 0 :: .ref ((v 24)) :: .ref ((v 25)) :: .int 0 :: [])))]) s H locs := h.sub [0, 146] (by decide +kernel) rfl
  refine lv_aload_n F.1 F.2.1 dL_law_247 rfl (lv_at hl 2 rfl) ?_
  refine x_Vl (wr := [(r, .inr (12, (.ref ((v 0)) :: .int 0 :: .long 0 :: .long 1 :: .ref ((v 1)) :: .ref ((v 2)) :: .ref ((v 3)) :: .ref ((v 4)) :: .ref ((v 5)) :: .int 0 :: .int 0 :: .int 0 :: .int 0 :: .int 0 :: .int 0 :: .int (-1) :: .int (-1) :: .int 0 :: .ref ((v 6)) :: .int 0 :: .int 0 :: .ref ((v 7)) :: .ref ((v 8)) :: .ref ((v 9)) :: .ref ((v 10)) :: .ref ((v 11)) :: .ref ((v 12)) :: .ref ((v 13)) :: .int 0 :: .int 0 :: .int (-1) :: .int 0 :: .int (-1) :: .int 0 :: .ref ((v 14)) :: .int 0 :: .int 0 :: .int 0 :: .int 0 :: .int 0 :: .ref ((v 15)) :: .ref ((v 16)) :: .int 0 :: .int (-1) :: .int 0 :: .int 0 :: .int 0 :: .int 0 :: .ref ((v 17)) :: .ref ((v 18)) :: .ref ((v 19)) :: .int 0 :: .ref ((v 20)) :: .ref ((v 21)) :: .int 0 :: .ref ((v 22)) :: .int (-1) :: .int 0 :: .ref ((v 23)) :: .int (-1) :: .int (-1) :: .int 0 :: .ref ((v 24)) :: .ref ((v 25)) :: .int 0 :: [])))]) F h yk_X11_bottom mw_256 mw_257 mw_258 (c_bottom l D cy q u ) [0] [1] 0 rfl rfl rfl rfl (by decide) rfl rfl hl.1 rfl (Nat.le_of_ble_eq_true rfl) ⟨Nat.le_of_ble_eq_true rfl, Nat.le_of_ble_eq_true rfl⟩ ⟨Nat.le_of_ble_eq_true rfl, Nat.le_of_ble_eq_true rfl⟩ dL_law_248 (fun r2 u3 H locs hp1 h => ?_)
  have h : xS D cy A s.heap ([(r, .inr (12, (.ref ((v 0)) :: .int 0 :: .long 0 :: .long 1 :: .ref ((v 1)) :: .ref ((v 2)) :: .ref ((v 3)) :: .ref ((v 4)) :: .ref ((v 5)) :: .int 0 :: .int 0 :: .int 0 :: .int 0 :: .int 0 :: .int 0 :: .int (-1) :: .int (-1) :: .int 0 :: .ref ((v 6)) :: .int 0 :: .int 0 :: .ref ((v 7)) :: .ref ((v 8)) :: .ref ((v 9)) :: .ref ((v 10)) :: .ref ((v 11)) :: .ref ((v 12)) :: .ref ((v 13)) :: .int 0 :: .int 0 :: .int (-1) :: .int 0 :: .int (-1) :: .int 0 :: .ref ((v 14)) :: .int 0 :: .int 0 :: .int 0 :: .int 0 :: .int 0 :: .ref ((v 15)) :: .ref ((v 16)) :: .int 0 :: .int (-1) :: .int 0 :: .int 0 :: .int 0 :: .int 0 :: .ref ((v 17)) :: .ref ((v 18)) :: .ref ((v 19)) :: .int 0 :: .ref ((v 20)) :: .ref ((v 21)) :: .int 0 :: .ref ((v 22)) :: .int (-1) :: .int 0 :: .ref ((v 23)) :: .int (-1) :: .int (-1) :: .int 0 :: .ref ((v 24)) :: .ref ((v 25)) :: .int 0 :: [])))]) s H locs := h
  obtain rfl : r2 = 1 := hp1
  refine lv_aload_n F.1 F.2.1 dL_law_251 rfl (lv_at hl 1 rfl) ?_
  refine x_Vl (wr := []) F h yk_X12_bottom mw_260 mw_261 mw_262 (c_m_bottom l D cy r v ) [0] [] 0 rfl rfl rfl rfl (by decide) rfl rfl hl.1 rfl (Nat.le_of_ble_eq_true rfl) ⟨Nat.le_of_ble_eq_true rfl, Nat.le_of_ble_eq_true rfl⟩ ⟨Nat.le_of_ble_eq_true rfl, Nat.le_of_ble_eq_true rfl⟩ dL_law_252 (fun r5 u6 H locs hp4 h => ?_)
  have h : xS D cy A s.heap ([]) s H locs := h
  obtain rfl : r5 = 1 := hp4
  refine W.lcmp F.1 F.2.1 dL_law_255 ?_
  refine x_topi (y := 0) (by decide +kernel) ?_
  refine lv_if_eq (tgt := 1763) F.1 F.2.1 dL_law_256 (by decide) (fun _ => ?_) (fun hc => absurd (by decide) hc)
  exact law_end F hr hlocks hX hbl hAs h (lv_sub hl [0, 3] rfl)
set_option maxHeartbeats 4000000 in
set_option maxRecDepth 100000 in
theorem law_c3 {p : Program} {l : Launch} {e : Env} {s : State} {m : MethodId} {below : List Frame} {meth : Method} {c : Code} {b : Nat} {xs : Nat → Int32} {D : va_G} {cy : Nat → ClassId} {A : Nat → Prop} {H : Heap} {locs : List Loc} {ls : Array Slot} {q r : Nat} {u v : Nat → Nat} (F : CallFix p m c cL_law 4 s #[Value.ref b] wsL_law RL) (hr : meth.sig.returnType = ret) (hlocks : meth.locks = false) (hX : va_X b 6 xs s s.heap) (hbl : b < s.heap.size) (hAs : ∀ q, A q → s.heap.size ≤ q) (h : xS D cy A s.heap (askW cy q u ++ modW cy r v) s H locs) (hl : lv_has ls 4 [(3, .int 0), (2, .ref r), (1, .ref q), (0, .ref b)]) : W p l e room_1 s m #[Value.ref b] below meth c H locs 857 99087 (lw_Z below #[Value.ref b] s) (F0 m 261 ls []) := by
  have hbA : ¬ A b := fun ha => absurd (hAs b ha) (Nat.not_le.mpr hbl)
  have h : xS D cy A s.heap ([(q, .inr (11, [.ref ((u 0)), .ref ((u 1)), .ref ((u 2)), .ref ((u 3)), .ref ((u 4)), .ref ((u 5)), .ref ((u 6)), .ref ((u 7)), .ref ((u 8)), .ref ((u 9)), .int 0, .int 0, .int (-1), .int 0, .int 0, .long 0, .long 1])), (((u 0)), .inl (cy 9, 4, .inr (.inr (.inr (.inr (va_up (va_up (va_up (va_up (fun _ => none) 0 (some ((u 10)))) 1 (some ((u 11)))) 2 (some ((u 12)))) 3 (some ((u 13))))))))), (((u 10)), .inr (10, [.ref ((u 14)), .int (-1), .int 0])), (((u 11)), .inr (10, [.ref ((u 15)), .int (-1), .int 0])), (((u 12)), .inr (10, [.ref ((u 16)), .int (-1), .int 0])), (((u 13)), .inr (10, [.ref ((u 17)), .int (-1), .int 0])), (((u 14)), .inl (cy 2, 60, .inr (.inl (fun _ => 0)))), (((u 15)), .inl (cy 2, 60, .inr (.inl (fun _ => 0)))), (((u 16)), .inl (cy 2, 60, .inr (.inl (fun _ => 0)))), (((u 17)), .inl (cy 2, 60, .inr (.inl (fun _ => 0)))), (r, .inr (12, (.ref ((v 0)) :: .int 0 :: .long 0 :: .long 1 :: .ref ((v 1)) :: .ref ((v 2)) :: .ref ((v 3)) :: .ref ((v 4)) :: .ref ((v 5)) :: .int 0 :: .int 0 :: .int 0 :: .int 0 :: .int 0 :: .int 0 :: .int (-1) :: .int (-1) :: .int 0 :: .ref ((v 6)) :: .int 0 :: .int 0 :: .ref ((v 7)) :: .ref ((v 8)) :: .ref ((v 9)) :: .ref ((v 10)) :: .ref ((v 11)) :: .ref ((v 12)) :: .ref ((v 13)) :: .int 0 :: .int 0 :: .int (-1) :: .int 0 :: .int (-1) :: .int 0 :: .ref ((v 14)) :: .int 0 :: .int 0 :: .int 0 :: .int 0 :: .int 0 :: .ref ((v 15)) :: .ref ((v 16)) :: .int 0 :: .int (-1) :: .int 0 :: .int 0 :: .int 0 :: .int 0 :: .ref ((v 17)) :: .ref ((v 18)) :: .ref ((v 19)) :: .int 0 :: .ref ((v 20)) :: .ref ((v 21)) :: .int 0 :: .ref ((v 22)) :: .int (-1) :: .int 0 :: .ref ((v 23)) :: .int (-1) :: .int (-1) :: .int 0 :: .ref ((v 24)) :: .ref ((v 25)) :: .int 0 :: []))), (((v 1)), .inl (cy 1, 4, .inl (fun _ => 0))), (((v 2)), .inl (cy 1, 4, .inl (upd (upd (upd (upd (fun _ => 0) 0 (-1)) 1 (-1)) 2 (-1)) 3 (-1)))), (((v 3)), .inl (cy 2, 240, .inr (.inl (fun _ => 0))))]) s H locs := h.sub [0, 1, 4, 6, 8, 10, 5, 7, 9, 11, 146, 148, 149, 150] (by decide +kernel) rfl
  refine lv_aload_n F.1 F.2.1 dL_law_261 rfl (lv_at hl 2 rfl) ?_
  refine lv_aload_n F.1 F.2.1 dL_law_262 rfl (lv_at hl 3 rfl) ?_
  refine lv_iload_n F.1 F.2.1 dL_law_263 rfl (lv_at hl 0 rfl) ?_
  refine lv_iconst (v := 1) F.1 F.2.1 dL_law_264 (by decide) ?_
  refine lv_iadd F.1 F.2.1 dL_law_265 ?_
  refine x_topi (y := 1) (by decide +kernel) ?_
  refine va_sld F.1 F.2.1 hX hbl hbA h.2.2.2.1 (x_in (by decide +kernel)) dL_law_266 ?_
  refine x_topi (y := (xs 1)) rfl ?_
  refine lv_aload_n F.1 F.2.1 dL_law_267 rfl (lv_at hl 3 rfl) ?_
  refine lv_iload_n F.1 F.2.1 dL_law_268 rfl (lv_at hl 0 rfl) ?_
  refine lv_iconst (v := 2) F.1 F.2.1 dL_law_269 (by decide) ?_
  refine lv_iadd F.1 F.2.1 dL_law_270 ?_
  refine x_topi (y := 2) (by decide +kernel) ?_
  refine va_sld F.1 F.2.1 hX hbl hbA h.2.2.2.1 (x_in (by decide +kernel)) dL_law_271 ?_
  refine x_topi (y := (xs 2)) rfl ?_
  refine lv_aload_n F.1 F.2.1 dL_law_272 rfl (lv_at hl 3 rfl) ?_
  refine lv_iload_n F.1 F.2.1 dL_law_273 rfl (lv_at hl 0 rfl) ?_
  refine lv_iconst (v := 3) F.1 F.2.1 dL_law_274 (by decide) ?_
  refine lv_iadd F.1 F.2.1 dL_law_275 ?_
  refine x_topi (y := 3) (by decide +kernel) ?_
  refine va_sld F.1 F.2.1 hX hbl hbA h.2.2.2.1 (x_in (by decide +kernel)) dL_law_276 ?_
  refine x_topi (y := (xs 3)) rfl ?_
  refine x_Vi (wr := [(r, .inr (12, (.ref ((v 0)) :: .int 0 :: .long 0 :: .long 1 :: .ref ((v 1)) :: .ref ((v 2)) :: .ref ((v 3)) :: .ref ((v 4)) :: .ref ((v 5)) :: .int 0 :: .int 0 :: .int 0 :: .int 0 :: .int 0 :: .int 0 :: .int (-1) :: .int (-1) :: .int 0 :: .ref ((v 6)) :: .int 0 :: .int 0 :: .ref ((v 7)) :: .ref ((v 8)) :: .ref ((v 9)) :: .ref ((v 10)) :: .ref ((v 11)) :: .ref ((v 12)) :: .ref ((v 13)) :: .int 0 :: .int 0 :: .int (-1) :: .int 0 :: .int (-1) :: .int 0 :: .ref ((v 14)) :: .int 0 :: .int 0 :: .int 0 :: .int 0 :: .int 0 :: .ref ((v 15)) :: .ref ((v 16)) :: .int 0 :: .int (-1) :: .int 0 :: .int 0 :: .int 0 :: .int 0 :: .ref ((v 17)) :: .ref ((v 18)) :: .ref ((v 19)) :: .int 0 :: .ref ((v 20)) :: .ref ((v 21)) :: .int 0 :: .ref ((v 22)) :: .int (-1) :: .int 0 :: .ref ((v 23)) :: .int (-1) :: .int (-1) :: .int 0 :: .ref ((v 24)) :: .ref ((v 25)) :: .int 0 :: []))), (((v 1)), .inl (cy 1, 4, .inl (fun _ => 0))), (((v 2)), .inl (cy 1, 4, .inl (upd (upd (upd (upd (fun _ => 0) 0 (-1)) 1 (-1)) 2 (-1)) 3 (-1)))), (((v 3)), .inl (cy 2, 240, .inr (.inl (fun _ => 0))))]) F h yk_X11_tray mw_264 mw_265 mw_266 (c_tray l D cy q u ((xs 1)) ((xs 2)) ((xs 3))) [0, 1, 2, 3, 4, 5, 6, 7, 8, 9] [10, 11, 12, 13] 0 rfl rfl rfl rfl (by decide) rfl rfl hl.1 rfl (Nat.le_of_ble_eq_true rfl) ⟨Nat.le_of_ble_eq_true rfl, Nat.le_of_ble_eq_true rfl⟩ ⟨Nat.le_of_ble_eq_true rfl, Nat.le_of_ble_eq_true rfl⟩ dL_law_277 (fun r2 u3 H locs hp1 h => ?_)
  have h : xS D cy A s.heap ([(r, .inr (12, (.ref ((v 0)) :: .int 0 :: .long 0 :: .long 1 :: .ref ((v 1)) :: .ref ((v 2)) :: .ref ((v 3)) :: .ref ((v 4)) :: .ref ((v 5)) :: .int 0 :: .int 0 :: .int 0 :: .int 0 :: .int 0 :: .int 0 :: .int (-1) :: .int (-1) :: .int 0 :: .ref ((v 6)) :: .int 0 :: .int 0 :: .ref ((v 7)) :: .ref ((v 8)) :: .ref ((v 9)) :: .ref ((v 10)) :: .ref ((v 11)) :: .ref ((v 12)) :: .ref ((v 13)) :: .int 0 :: .int 0 :: .int (-1) :: .int 0 :: .int (-1) :: .int 0 :: .ref ((v 14)) :: .int 0 :: .int 0 :: .int 0 :: .int 0 :: .int 0 :: .ref ((v 15)) :: .ref ((v 16)) :: .int 0 :: .int (-1) :: .int 0 :: .int 0 :: .int 0 :: .int 0 :: .ref ((v 17)) :: .ref ((v 18)) :: .ref ((v 19)) :: .int 0 :: .ref ((v 20)) :: .ref ((v 21)) :: .int 0 :: .ref ((v 22)) :: .int (-1) :: .int 0 :: .ref ((v 23)) :: .int (-1) :: .int (-1) :: .int 0 :: .ref ((v 24)) :: .ref ((v 25)) :: .int 0 :: []))), (((v 1)), .inl (cy 1, 4, .inl (fun _ => 0))), (((v 2)), .inl (cy 1, 4, .inl (upd (upd (upd (upd (fun _ => 0) 0 (-1)) 1 (-1)) 2 (-1)) 3 (-1)))), (((v 3)), .inl (cy 2, 240, .inr (.inl (fun _ => 0))))]) s H locs := h
  refine lv_aload_n F.1 F.2.1 dL_law_280 rfl (lv_at hl 1 rfl) ?_
  refine lv_aload_n F.1 F.2.1 dL_law_281 rfl (lv_at hl 3 rfl) ?_
  refine lv_iload_n F.1 F.2.1 dL_law_282 rfl (lv_at hl 0 rfl) ?_
  refine lv_iconst (v := 1) F.1 F.2.1 dL_law_283 (by decide) ?_
  refine lv_iadd F.1 F.2.1 dL_law_284 ?_
  refine x_topi (y := 1) (by decide +kernel) ?_
  refine va_sld F.1 F.2.1 hX hbl hbA h.2.2.2.1 (x_in (by decide +kernel)) dL_law_285 ?_
  refine x_topi (y := (xs 1)) rfl ?_
  refine lv_aload_n F.1 F.2.1 dL_law_286 rfl (lv_at hl 3 rfl) ?_
  refine lv_iload_n F.1 F.2.1 dL_law_287 rfl (lv_at hl 0 rfl) ?_
  refine lv_iconst (v := 2) F.1 F.2.1 dL_law_288 (by decide) ?_
  refine lv_iadd F.1 F.2.1 dL_law_289 ?_
  refine x_topi (y := 2) (by decide +kernel) ?_
  refine va_sld F.1 F.2.1 hX hbl hbA h.2.2.2.1 (x_in (by decide +kernel)) dL_law_290 ?_
  refine x_topi (y := (xs 2)) rfl ?_
  refine lv_aload_n F.1 F.2.1 dL_law_291 rfl (lv_at hl 3 rfl) ?_
  refine lv_iload_n F.1 F.2.1 dL_law_292 rfl (lv_at hl 0 rfl) ?_
  refine lv_iconst (v := 3) F.1 F.2.1 dL_law_293 (by decide) ?_
  refine lv_iadd F.1 F.2.1 dL_law_294 ?_
  refine x_topi (y := 3) (by decide +kernel) ?_
  refine va_sld F.1 F.2.1 hX hbl hbA h.2.2.2.1 (x_in (by decide +kernel)) dL_law_295 ?_
  refine x_topi (y := (xs 3)) rfl ?_
  refine x_Vi (wr := []) F h yk_X12_tray mw_279 mw_280 mw_281 (c_m_tray l D cy r v ((xs 1)) ((xs 2)) ((xs 3))) [0, 1, 2, 3] [] 0 rfl rfl rfl rfl (by decide) rfl rfl hl.1 rfl (Nat.le_of_ble_eq_true rfl) ⟨Nat.le_of_ble_eq_true rfl, Nat.le_of_ble_eq_true rfl⟩ ⟨Nat.le_of_ble_eq_true rfl, Nat.le_of_ble_eq_true rfl⟩ dL_law_296 (fun r5 u6 H locs hp4 h => ?_)
  have h : xS D cy A s.heap ([]) s H locs := h
  refine lv_icmp_eq (tgt := 1763) F.1 F.2.1 dL_law_299 (by decide) (fun _ => ?_) (fun hc => absurd (hp1.trans hp4.symm) hc)
  exact law_end F hr hlocks hX hbl hAs h (lv_sub hl [0, 3] rfl)
set_option maxHeartbeats 4000000 in
set_option maxRecDepth 100000 in
theorem law_c4 {p : Program} {l : Launch} {e : Env} {s : State} {m : MethodId} {below : List Frame} {meth : Method} {c : Code} {b : Nat} {xs : Nat → Int32} {D : va_G} {cy : Nat → ClassId} {A : Nat → Prop} {H : Heap} {locs : List Loc} {ls : Array Slot} {q r : Nat} {u v : Nat → Nat} (F : CallFix p m c cL_law 4 s #[Value.ref b] wsL_law RL) (hr : meth.sig.returnType = ret) (hlocks : meth.locks = false) (hX : va_X b 6 xs s s.heap) (hbl : b < s.heap.size) (hAs : ∀ q, A q → s.heap.size ≤ q) (h : xS D cy A s.heap (askW cy q u ++ modW cy r v) s H locs) (hl : lv_has ls 4 [(3, .int 0), (2, .ref r), (1, .ref q), (0, .ref b)]) : W p l e room_1 s m #[Value.ref b] below meth c H locs 857 99087 (lw_Z below #[Value.ref b] s) (F0 m 304 ls []) := by
  have hbA : ¬ A b := fun ha => absurd (hAs b ha) (Nat.not_le.mpr hbl)
  have h : xS D cy A s.heap ([(q, .inr (11, [.ref ((u 0)), .ref ((u 1)), .ref ((u 2)), .ref ((u 3)), .ref ((u 4)), .ref ((u 5)), .ref ((u 6)), .ref ((u 7)), .ref ((u 8)), .ref ((u 9)), .int 0, .int 0, .int (-1), .int 0, .int 0, .long 0, .long 1])), (((u 0)), .inl (cy 9, 4, .inr (.inr (.inr (.inr (va_up (va_up (va_up (va_up (fun _ => none) 0 (some ((u 10)))) 1 (some ((u 11)))) 2 (some ((u 12)))) 3 (some ((u 13))))))))), (((u 10)), .inr (10, [.ref ((u 14)), .int (-1), .int 0])), (((u 11)), .inr (10, [.ref ((u 15)), .int (-1), .int 0])), (((u 12)), .inr (10, [.ref ((u 16)), .int (-1), .int 0])), (((u 13)), .inr (10, [.ref ((u 17)), .int (-1), .int 0])), (r, .inr (12, (.ref ((v 0)) :: .int 0 :: .long 0 :: .long 1 :: .ref ((v 1)) :: .ref ((v 2)) :: .ref ((v 3)) :: .ref ((v 4)) :: .ref ((v 5)) :: .int 0 :: .int 0 :: .int 0 :: .int 0 :: .int 0 :: .int 0 :: .int (-1) :: .int (-1) :: .int 0 :: .ref ((v 6)) :: .int 0 :: .int 0 :: .ref ((v 7)) :: .ref ((v 8)) :: .ref ((v 9)) :: .ref ((v 10)) :: .ref ((v 11)) :: .ref ((v 12)) :: .ref ((v 13)) :: .int 0 :: .int 0 :: .int (-1) :: .int 0 :: .int (-1) :: .int 0 :: .ref ((v 14)) :: .int 0 :: .int 0 :: .int 0 :: .int 0 :: .int 0 :: .ref ((v 15)) :: .ref ((v 16)) :: .int 0 :: .int (-1) :: .int 0 :: .int 0 :: .int 0 :: .int 0 :: .ref ((v 17)) :: .ref ((v 18)) :: .ref ((v 19)) :: .int 0 :: .ref ((v 20)) :: .ref ((v 21)) :: .int 0 :: .ref ((v 22)) :: .int (-1) :: .int 0 :: .ref ((v 23)) :: .int (-1) :: .int (-1) :: .int 0 :: .ref ((v 24)) :: .ref ((v 25)) :: .int 0 :: []))), (((v 2)), .inl (cy 1, 4, .inl (upd (upd (upd (upd (fun _ => 0) 0 (-1)) 1 (-1)) 2 (-1)) 3 (-1))))]) s H locs := h.sub [0, 1, 4, 6, 8, 10, 146, 149] (by decide +kernel) rfl
  refine lv_aload_n F.1 F.2.1 dL_law_304 rfl (lv_at hl 2 rfl) ?_
  refine lv_aload_n F.1 F.2.1 dL_law_305 rfl (lv_at hl 3 rfl) ?_
  refine lv_iload_n F.1 F.2.1 dL_law_306 rfl (lv_at hl 0 rfl) ?_
  refine lv_iconst (v := 1) F.1 F.2.1 dL_law_307 (by decide) ?_
  refine lv_iadd F.1 F.2.1 dL_law_308 ?_
  refine x_topi (y := 1) (by decide +kernel) ?_
  refine va_sld F.1 F.2.1 hX hbl hbA h.2.2.2.1 (x_in (by decide +kernel)) dL_law_309 ?_
  refine x_topi (y := (xs 1)) rfl ?_
  refine lv_aload_n F.1 F.2.1 dL_law_310 rfl (lv_at hl 3 rfl) ?_
  refine lv_iload_n F.1 F.2.1 dL_law_311 rfl (lv_at hl 0 rfl) ?_
  refine lv_iconst (v := 2) F.1 F.2.1 dL_law_312 (by decide) ?_
  refine lv_iadd F.1 F.2.1 dL_law_313 ?_
  refine x_topi (y := 2) (by decide +kernel) ?_
  refine va_sld F.1 F.2.1 hX hbl hbA h.2.2.2.1 (x_in (by decide +kernel)) dL_law_314 ?_
  refine x_topi (y := (xs 2)) rfl ?_
  refine lv_aload_n F.1 F.2.1 dL_law_315 rfl (lv_at hl 3 rfl) ?_
  refine lv_iload_n F.1 F.2.1 dL_law_316 rfl (lv_at hl 0 rfl) ?_
  refine lv_iconst (v := 3) F.1 F.2.1 dL_law_317 (by decide) ?_
  refine lv_iadd F.1 F.2.1 dL_law_318 ?_
  refine x_topi (y := 3) (by decide +kernel) ?_
  refine va_sld F.1 F.2.1 hX hbl hbA h.2.2.2.1 (x_in (by decide +kernel)) dL_law_319 ?_
  refine x_topi (y := (xs 3)) rfl ?_
  refine lv_i2l (v := (((xs 3)).toInt64)) F.1 F.2.1 dL_law_320 rfl ?_
  refine lv_bipush (v := 32) F.1 F.2.1 dL_law_321 (by decide) ?_
  refine lv_lshl (v := ((((xs 3)).toInt64) <<< ((32 : Int32).toInt64 &&& 63))) F.1 F.2.1 dL_law_323 rfl ?_
  refine lv_aload_n F.1 F.2.1 dL_law_324 rfl (lv_at hl 3 rfl) ?_
  refine lv_iload_n F.1 F.2.1 dL_law_325 rfl (lv_at hl 0 rfl) ?_
  refine lv_iconst (v := 4) F.1 F.2.1 dL_law_326 (by decide) ?_
  refine lv_iadd F.1 F.2.1 dL_law_327 ?_
  refine x_topi (y := 4) (by decide +kernel) ?_
  refine va_sld F.1 F.2.1 hX hbl hbA h.2.2.2.1 (x_in (by decide +kernel)) dL_law_328 ?_
  refine x_topi (y := (xs 4)) rfl ?_
  refine lv_i2l (v := (((xs 4)).toInt64)) F.1 F.2.1 dL_law_329 rfl ?_
  refine lv_ldc2 (v := 4294967295) F.1 F.2.1 F.2.2.2.1 (F.2.2.2.2 _ mw_6) dL_law_330 ?_
  refine lv_land F.1 F.2.1 dL_law_333 ?_
  refine lv_lor F.1 F.2.1 dL_law_334 ?_
  refine x_Vi (wr := [(r, .inr (12, (.ref ((v 0)) :: .int 0 :: .long 0 :: .long 1 :: .ref ((v 1)) :: .ref ((v 2)) :: .ref ((v 3)) :: .ref ((v 4)) :: .ref ((v 5)) :: .int 0 :: .int 0 :: .int 0 :: .int 0 :: .int 0 :: .int 0 :: .int (-1) :: .int (-1) :: .int 0 :: .ref ((v 6)) :: .int 0 :: .int 0 :: .ref ((v 7)) :: .ref ((v 8)) :: .ref ((v 9)) :: .ref ((v 10)) :: .ref ((v 11)) :: .ref ((v 12)) :: .ref ((v 13)) :: .int 0 :: .int 0 :: .int (-1) :: .int 0 :: .int (-1) :: .int 0 :: .ref ((v 14)) :: .int 0 :: .int 0 :: .int 0 :: .int 0 :: .int 0 :: .ref ((v 15)) :: .ref ((v 16)) :: .int 0 :: .int (-1) :: .int 0 :: .int 0 :: .int 0 :: .int 0 :: .ref ((v 17)) :: .ref ((v 18)) :: .ref ((v 19)) :: .int 0 :: .ref ((v 20)) :: .ref ((v 21)) :: .int 0 :: .ref ((v 22)) :: .int (-1) :: .int 0 :: .ref ((v 23)) :: .int (-1) :: .int (-1) :: .int 0 :: .ref ((v 24)) :: .ref ((v 25)) :: .int 0 :: []))), (((v 2)), .inl (cy 1, 4, .inl (upd (upd (upd (upd (fun _ => 0) 0 (-1)) 1 (-1)) 2 (-1)) 3 (-1))))]) F h yk_X11_write mw_290 mw_291 mw_292 (c_write l D cy q u ((xs 1)) ((xs 2)) ((((((xs 3)).toInt64) <<< ((32 : Int32).toInt64 &&& 63))) ||| ((((xs 4)).toInt64) &&& 4294967295))) [0, 1, 2, 3, 4, 5] [6, 7] 0 rfl rfl rfl rfl (by decide) rfl rfl hl.1 rfl (Nat.le_of_ble_eq_true rfl) ⟨Nat.le_of_ble_eq_true rfl, Nat.le_of_ble_eq_true rfl⟩ ⟨Nat.le_of_ble_eq_true rfl, Nat.le_of_ble_eq_true rfl⟩ dL_law_335 (fun r2 u3 H locs hp1 h => ?_)
  have h : xS D cy A s.heap ([(r, .inr (12, (.ref ((v 0)) :: .int 0 :: .long 0 :: .long 1 :: .ref ((v 1)) :: .ref ((v 2)) :: .ref ((v 3)) :: .ref ((v 4)) :: .ref ((v 5)) :: .int 0 :: .int 0 :: .int 0 :: .int 0 :: .int 0 :: .int 0 :: .int (-1) :: .int (-1) :: .int 0 :: .ref ((v 6)) :: .int 0 :: .int 0 :: .ref ((v 7)) :: .ref ((v 8)) :: .ref ((v 9)) :: .ref ((v 10)) :: .ref ((v 11)) :: .ref ((v 12)) :: .ref ((v 13)) :: .int 0 :: .int 0 :: .int (-1) :: .int 0 :: .int (-1) :: .int 0 :: .ref ((v 14)) :: .int 0 :: .int 0 :: .int 0 :: .int 0 :: .int 0 :: .ref ((v 15)) :: .ref ((v 16)) :: .int 0 :: .int (-1) :: .int 0 :: .int 0 :: .int 0 :: .int 0 :: .ref ((v 17)) :: .ref ((v 18)) :: .ref ((v 19)) :: .int 0 :: .ref ((v 20)) :: .ref ((v 21)) :: .int 0 :: .ref ((v 22)) :: .int (-1) :: .int 0 :: .ref ((v 23)) :: .int (-1) :: .int (-1) :: .int 0 :: .ref ((v 24)) :: .ref ((v 25)) :: .int 0 :: []))), (((v 2)), .inl (cy 1, 4, .inl (upd (upd (upd (upd (fun _ => 0) 0 (-1)) 1 (-1)) 2 (-1)) 3 (-1))))]) s H locs := h
  obtain rfl : r2 = 0 := hp1
  refine lv_aload_n F.1 F.2.1 dL_law_338 rfl (lv_at hl 1 rfl) ?_
  refine lv_aload_n F.1 F.2.1 dL_law_339 rfl (lv_at hl 3 rfl) ?_
  refine lv_iload_n F.1 F.2.1 dL_law_340 rfl (lv_at hl 0 rfl) ?_
  refine lv_iconst (v := 1) F.1 F.2.1 dL_law_341 (by decide) ?_
  refine lv_iadd F.1 F.2.1 dL_law_342 ?_
  refine x_topi (y := 1) (by decide +kernel) ?_
  refine va_sld F.1 F.2.1 hX hbl hbA h.2.2.2.1 (x_in (by decide +kernel)) dL_law_343 ?_
  refine x_topi (y := (xs 1)) rfl ?_
  refine lv_aload_n F.1 F.2.1 dL_law_344 rfl (lv_at hl 3 rfl) ?_
  refine lv_iload_n F.1 F.2.1 dL_law_345 rfl (lv_at hl 0 rfl) ?_
  refine lv_iconst (v := 2) F.1 F.2.1 dL_law_346 (by decide) ?_
  refine lv_iadd F.1 F.2.1 dL_law_347 ?_
  refine x_topi (y := 2) (by decide +kernel) ?_
  refine va_sld F.1 F.2.1 hX hbl hbA h.2.2.2.1 (x_in (by decide +kernel)) dL_law_348 ?_
  refine x_topi (y := (xs 2)) rfl ?_
  refine lv_aload_n F.1 F.2.1 dL_law_349 rfl (lv_at hl 3 rfl) ?_
  refine lv_iload_n F.1 F.2.1 dL_law_350 rfl (lv_at hl 0 rfl) ?_
  refine lv_iconst (v := 3) F.1 F.2.1 dL_law_351 (by decide) ?_
  refine lv_iadd F.1 F.2.1 dL_law_352 ?_
  refine x_topi (y := 3) (by decide +kernel) ?_
  refine va_sld F.1 F.2.1 hX hbl hbA h.2.2.2.1 (x_in (by decide +kernel)) dL_law_353 ?_
  refine x_topi (y := (xs 3)) rfl ?_
  refine lv_i2l (v := (((xs 3)).toInt64)) F.1 F.2.1 dL_law_354 rfl ?_
  refine lv_bipush (v := 32) F.1 F.2.1 dL_law_355 (by decide) ?_
  refine lv_lshl (v := ((((xs 3)).toInt64) <<< ((32 : Int32).toInt64 &&& 63))) F.1 F.2.1 dL_law_357 rfl ?_
  refine lv_aload_n F.1 F.2.1 dL_law_358 rfl (lv_at hl 3 rfl) ?_
  refine lv_iload_n F.1 F.2.1 dL_law_359 rfl (lv_at hl 0 rfl) ?_
  refine lv_iconst (v := 4) F.1 F.2.1 dL_law_360 (by decide) ?_
  refine lv_iadd F.1 F.2.1 dL_law_361 ?_
  refine x_topi (y := 4) (by decide +kernel) ?_
  refine va_sld F.1 F.2.1 hX hbl hbA h.2.2.2.1 (x_in (by decide +kernel)) dL_law_362 ?_
  refine x_topi (y := (xs 4)) rfl ?_
  refine lv_i2l (v := (((xs 4)).toInt64)) F.1 F.2.1 dL_law_363 rfl ?_
  refine lv_ldc2 (v := 4294967295) F.1 F.2.1 F.2.2.2.1 (F.2.2.2.2 _ mw_6) dL_law_364 ?_
  refine lv_land F.1 F.2.1 dL_law_367 ?_
  refine lv_lor F.1 F.2.1 dL_law_368 ?_
  refine x_Vi (wr := []) F h yk_X12_write mw_315 mw_316 mw_317 (c_m_write l D cy r v ((xs 1)) ((xs 2)) ((((((xs 3)).toInt64) <<< ((32 : Int32).toInt64 &&& 63))) ||| ((((xs 4)).toInt64) &&& 4294967295))) [0, 1] [] 0 rfl rfl rfl rfl (by decide) rfl rfl hl.1 rfl (Nat.le_of_ble_eq_true rfl) ⟨Nat.le_of_ble_eq_true rfl, Nat.le_of_ble_eq_true rfl⟩ ⟨Nat.le_of_ble_eq_true rfl, Nat.le_of_ble_eq_true rfl⟩ dL_law_369 (fun r5 u6 H locs hp4 h => ?_)
  have h : xS D cy A s.heap ([]) s H locs := h
  obtain rfl : r5 = 0 := hp4
  refine lv_icmp_eq (tgt := 1763) F.1 F.2.1 dL_law_372 (by decide) (fun _ => ?_) (fun hc => absurd (by decide) hc)
  exact law_end F hr hlocks hX hbl hAs h (lv_sub hl [0, 3] rfl)
set_option maxHeartbeats 4000000 in
set_option maxRecDepth 100000 in
theorem law_c5 {p : Program} {l : Launch} {e : Env} {s : State} {m : MethodId} {below : List Frame} {meth : Method} {c : Code} {b : Nat} {xs : Nat → Int32} {D : va_G} {cy : Nat → ClassId} {A : Nat → Prop} {H : Heap} {locs : List Loc} {ls : Array Slot} {q r : Nat} {u v : Nat → Nat} (F : CallFix p m c cL_law 4 s #[Value.ref b] wsL_law RL) (hr : meth.sig.returnType = ret) (hlocks : meth.locks = false) (hX : va_X b 6 xs s s.heap) (hbl : b < s.heap.size) (hAs : ∀ q, A q → s.heap.size ≤ q) (h : xS D cy A s.heap (askW cy q u ++ modW cy r v) s H locs) (hl : lv_has ls 4 [(3, .int 0), (2, .ref r), (1, .ref q), (0, .ref b)]) : W p l e room_1 s m #[Value.ref b] below meth c H locs 857 99087 (lw_Z below #[Value.ref b] s) (F0 m 377 ls []) := by
  have hbA : ¬ A b := fun ha => absurd (hAs b ha) (Nat.not_le.mpr hbl)
  have h : xS D cy A s.heap ([(q, .inr (11, [.ref ((u 0)), .ref ((u 1)), .ref ((u 2)), .ref ((u 3)), .ref ((u 4)), .ref ((u 5)), .ref ((u 6)), .ref ((u 7)), .ref ((u 8)), .ref ((u 9)), .int 0, .int 0, .int (-1), .int 0, .int 0, .long 0, .long 1])), (((u 0)), .inl (cy 9, 4, .inr (.inr (.inr (.inr (va_up (va_up (va_up (va_up (fun _ => none) 0 (some ((u 10)))) 1 (some ((u 11)))) 2 (some ((u 12)))) 3 (some ((u 13))))))))), (((u 10)), .inr (10, [.ref ((u 14)), .int (-1), .int 0])), (((u 11)), .inr (10, [.ref ((u 15)), .int (-1), .int 0])), (((u 12)), .inr (10, [.ref ((u 16)), .int (-1), .int 0])), (((u 13)), .inr (10, [.ref ((u 17)), .int (-1), .int 0])), (r, .inr (12, (.ref ((v 0)) :: .int 0 :: .long 0 :: .long 1 :: .ref ((v 1)) :: .ref ((v 2)) :: .ref ((v 3)) :: .ref ((v 4)) :: .ref ((v 5)) :: .int 0 :: .int 0 :: .int 0 :: .int 0 :: .int 0 :: .int 0 :: .int (-1) :: .int (-1) :: .int 0 :: .ref ((v 6)) :: .int 0 :: .int 0 :: .ref ((v 7)) :: .ref ((v 8)) :: .ref ((v 9)) :: .ref ((v 10)) :: .ref ((v 11)) :: .ref ((v 12)) :: .ref ((v 13)) :: .int 0 :: .int 0 :: .int (-1) :: .int 0 :: .int (-1) :: .int 0 :: .ref ((v 14)) :: .int 0 :: .int 0 :: .int 0 :: .int 0 :: .int 0 :: .ref ((v 15)) :: .ref ((v 16)) :: .int 0 :: .int (-1) :: .int 0 :: .int 0 :: .int 0 :: .int 0 :: .ref ((v 17)) :: .ref ((v 18)) :: .ref ((v 19)) :: .int 0 :: .ref ((v 20)) :: .ref ((v 21)) :: .int 0 :: .ref ((v 22)) :: .int (-1) :: .int 0 :: .ref ((v 23)) :: .int (-1) :: .int (-1) :: .int 0 :: .ref ((v 24)) :: .ref ((v 25)) :: .int 0 :: []))), (((v 2)), .inl (cy 1, 4, .inl (upd (upd (upd (upd (fun _ => 0) 0 (-1)) 1 (-1)) 2 (-1)) 3 (-1))))]) s H locs := h.sub [0, 1, 4, 6, 8, 10, 146, 149] (by decide +kernel) rfl
  refine lv_aload_n F.1 F.2.1 dL_law_377 rfl (lv_at hl 2 rfl) ?_
  refine lv_aload_n F.1 F.2.1 dL_law_378 rfl (lv_at hl 3 rfl) ?_
  refine lv_iload_n F.1 F.2.1 dL_law_379 rfl (lv_at hl 0 rfl) ?_
  refine lv_iconst (v := 1) F.1 F.2.1 dL_law_380 (by decide) ?_
  refine lv_iadd F.1 F.2.1 dL_law_381 ?_
  refine x_topi (y := 1) (by decide +kernel) ?_
  refine va_sld F.1 F.2.1 hX hbl hbA h.2.2.2.1 (x_in (by decide +kernel)) dL_law_382 ?_
  refine x_topi (y := (xs 1)) rfl ?_
  refine lv_aload_n F.1 F.2.1 dL_law_383 rfl (lv_at hl 3 rfl) ?_
  refine lv_iload_n F.1 F.2.1 dL_law_384 rfl (lv_at hl 0 rfl) ?_
  refine lv_iconst (v := 2) F.1 F.2.1 dL_law_385 (by decide) ?_
  refine lv_iadd F.1 F.2.1 dL_law_386 ?_
  refine x_topi (y := 2) (by decide +kernel) ?_
  refine va_sld F.1 F.2.1 hX hbl hbA h.2.2.2.1 (x_in (by decide +kernel)) dL_law_387 ?_
  refine x_topi (y := (xs 2)) rfl ?_
  refine x_Vl (wr := [(r, .inr (12, (.ref ((v 0)) :: .int 0 :: .long 0 :: .long 1 :: .ref ((v 1)) :: .ref ((v 2)) :: .ref ((v 3)) :: .ref ((v 4)) :: .ref ((v 5)) :: .int 0 :: .int 0 :: .int 0 :: .int 0 :: .int 0 :: .int 0 :: .int (-1) :: .int (-1) :: .int 0 :: .ref ((v 6)) :: .int 0 :: .int 0 :: .ref ((v 7)) :: .ref ((v 8)) :: .ref ((v 9)) :: .ref ((v 10)) :: .ref ((v 11)) :: .ref ((v 12)) :: .ref ((v 13)) :: .int 0 :: .int 0 :: .int (-1) :: .int 0 :: .int (-1) :: .int 0 :: .ref ((v 14)) :: .int 0 :: .int 0 :: .int 0 :: .int 0 :: .int 0 :: .ref ((v 15)) :: .ref ((v 16)) :: .int 0 :: .int (-1) :: .int 0 :: .int 0 :: .int 0 :: .int 0 :: .ref ((v 17)) :: .ref ((v 18)) :: .ref ((v 19)) :: .int 0 :: .ref ((v 20)) :: .ref ((v 21)) :: .int 0 :: .ref ((v 22)) :: .int (-1) :: .int 0 :: .ref ((v 23)) :: .int (-1) :: .int (-1) :: .int 0 :: .ref ((v 24)) :: .ref ((v 25)) :: .int 0 :: []))), (((v 2)), .inl (cy 1, 4, .inl (upd (upd (upd (upd (fun _ => 0) 0 (-1)) 1 (-1)) 2 (-1)) 3 (-1))))]) F h yk_X11_read mw_326 mw_327 mw_328 (c_read l D cy q u ((xs 1)) ((xs 2))) [0, 1, 2, 3, 4, 5] [6, 7] 0 rfl rfl rfl rfl (by decide) rfl rfl hl.1 rfl (Nat.le_of_ble_eq_true rfl) ⟨Nat.le_of_ble_eq_true rfl, Nat.le_of_ble_eq_true rfl⟩ ⟨Nat.le_of_ble_eq_true rfl, Nat.le_of_ble_eq_true rfl⟩ dL_law_388 (fun r2 u3 H locs hp1 h => ?_)
  have h : xS D cy A s.heap ([(r, .inr (12, (.ref ((v 0)) :: .int 0 :: .long 0 :: .long 1 :: .ref ((v 1)) :: .ref ((v 2)) :: .ref ((v 3)) :: .ref ((v 4)) :: .ref ((v 5)) :: .int 0 :: .int 0 :: .int 0 :: .int 0 :: .int 0 :: .int 0 :: .int (-1) :: .int (-1) :: .int 0 :: .ref ((v 6)) :: .int 0 :: .int 0 :: .ref ((v 7)) :: .ref ((v 8)) :: .ref ((v 9)) :: .ref ((v 10)) :: .ref ((v 11)) :: .ref ((v 12)) :: .ref ((v 13)) :: .int 0 :: .int 0 :: .int (-1) :: .int 0 :: .int (-1) :: .int 0 :: .ref ((v 14)) :: .int 0 :: .int 0 :: .int 0 :: .int 0 :: .int 0 :: .ref ((v 15)) :: .ref ((v 16)) :: .int 0 :: .int (-1) :: .int 0 :: .int 0 :: .int 0 :: .int 0 :: .ref ((v 17)) :: .ref ((v 18)) :: .ref ((v 19)) :: .int 0 :: .ref ((v 20)) :: .ref ((v 21)) :: .int 0 :: .ref ((v 22)) :: .int (-1) :: .int 0 :: .ref ((v 23)) :: .int (-1) :: .int (-1) :: .int 0 :: .ref ((v 24)) :: .ref ((v 25)) :: .int 0 :: []))), (((v 2)), .inl (cy 1, 4, .inl (upd (upd (upd (upd (fun _ => 0) 0 (-1)) 1 (-1)) 2 (-1)) 3 (-1))))]) s H locs := h
  obtain rfl : r2 = (-1) := hp1
  refine lv_aload_n F.1 F.2.1 dL_law_391 rfl (lv_at hl 1 rfl) ?_
  refine lv_aload_n F.1 F.2.1 dL_law_392 rfl (lv_at hl 3 rfl) ?_
  refine lv_iload_n F.1 F.2.1 dL_law_393 rfl (lv_at hl 0 rfl) ?_
  refine lv_iconst (v := 1) F.1 F.2.1 dL_law_394 (by decide) ?_
  refine lv_iadd F.1 F.2.1 dL_law_395 ?_
  refine x_topi (y := 1) (by decide +kernel) ?_
  refine va_sld F.1 F.2.1 hX hbl hbA h.2.2.2.1 (x_in (by decide +kernel)) dL_law_396 ?_
  refine x_topi (y := (xs 1)) rfl ?_
  refine lv_aload_n F.1 F.2.1 dL_law_397 rfl (lv_at hl 3 rfl) ?_
  refine lv_iload_n F.1 F.2.1 dL_law_398 rfl (lv_at hl 0 rfl) ?_
  refine lv_iconst (v := 2) F.1 F.2.1 dL_law_399 (by decide) ?_
  refine lv_iadd F.1 F.2.1 dL_law_400 ?_
  refine x_topi (y := 2) (by decide +kernel) ?_
  refine va_sld F.1 F.2.1 hX hbl hbA h.2.2.2.1 (x_in (by decide +kernel)) dL_law_401 ?_
  refine x_topi (y := (xs 2)) rfl ?_
  refine x_Vl (wr := []) F h yk_X12_read mw_336 mw_337 mw_338 (c_m_read l D cy r v ((xs 1)) ((xs 2))) [0, 1] [] 0 rfl rfl rfl rfl (by decide) rfl rfl hl.1 rfl (Nat.le_of_ble_eq_true rfl) ⟨Nat.le_of_ble_eq_true rfl, Nat.le_of_ble_eq_true rfl⟩ ⟨Nat.le_of_ble_eq_true rfl, Nat.le_of_ble_eq_true rfl⟩ dL_law_402 (fun r5 u6 H locs hp4 h => ?_)
  have h : xS D cy A s.heap ([]) s H locs := h
  obtain rfl : r5 = (-1) := hp4
  refine W.lcmp F.1 F.2.1 dL_law_405 ?_
  refine x_topi (y := 0) (by decide +kernel) ?_
  refine lv_if_eq (tgt := 1763) F.1 F.2.1 dL_law_406 (by decide) (fun _ => ?_) (fun hc => absurd (by decide) hc)
  exact law_end F hr hlocks hX hbl hAs h (lv_sub hl [0, 3] rfl)
set_option maxHeartbeats 4000000 in
set_option maxRecDepth 100000 in
theorem law_c6 {p : Program} {l : Launch} {e : Env} {s : State} {m : MethodId} {below : List Frame} {meth : Method} {c : Code} {b : Nat} {xs : Nat → Int32} {D : va_G} {cy : Nat → ClassId} {A : Nat → Prop} {H : Heap} {locs : List Loc} {ls : Array Slot} {q r : Nat} {u v : Nat → Nat} (F : CallFix p m c cL_law 4 s #[Value.ref b] wsL_law RL) (hr : meth.sig.returnType = ret) (hlocks : meth.locks = false) (hX : va_X b 6 xs s s.heap) (hbl : b < s.heap.size) (hAs : ∀ q, A q → s.heap.size ≤ q) (h : xS D cy A s.heap (askW cy q u ++ modW cy r v) s H locs) (hl : lv_has ls 4 [(3, .int 0), (2, .ref r), (1, .ref q), (0, .ref b)]) : W p l e room_1 s m #[Value.ref b] below meth c H locs 857 99087 (lw_Z below #[Value.ref b] s) (F0 m 411 ls []) := by
  have hbA : ¬ A b := fun ha => absurd (hAs b ha) (Nat.not_le.mpr hbl)
  have h : xS D cy A s.heap ([(q, .inr (11, [.ref ((u 0)), .ref ((u 1)), .ref ((u 2)), .ref ((u 3)), .ref ((u 4)), .ref ((u 5)), .ref ((u 6)), .ref ((u 7)), .ref ((u 8)), .ref ((u 9)), .int 0, .int 0, .int (-1), .int 0, .int 0, .long 0, .long 1])), (((u 0)), .inl (cy 9, 4, .inr (.inr (.inr (.inr (va_up (va_up (va_up (va_up (fun _ => none) 0 (some ((u 10)))) 1 (some ((u 11)))) 2 (some ((u 12)))) 3 (some ((u 13))))))))), (((u 10)), .inr (10, [.ref ((u 14)), .int (-1), .int 0])), (((u 11)), .inr (10, [.ref ((u 15)), .int (-1), .int 0])), (((u 12)), .inr (10, [.ref ((u 16)), .int (-1), .int 0])), (((u 13)), .inr (10, [.ref ((u 17)), .int (-1), .int 0])), (r, .inr (12, (.ref ((v 0)) :: .int 0 :: .long 0 :: .long 1 :: .ref ((v 1)) :: .ref ((v 2)) :: .ref ((v 3)) :: .ref ((v 4)) :: .ref ((v 5)) :: .int 0 :: .int 0 :: .int 0 :: .int 0 :: .int 0 :: .int 0 :: .int (-1) :: .int (-1) :: .int 0 :: .ref ((v 6)) :: .int 0 :: .int 0 :: .ref ((v 7)) :: .ref ((v 8)) :: .ref ((v 9)) :: .ref ((v 10)) :: .ref ((v 11)) :: .ref ((v 12)) :: .ref ((v 13)) :: .int 0 :: .int 0 :: .int (-1) :: .int 0 :: .int (-1) :: .int 0 :: .ref ((v 14)) :: .int 0 :: .int 0 :: .int 0 :: .int 0 :: .int 0 :: .ref ((v 15)) :: .ref ((v 16)) :: .int 0 :: .int (-1) :: .int 0 :: .int 0 :: .int 0 :: .int 0 :: .ref ((v 17)) :: .ref ((v 18)) :: .ref ((v 19)) :: .int 0 :: .ref ((v 20)) :: .ref ((v 21)) :: .int 0 :: .ref ((v 22)) :: .int (-1) :: .int 0 :: .ref ((v 23)) :: .int (-1) :: .int (-1) :: .int 0 :: .ref ((v 24)) :: .ref ((v 25)) :: .int 0 :: []))), (((v 2)), .inl (cy 1, 4, .inl (upd (upd (upd (upd (fun _ => 0) 0 (-1)) 1 (-1)) 2 (-1)) 3 (-1))))]) s H locs := h.sub [0, 1, 4, 6, 8, 10, 146, 149] (by decide +kernel) rfl
  refine lv_aload_n F.1 F.2.1 dL_law_411 rfl (lv_at hl 2 rfl) ?_
  refine lv_aload_n F.1 F.2.1 dL_law_412 rfl (lv_at hl 3 rfl) ?_
  refine lv_iload_n F.1 F.2.1 dL_law_413 rfl (lv_at hl 0 rfl) ?_
  refine lv_iconst (v := 1) F.1 F.2.1 dL_law_414 (by decide) ?_
  refine lv_iadd F.1 F.2.1 dL_law_415 ?_
  refine x_topi (y := 1) (by decide +kernel) ?_
  refine va_sld F.1 F.2.1 hX hbl hbA h.2.2.2.1 (x_in (by decide +kernel)) dL_law_416 ?_
  refine x_topi (y := (xs 1)) rfl ?_
  refine lv_aload_n F.1 F.2.1 dL_law_417 rfl (lv_at hl 3 rfl) ?_
  refine lv_iload_n F.1 F.2.1 dL_law_418 rfl (lv_at hl 0 rfl) ?_
  refine lv_iconst (v := 2) F.1 F.2.1 dL_law_419 (by decide) ?_
  refine lv_iadd F.1 F.2.1 dL_law_420 ?_
  refine x_topi (y := 2) (by decide +kernel) ?_
  refine va_sld F.1 F.2.1 hX hbl hbA h.2.2.2.1 (x_in (by decide +kernel)) dL_law_421 ?_
  refine x_topi (y := (xs 2)) rfl ?_
  refine lv_aload_n F.1 F.2.1 dL_law_422 rfl (lv_at hl 3 rfl) ?_
  refine lv_iload_n F.1 F.2.1 dL_law_423 rfl (lv_at hl 0 rfl) ?_
  refine lv_iconst (v := 3) F.1 F.2.1 dL_law_424 (by decide) ?_
  refine lv_iadd F.1 F.2.1 dL_law_425 ?_
  refine x_topi (y := 3) (by decide +kernel) ?_
  refine va_sld F.1 F.2.1 hX hbl hbA h.2.2.2.1 (x_in (by decide +kernel)) dL_law_426 ?_
  refine x_topi (y := (xs 3)) rfl ?_
  refine lv_aload_n F.1 F.2.1 dL_law_427 rfl (lv_at hl 3 rfl) ?_
  refine lv_iload_n F.1 F.2.1 dL_law_428 rfl (lv_at hl 0 rfl) ?_
  refine lv_iconst (v := 4) F.1 F.2.1 dL_law_429 (by decide) ?_
  refine lv_iadd F.1 F.2.1 dL_law_430 ?_
  refine x_topi (y := 4) (by decide +kernel) ?_
  refine va_sld F.1 F.2.1 hX hbl hbA h.2.2.2.1 (x_in (by decide +kernel)) dL_law_431 ?_
  refine x_topi (y := (xs 4)) rfl ?_
  refine lv_aload_n F.1 F.2.1 dL_law_432 rfl (lv_at hl 3 rfl) ?_
  refine lv_iload_n F.1 F.2.1 dL_law_433 rfl (lv_at hl 0 rfl) ?_
  refine lv_iconst (v := 5) F.1 F.2.1 dL_law_434 (by decide) ?_
  refine lv_iadd F.1 F.2.1 dL_law_435 ?_
  refine x_topi (y := 5) (by decide +kernel) ?_
  refine va_sld F.1 F.2.1 hX hbl hbA h.2.2.2.1 (x_in (by decide +kernel)) dL_law_436 ?_
  refine x_topi (y := (xs 5)) rfl ?_
  refine x_Vi (wr := [(r, .inr (12, (.ref ((v 0)) :: .int 0 :: .long 0 :: .long 1 :: .ref ((v 1)) :: .ref ((v 2)) :: .ref ((v 3)) :: .ref ((v 4)) :: .ref ((v 5)) :: .int 0 :: .int 0 :: .int 0 :: .int 0 :: .int 0 :: .int 0 :: .int (-1) :: .int (-1) :: .int 0 :: .ref ((v 6)) :: .int 0 :: .int 0 :: .ref ((v 7)) :: .ref ((v 8)) :: .ref ((v 9)) :: .ref ((v 10)) :: .ref ((v 11)) :: .ref ((v 12)) :: .ref ((v 13)) :: .int 0 :: .int 0 :: .int (-1) :: .int 0 :: .int (-1) :: .int 0 :: .ref ((v 14)) :: .int 0 :: .int 0 :: .int 0 :: .int 0 :: .int 0 :: .ref ((v 15)) :: .ref ((v 16)) :: .int 0 :: .int (-1) :: .int 0 :: .int 0 :: .int 0 :: .int 0 :: .ref ((v 17)) :: .ref ((v 18)) :: .ref ((v 19)) :: .int 0 :: .ref ((v 20)) :: .ref ((v 21)) :: .int 0 :: .ref ((v 22)) :: .int (-1) :: .int 0 :: .ref ((v 23)) :: .int (-1) :: .int (-1) :: .int 0 :: .ref ((v 24)) :: .ref ((v 25)) :: .int 0 :: []))), (((v 2)), .inl (cy 1, 4, .inl (upd (upd (upd (upd (fun _ => 0) 0 (-1)) 1 (-1)) 2 (-1)) 3 (-1))))]) F h yk_X11_pour mw_341 mw_342 mw_343 (c_pour l D cy q u ((xs 1)) ((xs 2)) ((xs 3)) ((xs 4)) ((xs 5))) [0, 1, 2, 3, 4, 5] [6, 7] 0 rfl rfl rfl rfl (by decide) rfl rfl hl.1 rfl (Nat.le_of_ble_eq_true rfl) ⟨Nat.le_of_ble_eq_true rfl, Nat.le_of_ble_eq_true rfl⟩ ⟨Nat.le_of_ble_eq_true rfl, Nat.le_of_ble_eq_true rfl⟩ dL_law_437 (fun r2 u3 H locs hp1 h => ?_)
  have h : xS D cy A s.heap ([(r, .inr (12, (.ref ((v 0)) :: .int 0 :: .long 0 :: .long 1 :: .ref ((v 1)) :: .ref ((v 2)) :: .ref ((v 3)) :: .ref ((v 4)) :: .ref ((v 5)) :: .int 0 :: .int 0 :: .int 0 :: .int 0 :: .int 0 :: .int 0 :: .int (-1) :: .int (-1) :: .int 0 :: .ref ((v 6)) :: .int 0 :: .int 0 :: .ref ((v 7)) :: .ref ((v 8)) :: .ref ((v 9)) :: .ref ((v 10)) :: .ref ((v 11)) :: .ref ((v 12)) :: .ref ((v 13)) :: .int 0 :: .int 0 :: .int (-1) :: .int 0 :: .int (-1) :: .int 0 :: .ref ((v 14)) :: .int 0 :: .int 0 :: .int 0 :: .int 0 :: .int 0 :: .ref ((v 15)) :: .ref ((v 16)) :: .int 0 :: .int (-1) :: .int 0 :: .int 0 :: .int 0 :: .int 0 :: .ref ((v 17)) :: .ref ((v 18)) :: .ref ((v 19)) :: .int 0 :: .ref ((v 20)) :: .ref ((v 21)) :: .int 0 :: .ref ((v 22)) :: .int (-1) :: .int 0 :: .ref ((v 23)) :: .int (-1) :: .int (-1) :: .int 0 :: .ref ((v 24)) :: .ref ((v 25)) :: .int 0 :: []))), (((v 2)), .inl (cy 1, 4, .inl (upd (upd (upd (upd (fun _ => 0) 0 (-1)) 1 (-1)) 2 (-1)) 3 (-1))))]) s H locs := h
  obtain rfl : r2 = 0 := hp1
  refine lv_aload_n F.1 F.2.1 dL_law_440 rfl (lv_at hl 1 rfl) ?_
  refine lv_aload_n F.1 F.2.1 dL_law_441 rfl (lv_at hl 3 rfl) ?_
  refine lv_iload_n F.1 F.2.1 dL_law_442 rfl (lv_at hl 0 rfl) ?_
  refine lv_iconst (v := 1) F.1 F.2.1 dL_law_443 (by decide) ?_
  refine lv_iadd F.1 F.2.1 dL_law_444 ?_
  refine x_topi (y := 1) (by decide +kernel) ?_
  refine va_sld F.1 F.2.1 hX hbl hbA h.2.2.2.1 (x_in (by decide +kernel)) dL_law_445 ?_
  refine x_topi (y := (xs 1)) rfl ?_
  refine lv_aload_n F.1 F.2.1 dL_law_446 rfl (lv_at hl 3 rfl) ?_
  refine lv_iload_n F.1 F.2.1 dL_law_447 rfl (lv_at hl 0 rfl) ?_
  refine lv_iconst (v := 2) F.1 F.2.1 dL_law_448 (by decide) ?_
  refine lv_iadd F.1 F.2.1 dL_law_449 ?_
  refine x_topi (y := 2) (by decide +kernel) ?_
  refine va_sld F.1 F.2.1 hX hbl hbA h.2.2.2.1 (x_in (by decide +kernel)) dL_law_450 ?_
  refine x_topi (y := (xs 2)) rfl ?_
  refine lv_aload_n F.1 F.2.1 dL_law_451 rfl (lv_at hl 3 rfl) ?_
  refine lv_iload_n F.1 F.2.1 dL_law_452 rfl (lv_at hl 0 rfl) ?_
  refine lv_iconst (v := 3) F.1 F.2.1 dL_law_453 (by decide) ?_
  refine lv_iadd F.1 F.2.1 dL_law_454 ?_
  refine x_topi (y := 3) (by decide +kernel) ?_
  refine va_sld F.1 F.2.1 hX hbl hbA h.2.2.2.1 (x_in (by decide +kernel)) dL_law_455 ?_
  refine x_topi (y := (xs 3)) rfl ?_
  refine lv_aload_n F.1 F.2.1 dL_law_456 rfl (lv_at hl 3 rfl) ?_
  refine lv_iload_n F.1 F.2.1 dL_law_457 rfl (lv_at hl 0 rfl) ?_
  refine lv_iconst (v := 4) F.1 F.2.1 dL_law_458 (by decide) ?_
  refine lv_iadd F.1 F.2.1 dL_law_459 ?_
  refine x_topi (y := 4) (by decide +kernel) ?_
  refine va_sld F.1 F.2.1 hX hbl hbA h.2.2.2.1 (x_in (by decide +kernel)) dL_law_460 ?_
  refine x_topi (y := (xs 4)) rfl ?_
  refine lv_aload_n F.1 F.2.1 dL_law_461 rfl (lv_at hl 3 rfl) ?_
  refine lv_iload_n F.1 F.2.1 dL_law_462 rfl (lv_at hl 0 rfl) ?_
  refine lv_iconst (v := 5) F.1 F.2.1 dL_law_463 (by decide) ?_
  refine lv_iadd F.1 F.2.1 dL_law_464 ?_
  refine x_topi (y := 5) (by decide +kernel) ?_
  refine va_sld F.1 F.2.1 hX hbl hbA h.2.2.2.1 (x_in (by decide +kernel)) dL_law_465 ?_
  refine x_topi (y := (xs 5)) rfl ?_
  refine x_Vi (wr := []) F h yk_X12_pour mw_351 mw_352 mw_353 (c_m_pour l D cy r v ((xs 1)) ((xs 2)) ((xs 3)) ((xs 4)) ((xs 5))) [0, 1] [] 0 rfl rfl rfl rfl (by decide) rfl rfl hl.1 rfl (Nat.le_of_ble_eq_true rfl) ⟨Nat.le_of_ble_eq_true rfl, Nat.le_of_ble_eq_true rfl⟩ ⟨Nat.le_of_ble_eq_true rfl, Nat.le_of_ble_eq_true rfl⟩ dL_law_466 (fun r5 u6 H locs hp4 h => ?_)
  have h : xS D cy A s.heap ([]) s H locs := h
  obtain rfl : r5 = 0 := hp4
  refine lv_icmp_eq (tgt := 1763) F.1 F.2.1 dL_law_469 (by decide) (fun _ => ?_) (fun hc => absurd (by decide) hc)
  exact law_end F hr hlocks hX hbl hAs h (lv_sub hl [0, 3] rfl)
set_option maxHeartbeats 4000000 in
set_option maxRecDepth 100000 in
theorem law_c7 {p : Program} {l : Launch} {e : Env} {s : State} {m : MethodId} {below : List Frame} {meth : Method} {c : Code} {b : Nat} {xs : Nat → Int32} {D : va_G} {cy : Nat → ClassId} {A : Nat → Prop} {H : Heap} {locs : List Loc} {ls : Array Slot} {q r : Nat} {u v : Nat → Nat} (F : CallFix p m c cL_law 4 s #[Value.ref b] wsL_law RL) (hr : meth.sig.returnType = ret) (hlocks : meth.locks = false) (hX : va_X b 6 xs s s.heap) (hbl : b < s.heap.size) (hAs : ∀ q, A q → s.heap.size ≤ q) (h : xS D cy A s.heap (askW cy q u ++ modW cy r v) s H locs) (hl : lv_has ls 4 [(3, .int 0), (2, .ref r), (1, .ref q), (0, .ref b)]) : W p l e room_1 s m #[Value.ref b] below meth c H locs 857 99087 (lw_Z below #[Value.ref b] s) (F0 m 474 ls []) := by
  have hbA : ¬ A b := fun ha => absurd (hAs b ha) (Nat.not_le.mpr hbl)
  have h : xS D cy A s.heap ([(q, .inr (11, [.ref ((u 0)), .ref ((u 1)), .ref ((u 2)), .ref ((u 3)), .ref ((u 4)), .ref ((u 5)), .ref ((u 6)), .ref ((u 7)), .ref ((u 8)), .ref ((u 9)), .int 0, .int 0, .int (-1), .int 0, .int 0, .long 0, .long 1])), (((u 1)), .inl (cy 0, 600, .inl (fun _ => 0))), (r, .inr (12, (.ref ((v 0)) :: .int 0 :: .long 0 :: .long 1 :: .ref ((v 1)) :: .ref ((v 2)) :: .ref ((v 3)) :: .ref ((v 4)) :: .ref ((v 5)) :: .int 0 :: .int 0 :: .int 0 :: .int 0 :: .int 0 :: .int 0 :: .int (-1) :: .int (-1) :: .int 0 :: .ref ((v 6)) :: .int 0 :: .int 0 :: .ref ((v 7)) :: .ref ((v 8)) :: .ref ((v 9)) :: .ref ((v 10)) :: .ref ((v 11)) :: .ref ((v 12)) :: .ref ((v 13)) :: .int 0 :: .int 0 :: .int (-1) :: .int 0 :: .int (-1) :: .int 0 :: .ref ((v 14)) :: .int 0 :: .int 0 :: .int 0 :: .int 0 :: .int 0 :: .ref ((v 15)) :: .ref ((v 16)) :: .int 0 :: .int (-1) :: .int 0 :: .int 0 :: .int 0 :: .int 0 :: .ref ((v 17)) :: .ref ((v 18)) :: .ref ((v 19)) :: .int 0 :: .ref ((v 20)) :: .ref ((v 21)) :: .int 0 :: .ref ((v 22)) :: .int (-1) :: .int 0 :: .ref ((v 23)) :: .int (-1) :: .int (-1) :: .int 0 :: .ref ((v 24)) :: .ref ((v 25)) :: .int 0 :: []))), (((v 4)), .inl (cy 0, 600, .inl (fun _ => 0)))]) s H locs := h.sub [0, 2, 146, 151] (by decide +kernel) rfl
  refine lv_aload_n F.1 F.2.1 dL_law_474 rfl (lv_at hl 2 rfl) ?_
  refine lv_aload_n F.1 F.2.1 dL_law_475 rfl (lv_at hl 3 rfl) ?_
  refine lv_iload_n F.1 F.2.1 dL_law_476 rfl (lv_at hl 0 rfl) ?_
  refine lv_iconst (v := 1) F.1 F.2.1 dL_law_477 (by decide) ?_
  refine lv_iadd F.1 F.2.1 dL_law_478 ?_
  refine x_topi (y := 1) (by decide +kernel) ?_
  refine va_sld F.1 F.2.1 hX hbl hbA h.2.2.2.1 (x_in (by decide +kernel)) dL_law_479 ?_
  refine x_topi (y := (xs 1)) rfl ?_
  refine lv_aload_n F.1 F.2.1 dL_law_480 rfl (lv_at hl 3 rfl) ?_
  refine lv_iload_n F.1 F.2.1 dL_law_481 rfl (lv_at hl 0 rfl) ?_
  refine lv_iconst (v := 2) F.1 F.2.1 dL_law_482 (by decide) ?_
  refine lv_iadd F.1 F.2.1 dL_law_483 ?_
  refine x_topi (y := 2) (by decide +kernel) ?_
  refine va_sld F.1 F.2.1 hX hbl hbA h.2.2.2.1 (x_in (by decide +kernel)) dL_law_484 ?_
  refine x_topi (y := (xs 2)) rfl ?_
  refine lv_aload_n F.1 F.2.1 dL_law_485 rfl (lv_at hl 3 rfl) ?_
  refine lv_iload_n F.1 F.2.1 dL_law_486 rfl (lv_at hl 0 rfl) ?_
  refine lv_iconst (v := 3) F.1 F.2.1 dL_law_487 (by decide) ?_
  refine lv_iadd F.1 F.2.1 dL_law_488 ?_
  refine x_topi (y := 3) (by decide +kernel) ?_
  refine va_sld F.1 F.2.1 hX hbl hbA h.2.2.2.1 (x_in (by decide +kernel)) dL_law_489 ?_
  refine x_topi (y := (xs 3)) rfl ?_
  refine lv_aload_n F.1 F.2.1 dL_law_490 rfl (lv_at hl 3 rfl) ?_
  refine lv_iload_n F.1 F.2.1 dL_law_491 rfl (lv_at hl 0 rfl) ?_
  refine lv_iconst (v := 4) F.1 F.2.1 dL_law_492 (by decide) ?_
  refine lv_iadd F.1 F.2.1 dL_law_493 ?_
  refine x_topi (y := 4) (by decide +kernel) ?_
  refine va_sld F.1 F.2.1 hX hbl hbA h.2.2.2.1 (x_in (by decide +kernel)) dL_law_494 ?_
  refine x_topi (y := (xs 4)) rfl ?_
  refine lv_aload_n F.1 F.2.1 dL_law_495 rfl (lv_at hl 3 rfl) ?_
  refine lv_iload_n F.1 F.2.1 dL_law_496 rfl (lv_at hl 0 rfl) ?_
  refine lv_iconst (v := 5) F.1 F.2.1 dL_law_497 (by decide) ?_
  refine lv_iadd F.1 F.2.1 dL_law_498 ?_
  refine x_topi (y := 5) (by decide +kernel) ?_
  refine va_sld F.1 F.2.1 hX hbl hbA h.2.2.2.1 (x_in (by decide +kernel)) dL_law_499 ?_
  refine x_topi (y := (xs 5)) rfl ?_
  refine x_Vi (wr := [(r, .inr (12, (.ref ((v 0)) :: .int 0 :: .long 0 :: .long 1 :: .ref ((v 1)) :: .ref ((v 2)) :: .ref ((v 3)) :: .ref ((v 4)) :: .ref ((v 5)) :: .int 0 :: .int 0 :: .int 0 :: .int 0 :: .int 0 :: .int 0 :: .int (-1) :: .int (-1) :: .int 0 :: .ref ((v 6)) :: .int 0 :: .int 0 :: .ref ((v 7)) :: .ref ((v 8)) :: .ref ((v 9)) :: .ref ((v 10)) :: .ref ((v 11)) :: .ref ((v 12)) :: .ref ((v 13)) :: .int 0 :: .int 0 :: .int (-1) :: .int 0 :: .int (-1) :: .int 0 :: .ref ((v 14)) :: .int 0 :: .int 0 :: .int 0 :: .int 0 :: .int 0 :: .ref ((v 15)) :: .ref ((v 16)) :: .int 0 :: .int (-1) :: .int 0 :: .int 0 :: .int 0 :: .int 0 :: .ref ((v 17)) :: .ref ((v 18)) :: .ref ((v 19)) :: .int 0 :: .ref ((v 20)) :: .ref ((v 21)) :: .int 0 :: .ref ((v 22)) :: .int (-1) :: .int 0 :: .ref ((v 23)) :: .int (-1) :: .int (-1) :: .int 0 :: .ref ((v 24)) :: .ref ((v 25)) :: .int 0 :: []))), (((v 4)), .inl (cy 0, 600, .inl (fun _ => 0)))]) F h yk_X11_feed mw_355 mw_356 mw_357 (c_feed l D cy q u ((xs 1)) ((xs 2)) ((xs 3)) ((xs 4)) ((xs 5))) [0, 1] [2, 3] 0 rfl rfl rfl rfl (by decide) rfl rfl hl.1 rfl (Nat.le_of_ble_eq_true rfl) ⟨Nat.le_of_ble_eq_true rfl, Nat.le_of_ble_eq_true rfl⟩ ⟨Nat.le_of_ble_eq_true rfl, Nat.le_of_ble_eq_true rfl⟩ dL_law_500 (fun r2 u3 H locs hp1 h => ?_)
  have h : xS D cy A s.heap ([(r, .inr (12, (.ref ((v 0)) :: .int 0 :: .long 0 :: .long 1 :: .ref ((v 1)) :: .ref ((v 2)) :: .ref ((v 3)) :: .ref ((v 4)) :: .ref ((v 5)) :: .int 0 :: .int 0 :: .int 0 :: .int 0 :: .int 0 :: .int 0 :: .int (-1) :: .int (-1) :: .int 0 :: .ref ((v 6)) :: .int 0 :: .int 0 :: .ref ((v 7)) :: .ref ((v 8)) :: .ref ((v 9)) :: .ref ((v 10)) :: .ref ((v 11)) :: .ref ((v 12)) :: .ref ((v 13)) :: .int 0 :: .int 0 :: .int (-1) :: .int 0 :: .int (-1) :: .int 0 :: .ref ((v 14)) :: .int 0 :: .int 0 :: .int 0 :: .int 0 :: .int 0 :: .ref ((v 15)) :: .ref ((v 16)) :: .int 0 :: .int (-1) :: .int 0 :: .int 0 :: .int 0 :: .int 0 :: .ref ((v 17)) :: .ref ((v 18)) :: .ref ((v 19)) :: .int 0 :: .ref ((v 20)) :: .ref ((v 21)) :: .int 0 :: .ref ((v 22)) :: .int (-1) :: .int 0 :: .ref ((v 23)) :: .int (-1) :: .int (-1) :: .int 0 :: .ref ((v 24)) :: .ref ((v 25)) :: .int 0 :: []))), (((v 4)), .inl (cy 0, 600, .inl (fun _ => 0)))]) s H locs := h
  obtain rfl : r2 = 20 := hp1
  refine lv_aload_n F.1 F.2.1 dL_law_503 rfl (lv_at hl 1 rfl) ?_
  refine lv_aload_n F.1 F.2.1 dL_law_504 rfl (lv_at hl 3 rfl) ?_
  refine lv_iload_n F.1 F.2.1 dL_law_505 rfl (lv_at hl 0 rfl) ?_
  refine lv_iconst (v := 1) F.1 F.2.1 dL_law_506 (by decide) ?_
  refine lv_iadd F.1 F.2.1 dL_law_507 ?_
  refine x_topi (y := 1) (by decide +kernel) ?_
  refine va_sld F.1 F.2.1 hX hbl hbA h.2.2.2.1 (x_in (by decide +kernel)) dL_law_508 ?_
  refine x_topi (y := (xs 1)) rfl ?_
  refine lv_aload_n F.1 F.2.1 dL_law_509 rfl (lv_at hl 3 rfl) ?_
  refine lv_iload_n F.1 F.2.1 dL_law_510 rfl (lv_at hl 0 rfl) ?_
  refine lv_iconst (v := 2) F.1 F.2.1 dL_law_511 (by decide) ?_
  refine lv_iadd F.1 F.2.1 dL_law_512 ?_
  refine x_topi (y := 2) (by decide +kernel) ?_
  refine va_sld F.1 F.2.1 hX hbl hbA h.2.2.2.1 (x_in (by decide +kernel)) dL_law_513 ?_
  refine x_topi (y := (xs 2)) rfl ?_
  refine lv_aload_n F.1 F.2.1 dL_law_514 rfl (lv_at hl 3 rfl) ?_
  refine lv_iload_n F.1 F.2.1 dL_law_515 rfl (lv_at hl 0 rfl) ?_
  refine lv_iconst (v := 3) F.1 F.2.1 dL_law_516 (by decide) ?_
  refine lv_iadd F.1 F.2.1 dL_law_517 ?_
  refine x_topi (y := 3) (by decide +kernel) ?_
  refine va_sld F.1 F.2.1 hX hbl hbA h.2.2.2.1 (x_in (by decide +kernel)) dL_law_518 ?_
  refine x_topi (y := (xs 3)) rfl ?_
  refine lv_aload_n F.1 F.2.1 dL_law_519 rfl (lv_at hl 3 rfl) ?_
  refine lv_iload_n F.1 F.2.1 dL_law_520 rfl (lv_at hl 0 rfl) ?_
  refine lv_iconst (v := 4) F.1 F.2.1 dL_law_521 (by decide) ?_
  refine lv_iadd F.1 F.2.1 dL_law_522 ?_
  refine x_topi (y := 4) (by decide +kernel) ?_
  refine va_sld F.1 F.2.1 hX hbl hbA h.2.2.2.1 (x_in (by decide +kernel)) dL_law_523 ?_
  refine x_topi (y := (xs 4)) rfl ?_
  refine lv_aload_n F.1 F.2.1 dL_law_524 rfl (lv_at hl 3 rfl) ?_
  refine lv_iload_n F.1 F.2.1 dL_law_525 rfl (lv_at hl 0 rfl) ?_
  refine lv_iconst (v := 5) F.1 F.2.1 dL_law_526 (by decide) ?_
  refine lv_iadd F.1 F.2.1 dL_law_527 ?_
  refine x_topi (y := 5) (by decide +kernel) ?_
  refine va_sld F.1 F.2.1 hX hbl hbA h.2.2.2.1 (x_in (by decide +kernel)) dL_law_528 ?_
  refine x_topi (y := (xs 5)) rfl ?_
  refine x_Vi (wr := []) F h yk_X12_feed mw_363 mw_364 mw_365 (c_m_feed l D cy r v ((xs 1)) ((xs 2)) ((xs 3)) ((xs 4)) ((xs 5))) [0, 1] [] 0 rfl rfl rfl rfl (by decide) rfl rfl hl.1 rfl (Nat.le_of_ble_eq_true rfl) ⟨Nat.le_of_ble_eq_true rfl, Nat.le_of_ble_eq_true rfl⟩ ⟨Nat.le_of_ble_eq_true rfl, Nat.le_of_ble_eq_true rfl⟩ dL_law_529 (fun r5 u6 H locs hp4 h => ?_)
  have h : xS D cy A s.heap ([]) s H locs := h
  obtain rfl : r5 = 20 := hp4
  refine lv_icmp_eq (tgt := 1763) F.1 F.2.1 dL_law_532 (by decide) (fun _ => ?_) (fun hc => absurd (by decide) hc)
  exact law_end F hr hlocks hX hbl hAs h (lv_sub hl [0, 3] rfl)
set_option maxHeartbeats 4000000 in
set_option maxRecDepth 100000 in
theorem law_c8 {p : Program} {l : Launch} {e : Env} {s : State} {m : MethodId} {below : List Frame} {meth : Method} {c : Code} {b : Nat} {xs : Nat → Int32} {D : va_G} {cy : Nat → ClassId} {A : Nat → Prop} {H : Heap} {locs : List Loc} {ls : Array Slot} {q r : Nat} {u v : Nat → Nat} (F : CallFix p m c cL_law 4 s #[Value.ref b] wsL_law RL) (hr : meth.sig.returnType = ret) (hlocks : meth.locks = false) (hX : va_X b 6 xs s s.heap) (hbl : b < s.heap.size) (hAs : ∀ q, A q → s.heap.size ≤ q) (h : xS D cy A s.heap (askW cy q u ++ modW cy r v) s H locs) (hl : lv_has ls 4 [(3, .int 0), (2, .ref r), (1, .ref q), (0, .ref b)]) : W p l e room_1 s m #[Value.ref b] below meth c H locs 857 99087 (lw_Z below #[Value.ref b] s) (F0 m 537 ls []) := by
  have hbA : ¬ A b := fun ha => absurd (hAs b ha) (Nat.not_le.mpr hbl)
  have h : xS D cy A s.heap ([(q, .inr (11, [.ref ((u 0)), .ref ((u 1)), .ref ((u 2)), .ref ((u 3)), .ref ((u 4)), .ref ((u 5)), .ref ((u 6)), .ref ((u 7)), .ref ((u 8)), .ref ((u 9)), .int 0, .int 0, .int (-1), .int 0, .int 0, .long 0, .long 1])), (((u 1)), .inl (cy 0, 600, .inl (fun _ => 0))), (((u 2)), .inr (3, [.ref ((u 34)), .ref ((u 35)), .int (-1), .int (-1), .ref ((u 36)), .ref ((u 37)), .ref ((u 38)), .ref ((u 39)), .int 0, .ref ((u 40)), .ref ((u 41)), .int 0, .int 0, .int 0])), (((u 34)), .inr (4, [.ref ((u 42)), .int 0])), (((u 42)), .inl (cy 2, 12, .inr (.inl (fun _ => 0)))), (((u 35)), .inr (6, [.ref ((u 43)), .ref ((u 44)), .ref ((u 45)), .ref ((u 46)), .ref ((u 47)), .ref ((u 48)), .ref ((u 49)), .ref ((u 50)), .ref ((u 51)), .ref ((u 52)), .ref ((u 53)), .ref ((u 54)), .ref ((u 55)), .ref ((u 56)), .int 0, .int 0, .int 0, .int 0, .int 0])), (((u 43)), .inl (cy 2, 600, .inr (.inl (fun _ => 0)))), (((u 44)), .inl (cy 2, 12, .inr (.inl (fun _ => 0)))), (((u 45)), .inl (cy 1, 12, .inl (fun _ => 0))), (((u 46)), .inl (cy 1, 12, .inl (fun _ => 0))), (((u 47)), .inl (cy 1, 12, .inl (fun _ => 0))), (((u 48)), .inl (cy 2, 12, .inr (.inl (fun _ => 0)))), (((u 49)), .inl (cy 2, 12, .inr (.inl (fun _ => 0)))), (((u 50)), .inl (cy 1, 24, .inl (fun _ => 0))), (((u 51)), .inl (cy 1, 24, .inl (fun _ => 0))), (((u 52)), .inl (cy 1, 24, .inl (fun _ => 0))), (((u 53)), .inl (cy 1, 25, .inl (fun _ => 0))), (((u 54)), .inl (cy 1, 100, .inl (fun _ => 0))), (((u 55)), .inl (cy 1, 100, .inl (fun _ => 0))), (((u 56)), .inl (cy 1, 100, .inl (fun _ => 0))), (((u 36)), .inl (cy 1, 601, .inl (fun _ => 0))), (((u 37)), .inl (cy 1, 601, .inl (fun _ => 0))), (((u 3)), .inr (0, [.ref ((u 57)), .ref ((u 58)), .ref ((u 59)), .ref ((u 60)), .ref ((u 61)), .int 0, .int 0])), (((u 59)), .inl (cy 6, 16, .inr (.inr (.inr (.inr (va_up (va_up (va_up (va_up (va_up (va_up (va_up (va_up (va_up (va_up (va_up (va_up (va_up (va_up (va_up (va_up (fun _ => none) 0 (some ((u 71)))) 1 (some ((u 72)))) 2 (some ((u 73)))) 3 (some ((u 74)))) 4 (some ((u 75)))) 5 (some ((u 76)))) 6 (some ((u 77)))) 7 (some ((u 78)))) 8 (some ((u 79)))) 9 (some ((u 80)))) 10 (some ((u 81)))) 11 (some ((u 82)))) 12 (some ((u 83)))) 13 (some ((u 84)))) 14 (some ((u 85)))) 15 (some ((u 86))))))))), (((u 71)), .inr (4, [.ref ((u 87)), .int 0])), (((u 87)), .inl (cy 2, 12, .inr (.inl (fun _ => 0)))), (r, .inr (12, (.ref ((v 0)) :: .int 0 :: .long 0 :: .long 1 :: .ref ((v 1)) :: .ref ((v 2)) :: .ref ((v 3)) :: .ref ((v 4)) :: .ref ((v 5)) :: .int 0 :: .int 0 :: .int 0 :: .int 0 :: .int 0 :: .int 0 :: .int (-1) :: .int (-1) :: .int 0 :: .ref ((v 6)) :: .int 0 :: .int 0 :: .ref ((v 7)) :: .ref ((v 8)) :: .ref ((v 9)) :: .ref ((v 10)) :: .ref ((v 11)) :: .ref ((v 12)) :: .ref ((v 13)) :: .int 0 :: .int 0 :: .int (-1) :: .int 0 :: .int (-1) :: .int 0 :: .ref ((v 14)) :: .int 0 :: .int 0 :: .int 0 :: .int 0 :: .int 0 :: .ref ((v 15)) :: .ref ((v 16)) :: .int 0 :: .int (-1) :: .int 0 :: .int 0 :: .int 0 :: .int 0 :: .ref ((v 17)) :: .ref ((v 18)) :: .ref ((v 19)) :: .int 0 :: .ref ((v 20)) :: .ref ((v 21)) :: .int 0 :: .ref ((v 22)) :: .int (-1) :: .int 0 :: .ref ((v 23)) :: .int (-1) :: .int (-1) :: .int 0 :: .ref ((v 24)) :: .ref ((v 25)) :: .int 0 :: []))), (((v 0)), .inl (cy 2, 25710, .inr (.inl (fun _ => 0))))]) s H locs := h.sub [0, 2, 14, 15, 16, 17, 18, 19, 20, 21, 22, 23, 24, 25, 26, 27, 28, 29, 30, 31, 32, 33, 34, 37, 88, 89, 146, 147] (by decide +kernel) rfl
  refine lv_aload_n F.1 F.2.1 dL_law_537 rfl (lv_at hl 2 rfl) ?_
  refine lv_aload_n F.1 F.2.1 dL_law_538 rfl (lv_at hl 3 rfl) ?_
  refine lv_iload_n F.1 F.2.1 dL_law_539 rfl (lv_at hl 0 rfl) ?_
  refine lv_iconst (v := 1) F.1 F.2.1 dL_law_540 (by decide) ?_
  refine lv_iadd F.1 F.2.1 dL_law_541 ?_
  refine x_topi (y := 1) (by decide +kernel) ?_
  refine va_sld F.1 F.2.1 hX hbl hbA h.2.2.2.1 (x_in (by decide +kernel)) dL_law_542 ?_
  refine x_topi (y := (xs 1)) rfl ?_
  refine x_Vi (wr := [(r, .inr (12, (.ref ((v 0)) :: .int 0 :: .long 0 :: .long 1 :: .ref ((v 1)) :: .ref ((v 2)) :: .ref ((v 3)) :: .ref ((v 4)) :: .ref ((v 5)) :: .int 0 :: .int 0 :: .int 0 :: .int 0 :: .int 0 :: .int 0 :: .int (-1) :: .int (-1) :: .int 0 :: .ref ((v 6)) :: .int 0 :: .int 0 :: .ref ((v 7)) :: .ref ((v 8)) :: .ref ((v 9)) :: .ref ((v 10)) :: .ref ((v 11)) :: .ref ((v 12)) :: .ref ((v 13)) :: .int 0 :: .int 0 :: .int (-1) :: .int 0 :: .int (-1) :: .int 0 :: .ref ((v 14)) :: .int 0 :: .int 0 :: .int 0 :: .int 0 :: .int 0 :: .ref ((v 15)) :: .ref ((v 16)) :: .int 0 :: .int (-1) :: .int 0 :: .int 0 :: .int 0 :: .int 0 :: .ref ((v 17)) :: .ref ((v 18)) :: .ref ((v 19)) :: .int 0 :: .ref ((v 20)) :: .ref ((v 21)) :: .int 0 :: .ref ((v 22)) :: .int (-1) :: .int 0 :: .ref ((v 23)) :: .int (-1) :: .int (-1) :: .int 0 :: .ref ((v 24)) :: .ref ((v 25)) :: .int 0 :: []))), (((v 0)), .inl (cy 2, 25710, .inr (.inl (fun _ => 0))))]) F h yk_X11_line mw_372 mw_373 mw_374 (c_line l D cy q u ((xs 1))) [0, 1, 2, 3, 4, 5, 6, 7, 8, 9, 10, 11, 12, 13, 14, 15, 16, 17, 18, 19, 20, 21, 22, 23, 24, 25] [26, 27] 0 rfl (by decide +kernel) rfl rfl (by decide) rfl rfl hl.1 rfl (Nat.le_of_ble_eq_true rfl) ⟨Nat.le_of_ble_eq_true rfl, Nat.le_of_ble_eq_true rfl⟩ ⟨Nat.le_of_ble_eq_true rfl, Nat.le_of_ble_eq_true rfl⟩ dL_law_543 (fun r2 u3 H locs hp1 h => ?_)
  have h : xS D cy A s.heap ([(r, .inr (12, (.ref ((v 0)) :: .int 0 :: .long 0 :: .long 1 :: .ref ((v 1)) :: .ref ((v 2)) :: .ref ((v 3)) :: .ref ((v 4)) :: .ref ((v 5)) :: .int 0 :: .int 0 :: .int 0 :: .int 0 :: .int 0 :: .int 0 :: .int (-1) :: .int (-1) :: .int 0 :: .ref ((v 6)) :: .int 0 :: .int 0 :: .ref ((v 7)) :: .ref ((v 8)) :: .ref ((v 9)) :: .ref ((v 10)) :: .ref ((v 11)) :: .ref ((v 12)) :: .ref ((v 13)) :: .int 0 :: .int 0 :: .int (-1) :: .int 0 :: .int (-1) :: .int 0 :: .ref ((v 14)) :: .int 0 :: .int 0 :: .int 0 :: .int 0 :: .int 0 :: .ref ((v 15)) :: .ref ((v 16)) :: .int 0 :: .int (-1) :: .int 0 :: .int 0 :: .int 0 :: .int 0 :: .ref ((v 17)) :: .ref ((v 18)) :: .ref ((v 19)) :: .int 0 :: .ref ((v 20)) :: .ref ((v 21)) :: .int 0 :: .ref ((v 22)) :: .int (-1) :: .int 0 :: .ref ((v 23)) :: .int (-1) :: .int (-1) :: .int 0 :: .ref ((v 24)) :: .ref ((v 25)) :: .int 0 :: []))), (((v 0)), .inl (cy 2, 25710, .inr (.inl (fun _ => 0))))]) s H locs := h
  refine lv_aload_n F.1 F.2.1 dL_law_546 rfl (lv_at hl 1 rfl) ?_
  refine lv_aload_n F.1 F.2.1 dL_law_547 rfl (lv_at hl 3 rfl) ?_
  refine lv_iload_n F.1 F.2.1 dL_law_548 rfl (lv_at hl 0 rfl) ?_
  refine lv_iconst (v := 1) F.1 F.2.1 dL_law_549 (by decide) ?_
  refine lv_iadd F.1 F.2.1 dL_law_550 ?_
  refine x_topi (y := 1) (by decide +kernel) ?_
  refine va_sld F.1 F.2.1 hX hbl hbA h.2.2.2.1 (x_in (by decide +kernel)) dL_law_551 ?_
  refine x_topi (y := (xs 1)) rfl ?_
  refine x_Vi (wr := []) F h yk_X12_line mw_446 mw_447 mw_448 (c_m_line l D cy r v ((xs 1))) [0, 1] [] 0 rfl rfl rfl rfl (by decide) rfl rfl hl.1 rfl (Nat.le_of_ble_eq_true rfl) ⟨Nat.le_of_ble_eq_true rfl, Nat.le_of_ble_eq_true rfl⟩ ⟨Nat.le_of_ble_eq_true rfl, Nat.le_of_ble_eq_true rfl⟩ dL_law_552 (fun r5 u6 H locs hp4 h => ?_)
  have h : xS D cy A s.heap ([]) s H locs := h
  refine lv_icmp_eq (tgt := 1763) F.1 F.2.1 dL_law_555 (by decide) (fun _ => ?_) (fun hc => absurd (hp1.trans hp4.symm) hc)
  exact law_end F hr hlocks hX hbl hAs h (lv_sub hl [0, 3] rfl)
set_option maxHeartbeats 4000000 in
set_option maxRecDepth 100000 in
theorem law_c9 {p : Program} {l : Launch} {e : Env} {s : State} {m : MethodId} {below : List Frame} {meth : Method} {c : Code} {b : Nat} {xs : Nat → Int32} {D : va_G} {cy : Nat → ClassId} {A : Nat → Prop} {H : Heap} {locs : List Loc} {ls : Array Slot} {q r : Nat} {u v : Nat → Nat} (F : CallFix p m c cL_law 4 s #[Value.ref b] wsL_law RL) (hr : meth.sig.returnType = ret) (hlocks : meth.locks = false) (hX : va_X b 6 xs s s.heap) (hbl : b < s.heap.size) (hAs : ∀ q, A q → s.heap.size ≤ q) (h : xS D cy A s.heap (askW cy q u ++ modW cy r v) s H locs) (hl : lv_has ls 4 [(3, .int 0), (2, .ref r), (1, .ref q), (0, .ref b)]) : W p l e room_1 s m #[Value.ref b] below meth c H locs 857 99087 (lw_Z below #[Value.ref b] s) (F0 m 560 ls []) := by
  have hbA : ¬ A b := fun ha => absurd (hAs b ha) (Nat.not_le.mpr hbl)
  have h : xS D cy A s.heap ([(q, .inr (11, [.ref ((u 0)), .ref ((u 1)), .ref ((u 2)), .ref ((u 3)), .ref ((u 4)), .ref ((u 5)), .ref ((u 6)), .ref ((u 7)), .ref ((u 8)), .ref ((u 9)), .int 0, .int 0, .int (-1), .int 0, .int 0, .long 0, .long 1])), (((u 1)), .inl (cy 0, 600, .inl (fun _ => 0))), (((u 2)), .inr (3, [.ref ((u 34)), .ref ((u 35)), .int (-1), .int (-1), .ref ((u 36)), .ref ((u 37)), .ref ((u 38)), .ref ((u 39)), .int 0, .ref ((u 40)), .ref ((u 41)), .int 0, .int 0, .int 0])), (((u 34)), .inr (4, [.ref ((u 42)), .int 0])), (((u 42)), .inl (cy 2, 12, .inr (.inl (fun _ => 0)))), (((u 35)), .inr (6, [.ref ((u 43)), .ref ((u 44)), .ref ((u 45)), .ref ((u 46)), .ref ((u 47)), .ref ((u 48)), .ref ((u 49)), .ref ((u 50)), .ref ((u 51)), .ref ((u 52)), .ref ((u 53)), .ref ((u 54)), .ref ((u 55)), .ref ((u 56)), .int 0, .int 0, .int 0, .int 0, .int 0])), (((u 43)), .inl (cy 2, 600, .inr (.inl (fun _ => 0)))), (((u 44)), .inl (cy 2, 12, .inr (.inl (fun _ => 0)))), (((u 45)), .inl (cy 1, 12, .inl (fun _ => 0))), (((u 46)), .inl (cy 1, 12, .inl (fun _ => 0))), (((u 47)), .inl (cy 1, 12, .inl (fun _ => 0))), (((u 48)), .inl (cy 2, 12, .inr (.inl (fun _ => 0)))), (((u 49)), .inl (cy 2, 12, .inr (.inl (fun _ => 0)))), (((u 50)), .inl (cy 1, 24, .inl (fun _ => 0))), (((u 51)), .inl (cy 1, 24, .inl (fun _ => 0))), (((u 52)), .inl (cy 1, 24, .inl (fun _ => 0))), (((u 53)), .inl (cy 1, 25, .inl (fun _ => 0))), (((u 54)), .inl (cy 1, 100, .inl (fun _ => 0))), (((u 55)), .inl (cy 1, 100, .inl (fun _ => 0))), (((u 56)), .inl (cy 1, 100, .inl (fun _ => 0))), (((u 36)), .inl (cy 1, 601, .inl (fun _ => 0))), (((u 37)), .inl (cy 1, 601, .inl (fun _ => 0))), (((u 3)), .inr (0, [.ref ((u 57)), .ref ((u 58)), .ref ((u 59)), .ref ((u 60)), .ref ((u 61)), .int 0, .int 0])), (((u 57)), .inl (cy 7, 3, .inr (.inr (.inr (.inr (va_up (va_up (va_up (fun _ => none) 0 (some ((u 62)))) 1 (some ((u 63)))) 2 (some ((u 64))))))))), (((u 62)), .inr (6, [.ref ((u 88)), .ref ((u 89)), .ref ((u 90)), .ref ((u 91)), .ref ((u 92)), .ref ((u 93)), .ref ((u 94)), .ref ((u 95)), .ref ((u 96)), .ref ((u 97)), .ref ((u 98)), .ref ((u 99)), .ref ((u 100)), .ref ((u 101)), .int 0, .int 0, .int 0, .int 0, .int 0])), (((u 63)), .inr (6, [.ref ((u 102)), .ref ((u 103)), .ref ((u 104)), .ref ((u 105)), .ref ((u 106)), .ref ((u 107)), .ref ((u 108)), .ref ((u 109)), .ref ((u 110)), .ref ((u 111)), .ref ((u 112)), .ref ((u 113)), .ref ((u 114)), .ref ((u 115)), .int 0, .int 0, .int 0, .int 0, .int 0])), (((u 64)), .inr (6, [.ref ((u 116)), .ref ((u 117)), .ref ((u 118)), .ref ((u 119)), .ref ((u 120)), .ref ((u 121)), .ref ((u 122)), .ref ((u 123)), .ref ((u 124)), .ref ((u 125)), .ref ((u 126)), .ref ((u 127)), .ref ((u 128)), .ref ((u 129)), .int 0, .int 0, .int 0, .int 0, .int 0])), (((u 58)), .inl (cy 8, 3, .inr (.inr (.inr (.inr (va_up (va_up (va_up (fun _ => none) 0 (some ((u 65)))) 1 (some ((u 66)))) 2 (some ((u 67))))))))), (((u 65)), .inr (8, [.ref ((u 68)), .int 0, .long 0])), (((u 66)), .inr (8, [.ref ((u 69)), .int 0, .long 0])), (((u 67)), .inr (8, [.ref ((u 70)), .int 0, .long 0])), (r, .inr (12, (.ref ((v 0)) :: .int 0 :: .long 0 :: .long 1 :: .ref ((v 1)) :: .ref ((v 2)) :: .ref ((v 3)) :: .ref ((v 4)) :: .ref ((v 5)) :: .int 0 :: .int 0 :: .int 0 :: .int 0 :: .int 0 :: .int 0 :: .int (-1) :: .int (-1) :: .int 0 :: .ref ((v 6)) :: .int 0 :: .int 0 :: .ref ((v 7)) :: .ref ((v 8)) :: .ref ((v 9)) :: .ref ((v 10)) :: .ref ((v 11)) :: .ref ((v 12)) :: .ref ((v 13)) :: .int 0 :: .int 0 :: .int (-1) :: .int 0 :: .int (-1) :: .int 0 :: .ref ((v 14)) :: .int 0 :: .int 0 :: .int 0 :: .int 0 :: .int 0 :: .ref ((v 15)) :: .ref ((v 16)) :: .int 0 :: .int (-1) :: .int 0 :: .int 0 :: .int 0 :: .int 0 :: .ref ((v 17)) :: .ref ((v 18)) :: .ref ((v 19)) :: .int 0 :: .ref ((v 20)) :: .ref ((v 21)) :: .int 0 :: .ref ((v 22)) :: .int (-1) :: .int 0 :: .ref ((v 23)) :: .int (-1) :: .int (-1) :: .int 0 :: .ref ((v 24)) :: .ref ((v 25)) :: .int 0 :: []))), (((v 0)), .inl (cy 2, 25710, .inr (.inl (fun _ => 0))))]) s H locs := h.sub [0, 2, 14, 15, 16, 17, 18, 19, 20, 21, 22, 23, 24, 25, 26, 27, 28, 29, 30, 31, 32, 33, 34, 35, 40, 55, 70, 36, 85, 86, 87, 146, 147] (by decide +kernel) rfl
  refine lv_aload_n F.1 F.2.1 dL_law_560 rfl (lv_at hl 2 rfl) ?_
  refine lv_aload_n F.1 F.2.1 dL_law_561 rfl (lv_at hl 3 rfl) ?_
  refine lv_iload_n F.1 F.2.1 dL_law_562 rfl (lv_at hl 0 rfl) ?_
  refine lv_iconst (v := 1) F.1 F.2.1 dL_law_563 (by decide) ?_
  refine lv_iadd F.1 F.2.1 dL_law_564 ?_
  refine x_topi (y := 1) (by decide +kernel) ?_
  refine va_sld F.1 F.2.1 hX hbl hbA h.2.2.2.1 (x_in (by decide +kernel)) dL_law_565 ?_
  refine x_topi (y := (xs 1)) rfl ?_
  refine lv_aload_n F.1 F.2.1 dL_law_566 rfl (lv_at hl 3 rfl) ?_
  refine lv_iload_n F.1 F.2.1 dL_law_567 rfl (lv_at hl 0 rfl) ?_
  refine lv_iconst (v := 2) F.1 F.2.1 dL_law_568 (by decide) ?_
  refine lv_iadd F.1 F.2.1 dL_law_569 ?_
  refine x_topi (y := 2) (by decide +kernel) ?_
  refine va_sld F.1 F.2.1 hX hbl hbA h.2.2.2.1 (x_in (by decide +kernel)) dL_law_570 ?_
  refine x_topi (y := (xs 2)) rfl ?_
  refine x_Vi (wr := [(r, .inr (12, (.ref ((v 0)) :: .int 0 :: .long 0 :: .long 1 :: .ref ((v 1)) :: .ref ((v 2)) :: .ref ((v 3)) :: .ref ((v 4)) :: .ref ((v 5)) :: .int 0 :: .int 0 :: .int 0 :: .int 0 :: .int 0 :: .int 0 :: .int (-1) :: .int (-1) :: .int 0 :: .ref ((v 6)) :: .int 0 :: .int 0 :: .ref ((v 7)) :: .ref ((v 8)) :: .ref ((v 9)) :: .ref ((v 10)) :: .ref ((v 11)) :: .ref ((v 12)) :: .ref ((v 13)) :: .int 0 :: .int 0 :: .int (-1) :: .int 0 :: .int (-1) :: .int 0 :: .ref ((v 14)) :: .int 0 :: .int 0 :: .int 0 :: .int 0 :: .int 0 :: .ref ((v 15)) :: .ref ((v 16)) :: .int 0 :: .int (-1) :: .int 0 :: .int 0 :: .int 0 :: .int 0 :: .ref ((v 17)) :: .ref ((v 18)) :: .ref ((v 19)) :: .int 0 :: .ref ((v 20)) :: .ref ((v 21)) :: .int 0 :: .ref ((v 22)) :: .int (-1) :: .int 0 :: .ref ((v 23)) :: .int (-1) :: .int (-1) :: .int 0 :: .ref ((v 24)) :: .ref ((v 25)) :: .int 0 :: []))), (((v 0)), .inl (cy 2, 25710, .inr (.inl (fun _ => 0))))]) F h yk_X11_script mw_503 mw_504 mw_505 (c_script l D cy q u ((xs 1)) ((xs 2))) [0, 1, 2, 3, 4, 5, 6, 7, 8, 9, 10, 11, 12, 13, 14, 15, 16, 17, 18, 19, 20, 21, 22, 23, 24, 25, 26, 27, 28, 29, 30] [31, 32] 0 rfl (by decide +kernel) rfl rfl (by decide) rfl rfl hl.1 rfl (Nat.le_of_ble_eq_true rfl) ⟨Nat.le_of_ble_eq_true rfl, Nat.le_of_ble_eq_true rfl⟩ ⟨Nat.le_of_ble_eq_true rfl, Nat.le_of_ble_eq_true rfl⟩ dL_law_571 (fun r2 u3 H locs hp1 h => ?_)
  have h : xS D cy A s.heap ([(r, .inr (12, (.ref ((v 0)) :: .int 0 :: .long 0 :: .long 1 :: .ref ((v 1)) :: .ref ((v 2)) :: .ref ((v 3)) :: .ref ((v 4)) :: .ref ((v 5)) :: .int 0 :: .int 0 :: .int 0 :: .int 0 :: .int 0 :: .int 0 :: .int (-1) :: .int (-1) :: .int 0 :: .ref ((v 6)) :: .int 0 :: .int 0 :: .ref ((v 7)) :: .ref ((v 8)) :: .ref ((v 9)) :: .ref ((v 10)) :: .ref ((v 11)) :: .ref ((v 12)) :: .ref ((v 13)) :: .int 0 :: .int 0 :: .int (-1) :: .int 0 :: .int (-1) :: .int 0 :: .ref ((v 14)) :: .int 0 :: .int 0 :: .int 0 :: .int 0 :: .int 0 :: .ref ((v 15)) :: .ref ((v 16)) :: .int 0 :: .int (-1) :: .int 0 :: .int 0 :: .int 0 :: .int 0 :: .ref ((v 17)) :: .ref ((v 18)) :: .ref ((v 19)) :: .int 0 :: .ref ((v 20)) :: .ref ((v 21)) :: .int 0 :: .ref ((v 22)) :: .int (-1) :: .int 0 :: .ref ((v 23)) :: .int (-1) :: .int (-1) :: .int 0 :: .ref ((v 24)) :: .ref ((v 25)) :: .int 0 :: []))), (((v 0)), .inl (cy 2, 25710, .inr (.inl (fun _ => 0))))]) s H locs := h
  refine lv_aload_n F.1 F.2.1 dL_law_574 rfl (lv_at hl 1 rfl) ?_
  refine lv_aload_n F.1 F.2.1 dL_law_575 rfl (lv_at hl 3 rfl) ?_
  refine lv_iload_n F.1 F.2.1 dL_law_576 rfl (lv_at hl 0 rfl) ?_
  refine lv_iconst (v := 1) F.1 F.2.1 dL_law_577 (by decide) ?_
  refine lv_iadd F.1 F.2.1 dL_law_578 ?_
  refine x_topi (y := 1) (by decide +kernel) ?_
  refine va_sld F.1 F.2.1 hX hbl hbA h.2.2.2.1 (x_in (by decide +kernel)) dL_law_579 ?_
  refine x_topi (y := (xs 1)) rfl ?_
  refine lv_aload_n F.1 F.2.1 dL_law_580 rfl (lv_at hl 3 rfl) ?_
  refine lv_iload_n F.1 F.2.1 dL_law_581 rfl (lv_at hl 0 rfl) ?_
  refine lv_iconst (v := 2) F.1 F.2.1 dL_law_582 (by decide) ?_
  refine lv_iadd F.1 F.2.1 dL_law_583 ?_
  refine x_topi (y := 2) (by decide +kernel) ?_
  refine va_sld F.1 F.2.1 hX hbl hbA h.2.2.2.1 (x_in (by decide +kernel)) dL_law_584 ?_
  refine x_topi (y := (xs 2)) rfl ?_
  refine x_Vi (wr := []) F h yk_X12_script mw_630 mw_631 mw_632 (c_m_script l D cy r v ((xs 1)) ((xs 2))) [0, 1] [] 0 rfl rfl rfl rfl (by decide) rfl rfl hl.1 rfl (Nat.le_of_ble_eq_true rfl) ⟨Nat.le_of_ble_eq_true rfl, Nat.le_of_ble_eq_true rfl⟩ ⟨Nat.le_of_ble_eq_true rfl, Nat.le_of_ble_eq_true rfl⟩ dL_law_585 (fun r5 u6 H locs hp4 h => ?_)
  have h : xS D cy A s.heap ([]) s H locs := h
  refine lv_icmp_eq (tgt := 1763) F.1 F.2.1 dL_law_588 (by decide) (fun _ => ?_) (fun hc => absurd (hp1.trans hp4.symm) hc)
  exact law_end F hr hlocks hX hbl hAs h (lv_sub hl [0, 3] rfl)
set_option maxHeartbeats 4000000 in
set_option maxRecDepth 100000 in
theorem law_c10 {p : Program} {l : Launch} {e : Env} {s : State} {m : MethodId} {below : List Frame} {meth : Method} {c : Code} {b : Nat} {xs : Nat → Int32} {D : va_G} {cy : Nat → ClassId} {A : Nat → Prop} {H : Heap} {locs : List Loc} {ls : Array Slot} {q r : Nat} {u v : Nat → Nat} (F : CallFix p m c cL_law 4 s #[Value.ref b] wsL_law RL) (hr : meth.sig.returnType = ret) (hlocks : meth.locks = false) (hX : va_X b 6 xs s s.heap) (hbl : b < s.heap.size) (hAs : ∀ q, A q → s.heap.size ≤ q) (h : xS D cy A s.heap (askW cy q u ++ modW cy r v) s H locs) (hl : lv_has ls 4 [(3, .int 0), (2, .ref r), (1, .ref q), (0, .ref b)]) : W p l e room_1 s m #[Value.ref b] below meth c H locs 857 99087 (lw_Z below #[Value.ref b] s) (F0 m 593 ls []) := by
  have hbA : ¬ A b := fun ha => absurd (hAs b ha) (Nat.not_le.mpr hbl)
  have h : xS D cy A s.heap ([(q, .inr (11, [.ref ((u 0)), .ref ((u 1)), .ref ((u 2)), .ref ((u 3)), .ref ((u 4)), .ref ((u 5)), .ref ((u 6)), .ref ((u 7)), .ref ((u 8)), .ref ((u 9)), .int 0, .int 0, .int (-1), .int 0, .int 0, .long 0, .long 1])), (((u 2)), .inr (3, [.ref ((u 34)), .ref ((u 35)), .int (-1), .int (-1), .ref ((u 36)), .ref ((u 37)), .ref ((u 38)), .ref ((u 39)), .int 0, .ref ((u 40)), .ref ((u 41)), .int 0, .int 0, .int 0])), (((u 34)), .inr (4, [.ref ((u 42)), .int 0])), (((u 42)), .inl (cy 2, 12, .inr (.inl (fun _ => 0)))), (((u 35)), .inr (6, [.ref ((u 43)), .ref ((u 44)), .ref ((u 45)), .ref ((u 46)), .ref ((u 47)), .ref ((u 48)), .ref ((u 49)), .ref ((u 50)), .ref ((u 51)), .ref ((u 52)), .ref ((u 53)), .ref ((u 54)), .ref ((u 55)), .ref ((u 56)), .int 0, .int 0, .int 0, .int 0, .int 0])), (((u 43)), .inl (cy 2, 600, .inr (.inl (fun _ => 0)))), (((u 44)), .inl (cy 2, 12, .inr (.inl (fun _ => 0)))), (((u 45)), .inl (cy 1, 12, .inl (fun _ => 0))), (((u 46)), .inl (cy 1, 12, .inl (fun _ => 0))), (((u 47)), .inl (cy 1, 12, .inl (fun _ => 0))), (((u 48)), .inl (cy 2, 12, .inr (.inl (fun _ => 0)))), (((u 49)), .inl (cy 2, 12, .inr (.inl (fun _ => 0)))), (((u 50)), .inl (cy 1, 24, .inl (fun _ => 0))), (((u 51)), .inl (cy 1, 24, .inl (fun _ => 0))), (((u 52)), .inl (cy 1, 24, .inl (fun _ => 0))), (((u 53)), .inl (cy 1, 25, .inl (fun _ => 0))), (((u 54)), .inl (cy 1, 100, .inl (fun _ => 0))), (((u 55)), .inl (cy 1, 100, .inl (fun _ => 0))), (((u 56)), .inl (cy 1, 100, .inl (fun _ => 0))), (((u 36)), .inl (cy 1, 601, .inl (fun _ => 0))), (((u 37)), .inl (cy 1, 601, .inl (fun _ => 0))), (r, .inr (12, (.ref ((v 0)) :: .int 0 :: .long 0 :: .long 1 :: .ref ((v 1)) :: .ref ((v 2)) :: .ref ((v 3)) :: .ref ((v 4)) :: .ref ((v 5)) :: .int 0 :: .int 0 :: .int 0 :: .int 0 :: .int 0 :: .int 0 :: .int (-1) :: .int (-1) :: .int 0 :: .ref ((v 6)) :: .int 0 :: .int 0 :: .ref ((v 7)) :: .ref ((v 8)) :: .ref ((v 9)) :: .ref ((v 10)) :: .ref ((v 11)) :: .ref ((v 12)) :: .ref ((v 13)) :: .int 0 :: .int 0 :: .int (-1) :: .int 0 :: .int (-1) :: .int 0 :: .ref ((v 14)) :: .int 0 :: .int 0 :: .int 0 :: .int 0 :: .int 0 :: .ref ((v 15)) :: .ref ((v 16)) :: .int 0 :: .int (-1) :: .int 0 :: .int 0 :: .int 0 :: .int 0 :: .ref ((v 17)) :: .ref ((v 18)) :: .ref ((v 19)) :: .int 0 :: .ref ((v 20)) :: .ref ((v 21)) :: .int 0 :: .ref ((v 22)) :: .int (-1) :: .int 0 :: .ref ((v 23)) :: .int (-1) :: .int (-1) :: .int 0 :: .ref ((v 24)) :: .ref ((v 25)) :: .int 0 :: [])))]) s H locs := h.sub [0, 14, 15, 16, 17, 18, 19, 20, 21, 22, 23, 24, 25, 26, 27, 28, 29, 30, 31, 32, 33, 146] (by decide +kernel) rfl
  refine lv_aload_n F.1 F.2.1 dL_law_593 rfl (lv_at hl 2 rfl) ?_
  refine lv_aload_n F.1 F.2.1 dL_law_594 rfl (lv_at hl 3 rfl) ?_
  refine lv_iload_n F.1 F.2.1 dL_law_595 rfl (lv_at hl 0 rfl) ?_
  refine lv_iconst (v := 1) F.1 F.2.1 dL_law_596 (by decide) ?_
  refine lv_iadd F.1 F.2.1 dL_law_597 ?_
  refine x_topi (y := 1) (by decide +kernel) ?_
  refine va_sld F.1 F.2.1 hX hbl hbA h.2.2.2.1 (x_in (by decide +kernel)) dL_law_598 ?_
  refine x_topi (y := (xs 1)) rfl ?_
  refine x_Vi (wr := [(r, .inr (12, (.ref ((v 0)) :: .int 0 :: .long 0 :: .long 1 :: .ref ((v 1)) :: .ref ((v 2)) :: .ref ((v 3)) :: .ref ((v 4)) :: .ref ((v 5)) :: .int 0 :: .int 0 :: .int 0 :: .int 0 :: .int 0 :: .int 0 :: .int (-1) :: .int (-1) :: .int 0 :: .ref ((v 6)) :: .int 0 :: .int 0 :: .ref ((v 7)) :: .ref ((v 8)) :: .ref ((v 9)) :: .ref ((v 10)) :: .ref ((v 11)) :: .ref ((v 12)) :: .ref ((v 13)) :: .int 0 :: .int 0 :: .int (-1) :: .int 0 :: .int (-1) :: .int 0 :: .ref ((v 14)) :: .int 0 :: .int 0 :: .int 0 :: .int 0 :: .int 0 :: .ref ((v 15)) :: .ref ((v 16)) :: .int 0 :: .int (-1) :: .int 0 :: .int 0 :: .int 0 :: .int 0 :: .ref ((v 17)) :: .ref ((v 18)) :: .ref ((v 19)) :: .int 0 :: .ref ((v 20)) :: .ref ((v 21)) :: .int 0 :: .ref ((v 22)) :: .int (-1) :: .int 0 :: .ref ((v 23)) :: .int (-1) :: .int (-1) :: .int 0 :: .ref ((v 24)) :: .ref ((v 25)) :: .int 0 :: [])))]) F h yk_X11_fault mw_753 mw_754 mw_755 (c_fault l D cy q u ((xs 1))) [0, 1, 2, 3, 4, 5, 6, 7, 8, 9, 10, 11, 12, 13, 14, 15, 16, 17, 18, 19, 20] [21] 0 rfl (by decide +kernel) rfl rfl (by decide) rfl rfl hl.1 rfl (Nat.le_of_ble_eq_true rfl) ⟨Nat.le_of_ble_eq_true rfl, Nat.le_of_ble_eq_true rfl⟩ ⟨Nat.le_of_ble_eq_true rfl, Nat.le_of_ble_eq_true rfl⟩ dL_law_599 (fun r2 u3 H locs hp1 h => ?_)
  have h : xS D cy A s.heap ([(r, .inr (12, (.ref ((v 0)) :: .int 0 :: .long 0 :: .long 1 :: .ref ((v 1)) :: .ref ((v 2)) :: .ref ((v 3)) :: .ref ((v 4)) :: .ref ((v 5)) :: .int 0 :: .int 0 :: .int 0 :: .int 0 :: .int 0 :: .int 0 :: .int (-1) :: .int (-1) :: .int 0 :: .ref ((v 6)) :: .int 0 :: .int 0 :: .ref ((v 7)) :: .ref ((v 8)) :: .ref ((v 9)) :: .ref ((v 10)) :: .ref ((v 11)) :: .ref ((v 12)) :: .ref ((v 13)) :: .int 0 :: .int 0 :: .int (-1) :: .int 0 :: .int (-1) :: .int 0 :: .ref ((v 14)) :: .int 0 :: .int 0 :: .int 0 :: .int 0 :: .int 0 :: .ref ((v 15)) :: .ref ((v 16)) :: .int 0 :: .int (-1) :: .int 0 :: .int 0 :: .int 0 :: .int 0 :: .ref ((v 17)) :: .ref ((v 18)) :: .ref ((v 19)) :: .int 0 :: .ref ((v 20)) :: .ref ((v 21)) :: .int 0 :: .ref ((v 22)) :: .int (-1) :: .int 0 :: .ref ((v 23)) :: .int (-1) :: .int (-1) :: .int 0 :: .ref ((v 24)) :: .ref ((v 25)) :: .int 0 :: [])))]) s H locs := h
  obtain rfl : r2 = (-1) := hp1
  refine lv_aload_n F.1 F.2.1 dL_law_602 rfl (lv_at hl 1 rfl) ?_
  refine lv_aload_n F.1 F.2.1 dL_law_603 rfl (lv_at hl 3 rfl) ?_
  refine lv_iload_n F.1 F.2.1 dL_law_604 rfl (lv_at hl 0 rfl) ?_
  refine lv_iconst (v := 1) F.1 F.2.1 dL_law_605 (by decide) ?_
  refine lv_iadd F.1 F.2.1 dL_law_606 ?_
  refine x_topi (y := 1) (by decide +kernel) ?_
  refine va_sld F.1 F.2.1 hX hbl hbA h.2.2.2.1 (x_in (by decide +kernel)) dL_law_607 ?_
  refine x_topi (y := (xs 1)) rfl ?_
  refine x_Vi (wr := []) F h yk_X12_fault mw_759 mw_760 mw_761 (c_m_fault l D cy r v ((xs 1))) [0] [] 0 rfl rfl rfl rfl (by decide) rfl rfl hl.1 rfl (Nat.le_of_ble_eq_true rfl) ⟨Nat.le_of_ble_eq_true rfl, Nat.le_of_ble_eq_true rfl⟩ ⟨Nat.le_of_ble_eq_true rfl, Nat.le_of_ble_eq_true rfl⟩ dL_law_608 (fun r5 u6 H locs hp4 h => ?_)
  have h : xS D cy A s.heap ([]) s H locs := h
  obtain rfl : r5 = (-1) := hp4
  refine lv_icmp_eq (tgt := 1763) F.1 F.2.1 dL_law_611 (by decide) (fun _ => ?_) (fun hc => absurd (by decide) hc)
  exact law_end F hr hlocks hX hbl hAs h (lv_sub hl [0, 3] rfl)
