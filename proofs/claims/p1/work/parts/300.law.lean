set_option maxRecDepth 20000 in
theorem wsL_law_x0 : ∀ w ∈ (vx_atS RX11 256 "java/util/NoSuchElementException" ["java/lang/RuntimeException", "java/lang/Exception"]).filter goodWord, w ∈ lw_tbl := by decide +kernel
theorem wx_in : ∀ w ∈ wsX, w ∈ lw_tbl := List.forall_mem_append.mpr ⟨wl_in, wsL_law_x0⟩
set_option maxRecDepth 20000 in
theorem gl_L_of : GoodIn lw_tbl (va_wsS RL 103 yL_of (Cond.codeWith yL_of cL_of 5 (some .int) [(0, 10, 13, 13)] :: wsX)) := by
  intro w hw
  unfold va_wsS at hw
  rcases List.mem_append.mp hw with h | h
  · simp only [List.mem_cons, List.not_mem_nil, or_false] at h
    rcases h with rfl | rfl | rfl
    · exact ⟨wl_in _ m_41_12, good_of_word (by decide +kernel)⟩
    · exact ⟨wl_in _ m_41_13, good_of_word (by decide +kernel)⟩
    · exact ⟨tb_1 _ (List.mem_of_getElem? (i := 0) rfl), good_of_word (by decide +kernel)⟩
  · rcases List.mem_cons.mp h with rfl | h
    · exact ⟨tb_5 _ (List.mem_of_getElem? (i := 190) rfl), good_of_word (by decide +kernel)⟩
    · exact ⟨wx_in w h, good_of_word (wx_good w h)⟩
set_option maxRecDepth 20000 in
theorem gl_L_coin : GoodIn lw_tbl (va_wsS RL 112 yL_coin (Cond.codeWith yL_coin cL_coin 4 (some .int) [(0, 9, 12, 13)] :: wsX)) := by
  intro w hw
  unfold va_wsS at hw
  rcases List.mem_append.mp hw with h | h
  · simp only [List.mem_cons, List.not_mem_nil, or_false] at h
    rcases h with rfl | rfl | rfl
    · exact ⟨wl_in _ m_42_15, good_of_word (by decide +kernel)⟩
    · exact ⟨wl_in _ m_42_16, good_of_word (by decide +kernel)⟩
    · exact ⟨tb_1 _ (List.mem_of_getElem? (i := 0) rfl), good_of_word (by decide +kernel)⟩
  · rcases List.mem_cons.mp h with rfl | h
    · exact ⟨tb_6 _ (List.mem_of_getElem? (i := 24) rfl), good_of_word (by decide +kernel)⟩
    · exact ⟨wx_in w h, good_of_word (wx_good w h)⟩
set_option maxRecDepth 20000 in
theorem law_thr {args : Array Value} {s : State} (hts : ∀ w ∈ lw_tbl, w.before args s = true) (hgv : (Jvm.Cond.and given_1 narrow_1).before args s = true) : thr (fun q : Nat => s.heap.size ≤ q) s s.heap := by
  have hs := flat_of_before _ hgv
  have hA : ∀ a : Nat, a < s.heap.size → ¬ (fun q : Nat => s.heap.size ≤ q) a := fun a h q => absurd q (Nat.not_le.mpr h)
  refine ⟨⟨va_Nw.of rfl (hts _ (tb_5 _ (List.mem_of_getElem? (i := 198) rfl))), va_Nw.of rfl (hts _ (tb_5 _ (List.mem_of_getElem? (i := 200) rfl))), va_Nw.of rfl (hts _ (tb_5 _ (List.mem_of_getElem? (i := 202) rfl))), va_Nw.of rfl (hts _ (tb_5 _ (List.mem_of_getElem? (i := 204) rfl)))⟩, ?_, ?_, vx_Zqof (hts _ (tb_5 _ (List.mem_of_getElem? (i := 223) rfl))) (hts (Cond.initialized "java/lang/Throwable") (tb_1 _ (List.mem_of_getElem? (i := 26) rfl))) (hs _ (by decide +kernel)) hA, vx_Zqof (hts _ (tb_5 _ (List.mem_of_getElem? (i := 225) rfl))) (hts (Cond.initialized "java/lang/Throwable") (tb_1 _ (List.mem_of_getElem? (i := 26) rfl))) (hs _ (by decide +kernel)) hA⟩
  · obtain ⟨a, _, _, _, h, -⟩ := Cond.exactly_spec (hs (Cond.exactly (.string "PaperBoys" 254) "java/lang/String") (by decide +kernel))
    exact ⟨a, vk_R.of (hts _ (tb_5 _ (List.mem_of_getElem? (i := 235) rfl))) h⟩
  · obtain ⟨a, _, _, _, h, -⟩ := Cond.exactly_spec (hs (Cond.exactly (.string "PaperBoys" 273) "java/lang/String") (by decide +kernel))
    exact ⟨a, vk_R.of (hts _ (tb_6 _ (List.mem_of_getElem? (i := 29) rfl))) h⟩
theorem dL_law_0 : decode cL_law 0 = .ok (.new 8, 3) := by decide +kernel
theorem dL_law_3 : decode cL_law 3 = .ok (.dup, 1) := by decide +kernel
theorem dL_law_4 : decode cL_law 4 = .ok (.invokespecial 19, 3) := by decide +kernel
theorem dL_law_7 : decode cL_law 7 = .ok (.astore_n 1, 1) := by decide +kernel
theorem dL_law_8 : decode cL_law 8 = .ok (.new 20, 3) := by decide +kernel
theorem dL_law_11 : decode cL_law 11 = .ok (.dup, 1) := by decide +kernel
theorem dL_law_12 : decode cL_law 12 = .ok (.invokespecial 22, 3) := by decide +kernel
theorem dL_law_15 : decode cL_law 15 = .ok (.astore_n 2, 1) := by decide +kernel
theorem dL_law_16 : decode cL_law 16 = .ok (.iconst 1, 1) := by decide +kernel
theorem dL_law_17 : decode cL_law 17 = .ok (.newarray .long, 2) := by decide +kernel
theorem dL_law_19 : decode cL_law 19 = .ok (.astore_n 3, 1) := by decide +kernel
theorem dL_law_20 : decode cL_law 20 = .ok (.iconst 0, 1) := by decide +kernel
theorem dL_law_21 : decode cL_law 21 = .ok (.istore 4, 2) := by decide +kernel
theorem dL_law_23 : decode cL_law 23 = .ok (.iload 4, 2) := by decide +kernel
theorem dL_law_25 : decode cL_law 25 = .ok (.aload_n 0, 1) := by decide +kernel
theorem dL_law_26 : decode cL_law 26 = .ok (.arraylength, 1) := by decide +kernel
theorem dL_law_27 : decode cL_law 27 = .ok (.bipush 6, 2) := by decide +kernel
theorem dL_law_29 : decode cL_law 29 = .ok (.isub, 1) := by decide +kernel
theorem dL_law_30 : decode cL_law 30 = .ok (.if_icmp .gt 1498, 3) := by decide +kernel
theorem dL_law_33 : decode cL_law 33 = .ok (.aload_n 0, 1) := by decide +kernel
theorem dL_law_34 : decode cL_law 34 = .ok (.iload 4, 2) := by decide +kernel
theorem dL_law_36 : decode cL_law 36 = .ok (.iaload, 1) := by decide +kernel
theorem dL_law_37 : decode cL_law 37 = .ok (.bipush 63, 2) := by decide +kernel
theorem dL_law_39 : decode cL_law 39 = .ok (.iand, 1) := by decide +kernel
theorem dL_law_40 : decode cL_law 40 = .ok (.tableswitch 1482 0 34 #[156, 229, 254, 331, 368, 405, 418, 443, 492, 541, 590, 651, 700, 725, 738, 811, 848, 861, 874, 942, 998, 1059, 1084, 1109, 1182, 1196, 1209, 1222, 1271, 1296, 1321, 1334, 1359, 1432, 1457], 156) := by decide +kernel
theorem dL_law_196 : decode cL_law 196 = .ok (.aload_n 1, 1) := by decide +kernel
theorem dL_law_197 : decode cL_law 197 = .ok (.aload_n 0, 1) := by decide +kernel
theorem dL_law_198 : decode cL_law 198 = .ok (.iload 4, 2) := by decide +kernel
theorem dL_law_200 : decode cL_law 200 = .ok (.iconst 1, 1) := by decide +kernel
theorem dL_law_201 : decode cL_law 201 = .ok (.iadd, 1) := by decide +kernel
theorem dL_law_202 : decode cL_law 202 = .ok (.iaload, 1) := by decide +kernel
theorem dL_law_203 : decode cL_law 203 = .ok (.aload_n 0, 1) := by decide +kernel
theorem dL_law_204 : decode cL_law 204 = .ok (.iload 4, 2) := by decide +kernel
theorem dL_law_206 : decode cL_law 206 = .ok (.iconst 2, 1) := by decide +kernel
theorem dL_law_207 : decode cL_law 207 = .ok (.iadd, 1) := by decide +kernel
theorem dL_law_208 : decode cL_law 208 = .ok (.iaload, 1) := by decide +kernel
theorem dL_law_209 : decode cL_law 209 = .ok (.aload_n 0, 1) := by decide +kernel
theorem dL_law_210 : decode cL_law 210 = .ok (.iload 4, 2) := by decide +kernel
theorem dL_law_212 : decode cL_law 212 = .ok (.iconst 3, 1) := by decide +kernel
theorem dL_law_213 : decode cL_law 213 = .ok (.iadd, 1) := by decide +kernel
theorem dL_law_214 : decode cL_law 214 = .ok (.iaload, 1) := by decide +kernel
theorem dL_law_215 : decode cL_law 215 = .ok (.aload_n 0, 1) := by decide +kernel
theorem dL_law_216 : decode cL_law 216 = .ok (.iload 4, 2) := by decide +kernel
theorem dL_law_218 : decode cL_law 218 = .ok (.iconst 4, 1) := by decide +kernel
theorem dL_law_219 : decode cL_law 219 = .ok (.iadd, 1) := by decide +kernel
theorem dL_law_220 : decode cL_law 220 = .ok (.iaload, 1) := by decide +kernel
theorem dL_law_221 : decode cL_law 221 = .ok (.aload_n 0, 1) := by decide +kernel
theorem dL_law_222 : decode cL_law 222 = .ok (.iload 4, 2) := by decide +kernel
theorem dL_law_224 : decode cL_law 224 = .ok (.iconst 5, 1) := by decide +kernel
theorem dL_law_225 : decode cL_law 225 = .ok (.iadd, 1) := by decide +kernel
theorem dL_law_226 : decode cL_law 226 = .ok (.iaload, 1) := by decide +kernel
theorem dL_law_227 : decode cL_law 227 = .ok (.invokevirtual 23, 3) := by decide +kernel
theorem dL_law_230 : decode cL_law 230 = .ok (.aload_n 2, 1) := by decide +kernel
theorem dL_law_231 : decode cL_law 231 = .ok (.aload_n 0, 1) := by decide +kernel
theorem dL_law_232 : decode cL_law 232 = .ok (.iload 4, 2) := by decide +kernel
theorem dL_law_234 : decode cL_law 234 = .ok (.iconst 1, 1) := by decide +kernel
theorem dL_law_235 : decode cL_law 235 = .ok (.iadd, 1) := by decide +kernel
theorem dL_law_236 : decode cL_law 236 = .ok (.iaload, 1) := by decide +kernel
theorem dL_law_237 : decode cL_law 237 = .ok (.aload_n 0, 1) := by decide +kernel
theorem dL_law_238 : decode cL_law 238 = .ok (.iload 4, 2) := by decide +kernel
theorem dL_law_240 : decode cL_law 240 = .ok (.iconst 2, 1) := by decide +kernel
theorem dL_law_241 : decode cL_law 241 = .ok (.iadd, 1) := by decide +kernel
theorem dL_law_242 : decode cL_law 242 = .ok (.iaload, 1) := by decide +kernel
theorem dL_law_243 : decode cL_law 243 = .ok (.aload_n 0, 1) := by decide +kernel
theorem dL_law_244 : decode cL_law 244 = .ok (.iload 4, 2) := by decide +kernel
theorem dL_law_246 : decode cL_law 246 = .ok (.iconst 3, 1) := by decide +kernel
theorem dL_law_247 : decode cL_law 247 = .ok (.iadd, 1) := by decide +kernel
theorem dL_law_248 : decode cL_law 248 = .ok (.iaload, 1) := by decide +kernel
theorem dL_law_249 : decode cL_law 249 = .ok (.aload_n 0, 1) := by decide +kernel
theorem dL_law_250 : decode cL_law 250 = .ok (.iload 4, 2) := by decide +kernel
theorem dL_law_252 : decode cL_law 252 = .ok (.iconst 4, 1) := by decide +kernel
theorem dL_law_253 : decode cL_law 253 = .ok (.iadd, 1) := by decide +kernel
theorem dL_law_254 : decode cL_law 254 = .ok (.iaload, 1) := by decide +kernel
theorem dL_law_255 : decode cL_law 255 = .ok (.aload_n 0, 1) := by decide +kernel
theorem dL_law_256 : decode cL_law 256 = .ok (.iload 4, 2) := by decide +kernel
theorem dL_law_258 : decode cL_law 258 = .ok (.iconst 5, 1) := by decide +kernel
theorem dL_law_259 : decode cL_law 259 = .ok (.iadd, 1) := by decide +kernel
theorem dL_law_260 : decode cL_law 260 = .ok (.iaload, 1) := by decide +kernel
theorem dL_law_261 : decode cL_law 261 = .ok (.invokevirtual 27, 3) := by decide +kernel
theorem dL_law_264 : decode cL_law 264 = .ok (.if_icmp .eq 1258, 3) := by decide +kernel
theorem dL_law_269 : decode cL_law 269 = .ok (.aload_n 1, 1) := by decide +kernel
theorem dL_law_270 : decode cL_law 270 = .ok (.aload_n 0, 1) := by decide +kernel
theorem dL_law_271 : decode cL_law 271 = .ok (.iload 4, 2) := by decide +kernel
theorem dL_law_273 : decode cL_law 273 = .ok (.iconst 1, 1) := by decide +kernel
theorem dL_law_274 : decode cL_law 274 = .ok (.iadd, 1) := by decide +kernel
theorem dL_law_275 : decode cL_law 275 = .ok (.iaload, 1) := by decide +kernel
theorem dL_law_276 : decode cL_law 276 = .ok (.invokevirtual 28, 3) := by decide +kernel
theorem dL_law_279 : decode cL_law 279 = .ok (.aload_n 2, 1) := by decide +kernel
theorem dL_law_280 : decode cL_law 280 = .ok (.aload_n 0, 1) := by decide +kernel
theorem dL_law_281 : decode cL_law 281 = .ok (.iload 4, 2) := by decide +kernel
theorem dL_law_283 : decode cL_law 283 = .ok (.iconst 1, 1) := by decide +kernel
theorem dL_law_284 : decode cL_law 284 = .ok (.iadd, 1) := by decide +kernel
theorem dL_law_285 : decode cL_law 285 = .ok (.iaload, 1) := by decide +kernel
theorem dL_law_286 : decode cL_law 286 = .ok (.invokevirtual 32, 3) := by decide +kernel
theorem dL_law_289 : decode cL_law 289 = .ok (.if_icmp .eq 1233, 3) := by decide +kernel
theorem dL_law_294 : decode cL_law 294 = .ok (.aload_n 1, 1) := by decide +kernel
theorem dL_law_295 : decode cL_law 295 = .ok (.aload_n 0, 1) := by decide +kernel
theorem dL_law_296 : decode cL_law 296 = .ok (.iload 4, 2) := by decide +kernel
theorem dL_law_298 : decode cL_law 298 = .ok (.iconst 1, 1) := by decide +kernel
theorem dL_law_299 : decode cL_law 299 = .ok (.iadd, 1) := by decide +kernel
theorem dL_law_300 : decode cL_law 300 = .ok (.iaload, 1) := by decide +kernel
theorem dL_law_301 : decode cL_law 301 = .ok (.aload_n 0, 1) := by decide +kernel
theorem dL_law_302 : decode cL_law 302 = .ok (.iload 4, 2) := by decide +kernel
theorem dL_law_304 : decode cL_law 304 = .ok (.iconst 2, 1) := by decide +kernel
theorem dL_law_305 : decode cL_law 305 = .ok (.iadd, 1) := by decide +kernel
theorem dL_law_306 : decode cL_law 306 = .ok (.iaload, 1) := by decide +kernel
theorem dL_law_307 : decode cL_law 307 = .ok (.ifCond .eq 7, 3) := by decide +kernel
theorem dL_law_310 : decode cL_law 310 = .ok (.iconst 1, 1) := by decide +kernel
theorem dL_law_311 : decode cL_law 311 = .ok (.goto 4, 3) := by decide +kernel
theorem dL_law_314 : decode cL_law 314 = .ok (.iconst 0, 1) := by decide +kernel
theorem dL_law_315 : decode cL_law 315 = .ok (.aload_n 0, 1) := by decide +kernel
theorem dL_law_316 : decode cL_law 316 = .ok (.iload 4, 2) := by decide +kernel
theorem dL_law_318 : decode cL_law 318 = .ok (.iconst 3, 1) := by decide +kernel
theorem dL_law_319 : decode cL_law 319 = .ok (.iadd, 1) := by decide +kernel
theorem dL_law_320 : decode cL_law 320 = .ok (.iaload, 1) := by decide +kernel
theorem dL_law_321 : decode cL_law 321 = .ok (.aload_n 0, 1) := by decide +kernel
theorem dL_law_322 : decode cL_law 322 = .ok (.iload 4, 2) := by decide +kernel
theorem dL_law_324 : decode cL_law 324 = .ok (.iconst 4, 1) := by decide +kernel
theorem dL_law_325 : decode cL_law 325 = .ok (.iadd, 1) := by decide +kernel
theorem dL_law_326 : decode cL_law 326 = .ok (.iaload, 1) := by decide +kernel
theorem dL_law_327 : decode cL_law 327 = .ok (.invokevirtual 33, 3) := by decide +kernel
theorem dL_law_330 : decode cL_law 330 = .ok (.aload_n 2, 1) := by decide +kernel
theorem dL_law_331 : decode cL_law 331 = .ok (.aload_n 0, 1) := by decide +kernel
theorem dL_law_332 : decode cL_law 332 = .ok (.iload 4, 2) := by decide +kernel
theorem dL_law_334 : decode cL_law 334 = .ok (.iconst 1, 1) := by decide +kernel
theorem dL_law_335 : decode cL_law 335 = .ok (.iadd, 1) := by decide +kernel
theorem dL_law_336 : decode cL_law 336 = .ok (.iaload, 1) := by decide +kernel
theorem dL_law_337 : decode cL_law 337 = .ok (.aload_n 0, 1) := by decide +kernel
theorem dL_law_338 : decode cL_law 338 = .ok (.iload 4, 2) := by decide +kernel
theorem dL_law_340 : decode cL_law 340 = .ok (.iconst 2, 1) := by decide +kernel
theorem dL_law_341 : decode cL_law 341 = .ok (.iadd, 1) := by decide +kernel
theorem dL_law_342 : decode cL_law 342 = .ok (.iaload, 1) := by decide +kernel
theorem dL_law_343 : decode cL_law 343 = .ok (.ifCond .eq 7, 3) := by decide +kernel
theorem dL_law_346 : decode cL_law 346 = .ok (.iconst 1, 1) := by decide +kernel
theorem dL_law_347 : decode cL_law 347 = .ok (.goto 4, 3) := by decide +kernel
theorem dL_law_350 : decode cL_law 350 = .ok (.iconst 0, 1) := by decide +kernel
theorem dL_law_351 : decode cL_law 351 = .ok (.aload_n 0, 1) := by decide +kernel
theorem dL_law_352 : decode cL_law 352 = .ok (.iload 4, 2) := by decide +kernel
theorem dL_law_354 : decode cL_law 354 = .ok (.iconst 3, 1) := by decide +kernel
theorem dL_law_355 : decode cL_law 355 = .ok (.iadd, 1) := by decide +kernel
theorem dL_law_356 : decode cL_law 356 = .ok (.iaload, 1) := by decide +kernel
theorem dL_law_357 : decode cL_law 357 = .ok (.aload_n 0, 1) := by decide +kernel
theorem dL_law_358 : decode cL_law 358 = .ok (.iload 4, 2) := by decide +kernel
theorem dL_law_360 : decode cL_law 360 = .ok (.iconst 4, 1) := by decide +kernel
theorem dL_law_361 : decode cL_law 361 = .ok (.iadd, 1) := by decide +kernel
theorem dL_law_362 : decode cL_law 362 = .ok (.iaload, 1) := by decide +kernel
theorem dL_law_363 : decode cL_law 363 = .ok (.invokevirtual 37, 3) := by decide +kernel
theorem dL_law_366 : decode cL_law 366 = .ok (.if_icmp .eq 1156, 3) := by decide +kernel
theorem dL_law_371 : decode cL_law 371 = .ok (.aload_n 1, 1) := by decide +kernel
theorem dL_law_372 : decode cL_law 372 = .ok (.aload_n 0, 1) := by decide +kernel
theorem dL_law_373 : decode cL_law 373 = .ok (.iload 4, 2) := by decide +kernel
theorem dL_law_375 : decode cL_law 375 = .ok (.iconst 1, 1) := by decide +kernel
theorem dL_law_376 : decode cL_law 376 = .ok (.iadd, 1) := by decide +kernel
theorem dL_law_377 : decode cL_law 377 = .ok (.iaload, 1) := by decide +kernel
theorem dL_law_378 : decode cL_law 378 = .ok (.aload_n 0, 1) := by decide +kernel
theorem dL_law_379 : decode cL_law 379 = .ok (.iload 4, 2) := by decide +kernel
theorem dL_law_381 : decode cL_law 381 = .ok (.iconst 2, 1) := by decide +kernel
theorem dL_law_382 : decode cL_law 382 = .ok (.iadd, 1) := by decide +kernel
theorem dL_law_383 : decode cL_law 383 = .ok (.iaload, 1) := by decide +kernel
theorem dL_law_384 : decode cL_law 384 = .ok (.invokevirtual 38, 3) := by decide +kernel
theorem dL_law_387 : decode cL_law 387 = .ok (.aload_n 2, 1) := by decide +kernel
theorem dL_law_388 : decode cL_law 388 = .ok (.aload_n 0, 1) := by decide +kernel
theorem dL_law_389 : decode cL_law 389 = .ok (.iload 4, 2) := by decide +kernel
theorem dL_law_391 : decode cL_law 391 = .ok (.iconst 1, 1) := by decide +kernel
theorem dL_law_392 : decode cL_law 392 = .ok (.iadd, 1) := by decide +kernel
theorem dL_law_393 : decode cL_law 393 = .ok (.iaload, 1) := by decide +kernel
theorem dL_law_394 : decode cL_law 394 = .ok (.aload_n 0, 1) := by decide +kernel
theorem dL_law_395 : decode cL_law 395 = .ok (.iload 4, 2) := by decide +kernel
theorem dL_law_397 : decode cL_law 397 = .ok (.iconst 2, 1) := by decide +kernel
theorem dL_law_398 : decode cL_law 398 = .ok (.iadd, 1) := by decide +kernel
theorem dL_law_399 : decode cL_law 399 = .ok (.iaload, 1) := by decide +kernel
theorem dL_law_400 : decode cL_law 400 = .ok (.invokevirtual 42, 3) := by decide +kernel
theorem dL_law_403 : decode cL_law 403 = .ok (.if_icmp .eq 1119, 3) := by decide +kernel
theorem dL_law_408 : decode cL_law 408 = .ok (.aload_n 1, 1) := by decide +kernel
theorem dL_law_409 : decode cL_law 409 = .ok (.aload_n 0, 1) := by decide +kernel
theorem dL_law_410 : decode cL_law 410 = .ok (.iload 4, 2) := by decide +kernel
theorem dL_law_412 : decode cL_law 412 = .ok (.iconst 1, 1) := by decide +kernel
theorem dL_law_413 : decode cL_law 413 = .ok (.iadd, 1) := by decide +kernel
theorem dL_law_414 : decode cL_law 414 = .ok (.iaload, 1) := by decide +kernel
theorem dL_law_415 : decode cL_law 415 = .ok (.aload_n 0, 1) := by decide +kernel
theorem dL_law_416 : decode cL_law 416 = .ok (.iload 4, 2) := by decide +kernel
theorem dL_law_418 : decode cL_law 418 = .ok (.iconst 2, 1) := by decide +kernel
theorem dL_law_419 : decode cL_law 419 = .ok (.iadd, 1) := by decide +kernel
theorem dL_law_420 : decode cL_law 420 = .ok (.iaload, 1) := by decide +kernel
theorem dL_law_421 : decode cL_law 421 = .ok (.invokevirtual 43, 3) := by decide +kernel
theorem dL_law_424 : decode cL_law 424 = .ok (.aload_n 2, 1) := by decide +kernel
theorem dL_law_425 : decode cL_law 425 = .ok (.aload_n 0, 1) := by decide +kernel
theorem dL_law_426 : decode cL_law 426 = .ok (.iload 4, 2) := by decide +kernel
theorem dL_law_428 : decode cL_law 428 = .ok (.iconst 1, 1) := by decide +kernel
theorem dL_law_429 : decode cL_law 429 = .ok (.iadd, 1) := by decide +kernel
theorem dL_law_430 : decode cL_law 430 = .ok (.iaload, 1) := by decide +kernel
theorem dL_law_431 : decode cL_law 431 = .ok (.aload_n 0, 1) := by decide +kernel
theorem dL_law_432 : decode cL_law 432 = .ok (.iload 4, 2) := by decide +kernel
theorem dL_law_434 : decode cL_law 434 = .ok (.iconst 2, 1) := by decide +kernel
theorem dL_law_435 : decode cL_law 435 = .ok (.iadd, 1) := by decide +kernel
theorem dL_law_436 : decode cL_law 436 = .ok (.iaload, 1) := by decide +kernel
theorem dL_law_437 : decode cL_law 437 = .ok (.invokevirtual 46, 3) := by decide +kernel
theorem dL_law_440 : decode cL_law 440 = .ok (.if_icmp .eq 1082, 3) := by decide +kernel
theorem dL_law_445 : decode cL_law 445 = .ok (.aload_n 1, 1) := by decide +kernel
theorem dL_law_446 : decode cL_law 446 = .ok (.invokevirtual 47, 3) := by decide +kernel
theorem dL_law_449 : decode cL_law 449 = .ok (.aload_n 2, 1) := by decide +kernel
theorem dL_law_450 : decode cL_law 450 = .ok (.invokevirtual 51, 3) := by decide +kernel
theorem dL_law_453 : decode cL_law 453 = .ok (.if_icmp .eq 1069, 3) := by decide +kernel
theorem dL_law_458 : decode cL_law 458 = .ok (.aload_n 1, 1) := by decide +kernel
theorem dL_law_459 : decode cL_law 459 = .ok (.aload_n 0, 1) := by decide +kernel
theorem dL_law_460 : decode cL_law 460 = .ok (.iload 4, 2) := by decide +kernel
theorem dL_law_462 : decode cL_law 462 = .ok (.iconst 1, 1) := by decide +kernel
theorem dL_law_463 : decode cL_law 463 = .ok (.iadd, 1) := by decide +kernel
theorem dL_law_464 : decode cL_law 464 = .ok (.iaload, 1) := by decide +kernel
theorem dL_law_465 : decode cL_law 465 = .ok (.invokevirtual 52, 3) := by decide +kernel
theorem dL_law_468 : decode cL_law 468 = .ok (.aload_n 2, 1) := by decide +kernel
theorem dL_law_469 : decode cL_law 469 = .ok (.aload_n 0, 1) := by decide +kernel
theorem dL_law_470 : decode cL_law 470 = .ok (.iload 4, 2) := by decide +kernel
theorem dL_law_472 : decode cL_law 472 = .ok (.iconst 1, 1) := by decide +kernel
theorem dL_law_473 : decode cL_law 473 = .ok (.iadd, 1) := by decide +kernel
theorem dL_law_474 : decode cL_law 474 = .ok (.iaload, 1) := by decide +kernel
theorem dL_law_475 : decode cL_law 475 = .ok (.invokevirtual 55, 3) := by decide +kernel
theorem dL_law_478 : decode cL_law 478 = .ok (.if_icmp .eq 1044, 3) := by decide +kernel
theorem dL_law_483 : decode cL_law 483 = .ok (.aload_n 1, 1) := by decide +kernel
theorem dL_law_484 : decode cL_law 484 = .ok (.aload_n 0, 1) := by decide +kernel
theorem dL_law_485 : decode cL_law 485 = .ok (.iload 4, 2) := by decide +kernel
theorem dL_law_487 : decode cL_law 487 = .ok (.iconst 1, 1) := by decide +kernel
theorem dL_law_488 : decode cL_law 488 = .ok (.iadd, 1) := by decide +kernel
theorem dL_law_489 : decode cL_law 489 = .ok (.iaload, 1) := by decide +kernel
theorem dL_law_490 : decode cL_law 490 = .ok (.aload_n 0, 1) := by decide +kernel
theorem dL_law_491 : decode cL_law 491 = .ok (.iload 4, 2) := by decide +kernel
theorem dL_law_493 : decode cL_law 493 = .ok (.iconst 2, 1) := by decide +kernel
theorem dL_law_494 : decode cL_law 494 = .ok (.iadd, 1) := by decide +kernel
theorem dL_law_495 : decode cL_law 495 = .ok (.iaload, 1) := by decide +kernel
theorem dL_law_496 : decode cL_law 496 = .ok (.aload_n 0, 1) := by decide +kernel
theorem dL_law_497 : decode cL_law 497 = .ok (.iload 4, 2) := by decide +kernel
theorem dL_law_499 : decode cL_law 499 = .ok (.iconst 3, 1) := by decide +kernel
theorem dL_law_500 : decode cL_law 500 = .ok (.iadd, 1) := by decide +kernel
theorem dL_law_501 : decode cL_law 501 = .ok (.iaload, 1) := by decide +kernel
theorem dL_law_502 : decode cL_law 502 = .ok (.invokevirtual 56, 3) := by decide +kernel
theorem dL_law_505 : decode cL_law 505 = .ok (.aload_n 2, 1) := by decide +kernel
theorem dL_law_506 : decode cL_law 506 = .ok (.aload_n 0, 1) := by decide +kernel
theorem dL_law_507 : decode cL_law 507 = .ok (.iload 4, 2) := by decide +kernel
theorem dL_law_509 : decode cL_law 509 = .ok (.iconst 1, 1) := by decide +kernel
theorem dL_law_510 : decode cL_law 510 = .ok (.iadd, 1) := by decide +kernel
theorem dL_law_511 : decode cL_law 511 = .ok (.iaload, 1) := by decide +kernel
theorem dL_law_512 : decode cL_law 512 = .ok (.aload_n 0, 1) := by decide +kernel
theorem dL_law_513 : decode cL_law 513 = .ok (.iload 4, 2) := by decide +kernel
theorem dL_law_515 : decode cL_law 515 = .ok (.iconst 2, 1) := by decide +kernel
theorem dL_law_516 : decode cL_law 516 = .ok (.iadd, 1) := by decide +kernel
theorem dL_law_517 : decode cL_law 517 = .ok (.iaload, 1) := by decide +kernel
theorem dL_law_518 : decode cL_law 518 = .ok (.aload_n 0, 1) := by decide +kernel
theorem dL_law_519 : decode cL_law 519 = .ok (.iload 4, 2) := by decide +kernel
theorem dL_law_521 : decode cL_law 521 = .ok (.iconst 3, 1) := by decide +kernel
theorem dL_law_522 : decode cL_law 522 = .ok (.iadd, 1) := by decide +kernel
theorem dL_law_523 : decode cL_law 523 = .ok (.iaload, 1) := by decide +kernel
theorem dL_law_524 : decode cL_law 524 = .ok (.invokevirtual 60, 3) := by decide +kernel
theorem dL_law_527 : decode cL_law 527 = .ok (.if_icmp .eq 995, 3) := by decide +kernel
theorem dL_law_532 : decode cL_law 532 = .ok (.aload_n 1, 1) := by decide +kernel
theorem dL_law_533 : decode cL_law 533 = .ok (.aload_n 0, 1) := by decide +kernel
theorem dL_law_534 : decode cL_law 534 = .ok (.iload 4, 2) := by decide +kernel
theorem dL_law_536 : decode cL_law 536 = .ok (.iconst 1, 1) := by decide +kernel
theorem dL_law_537 : decode cL_law 537 = .ok (.iadd, 1) := by decide +kernel
theorem dL_law_538 : decode cL_law 538 = .ok (.iaload, 1) := by decide +kernel
theorem dL_law_539 : decode cL_law 539 = .ok (.aload_n 0, 1) := by decide +kernel
theorem dL_law_540 : decode cL_law 540 = .ok (.iload 4, 2) := by decide +kernel
theorem dL_law_542 : decode cL_law 542 = .ok (.iconst 2, 1) := by decide +kernel
theorem dL_law_543 : decode cL_law 543 = .ok (.iadd, 1) := by decide +kernel
theorem dL_law_544 : decode cL_law 544 = .ok (.iaload, 1) := by decide +kernel
theorem dL_law_545 : decode cL_law 545 = .ok (.aload_n 0, 1) := by decide +kernel
theorem dL_law_546 : decode cL_law 546 = .ok (.iload 4, 2) := by decide +kernel
theorem dL_law_548 : decode cL_law 548 = .ok (.iconst 3, 1) := by decide +kernel
theorem dL_law_549 : decode cL_law 549 = .ok (.iadd, 1) := by decide +kernel
theorem dL_law_550 : decode cL_law 550 = .ok (.iaload, 1) := by decide +kernel
theorem dL_law_551 : decode cL_law 551 = .ok (.invokevirtual 61, 3) := by decide +kernel
theorem dL_law_554 : decode cL_law 554 = .ok (.aload_n 2, 1) := by decide +kernel
theorem dL_law_555 : decode cL_law 555 = .ok (.aload_n 0, 1) := by decide +kernel
theorem dL_law_556 : decode cL_law 556 = .ok (.iload 4, 2) := by decide +kernel
theorem dL_law_558 : decode cL_law 558 = .ok (.iconst 1, 1) := by decide +kernel
theorem dL_law_559 : decode cL_law 559 = .ok (.iadd, 1) := by decide +kernel
theorem dL_law_560 : decode cL_law 560 = .ok (.iaload, 1) := by decide +kernel
theorem dL_law_561 : decode cL_law 561 = .ok (.aload_n 0, 1) := by decide +kernel
theorem dL_law_562 : decode cL_law 562 = .ok (.iload 4, 2) := by decide +kernel
theorem dL_law_564 : decode cL_law 564 = .ok (.iconst 2, 1) := by decide +kernel
theorem dL_law_565 : decode cL_law 565 = .ok (.iadd, 1) := by decide +kernel
theorem dL_law_566 : decode cL_law 566 = .ok (.iaload, 1) := by decide +kernel
theorem dL_law_567 : decode cL_law 567 = .ok (.aload_n 0, 1) := by decide +kernel
theorem dL_law_568 : decode cL_law 568 = .ok (.iload 4, 2) := by decide +kernel
theorem dL_law_570 : decode cL_law 570 = .ok (.iconst 3, 1) := by decide +kernel
theorem dL_law_571 : decode cL_law 571 = .ok (.iadd, 1) := by decide +kernel
theorem dL_law_572 : decode cL_law 572 = .ok (.iaload, 1) := by decide +kernel
theorem dL_law_573 : decode cL_law 573 = .ok (.invokevirtual 64, 3) := by decide +kernel
theorem dL_law_576 : decode cL_law 576 = .ok (.if_icmp .eq 946, 3) := by decide +kernel
theorem dL_law_581 : decode cL_law 581 = .ok (.aload_n 1, 1) := by decide +kernel
theorem dL_law_582 : decode cL_law 582 = .ok (.aload_n 0, 1) := by decide +kernel
theorem dL_law_583 : decode cL_law 583 = .ok (.iload 4, 2) := by decide +kernel
theorem dL_law_585 : decode cL_law 585 = .ok (.iconst 1, 1) := by decide +kernel
theorem dL_law_586 : decode cL_law 586 = .ok (.iadd, 1) := by decide +kernel
theorem dL_law_587 : decode cL_law 587 = .ok (.iaload, 1) := by decide +kernel
theorem dL_law_588 : decode cL_law 588 = .ok (.aload_n 0, 1) := by decide +kernel
theorem dL_law_589 : decode cL_law 589 = .ok (.iload 4, 2) := by decide +kernel
theorem dL_law_591 : decode cL_law 591 = .ok (.iconst 2, 1) := by decide +kernel
theorem dL_law_592 : decode cL_law 592 = .ok (.iadd, 1) := by decide +kernel
theorem dL_law_593 : decode cL_law 593 = .ok (.iaload, 1) := by decide +kernel
theorem dL_law_594 : decode cL_law 594 = .ok (.aload_n 0, 1) := by decide +kernel
theorem dL_law_595 : decode cL_law 595 = .ok (.iload 4, 2) := by decide +kernel
theorem dL_law_597 : decode cL_law 597 = .ok (.iconst 3, 1) := by decide +kernel
theorem dL_law_598 : decode cL_law 598 = .ok (.iadd, 1) := by decide +kernel
theorem dL_law_599 : decode cL_law 599 = .ok (.iaload, 1) := by decide +kernel
theorem dL_law_600 : decode cL_law 600 = .ok (.invokevirtual 65, 3) := by decide +kernel
theorem dL_law_603 : decode cL_law 603 = .ok (.aload_n 2, 1) := by decide +kernel
theorem dL_law_604 : decode cL_law 604 = .ok (.aload_n 0, 1) := by decide +kernel
theorem dL_law_605 : decode cL_law 605 = .ok (.iload 4, 2) := by decide +kernel
theorem dL_law_607 : decode cL_law 607 = .ok (.iconst 1, 1) := by decide +kernel
theorem dL_law_608 : decode cL_law 608 = .ok (.iadd, 1) := by decide +kernel
theorem dL_law_609 : decode cL_law 609 = .ok (.iaload, 1) := by decide +kernel
theorem dL_law_610 : decode cL_law 610 = .ok (.aload_n 0, 1) := by decide +kernel
theorem dL_law_611 : decode cL_law 611 = .ok (.iload 4, 2) := by decide +kernel
theorem dL_law_613 : decode cL_law 613 = .ok (.iconst 2, 1) := by decide +kernel
theorem dL_law_614 : decode cL_law 614 = .ok (.iadd, 1) := by decide +kernel
theorem dL_law_615 : decode cL_law 615 = .ok (.iaload, 1) := by decide +kernel
theorem dL_law_616 : decode cL_law 616 = .ok (.aload_n 0, 1) := by decide +kernel
theorem dL_law_617 : decode cL_law 617 = .ok (.iload 4, 2) := by decide +kernel
theorem dL_law_619 : decode cL_law 619 = .ok (.iconst 3, 1) := by decide +kernel
theorem dL_law_620 : decode cL_law 620 = .ok (.iadd, 1) := by decide +kernel
theorem dL_law_621 : decode cL_law 621 = .ok (.iaload, 1) := by decide +kernel
theorem dL_law_622 : decode cL_law 622 = .ok (.invokevirtual 68, 3) := by decide +kernel
theorem dL_law_625 : decode cL_law 625 = .ok (.if_icmp .eq 897, 3) := by decide +kernel
theorem dL_law_630 : decode cL_law 630 = .ok (.aload_n 1, 1) := by decide +kernel
theorem dL_law_631 : decode cL_law 631 = .ok (.aload_n 0, 1) := by decide +kernel
theorem dL_law_632 : decode cL_law 632 = .ok (.iload 4, 2) := by decide +kernel
theorem dL_law_634 : decode cL_law 634 = .ok (.iconst 1, 1) := by decide +kernel
theorem dL_law_635 : decode cL_law 635 = .ok (.iadd, 1) := by decide +kernel
theorem dL_law_636 : decode cL_law 636 = .ok (.iaload, 1) := by decide +kernel
theorem dL_law_637 : decode cL_law 637 = .ok (.aload_n 0, 1) := by decide +kernel
theorem dL_law_638 : decode cL_law 638 = .ok (.iload 4, 2) := by decide +kernel
theorem dL_law_640 : decode cL_law 640 = .ok (.iconst 2, 1) := by decide +kernel
theorem dL_law_641 : decode cL_law 641 = .ok (.iadd, 1) := by decide +kernel
theorem dL_law_642 : decode cL_law 642 = .ok (.iaload, 1) := by decide +kernel
theorem dL_law_643 : decode cL_law 643 = .ok (.aload_n 0, 1) := by decide +kernel
theorem dL_law_644 : decode cL_law 644 = .ok (.iload 4, 2) := by decide +kernel
theorem dL_law_646 : decode cL_law 646 = .ok (.iconst 3, 1) := by decide +kernel
theorem dL_law_647 : decode cL_law 647 = .ok (.iadd, 1) := by decide +kernel
theorem dL_law_648 : decode cL_law 648 = .ok (.iaload, 1) := by decide +kernel
theorem dL_law_649 : decode cL_law 649 = .ok (.aload_n 0, 1) := by decide +kernel
theorem dL_law_650 : decode cL_law 650 = .ok (.iload 4, 2) := by decide +kernel
theorem dL_law_652 : decode cL_law 652 = .ok (.iconst 4, 1) := by decide +kernel
theorem dL_law_653 : decode cL_law 653 = .ok (.iadd, 1) := by decide +kernel
theorem dL_law_654 : decode cL_law 654 = .ok (.iaload, 1) := by decide +kernel
theorem dL_law_655 : decode cL_law 655 = .ok (.invokevirtual 69, 3) := by decide +kernel
theorem dL_law_658 : decode cL_law 658 = .ok (.aload_n 2, 1) := by decide +kernel
theorem dL_law_659 : decode cL_law 659 = .ok (.aload_n 0, 1) := by decide +kernel
theorem dL_law_660 : decode cL_law 660 = .ok (.iload 4, 2) := by decide +kernel
theorem dL_law_662 : decode cL_law 662 = .ok (.iconst 1, 1) := by decide +kernel
theorem dL_law_663 : decode cL_law 663 = .ok (.iadd, 1) := by decide +kernel
theorem dL_law_664 : decode cL_law 664 = .ok (.iaload, 1) := by decide +kernel
theorem dL_law_665 : decode cL_law 665 = .ok (.aload_n 0, 1) := by decide +kernel
theorem dL_law_666 : decode cL_law 666 = .ok (.iload 4, 2) := by decide +kernel
theorem dL_law_668 : decode cL_law 668 = .ok (.iconst 2, 1) := by decide +kernel
theorem dL_law_669 : decode cL_law 669 = .ok (.iadd, 1) := by decide +kernel
theorem dL_law_670 : decode cL_law 670 = .ok (.iaload, 1) := by decide +kernel
theorem dL_law_671 : decode cL_law 671 = .ok (.aload_n 0, 1) := by decide +kernel
theorem dL_law_672 : decode cL_law 672 = .ok (.iload 4, 2) := by decide +kernel
theorem dL_law_674 : decode cL_law 674 = .ok (.iconst 3, 1) := by decide +kernel
theorem dL_law_675 : decode cL_law 675 = .ok (.iadd, 1) := by decide +kernel
theorem dL_law_676 : decode cL_law 676 = .ok (.iaload, 1) := by decide +kernel
theorem dL_law_677 : decode cL_law 677 = .ok (.aload_n 0, 1) := by decide +kernel
theorem dL_law_678 : decode cL_law 678 = .ok (.iload 4, 2) := by decide +kernel
theorem dL_law_680 : decode cL_law 680 = .ok (.iconst 4, 1) := by decide +kernel
theorem dL_law_681 : decode cL_law 681 = .ok (.iadd, 1) := by decide +kernel
theorem dL_law_682 : decode cL_law 682 = .ok (.iaload, 1) := by decide +kernel
theorem dL_law_683 : decode cL_law 683 = .ok (.invokevirtual 73, 3) := by decide +kernel
theorem dL_law_686 : decode cL_law 686 = .ok (.if_icmp .eq 836, 3) := by decide +kernel
theorem dL_law_691 : decode cL_law 691 = .ok (.aload_n 1, 1) := by decide +kernel
theorem dL_law_692 : decode cL_law 692 = .ok (.aload_n 0, 1) := by decide +kernel
theorem dL_law_693 : decode cL_law 693 = .ok (.iload 4, 2) := by decide +kernel
theorem dL_law_695 : decode cL_law 695 = .ok (.iconst 1, 1) := by decide +kernel
theorem dL_law_696 : decode cL_law 696 = .ok (.iadd, 1) := by decide +kernel
theorem dL_law_697 : decode cL_law 697 = .ok (.iaload, 1) := by decide +kernel
theorem dL_law_698 : decode cL_law 698 = .ok (.aload_n 0, 1) := by decide +kernel
theorem dL_law_699 : decode cL_law 699 = .ok (.iload 4, 2) := by decide +kernel
theorem dL_law_701 : decode cL_law 701 = .ok (.iconst 2, 1) := by decide +kernel
theorem dL_law_702 : decode cL_law 702 = .ok (.iadd, 1) := by decide +kernel
theorem dL_law_703 : decode cL_law 703 = .ok (.iaload, 1) := by decide +kernel
theorem dL_law_704 : decode cL_law 704 = .ok (.aload_n 0, 1) := by decide +kernel
theorem dL_law_705 : decode cL_law 705 = .ok (.iload 4, 2) := by decide +kernel
theorem dL_law_707 : decode cL_law 707 = .ok (.iconst 3, 1) := by decide +kernel
theorem dL_law_708 : decode cL_law 708 = .ok (.iadd, 1) := by decide +kernel
theorem dL_law_709 : decode cL_law 709 = .ok (.iaload, 1) := by decide +kernel
theorem dL_law_710 : decode cL_law 710 = .ok (.invokevirtual 74, 3) := by decide +kernel
theorem dL_law_713 : decode cL_law 713 = .ok (.aload_n 2, 1) := by decide +kernel
theorem dL_law_714 : decode cL_law 714 = .ok (.aload_n 0, 1) := by decide +kernel
theorem dL_law_715 : decode cL_law 715 = .ok (.iload 4, 2) := by decide +kernel
theorem dL_law_717 : decode cL_law 717 = .ok (.iconst 1, 1) := by decide +kernel
theorem dL_law_718 : decode cL_law 718 = .ok (.iadd, 1) := by decide +kernel
theorem dL_law_719 : decode cL_law 719 = .ok (.iaload, 1) := by decide +kernel
theorem dL_law_720 : decode cL_law 720 = .ok (.aload_n 0, 1) := by decide +kernel
theorem dL_law_721 : decode cL_law 721 = .ok (.iload 4, 2) := by decide +kernel
theorem dL_law_723 : decode cL_law 723 = .ok (.iconst 2, 1) := by decide +kernel
theorem dL_law_724 : decode cL_law 724 = .ok (.iadd, 1) := by decide +kernel
theorem dL_law_725 : decode cL_law 725 = .ok (.iaload, 1) := by decide +kernel
theorem dL_law_726 : decode cL_law 726 = .ok (.aload_n 0, 1) := by decide +kernel
theorem dL_law_727 : decode cL_law 727 = .ok (.iload 4, 2) := by decide +kernel
theorem dL_law_729 : decode cL_law 729 = .ok (.iconst 3, 1) := by decide +kernel
theorem dL_law_730 : decode cL_law 730 = .ok (.iadd, 1) := by decide +kernel
theorem dL_law_731 : decode cL_law 731 = .ok (.iaload, 1) := by decide +kernel
theorem dL_law_732 : decode cL_law 732 = .ok (.invokevirtual 77, 3) := by decide +kernel
theorem dL_law_735 : decode cL_law 735 = .ok (.if_icmp .eq 787, 3) := by decide +kernel
theorem dL_law_740 : decode cL_law 740 = .ok (.aload_n 1, 1) := by decide +kernel
theorem dL_law_741 : decode cL_law 741 = .ok (.aload_n 0, 1) := by decide +kernel
theorem dL_law_742 : decode cL_law 742 = .ok (.iload 4, 2) := by decide +kernel
theorem dL_law_744 : decode cL_law 744 = .ok (.iconst 1, 1) := by decide +kernel
theorem dL_law_745 : decode cL_law 745 = .ok (.iadd, 1) := by decide +kernel
theorem dL_law_746 : decode cL_law 746 = .ok (.iaload, 1) := by decide +kernel
theorem dL_law_747 : decode cL_law 747 = .ok (.invokevirtual 78, 3) := by decide +kernel
theorem dL_law_750 : decode cL_law 750 = .ok (.aload_n 2, 1) := by decide +kernel
theorem dL_law_751 : decode cL_law 751 = .ok (.aload_n 0, 1) := by decide +kernel
theorem dL_law_752 : decode cL_law 752 = .ok (.iload 4, 2) := by decide +kernel
theorem dL_law_754 : decode cL_law 754 = .ok (.iconst 1, 1) := by decide +kernel
theorem dL_law_755 : decode cL_law 755 = .ok (.iadd, 1) := by decide +kernel
theorem dL_law_756 : decode cL_law 756 = .ok (.iaload, 1) := by decide +kernel
theorem dL_law_757 : decode cL_law 757 = .ok (.invokevirtual 81, 3) := by decide +kernel
theorem dL_law_760 : decode cL_law 760 = .ok (.if_icmp .eq 762, 3) := by decide +kernel
theorem dL_law_765 : decode cL_law 765 = .ok (.aload_n 1, 1) := by decide +kernel
theorem dL_law_766 : decode cL_law 766 = .ok (.invokevirtual 82, 3) := by decide +kernel
theorem dL_law_769 : decode cL_law 769 = .ok (.aload_n 2, 1) := by decide +kernel
theorem dL_law_770 : decode cL_law 770 = .ok (.invokevirtual 86, 3) := by decide +kernel
theorem dL_law_773 : decode cL_law 773 = .ok (.if_icmp .eq 749, 3) := by decide +kernel
theorem dL_law_778 : decode cL_law 778 = .ok (.aload_n 1, 1) := by decide +kernel
theorem dL_law_779 : decode cL_law 779 = .ok (.aload_n 0, 1) := by decide +kernel
theorem dL_law_780 : decode cL_law 780 = .ok (.iload 4, 2) := by decide +kernel
theorem dL_law_782 : decode cL_law 782 = .ok (.iconst 1, 1) := by decide +kernel
theorem dL_law_783 : decode cL_law 783 = .ok (.iadd, 1) := by decide +kernel
theorem dL_law_784 : decode cL_law 784 = .ok (.iaload, 1) := by decide +kernel
theorem dL_law_785 : decode cL_law 785 = .ok (.aload_n 0, 1) := by decide +kernel
theorem dL_law_786 : decode cL_law 786 = .ok (.iload 4, 2) := by decide +kernel
theorem dL_law_788 : decode cL_law 788 = .ok (.iconst 2, 1) := by decide +kernel
theorem dL_law_789 : decode cL_law 789 = .ok (.iadd, 1) := by decide +kernel
theorem dL_law_790 : decode cL_law 790 = .ok (.iaload, 1) := by decide +kernel
theorem dL_law_791 : decode cL_law 791 = .ok (.aload_n 0, 1) := by decide +kernel
theorem dL_law_792 : decode cL_law 792 = .ok (.iload 4, 2) := by decide +kernel
theorem dL_law_794 : decode cL_law 794 = .ok (.iconst 3, 1) := by decide +kernel
theorem dL_law_795 : decode cL_law 795 = .ok (.iadd, 1) := by decide +kernel
theorem dL_law_796 : decode cL_law 796 = .ok (.iaload, 1) := by decide +kernel
theorem dL_law_797 : decode cL_law 797 = .ok (.aload_n 0, 1) := by decide +kernel
theorem dL_law_798 : decode cL_law 798 = .ok (.iload 4, 2) := by decide +kernel
theorem dL_law_800 : decode cL_law 800 = .ok (.iconst 4, 1) := by decide +kernel
theorem dL_law_801 : decode cL_law 801 = .ok (.iadd, 1) := by decide +kernel
theorem dL_law_802 : decode cL_law 802 = .ok (.iaload, 1) := by decide +kernel
theorem dL_law_803 : decode cL_law 803 = .ok (.aload_n 0, 1) := by decide +kernel
theorem dL_law_804 : decode cL_law 804 = .ok (.iload 4, 2) := by decide +kernel
theorem dL_law_806 : decode cL_law 806 = .ok (.iconst 5, 1) := by decide +kernel
theorem dL_law_807 : decode cL_law 807 = .ok (.iadd, 1) := by decide +kernel
theorem dL_law_808 : decode cL_law 808 = .ok (.iaload, 1) := by decide +kernel
theorem dL_law_809 : decode cL_law 809 = .ok (.invokevirtual 87, 3) := by decide +kernel
theorem dL_law_812 : decode cL_law 812 = .ok (.aload_n 2, 1) := by decide +kernel
theorem dL_law_813 : decode cL_law 813 = .ok (.aload_n 0, 1) := by decide +kernel
theorem dL_law_814 : decode cL_law 814 = .ok (.iload 4, 2) := by decide +kernel
theorem dL_law_816 : decode cL_law 816 = .ok (.iconst 1, 1) := by decide +kernel
theorem dL_law_817 : decode cL_law 817 = .ok (.iadd, 1) := by decide +kernel
theorem dL_law_818 : decode cL_law 818 = .ok (.iaload, 1) := by decide +kernel
theorem dL_law_819 : decode cL_law 819 = .ok (.aload_n 0, 1) := by decide +kernel
theorem dL_law_820 : decode cL_law 820 = .ok (.iload 4, 2) := by decide +kernel
theorem dL_law_822 : decode cL_law 822 = .ok (.iconst 2, 1) := by decide +kernel
theorem dL_law_823 : decode cL_law 823 = .ok (.iadd, 1) := by decide +kernel
theorem dL_law_824 : decode cL_law 824 = .ok (.iaload, 1) := by decide +kernel
theorem dL_law_825 : decode cL_law 825 = .ok (.aload_n 0, 1) := by decide +kernel
theorem dL_law_826 : decode cL_law 826 = .ok (.iload 4, 2) := by decide +kernel
theorem dL_law_828 : decode cL_law 828 = .ok (.iconst 3, 1) := by decide +kernel
theorem dL_law_829 : decode cL_law 829 = .ok (.iadd, 1) := by decide +kernel
theorem dL_law_830 : decode cL_law 830 = .ok (.iaload, 1) := by decide +kernel
theorem dL_law_831 : decode cL_law 831 = .ok (.aload_n 0, 1) := by decide +kernel
theorem dL_law_832 : decode cL_law 832 = .ok (.iload 4, 2) := by decide +kernel
theorem dL_law_834 : decode cL_law 834 = .ok (.iconst 4, 1) := by decide +kernel
theorem dL_law_835 : decode cL_law 835 = .ok (.iadd, 1) := by decide +kernel
theorem dL_law_836 : decode cL_law 836 = .ok (.iaload, 1) := by decide +kernel
theorem dL_law_837 : decode cL_law 837 = .ok (.aload_n 0, 1) := by decide +kernel
theorem dL_law_838 : decode cL_law 838 = .ok (.iload 4, 2) := by decide +kernel
theorem dL_law_840 : decode cL_law 840 = .ok (.iconst 5, 1) := by decide +kernel
theorem dL_law_841 : decode cL_law 841 = .ok (.iadd, 1) := by decide +kernel
theorem dL_law_842 : decode cL_law 842 = .ok (.iaload, 1) := by decide +kernel
theorem dL_law_843 : decode cL_law 843 = .ok (.invokevirtual 90, 3) := by decide +kernel
theorem dL_law_846 : decode cL_law 846 = .ok (.if_icmp .eq 676, 3) := by decide +kernel
theorem dL_law_851 : decode cL_law 851 = .ok (.aload_n 1, 1) := by decide +kernel
theorem dL_law_852 : decode cL_law 852 = .ok (.aload_n 0, 1) := by decide +kernel
theorem dL_law_853 : decode cL_law 853 = .ok (.iload 4, 2) := by decide +kernel
theorem dL_law_855 : decode cL_law 855 = .ok (.iconst 1, 1) := by decide +kernel
theorem dL_law_856 : decode cL_law 856 = .ok (.iadd, 1) := by decide +kernel
theorem dL_law_857 : decode cL_law 857 = .ok (.iaload, 1) := by decide +kernel
theorem dL_law_858 : decode cL_law 858 = .ok (.aload_n 0, 1) := by decide +kernel
theorem dL_law_859 : decode cL_law 859 = .ok (.iload 4, 2) := by decide +kernel
theorem dL_law_861 : decode cL_law 861 = .ok (.iconst 2, 1) := by decide +kernel
theorem dL_law_862 : decode cL_law 862 = .ok (.iadd, 1) := by decide +kernel
theorem dL_law_863 : decode cL_law 863 = .ok (.iaload, 1) := by decide +kernel
theorem dL_law_864 : decode cL_law 864 = .ok (.invokevirtual 91, 3) := by decide +kernel
theorem dL_law_867 : decode cL_law 867 = .ok (.aload_n 2, 1) := by decide +kernel
theorem dL_law_868 : decode cL_law 868 = .ok (.aload_n 0, 1) := by decide +kernel
theorem dL_law_869 : decode cL_law 869 = .ok (.iload 4, 2) := by decide +kernel
theorem dL_law_871 : decode cL_law 871 = .ok (.iconst 1, 1) := by decide +kernel
theorem dL_law_872 : decode cL_law 872 = .ok (.iadd, 1) := by decide +kernel
theorem dL_law_873 : decode cL_law 873 = .ok (.iaload, 1) := by decide +kernel
theorem dL_law_874 : decode cL_law 874 = .ok (.aload_n 0, 1) := by decide +kernel
theorem dL_law_875 : decode cL_law 875 = .ok (.iload 4, 2) := by decide +kernel
theorem dL_law_877 : decode cL_law 877 = .ok (.iconst 2, 1) := by decide +kernel
theorem dL_law_878 : decode cL_law 878 = .ok (.iadd, 1) := by decide +kernel
theorem dL_law_879 : decode cL_law 879 = .ok (.iaload, 1) := by decide +kernel
theorem dL_law_880 : decode cL_law 880 = .ok (.invokevirtual 94, 3) := by decide +kernel
theorem dL_law_883 : decode cL_law 883 = .ok (.if_icmp .eq 639, 3) := by decide +kernel
theorem dL_law_888 : decode cL_law 888 = .ok (.aload_n 1, 1) := by decide +kernel
theorem dL_law_889 : decode cL_law 889 = .ok (.invokevirtual 95, 3) := by decide +kernel
theorem dL_law_892 : decode cL_law 892 = .ok (.aload_n 2, 1) := by decide +kernel
theorem dL_law_893 : decode cL_law 893 = .ok (.invokevirtual 98, 3) := by decide +kernel
theorem dL_law_896 : decode cL_law 896 = .ok (.if_icmp .eq 626, 3) := by decide +kernel
theorem dL_law_901 : decode cL_law 901 = .ok (.aload_n 1, 1) := by decide +kernel
theorem dL_law_902 : decode cL_law 902 = .ok (.invokevirtual 99, 3) := by decide +kernel
theorem dL_law_905 : decode cL_law 905 = .ok (.aload_n 2, 1) := by decide +kernel
theorem dL_law_906 : decode cL_law 906 = .ok (.invokevirtual 102, 3) := by decide +kernel
theorem dL_law_909 : decode cL_law 909 = .ok (.if_icmp .eq 613, 3) := by decide +kernel
theorem dL_law_914 : decode cL_law 914 = .ok (.aload_n 1, 1) := by decide +kernel
theorem dL_law_915 : decode cL_law 915 = .ok (.aload_n 0, 1) := by decide +kernel
theorem dL_law_916 : decode cL_law 916 = .ok (.iload 4, 2) := by decide +kernel
theorem dL_law_918 : decode cL_law 918 = .ok (.iconst 1, 1) := by decide +kernel
theorem dL_law_919 : decode cL_law 919 = .ok (.iadd, 1) := by decide +kernel
theorem dL_law_920 : decode cL_law 920 = .ok (.iaload, 1) := by decide +kernel
theorem dL_law_921 : decode cL_law 921 = .ok (.aload_n 0, 1) := by decide +kernel
theorem dL_law_922 : decode cL_law 922 = .ok (.iload 4, 2) := by decide +kernel
theorem dL_law_924 : decode cL_law 924 = .ok (.iconst 2, 1) := by decide +kernel
theorem dL_law_925 : decode cL_law 925 = .ok (.iadd, 1) := by decide +kernel
theorem dL_law_926 : decode cL_law 926 = .ok (.iaload, 1) := by decide +kernel
theorem dL_law_927 : decode cL_law 927 = .ok (.aload_n 3, 1) := by decide +kernel
theorem dL_law_928 : decode cL_law 928 = .ok (.invokestatic 103, 3) := by decide +kernel
theorem dL_law_931 : decode cL_law 931 = .ok (.istore 5, 2) := by decide +kernel
theorem dL_law_933 : decode cL_law 933 = .ok (.aload_n 2, 1) := by decide +kernel
theorem dL_law_934 : decode cL_law 934 = .ok (.aload_n 0, 1) := by decide +kernel
theorem dL_law_935 : decode cL_law 935 = .ok (.iload 4, 2) := by decide +kernel
theorem dL_law_937 : decode cL_law 937 = .ok (.iconst 1, 1) := by decide +kernel
theorem dL_law_938 : decode cL_law 938 = .ok (.iadd, 1) := by decide +kernel
theorem dL_law_939 : decode cL_law 939 = .ok (.iaload, 1) := by decide +kernel
theorem dL_law_940 : decode cL_law 940 = .ok (.aload_n 0, 1) := by decide +kernel
theorem dL_law_941 : decode cL_law 941 = .ok (.iload 4, 2) := by decide +kernel
theorem dL_law_943 : decode cL_law 943 = .ok (.iconst 2, 1) := by decide +kernel
theorem dL_law_944 : decode cL_law 944 = .ok (.iadd, 1) := by decide +kernel
theorem dL_law_945 : decode cL_law 945 = .ok (.iaload, 1) := by decide +kernel
theorem dL_law_946 : decode cL_law 946 = .ok (.invokevirtual 108, 3) := by decide +kernel
theorem dL_law_949 : decode cL_law 949 = .ok (.istore 6, 2) := by decide +kernel
theorem dL_law_951 : decode cL_law 951 = .ok (.aload_n 2, 1) := by decide +kernel
theorem dL_law_952 : decode cL_law 952 = .ok (.invokevirtual 109, 3) := by decide +kernel
theorem dL_law_955 : decode cL_law 955 = .ok (.iload 5, 2) := by decide +kernel
theorem dL_law_957 : decode cL_law 957 = .ok (.if_icmp .eq 5, 3) := by decide +kernel
theorem dL_law_962 : decode cL_law 962 = .ok (.iload 5, 2) := by decide +kernel
theorem dL_law_964 : decode cL_law 964 = .ok (.ifCond .ne 15, 3) := by decide +kernel
theorem dL_law_979 : decode cL_law 979 = .ok (.goto 543, 3) := by decide +kernel
theorem dL_law_982 : decode cL_law 982 = .ok (.aload_n 1, 1) := by decide +kernel
theorem dL_law_983 : decode cL_law 983 = .ok (.aload_n 0, 1) := by decide +kernel
theorem dL_law_984 : decode cL_law 984 = .ok (.iload 4, 2) := by decide +kernel
theorem dL_law_986 : decode cL_law 986 = .ok (.iconst 1, 1) := by decide +kernel
theorem dL_law_987 : decode cL_law 987 = .ok (.iadd, 1) := by decide +kernel
theorem dL_law_988 : decode cL_law 988 = .ok (.iaload, 1) := by decide +kernel
theorem dL_law_989 : decode cL_law 989 = .ok (.aload_n 3, 1) := by decide +kernel
theorem dL_law_990 : decode cL_law 990 = .ok (.invokestatic 112, 3) := by decide +kernel
theorem dL_law_993 : decode cL_law 993 = .ok (.istore 5, 2) := by decide +kernel
theorem dL_law_995 : decode cL_law 995 = .ok (.aload_n 2, 1) := by decide +kernel
theorem dL_law_996 : decode cL_law 996 = .ok (.aload_n 0, 1) := by decide +kernel
theorem dL_law_997 : decode cL_law 997 = .ok (.iload 4, 2) := by decide +kernel
theorem dL_law_999 : decode cL_law 999 = .ok (.iconst 1, 1) := by decide +kernel
theorem dL_law_1000 : decode cL_law 1000 = .ok (.iadd, 1) := by decide +kernel
theorem dL_law_1001 : decode cL_law 1001 = .ok (.iaload, 1) := by decide +kernel
theorem dL_law_1002 : decode cL_law 1002 = .ok (.invokevirtual 115, 3) := by decide +kernel
theorem dL_law_1005 : decode cL_law 1005 = .ok (.istore 6, 2) := by decide +kernel
theorem dL_law_1007 : decode cL_law 1007 = .ok (.aload_n 2, 1) := by decide +kernel
theorem dL_law_1008 : decode cL_law 1008 = .ok (.invokevirtual 109, 3) := by decide +kernel
theorem dL_law_1011 : decode cL_law 1011 = .ok (.iload 5, 2) := by decide +kernel
theorem dL_law_1013 : decode cL_law 1013 = .ok (.if_icmp .eq 5, 3) := by decide +kernel
theorem dL_law_1018 : decode cL_law 1018 = .ok (.iload 5, 2) := by decide +kernel
theorem dL_law_1020 : decode cL_law 1020 = .ok (.ifCond .ne 15, 3) := by decide +kernel
theorem dL_law_1035 : decode cL_law 1035 = .ok (.goto 487, 3) := by decide +kernel
theorem dL_law_1038 : decode cL_law 1038 = .ok (.aload_n 1, 1) := by decide +kernel
theorem dL_law_1039 : decode cL_law 1039 = .ok (.aload_n 0, 1) := by decide +kernel
theorem dL_law_1040 : decode cL_law 1040 = .ok (.iload 4, 2) := by decide +kernel
theorem dL_law_1042 : decode cL_law 1042 = .ok (.iconst 1, 1) := by decide +kernel
theorem dL_law_1043 : decode cL_law 1043 = .ok (.iadd, 1) := by decide +kernel
theorem dL_law_1044 : decode cL_law 1044 = .ok (.iaload, 1) := by decide +kernel
theorem dL_law_1045 : decode cL_law 1045 = .ok (.aload_n 0, 1) := by decide +kernel
theorem dL_law_1046 : decode cL_law 1046 = .ok (.iload 4, 2) := by decide +kernel
theorem dL_law_1048 : decode cL_law 1048 = .ok (.iconst 2, 1) := by decide +kernel
theorem dL_law_1049 : decode cL_law 1049 = .ok (.iadd, 1) := by decide +kernel
theorem dL_law_1050 : decode cL_law 1050 = .ok (.iaload, 1) := by decide +kernel
theorem dL_law_1051 : decode cL_law 1051 = .ok (.aload_n 0, 1) := by decide +kernel
theorem dL_law_1052 : decode cL_law 1052 = .ok (.iload 4, 2) := by decide +kernel
theorem dL_law_1054 : decode cL_law 1054 = .ok (.iconst 3, 1) := by decide +kernel
theorem dL_law_1055 : decode cL_law 1055 = .ok (.iadd, 1) := by decide +kernel
theorem dL_law_1056 : decode cL_law 1056 = .ok (.iaload, 1) := by decide +kernel
theorem dL_law_1057 : decode cL_law 1057 = .ok (.aload_n 0, 1) := by decide +kernel
theorem dL_law_1058 : decode cL_law 1058 = .ok (.iload 4, 2) := by decide +kernel
theorem dL_law_1060 : decode cL_law 1060 = .ok (.iconst 4, 1) := by decide +kernel
theorem dL_law_1061 : decode cL_law 1061 = .ok (.iadd, 1) := by decide +kernel
theorem dL_law_1062 : decode cL_law 1062 = .ok (.iaload, 1) := by decide +kernel
theorem dL_law_1063 : decode cL_law 1063 = .ok (.invokevirtual 116, 3) := by decide +kernel
theorem dL_law_1066 : decode cL_law 1066 = .ok (.aload_n 2, 1) := by decide +kernel
theorem dL_law_1067 : decode cL_law 1067 = .ok (.aload_n 0, 1) := by decide +kernel
theorem dL_law_1068 : decode cL_law 1068 = .ok (.iload 4, 2) := by decide +kernel
theorem dL_law_1070 : decode cL_law 1070 = .ok (.iconst 1, 1) := by decide +kernel
theorem dL_law_1071 : decode cL_law 1071 = .ok (.iadd, 1) := by decide +kernel
theorem dL_law_1072 : decode cL_law 1072 = .ok (.iaload, 1) := by decide +kernel
theorem dL_law_1073 : decode cL_law 1073 = .ok (.aload_n 0, 1) := by decide +kernel
theorem dL_law_1074 : decode cL_law 1074 = .ok (.iload 4, 2) := by decide +kernel
theorem dL_law_1076 : decode cL_law 1076 = .ok (.iconst 2, 1) := by decide +kernel
theorem dL_law_1077 : decode cL_law 1077 = .ok (.iadd, 1) := by decide +kernel
theorem dL_law_1078 : decode cL_law 1078 = .ok (.iaload, 1) := by decide +kernel
theorem dL_law_1079 : decode cL_law 1079 = .ok (.aload_n 0, 1) := by decide +kernel
theorem dL_law_1080 : decode cL_law 1080 = .ok (.iload 4, 2) := by decide +kernel
theorem dL_law_1082 : decode cL_law 1082 = .ok (.iconst 3, 1) := by decide +kernel
theorem dL_law_1083 : decode cL_law 1083 = .ok (.iadd, 1) := by decide +kernel
theorem dL_law_1084 : decode cL_law 1084 = .ok (.iaload, 1) := by decide +kernel
theorem dL_law_1085 : decode cL_law 1085 = .ok (.aload_n 0, 1) := by decide +kernel
theorem dL_law_1086 : decode cL_law 1086 = .ok (.iload 4, 2) := by decide +kernel
theorem dL_law_1088 : decode cL_law 1088 = .ok (.iconst 4, 1) := by decide +kernel
theorem dL_law_1089 : decode cL_law 1089 = .ok (.iadd, 1) := by decide +kernel
theorem dL_law_1090 : decode cL_law 1090 = .ok (.iaload, 1) := by decide +kernel
theorem dL_law_1091 : decode cL_law 1091 = .ok (.invokevirtual 119, 3) := by decide +kernel
theorem dL_law_1094 : decode cL_law 1094 = .ok (.if_icmp .eq 428, 3) := by decide +kernel
theorem dL_law_1099 : decode cL_law 1099 = .ok (.aload_n 1, 1) := by decide +kernel
theorem dL_law_1100 : decode cL_law 1100 = .ok (.aload_n 0, 1) := by decide +kernel
theorem dL_law_1101 : decode cL_law 1101 = .ok (.iload 4, 2) := by decide +kernel
theorem dL_law_1103 : decode cL_law 1103 = .ok (.iconst 1, 1) := by decide +kernel
theorem dL_law_1104 : decode cL_law 1104 = .ok (.iadd, 1) := by decide +kernel
theorem dL_law_1105 : decode cL_law 1105 = .ok (.iaload, 1) := by decide +kernel
theorem dL_law_1106 : decode cL_law 1106 = .ok (.invokevirtual 120, 3) := by decide +kernel
theorem dL_law_1109 : decode cL_law 1109 = .ok (.aload_n 2, 1) := by decide +kernel
theorem dL_law_1110 : decode cL_law 1110 = .ok (.aload_n 0, 1) := by decide +kernel
theorem dL_law_1111 : decode cL_law 1111 = .ok (.iload 4, 2) := by decide +kernel
theorem dL_law_1113 : decode cL_law 1113 = .ok (.iconst 1, 1) := by decide +kernel
theorem dL_law_1114 : decode cL_law 1114 = .ok (.iadd, 1) := by decide +kernel
theorem dL_law_1115 : decode cL_law 1115 = .ok (.iaload, 1) := by decide +kernel
theorem dL_law_1116 : decode cL_law 1116 = .ok (.invokevirtual 123, 3) := by decide +kernel
theorem dL_law_1119 : decode cL_law 1119 = .ok (.if_icmp .eq 403, 3) := by decide +kernel
theorem dL_law_1124 : decode cL_law 1124 = .ok (.aload_n 1, 1) := by decide +kernel
theorem dL_law_1125 : decode cL_law 1125 = .ok (.aload_n 0, 1) := by decide +kernel
theorem dL_law_1126 : decode cL_law 1126 = .ok (.iload 4, 2) := by decide +kernel
theorem dL_law_1128 : decode cL_law 1128 = .ok (.iconst 1, 1) := by decide +kernel
theorem dL_law_1129 : decode cL_law 1129 = .ok (.iadd, 1) := by decide +kernel
theorem dL_law_1130 : decode cL_law 1130 = .ok (.iaload, 1) := by decide +kernel
theorem dL_law_1131 : decode cL_law 1131 = .ok (.invokevirtual 124, 3) := by decide +kernel
theorem dL_law_1134 : decode cL_law 1134 = .ok (.aload_n 2, 1) := by decide +kernel
theorem dL_law_1135 : decode cL_law 1135 = .ok (.aload_n 0, 1) := by decide +kernel
theorem dL_law_1136 : decode cL_law 1136 = .ok (.iload 4, 2) := by decide +kernel
theorem dL_law_1138 : decode cL_law 1138 = .ok (.iconst 1, 1) := by decide +kernel
theorem dL_law_1139 : decode cL_law 1139 = .ok (.iadd, 1) := by decide +kernel
theorem dL_law_1140 : decode cL_law 1140 = .ok (.iaload, 1) := by decide +kernel
theorem dL_law_1141 : decode cL_law 1141 = .ok (.invokevirtual 127, 3) := by decide +kernel
theorem dL_law_1144 : decode cL_law 1144 = .ok (.if_icmp .eq 378, 3) := by decide +kernel
theorem dL_law_1149 : decode cL_law 1149 = .ok (.aload_n 1, 1) := by decide +kernel
theorem dL_law_1150 : decode cL_law 1150 = .ok (.aload_n 0, 1) := by decide +kernel
theorem dL_law_1151 : decode cL_law 1151 = .ok (.iload 4, 2) := by decide +kernel
theorem dL_law_1153 : decode cL_law 1153 = .ok (.iconst 1, 1) := by decide +kernel
theorem dL_law_1154 : decode cL_law 1154 = .ok (.iadd, 1) := by decide +kernel
theorem dL_law_1155 : decode cL_law 1155 = .ok (.iaload, 1) := by decide +kernel
theorem dL_law_1156 : decode cL_law 1156 = .ok (.aload_n 0, 1) := by decide +kernel
theorem dL_law_1157 : decode cL_law 1157 = .ok (.iload 4, 2) := by decide +kernel
theorem dL_law_1159 : decode cL_law 1159 = .ok (.iconst 2, 1) := by decide +kernel
theorem dL_law_1160 : decode cL_law 1160 = .ok (.iadd, 1) := by decide +kernel
theorem dL_law_1161 : decode cL_law 1161 = .ok (.iaload, 1) := by decide +kernel
theorem dL_law_1162 : decode cL_law 1162 = .ok (.aload_n 0, 1) := by decide +kernel
theorem dL_law_1163 : decode cL_law 1163 = .ok (.iload 4, 2) := by decide +kernel
theorem dL_law_1165 : decode cL_law 1165 = .ok (.iconst 3, 1) := by decide +kernel
theorem dL_law_1166 : decode cL_law 1166 = .ok (.iadd, 1) := by decide +kernel
theorem dL_law_1167 : decode cL_law 1167 = .ok (.iaload, 1) := by decide +kernel
theorem dL_law_1168 : decode cL_law 1168 = .ok (.aload_n 0, 1) := by decide +kernel
theorem dL_law_1169 : decode cL_law 1169 = .ok (.iload 4, 2) := by decide +kernel
theorem dL_law_1171 : decode cL_law 1171 = .ok (.iconst 4, 1) := by decide +kernel
theorem dL_law_1172 : decode cL_law 1172 = .ok (.iadd, 1) := by decide +kernel
theorem dL_law_1173 : decode cL_law 1173 = .ok (.iaload, 1) := by decide +kernel
theorem dL_law_1174 : decode cL_law 1174 = .ok (.aload_n 0, 1) := by decide +kernel
theorem dL_law_1175 : decode cL_law 1175 = .ok (.iload 4, 2) := by decide +kernel
theorem dL_law_1177 : decode cL_law 1177 = .ok (.iconst 5, 1) := by decide +kernel
theorem dL_law_1178 : decode cL_law 1178 = .ok (.iadd, 1) := by decide +kernel
theorem dL_law_1179 : decode cL_law 1179 = .ok (.iaload, 1) := by decide +kernel
theorem dL_law_1180 : decode cL_law 1180 = .ok (.invokevirtual 128, 3) := by decide +kernel
theorem dL_law_1183 : decode cL_law 1183 = .ok (.aload_n 2, 1) := by decide +kernel
theorem dL_law_1184 : decode cL_law 1184 = .ok (.aload_n 0, 1) := by decide +kernel
theorem dL_law_1185 : decode cL_law 1185 = .ok (.iload 4, 2) := by decide +kernel
theorem dL_law_1187 : decode cL_law 1187 = .ok (.iconst 1, 1) := by decide +kernel
theorem dL_law_1188 : decode cL_law 1188 = .ok (.iadd, 1) := by decide +kernel
theorem dL_law_1189 : decode cL_law 1189 = .ok (.iaload, 1) := by decide +kernel
theorem dL_law_1190 : decode cL_law 1190 = .ok (.aload_n 0, 1) := by decide +kernel
theorem dL_law_1191 : decode cL_law 1191 = .ok (.iload 4, 2) := by decide +kernel
theorem dL_law_1193 : decode cL_law 1193 = .ok (.iconst 2, 1) := by decide +kernel
theorem dL_law_1194 : decode cL_law 1194 = .ok (.iadd, 1) := by decide +kernel
theorem dL_law_1195 : decode cL_law 1195 = .ok (.iaload, 1) := by decide +kernel
theorem dL_law_1196 : decode cL_law 1196 = .ok (.aload_n 0, 1) := by decide +kernel
theorem dL_law_1197 : decode cL_law 1197 = .ok (.iload 4, 2) := by decide +kernel
theorem dL_law_1199 : decode cL_law 1199 = .ok (.iconst 3, 1) := by decide +kernel
theorem dL_law_1200 : decode cL_law 1200 = .ok (.iadd, 1) := by decide +kernel
theorem dL_law_1201 : decode cL_law 1201 = .ok (.iaload, 1) := by decide +kernel
theorem dL_law_1202 : decode cL_law 1202 = .ok (.aload_n 0, 1) := by decide +kernel
theorem dL_law_1203 : decode cL_law 1203 = .ok (.iload 4, 2) := by decide +kernel
theorem dL_law_1205 : decode cL_law 1205 = .ok (.iconst 4, 1) := by decide +kernel
theorem dL_law_1206 : decode cL_law 1206 = .ok (.iadd, 1) := by decide +kernel
theorem dL_law_1207 : decode cL_law 1207 = .ok (.iaload, 1) := by decide +kernel
theorem dL_law_1208 : decode cL_law 1208 = .ok (.aload_n 0, 1) := by decide +kernel
theorem dL_law_1209 : decode cL_law 1209 = .ok (.iload 4, 2) := by decide +kernel
theorem dL_law_1211 : decode cL_law 1211 = .ok (.iconst 5, 1) := by decide +kernel
theorem dL_law_1212 : decode cL_law 1212 = .ok (.iadd, 1) := by decide +kernel
theorem dL_law_1213 : decode cL_law 1213 = .ok (.iaload, 1) := by decide +kernel
theorem dL_law_1214 : decode cL_law 1214 = .ok (.invokevirtual 131, 3) := by decide +kernel
theorem dL_law_1217 : decode cL_law 1217 = .ok (.if_icmp .eq 305, 3) := by decide +kernel
theorem dL_law_1222 : decode cL_law 1222 = .ok (.aload_n 1, 1) := by decide +kernel
theorem dL_law_1223 : decode cL_law 1223 = .ok (.invokevirtual 132, 3) := by decide +kernel
theorem dL_law_1226 : decode cL_law 1226 = .ok (.aload_n 2, 1) := by decide +kernel
theorem dL_law_1227 : decode cL_law 1227 = .ok (.invokevirtual 136, 3) := by decide +kernel
theorem dL_law_1230 : decode cL_law 1230 = .ok (.lcmp, 1) := by decide +kernel
theorem dL_law_1231 : decode cL_law 1231 = .ok (.ifCond .eq 291, 3) := by decide +kernel
theorem dL_law_1236 : decode cL_law 1236 = .ok (.aload_n 1, 1) := by decide +kernel
theorem dL_law_1237 : decode cL_law 1237 = .ok (.invokevirtual 137, 3) := by decide +kernel
theorem dL_law_1240 : decode cL_law 1240 = .ok (.aload_n 2, 1) := by decide +kernel
theorem dL_law_1241 : decode cL_law 1241 = .ok (.invokevirtual 140, 3) := by decide +kernel
theorem dL_law_1244 : decode cL_law 1244 = .ok (.if_icmp .eq 278, 3) := by decide +kernel
theorem dL_law_1249 : decode cL_law 1249 = .ok (.aload_n 1, 1) := by decide +kernel
theorem dL_law_1250 : decode cL_law 1250 = .ok (.invokevirtual 141, 3) := by decide +kernel
theorem dL_law_1253 : decode cL_law 1253 = .ok (.aload_n 2, 1) := by decide +kernel
theorem dL_law_1254 : decode cL_law 1254 = .ok (.invokevirtual 144, 3) := by decide +kernel
theorem dL_law_1257 : decode cL_law 1257 = .ok (.if_icmp .eq 265, 3) := by decide +kernel
theorem dL_law_1262 : decode cL_law 1262 = .ok (.aload_n 1, 1) := by decide +kernel
theorem dL_law_1263 : decode cL_law 1263 = .ok (.aload_n 0, 1) := by decide +kernel
theorem dL_law_1264 : decode cL_law 1264 = .ok (.iload 4, 2) := by decide +kernel
theorem dL_law_1266 : decode cL_law 1266 = .ok (.iconst 1, 1) := by decide +kernel
theorem dL_law_1267 : decode cL_law 1267 = .ok (.iadd, 1) := by decide +kernel
theorem dL_law_1268 : decode cL_law 1268 = .ok (.iaload, 1) := by decide +kernel
theorem dL_law_1269 : decode cL_law 1269 = .ok (.aload_n 0, 1) := by decide +kernel
theorem dL_law_1270 : decode cL_law 1270 = .ok (.iload 4, 2) := by decide +kernel
theorem dL_law_1272 : decode cL_law 1272 = .ok (.iconst 2, 1) := by decide +kernel
theorem dL_law_1273 : decode cL_law 1273 = .ok (.iadd, 1) := by decide +kernel
theorem dL_law_1274 : decode cL_law 1274 = .ok (.iaload, 1) := by decide +kernel
theorem dL_law_1275 : decode cL_law 1275 = .ok (.aload_n 0, 1) := by decide +kernel
theorem dL_law_1276 : decode cL_law 1276 = .ok (.iload 4, 2) := by decide +kernel
theorem dL_law_1278 : decode cL_law 1278 = .ok (.iconst 3, 1) := by decide +kernel
theorem dL_law_1279 : decode cL_law 1279 = .ok (.iadd, 1) := by decide +kernel
theorem dL_law_1280 : decode cL_law 1280 = .ok (.iaload, 1) := by decide +kernel
theorem dL_law_1281 : decode cL_law 1281 = .ok (.invokevirtual 145, 3) := by decide +kernel
theorem dL_law_1284 : decode cL_law 1284 = .ok (.aload_n 2, 1) := by decide +kernel
theorem dL_law_1285 : decode cL_law 1285 = .ok (.aload_n 0, 1) := by decide +kernel
theorem dL_law_1286 : decode cL_law 1286 = .ok (.iload 4, 2) := by decide +kernel
theorem dL_law_1288 : decode cL_law 1288 = .ok (.iconst 1, 1) := by decide +kernel
theorem dL_law_1289 : decode cL_law 1289 = .ok (.iadd, 1) := by decide +kernel
theorem dL_law_1290 : decode cL_law 1290 = .ok (.iaload, 1) := by decide +kernel
theorem dL_law_1291 : decode cL_law 1291 = .ok (.aload_n 0, 1) := by decide +kernel
theorem dL_law_1292 : decode cL_law 1292 = .ok (.iload 4, 2) := by decide +kernel
theorem dL_law_1294 : decode cL_law 1294 = .ok (.iconst 2, 1) := by decide +kernel
theorem dL_law_1295 : decode cL_law 1295 = .ok (.iadd, 1) := by decide +kernel
theorem dL_law_1296 : decode cL_law 1296 = .ok (.iaload, 1) := by decide +kernel
theorem dL_law_1297 : decode cL_law 1297 = .ok (.aload_n 0, 1) := by decide +kernel
theorem dL_law_1298 : decode cL_law 1298 = .ok (.iload 4, 2) := by decide +kernel
theorem dL_law_1300 : decode cL_law 1300 = .ok (.iconst 3, 1) := by decide +kernel
theorem dL_law_1301 : decode cL_law 1301 = .ok (.iadd, 1) := by decide +kernel
theorem dL_law_1302 : decode cL_law 1302 = .ok (.iaload, 1) := by decide +kernel
theorem dL_law_1303 : decode cL_law 1303 = .ok (.invokevirtual 149, 3) := by decide +kernel
theorem dL_law_1306 : decode cL_law 1306 = .ok (.if_icmp .eq 216, 3) := by decide +kernel
theorem dL_law_1311 : decode cL_law 1311 = .ok (.aload_n 1, 1) := by decide +kernel
theorem dL_law_1312 : decode cL_law 1312 = .ok (.aload_n 0, 1) := by decide +kernel
theorem dL_law_1313 : decode cL_law 1313 = .ok (.iload 4, 2) := by decide +kernel
theorem dL_law_1315 : decode cL_law 1315 = .ok (.iconst 1, 1) := by decide +kernel
theorem dL_law_1316 : decode cL_law 1316 = .ok (.iadd, 1) := by decide +kernel
theorem dL_law_1317 : decode cL_law 1317 = .ok (.iaload, 1) := by decide +kernel
theorem dL_law_1318 : decode cL_law 1318 = .ok (.invokevirtual 150, 3) := by decide +kernel
theorem dL_law_1321 : decode cL_law 1321 = .ok (.aload_n 2, 1) := by decide +kernel
theorem dL_law_1322 : decode cL_law 1322 = .ok (.aload_n 0, 1) := by decide +kernel
theorem dL_law_1323 : decode cL_law 1323 = .ok (.iload 4, 2) := by decide +kernel
theorem dL_law_1325 : decode cL_law 1325 = .ok (.iconst 1, 1) := by decide +kernel
theorem dL_law_1326 : decode cL_law 1326 = .ok (.iadd, 1) := by decide +kernel
theorem dL_law_1327 : decode cL_law 1327 = .ok (.iaload, 1) := by decide +kernel
theorem dL_law_1328 : decode cL_law 1328 = .ok (.invokevirtual 153, 3) := by decide +kernel
theorem dL_law_1331 : decode cL_law 1331 = .ok (.if_icmp .eq 191, 3) := by decide +kernel
theorem dL_law_1336 : decode cL_law 1336 = .ok (.aload_n 1, 1) := by decide +kernel
theorem dL_law_1337 : decode cL_law 1337 = .ok (.aload_n 0, 1) := by decide +kernel
theorem dL_law_1338 : decode cL_law 1338 = .ok (.iload 4, 2) := by decide +kernel
theorem dL_law_1340 : decode cL_law 1340 = .ok (.iconst 1, 1) := by decide +kernel
theorem dL_law_1341 : decode cL_law 1341 = .ok (.iadd, 1) := by decide +kernel
theorem dL_law_1342 : decode cL_law 1342 = .ok (.iaload, 1) := by decide +kernel
theorem dL_law_1343 : decode cL_law 1343 = .ok (.invokevirtual 154, 3) := by decide +kernel
theorem dL_law_1346 : decode cL_law 1346 = .ok (.aload_n 2, 1) := by decide +kernel
theorem dL_law_1347 : decode cL_law 1347 = .ok (.aload_n 0, 1) := by decide +kernel
theorem dL_law_1348 : decode cL_law 1348 = .ok (.iload 4, 2) := by decide +kernel
theorem dL_law_1350 : decode cL_law 1350 = .ok (.iconst 1, 1) := by decide +kernel
theorem dL_law_1351 : decode cL_law 1351 = .ok (.iadd, 1) := by decide +kernel
theorem dL_law_1352 : decode cL_law 1352 = .ok (.iaload, 1) := by decide +kernel
theorem dL_law_1353 : decode cL_law 1353 = .ok (.invokevirtual 157, 3) := by decide +kernel
theorem dL_law_1356 : decode cL_law 1356 = .ok (.if_icmp .eq 166, 3) := by decide +kernel
theorem dL_law_1361 : decode cL_law 1361 = .ok (.aload_n 1, 1) := by decide +kernel
theorem dL_law_1362 : decode cL_law 1362 = .ok (.invokevirtual 158, 3) := by decide +kernel
theorem dL_law_1365 : decode cL_law 1365 = .ok (.aload_n 2, 1) := by decide +kernel
theorem dL_law_1366 : decode cL_law 1366 = .ok (.invokevirtual 161, 3) := by decide +kernel
theorem dL_law_1369 : decode cL_law 1369 = .ok (.if_icmp .eq 153, 3) := by decide +kernel
theorem dL_law_1374 : decode cL_law 1374 = .ok (.aload_n 1, 1) := by decide +kernel
theorem dL_law_1375 : decode cL_law 1375 = .ok (.aload_n 0, 1) := by decide +kernel
theorem dL_law_1376 : decode cL_law 1376 = .ok (.iload 4, 2) := by decide +kernel
theorem dL_law_1378 : decode cL_law 1378 = .ok (.iconst 1, 1) := by decide +kernel
theorem dL_law_1379 : decode cL_law 1379 = .ok (.iadd, 1) := by decide +kernel
theorem dL_law_1380 : decode cL_law 1380 = .ok (.iaload, 1) := by decide +kernel
theorem dL_law_1381 : decode cL_law 1381 = .ok (.invokevirtual 162, 3) := by decide +kernel
theorem dL_law_1384 : decode cL_law 1384 = .ok (.aload_n 2, 1) := by decide +kernel
theorem dL_law_1385 : decode cL_law 1385 = .ok (.aload_n 0, 1) := by decide +kernel
theorem dL_law_1386 : decode cL_law 1386 = .ok (.iload 4, 2) := by decide +kernel
theorem dL_law_1388 : decode cL_law 1388 = .ok (.iconst 1, 1) := by decide +kernel
theorem dL_law_1389 : decode cL_law 1389 = .ok (.iadd, 1) := by decide +kernel
theorem dL_law_1390 : decode cL_law 1390 = .ok (.iaload, 1) := by decide +kernel
theorem dL_law_1391 : decode cL_law 1391 = .ok (.invokevirtual 165, 3) := by decide +kernel
theorem dL_law_1394 : decode cL_law 1394 = .ok (.if_icmp .eq 128, 3) := by decide +kernel
theorem dL_law_1399 : decode cL_law 1399 = .ok (.aload_n 1, 1) := by decide +kernel
theorem dL_law_1400 : decode cL_law 1400 = .ok (.aload_n 0, 1) := by decide +kernel
theorem dL_law_1401 : decode cL_law 1401 = .ok (.iload 4, 2) := by decide +kernel
theorem dL_law_1403 : decode cL_law 1403 = .ok (.iconst 1, 1) := by decide +kernel
theorem dL_law_1404 : decode cL_law 1404 = .ok (.iadd, 1) := by decide +kernel
theorem dL_law_1405 : decode cL_law 1405 = .ok (.iaload, 1) := by decide +kernel
theorem dL_law_1406 : decode cL_law 1406 = .ok (.aload_n 0, 1) := by decide +kernel
theorem dL_law_1407 : decode cL_law 1407 = .ok (.iload 4, 2) := by decide +kernel
theorem dL_law_1409 : decode cL_law 1409 = .ok (.iconst 2, 1) := by decide +kernel
theorem dL_law_1410 : decode cL_law 1410 = .ok (.iadd, 1) := by decide +kernel
theorem dL_law_1411 : decode cL_law 1411 = .ok (.iaload, 1) := by decide +kernel
theorem dL_law_1412 : decode cL_law 1412 = .ok (.aload_n 0, 1) := by decide +kernel
theorem dL_law_1413 : decode cL_law 1413 = .ok (.iload 4, 2) := by decide +kernel
theorem dL_law_1415 : decode cL_law 1415 = .ok (.iconst 3, 1) := by decide +kernel
theorem dL_law_1416 : decode cL_law 1416 = .ok (.iadd, 1) := by decide +kernel
theorem dL_law_1417 : decode cL_law 1417 = .ok (.iaload, 1) := by decide +kernel
theorem dL_law_1418 : decode cL_law 1418 = .ok (.aload_n 0, 1) := by decide +kernel
theorem dL_law_1419 : decode cL_law 1419 = .ok (.iload 4, 2) := by decide +kernel
theorem dL_law_1421 : decode cL_law 1421 = .ok (.iconst 4, 1) := by decide +kernel
theorem dL_law_1422 : decode cL_law 1422 = .ok (.iadd, 1) := by decide +kernel
theorem dL_law_1423 : decode cL_law 1423 = .ok (.iaload, 1) := by decide +kernel
theorem dL_law_1424 : decode cL_law 1424 = .ok (.aload_n 0, 1) := by decide +kernel
theorem dL_law_1425 : decode cL_law 1425 = .ok (.iload 4, 2) := by decide +kernel
theorem dL_law_1427 : decode cL_law 1427 = .ok (.iconst 5, 1) := by decide +kernel
theorem dL_law_1428 : decode cL_law 1428 = .ok (.iadd, 1) := by decide +kernel
theorem dL_law_1429 : decode cL_law 1429 = .ok (.iaload, 1) := by decide +kernel
theorem dL_law_1430 : decode cL_law 1430 = .ok (.invokevirtual 166, 3) := by decide +kernel
theorem dL_law_1433 : decode cL_law 1433 = .ok (.aload_n 2, 1) := by decide +kernel
theorem dL_law_1434 : decode cL_law 1434 = .ok (.aload_n 0, 1) := by decide +kernel
theorem dL_law_1435 : decode cL_law 1435 = .ok (.iload 4, 2) := by decide +kernel
theorem dL_law_1437 : decode cL_law 1437 = .ok (.iconst 1, 1) := by decide +kernel
theorem dL_law_1438 : decode cL_law 1438 = .ok (.iadd, 1) := by decide +kernel
theorem dL_law_1439 : decode cL_law 1439 = .ok (.iaload, 1) := by decide +kernel
theorem dL_law_1440 : decode cL_law 1440 = .ok (.aload_n 0, 1) := by decide +kernel
theorem dL_law_1441 : decode cL_law 1441 = .ok (.iload 4, 2) := by decide +kernel
theorem dL_law_1443 : decode cL_law 1443 = .ok (.iconst 2, 1) := by decide +kernel
theorem dL_law_1444 : decode cL_law 1444 = .ok (.iadd, 1) := by decide +kernel
theorem dL_law_1445 : decode cL_law 1445 = .ok (.iaload, 1) := by decide +kernel
theorem dL_law_1446 : decode cL_law 1446 = .ok (.aload_n 0, 1) := by decide +kernel
theorem dL_law_1447 : decode cL_law 1447 = .ok (.iload 4, 2) := by decide +kernel
theorem dL_law_1449 : decode cL_law 1449 = .ok (.iconst 3, 1) := by decide +kernel
theorem dL_law_1450 : decode cL_law 1450 = .ok (.iadd, 1) := by decide +kernel
theorem dL_law_1451 : decode cL_law 1451 = .ok (.iaload, 1) := by decide +kernel
theorem dL_law_1452 : decode cL_law 1452 = .ok (.aload_n 0, 1) := by decide +kernel
theorem dL_law_1453 : decode cL_law 1453 = .ok (.iload 4, 2) := by decide +kernel
theorem dL_law_1455 : decode cL_law 1455 = .ok (.iconst 4, 1) := by decide +kernel
theorem dL_law_1456 : decode cL_law 1456 = .ok (.iadd, 1) := by decide +kernel
theorem dL_law_1457 : decode cL_law 1457 = .ok (.iaload, 1) := by decide +kernel
theorem dL_law_1458 : decode cL_law 1458 = .ok (.aload_n 0, 1) := by decide +kernel
theorem dL_law_1459 : decode cL_law 1459 = .ok (.iload 4, 2) := by decide +kernel
theorem dL_law_1461 : decode cL_law 1461 = .ok (.iconst 5, 1) := by decide +kernel
theorem dL_law_1462 : decode cL_law 1462 = .ok (.iadd, 1) := by decide +kernel
theorem dL_law_1463 : decode cL_law 1463 = .ok (.iaload, 1) := by decide +kernel
theorem dL_law_1464 : decode cL_law 1464 = .ok (.invokevirtual 169, 3) := by decide +kernel
theorem dL_law_1467 : decode cL_law 1467 = .ok (.if_icmp .eq 55, 3) := by decide +kernel
theorem dL_law_1472 : decode cL_law 1472 = .ok (.aload_n 1, 1) := by decide +kernel
theorem dL_law_1473 : decode cL_law 1473 = .ok (.aload_n 0, 1) := by decide +kernel
theorem dL_law_1474 : decode cL_law 1474 = .ok (.iload 4, 2) := by decide +kernel
theorem dL_law_1476 : decode cL_law 1476 = .ok (.iconst 1, 1) := by decide +kernel
theorem dL_law_1477 : decode cL_law 1477 = .ok (.iadd, 1) := by decide +kernel
theorem dL_law_1478 : decode cL_law 1478 = .ok (.iaload, 1) := by decide +kernel
theorem dL_law_1479 : decode cL_law 1479 = .ok (.invokevirtual 170, 3) := by decide +kernel
theorem dL_law_1482 : decode cL_law 1482 = .ok (.aload_n 2, 1) := by decide +kernel
theorem dL_law_1483 : decode cL_law 1483 = .ok (.aload_n 0, 1) := by decide +kernel
theorem dL_law_1484 : decode cL_law 1484 = .ok (.iload 4, 2) := by decide +kernel
theorem dL_law_1486 : decode cL_law 1486 = .ok (.iconst 1, 1) := by decide +kernel
theorem dL_law_1487 : decode cL_law 1487 = .ok (.iadd, 1) := by decide +kernel
theorem dL_law_1488 : decode cL_law 1488 = .ok (.iaload, 1) := by decide +kernel
theorem dL_law_1489 : decode cL_law 1489 = .ok (.invokevirtual 173, 3) := by decide +kernel
theorem dL_law_1492 : decode cL_law 1492 = .ok (.if_icmp .eq 30, 3) := by decide +kernel
theorem dL_law_1497 : decode cL_law 1497 = .ok (.aload_n 1, 1) := by decide +kernel
theorem dL_law_1498 : decode cL_law 1498 = .ok (.aload_n 0, 1) := by decide +kernel
theorem dL_law_1499 : decode cL_law 1499 = .ok (.iload 4, 2) := by decide +kernel
theorem dL_law_1501 : decode cL_law 1501 = .ok (.iconst 1, 1) := by decide +kernel
theorem dL_law_1502 : decode cL_law 1502 = .ok (.iadd, 1) := by decide +kernel
theorem dL_law_1503 : decode cL_law 1503 = .ok (.iaload, 1) := by decide +kernel
theorem dL_law_1504 : decode cL_law 1504 = .ok (.invokevirtual 174, 3) := by decide +kernel
theorem dL_law_1507 : decode cL_law 1507 = .ok (.aload_n 2, 1) := by decide +kernel
theorem dL_law_1508 : decode cL_law 1508 = .ok (.aload_n 0, 1) := by decide +kernel
theorem dL_law_1509 : decode cL_law 1509 = .ok (.iload 4, 2) := by decide +kernel
theorem dL_law_1511 : decode cL_law 1511 = .ok (.iconst 1, 1) := by decide +kernel
theorem dL_law_1512 : decode cL_law 1512 = .ok (.iadd, 1) := by decide +kernel
theorem dL_law_1513 : decode cL_law 1513 = .ok (.iaload, 1) := by decide +kernel
theorem dL_law_1514 : decode cL_law 1514 = .ok (.invokevirtual 177, 3) := by decide +kernel
theorem dL_law_1517 : decode cL_law 1517 = .ok (.if_icmp .eq 5, 3) := by decide +kernel
theorem dL_law_1522 : decode cL_law 1522 = .ok (.iinc 4 6, 3) := by decide +kernel
theorem dL_law_1525 : decode cL_law 1525 = .ok (.goto (-1502), 3) := by decide +kernel
theorem dL_law_1528 : decode cL_law 1528 = .ok (.iconst 1, 1) := by decide +kernel
theorem dL_law_1529 : decode cL_law 1529 = .ok (.ireturn, 1) := by decide +kernel
def R_law : String := "PaperBoysLaw"
def lw_P (b : Addr) (xs : List Int32) (args : Array Value) (s : State) : Prop := args = #[.ref b] ∧ s.IntsAt b xs ∧ xs.length ≤ 6 ∧ (Jvm.Cond.and given_1 narrow_1).before args s = true
def lw_Q (_ : Array Value) (s : State) (o : Outcome) (t : State) : Prop := o = .returned (some (.int 1)) ∧ Framed s o t [] 600002 7302232
def lw_Z (below : List Frame) (a : Array Value) (s : State) : State → Prop := fun t => ∃ o, t.status = .running ∧ Ended t below o ∧ lw_Q a s o t
theorem lw_ret {p : Program} {l : Launch} {e : Env} {s : State} {m : MethodId} {below : List Frame} {meth : Method} {c : Code} {b : Nat} (hx : p.tables.exec = Jvm.exec) (hb : c.code = code) (hr : meth.sig.returnType = ret) (hlocks : meth.locks = false) {pc : Nat} {H : Heap} {ls : Array Slot} (hdg : decode code pc = .ok (.ireturn, 1)) : W p l e room_1 s m #[Value.ref b] below meth c H [] 600002 7302232 (lw_Z below #[Value.ref b] s) (F0 m pc ls [.int 1]) := by
  intro T hT X
  obtain ⟨fs, hret, hrun, hended, hW, hframe⟩ := X.leave (v := some (.int 1)) (hlocks := hlocks) (fun h => by rw [hr] at h; cases h)
  have hmeth' : T.vm.method? m = some meth := X.method'
  refine ⟨T.setFrames fs, ?_, .returned (some (.int 1)), hrun, hended, rfl, ⟨_, rfl⟩, hW, hframe⟩
  jvm_step X.here [X.here.top, hx, hb, hdg, hmeth', hr, ret, narrow_b1]
  (try refine ⟨rfl, ?_⟩); (try refine ⟨rfl, ?_⟩)
  first | (intro acts; rw [hret _ acts rfl rfl rfl]) | rw [hret _ _ rfl rfl rfl]
  exact Steps.refl _
def lw_At (p : Program) (s : State) (m : MethodId) (meth : Method) (c : Code) (b L : Nat) (xs : Nat → Int32) : Prop :=
  p.tables.exec = Jvm.exec ∧ c.code = code ∧ meth.sig.returnType = ret ∧ c.maxLocals = 7 ∧ s.vm.findClass R_law = some m.cls ∧ (∀ w ∈ lw_tbl, w.before #[Value.ref b] s = true) ∧ va_X b L xs s s.heap ∧ b < s.heap.size ∧ meth.locks = false ∧ (Jvm.Cond.and given_1 narrow_1).before #[Value.ref b] s = true
def lawW (qX : Nat) (qM : Nat) (qO : Nat) (kO : ClassId) (t0 : Nat) (auX : Nat → Nat) (cuX : Nat → ClassId) (guX : Nat → Nat → Int32) (zuX : Nat → Int32) (ruX : Nat → Nat → Nat) (auM : Nat → Nat) (cuM : Nat → ClassId) (guM : Nat → Nat → Int32) (zuM : Nat → Int32) (ruM : Nat → Nat → Nat) : va_W := [(qX, .inr (12, [.ref (auX 0), .ref (auX 1), .ref (auX 2), .ref (auX 3), .ref (auX 4), .ref (auX 5), .ref (auX 6), .ref (auX 7), .ref (auX 8), .ref (auX 9), .ref (auX 10), .ref (auX 11), .int 0, .int 0, .int (-1), .int (-1), .int (-1), .int (-1)])), ((auX 0), .inr (10, [.ref (auX 12), .int 0])), ((auX 12), .inl ((cuX 0), 420, .inl (fun _ => 0))), ((auX 1), .inr (6, [.ref (auX 2), .ref (auX 13), .ref (auX 14), .ref (auX 15), .ref (auX 16), .int 0, .int 0, .int 0])), ((auX 2), .inr (4, [.ref (auX 17), .ref (auX 18), .ref (auX 19), .ref (auX 20), .ref (auX 21), .ref (auX 22), .ref (auX 23)])), ((auX 17), .inl ((cuX 1), 400, .inl (fun _ => 0))), ((auX 18), .inl ((cuX 2), 4, .inr (.inr (.inr (.inr (fun i => if i < 4 then some ((ruX 0) i) else none)))))), (((ruX 0) 0), .inl ((cuX 1), 400, .inl (fun _ => 0))), (((ruX 0) 1), .inl ((cuX 1), 400, .inl (fun _ => 0))), (((ruX 0) 2), .inl ((cuX 1), 400, .inl (fun _ => 0))), (((ruX 0) 3), .inl ((cuX 1), 400, .inl (fun _ => 0))), ((auX 19), .inl ((cuX 3), 4, .inl (guX 0))), ((auX 20), .inl ((cuX 4), 6, .inl (guX 1))), ((auX 21), .inl ((cuX 5), 10, .inr (.inr (.inr (.inr (fun i => if i < 10 then some ((ruX 1) i) else none)))))), (((ruX 1) 0), .inl ((cuX 1), 4, .inl (fun _ => 0))), (((ruX 1) 1), .inl ((cuX 1), 4, .inl (fun _ => 0))), (((ruX 1) 2), .inl ((cuX 1), 4, .inl (fun _ => 0))), (((ruX 1) 3), .inl ((cuX 1), 4, .inl (fun _ => 0))), (((ruX 1) 4), .inl ((cuX 1), 4, .inl (fun _ => 0))), (((ruX 1) 5), .inl ((cuX 1), 4, .inl (fun _ => 0))), (((ruX 1) 6), .inl ((cuX 1), 4, .inl (fun _ => 0))), (((ruX 1) 7), .inl ((cuX 1), 4, .inl (fun _ => 0))), (((ruX 1) 8), .inl ((cuX 1), 4, .inl (fun _ => 0))), (((ruX 1) 9), .inl ((cuX 1), 4, .inl (fun _ => 0))), ((auX 22), .inl ((cuX 6), 10, .inl (guX 2))), ((auX 23), .inl ((cuX 7), 10, .inr (.inr (.inr (.inr (fun i => if i < 10 then some ((ruX 2) i) else none)))))), (((ruX 2) 0), .inl ((cuX 1), 10, .inl (guX 3))), (((ruX 2) 1), .inl ((cuX 1), 10, .inl (guX 4))), (((ruX 2) 2), .inl ((cuX 1), 10, .inl (guX 5))), (((ruX 2) 3), .inl ((cuX 1), 10, .inl (guX 6))), (((ruX 2) 4), .inl ((cuX 1), 10, .inl (guX 7))), (((ruX 2) 5), .inl ((cuX 1), 10, .inl (guX 8))), (((ruX 2) 6), .inl ((cuX 1), 10, .inl (guX 9))), (((ruX 2) 7), .inl ((cuX 1), 10, .inl (guX 10))), (((ruX 2) 8), .inl ((cuX 1), 10, .inl (guX 11))), (((ruX 2) 9), .inl ((cuX 1), 10, .inl (guX 12))), ((auX 13), .inr (0, [.int 0, .ref t0, .int 0])), ((auX 14), .inr (0, [.int 0, .ref t0, .int 0])), ((auX 15), .inr (0, [.int 0, .ref t0, .int 0])), ((auX 16), .inl ((cuX 8), 12, .inl (fun _ => 0))), ((auX 3), .inr (5, [.ref (auX 24), .ref (auX 25), .ref (auX 26), .int 0])), ((auX 24), .inl ((cuX 9), 60, .inl (fun _ => 0))), ((auX 25), .inl ((cuX 10), 60, .inl (fun _ => 0))), ((auX 26), .inl ((cuX 11), 60, .inl (fun _ => 0))), ((auX 4), .inr (0, [.int 0, .ref t0, .int 0])), ((auX 5), .inr (11, [.int (-1), .int 0, .int 0, .ref (auX 27), .ref (auX 28), .ref (auX 29), .ref (auX 30), .ref (auX 31)])), ((auX 27), .inl ((cuX 12), 16, .inl (fun _ => 0))), ((auX 28), .inl ((cuX 13), 16, .inl (fun _ => 0))), ((auX 29), .inl ((cuX 14), 16, .inl (fun _ => 0))), ((auX 30), .inl ((cuX 15), 16, .inl (fun _ => 0))), ((auX 31), .inl ((cuX 16), 100, .inl (fun _ => 0))), ((auX 6), .inr (8, [.ref (auX 32), .ref (auX 33), .int 0, .int 0, .int 0, .int 0, .int 0])), ((auX 32), .inl ((cuX 17), 301, .inl (fun _ => 0))), ((auX 33), .inl ((cuX 18), 301, .inl (fun _ => 0))), ((auX 7), .inr (11, [.int (-1), .int 0, .int 0, .ref (auX 34), .ref (auX 35), .ref (auX 36), .ref (auX 37), .ref (auX 38)])), ((auX 34), .inl ((cuX 19), 16, .inl (fun _ => 0))), ((auX 35), .inl ((cuX 20), 16, .inl (fun _ => 0))), ((auX 36), .inl ((cuX 21), 16, .inl (fun _ => 0))), ((auX 37), .inl ((cuX 22), 16, .inl (fun _ => 0))), ((auX 38), .inl ((cuX 23), 100, .inl (fun _ => 0))), ((auX 8), .inr (3, [.ref (auX 39), .ref (auX 40), .int 0, .long 0])), ((auX 39), .inl ((cuX 24), 24, .inl (fun _ => 0))), ((auX 40), .inl ((cuX 25), 24, .inl (fun _ => 0))), ((auX 9), .inr (9, [.ref (auX 41), .ref (auX 42), .ref (auX 43), .ref (auX 44), .int 0, .int 0])), ((auX 41), .inl ((cuX 26), 9, .inl (fun _ => 0))), ((auX 42), .inl ((cuX 27), 9, .inl (fun _ => 0))), ((auX 43), .inl ((cuX 28), 9, .inl (fun _ => 0))), ((auX 44), .inl ((cuX 29), 0, .inl (fun _ => 0))), ((auX 10), .inr (7, [.int 0, .ref (auX 45), .ref (auX 46), .ref (auX 47), .ref (auX 48), .ref (auX 49), .ref (auX 50), .ref (auX 51), .ref (auX 52), .int (-1)])), ((auX 45), .inl ((cuX 30), 64, .inl (fun _ => 0))), ((auX 46), .inl ((cuX 31), 64, .inl (fun _ => 0))), ((auX 47), .inl ((cuX 32), 8, .inl (fun _ => 0))), ((auX 48), .inl ((cuX 33), 8, .inl (fun _ => 0))), ((auX 49), .inl ((cuX 34), 8, .inl (fun _ => 0))), ((auX 50), .inl ((cuX 35), 256, .inl (fun _ => 0))), ((auX 51), .inl ((cuX 36), 64, .inl (fun _ => 0))), ((auX 52), .inl ((cuX 37), 64, .inr (.inl (fun _ => 0)))), ((auX 11), .inr (7, [.int 0, .ref (auX 53), .ref (auX 54), .ref (auX 55), .ref (auX 56), .ref (auX 57), .ref (auX 58), .ref (auX 59), .ref (auX 60), .int (-1)])), ((auX 53), .inl ((cuX 38), 64, .inl (fun _ => 0))), ((auX 54), .inl ((cuX 39), 64, .inl (fun _ => 0))), ((auX 55), .inl ((cuX 40), 8, .inl (fun _ => 0))), ((auX 56), .inl ((cuX 41), 8, .inl (fun _ => 0))), ((auX 57), .inl ((cuX 42), 8, .inl (fun _ => 0))), ((auX 58), .inl ((cuX 43), 256, .inl (fun _ => 0))), ((auX 59), .inl ((cuX 44), 64, .inl (fun _ => 0))), ((auX 60), .inl ((cuX 45), 64, .inr (.inl (fun _ => 0)))), (qM, .inr (13, [.int 0, .ref (auM 0), .int 0, .int 0, .ref (auM 1), .ref (auM 2), .ref (auM 3), .ref (auM 4), .ref (auM 5), .ref (auM 6), .ref (auM 7), .ref (auM 8), .ref (auM 9), .ref (auM 10), .ref (auM 11), .ref (auM 12), .int 0, .int 0, .int 0, .int 0, .int 0, .int 0, .int 0, .int 0, .int 0, .int 0, .int 0, .int 0, .long 0, .ref (auM 13), .ref (auM 14), .ref (auM 15), .ref (auM 16), .ref (auM 17), .ref (auM 18), .ref (auM 19), .ref (auM 20), .ref (auM 21), .ref (auM 22), .int 0, .int 0, .int 0, .int 0, .int 0, .int 0, .ref (auM 23), .ref (auM 24), .int (-1), .ref (auM 25), .ref (auM 26), .ref (auM 27), .ref (auM 28), .ref (auM 29), .ref (auM 30), .ref (auM 31), .ref (auM 32), .ref (auM 33), .ref (auM 34), .int 0, .int (-1), .ref (auM 35), .ref (auM 36), .ref (auM 37), .ref (auM 38), .ref (auM 39), .ref (auM 40), .ref (auM 41), .ref (auM 42), .ref (auM 43), .int 0, .long 0, .int (-1), .ref (auM 44), .ref (auM 45), .ref (auM 46), .ref (auM 47), .ref (auM 48), .ref (auM 49), .int 0, .int 0, .ref (auM 50), .ref (auM 51), .ref (auM 52), .ref (auM 53), .ref (auM 54), .ref (auM 55), .ref (auM 56), .int 0, .int 0, .int (-1), .int (-1)])), ((auM 0), .inl ((cuM 0), 420, .inl (fun _ => 0))), ((auM 1), .inl ((cuM 1), 40, .inl (fun _ => 0))), ((auM 2), .inl ((cuM 2), 40, .inl (fun _ => 0))), ((auM 3), .inl ((cuM 3), 40, .inl (fun _ => 0))), ((auM 4), .inl ((cuM 4), 40, .inl (fun _ => 0))), ((auM 5), .inl ((cuM 5), 40, .inl (fun _ => 0))), ((auM 6), .inl ((cuM 6), 10, .inl (guM 0))), ((auM 7), .inl ((cuM 7), 400, .inl (fun _ => 0))), ((auM 8), .inl ((cuM 8), 1600, .inl (fun _ => 0))), ((auM 9), .inl ((cuM 9), 40, .inl (fun _ => 0))), ((auM 10), .inl ((cuM 10), 4, .inl (guM 1))), ((auM 11), .inl ((cuM 11), 6, .inl (guM 2))), ((auM 12), .inl ((cuM 12), 100, .inl (fun _ => 0))), ((auM 13), .inl ((cuM 13), 11, .inl (fun _ => 0))), ((auM 14), .inl ((cuM 14), 11, .inl (fun _ => 0))), ((auM 15), .inl ((cuM 15), 176, .inl (fun _ => 0))), ((auM 16), .inl ((cuM 16), 176, .inl (fun _ => 0))), ((auM 17), .inl ((cuM 17), 176, .inl (fun _ => 0))), ((auM 18), .inl ((cuM 18), 176, .inl (fun _ => 0))), ((auM 19), .inl ((cuM 19), 1320, .inl (fun _ => 0))), ((auM 20), .inl ((cuM 20), 1320, .inl (fun _ => 0))), ((auM 21), .inl ((cuM 21), 1320, .inl (fun _ => 0))), ((auM 22), .inl ((cuM 22), 64, .inl (fun _ => 0))), ((auM 23), .inl ((cuM 23), 12, .inl (fun _ => 0))), ((auM 24), .inl ((cuM 24), 64, .inl (fun _ => 0))), ((auM 25), .inl ((cuM 25), 200, .inl (fun _ => 0))), ((auM 26), .inl ((cuM 26), 200, .inl (fun _ => 0))), ((auM 27), .inl ((cuM 27), 200, .inl (fun _ => 0))), ((auM 28), .inl ((cuM 28), 200, .inl (fun _ => 0))), ((auM 29), .inl ((cuM 29), 200, .inl (fun _ => 0))), ((auM 30), .inl ((cuM 30), 200, .inl (fun _ => 0))), ((auM 31), .inl ((cuM 31), 200, .inl (fun _ => 0))), ((auM 32), .inl ((cuM 32), 200, .inl (fun _ => 0))), ((auM 33), .inl ((cuM 33), 200, .inl (fun _ => 0))), ((auM 34), .inl ((cuM 34), 200, .inl (fun _ => 0))), ((auM 35), .inl ((cuM 35), 200, .inl (fun _ => 0))), ((auM 36), .inl ((cuM 36), 200, .inl (fun _ => 0))), ((auM 37), .inl ((cuM 37), 200, .inl (fun _ => 0))), ((auM 38), .inl ((cuM 38), 200, .inl (fun _ => 0))), ((auM 39), .inl ((cuM 39), 60, .inl (fun _ => 0))), ((auM 40), .inl ((cuM 40), 60, .inl (fun _ => 0))), ((auM 41), .inl ((cuM 41), 60, .inl (fun _ => 0))), ((auM 42), .inl ((cuM 42), 60, .inl (fun _ => 0))), ((auM 43), .inl ((cuM 43), 60, .inl (fun _ => 0))), ((auM 44), .inl ((cuM 44), 64, .inl (fun _ => 0))), ((auM 45), .inl ((cuM 45), 64, .inl (fun _ => 0))), ((auM 46), .inl ((cuM 46), 8, .inl (fun _ => 0))), ((auM 47), .inl ((cuM 47), 8, .inl (fun _ => 0))), ((auM 48), .inl ((cuM 48), 8, .inl (fun _ => 0))), ((auM 49), .inl ((cuM 49), 64, .inl (fun _ => 0))), ((auM 50), .inl ((cuM 50), 64, .inl (fun _ => 0))), ((auM 51), .inl ((cuM 51), 64, .inl (fun _ => 0))), ((auM 52), .inl ((cuM 52), 10, .inl (fun _ => 0))), ((auM 53), .inl ((cuM 53), 10, .inl (fun _ => 0))), ((auM 54), .inl ((cuM 54), 9, .inl (fun _ => 0))), ((auM 55), .inl ((cuM 55), 10, .inl (fun _ => 0))), ((auM 56), .inl ((cuM 56), 10, .inl (fun _ => 0))), (qO, .inl (kO, 1, .inr (.inl (fun _ => 0))))]
def lawT (qX : Nat) (qM : Nat) (qO : Nat) (kO : ClassId) (t0 : Nat) (auX : Nat → Nat) (cuX : Nat → ClassId) (guX : Nat → Nat → Int32) (zuX : Nat → Int32) (ruX : Nat → Nat → Nat) (auM : Nat → Nat) (cuM : Nat → ClassId) (guM : Nat → Nat → Int32) (zuM : Nat → Int32) (ruM : Nat → Nat → Nat) : List (ClassId × FieldType) := [((cuX 0), .int), ((cuX 1), .int), ((cuX 2), .array .int), ((cuX 3), .int), ((cuX 4), .int), ((cuX 5), .array .int), ((cuX 6), .int), ((cuX 7), .array .int), ((cuX 8), .int), ((cuX 9), .int), ((cuX 10), .int), ((cuX 11), .int), ((cuX 12), .int), ((cuX 13), .int), ((cuX 14), .int), ((cuX 15), .int), ((cuX 16), .int), ((cuX 17), .int), ((cuX 18), .int), ((cuX 19), .int), ((cuX 20), .int), ((cuX 21), .int), ((cuX 22), .int), ((cuX 23), .int), ((cuX 24), .int), ((cuX 25), .int), ((cuX 26), .int), ((cuX 27), .int), ((cuX 28), .int), ((cuX 29), .int), ((cuX 30), .int), ((cuX 31), .int), ((cuX 32), .int), ((cuX 33), .int), ((cuX 34), .int), ((cuX 35), .int), ((cuX 36), .boolean), ((cuX 37), .long), ((cuX 38), .int), ((cuX 39), .int), ((cuX 40), .int), ((cuX 41), .int), ((cuX 42), .int), ((cuX 43), .int), ((cuX 44), .boolean), ((cuX 45), .long), ((cuM 0), .int), ((cuM 1), .int), ((cuM 2), .int), ((cuM 3), .int), ((cuM 4), .int), ((cuM 5), .boolean), ((cuM 6), .int), ((cuM 7), .int), ((cuM 8), .int), ((cuM 9), .int), ((cuM 10), .int), ((cuM 11), .int), ((cuM 12), .int), ((cuM 13), .int), ((cuM 14), .int), ((cuM 15), .int), ((cuM 16), .int), ((cuM 17), .int), ((cuM 18), .int), ((cuM 19), .int), ((cuM 20), .int), ((cuM 21), .int), ((cuM 22), .int), ((cuM 23), .int), ((cuM 24), .boolean), ((cuM 25), .int), ((cuM 26), .int), ((cuM 27), .int), ((cuM 28), .int), ((cuM 29), .int), ((cuM 30), .int), ((cuM 31), .int), ((cuM 32), .int), ((cuM 33), .int), ((cuM 34), .int), ((cuM 35), .int), ((cuM 36), .int), ((cuM 37), .boolean), ((cuM 38), .boolean), ((cuM 39), .int), ((cuM 40), .int), ((cuM 41), .int), ((cuM 42), .int), ((cuM 43), .int), ((cuM 44), .int), ((cuM 45), .int), ((cuM 46), .int), ((cuM 47), .int), ((cuM 48), .int), ((cuM 49), .boolean), ((cuM 50), .int), ((cuM 51), .int), ((cuM 52), .int), ((cuM 53), .int), ((cuM 54), .int), ((cuM 55), .int), ((cuM 56), .int), (kO, .long)]
set_option maxRecDepth 20000 in
theorem law_nst {args : Array Value} {s : State} (hts : ∀ w ∈ lw_tbl, w.before args s = true) : nst s := ⟨List.forall_mem_cons.mpr ⟨va_Nw.of rfl (hts _ (tb_1 _ (List.mem_of_getElem? (i := 41) rfl))), List.forall_mem_cons.mpr ⟨va_Nw.of rfl (hts _ (tb_1 _ (List.mem_of_getElem? (i := 63) rfl))), List.forall_mem_cons.mpr ⟨va_Nw.of rfl (hts _ (tb_1 _ (List.mem_of_getElem? (i := 168) rfl))), List.forall_mem_cons.mpr ⟨va_Nw.of rfl (hts _ (tb_1 _ (List.mem_of_getElem? (i := 190) rfl))), List.forall_mem_cons.mpr ⟨va_Nw.of rfl (hts _ (tb_1 _ (List.mem_of_getElem? (i := 225) rfl))), List.forall_mem_cons.mpr ⟨va_Nw.of rfl (hts _ (tb_2 _ (List.mem_of_getElem? (i := 15) rfl))), List.forall_mem_cons.mpr ⟨va_Nw.of rfl (hts _ (tb_2 _ (List.mem_of_getElem? (i := 35) rfl))), List.forall_mem_cons.mpr ⟨va_Nw.of rfl (hts _ (tb_2 _ (List.mem_of_getElem? (i := 62) rfl))), fun _ h => absurd h List.not_mem_nil⟩⟩⟩⟩⟩⟩⟩⟩, hts (Cond.arrayOver (.array .int)) (tb_1 _ (List.mem_of_getElem? (i := 74) rfl)), hts (Cond.arrayOver (.object "java/lang/Object")) (tb_3 _ (List.mem_of_getElem? (i := 30) rfl)), va_Nw.of rfl (hts (Cond.castable RX0 "java/lang/Object") (tb_8 _ (List.mem_of_getElem? (i := 199) rfl))), va_Nw.of rfl (hts (Cond.castable RX10 "java/lang/Object") (tb_8 _ (List.mem_of_getElem? (i := 193) rfl)))⟩
set_option maxRecDepth 20000 in
theorem law_als {args : Array Value} {s : State} (hts : ∀ w ∈ lw_tbl, w.before args s = true) (hgv : (Jvm.Cond.and given_1 narrow_1).before args s = true) : ∃ t : Nat, als t (fun q : Nat => s.heap.size ≤ q) s s.heap := by
  have hs := flat_of_before _ hgv
  have h1 : (Cond.arrayOf (.static "java/util/ArrayList" "DEFAULTCAPACITY_EMPTY_ELEMENTDATA" "[Ljava/lang/Object;") (.object "java/lang/Object")).before args s = true := hs _ (by decide +kernel)
  have h2 : (Cond.eq (.length (.static "java/util/ArrayList" "DEFAULTCAPACITY_EMPTY_ELEMENTDATA" "[Ljava/lang/Object;")) (.int 0)).before args s = true := hs _ (by decide +kernel)
  have hA : ∀ a : Nat, a < s.heap.size → ¬ (fun q : Nat => s.heap.size ≤ q) a := fun a h q => absurd q (Nat.not_le.mpr h)
  obtain ⟨t, ht, hT⟩ := va_Tof (N := 0) (f := fun _ => .null) (by decide) h1 (va_eqt h2) (fun j hj => absurd hj (Nat.not_lt_zero j)) hA
  exact ⟨t, va_Zref (hts _ (tb_1 _ (List.mem_of_getElem? (i := 120) rfl))) (hts (Cond.initialized "java/util/ArrayList") (tb_1 _ (List.mem_of_getElem? (i := 7) rfl))) ht hA, hT⟩
set_option maxHeartbeats 4000000 in
set_option maxRecDepth 100000 in
theorem law_tail {p : Program} {l : Launch} {e : Env} {s : State} {m : MethodId} {below : List Frame} {meth : Method} {c : Code} {b : Nat} {xs : Nat → Int32} (C0 : lw_At p s m meth c b 6 xs) {H : Heap} {locs : List Loc} {cells slots : Nat} (hc : cells ≤ 600002) (hs : slots ≤ 7302232) (hS : va_S (fun q : Nat => s.heap.size ≤ q) s.heap H locs) {ls : Array Slot} (hl : lv_has ls 7 [(0, .ref b), (4, .int 0)]) : W p l e room_1 s m #[Value.ref b] below meth c H locs cells slots (lw_Z below #[Value.ref b] s) (F0 m 1522 ls []) := by
  obtain ⟨hx, hb, hr, hml, hown, hts, hX, hbl, hlocks, hgv⟩ := id C0
  have hbA : ¬ (fun q : Nat => s.heap.size ≤ q) b := Nat.not_le.mpr hbl
  refine lv_iinc (v := 6) (lv' := [(4, .int 6), (0, .ref b)]) hx hb dL_law_1522 hl (k := 1) rfl (by decide) (by decide) rfl (fun ls hl => ?_)
  refine lv_goto (tgt := 23) hx hb dL_law_1525 (by decide) ?_
  refine lv_iload hx hb dL_law_23 (lv_at hl 0 rfl) ?_
  refine lv_aload_n hx hb dL_law_25 rfl (lv_at hl 1 rfl) ?_
  refine va_slen hx hb hX hbl hbA hS dL_law_26 ?_
  refine lv_bipush (v := 6) hx hb dL_law_27 (by decide) ?_
  refine lv_isub hx hb dL_law_29 ?_
  refine lv_topi (fun x_1 ex_1 => ?_)
  obtain rfl : x_1 = 0 := ex_1.trans (by decide)
  refine lv_icmp_gt (tgt := 1528) hx hb dL_law_30 (by decide) (fun _ => ?_) (fun c9 => absurd (by decide) c9)
  refine lv_iconst (v := 1) hx hb dL_law_1528 (by decide) ?_
  refine va_forget (fun q hq => hS.2.2 q hq) ?_
  refine W.widen (k := 600002) (n := 7302232) hc hs ?_
  exact lw_ret hx hb hr hlocks dL_law_1529
theorem eq_X11_feed_v1_X12_feed_v1 (p0 : Int32) (p1 : Int32) (p2 : Int32) (p3 : Int32) (p4 : Int32) (r1 r2 : Int32) (h1 : r1 = 20) (h2 : r2 = 20) : r1 = r2 := by
  obtain rfl := h1
  obtain rfl := h2
  exact rfl

theorem eq_X11_end_v1_X12_end_v1 (p0 : Int32) (r1 r2 : Int32) (h1 : (p0 < 0 ∧ r1 = 0) ∨ (¬ p0 < 0 ∧ p0 ≤ 0 ∧ r1 = 1) ∨ (¬ p0 < 0 ∧ ¬ p0 ≤ 0 ∧ r1 = 0)) (h2 : (p0 < 0 ∧ r2 = 0) ∨ (¬ p0 < 0 ∧ p0 ≤ 0 ∧ r2 = 1) ∨ (¬ p0 < 0 ∧ ¬ p0 ≤ 0 ∧ r2 = 0)) : r1 = r2 := by
  rcases h1 with ⟨a0, rfl⟩ | ⟨a0, a1, rfl⟩ | ⟨a0, a1, rfl⟩
  · rcases h2 with ⟨b0, rfl⟩ | ⟨b0, b1, rfl⟩ | ⟨b0, b1, rfl⟩
    · exact rfl
    · exact absurd a0 b0
    · exact rfl
  · rcases h2 with ⟨b0, rfl⟩ | ⟨b0, b1, rfl⟩ | ⟨b0, b1, rfl⟩
    · exact absurd b0 a0
    · exact rfl
    · exact absurd a1 b1
  · rcases h2 with ⟨b0, rfl⟩ | ⟨b0, b1, rfl⟩ | ⟨b0, b1, rfl⟩
    · exact rfl
    · exact absurd b1 a1
    · exact rfl

theorem eq_X11_boy_v1_X12_boy_v1 (p0 : Int32) (p1 : Int32) (p2 : Int32) (r1 r2 : Int32) (h1 : (p0 < 6 ∧ r1 = (-1)) ∨ (¬ p0 < 6 ∧ 18 < p0 ∧ r1 = (-1)) ∨ (¬ p0 < 6 ∧ ¬ 18 < p0 ∧ p1 = (-1) ∧ p2 < 0 ∧ r1 = (-1)) ∨ (¬ p0 < 6 ∧ ¬ 18 < p0 ∧ p1 = (-1) ∧ ¬ p2 < 0 ∧ 99 < p2 ∧ r1 = (-1)) ∨ (¬ p0 < 6 ∧ ¬ 18 < p0 ∧ p1 = (-1) ∧ ¬ p2 < 0 ∧ ¬ 99 < p2 ∧ r1 = 0) ∨ (¬ p0 < 6 ∧ ¬ 18 < p0 ∧ ¬ p1 = (-1) ∧ p1 < 0 ∧ r1 = (-1)) ∨ (¬ p0 < 6 ∧ ¬ 18 < p0 ∧ ¬ p1 = (-1) ∧ ¬ p1 < 0 ∧ 399 < p1 ∧ r1 = (-1)) ∨ (¬ p0 < 6 ∧ ¬ 18 < p0 ∧ ¬ p1 = (-1) ∧ ¬ p1 < 0 ∧ ¬ 399 < p1 ∧ p2 < 0 ∧ r1 = (-1)) ∨ (¬ p0 < 6 ∧ ¬ 18 < p0 ∧ ¬ p1 = (-1) ∧ ¬ p1 < 0 ∧ ¬ 399 < p1 ∧ ¬ p2 < 0 ∧ 99 < p2 ∧ r1 = (-1)) ∨ (¬ p0 < 6 ∧ ¬ 18 < p0 ∧ ¬ p1 = (-1) ∧ ¬ p1 < 0 ∧ ¬ 399 < p1 ∧ ¬ p2 < 0 ∧ ¬ 99 < p2 ∧ r1 = 0)) (h2 : (p0 < 6 ∧ r2 = (-1)) ∨ (¬ p0 < 6 ∧ 18 < p0 ∧ r2 = (-1)) ∨ (¬ p0 < 6 ∧ ¬ 18 < p0 ∧ p1 < (-1) ∧ r2 = (-1)) ∨ (¬ p0 < 6 ∧ ¬ 18 < p0 ∧ ¬ p1 < (-1) ∧ 399 < p1 ∧ r2 = (-1)) ∨ (¬ p0 < 6 ∧ ¬ 18 < p0 ∧ ¬ p1 < (-1) ∧ ¬ 399 < p1 ∧ p2 < 0 ∧ r2 = (-1)) ∨ (¬ p0 < 6 ∧ ¬ 18 < p0 ∧ ¬ p1 < (-1) ∧ ¬ 399 < p1 ∧ ¬ p2 < 0 ∧ 99 < p2 ∧ r2 = (-1)) ∨ (¬ p0 < 6 ∧ ¬ 18 < p0 ∧ ¬ p1 < (-1) ∧ ¬ 399 < p1 ∧ ¬ p2 < 0 ∧ ¬ 99 < p2 ∧ r2 = 0)) : r1 = r2 := by
  rcases h1 with ⟨a0, rfl⟩ | ⟨a0, a1, rfl⟩ | ⟨a0, a1, a2, a3, rfl⟩ | ⟨a0, a1, a2, a3, a4, rfl⟩ | ⟨a0, a1, a2, a3, a4, rfl⟩ | ⟨a0, a1, a2, a3, rfl⟩ | ⟨a0, a1, a2, a3, a4, rfl⟩ | ⟨a0, a1, a2, a3, a4, a5, rfl⟩ | ⟨a0, a1, a2, a3, a4, a5, a6, rfl⟩ | ⟨a0, a1, a2, a3, a4, a5, a6, rfl⟩
  · rcases h2 with ⟨b0, rfl⟩ | ⟨b0, b1, rfl⟩ | ⟨b0, b1, b2, rfl⟩ | ⟨b0, b1, b2, b3, rfl⟩ | ⟨b0, b1, b2, b3, b4, rfl⟩ | ⟨b0, b1, b2, b3, b4, b5, rfl⟩ | ⟨b0, b1, b2, b3, b4, b5, rfl⟩
    · exact rfl
    · exact rfl
    · exact rfl
    · exact rfl
    · exact rfl
    · exact rfl
    · exact absurd a0 b0
  · rcases h2 with ⟨b0, rfl⟩ | ⟨b0, b1, rfl⟩ | ⟨b0, b1, b2, rfl⟩ | ⟨b0, b1, b2, b3, rfl⟩ | ⟨b0, b1, b2, b3, b4, rfl⟩ | ⟨b0, b1, b2, b3, b4, b5, rfl⟩ | ⟨b0, b1, b2, b3, b4, b5, rfl⟩
    · exact rfl
    · exact rfl
    · exact rfl
    · exact rfl
    · exact rfl
    · exact rfl
    · exact absurd a1 b1
  · rcases h2 with ⟨b0, rfl⟩ | ⟨b0, b1, rfl⟩ | ⟨b0, b1, b2, rfl⟩ | ⟨b0, b1, b2, b3, rfl⟩ | ⟨b0, b1, b2, b3, b4, rfl⟩ | ⟨b0, b1, b2, b3, b4, b5, rfl⟩ | ⟨b0, b1, b2, b3, b4, b5, rfl⟩
    · exact rfl
    · exact rfl
    · exact rfl
    · exact rfl
    · exact rfl
    · exact rfl
    · exact absurd a3 b4
  · rcases h2 with ⟨b0, rfl⟩ | ⟨b0, b1, rfl⟩ | ⟨b0, b1, b2, rfl⟩ | ⟨b0, b1, b2, b3, rfl⟩ | ⟨b0, b1, b2, b3, b4, rfl⟩ | ⟨b0, b1, b2, b3, b4, b5, rfl⟩ | ⟨b0, b1, b2, b3, b4, b5, rfl⟩
    · exact rfl
    · exact rfl
    · exact rfl
    · exact rfl
    · exact rfl
    · exact rfl
    · exact absurd a4 b5
  · rcases h2 with ⟨b0, rfl⟩ | ⟨b0, b1, rfl⟩ | ⟨b0, b1, b2, rfl⟩ | ⟨b0, b1, b2, b3, rfl⟩ | ⟨b0, b1, b2, b3, b4, rfl⟩ | ⟨b0, b1, b2, b3, b4, b5, rfl⟩ | ⟨b0, b1, b2, b3, b4, b5, rfl⟩
    · exact absurd b0 a0
    · exact absurd b1 a1
    · exact (by have y0 := fa_eq a2 (show ((-1) : Int32).toInt = (-1) from by decide); have y1 := fa_lt b2 (show ((-1) : Int32).toInt = (-1) from by decide); omega : False).elim
    · exact (by have y0 := fa_eq a2 (show ((-1) : Int32).toInt = (-1) from by decide); have y1 := fa_nlt b2 (show ((-1) : Int32).toInt = (-1) from by decide); have y2 := fb_lt b3 (show (399 : Int32).toInt = 399 from by decide); omega : False).elim
    · exact absurd b4 a3
    · exact absurd b5 a4
    · exact rfl
  · rcases h2 with ⟨b0, rfl⟩ | ⟨b0, b1, rfl⟩ | ⟨b0, b1, b2, rfl⟩ | ⟨b0, b1, b2, b3, rfl⟩ | ⟨b0, b1, b2, b3, b4, rfl⟩ | ⟨b0, b1, b2, b3, b4, b5, rfl⟩ | ⟨b0, b1, b2, b3, b4, b5, rfl⟩
    · exact rfl
    · exact rfl
    · exact rfl
    · exact rfl
    · exact rfl
    · exact rfl
    · exact (by have y0 := fa_ne a2 (show ((-1) : Int32).toInt = (-1) from by decide); have y1 := fa_lt a3 (show (0 : Int32).toInt = 0 from by decide); have y2 := fa_nlt b2 (show ((-1) : Int32).toInt = (-1) from by decide); have y3 := fb_nlt b3 (show (399 : Int32).toInt = 399 from by decide); omega : False).elim
  · rcases h2 with ⟨b0, rfl⟩ | ⟨b0, b1, rfl⟩ | ⟨b0, b1, b2, rfl⟩ | ⟨b0, b1, b2, b3, rfl⟩ | ⟨b0, b1, b2, b3, b4, rfl⟩ | ⟨b0, b1, b2, b3, b4, b5, rfl⟩ | ⟨b0, b1, b2, b3, b4, b5, rfl⟩
    · exact rfl
    · exact rfl
    · exact rfl
    · exact rfl
    · exact rfl
    · exact rfl
    · exact absurd a4 b3
  · rcases h2 with ⟨b0, rfl⟩ | ⟨b0, b1, rfl⟩ | ⟨b0, b1, b2, rfl⟩ | ⟨b0, b1, b2, b3, rfl⟩ | ⟨b0, b1, b2, b3, b4, rfl⟩ | ⟨b0, b1, b2, b3, b4, b5, rfl⟩ | ⟨b0, b1, b2, b3, b4, b5, rfl⟩
    · exact rfl
    · exact rfl
    · exact rfl
    · exact rfl
    · exact rfl
    · exact rfl
    · exact absurd a5 b4
  · rcases h2 with ⟨b0, rfl⟩ | ⟨b0, b1, rfl⟩ | ⟨b0, b1, b2, rfl⟩ | ⟨b0, b1, b2, b3, rfl⟩ | ⟨b0, b1, b2, b3, b4, rfl⟩ | ⟨b0, b1, b2, b3, b4, b5, rfl⟩ | ⟨b0, b1, b2, b3, b4, b5, rfl⟩
    · exact rfl
    · exact rfl
    · exact rfl
    · exact rfl
    · exact rfl
    · exact rfl
    · exact absurd a6 b5
  · rcases h2 with ⟨b0, rfl⟩ | ⟨b0, b1, rfl⟩ | ⟨b0, b1, b2, rfl⟩ | ⟨b0, b1, b2, b3, rfl⟩ | ⟨b0, b1, b2, b3, b4, rfl⟩ | ⟨b0, b1, b2, b3, b4, b5, rfl⟩ | ⟨b0, b1, b2, b3, b4, b5, rfl⟩
    · exact absurd b0 a0
    · exact absurd b1 a1
    · exact (by have y0 := fa_ne a2 (show ((-1) : Int32).toInt = (-1) from by decide); have y1 := fa_nlt a3 (show (0 : Int32).toInt = 0 from by decide); have y2 := fb_nlt a4 (show (399 : Int32).toInt = 399 from by decide); have y3 := fa_lt b2 (show ((-1) : Int32).toInt = (-1) from by decide); omega : False).elim
    · exact absurd b3 a4
    · exact absurd b4 a5
    · exact absurd b5 a6
    · exact rfl

theorem eq_X11_boy_v2_X12_boy_v2 (p0 : Int32) (p1 : Int32) (p2 : Int32) (r1 r2 : Int32) (h1 : (p0 < 6 ∧ r1 = (-1)) ∨ (¬ p0 < 6 ∧ 18 < p0 ∧ r1 = (-1)) ∨ (¬ p0 < 6 ∧ ¬ 18 < p0 ∧ p1 = (-1) ∧ p2 < 0 ∧ r1 = (-1)) ∨ (¬ p0 < 6 ∧ ¬ 18 < p0 ∧ p1 = (-1) ∧ ¬ p2 < 0 ∧ 99 < p2 ∧ r1 = (-1)) ∨ (¬ p0 < 6 ∧ ¬ 18 < p0 ∧ p1 = (-1) ∧ ¬ p2 < 0 ∧ ¬ 99 < p2 ∧ r1 = 0) ∨ (¬ p0 < 6 ∧ ¬ 18 < p0 ∧ ¬ p1 = (-1) ∧ p1 < 0 ∧ r1 = (-1)) ∨ (¬ p0 < 6 ∧ ¬ 18 < p0 ∧ ¬ p1 = (-1) ∧ ¬ p1 < 0 ∧ 399 < p1 ∧ r1 = (-1)) ∨ (¬ p0 < 6 ∧ ¬ 18 < p0 ∧ ¬ p1 = (-1) ∧ ¬ p1 < 0 ∧ ¬ 399 < p1 ∧ p2 < 0 ∧ r1 = (-1)) ∨ (¬ p0 < 6 ∧ ¬ 18 < p0 ∧ ¬ p1 = (-1) ∧ ¬ p1 < 0 ∧ ¬ 399 < p1 ∧ ¬ p2 < 0 ∧ 99 < p2 ∧ r1 = (-1)) ∨ (¬ p0 < 6 ∧ ¬ 18 < p0 ∧ ¬ p1 = (-1) ∧ ¬ p1 < 0 ∧ ¬ 399 < p1 ∧ ¬ p2 < 0 ∧ ¬ 99 < p2 ∧ r1 = 0)) (h2 : (p0 < 6 ∧ r2 = (-1)) ∨ (¬ p0 < 6 ∧ 18 < p0 ∧ r2 = (-1)) ∨ (¬ p0 < 6 ∧ ¬ 18 < p0 ∧ p1 < (-1) ∧ r2 = (-1)) ∨ (¬ p0 < 6 ∧ ¬ 18 < p0 ∧ ¬ p1 < (-1) ∧ 399 < p1 ∧ r2 = (-1)) ∨ (¬ p0 < 6 ∧ ¬ 18 < p0 ∧ ¬ p1 < (-1) ∧ ¬ 399 < p1 ∧ p2 < 0 ∧ r2 = (-1)) ∨ (¬ p0 < 6 ∧ ¬ 18 < p0 ∧ ¬ p1 < (-1) ∧ ¬ 399 < p1 ∧ ¬ p2 < 0 ∧ 99 < p2 ∧ r2 = (-1)) ∨ (¬ p0 < 6 ∧ ¬ 18 < p0 ∧ ¬ p1 < (-1) ∧ ¬ 399 < p1 ∧ ¬ p2 < 0 ∧ ¬ 99 < p2 ∧ r2 = 0)) : r1 = r2 := by
  rcases h1 with ⟨a0, rfl⟩ | ⟨a0, a1, rfl⟩ | ⟨a0, a1, a2, a3, rfl⟩ | ⟨a0, a1, a2, a3, a4, rfl⟩ | ⟨a0, a1, a2, a3, a4, rfl⟩ | ⟨a0, a1, a2, a3, rfl⟩ | ⟨a0, a1, a2, a3, a4, rfl⟩ | ⟨a0, a1, a2, a3, a4, a5, rfl⟩ | ⟨a0, a1, a2, a3, a4, a5, a6, rfl⟩ | ⟨a0, a1, a2, a3, a4, a5, a6, rfl⟩
  · rcases h2 with ⟨b0, rfl⟩ | ⟨b0, b1, rfl⟩ | ⟨b0, b1, b2, rfl⟩ | ⟨b0, b1, b2, b3, rfl⟩ | ⟨b0, b1, b2, b3, b4, rfl⟩ | ⟨b0, b1, b2, b3, b4, b5, rfl⟩ | ⟨b0, b1, b2, b3, b4, b5, rfl⟩
    · exact rfl
    · exact rfl
    · exact rfl
    · exact rfl
    · exact rfl
    · exact rfl
    · exact absurd a0 b0
  · rcases h2 with ⟨b0, rfl⟩ | ⟨b0, b1, rfl⟩ | ⟨b0, b1, b2, rfl⟩ | ⟨b0, b1, b2, b3, rfl⟩ | ⟨b0, b1, b2, b3, b4, rfl⟩ | ⟨b0, b1, b2, b3, b4, b5, rfl⟩ | ⟨b0, b1, b2, b3, b4, b5, rfl⟩
    · exact rfl
    · exact rfl
    · exact rfl
    · exact rfl
    · exact rfl
    · exact rfl
    · exact absurd a1 b1
  · rcases h2 with ⟨b0, rfl⟩ | ⟨b0, b1, rfl⟩ | ⟨b0, b1, b2, rfl⟩ | ⟨b0, b1, b2, b3, rfl⟩ | ⟨b0, b1, b2, b3, b4, rfl⟩ | ⟨b0, b1, b2, b3, b4, b5, rfl⟩ | ⟨b0, b1, b2, b3, b4, b5, rfl⟩
    · exact rfl
    · exact rfl
    · exact rfl
    · exact rfl
    · exact rfl
    · exact rfl
    · exact absurd a3 b4
  · rcases h2 with ⟨b0, rfl⟩ | ⟨b0, b1, rfl⟩ | ⟨b0, b1, b2, rfl⟩ | ⟨b0, b1, b2, b3, rfl⟩ | ⟨b0, b1, b2, b3, b4, rfl⟩ | ⟨b0, b1, b2, b3, b4, b5, rfl⟩ | ⟨b0, b1, b2, b3, b4, b5, rfl⟩
    · exact rfl
    · exact rfl
    · exact rfl
    · exact rfl
    · exact rfl
    · exact rfl
    · exact absurd a4 b5
  · rcases h2 with ⟨b0, rfl⟩ | ⟨b0, b1, rfl⟩ | ⟨b0, b1, b2, rfl⟩ | ⟨b0, b1, b2, b3, rfl⟩ | ⟨b0, b1, b2, b3, b4, rfl⟩ | ⟨b0, b1, b2, b3, b4, b5, rfl⟩ | ⟨b0, b1, b2, b3, b4, b5, rfl⟩
    · exact absurd b0 a0
    · exact absurd b1 a1
    · exact (by have y0 := fa_eq a2 (show ((-1) : Int32).toInt = (-1) from by decide); have y1 := fa_lt b2 (show ((-1) : Int32).toInt = (-1) from by decide); omega : False).elim
    · exact (by have y0 := fa_eq a2 (show ((-1) : Int32).toInt = (-1) from by decide); have y1 := fa_nlt b2 (show ((-1) : Int32).toInt = (-1) from by decide); have y2 := fb_lt b3 (show (399 : Int32).toInt = 399 from by decide); omega : False).elim
    · exact absurd b4 a3
    · exact absurd b5 a4
    · exact rfl
  · rcases h2 with ⟨b0, rfl⟩ | ⟨b0, b1, rfl⟩ | ⟨b0, b1, b2, rfl⟩ | ⟨b0, b1, b2, b3, rfl⟩ | ⟨b0, b1, b2, b3, b4, rfl⟩ | ⟨b0, b1, b2, b3, b4, b5, rfl⟩ | ⟨b0, b1, b2, b3, b4, b5, rfl⟩
    · exact rfl
    · exact rfl
    · exact rfl
    · exact rfl
    · exact rfl
    · exact rfl
    · exact (by have y0 := fa_ne a2 (show ((-1) : Int32).toInt = (-1) from by decide); have y1 := fa_lt a3 (show (0 : Int32).toInt = 0 from by decide); have y2 := fa_nlt b2 (show ((-1) : Int32).toInt = (-1) from by decide); have y3 := fb_nlt b3 (show (399 : Int32).toInt = 399 from by decide); omega : False).elim
  · rcases h2 with ⟨b0, rfl⟩ | ⟨b0, b1, rfl⟩ | ⟨b0, b1, b2, rfl⟩ | ⟨b0, b1, b2, b3, rfl⟩ | ⟨b0, b1, b2, b3, b4, rfl⟩ | ⟨b0, b1, b2, b3, b4, b5, rfl⟩ | ⟨b0, b1, b2, b3, b4, b5, rfl⟩
    · exact rfl
    · exact rfl
    · exact rfl
    · exact rfl
    · exact rfl
    · exact rfl
    · exact absurd a4 b3
  · rcases h2 with ⟨b0, rfl⟩ | ⟨b0, b1, rfl⟩ | ⟨b0, b1, b2, rfl⟩ | ⟨b0, b1, b2, b3, rfl⟩ | ⟨b0, b1, b2, b3, b4, rfl⟩ | ⟨b0, b1, b2, b3, b4, b5, rfl⟩ | ⟨b0, b1, b2, b3, b4, b5, rfl⟩
    · exact rfl
    · exact rfl
    · exact rfl
    · exact rfl
    · exact rfl
    · exact rfl
    · exact absurd a5 b4
  · rcases h2 with ⟨b0, rfl⟩ | ⟨b0, b1, rfl⟩ | ⟨b0, b1, b2, rfl⟩ | ⟨b0, b1, b2, b3, rfl⟩ | ⟨b0, b1, b2, b3, b4, rfl⟩ | ⟨b0, b1, b2, b3, b4, b5, rfl⟩ | ⟨b0, b1, b2, b3, b4, b5, rfl⟩
    · exact rfl
    · exact rfl
    · exact rfl
    · exact rfl
    · exact rfl
    · exact rfl
    · exact absurd a6 b5
  · rcases h2 with ⟨b0, rfl⟩ | ⟨b0, b1, rfl⟩ | ⟨b0, b1, b2, rfl⟩ | ⟨b0, b1, b2, b3, rfl⟩ | ⟨b0, b1, b2, b3, b4, rfl⟩ | ⟨b0, b1, b2, b3, b4, b5, rfl⟩ | ⟨b0, b1, b2, b3, b4, b5, rfl⟩
    · exact absurd b0 a0
    · exact absurd b1 a1
    · exact (by have y0 := fa_ne a2 (show ((-1) : Int32).toInt = (-1) from by decide); have y1 := fa_nlt a3 (show (0 : Int32).toInt = 0 from by decide); have y2 := fb_nlt a4 (show (399 : Int32).toInt = 399 from by decide); have y3 := fa_lt b2 (show ((-1) : Int32).toInt = (-1) from by decide); omega : False).elim
    · exact absurd b3 a4
    · exact absurd b4 a5
    · exact absurd b5 a6
    · exact rfl

theorem eq_X11_badge_v1_X12_badge_v1 (p0 : Int32) (p1 : Int32) (r1 r2 : Int32) (h1 : (p0 < 0 ∧ r1 = 0) ∨ (¬ p0 < 0 ∧ 0 ≤ p0 ∧ r1 = 0)) (h2 : (p0 < 0 ∧ r2 = 0) ∨ (¬ p0 < 0 ∧ 0 ≤ p0 ∧ r2 = 0)) : r1 = r2 := by
  rcases h1 with ⟨a0, rfl⟩ | ⟨a0, a1, rfl⟩
  · rcases h2 with ⟨b0, rfl⟩ | ⟨b0, b1, rfl⟩
    · exact rfl
    · exact rfl
  · rcases h2 with ⟨b0, rfl⟩ | ⟨b0, b1, rfl⟩
    · exact rfl
    · exact rfl

theorem eq_X11_owner_v1_X12_owner_v1 (p0 : Int32) (p1 : Int32) (r1 r2 : Int32) (h1 : (p0 < 0 ∧ r1 = 0) ∨ (¬ p0 < 0 ∧ 9 < p0 ∧ r1 = 0) ∨ (¬ p0 < 0 ∧ ¬ 9 < p0 ∧ p1 = (-1) ∧ r1 = 1) ∨ (¬ p0 < 0 ∧ ¬ 9 < p0 ∧ ¬ p1 = (-1) ∧ p1 < 0 ∧ r1 = 0) ∨ (¬ p0 < 0 ∧ ¬ 9 < p0 ∧ ¬ p1 = (-1) ∧ ¬ p1 < 0 ∧ 0 ≤ p1 ∧ r1 = 0)) (h2 : (p0 < 0 ∧ r2 = 0) ∨ (¬ p0 < 0 ∧ 10 ≤ p0 ∧ r2 = 0) ∨ (¬ p0 < 0 ∧ ¬ 10 ≤ p0 ∧ p1 = (-1) ∧ r2 = 1) ∨ (¬ p0 < 0 ∧ ¬ 10 ≤ p0 ∧ ¬ p1 = (-1) ∧ p1 < 0 ∧ r2 = 0) ∨ (¬ p0 < 0 ∧ ¬ 10 ≤ p0 ∧ ¬ p1 = (-1) ∧ ¬ p1 < 0 ∧ 0 ≤ p1 ∧ r2 = 0)) : r1 = r2 := by
  rcases h1 with ⟨a0, rfl⟩ | ⟨a0, a1, rfl⟩ | ⟨a0, a1, a2, rfl⟩ | ⟨a0, a1, a2, a3, rfl⟩ | ⟨a0, a1, a2, a3, a4, rfl⟩
  · rcases h2 with ⟨b0, rfl⟩ | ⟨b0, b1, rfl⟩ | ⟨b0, b1, b2, rfl⟩ | ⟨b0, b1, b2, b3, rfl⟩ | ⟨b0, b1, b2, b3, b4, rfl⟩
    · exact rfl
    · exact rfl
    · exact absurd a0 b0
    · exact rfl
    · exact rfl
  · rcases h2 with ⟨b0, rfl⟩ | ⟨b0, b1, rfl⟩ | ⟨b0, b1, b2, rfl⟩ | ⟨b0, b1, b2, b3, rfl⟩ | ⟨b0, b1, b2, b3, b4, rfl⟩
    · exact rfl
    · exact rfl
    · exact (by have y0 := fa_nlt a0 (show (0 : Int32).toInt = 0 from by decide); have y1 := fb_lt a1 (show (9 : Int32).toInt = 9 from by decide); have y2 := fa_nlt b0 (show (0 : Int32).toInt = 0 from by decide); have y3 := fb_nle b1 (show (10 : Int32).toInt = 10 from by decide); omega : False).elim
    · exact rfl
    · exact rfl
  · rcases h2 with ⟨b0, rfl⟩ | ⟨b0, b1, rfl⟩ | ⟨b0, b1, b2, rfl⟩ | ⟨b0, b1, b2, b3, rfl⟩ | ⟨b0, b1, b2, b3, b4, rfl⟩
    · exact absurd b0 a0
    · exact (by have y0 := fa_nlt a0 (show (0 : Int32).toInt = 0 from by decide); have y1 := fb_nlt a1 (show (9 : Int32).toInt = 9 from by decide); have y2 := fa_nlt b0 (show (0 : Int32).toInt = 0 from by decide); have y3 := fb_le b1 (show (10 : Int32).toInt = 10 from by decide); omega : False).elim
    · exact rfl
    · exact absurd a2 b2
    · exact absurd a2 b2
  · rcases h2 with ⟨b0, rfl⟩ | ⟨b0, b1, rfl⟩ | ⟨b0, b1, b2, rfl⟩ | ⟨b0, b1, b2, b3, rfl⟩ | ⟨b0, b1, b2, b3, b4, rfl⟩
    · exact rfl
    · exact rfl
    · exact absurd b2 a2
    · exact rfl
    · exact rfl
  · rcases h2 with ⟨b0, rfl⟩ | ⟨b0, b1, rfl⟩ | ⟨b0, b1, b2, rfl⟩ | ⟨b0, b1, b2, b3, rfl⟩ | ⟨b0, b1, b2, b3, b4, rfl⟩
    · exact rfl
    · exact rfl
    · exact absurd b2 a2
    · exact rfl
    · exact rfl

theorem eq_X11_weather_v1_X12_weather_v1 (r1 r2 : Int32) (h1 : r1 = 0) (h2 : r2 = 0) : r1 = r2 := by
  obtain rfl := h1
  obtain rfl := h2
  exact rfl

theorem eq_X11_sky_v1_X12_sky_v1 (p0 : Int32) (r1 r2 : Int32) (h1 : (p0 < 0 ∧ r1 = (-1)) ∨ (¬ p0 < 0 ∧ 399 < p0 ∧ r1 = (-1)) ∨ (¬ p0 < 0 ∧ ¬ 399 < p0 ∧ r1 = 0)) (h2 : (p0 < 0 ∧ r2 = (-1)) ∨ (¬ p0 < 0 ∧ 400 ≤ p0 ∧ r2 = (-1)) ∨ (¬ p0 < 0 ∧ ¬ 400 ≤ p0 ∧ r2 = 0)) : r1 = r2 := by
  rcases h1 with ⟨a0, rfl⟩ | ⟨a0, a1, rfl⟩ | ⟨a0, a1, rfl⟩
  · rcases h2 with ⟨b0, rfl⟩ | ⟨b0, b1, rfl⟩ | ⟨b0, b1, rfl⟩
    · exact rfl
    · exact rfl
    · exact absurd a0 b0
  · rcases h2 with ⟨b0, rfl⟩ | ⟨b0, b1, rfl⟩ | ⟨b0, b1, rfl⟩
    · exact rfl
    · exact rfl
    · exact (by have y0 := fa_nlt a0 (show (0 : Int32).toInt = 0 from by decide); have y1 := fb_lt a1 (show (399 : Int32).toInt = 399 from by decide); have y2 := fa_nlt b0 (show (0 : Int32).toInt = 0 from by decide); have y3 := fb_nle b1 (show (400 : Int32).toInt = 400 from by decide); omega : False).elim
  · rcases h2 with ⟨b0, rfl⟩ | ⟨b0, b1, rfl⟩ | ⟨b0, b1, rfl⟩
    · exact absurd b0 a0
    · exact (by have y0 := fa_nlt a0 (show (0 : Int32).toInt = 0 from by decide); have y1 := fb_nlt a1 (show (399 : Int32).toInt = 399 from by decide); have y2 := fa_nlt b0 (show (0 : Int32).toInt = 0 from by decide); have y3 := fb_le b1 (show (400 : Int32).toInt = 400 from by decide); omega : False).elim
    · exact rfl

theorem eq_X11_headline_v1_X12_headline_v1 (p0 : Int32) (p1 : Int32) (p2 : Int32) (r1 r2 : Int32) (h1 : (p0 < 0 ∧ r1 = 0) ∨ (¬ p0 < 0 ∧ 3 < p0 ∧ r1 = 0) ∨ (¬ p0 < 0 ∧ ¬ 3 < p0 ∧ p1 < 0 ∧ r1 = 0) ∨ (¬ p0 < 0 ∧ ¬ 3 < p0 ∧ ¬ p1 < 0 ∧ 399 < p1 ∧ r1 = 0) ∨ (¬ p0 < 0 ∧ ¬ 3 < p0 ∧ ¬ p1 < 0 ∧ ¬ 399 < p1 ∧ ¬ p1 < 0 ∧ p2 < 0 ∧ r1 = 0) ∨ (¬ p0 < 0 ∧ ¬ 3 < p0 ∧ ¬ p1 < 0 ∧ ¬ 399 < p1 ∧ ¬ p1 < 0 ∧ ¬ p2 < 0 ∧ 5 < p2 ∧ r1 = 0) ∨ (¬ p0 < 0 ∧ ¬ 3 < p0 ∧ ¬ p1 < 0 ∧ ¬ 399 < p1 ∧ ¬ p1 < 0 ∧ ¬ p2 < 0 ∧ ¬ 5 < p2 ∧ r1 = 1)) (h2 : (p0 < 0 ∧ r2 = 0) ∨ (¬ p0 < 0 ∧ 4 ≤ p0 ∧ r2 = 0) ∨ (¬ p0 < 0 ∧ ¬ 4 ≤ p0 ∧ p1 < 0 ∧ r2 = 0) ∨ (¬ p0 < 0 ∧ ¬ 4 ≤ p0 ∧ ¬ p1 < 0 ∧ 399 < p1 ∧ r2 = 0) ∨ (¬ p0 < 0 ∧ ¬ 4 ≤ p0 ∧ ¬ p1 < 0 ∧ ¬ 399 < p1 ∧ p2 < 0 ∧ r2 = 0) ∨ (¬ p0 < 0 ∧ ¬ 4 ≤ p0 ∧ ¬ p1 < 0 ∧ ¬ 399 < p1 ∧ ¬ p2 < 0 ∧ 5 < p2 ∧ r2 = 0) ∨ (¬ p0 < 0 ∧ ¬ 4 ≤ p0 ∧ ¬ p1 < 0 ∧ ¬ 399 < p1 ∧ ¬ p2 < 0 ∧ ¬ 5 < p2 ∧ r2 = 1)) : r1 = r2 := by
  rcases h1 with ⟨a0, rfl⟩ | ⟨a0, a1, rfl⟩ | ⟨a0, a1, a2, rfl⟩ | ⟨a0, a1, a2, a3, rfl⟩ | ⟨a0, a1, a2, a3, a4, a5, rfl⟩ | ⟨a0, a1, a2, a3, a4, a5, a6, rfl⟩ | ⟨a0, a1, a2, a3, a4, a5, a6, rfl⟩
  · rcases h2 with ⟨b0, rfl⟩ | ⟨b0, b1, rfl⟩ | ⟨b0, b1, b2, rfl⟩ | ⟨b0, b1, b2, b3, rfl⟩ | ⟨b0, b1, b2, b3, b4, rfl⟩ | ⟨b0, b1, b2, b3, b4, b5, rfl⟩ | ⟨b0, b1, b2, b3, b4, b5, rfl⟩
    · exact rfl
    · exact rfl
    · exact rfl
    · exact rfl
    · exact rfl
    · exact rfl
    · exact absurd a0 b0
  · rcases h2 with ⟨b0, rfl⟩ | ⟨b0, b1, rfl⟩ | ⟨b0, b1, b2, rfl⟩ | ⟨b0, b1, b2, b3, rfl⟩ | ⟨b0, b1, b2, b3, b4, rfl⟩ | ⟨b0, b1, b2, b3, b4, b5, rfl⟩ | ⟨b0, b1, b2, b3, b4, b5, rfl⟩
    · exact rfl
    · exact rfl
    · exact rfl
    · exact rfl
    · exact rfl
    · exact rfl
    · exact (by have y0 := fa_nlt a0 (show (0 : Int32).toInt = 0 from by decide); have y1 := fb_lt a1 (show (3 : Int32).toInt = 3 from by decide); have y2 := fa_nlt b0 (show (0 : Int32).toInt = 0 from by decide); have y3 := fb_nle b1 (show (4 : Int32).toInt = 4 from by decide); omega : False).elim
  · rcases h2 with ⟨b0, rfl⟩ | ⟨b0, b1, rfl⟩ | ⟨b0, b1, b2, rfl⟩ | ⟨b0, b1, b2, b3, rfl⟩ | ⟨b0, b1, b2, b3, b4, rfl⟩ | ⟨b0, b1, b2, b3, b4, b5, rfl⟩ | ⟨b0, b1, b2, b3, b4, b5, rfl⟩
    · exact rfl
    · exact rfl
    · exact rfl
    · exact rfl
    · exact rfl
    · exact rfl
    · exact absurd a2 b2
  · rcases h2 with ⟨b0, rfl⟩ | ⟨b0, b1, rfl⟩ | ⟨b0, b1, b2, rfl⟩ | ⟨b0, b1, b2, b3, rfl⟩ | ⟨b0, b1, b2, b3, b4, rfl⟩ | ⟨b0, b1, b2, b3, b4, b5, rfl⟩ | ⟨b0, b1, b2, b3, b4, b5, rfl⟩
    · exact rfl
    · exact rfl
    · exact rfl
    · exact rfl
    · exact rfl
    · exact rfl
    · exact absurd a3 b3
  · rcases h2 with ⟨b0, rfl⟩ | ⟨b0, b1, rfl⟩ | ⟨b0, b1, b2, rfl⟩ | ⟨b0, b1, b2, b3, rfl⟩ | ⟨b0, b1, b2, b3, b4, rfl⟩ | ⟨b0, b1, b2, b3, b4, b5, rfl⟩ | ⟨b0, b1, b2, b3, b4, b5, rfl⟩
    · exact rfl
    · exact rfl
    · exact rfl
    · exact rfl
    · exact rfl
    · exact rfl
    · exact absurd a5 b4
  · rcases h2 with ⟨b0, rfl⟩ | ⟨b0, b1, rfl⟩ | ⟨b0, b1, b2, rfl⟩ | ⟨b0, b1, b2, b3, rfl⟩ | ⟨b0, b1, b2, b3, b4, rfl⟩ | ⟨b0, b1, b2, b3, b4, b5, rfl⟩ | ⟨b0, b1, b2, b3, b4, b5, rfl⟩
    · exact rfl
    · exact rfl
    · exact rfl
    · exact rfl
    · exact rfl
    · exact rfl
    · exact absurd a6 b5
  · rcases h2 with ⟨b0, rfl⟩ | ⟨b0, b1, rfl⟩ | ⟨b0, b1, b2, rfl⟩ | ⟨b0, b1, b2, b3, rfl⟩ | ⟨b0, b1, b2, b3, b4, rfl⟩ | ⟨b0, b1, b2, b3, b4, b5, rfl⟩ | ⟨b0, b1, b2, b3, b4, b5, rfl⟩
    · exact absurd b0 a0
    · exact (by have y0 := fa_nlt a0 (show (0 : Int32).toInt = 0 from by decide); have y1 := fb_nlt a1 (show (3 : Int32).toInt = 3 from by decide); have y2 := fa_nlt b0 (show (0 : Int32).toInt = 0 from by decide); have y3 := fb_le b1 (show (4 : Int32).toInt = 4 from by decide); omega : False).elim
    · exact absurd b2 a2
    · exact absurd b3 a3
    · exact absurd b4 a5
    · exact absurd b5 a6
    · exact rfl

theorem eq_X11_table_v1_X12_table_v1 (p0 : Int32) (p1 : Int32) (p2 : Int32) (r1 r2 : Int32) (h1 : (p2 < 0 ∧ r1 = 0) ∨ (¬ p2 < 0 ∧ 300 < p2 ∧ r1 = 0) ∨ (¬ p2 < 0 ∧ ¬ 300 < p2 ∧ ¬ p0 = 0 ∧ ¬ p0 = 1 ∧ r1 = 0) ∨ (¬ p2 < 0 ∧ ¬ 300 < p2 ∧ ¬ p0 = 0 ∧ p0 = 1 ∧ p1 < 0 ∧ r1 = 0) ∨ (¬ p2 < 0 ∧ ¬ 300 < p2 ∧ ¬ p0 = 0 ∧ p0 = 1 ∧ ¬ p1 < 0 ∧ 5 < p1 ∧ r1 = 0) ∨ (¬ p2 < 0 ∧ ¬ 300 < p2 ∧ ¬ p0 = 0 ∧ p0 = 1 ∧ ¬ p1 < 0 ∧ ¬ 5 < p1 ∧ r1 = 1) ∨ (¬ p2 < 0 ∧ ¬ 300 < p2 ∧ p0 = 0 ∧ p1 < 0 ∧ ¬ p0 = 1 ∧ r1 = 0) ∨ (¬ p2 < 0 ∧ ¬ 300 < p2 ∧ p0 = 0 ∧ ¬ p1 < 0 ∧ 3 < p1 ∧ ¬ p0 = 1 ∧ r1 = 0) ∨ (¬ p2 < 0 ∧ ¬ 300 < p2 ∧ p0 = 0 ∧ ¬ p1 < 0 ∧ ¬ 3 < p1 ∧ r1 = 1)) (h2 : (p0 < 0 ∧ r2 = 0) ∨ (¬ p0 < 0 ∧ 1 < p0 ∧ r2 = 0) ∨ (¬ p0 < 0 ∧ ¬ 1 < p0 ∧ ¬ p0 = 0 ∧ p1 < 0 ∧ r2 = 0) ∨ (¬ p0 < 0 ∧ ¬ 1 < p0 ∧ ¬ p0 = 0 ∧ ¬ p1 < 0 ∧ 5 < p1 ∧ r2 = 0) ∨ (¬ p0 < 0 ∧ ¬ 1 < p0 ∧ ¬ p0 = 0 ∧ ¬ p1 < 0 ∧ ¬ 5 < p1 ∧ p2 < 0 ∧ r2 = 0) ∨ (¬ p0 < 0 ∧ ¬ 1 < p0 ∧ ¬ p0 = 0 ∧ ¬ p1 < 0 ∧ ¬ 5 < p1 ∧ ¬ p2 < 0 ∧ 300 < p2 ∧ r2 = 0) ∨ (¬ p0 < 0 ∧ ¬ 1 < p0 ∧ ¬ p0 = 0 ∧ ¬ p1 < 0 ∧ ¬ 5 < p1 ∧ ¬ p2 < 0 ∧ ¬ 300 < p2 ∧ ¬ p0 = 0 ∧ r2 = 1) ∨ (¬ p0 < 0 ∧ ¬ 1 < p0 ∧ p0 = 0 ∧ p1 < 0 ∧ r2 = 0) ∨ (¬ p0 < 0 ∧ ¬ 1 < p0 ∧ p0 = 0 ∧ ¬ p1 < 0 ∧ 3 < p1 ∧ r2 = 0) ∨ (¬ p0 < 0 ∧ ¬ 1 < p0 ∧ p0 = 0 ∧ ¬ p1 < 0 ∧ ¬ 3 < p1 ∧ p2 < 0 ∧ r2 = 0) ∨ (¬ p0 < 0 ∧ ¬ 1 < p0 ∧ p0 = 0 ∧ ¬ p1 < 0 ∧ ¬ 3 < p1 ∧ ¬ p2 < 0 ∧ 300 < p2 ∧ r2 = 0) ∨ (¬ p0 < 0 ∧ ¬ 1 < p0 ∧ p0 = 0 ∧ ¬ p1 < 0 ∧ ¬ 3 < p1 ∧ ¬ p2 < 0 ∧ ¬ 300 < p2 ∧ p0 = 0 ∧ r2 = 1)) : r1 = r2 := by
  rcases h1 with ⟨a0, rfl⟩ | ⟨a0, a1, rfl⟩ | ⟨a0, a1, a2, a3, rfl⟩ | ⟨a0, a1, a2, a3, a4, rfl⟩ | ⟨a0, a1, a2, a3, a4, a5, rfl⟩ | ⟨a0, a1, a2, a3, a4, a5, rfl⟩ | ⟨a0, a1, a2, a3, a4, rfl⟩ | ⟨a0, a1, a2, a3, a4, a5, rfl⟩ | ⟨a0, a1, a2, a3, a4, rfl⟩
  · rcases h2 with ⟨b0, rfl⟩ | ⟨b0, b1, rfl⟩ | ⟨b0, b1, b2, b3, rfl⟩ | ⟨b0, b1, b2, b3, b4, rfl⟩ | ⟨b0, b1, b2, b3, b4, b5, rfl⟩ | ⟨b0, b1, b2, b3, b4, b5, b6, rfl⟩ | ⟨b0, b1, b2, b3, b4, b5, b6, b7, rfl⟩ | ⟨b0, b1, b2, b3, rfl⟩ | ⟨b0, b1, b2, b3, b4, rfl⟩ | ⟨b0, b1, b2, b3, b4, b5, rfl⟩ | ⟨b0, b1, b2, b3, b4, b5, b6, rfl⟩ | ⟨b0, b1, b2, b3, b4, b5, b6, b7, rfl⟩
    · exact rfl
    · exact rfl
    · exact rfl
    · exact rfl
    · exact rfl
    · exact rfl
    · exact absurd a0 b5
    · exact rfl
    · exact rfl
    · exact rfl
    · exact rfl
    · exact absurd a0 b5
  · rcases h2 with ⟨b0, rfl⟩ | ⟨b0, b1, rfl⟩ | ⟨b0, b1, b2, b3, rfl⟩ | ⟨b0, b1, b2, b3, b4, rfl⟩ | ⟨b0, b1, b2, b3, b4, b5, rfl⟩ | ⟨b0, b1, b2, b3, b4, b5, b6, rfl⟩ | ⟨b0, b1, b2, b3, b4, b5, b6, b7, rfl⟩ | ⟨b0, b1, b2, b3, rfl⟩ | ⟨b0, b1, b2, b3, b4, rfl⟩ | ⟨b0, b1, b2, b3, b4, b5, rfl⟩ | ⟨b0, b1, b2, b3, b4, b5, b6, rfl⟩ | ⟨b0, b1, b2, b3, b4, b5, b6, b7, rfl⟩
    · exact rfl
    · exact rfl
    · exact rfl
    · exact rfl
    · exact rfl
    · exact rfl
    · exact absurd a1 b6
    · exact rfl
    · exact rfl
    · exact rfl
    · exact rfl
    · exact absurd a1 b6
  · rcases h2 with ⟨b0, rfl⟩ | ⟨b0, b1, rfl⟩ | ⟨b0, b1, b2, b3, rfl⟩ | ⟨b0, b1, b2, b3, b4, rfl⟩ | ⟨b0, b1, b2, b3, b4, b5, rfl⟩ | ⟨b0, b1, b2, b3, b4, b5, b6, rfl⟩ | ⟨b0, b1, b2, b3, b4, b5, b6, b7, rfl⟩ | ⟨b0, b1, b2, b3, rfl⟩ | ⟨b0, b1, b2, b3, b4, rfl⟩ | ⟨b0, b1, b2, b3, b4, b5, rfl⟩ | ⟨b0, b1, b2, b3, b4, b5, b6, rfl⟩ | ⟨b0, b1, b2, b3, b4, b5, b6, b7, rfl⟩
    · exact rfl
    · exact rfl
    · exact rfl
    · exact rfl
    · exact rfl
    · exact rfl
    · exact (by have y0 := fa_ne a2 (show (0 : Int32).toInt = 0 from by decide); have y1 := fa_ne a3 (show (1 : Int32).toInt = 1 from by decide); have y2 := fa_nlt b0 (show (0 : Int32).toInt = 0 from by decide); have y3 := fb_nlt b1 (show (1 : Int32).toInt = 1 from by decide); have y4 := fa_ne b2 (show (0 : Int32).toInt = 0 from by decide); have y5 := fa_ne b7 (show (0 : Int32).toInt = 0 from by decide); omega : False).elim
    · exact rfl
    · exact rfl
    · exact rfl
    · exact rfl
    · exact absurd b2 a2
  · rcases h2 with ⟨b0, rfl⟩ | ⟨b0, b1, rfl⟩ | ⟨b0, b1, b2, b3, rfl⟩ | ⟨b0, b1, b2, b3, b4, rfl⟩ | ⟨b0, b1, b2, b3, b4, b5, rfl⟩ | ⟨b0, b1, b2, b3, b4, b5, b6, rfl⟩ | ⟨b0, b1, b2, b3, b4, b5, b6, b7, rfl⟩ | ⟨b0, b1, b2, b3, rfl⟩ | ⟨b0, b1, b2, b3, b4, rfl⟩ | ⟨b0, b1, b2, b3, b4, b5, rfl⟩ | ⟨b0, b1, b2, b3, b4, b5, b6, rfl⟩ | ⟨b0, b1, b2, b3, b4, b5, b6, b7, rfl⟩
    · exact rfl
    · exact rfl
    · exact rfl
    · exact rfl
    · exact rfl
    · exact rfl
    · exact absurd a4 b3
    · exact rfl
    · exact rfl
    · exact rfl
    · exact rfl
    · exact absurd a4 b3
  · rcases h2 with ⟨b0, rfl⟩ | ⟨b0, b1, rfl⟩ | ⟨b0, b1, b2, b3, rfl⟩ | ⟨b0, b1, b2, b3, b4, rfl⟩ | ⟨b0, b1, b2, b3, b4, b5, rfl⟩ | ⟨b0, b1, b2, b3, b4, b5, b6, rfl⟩ | ⟨b0, b1, b2, b3, b4, b5, b6, b7, rfl⟩ | ⟨b0, b1, b2, b3, rfl⟩ | ⟨b0, b1, b2, b3, b4, rfl⟩ | ⟨b0, b1, b2, b3, b4, b5, rfl⟩ | ⟨b0, b1, b2, b3, b4, b5, b6, rfl⟩ | ⟨b0, b1, b2, b3, b4, b5, b6, b7, rfl⟩
    · exact rfl
    · exact rfl
    · exact rfl
    · exact rfl
    · exact rfl
    · exact rfl
    · exact absurd a5 b4
    · exact rfl
    · exact rfl
    · exact rfl
    · exact rfl
    · exact absurd b2 a2
  · rcases h2 with ⟨b0, rfl⟩ | ⟨b0, b1, rfl⟩ | ⟨b0, b1, b2, b3, rfl⟩ | ⟨b0, b1, b2, b3, b4, rfl⟩ | ⟨b0, b1, b2, b3, b4, b5, rfl⟩ | ⟨b0, b1, b2, b3, b4, b5, b6, rfl⟩ | ⟨b0, b1, b2, b3, b4, b5, b6, b7, rfl⟩ | ⟨b0, b1, b2, b3, rfl⟩ | ⟨b0, b1, b2, b3, b4, rfl⟩ | ⟨b0, b1, b2, b3, b4, b5, rfl⟩ | ⟨b0, b1, b2, b3, b4, b5, b6, rfl⟩ | ⟨b0, b1, b2, b3, b4, b5, b6, b7, rfl⟩
    · exact (by have y0 := fa_ne a2 (show (0 : Int32).toInt = 0 from by decide); have y1 := fa_eq a3 (show (1 : Int32).toInt = 1 from by decide); have y2 := fa_lt b0 (show (0 : Int32).toInt = 0 from by decide); omega : False).elim
    · exact (by have y0 := fa_ne a2 (show (0 : Int32).toInt = 0 from by decide); have y1 := fa_eq a3 (show (1 : Int32).toInt = 1 from by decide); have y2 := fa_nlt b0 (show (0 : Int32).toInt = 0 from by decide); have y3 := fb_lt b1 (show (1 : Int32).toInt = 1 from by decide); omega : False).elim
    · exact absurd b3 a4
    · exact absurd b4 a5
    · exact absurd b5 a0
    · exact absurd b6 a1
    · exact rfl
    · exact absurd b2 a2
    · exact absurd b2 a2
    · exact absurd b2 a2
    · exact absurd b2 a2
    · exact rfl
  · rcases h2 with ⟨b0, rfl⟩ | ⟨b0, b1, rfl⟩ | ⟨b0, b1, b2, b3, rfl⟩ | ⟨b0, b1, b2, b3, b4, rfl⟩ | ⟨b0, b1, b2, b3, b4, b5, rfl⟩ | ⟨b0, b1, b2, b3, b4, b5, b6, rfl⟩ | ⟨b0, b1, b2, b3, b4, b5, b6, b7, rfl⟩ | ⟨b0, b1, b2, b3, rfl⟩ | ⟨b0, b1, b2, b3, b4, rfl⟩ | ⟨b0, b1, b2, b3, b4, b5, rfl⟩ | ⟨b0, b1, b2, b3, b4, b5, b6, rfl⟩ | ⟨b0, b1, b2, b3, b4, b5, b6, b7, rfl⟩
    · exact rfl
    · exact rfl
    · exact rfl
    · exact rfl
    · exact rfl
    · exact rfl
    · exact absurd a2 b2
    · exact rfl
    · exact rfl
    · exact rfl
    · exact rfl
    · exact absurd a3 b3
  · rcases h2 with ⟨b0, rfl⟩ | ⟨b0, b1, rfl⟩ | ⟨b0, b1, b2, b3, rfl⟩ | ⟨b0, b1, b2, b3, b4, rfl⟩ | ⟨b0, b1, b2, b3, b4, b5, rfl⟩ | ⟨b0, b1, b2, b3, b4, b5, b6, rfl⟩ | ⟨b0, b1, b2, b3, b4, b5, b6, b7, rfl⟩ | ⟨b0, b1, b2, b3, rfl⟩ | ⟨b0, b1, b2, b3, b4, rfl⟩ | ⟨b0, b1, b2, b3, b4, b5, rfl⟩ | ⟨b0, b1, b2, b3, b4, b5, b6, rfl⟩ | ⟨b0, b1, b2, b3, b4, b5, b6, b7, rfl⟩
    · exact rfl
    · exact rfl
    · exact rfl
    · exact rfl
    · exact rfl
    · exact rfl
    · exact absurd a2 b2
    · exact rfl
    · exact rfl
    · exact rfl
    · exact rfl
    · exact absurd a4 b4
  · rcases h2 with ⟨b0, rfl⟩ | ⟨b0, b1, rfl⟩ | ⟨b0, b1, b2, b3, rfl⟩ | ⟨b0, b1, b2, b3, b4, rfl⟩ | ⟨b0, b1, b2, b3, b4, b5, rfl⟩ | ⟨b0, b1, b2, b3, b4, b5, b6, rfl⟩ | ⟨b0, b1, b2, b3, b4, b5, b6, b7, rfl⟩ | ⟨b0, b1, b2, b3, rfl⟩ | ⟨b0, b1, b2, b3, b4, rfl⟩ | ⟨b0, b1, b2, b3, b4, b5, rfl⟩ | ⟨b0, b1, b2, b3, b4, b5, b6, rfl⟩ | ⟨b0, b1, b2, b3, b4, b5, b6, b7, rfl⟩
    · exact (by have y0 := fa_eq a2 (show (0 : Int32).toInt = 0 from by decide); have y1 := fa_lt b0 (show (0 : Int32).toInt = 0 from by decide); omega : False).elim
    · exact (by have y0 := fa_eq a2 (show (0 : Int32).toInt = 0 from by decide); have y1 := fa_nlt b0 (show (0 : Int32).toInt = 0 from by decide); have y2 := fb_lt b1 (show (1 : Int32).toInt = 1 from by decide); omega : False).elim
    · exact absurd a2 b2
    · exact absurd a2 b2
    · exact absurd a2 b2
    · exact absurd a2 b2
    · exact rfl
    · exact absurd b3 a3
    · exact absurd b4 a4
    · exact absurd b5 a0
    · exact absurd b6 a1
    · exact rfl

theorem eq_X11_want_v1_X12_want_v1 (p0 : Int32) (p1 : Int32) (p2 : Int32) (r1 r2 : Int32) (h1 : (p0 < 0 ∧ r1 = 0) ∨ (¬ p0 < 0 ∧ 9 < p0 ∧ r1 = 0) ∨ (¬ p0 < 0 ∧ ¬ 9 < p0 ∧ p1 < 0 ∧ r1 = 0) ∨ (¬ p0 < 0 ∧ ¬ 9 < p0 ∧ ¬ p1 < 0 ∧ 3 < p1 ∧ r1 = 0) ∨ (¬ p0 < 0 ∧ ¬ 9 < p0 ∧ ¬ p1 < 0 ∧ ¬ 3 < p1 ∧ p2 < 0 ∧ r1 = 0) ∨ (¬ p0 < 0 ∧ ¬ 9 < p0 ∧ ¬ p1 < 0 ∧ ¬ 3 < p1 ∧ ¬ p2 < 0 ∧ 400 < p2 ∧ r1 = 0) ∨ (¬ p0 < 0 ∧ ¬ 9 < p0 ∧ ¬ p1 < 0 ∧ ¬ 3 < p1 ∧ ¬ p2 < 0 ∧ ¬ 400 < p2 ∧ r1 = 1)) (h2 : (p0 < 0 ∧ r2 = 0) ∨ (¬ p0 < 0 ∧ 10 ≤ p0 ∧ r2 = 0) ∨ (¬ p0 < 0 ∧ ¬ 10 ≤ p0 ∧ p1 < 0 ∧ r2 = 0) ∨ (¬ p0 < 0 ∧ ¬ 10 ≤ p0 ∧ ¬ p1 < 0 ∧ 4 ≤ p1 ∧ r2 = 0) ∨ (¬ p0 < 0 ∧ ¬ 10 ≤ p0 ∧ ¬ p1 < 0 ∧ ¬ 4 ≤ p1 ∧ p2 < 0 ∧ r2 = 0) ∨ (¬ p0 < 0 ∧ ¬ 10 ≤ p0 ∧ ¬ p1 < 0 ∧ ¬ 4 ≤ p1 ∧ ¬ p2 < 0 ∧ 400 < p2 ∧ r2 = 0) ∨ (¬ p0 < 0 ∧ ¬ 10 ≤ p0 ∧ ¬ p1 < 0 ∧ ¬ 4 ≤ p1 ∧ ¬ p2 < 0 ∧ ¬ 400 < p2 ∧ r2 = 1)) : r1 = r2 := by
  rcases h1 with ⟨a0, rfl⟩ | ⟨a0, a1, rfl⟩ | ⟨a0, a1, a2, rfl⟩ | ⟨a0, a1, a2, a3, rfl⟩ | ⟨a0, a1, a2, a3, a4, rfl⟩ | ⟨a0, a1, a2, a3, a4, a5, rfl⟩ | ⟨a0, a1, a2, a3, a4, a5, rfl⟩
  · rcases h2 with ⟨b0, rfl⟩ | ⟨b0, b1, rfl⟩ | ⟨b0, b1, b2, rfl⟩ | ⟨b0, b1, b2, b3, rfl⟩ | ⟨b0, b1, b2, b3, b4, rfl⟩ | ⟨b0, b1, b2, b3, b4, b5, rfl⟩ | ⟨b0, b1, b2, b3, b4, b5, rfl⟩
    · exact rfl
    · exact rfl
    · exact rfl
    · exact rfl
    · exact rfl
    · exact rfl
    · exact absurd a0 b0
  · rcases h2 with ⟨b0, rfl⟩ | ⟨b0, b1, rfl⟩ | ⟨b0, b1, b2, rfl⟩ | ⟨b0, b1, b2, b3, rfl⟩ | ⟨b0, b1, b2, b3, b4, rfl⟩ | ⟨b0, b1, b2, b3, b4, b5, rfl⟩ | ⟨b0, b1, b2, b3, b4, b5, rfl⟩
    · exact rfl
    · exact rfl
    · exact rfl
    · exact rfl
    · exact rfl
    · exact rfl
    · exact (by have y0 := fa_nlt a0 (show (0 : Int32).toInt = 0 from by decide); have y1 := fb_lt a1 (show (9 : Int32).toInt = 9 from by decide); have y2 := fa_nlt b0 (show (0 : Int32).toInt = 0 from by decide); have y3 := fb_nle b1 (show (10 : Int32).toInt = 10 from by decide); omega : False).elim
  · rcases h2 with ⟨b0, rfl⟩ | ⟨b0, b1, rfl⟩ | ⟨b0, b1, b2, rfl⟩ | ⟨b0, b1, b2, b3, rfl⟩ | ⟨b0, b1, b2, b3, b4, rfl⟩ | ⟨b0, b1, b2, b3, b4, b5, rfl⟩ | ⟨b0, b1, b2, b3, b4, b5, rfl⟩
    · exact rfl
    · exact rfl
    · exact rfl
    · exact rfl
    · exact rfl
    · exact rfl
    · exact absurd a2 b2
  · rcases h2 with ⟨b0, rfl⟩ | ⟨b0, b1, rfl⟩ | ⟨b0, b1, b2, rfl⟩ | ⟨b0, b1, b2, b3, rfl⟩ | ⟨b0, b1, b2, b3, b4, rfl⟩ | ⟨b0, b1, b2, b3, b4, b5, rfl⟩ | ⟨b0, b1, b2, b3, b4, b5, rfl⟩
    · exact rfl
    · exact rfl
    · exact rfl
    · exact rfl
    · exact rfl
    · exact rfl
    · exact (by have y0 := fa_nlt a2 (show (0 : Int32).toInt = 0 from by decide); have y1 := fb_lt a3 (show (3 : Int32).toInt = 3 from by decide); have y2 := fa_nlt b2 (show (0 : Int32).toInt = 0 from by decide); have y3 := fb_nle b3 (show (4 : Int32).toInt = 4 from by decide); omega : False).elim
  · rcases h2 with ⟨b0, rfl⟩ | ⟨b0, b1, rfl⟩ | ⟨b0, b1, b2, rfl⟩ | ⟨b0, b1, b2, b3, rfl⟩ | ⟨b0, b1, b2, b3, b4, rfl⟩ | ⟨b0, b1, b2, b3, b4, b5, rfl⟩ | ⟨b0, b1, b2, b3, b4, b5, rfl⟩
    · exact rfl
    · exact rfl
    · exact rfl
    · exact rfl
    · exact rfl
    · exact rfl
    · exact absurd a4 b4
  · rcases h2 with ⟨b0, rfl⟩ | ⟨b0, b1, rfl⟩ | ⟨b0, b1, b2, rfl⟩ | ⟨b0, b1, b2, b3, rfl⟩ | ⟨b0, b1, b2, b3, b4, rfl⟩ | ⟨b0, b1, b2, b3, b4, b5, rfl⟩ | ⟨b0, b1, b2, b3, b4, b5, rfl⟩
    · exact rfl
    · exact rfl
    · exact rfl
    · exact rfl
    · exact rfl
    · exact rfl
    · exact absurd a5 b5
  · rcases h2 with ⟨b0, rfl⟩ | ⟨b0, b1, rfl⟩ | ⟨b0, b1, b2, rfl⟩ | ⟨b0, b1, b2, b3, rfl⟩ | ⟨b0, b1, b2, b3, b4, rfl⟩ | ⟨b0, b1, b2, b3, b4, b5, rfl⟩ | ⟨b0, b1, b2, b3, b4, b5, rfl⟩
    · exact absurd b0 a0
    · exact (by have y0 := fa_nlt a0 (show (0 : Int32).toInt = 0 from by decide); have y1 := fb_nlt a1 (show (9 : Int32).toInt = 9 from by decide); have y2 := fa_nlt b0 (show (0 : Int32).toInt = 0 from by decide); have y3 := fb_le b1 (show (10 : Int32).toInt = 10 from by decide); omega : False).elim
    · exact absurd b2 a2
    · exact (by have y0 := fa_nlt a2 (show (0 : Int32).toInt = 0 from by decide); have y1 := fb_nlt a3 (show (3 : Int32).toInt = 3 from by decide); have y2 := fa_nlt b2 (show (0 : Int32).toInt = 0 from by decide); have y3 := fb_le b3 (show (4 : Int32).toInt = 4 from by decide); omega : False).elim
    · exact absurd b4 a4
    · exact absurd b5 a5
    · exact rfl

theorem eq_X11_asked_v1_X12_asked_v1 (p0 : Int32) (p1 : Int32) (p2 : Int32) (p3 : Int32) (r1 r2 : Int32) (h1 : (p0 < 0 ∧ r1 = (-1)) ∨ (¬ p0 < 0 ∧ 9 < p0 ∧ r1 = (-1)) ∨ (¬ p0 < 0 ∧ ¬ 9 < p0 ∧ p1 < 0 ∧ r1 = (-1)) ∨ (¬ p0 < 0 ∧ ¬ 9 < p0 ∧ ¬ p1 < 0 ∧ 3 < p1 ∧ r1 = (-1)) ∨ (¬ p0 < 0 ∧ ¬ 9 < p0 ∧ ¬ p1 < 0 ∧ ¬ 3 < p1 ∧ p2 < 0 ∧ r1 = (-1)) ∨ (¬ p0 < 0 ∧ ¬ 9 < p0 ∧ ¬ p1 < 0 ∧ ¬ 3 < p1 ∧ ¬ p2 < 0 ∧ 3 < p2 ∧ r1 = (-1)) ∨ (¬ p0 < 0 ∧ ¬ 9 < p0 ∧ ¬ p1 < 0 ∧ ¬ 3 < p1 ∧ ¬ p2 < 0 ∧ ¬ 3 < p2 ∧ p3 < 0 ∧ r1 = (-1)) ∨ (¬ p0 < 0 ∧ ¬ 9 < p0 ∧ ¬ p1 < 0 ∧ ¬ 3 < p1 ∧ ¬ p2 < 0 ∧ ¬ 3 < p2 ∧ ¬ p3 < 0 ∧ 5 < p3 ∧ r1 = (-1)) ∨ (¬ p0 < 0 ∧ ¬ 9 < p0 ∧ ¬ p1 < 0 ∧ ¬ 3 < p1 ∧ ¬ p2 < 0 ∧ ¬ 3 < p2 ∧ ¬ p3 < 0 ∧ ¬ 5 < p3 ∧ r1 = 0)) (h2 : (p0 < 0 ∧ r2 = (-1)) ∨ (¬ p0 < 0 ∧ 10 ≤ p0 ∧ r2 = (-1)) ∨ (¬ p0 < 0 ∧ ¬ 10 ≤ p0 ∧ p1 < 0 ∧ r2 = (-1)) ∨ (¬ p0 < 0 ∧ ¬ 10 ≤ p0 ∧ ¬ p1 < 0 ∧ 4 ≤ p1 ∧ r2 = (-1)) ∨ (¬ p0 < 0 ∧ ¬ 10 ≤ p0 ∧ ¬ p1 < 0 ∧ ¬ 4 ≤ p1 ∧ p2 < 0 ∧ r2 = (-1)) ∨ (¬ p0 < 0 ∧ ¬ 10 ≤ p0 ∧ ¬ p1 < 0 ∧ ¬ 4 ≤ p1 ∧ ¬ p2 < 0 ∧ 3 < p2 ∧ r2 = (-1)) ∨ (¬ p0 < 0 ∧ ¬ 10 ≤ p0 ∧ ¬ p1 < 0 ∧ ¬ 4 ≤ p1 ∧ ¬ p2 < 0 ∧ ¬ 3 < p2 ∧ p3 < 0 ∧ r2 = (-1)) ∨ (¬ p0 < 0 ∧ ¬ 10 ≤ p0 ∧ ¬ p1 < 0 ∧ ¬ 4 ≤ p1 ∧ ¬ p2 < 0 ∧ ¬ 3 < p2 ∧ ¬ p3 < 0 ∧ 5 < p3 ∧ r2 = (-1)) ∨ (¬ p0 < 0 ∧ ¬ 10 ≤ p0 ∧ ¬ p1 < 0 ∧ ¬ 4 ≤ p1 ∧ ¬ p2 < 0 ∧ ¬ 3 < p2 ∧ ¬ p3 < 0 ∧ ¬ 5 < p3 ∧ r2 = 0)) : r1 = r2 := by
  rcases h1 with ⟨a0, rfl⟩ | ⟨a0, a1, rfl⟩ | ⟨a0, a1, a2, rfl⟩ | ⟨a0, a1, a2, a3, rfl⟩ | ⟨a0, a1, a2, a3, a4, rfl⟩ | ⟨a0, a1, a2, a3, a4, a5, rfl⟩ | ⟨a0, a1, a2, a3, a4, a5, a6, rfl⟩ | ⟨a0, a1, a2, a3, a4, a5, a6, a7, rfl⟩ | ⟨a0, a1, a2, a3, a4, a5, a6, a7, rfl⟩
  · rcases h2 with ⟨b0, rfl⟩ | ⟨b0, b1, rfl⟩ | ⟨b0, b1, b2, rfl⟩ | ⟨b0, b1, b2, b3, rfl⟩ | ⟨b0, b1, b2, b3, b4, rfl⟩ | ⟨b0, b1, b2, b3, b4, b5, rfl⟩ | ⟨b0, b1, b2, b3, b4, b5, b6, rfl⟩ | ⟨b0, b1, b2, b3, b4, b5, b6, b7, rfl⟩ | ⟨b0, b1, b2, b3, b4, b5, b6, b7, rfl⟩
    · exact rfl
    · exact rfl
    · exact rfl
    · exact rfl
    · exact rfl
    · exact rfl
    · exact rfl
    · exact rfl
    · exact absurd a0 b0
  · rcases h2 with ⟨b0, rfl⟩ | ⟨b0, b1, rfl⟩ | ⟨b0, b1, b2, rfl⟩ | ⟨b0, b1, b2, b3, rfl⟩ | ⟨b0, b1, b2, b3, b4, rfl⟩ | ⟨b0, b1, b2, b3, b4, b5, rfl⟩ | ⟨b0, b1, b2, b3, b4, b5, b6, rfl⟩ | ⟨b0, b1, b2, b3, b4, b5, b6, b7, rfl⟩ | ⟨b0, b1, b2, b3, b4, b5, b6, b7, rfl⟩
    · exact rfl
    · exact rfl
    · exact rfl
    · exact rfl
    · exact rfl
    · exact rfl
    · exact rfl
    · exact rfl
    · exact (by have y0 := fa_nlt a0 (show (0 : Int32).toInt = 0 from by decide); have y1 := fb_lt a1 (show (9 : Int32).toInt = 9 from by decide); have y2 := fa_nlt b0 (show (0 : Int32).toInt = 0 from by decide); have y3 := fb_nle b1 (show (10 : Int32).toInt = 10 from by decide); omega : False).elim
  · rcases h2 with ⟨b0, rfl⟩ | ⟨b0, b1, rfl⟩ | ⟨b0, b1, b2, rfl⟩ | ⟨b0, b1, b2, b3, rfl⟩ | ⟨b0, b1, b2, b3, b4, rfl⟩ | ⟨b0, b1, b2, b3, b4, b5, rfl⟩ | ⟨b0, b1, b2, b3, b4, b5, b6, rfl⟩ | ⟨b0, b1, b2, b3, b4, b5, b6, b7, rfl⟩ | ⟨b0, b1, b2, b3, b4, b5, b6, b7, rfl⟩
    · exact rfl
    · exact rfl
    · exact rfl
    · exact rfl
    · exact rfl
    · exact rfl
    · exact rfl
    · exact rfl
    · exact absurd a2 b2
  · rcases h2 with ⟨b0, rfl⟩ | ⟨b0, b1, rfl⟩ | ⟨b0, b1, b2, rfl⟩ | ⟨b0, b1, b2, b3, rfl⟩ | ⟨b0, b1, b2, b3, b4, rfl⟩ | ⟨b0, b1, b2, b3, b4, b5, rfl⟩ | ⟨b0, b1, b2, b3, b4, b5, b6, rfl⟩ | ⟨b0, b1, b2, b3, b4, b5, b6, b7, rfl⟩ | ⟨b0, b1, b2, b3, b4, b5, b6, b7, rfl⟩
    · exact rfl
    · exact rfl
    · exact rfl
    · exact rfl
    · exact rfl
    · exact rfl
    · exact rfl
    · exact rfl
    · exact (by have y0 := fa_nlt a2 (show (0 : Int32).toInt = 0 from by decide); have y1 := fb_lt a3 (show (3 : Int32).toInt = 3 from by decide); have y2 := fa_nlt b2 (show (0 : Int32).toInt = 0 from by decide); have y3 := fb_nle b3 (show (4 : Int32).toInt = 4 from by decide); omega : False).elim
  · rcases h2 with ⟨b0, rfl⟩ | ⟨b0, b1, rfl⟩ | ⟨b0, b1, b2, rfl⟩ | ⟨b0, b1, b2, b3, rfl⟩ | ⟨b0, b1, b2, b3, b4, rfl⟩ | ⟨b0, b1, b2, b3, b4, b5, rfl⟩ | ⟨b0, b1, b2, b3, b4, b5, b6, rfl⟩ | ⟨b0, b1, b2, b3, b4, b5, b6, b7, rfl⟩ | ⟨b0, b1, b2, b3, b4, b5, b6, b7, rfl⟩
    · exact rfl
    · exact rfl
    · exact rfl
    · exact rfl
    · exact rfl
    · exact rfl
    · exact rfl
    · exact rfl
    · exact absurd a4 b4
  · rcases h2 with ⟨b0, rfl⟩ | ⟨b0, b1, rfl⟩ | ⟨b0, b1, b2, rfl⟩ | ⟨b0, b1, b2, b3, rfl⟩ | ⟨b0, b1, b2, b3, b4, rfl⟩ | ⟨b0, b1, b2, b3, b4, b5, rfl⟩ | ⟨b0, b1, b2, b3, b4, b5, b6, rfl⟩ | ⟨b0, b1, b2, b3, b4, b5, b6, b7, rfl⟩ | ⟨b0, b1, b2, b3, b4, b5, b6, b7, rfl⟩
    · exact rfl
    · exact rfl
    · exact rfl
    · exact rfl
    · exact rfl
    · exact rfl
    · exact rfl
    · exact rfl
    · exact absurd a5 b5
  · rcases h2 with ⟨b0, rfl⟩ | ⟨b0, b1, rfl⟩ | ⟨b0, b1, b2, rfl⟩ | ⟨b0, b1, b2, b3, rfl⟩ | ⟨b0, b1, b2, b3, b4, rfl⟩ | ⟨b0, b1, b2, b3, b4, b5, rfl⟩ | ⟨b0, b1, b2, b3, b4, b5, b6, rfl⟩ | ⟨b0, b1, b2, b3, b4, b5, b6, b7, rfl⟩ | ⟨b0, b1, b2, b3, b4, b5, b6, b7, rfl⟩
    · exact rfl
    · exact rfl
    · exact rfl
    · exact rfl
    · exact rfl
    · exact rfl
    · exact rfl
    · exact rfl
    · exact absurd a6 b6
  · rcases h2 with ⟨b0, rfl⟩ | ⟨b0, b1, rfl⟩ | ⟨b0, b1, b2, rfl⟩ | ⟨b0, b1, b2, b3, rfl⟩ | ⟨b0, b1, b2, b3, b4, rfl⟩ | ⟨b0, b1, b2, b3, b4, b5, rfl⟩ | ⟨b0, b1, b2, b3, b4, b5, b6, rfl⟩ | ⟨b0, b1, b2, b3, b4, b5, b6, b7, rfl⟩ | ⟨b0, b1, b2, b3, b4, b5, b6, b7, rfl⟩
    · exact rfl
    · exact rfl
    · exact rfl
    · exact rfl
    · exact rfl
    · exact rfl
    · exact rfl
    · exact rfl
    · exact absurd a7 b7
  · rcases h2 with ⟨b0, rfl⟩ | ⟨b0, b1, rfl⟩ | ⟨b0, b1, b2, rfl⟩ | ⟨b0, b1, b2, b3, rfl⟩ | ⟨b0, b1, b2, b3, b4, rfl⟩ | ⟨b0, b1, b2, b3, b4, b5, rfl⟩ | ⟨b0, b1, b2, b3, b4, b5, b6, rfl⟩ | ⟨b0, b1, b2, b3, b4, b5, b6, b7, rfl⟩ | ⟨b0, b1, b2, b3, b4, b5, b6, b7, rfl⟩
    · exact absurd b0 a0
    · exact (by have y0 := fa_nlt a0 (show (0 : Int32).toInt = 0 from by decide); have y1 := fb_nlt a1 (show (9 : Int32).toInt = 9 from by decide); have y2 := fa_nlt b0 (show (0 : Int32).toInt = 0 from by decide); have y3 := fb_le b1 (show (10 : Int32).toInt = 10 from by decide); omega : False).elim
    · exact absurd b2 a2
    · exact (by have y0 := fa_nlt a2 (show (0 : Int32).toInt = 0 from by decide); have y1 := fb_nlt a3 (show (3 : Int32).toInt = 3 from by decide); have y2 := fa_nlt b2 (show (0 : Int32).toInt = 0 from by decide); have y3 := fb_le b3 (show (4 : Int32).toInt = 4 from by decide); omega : False).elim
    · exact absurd b4 a4
    · exact absurd b5 a5
    · exact absurd b6 a6
    · exact absurd b7 a7
    · exact rfl

theorem eq_X11_minutes_v1_X12_minutes_v1 (p0 : Int32) (p1 : Int32) (p2 : Int32) (r1 r2 : Int32) (h1 : (p0 < 0 ∧ r1 = 0) ∨ (¬ p0 < 0 ∧ 9 < p0 ∧ r1 = 0) ∨ (¬ p0 < 0 ∧ ¬ 9 < p0 ∧ p1 < 0 ∧ r1 = 0) ∨ (¬ p0 < 0 ∧ ¬ 9 < p0 ∧ ¬ p1 < 0 ∧ 9 < p1 ∧ r1 = 0) ∨ (¬ p0 < 0 ∧ ¬ 9 < p0 ∧ ¬ p1 < 0 ∧ ¬ 9 < p1 ∧ p0 = p1 ∧ r1 = 0) ∨ (¬ p0 < 0 ∧ ¬ 9 < p0 ∧ ¬ p1 < 0 ∧ ¬ 9 < p1 ∧ ¬ p0 = p1 ∧ p2 < 1 ∧ r1 = 0) ∨ (¬ p0 < 0 ∧ ¬ 9 < p0 ∧ ¬ p1 < 0 ∧ ¬ 9 < p1 ∧ ¬ p0 = p1 ∧ ¬ p2 < 1 ∧ 200 < p2 ∧ r1 = 0) ∨ (¬ p0 < 0 ∧ ¬ 9 < p0 ∧ ¬ p1 < 0 ∧ ¬ 9 < p1 ∧ ¬ p0 = p1 ∧ ¬ p2 < 1 ∧ ¬ 200 < p2 ∧ r1 = 1)) (h2 : (p0 < 0 ∧ r2 = 0) ∨ (¬ p0 < 0 ∧ 10 ≤ p0 ∧ r2 = 0) ∨ (¬ p0 < 0 ∧ ¬ 10 ≤ p0 ∧ p1 < 0 ∧ r2 = 0) ∨ (¬ p0 < 0 ∧ ¬ 10 ≤ p0 ∧ ¬ p1 < 0 ∧ 10 ≤ p1 ∧ r2 = 0) ∨ (¬ p0 < 0 ∧ ¬ 10 ≤ p0 ∧ ¬ p1 < 0 ∧ ¬ 10 ≤ p1 ∧ p0 = p1 ∧ r2 = 0) ∨ (¬ p0 < 0 ∧ ¬ 10 ≤ p0 ∧ ¬ p1 < 0 ∧ ¬ 10 ≤ p1 ∧ ¬ p0 = p1 ∧ p2 < 1 ∧ r2 = 0) ∨ (¬ p0 < 0 ∧ ¬ 10 ≤ p0 ∧ ¬ p1 < 0 ∧ ¬ 10 ≤ p1 ∧ ¬ p0 = p1 ∧ ¬ p2 < 1 ∧ 200 < p2 ∧ r2 = 0) ∨ (¬ p0 < 0 ∧ ¬ 10 ≤ p0 ∧ ¬ p1 < 0 ∧ ¬ 10 ≤ p1 ∧ ¬ p0 = p1 ∧ ¬ p2 < 1 ∧ ¬ 200 < p2 ∧ r2 = 1)) : r1 = r2 := by
  rcases h1 with ⟨a0, rfl⟩ | ⟨a0, a1, rfl⟩ | ⟨a0, a1, a2, rfl⟩ | ⟨a0, a1, a2, a3, rfl⟩ | ⟨a0, a1, a2, a3, a4, rfl⟩ | ⟨a0, a1, a2, a3, a4, a5, rfl⟩ | ⟨a0, a1, a2, a3, a4, a5, a6, rfl⟩ | ⟨a0, a1, a2, a3, a4, a5, a6, rfl⟩
  · rcases h2 with ⟨b0, rfl⟩ | ⟨b0, b1, rfl⟩ | ⟨b0, b1, b2, rfl⟩ | ⟨b0, b1, b2, b3, rfl⟩ | ⟨b0, b1, b2, b3, b4, rfl⟩ | ⟨b0, b1, b2, b3, b4, b5, rfl⟩ | ⟨b0, b1, b2, b3, b4, b5, b6, rfl⟩ | ⟨b0, b1, b2, b3, b4, b5, b6, rfl⟩
    · exact rfl
    · exact rfl
    · exact rfl
    · exact rfl
    · exact rfl
    · exact rfl
    · exact rfl
    · exact absurd a0 b0
  · rcases h2 with ⟨b0, rfl⟩ | ⟨b0, b1, rfl⟩ | ⟨b0, b1, b2, rfl⟩ | ⟨b0, b1, b2, b3, rfl⟩ | ⟨b0, b1, b2, b3, b4, rfl⟩ | ⟨b0, b1, b2, b3, b4, b5, rfl⟩ | ⟨b0, b1, b2, b3, b4, b5, b6, rfl⟩ | ⟨b0, b1, b2, b3, b4, b5, b6, rfl⟩
    · exact rfl
    · exact rfl
    · exact rfl
    · exact rfl
    · exact rfl
    · exact rfl
    · exact rfl
    · exact (by have y0 := fa_nlt a0 (show (0 : Int32).toInt = 0 from by decide); have y1 := fb_lt a1 (show (9 : Int32).toInt = 9 from by decide); have y2 := fa_nlt b0 (show (0 : Int32).toInt = 0 from by decide); have y3 := fb_nle b1 (show (10 : Int32).toInt = 10 from by decide); omega : False).elim
  · rcases h2 with ⟨b0, rfl⟩ | ⟨b0, b1, rfl⟩ | ⟨b0, b1, b2, rfl⟩ | ⟨b0, b1, b2, b3, rfl⟩ | ⟨b0, b1, b2, b3, b4, rfl⟩ | ⟨b0, b1, b2, b3, b4, b5, rfl⟩ | ⟨b0, b1, b2, b3, b4, b5, b6, rfl⟩ | ⟨b0, b1, b2, b3, b4, b5, b6, rfl⟩
    · exact rfl
    · exact rfl
    · exact rfl
    · exact rfl
    · exact rfl
    · exact rfl
    · exact rfl
    · exact absurd a2 b2
  · rcases h2 with ⟨b0, rfl⟩ | ⟨b0, b1, rfl⟩ | ⟨b0, b1, b2, rfl⟩ | ⟨b0, b1, b2, b3, rfl⟩ | ⟨b0, b1, b2, b3, b4, rfl⟩ | ⟨b0, b1, b2, b3, b4, b5, rfl⟩ | ⟨b0, b1, b2, b3, b4, b5, b6, rfl⟩ | ⟨b0, b1, b2, b3, b4, b5, b6, rfl⟩
    · exact rfl
    · exact rfl
    · exact rfl
    · exact rfl
    · exact rfl
    · exact rfl
    · exact rfl
    · exact (by have y0 := fa_nlt a2 (show (0 : Int32).toInt = 0 from by decide); have y1 := fb_lt a3 (show (9 : Int32).toInt = 9 from by decide); have y2 := fa_nlt b2 (show (0 : Int32).toInt = 0 from by decide); have y3 := fb_nle b3 (show (10 : Int32).toInt = 10 from by decide); omega : False).elim
  · rcases h2 with ⟨b0, rfl⟩ | ⟨b0, b1, rfl⟩ | ⟨b0, b1, b2, rfl⟩ | ⟨b0, b1, b2, b3, rfl⟩ | ⟨b0, b1, b2, b3, b4, rfl⟩ | ⟨b0, b1, b2, b3, b4, b5, rfl⟩ | ⟨b0, b1, b2, b3, b4, b5, b6, rfl⟩ | ⟨b0, b1, b2, b3, b4, b5, b6, rfl⟩
    · exact rfl
    · exact rfl
    · exact rfl
    · exact rfl
    · exact rfl
    · exact rfl
    · exact rfl
    · exact absurd a4 b4
  · rcases h2 with ⟨b0, rfl⟩ | ⟨b0, b1, rfl⟩ | ⟨b0, b1, b2, rfl⟩ | ⟨b0, b1, b2, b3, rfl⟩ | ⟨b0, b1, b2, b3, b4, rfl⟩ | ⟨b0, b1, b2, b3, b4, b5, rfl⟩ | ⟨b0, b1, b2, b3, b4, b5, b6, rfl⟩ | ⟨b0, b1, b2, b3, b4, b5, b6, rfl⟩
    · exact rfl
    · exact rfl
    · exact rfl
    · exact rfl
    · exact rfl
    · exact rfl
    · exact rfl
    · exact absurd a5 b5
  · rcases h2 with ⟨b0, rfl⟩ | ⟨b0, b1, rfl⟩ | ⟨b0, b1, b2, rfl⟩ | ⟨b0, b1, b2, b3, rfl⟩ | ⟨b0, b1, b2, b3, b4, rfl⟩ | ⟨b0, b1, b2, b3, b4, b5, rfl⟩ | ⟨b0, b1, b2, b3, b4, b5, b6, rfl⟩ | ⟨b0, b1, b2, b3, b4, b5, b6, rfl⟩
    · exact rfl
    · exact rfl
    · exact rfl
    · exact rfl
    · exact rfl
    · exact rfl
    · exact rfl
    · exact absurd a6 b6
  · rcases h2 with ⟨b0, rfl⟩ | ⟨b0, b1, rfl⟩ | ⟨b0, b1, b2, rfl⟩ | ⟨b0, b1, b2, b3, rfl⟩ | ⟨b0, b1, b2, b3, b4, rfl⟩ | ⟨b0, b1, b2, b3, b4, b5, rfl⟩ | ⟨b0, b1, b2, b3, b4, b5, b6, rfl⟩ | ⟨b0, b1, b2, b3, b4, b5, b6, rfl⟩
    · exact absurd b0 a0
    · exact (by have y0 := fa_nlt a0 (show (0 : Int32).toInt = 0 from by decide); have y1 := fb_nlt a1 (show (9 : Int32).toInt = 9 from by decide); have y2 := fa_nlt b0 (show (0 : Int32).toInt = 0 from by decide); have y3 := fb_le b1 (show (10 : Int32).toInt = 10 from by decide); omega : False).elim
    · exact absurd b2 a2
    · exact (by have y0 := fa_nlt a2 (show (0 : Int32).toInt = 0 from by decide); have y1 := fb_nlt a3 (show (9 : Int32).toInt = 9 from by decide); have y2 := fa_nlt b2 (show (0 : Int32).toInt = 0 from by decide); have y3 := fb_le b3 (show (10 : Int32).toInt = 10 from by decide); omega : False).elim
    · exact absurd b4 a4
    · exact absurd b5 a5
    · exact absurd b6 a6
    · exact rfl

theorem eq_X11_terms_v1_X12_terms_v1 (p0 : Int32) (r1 r2 : Int32) (h1 : (p0 < 0 ∧ r1 = (-1000)) ∨ (¬ p0 < 0 ∧ 399 < p0 ∧ r1 = (-1000)) ∨ (¬ p0 < 0 ∧ ¬ 399 < p0 ∧ ¬ p0 < 0 ∧ r1 = 0)) (h2 : (p0 < 0 ∧ r2 = (-1000)) ∨ (¬ p0 < 0 ∧ 399 < p0 ∧ r2 = (-1000)) ∨ (¬ p0 < 0 ∧ ¬ 399 < p0 ∧ r2 = 0)) : r1 = r2 := by
  rcases h1 with ⟨a0, rfl⟩ | ⟨a0, a1, rfl⟩ | ⟨a0, a1, a2, rfl⟩
  · rcases h2 with ⟨b0, rfl⟩ | ⟨b0, b1, rfl⟩ | ⟨b0, b1, rfl⟩
    · exact rfl
    · exact rfl
    · exact absurd a0 b0
  · rcases h2 with ⟨b0, rfl⟩ | ⟨b0, b1, rfl⟩ | ⟨b0, b1, rfl⟩
    · exact rfl
    · exact rfl
    · exact absurd a1 b1
  · rcases h2 with ⟨b0, rfl⟩ | ⟨b0, b1, rfl⟩ | ⟨b0, b1, rfl⟩
    · exact absurd b0 a0
    · exact absurd b1 a1
    · exact rfl

theorem eq_X11_fault_v1_X12_fault_v1 (r1 r2 : Int32) (h1 : r1 = 0) (h2 : r2 = 0) : r1 = r2 := by
  obtain rfl := h1
  obtain rfl := h2
  exact rfl

theorem eq_X11_bundle_v1_X12_bundle_v1 (p0 : Int32) (p1 : Int32) (p2 : Int32) (p3 : Int32) (p4 : Int32) (r1 r2 : Int32) (h1 : (p0 < 0 ∧ r1 = (-1)) ∨ (¬ p0 < 0 ∧ 0 ≤ p0 ∧ r1 = (-1))) (h2 : (p0 < 0 ∧ r2 = (-1)) ∨ (¬ p0 < 0 ∧ 0 ≤ p0 ∧ r2 = (-1))) : r1 = r2 := by
  rcases h1 with ⟨a0, rfl⟩ | ⟨a0, a1, rfl⟩
  · rcases h2 with ⟨b0, rfl⟩ | ⟨b0, b1, rfl⟩
    · exact rfl
    · exact rfl
  · rcases h2 with ⟨b0, rfl⟩ | ⟨b0, b1, rfl⟩
    · exact rfl
    · exact rfl

theorem eq_X11_told_v1_X12_told_v1 (p0 : Int32) (p1 : Int32) (r1 r2 : Int32) (h1 : (p0 < 0 ∧ r1 = (-1)) ∨ (¬ p0 < 0 ∧ 0 ≤ p0 ∧ r1 = (-1))) (h2 : (p0 < 0 ∧ r2 = (-1)) ∨ (¬ p0 < 0 ∧ (-1) < p0 ∧ r2 = (-1))) : r1 = r2 := by
  rcases h1 with ⟨a0, rfl⟩ | ⟨a0, a1, rfl⟩
  · rcases h2 with ⟨b0, rfl⟩ | ⟨b0, b1, rfl⟩
    · exact rfl
    · exact rfl
  · rcases h2 with ⟨b0, rfl⟩ | ⟨b0, b1, rfl⟩
    · exact rfl
    · exact rfl

theorem eq_X11_why_v1_X12_why_v1 (r1 r2 : Int32) (h1 : r1 = (-1)) (h2 : r2 = (-1)) : r1 = r2 := by
  obtain rfl := h1
  obtain rfl := h2
  exact rfl

theorem eq_X11_close_v1_X12_close_v1 (r1 r2 : Int32) (h1 : r1 = 0) (h2 : r2 = 0) : r1 = r2 := by
  obtain rfl := h1
  obtain rfl := h2
  exact rfl

theorem eq_X11_counted_v1_X12_counted_v1 (p0 : Int32) (p1 : Int32) (p2 : Int32) (p3 : Int32) (r1 r2 : Int32) (h1 : (p0 < 0 ∧ r1 = (-1)) ∨ (¬ p0 < 0 ∧ 3 < p0 ∧ r1 = (-1)) ∨ (¬ p0 < 0 ∧ ¬ 3 < p0 ∧ p1 < 0 ∧ r1 = (-1)) ∨ (¬ p0 < 0 ∧ ¬ 3 < p0 ∧ ¬ p1 < 0 ∧ 9 < p1 ∧ r1 = (-1)) ∨ (¬ p0 < 0 ∧ ¬ 3 < p0 ∧ ¬ p1 < 0 ∧ ¬ 9 < p1 ∧ p2 < 0 ∧ r1 = (-1)) ∨ (¬ p0 < 0 ∧ ¬ 3 < p0 ∧ ¬ p1 < 0 ∧ ¬ 9 < p1 ∧ ¬ p2 < 0 ∧ (-1) < p2 ∧ r1 = (-1))) (h2 : (p0 < 0 ∧ r2 = (-1)) ∨ (¬ p0 < 0 ∧ 4 ≤ p0 ∧ r2 = (-1)) ∨ (¬ p0 < 0 ∧ ¬ 4 ≤ p0 ∧ p1 < 0 ∧ r2 = (-1)) ∨ (¬ p0 < 0 ∧ ¬ 4 ≤ p0 ∧ ¬ p1 < 0 ∧ 10 ≤ p1 ∧ r2 = (-1)) ∨ (¬ p0 < 0 ∧ ¬ 4 ≤ p0 ∧ ¬ p1 < 0 ∧ ¬ 10 ≤ p1 ∧ p2 < 0 ∧ r2 = (-1)) ∨ (¬ p0 < 0 ∧ ¬ 4 ≤ p0 ∧ ¬ p1 < 0 ∧ ¬ 10 ≤ p1 ∧ ¬ p2 < 0 ∧ (-1) < p2 ∧ r2 = (-1))) : r1 = r2 := by
  rcases h1 with ⟨a0, rfl⟩ | ⟨a0, a1, rfl⟩ | ⟨a0, a1, a2, rfl⟩ | ⟨a0, a1, a2, a3, rfl⟩ | ⟨a0, a1, a2, a3, a4, rfl⟩ | ⟨a0, a1, a2, a3, a4, a5, rfl⟩
  · rcases h2 with ⟨b0, rfl⟩ | ⟨b0, b1, rfl⟩ | ⟨b0, b1, b2, rfl⟩ | ⟨b0, b1, b2, b3, rfl⟩ | ⟨b0, b1, b2, b3, b4, rfl⟩ | ⟨b0, b1, b2, b3, b4, b5, rfl⟩
    · exact rfl
    · exact rfl
    · exact rfl
    · exact rfl
    · exact rfl
    · exact rfl
  · rcases h2 with ⟨b0, rfl⟩ | ⟨b0, b1, rfl⟩ | ⟨b0, b1, b2, rfl⟩ | ⟨b0, b1, b2, b3, rfl⟩ | ⟨b0, b1, b2, b3, b4, rfl⟩ | ⟨b0, b1, b2, b3, b4, b5, rfl⟩
    · exact rfl
    · exact rfl
    · exact rfl
    · exact rfl
    · exact rfl
    · exact rfl
  · rcases h2 with ⟨b0, rfl⟩ | ⟨b0, b1, rfl⟩ | ⟨b0, b1, b2, rfl⟩ | ⟨b0, b1, b2, b3, rfl⟩ | ⟨b0, b1, b2, b3, b4, rfl⟩ | ⟨b0, b1, b2, b3, b4, b5, rfl⟩
    · exact rfl
    · exact rfl
    · exact rfl
    · exact rfl
    · exact rfl
    · exact rfl
  · rcases h2 with ⟨b0, rfl⟩ | ⟨b0, b1, rfl⟩ | ⟨b0, b1, b2, rfl⟩ | ⟨b0, b1, b2, b3, rfl⟩ | ⟨b0, b1, b2, b3, b4, rfl⟩ | ⟨b0, b1, b2, b3, b4, b5, rfl⟩
    · exact rfl
    · exact rfl
    · exact rfl
    · exact rfl
    · exact rfl
    · exact rfl
  · rcases h2 with ⟨b0, rfl⟩ | ⟨b0, b1, rfl⟩ | ⟨b0, b1, b2, rfl⟩ | ⟨b0, b1, b2, b3, rfl⟩ | ⟨b0, b1, b2, b3, b4, rfl⟩ | ⟨b0, b1, b2, b3, b4, b5, rfl⟩
    · exact rfl
    · exact rfl
    · exact rfl
    · exact rfl
    · exact rfl
    · exact rfl
  · rcases h2 with ⟨b0, rfl⟩ | ⟨b0, b1, rfl⟩ | ⟨b0, b1, b2, rfl⟩ | ⟨b0, b1, b2, b3, rfl⟩ | ⟨b0, b1, b2, b3, b4, rfl⟩ | ⟨b0, b1, b2, b3, b4, b5, rfl⟩
    · exact rfl
    · exact rfl
    · exact rfl
    · exact rfl
    · exact rfl
    · exact rfl

theorem eq_X11_falseCounts_v1_X12_falseCounts_v1 (p0 : Int32) (r1 r2 : Int32) (h1 : r1 = 0) (h2 : r2 = 0) : r1 = r2 := by
  obtain rfl := h1
  obtain rfl := h2
  exact rfl

theorem eq_X11_shortOf_v1_X12_shortOf_v1 (p0 : Int32) (r1 r2 : Int32) (h1 : r1 = 0) (h2 : r2 = 0) : r1 = r2 := by
  obtain rfl := h1
  obtain rfl := h2
  exact rfl

theorem eq_X11_best_v1_X12_best_v1 (p0 : Int32) (p1 : Int32) (p2 : Int32) (p3 : Int32) (p4 : Int32) (r1 r2 : Int32) (h1 : (p0 < 0 ∧ r1 = (-1)) ∨ (¬ p0 < 0 ∧ 9 < p0 ∧ r1 = (-1)) ∨ (¬ p0 < 0 ∧ ¬ 9 < p0 ∧ p1 < 0 ∧ r1 = (-1)) ∨ (¬ p0 < 0 ∧ ¬ 9 < p0 ∧ ¬ p1 < 0 ∧ 3 < p1 ∧ r1 = (-1)) ∨ (¬ p0 < 0 ∧ ¬ 9 < p0 ∧ ¬ p1 < 0 ∧ ¬ 3 < p1 ∧ p2 < 0 ∧ r1 = (-1)) ∨ (¬ p0 < 0 ∧ ¬ 9 < p0 ∧ ¬ p1 < 0 ∧ ¬ 3 < p1 ∧ ¬ p2 < 0 ∧ 1000 < p2 ∧ r1 = (-1)) ∨ (¬ p0 < 0 ∧ ¬ 9 < p0 ∧ ¬ p1 < 0 ∧ ¬ 3 < p1 ∧ ¬ p2 < 0 ∧ ¬ 1000 < p2 ∧ p3 < 0 ∧ r1 = (-1)) ∨ (¬ p0 < 0 ∧ ¬ 9 < p0 ∧ ¬ p1 < 0 ∧ ¬ 3 < p1 ∧ ¬ p2 < 0 ∧ ¬ 1000 < p2 ∧ ¬ p3 < 0 ∧ 1000 < p3 ∧ r1 = (-1)) ∨ (¬ p0 < 0 ∧ ¬ 9 < p0 ∧ ¬ p1 < 0 ∧ ¬ 3 < p1 ∧ ¬ p2 < 0 ∧ ¬ 1000 < p2 ∧ ¬ p3 < 0 ∧ ¬ 1000 < p3 ∧ p4 < 0 ∧ r1 = (-1)) ∨ (¬ p0 < 0 ∧ ¬ 9 < p0 ∧ ¬ p1 < 0 ∧ ¬ 3 < p1 ∧ ¬ p2 < 0 ∧ ¬ 1000 < p2 ∧ ¬ p3 < 0 ∧ ¬ 1000 < p3 ∧ ¬ p4 < 0 ∧ 100 < p4 ∧ r1 = (-1)) ∨ (¬ p0 < 0 ∧ ¬ 9 < p0 ∧ ¬ p1 < 0 ∧ ¬ 3 < p1 ∧ ¬ p2 < 0 ∧ ¬ 1000 < p2 ∧ ¬ p3 < 0 ∧ ¬ 1000 < p3 ∧ ¬ p4 < 0 ∧ ¬ 100 < p4 ∧ r1 = (-1))) (h2 : r2 = (-1)) : r1 = r2 := by
  rcases h1 with ⟨a0, rfl⟩ | ⟨a0, a1, rfl⟩ | ⟨a0, a1, a2, rfl⟩ | ⟨a0, a1, a2, a3, rfl⟩ | ⟨a0, a1, a2, a3, a4, rfl⟩ | ⟨a0, a1, a2, a3, a4, a5, rfl⟩ | ⟨a0, a1, a2, a3, a4, a5, a6, rfl⟩ | ⟨a0, a1, a2, a3, a4, a5, a6, a7, rfl⟩ | ⟨a0, a1, a2, a3, a4, a5, a6, a7, a8, rfl⟩ | ⟨a0, a1, a2, a3, a4, a5, a6, a7, a8, a9, rfl⟩ | ⟨a0, a1, a2, a3, a4, a5, a6, a7, a8, a9, rfl⟩
  · obtain rfl := h2
    rfl
  · obtain rfl := h2
    rfl
  · obtain rfl := h2
    rfl
  · obtain rfl := h2
    rfl
  · obtain rfl := h2
    rfl
  · obtain rfl := h2
    rfl
  · obtain rfl := h2
    rfl
  · obtain rfl := h2
    rfl
  · obtain rfl := h2
    rfl
  · obtain rfl := h2
    rfl
  · obtain rfl := h2
    rfl

theorem eq_X11_tried_v1_X12_tried_v1 (r1 r2 : Int32) (h1 : r1 = 0) (h2 : r2 = 0) : r1 = r2 := by
  obtain rfl := h1
  obtain rfl := h2
  exact rfl

theorem eq_X11_triedEaten_v1_X12_triedEaten_v1 (r1 r2 : Int32) (h1 : r1 = (-1)) (h2 : r2 = (-1)) : r1 = r2 := by
  obtain rfl := h1
  obtain rfl := h2
  exact rfl

theorem eq_X11_parted_v1_X12_parted_v1 (p0 : Int32) (p1 : Int32) (p2 : Int32) (r1 r2 : Int32) (h1 : (p0 < 1 ∧ r1 = (-1)) ∨ (¬ p0 < 1 ∧ 8 < p0 ∧ r1 = (-1)) ∨ (¬ p0 < 1 ∧ ¬ 8 < p0 ∧ ¬ 0 = ((2 * p0) * p0) ∧ r1 = (-1))) (h2 : (p0 < 1 ∧ r2 = (-1)) ∨ (¬ p0 < 1 ∧ 8 < p0 ∧ r2 = (-1)) ∨ (¬ p0 < 1 ∧ ¬ 8 < p0 ∧ ¬ 0 = ((2 * p0) * p0) ∧ r2 = (-1))) : r1 = r2 := by
  rcases h1 with ⟨a0, rfl⟩ | ⟨a0, a1, rfl⟩ | ⟨a0, a1, a2, rfl⟩
  · rcases h2 with ⟨b0, rfl⟩ | ⟨b0, b1, rfl⟩ | ⟨b0, b1, b2, rfl⟩
    · exact rfl
    · exact rfl
    · exact rfl
  · rcases h2 with ⟨b0, rfl⟩ | ⟨b0, b1, rfl⟩ | ⟨b0, b1, b2, rfl⟩
    · exact rfl
    · exact rfl
    · exact rfl
  · rcases h2 with ⟨b0, rfl⟩ | ⟨b0, b1, rfl⟩ | ⟨b0, b1, b2, rfl⟩
    · exact rfl
    · exact rfl
    · exact rfl

theorem eq_X11_partedAt_v1_X12_partedAt_v1 (p0 : Int32) (r1 r2 : Int32) (h1 : (p0 < 0 ∧ r1 = (-1)) ∨ (¬ p0 < 0 ∧ (-1) < p0 ∧ r1 = (-1))) (h2 : r2 = (-1)) : r1 = r2 := by
  rcases h1 with ⟨a0, rfl⟩ | ⟨a0, a1, rfl⟩
  · obtain rfl := h2
    rfl
  · obtain rfl := h2
    rfl

theorem eq_X11_peace_v1_X12_peace_v1 (p0 : Int32) (r1 r2 : Int32) (h1 : r1 = (-1)) (h2 : r2 = (-1)) : r1 = r2 := by
  obtain rfl := h1
  obtain rfl := h2
  exact rfl

theorem eq_X11_truck_v1_X12_truck_v1 (r1 r2 : Int32) (h1 : r1 = (-1)) (h2 : r2 = (-1)) : r1 = r2 := by
  obtain rfl := h1
  obtain rfl := h2
  exact rfl

theorem eq_X11_truckAt_v1_X12_truckAt_v1 (p0 : Int32) (r1 r2 : Int32) (h1 : (p0 < 0 ∧ r1 = (-1)) ∨ (¬ p0 < 0 ∧ (-1) < p0 ∧ r1 = (-1))) (h2 : r2 = (-1)) : r1 = r2 := by
  rcases h1 with ⟨a0, rfl⟩ | ⟨a0, a1, rfl⟩
  · obtain rfl := h2
    rfl
  · obtain rfl := h2
    rfl

theorem eq_X11_strike_v1_X12_strike_v1 (p0 : Int32) (p1 : Int32) (p2 : Int32) (p3 : Int32) (p4 : Int32) (r1 r2 : Int32) (h1 : (p0 < 0 ∧ r1 = (-1)) ∨ (¬ p0 < 0 ∧ 100000 < p0 ∧ r1 = (-1)) ∨ (¬ p0 < 0 ∧ ¬ 100000 < p0 ∧ p1 < 0 ∧ r1 = (-1)) ∨ (¬ p0 < 0 ∧ ¬ 100000 < p0 ∧ ¬ p1 < 0 ∧ 100000 < p1 ∧ r1 = (-1)) ∨ (¬ p0 < 0 ∧ ¬ 100000 < p0 ∧ ¬ p1 < 0 ∧ ¬ 100000 < p1 ∧ p2 < 0 ∧ r1 = (-1)) ∨ (¬ p0 < 0 ∧ ¬ 100000 < p0 ∧ ¬ p1 < 0 ∧ ¬ 100000 < p1 ∧ ¬ p2 < 0 ∧ 100000 < p2 ∧ r1 = (-1)) ∨ (¬ p0 < 0 ∧ ¬ 100000 < p0 ∧ ¬ p1 < 0 ∧ ¬ 100000 < p1 ∧ ¬ p2 < 0 ∧ ¬ 100000 < p2 ∧ p3 < 0 ∧ r1 = (-1)) ∨ (¬ p0 < 0 ∧ ¬ 100000 < p0 ∧ ¬ p1 < 0 ∧ ¬ 100000 < p1 ∧ ¬ p2 < 0 ∧ ¬ 100000 < p2 ∧ ¬ p3 < 0 ∧ 100000 < p3 ∧ r1 = (-1)) ∨ (¬ p0 < 0 ∧ ¬ 100000 < p0 ∧ ¬ p1 < 0 ∧ ¬ 100000 < p1 ∧ ¬ p2 < 0 ∧ ¬ 100000 < p2 ∧ ¬ p3 < 0 ∧ ¬ 100000 < p3 ∧ p4 < 0 ∧ r1 = (-1)) ∨ (¬ p0 < 0 ∧ ¬ 100000 < p0 ∧ ¬ p1 < 0 ∧ ¬ 100000 < p1 ∧ ¬ p2 < 0 ∧ ¬ 100000 < p2 ∧ ¬ p3 < 0 ∧ ¬ 100000 < p3 ∧ ¬ p4 < 0 ∧ 100000 < p4 ∧ r1 = (-1)) ∨ (¬ p0 < 0 ∧ ¬ 100000 < p0 ∧ ¬ p1 < 0 ∧ ¬ 100000 < p1 ∧ ¬ p2 < 0 ∧ ¬ 100000 < p2 ∧ ¬ p3 < 0 ∧ ¬ 100000 < p3 ∧ ¬ p4 < 0 ∧ ¬ 100000 < p4 ∧ r1 = (-1))) (h2 : r2 = (-1)) : r1 = r2 := by
  rcases h1 with ⟨a0, rfl⟩ | ⟨a0, a1, rfl⟩ | ⟨a0, a1, a2, rfl⟩ | ⟨a0, a1, a2, a3, rfl⟩ | ⟨a0, a1, a2, a3, a4, rfl⟩ | ⟨a0, a1, a2, a3, a4, a5, rfl⟩ | ⟨a0, a1, a2, a3, a4, a5, a6, rfl⟩ | ⟨a0, a1, a2, a3, a4, a5, a6, a7, rfl⟩ | ⟨a0, a1, a2, a3, a4, a5, a6, a7, a8, rfl⟩ | ⟨a0, a1, a2, a3, a4, a5, a6, a7, a8, a9, rfl⟩ | ⟨a0, a1, a2, a3, a4, a5, a6, a7, a8, a9, rfl⟩
  · obtain rfl := h2
    rfl
  · obtain rfl := h2
    rfl
  · obtain rfl := h2
    rfl
  · obtain rfl := h2
    rfl
  · obtain rfl := h2
    rfl
  · obtain rfl := h2
    rfl
  · obtain rfl := h2
    rfl
  · obtain rfl := h2
    rfl
  · obtain rfl := h2
    rfl
  · obtain rfl := h2
    rfl
  · obtain rfl := h2
    rfl

theorem eq_X11_struck_v1_X12_struck_v1 (p0 : Int32) (r1 r2 : Int32) (h1 : (¬ p0 = 0 ∧ ¬ p0 = 1 ∧ r1 = (-1)) ∨ (¬ p0 = 0 ∧ p0 = 1 ∧ r1 = (-1)) ∨ (p0 = 0 ∧ r1 = (-1))) (h2 : (¬ p0 = 0 ∧ ¬ p0 = 1 ∧ r2 = (-1)) ∨ (¬ p0 = 0 ∧ p0 = 1 ∧ r2 = (-1)) ∨ (p0 = 0 ∧ r2 = (-1))) : r1 = r2 := by
  rcases h1 with ⟨a0, a1, rfl⟩ | ⟨a0, a1, rfl⟩ | ⟨a0, rfl⟩
  · rcases h2 with ⟨b0, b1, rfl⟩ | ⟨b0, b1, rfl⟩ | ⟨b0, rfl⟩
    · exact rfl
    · exact rfl
    · exact rfl
  · rcases h2 with ⟨b0, b1, rfl⟩ | ⟨b0, b1, rfl⟩ | ⟨b0, rfl⟩
    · exact rfl
    · exact rfl
    · exact rfl
  · rcases h2 with ⟨b0, b1, rfl⟩ | ⟨b0, b1, rfl⟩ | ⟨b0, rfl⟩
    · exact rfl
    · exact rfl
    · exact rfl

theorem eq_X11_count_v1_X12_count_v1 (p0 : Int32) (r1 r2 : Int32) (h1 : (p0 = 0 ∧ r1 = 0) ∨ (p0 = 1 ∧ r1 = 0) ∨ (p0 = 2 ∧ r1 = 0) ∨ (p0 = 3 ∧ r1 = 0) ∨ (p0 = 4 ∧ r1 = 0) ∨ (p0 = 5 ∧ r1 = 0) ∨ ((p0.toInt < 0 ∨ 5 < p0.toInt) ∧ r1 = (-1))) (h2 : (p0 = 0 ∧ r2 = 0) ∨ (p0 = 1 ∧ r2 = 0) ∨ (p0 = 2 ∧ r2 = 0) ∨ (p0 = 3 ∧ r2 = 0) ∨ (p0 = 4 ∧ r2 = 0) ∨ (p0 = 5 ∧ r2 = 0) ∨ ((p0.toInt < 0 ∨ 5 < p0.toInt) ∧ r2 = (-1))) : r1 = r2 := by
  rcases h1 with ⟨a0, rfl⟩ | ⟨a0, rfl⟩ | ⟨a0, rfl⟩ | ⟨a0, rfl⟩ | ⟨a0, rfl⟩ | ⟨a0, rfl⟩ | ⟨a0, rfl⟩
  · rcases h2 with ⟨b0, rfl⟩ | ⟨b0, rfl⟩ | ⟨b0, rfl⟩ | ⟨b0, rfl⟩ | ⟨b0, rfl⟩ | ⟨b0, rfl⟩ | ⟨b0, rfl⟩
    · exact rfl
    · exact rfl
    · exact rfl
    · exact rfl
    · exact rfl
    · exact rfl
    · exact (by have y0 := fa_eq a0 (show (0 : Int32).toInt = 0 from by decide); have y1 := b0; omega : False).elim
  · rcases h2 with ⟨b0, rfl⟩ | ⟨b0, rfl⟩ | ⟨b0, rfl⟩ | ⟨b0, rfl⟩ | ⟨b0, rfl⟩ | ⟨b0, rfl⟩ | ⟨b0, rfl⟩
    · exact rfl
    · exact rfl
    · exact rfl
    · exact rfl
    · exact rfl
    · exact rfl
    · exact (by have y0 := fa_eq a0 (show (1 : Int32).toInt = 1 from by decide); have y1 := b0; omega : False).elim
  · rcases h2 with ⟨b0, rfl⟩ | ⟨b0, rfl⟩ | ⟨b0, rfl⟩ | ⟨b0, rfl⟩ | ⟨b0, rfl⟩ | ⟨b0, rfl⟩ | ⟨b0, rfl⟩
    · exact rfl
    · exact rfl
    · exact rfl
    · exact rfl
    · exact rfl
    · exact rfl
    · exact (by have y0 := fa_eq a0 (show (2 : Int32).toInt = 2 from by decide); have y1 := b0; omega : False).elim
  · rcases h2 with ⟨b0, rfl⟩ | ⟨b0, rfl⟩ | ⟨b0, rfl⟩ | ⟨b0, rfl⟩ | ⟨b0, rfl⟩ | ⟨b0, rfl⟩ | ⟨b0, rfl⟩
    · exact rfl
    · exact rfl
    · exact rfl
    · exact rfl
    · exact rfl
    · exact rfl
    · exact (by have y0 := fa_eq a0 (show (3 : Int32).toInt = 3 from by decide); have y1 := b0; omega : False).elim
  · rcases h2 with ⟨b0, rfl⟩ | ⟨b0, rfl⟩ | ⟨b0, rfl⟩ | ⟨b0, rfl⟩ | ⟨b0, rfl⟩ | ⟨b0, rfl⟩ | ⟨b0, rfl⟩
    · exact rfl
    · exact rfl
    · exact rfl
    · exact rfl
    · exact rfl
    · exact rfl
    · exact (by have y0 := fa_eq a0 (show (4 : Int32).toInt = 4 from by decide); have y1 := b0; omega : False).elim
  · rcases h2 with ⟨b0, rfl⟩ | ⟨b0, rfl⟩ | ⟨b0, rfl⟩ | ⟨b0, rfl⟩ | ⟨b0, rfl⟩ | ⟨b0, rfl⟩ | ⟨b0, rfl⟩
    · exact rfl
    · exact rfl
    · exact rfl
    · exact rfl
    · exact rfl
    · exact rfl
    · exact (by have y0 := fa_eq a0 (show (5 : Int32).toInt = 5 from by decide); have y1 := b0; omega : False).elim
  · rcases h2 with ⟨b0, rfl⟩ | ⟨b0, rfl⟩ | ⟨b0, rfl⟩ | ⟨b0, rfl⟩ | ⟨b0, rfl⟩ | ⟨b0, rfl⟩ | ⟨b0, rfl⟩
    · exact (by have y0 := a0; have y1 := fa_eq b0 (show (0 : Int32).toInt = 0 from by decide); omega : False).elim
    · exact (by have y0 := a0; have y1 := fa_eq b0 (show (1 : Int32).toInt = 1 from by decide); omega : False).elim
    · exact (by have y0 := a0; have y1 := fa_eq b0 (show (2 : Int32).toInt = 2 from by decide); omega : False).elim
    · exact (by have y0 := a0; have y1 := fa_eq b0 (show (3 : Int32).toInt = 3 from by decide); omega : False).elim
    · exact (by have y0 := a0; have y1 := fa_eq b0 (show (4 : Int32).toInt = 4 from by decide); omega : False).elim
    · exact (by have y0 := a0; have y1 := fa_eq b0 (show (5 : Int32).toInt = 5 from by decide); omega : False).elim
    · exact rfl
