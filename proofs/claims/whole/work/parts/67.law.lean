section
variable {sc : SC} {I : HI} {L : HL} {R : HR} {N : HN} {n : Nat} {Q : HQ} {mc ms : Nat}
theorem cmp_self (x : Int64) : lg_cmp x x = 0 := by
  unfold lg_cmp
  simp
set_option maxRecDepth 20000 in
theorem lL_sort {i : Nat} (hi : i + 6 ≤ sc.1) (hL : sc.1 ≤ 3072) (h : INV I R N n) (hk : ∀ (I' : HI) (L' : HL) (R' : HR) (N' : HN) (n' : Nat), INV I' R' N' n' → WP sc 82 mc ms mL_law 1426 [vS 4, vR 9 0, vR 10 117, vI (nI i)] [] I' L' R' N' n' Q) : WP sc 82 (mc + 2) (ms + 99) mL_law 212 [vS 4, vR 9 0, vR 10 117, vI (nI i)] [] I L R N n Q := by
  have h0 := h
  obtain ⟨hs, hn, ⟨hV, hC⟩, hPI, hPT, ⟨hSO, hSH⟩, ⟨hSL, hSC⟩, hPZ, hKY⟩ := h
  refine WP.room (mc := mc) (ms := ms) ?_ (by omega) (by omega)
  refine w_aload_n dL_law_212 rfl ?_
  refine w_aload_nS dL_law_213 rfl ?_
  refine w_iload_n dL_law_214 rfl ?_
  refine w_iconst dL_law_215 ic_1 ?_
  refine w_iadd dL_law_216 ?_
  refine w_sald (q := i + 1) dL_law_217 (by decide) (nI_add i 1) (show svN sc 4 = sc.1 from rfl) (by omega) ?_ (by omega)
  refine w_aload_nS dL_law_218 rfl ?_
  refine w_iload_n dL_law_219 rfl ?_
  refine w_iconst dL_law_220 ic_2 ?_
  refine w_iadd dL_law_221 ?_
  refine w_sald (q := i + 2) dL_law_222 (by decide) (nI_add i 2) (show svN sc 4 = sc.1 from rfl) (by omega) ?_ (by omega)
  refine w_aload_nS dL_law_223 rfl ?_
  refine w_iload_n dL_law_224 rfl ?_
  refine w_iconst dL_law_225 ic_3 ?_
  refine w_iadd dL_law_226 ?_
  refine w_sald (q := i + 3) dL_law_227 (by decide) (nI_add i 3) (show svN sc 4 = sc.1 from rfl) (by omega) ?_ (by omega)
  refine c_V (t := 9) (as := [_, _, _]) (d' := 2) dL_law_228 mlL_13 moX9_sort mvX9_sort ⟨rfl, rfl⟩ rfl rfl rfl rfl rfl (by decide) (sX9_sort hs hV hC (fun I1 hF1 hC1 => ?_))
  have h18 : I1 118 = I 118 := hF1 118 (by unfold FC; omega)
  refine w_aload_n dL_law_231 rfl ?_
  refine w_aload_nS dL_law_232 rfl ?_
  refine w_iload_n dL_law_233 rfl ?_
  refine w_iconst dL_law_234 ic_1 ?_
  refine w_iadd dL_law_235 ?_
  refine w_sald (q := i + 1) dL_law_236 (by decide) (nI_add i 1) (show svN sc 4 = sc.1 from rfl) (by omega) ?_ (by omega)
  refine w_aload_nS dL_law_237 rfl ?_
  refine w_iload_n dL_law_238 rfl ?_
  refine w_iconst dL_law_239 ic_2 ?_
  refine w_iadd dL_law_240 ?_
  refine w_sald (q := i + 2) dL_law_241 (by decide) (nI_add i 2) (show svN sc 4 = sc.1 from rfl) (by omega) ?_ (by omega)
  refine w_aload_nS dL_law_242 rfl ?_
  refine w_iload_n dL_law_243 rfl ?_
  refine w_iconst dL_law_244 ic_3 ?_
  refine w_iadd dL_law_245 ?_
  refine w_sald (q := i + 3) dL_law_246 (by decide) (nI_add i 3) (show svN sc 4 = sc.1 from rfl) (by omega) ?_ (by omega)
  refine c_V (t := 10) (as := [_, _, _]) (d' := 1) dL_law_247 mlL_17 moX10_sort mvX10_sort ⟨rfl, rfl⟩ rfl rfl rfl rfl rfl (by decide) (sX10_sort hs h18 hV (fun I2 hF2 h118 => ?_))
  refine w_icmp_eq (tgt := 1426) dL_law_250 (by decide) (fun c250 => ?_) (fun c250 => ?_)
  · exact hk I2 L R N n (inv_W h0 (VO_oSort hV _ _ _) hF1 hC1 hF2 h118)
  · exact absurd rfl c250

set_option maxRecDepth 20000 in
theorem lL_sortTold {i : Nat} (hi : i + 6 ≤ sc.1) (hL : sc.1 ≤ 3072) (h : INV I R N n) (hk : ∀ (I' : HI) (L' : HL) (R' : HR) (N' : HN) (n' : Nat), INV I' R' N' n' → WP sc 82 mc ms mL_law 1426 [vS 4, vR 9 0, vR 10 117, vI (nI i)] [] I' L' R' N' n' Q) : WP sc 82 (mc + 2) (ms + 99) mL_law 255 [vS 4, vR 9 0, vR 10 117, vI (nI i)] [] I L R N n Q := by
  have h0 := h
  obtain ⟨hs, hn, ⟨hV, hC⟩, hPI, hPT, ⟨hSO, hSH⟩, ⟨hSL, hSC⟩, hPZ, hKY⟩ := h
  refine WP.room (mc := mc) (ms := ms) ?_ (by omega) (by omega)
  refine w_aload_n dL_law_255 rfl ?_
  refine w_aload_nS dL_law_256 rfl ?_
  refine w_iload_n dL_law_257 rfl ?_
  refine w_iconst dL_law_258 ic_1 ?_
  refine w_iadd dL_law_259 ?_
  refine w_sald (q := i + 1) dL_law_260 (by decide) (nI_add i 1) (show svN sc 4 = sc.1 from rfl) (by omega) ?_ (by omega)
  refine w_aload_nS dL_law_261 rfl ?_
  refine w_iload_n dL_law_262 rfl ?_
  refine w_iconst dL_law_263 ic_2 ?_
  refine w_iadd dL_law_264 ?_
  refine w_sald (q := i + 2) dL_law_265 (by decide) (nI_add i 2) (show svN sc 4 = sc.1 from rfl) (by omega) ?_ (by omega)
  refine c_V (t := 9) (as := [_, _]) (d' := 2) dL_law_266 mlL_18 moX9_sortTold mvX9_sortTold ⟨rfl, rfl⟩ rfl rfl rfl rfl rfl (by decide) (sX9_sortTold hs hV hC ?_)
  refine w_aload_n dL_law_269 rfl ?_
  refine w_aload_nS dL_law_270 rfl ?_
  refine w_iload_n dL_law_271 rfl ?_
  refine w_iconst dL_law_272 ic_1 ?_
  refine w_iadd dL_law_273 ?_
  refine w_sald (q := i + 1) dL_law_274 (by decide) (nI_add i 1) (show svN sc 4 = sc.1 from rfl) (by omega) ?_ (by omega)
  refine w_aload_nS dL_law_275 rfl ?_
  refine w_iload_n dL_law_276 rfl ?_
  refine w_iconst dL_law_277 ic_2 ?_
  refine w_iadd dL_law_278 ?_
  refine w_sald (q := i + 2) dL_law_279 (by decide) (nI_add i 2) (show svN sc 4 = sc.1 from rfl) (by omega) ?_ (by omega)
  refine c_V (t := 10) (as := [_, _]) (d' := 2) dL_law_280 mlL_22 moX10_sortTold mvX10_sortTold ⟨rfl, rfl⟩ rfl rfl rfl rfl rfl (by decide) (sX10_sortTold hs (V := I 118) rfl hV ?_)
  refine w_icmp_eq (tgt := 1426) dL_law_283 (by decide) (fun c283 => ?_) (fun c283 => ?_)
  · exact hk I L R N n h0
  · exact absurd rfl c283

set_option maxRecDepth 20000 in
theorem lL_change {i : Nat} (hi : i + 6 ≤ sc.1) (hL : sc.1 ≤ 3072) (h : INV I R N n) (hk : ∀ (I' : HI) (L' : HL) (R' : HR) (N' : HN) (n' : Nat), INV I' R' N' n' → WP sc 82 mc ms mL_law 1426 [vS 4, vR 9 0, vR 10 117, vI (nI i)] [] I' L' R' N' n' Q) : WP sc 82 (mc + 2) (ms + 99) mL_law 288 [vS 4, vR 9 0, vR 10 117, vI (nI i)] [] I L R N n Q := by
  have h0 := h
  obtain ⟨hs, hn, ⟨hV, hC⟩, hPI, hPT, ⟨hSO, hSH⟩, ⟨hSL, hSC⟩, hPZ, hKY⟩ := h
  refine WP.room (mc := mc) (ms := ms) ?_ (by omega) (by omega)
  refine w_aload_n dL_law_288 rfl ?_
  refine w_aload_nS dL_law_289 rfl ?_
  refine w_iload_n dL_law_290 rfl ?_
  refine w_iconst dL_law_291 ic_1 ?_
  refine w_iadd dL_law_292 ?_
  refine w_sald (q := i + 1) dL_law_293 (by decide) (nI_add i 1) (show svN sc 4 = sc.1 from rfl) (by omega) ?_ (by omega)
  refine w_aload_nS dL_law_294 rfl ?_
  refine w_iload_n dL_law_295 rfl ?_
  refine w_iconst dL_law_296 ic_2 ?_
  refine w_iadd dL_law_297 ?_
  refine w_sald (q := i + 2) dL_law_298 (by decide) (nI_add i 2) (show svN sc 4 = sc.1 from rfl) (by omega) ?_ (by omega)
  refine w_aload_nS dL_law_299 rfl ?_
  refine w_iload_n dL_law_300 rfl ?_
  refine w_iconst dL_law_301 ic_3 ?_
  refine w_iadd dL_law_302 ?_
  refine w_sald (q := i + 3) dL_law_303 (by decide) (nI_add i 3) (show svN sc 4 = sc.1 from rfl) (by omega) ?_ (by omega)
  refine c_V (t := 9) (as := [_, _, _]) (d' := 2) dL_law_304 mlL_23 moX9_change mvX9_change ⟨rfl, rfl⟩ rfl rfl rfl rfl rfl (by decide) (sX9_change hs hV hC (fun I1 hF1 hC1 => ?_))
  have h18 : I1 118 = I 118 := hF1 118 (by unfold FC; omega)
  refine w_aload_n dL_law_307 rfl ?_
  refine w_aload_nS dL_law_308 rfl ?_
  refine w_iload_n dL_law_309 rfl ?_
  refine w_iconst dL_law_310 ic_1 ?_
  refine w_iadd dL_law_311 ?_
  refine w_sald (q := i + 1) dL_law_312 (by decide) (nI_add i 1) (show svN sc 4 = sc.1 from rfl) (by omega) ?_ (by omega)
  refine w_aload_nS dL_law_313 rfl ?_
  refine w_iload_n dL_law_314 rfl ?_
  refine w_iconst dL_law_315 ic_2 ?_
  refine w_iadd dL_law_316 ?_
  refine w_sald (q := i + 2) dL_law_317 (by decide) (nI_add i 2) (show svN sc 4 = sc.1 from rfl) (by omega) ?_ (by omega)
  refine w_aload_nS dL_law_318 rfl ?_
  refine w_iload_n dL_law_319 rfl ?_
  refine w_iconst dL_law_320 ic_3 ?_
  refine w_iadd dL_law_321 ?_
  refine w_sald (q := i + 3) dL_law_322 (by decide) (nI_add i 3) (show svN sc 4 = sc.1 from rfl) (by omega) ?_ (by omega)
  refine c_V (t := 10) (as := [_, _, _]) (d' := 2) dL_law_323 mlL_26 moX10_change mvX10_change ⟨rfl, rfl⟩ rfl rfl rfl rfl rfl (by decide) (sX10_change hs h18 hV (fun I2 hF2 h118 => ?_))
  refine w_icmp_eq (tgt := 1426) dL_law_326 (by decide) (fun c326 => ?_) (fun c326 => ?_)
  · exact hk I2 L R N n (inv_W h0 (VO_oChange hV _ _ _) hF1 hC1 hF2 h118)
  · exact absurd rfl c326

set_option maxRecDepth 20000 in
theorem lL_deal {i : Nat} (hi : i + 6 ≤ sc.1) (hL : sc.1 ≤ 3072) (h : INV I R N n) (hk : ∀ (I' : HI) (L' : HL) (R' : HR) (N' : HN) (n' : Nat), INV I' R' N' n' → WP sc 82 mc ms mL_law 1426 [vS 4, vR 9 0, vR 10 117, vI (nI i)] [] I' L' R' N' n' Q) : WP sc 82 (mc + 2) (ms + 99) mL_law 331 [vS 4, vR 9 0, vR 10 117, vI (nI i)] [] I L R N n Q := by
  have h0 := h
  obtain ⟨hs, hn, ⟨hV, hC⟩, hPI, hPT, ⟨hSO, hSH⟩, ⟨hSL, hSC⟩, hPZ, hKY⟩ := h
  refine WP.room (mc := mc) (ms := ms) ?_ (by omega) (by omega)
  refine w_aload_n dL_law_331 rfl ?_
  refine w_aload_nS dL_law_332 rfl ?_
  refine w_iload_n dL_law_333 rfl ?_
  refine w_iconst dL_law_334 ic_1 ?_
  refine w_iadd dL_law_335 ?_
  refine w_sald (q := i + 1) dL_law_336 (by decide) (nI_add i 1) (show svN sc 4 = sc.1 from rfl) (by omega) ?_ (by omega)
  refine c_V (t := 9) (as := [_]) (d' := 3) dL_law_337 mlL_27 moX9_deal mvX9_deal ⟨rfl, rfl⟩ rfl rfl rfl rfl rfl (by decide) (sX9_deal hs hV hC (fun I1 hF1 hC1 => ?_))
  have h18 : I1 118 = I 118 := hF1 118 (by unfold FC; omega)
  refine w_aload_n dL_law_340 rfl ?_
  refine w_aload_nS dL_law_341 rfl ?_
  refine w_iload_n dL_law_342 rfl ?_
  refine w_iconst dL_law_343 ic_1 ?_
  refine w_iadd dL_law_344 ?_
  refine w_sald (q := i + 1) dL_law_345 (by decide) (nI_add i 1) (show svN sc 4 = sc.1 from rfl) (by omega) ?_ (by omega)
  refine c_V (t := 10) (as := [_]) (d' := 1) dL_law_346 mlL_31 moX10_deal mvX10_deal ⟨rfl, rfl⟩ rfl rfl rfl rfl rfl (by decide) (sX10_deal hs h18 hV (fun I2 hF2 h118 => ?_))
  refine w_icmp_eq (tgt := 1426) dL_law_349 (by decide) (fun c349 => ?_) (fun c349 => ?_)
  · exact hk I2 L R N n (inv_W h0 (VO_oDeal hV _) hF1 hC1 hF2 h118)
  · exact absurd rfl c349

set_option maxRecDepth 20000 in
theorem lL_rule {i : Nat} (hi : i + 6 ≤ sc.1) (hL : sc.1 ≤ 3072) (h : INV I R N n) (hk : ∀ (I' : HI) (L' : HL) (R' : HR) (N' : HN) (n' : Nat), INV I' R' N' n' → WP sc 82 mc ms mL_law 1426 [vS 4, vR 9 0, vR 10 117, vI (nI i)] [] I' L' R' N' n' Q) : WP sc 82 (mc + 2) (ms + 99) mL_law 354 [vS 4, vR 9 0, vR 10 117, vI (nI i)] [] I L R N n Q := by
  have h0 := h
  obtain ⟨hs, hn, ⟨hV, hC⟩, hPI, hPT, ⟨hSO, hSH⟩, ⟨hSL, hSC⟩, hPZ, hKY⟩ := h
  refine WP.room (mc := mc) (ms := ms) ?_ (by omega) (by omega)
  refine w_aload_n dL_law_354 rfl ?_
  refine w_aload_nS dL_law_355 rfl ?_
  refine w_iload_n dL_law_356 rfl ?_
  refine w_iconst dL_law_357 ic_1 ?_
  refine w_iadd dL_law_358 ?_
  refine w_sald (q := i + 1) dL_law_359 (by decide) (nI_add i 1) (show svN sc 4 = sc.1 from rfl) (by omega) ?_ (by omega)
  refine w_aload_nS dL_law_360 rfl ?_
  refine w_iload_n dL_law_361 rfl ?_
  refine w_iconst dL_law_362 ic_2 ?_
  refine w_iadd dL_law_363 ?_
  refine w_sald (q := i + 2) dL_law_364 (by decide) (nI_add i 2) (show svN sc 4 = sc.1 from rfl) (by omega) ?_ (by omega)
  refine w_aload_nS dL_law_365 rfl ?_
  refine w_iload_n dL_law_366 rfl ?_
  refine w_iconst dL_law_367 ic_3 ?_
  refine w_iadd dL_law_368 ?_
  refine w_sald (q := i + 3) dL_law_369 (by decide) (nI_add i 3) (show svN sc 4 = sc.1 from rfl) (by omega) ?_ (by omega)
  refine w_aload_nS dL_law_370 rfl ?_
  refine w_iload_n dL_law_371 rfl ?_
  refine w_iconst dL_law_372 ic_4 ?_
  refine w_iadd dL_law_373 ?_
  refine w_sald (q := i + 4) dL_law_374 (by decide) (nI_add i 4) (show svN sc 4 = sc.1 from rfl) (by omega) ?_ (by omega)
  refine c_V (t := 9) (as := [_, _, _, _]) (d' := 2) dL_law_375 mlL_32 moX9_rule mvX9_rule ⟨rfl, rfl⟩ rfl rfl rfl rfl rfl (by decide) (sX9_rule hs hV hC (fun I1 hF1 hC1 => ?_))
  have h18 : I1 118 = I 118 := hF1 118 (by unfold FC; omega)
  refine w_aload_n dL_law_378 rfl ?_
  refine w_aload_nS dL_law_379 rfl ?_
  refine w_iload_n dL_law_380 rfl ?_
  refine w_iconst dL_law_381 ic_1 ?_
  refine w_iadd dL_law_382 ?_
  refine w_sald (q := i + 1) dL_law_383 (by decide) (nI_add i 1) (show svN sc 4 = sc.1 from rfl) (by omega) ?_ (by omega)
  refine w_aload_nS dL_law_384 rfl ?_
  refine w_iload_n dL_law_385 rfl ?_
  refine w_iconst dL_law_386 ic_2 ?_
  refine w_iadd dL_law_387 ?_
  refine w_sald (q := i + 2) dL_law_388 (by decide) (nI_add i 2) (show svN sc 4 = sc.1 from rfl) (by omega) ?_ (by omega)
  refine w_aload_nS dL_law_389 rfl ?_
  refine w_iload_n dL_law_390 rfl ?_
  refine w_iconst dL_law_391 ic_3 ?_
  refine w_iadd dL_law_392 ?_
  refine w_sald (q := i + 3) dL_law_393 (by decide) (nI_add i 3) (show svN sc 4 = sc.1 from rfl) (by omega) ?_ (by omega)
  refine w_aload_nS dL_law_394 rfl ?_
  refine w_iload_n dL_law_395 rfl ?_
  refine w_iconst dL_law_396 ic_4 ?_
  refine w_iadd dL_law_397 ?_
  refine w_sald (q := i + 4) dL_law_398 (by decide) (nI_add i 4) (show svN sc 4 = sc.1 from rfl) (by omega) ?_ (by omega)
  refine c_V (t := 10) (as := [_, _, _, _]) (d' := 2) dL_law_399 mlL_36 moX10_rule mvX10_rule ⟨rfl, rfl⟩ rfl rfl rfl rfl rfl (by decide) (sX10_rule hs h18 hV (fun I2 hF2 h118 => ?_))
  refine w_icmp_eq (tgt := 1426) dL_law_402 (by decide) (fun c402 => ?_) (fun c402 => ?_)
  · exact hk I2 L R N n (inv_W h0 (VO_oRule hV _ _ _ _) hF1 hC1 hF2 h118)
  · exact absurd rfl c402

set_option maxRecDepth 20000 in
theorem lL_told {i : Nat} (hi : i + 6 ≤ sc.1) (hL : sc.1 ≤ 3072) (h : INV I R N n) (hk : ∀ (I' : HI) (L' : HL) (R' : HR) (N' : HN) (n' : Nat), INV I' R' N' n' → WP sc 82 mc ms mL_law 1426 [vS 4, vR 9 0, vR 10 117, vI (nI i)] [] I' L' R' N' n' Q) : WP sc 82 (mc + 2) (ms + 99) mL_law 407 [vS 4, vR 9 0, vR 10 117, vI (nI i)] [] I L R N n Q := by
  have h0 := h
  obtain ⟨hs, hn, ⟨hV, hC⟩, hPI, hPT, ⟨hSO, hSH⟩, ⟨hSL, hSC⟩, hPZ, hKY⟩ := h
  refine WP.room (mc := mc) (ms := ms) ?_ (by omega) (by omega)
  refine w_aload_n dL_law_407 rfl ?_
  refine w_aload_nS dL_law_408 rfl ?_
  refine w_iload_n dL_law_409 rfl ?_
  refine w_iconst dL_law_410 ic_1 ?_
  refine w_iadd dL_law_411 ?_
  refine w_sald (q := i + 1) dL_law_412 (by decide) (nI_add i 1) (show svN sc 4 = sc.1 from rfl) (by omega) ?_ (by omega)
  refine w_aload_nS dL_law_413 rfl ?_
  refine w_iload_n dL_law_414 rfl ?_
  refine w_iconst dL_law_415 ic_2 ?_
  refine w_iadd dL_law_416 ?_
  refine w_sald (q := i + 2) dL_law_417 (by decide) (nI_add i 2) (show svN sc 4 = sc.1 from rfl) (by omega) ?_ (by omega)
  refine c_V (t := 9) (as := [_, _]) (d' := 2) dL_law_418 mlL_37 moX9_told mvX9_told ⟨rfl, rfl⟩ rfl rfl rfl rfl rfl (by decide) (sX9_told hs hV hC ?_)
  refine w_aload_n dL_law_421 rfl ?_
  refine w_aload_nS dL_law_422 rfl ?_
  refine w_iload_n dL_law_423 rfl ?_
  refine w_iconst dL_law_424 ic_1 ?_
  refine w_iadd dL_law_425 ?_
  refine w_sald (q := i + 1) dL_law_426 (by decide) (nI_add i 1) (show svN sc 4 = sc.1 from rfl) (by omega) ?_ (by omega)
  refine w_aload_nS dL_law_427 rfl ?_
  refine w_iload_n dL_law_428 rfl ?_
  refine w_iconst dL_law_429 ic_2 ?_
  refine w_iadd dL_law_430 ?_
  refine w_sald (q := i + 2) dL_law_431 (by decide) (nI_add i 2) (show svN sc 4 = sc.1 from rfl) (by omega) ?_ (by omega)
  refine c_V (t := 10) (as := [_, _]) (d' := 2) dL_law_432 mlL_40 moX10_told mvX10_told ⟨rfl, rfl⟩ rfl rfl rfl rfl rfl (by decide) (sX10_told hs (V := I 118) rfl hV ?_)
  refine w_icmp_eq (tgt := 1426) dL_law_435 (by decide) (fun c435 => ?_) (fun c435 => ?_)
  · exact hk I L R N n h0
  · exact absurd rfl c435

set_option maxRecDepth 20000 in
theorem lL_as {i : Nat} (hi : i + 6 ≤ sc.1) (hL : sc.1 ≤ 3072) (h : INV I R N n) (hk : ∀ (I' : HI) (L' : HL) (R' : HR) (N' : HN) (n' : Nat), INV I' R' N' n' → WP sc 82 mc ms mL_law 1426 [vS 4, vR 9 0, vR 10 117, vI (nI i)] [] I' L' R' N' n' Q) : WP sc 82 (mc + 2) (ms + 99) mL_law 440 [vS 4, vR 9 0, vR 10 117, vI (nI i)] [] I L R N n Q := by
  have h0 := h
  obtain ⟨hs, hn, ⟨hV, hC⟩, hPI, hPT, ⟨hSO, hSH⟩, ⟨hSL, hSC⟩, hPZ, hKY⟩ := h
  refine WP.room (mc := mc) (ms := ms) ?_ (by omega) (by omega)
  refine w_aload_n dL_law_440 rfl ?_
  refine w_aload_nS dL_law_441 rfl ?_
  refine w_iload_n dL_law_442 rfl ?_
  refine w_iconst dL_law_443 ic_1 ?_
  refine w_iadd dL_law_444 ?_
  refine w_sald (q := i + 1) dL_law_445 (by decide) (nI_add i 1) (show svN sc 4 = sc.1 from rfl) (by omega) ?_ (by omega)
  refine w_aload_nS dL_law_446 rfl ?_
  refine w_iload_n dL_law_447 rfl ?_
  refine w_iconst dL_law_448 ic_2 ?_
  refine w_iadd dL_law_449 ?_
  refine w_sald (q := i + 2) dL_law_450 (by decide) (nI_add i 2) (show svN sc 4 = sc.1 from rfl) (by omega) ?_ (by omega)
  refine c_V (t := 9) (as := [_, _]) (d' := 3) dL_law_451 mlL_41 moX9_as mvX9_as ⟨rfl, rfl⟩ rfl rfl rfl rfl rfl (by decide) (sX9_as hs hV hC ?_)
  refine w_aload_n dL_law_454 rfl ?_
  refine w_aload_nS dL_law_455 rfl ?_
  refine w_iload_n dL_law_456 rfl ?_
  refine w_iconst dL_law_457 ic_1 ?_
  refine w_iadd dL_law_458 ?_
  refine w_sald (q := i + 1) dL_law_459 (by decide) (nI_add i 1) (show svN sc 4 = sc.1 from rfl) (by omega) ?_ (by omega)
  refine w_aload_nS dL_law_460 rfl ?_
  refine w_iload_n dL_law_461 rfl ?_
  refine w_iconst dL_law_462 ic_2 ?_
  refine w_iadd dL_law_463 ?_
  refine w_sald (q := i + 2) dL_law_464 (by decide) (nI_add i 2) (show svN sc 4 = sc.1 from rfl) (by omega) ?_ (by omega)
  refine c_V (t := 10) (as := [_, _]) (d' := 2) dL_law_465 mlL_44 moX10_as mvX10_as ⟨rfl, rfl⟩ rfl rfl rfl rfl rfl (by decide) (sX10_as hs (V := I 118) rfl hV ?_)
  refine w_icmp_eq (tgt := 1426) dL_law_468 (by decide) (fun c468 => ?_) (fun c468 => ?_)
  · exact hk I L R N n h0
  · exact absurd rfl c468

set_option maxRecDepth 20000 in
theorem lL_turns {i : Nat} (hi : i + 6 ≤ sc.1) (hL : sc.1 ≤ 3072) (h : INV I R N n) (hk : ∀ (I' : HI) (L' : HL) (R' : HR) (N' : HN) (n' : Nat), INV I' R' N' n' → WP sc 82 mc ms mL_law 1426 [vS 4, vR 9 0, vR 10 117, vI (nI i)] [] I' L' R' N' n' Q) : WP sc 82 (mc + 2) (ms + 99) mL_law 473 [vS 4, vR 9 0, vR 10 117, vI (nI i)] [] I L R N n Q := by
  have h0 := h
  obtain ⟨hs, hn, ⟨hV, hC⟩, hPI, hPT, ⟨hSO, hSH⟩, ⟨hSL, hSC⟩, hPZ, hKY⟩ := h
  refine WP.room (mc := mc) (ms := ms) ?_ (by omega) (by omega)
  refine w_aload_n dL_law_473 rfl ?_
  refine w_aload_nS dL_law_474 rfl ?_
  refine w_iload_n dL_law_475 rfl ?_
  refine w_iconst dL_law_476 ic_1 ?_
  refine w_iadd dL_law_477 ?_
  refine w_sald (q := i + 1) dL_law_478 (by decide) (nI_add i 1) (show svN sc 4 = sc.1 from rfl) (by omega) ?_ (by omega)
  refine w_aload_nS dL_law_479 rfl ?_
  refine w_iload_n dL_law_480 rfl ?_
  refine w_iconst dL_law_481 ic_2 ?_
  refine w_iadd dL_law_482 ?_
  refine w_sald (q := i + 2) dL_law_483 (by decide) (nI_add i 2) (show svN sc 4 = sc.1 from rfl) (by omega) ?_ (by omega)
  refine c_V (t := 9) (as := [_, _]) (d' := 2) dL_law_484 mlL_45 moX9_turns mvX9_turns ⟨rfl, rfl⟩ rfl rfl rfl rfl rfl (by decide) (sX9_turns hs hV hC (fun I1 hF1 hC1 => ?_))
  have h18 : I1 118 = I 118 := hF1 118 (by unfold FC; omega)
  refine w_aload_n dL_law_487 rfl ?_
  refine w_aload_nS dL_law_488 rfl ?_
  refine w_iload_n dL_law_489 rfl ?_
  refine w_iconst dL_law_490 ic_1 ?_
  refine w_iadd dL_law_491 ?_
  refine w_sald (q := i + 1) dL_law_492 (by decide) (nI_add i 1) (show svN sc 4 = sc.1 from rfl) (by omega) ?_ (by omega)
  refine w_aload_nS dL_law_493 rfl ?_
  refine w_iload_n dL_law_494 rfl ?_
  refine w_iconst dL_law_495 ic_2 ?_
  refine w_iadd dL_law_496 ?_
  refine w_sald (q := i + 2) dL_law_497 (by decide) (nI_add i 2) (show svN sc 4 = sc.1 from rfl) (by omega) ?_ (by omega)
  refine c_V (t := 10) (as := [_, _]) (d' := 2) dL_law_498 mlL_48 moX10_turns mvX10_turns ⟨rfl, rfl⟩ rfl rfl rfl rfl rfl (by decide) (sX10_turns hs h18 hV (fun I2 hF2 h118 => ?_))
  refine w_icmp_eq (tgt := 1426) dL_law_501 (by decide) (fun c501 => ?_) (fun c501 => ?_)
  · exact hk I2 L R N n (inv_W h0 (VO_oTurns hV _ _) hF1 hC1 hF2 h118)
  · exact absurd rfl c501

set_option maxRecDepth 20000 in
theorem lL_set {i : Nat} (hi : i + 6 ≤ sc.1) (hL : sc.1 ≤ 3072) (h : INV I R N n) (hk : ∀ (I' : HI) (L' : HL) (R' : HR) (N' : HN) (n' : Nat), INV I' R' N' n' → WP sc 82 mc ms mL_law 1426 [vS 4, vR 9 0, vR 10 117, vI (nI i)] [] I' L' R' N' n' Q) : WP sc 82 (mc + 2) (ms + 99) mL_law 506 [vS 4, vR 9 0, vR 10 117, vI (nI i)] [] I L R N n Q := by
  have h0 := h
  obtain ⟨hs, hn, ⟨hV, hC⟩, hPI, hPT, ⟨hSO, hSH⟩, ⟨hSL, hSC⟩, hPZ, hKY⟩ := h
  refine WP.room (mc := mc) (ms := ms) ?_ (by omega) (by omega)
  refine w_aload_n dL_law_506 rfl ?_
  refine w_aload_nS dL_law_507 rfl ?_
  refine w_iload_n dL_law_508 rfl ?_
  refine w_iconst dL_law_509 ic_1 ?_
  refine w_iadd dL_law_510 ?_
  refine w_sald (q := i + 1) dL_law_511 (by decide) (nI_add i 1) (show svN sc 4 = sc.1 from rfl) (by omega) ?_ (by omega)
  refine w_aload_nS dL_law_512 rfl ?_
  refine w_iload_n dL_law_513 rfl ?_
  refine w_iconst dL_law_514 ic_2 ?_
  refine w_iadd dL_law_515 ?_
  refine w_sald (q := i + 2) dL_law_516 (by decide) (nI_add i 2) (show svN sc 4 = sc.1 from rfl) (by omega) ?_ (by omega)
  refine w_aload_nS dL_law_517 rfl ?_
  refine w_iload_n dL_law_518 rfl ?_
  refine w_iconst dL_law_519 ic_3 ?_
  refine w_iadd dL_law_520 ?_
  refine w_sald (q := i + 3) dL_law_521 (by decide) (nI_add i 3) (show svN sc 4 = sc.1 from rfl) (by omega) ?_ (by omega)
  refine c_V (t := 9) (as := [_, _, _]) (d' := 2) dL_law_522 mlL_49 moX9_set mvX9_set ⟨rfl, rfl⟩ rfl rfl rfl rfl rfl (by decide) (sX9_set hs hV hC (fun I1 hF1 hC1 => ?_))
  have h18 : I1 118 = I 118 := hF1 118 (by unfold FC; omega)
  refine w_aload_n dL_law_525 rfl ?_
  refine w_aload_nS dL_law_526 rfl ?_
  refine w_iload_n dL_law_527 rfl ?_
  refine w_iconst dL_law_528 ic_1 ?_
  refine w_iadd dL_law_529 ?_
  refine w_sald (q := i + 1) dL_law_530 (by decide) (nI_add i 1) (show svN sc 4 = sc.1 from rfl) (by omega) ?_ (by omega)
  refine w_aload_nS dL_law_531 rfl ?_
  refine w_iload_n dL_law_532 rfl ?_
  refine w_iconst dL_law_533 ic_2 ?_
  refine w_iadd dL_law_534 ?_
  refine w_sald (q := i + 2) dL_law_535 (by decide) (nI_add i 2) (show svN sc 4 = sc.1 from rfl) (by omega) ?_ (by omega)
  refine w_aload_nS dL_law_536 rfl ?_
  refine w_iload_n dL_law_537 rfl ?_
  refine w_iconst dL_law_538 ic_3 ?_
  refine w_iadd dL_law_539 ?_
  refine w_sald (q := i + 3) dL_law_540 (by decide) (nI_add i 3) (show svN sc 4 = sc.1 from rfl) (by omega) ?_ (by omega)
  refine c_V (t := 10) (as := [_, _, _]) (d' := 2) dL_law_541 mlL_52 moX10_set mvX10_set ⟨rfl, rfl⟩ rfl rfl rfl rfl rfl (by decide) (sX10_set hs h18 hV (fun I2 hF2 h118 => ?_))
  refine w_icmp_eq (tgt := 1426) dL_law_544 (by decide) (fun c544 => ?_) (fun c544 => ?_)
  · exact hk I2 L R N n (inv_W h0 (VO_oSet hV _ _ _) hF1 hC1 hF2 h118)
  · exact absurd rfl c544

set_option maxRecDepth 20000 in
theorem lL_owes {i : Nat} (hi : i + 6 ≤ sc.1) (hL : sc.1 ≤ 3072) (h : INV I R N n) (hk : ∀ (I' : HI) (L' : HL) (R' : HR) (N' : HN) (n' : Nat), INV I' R' N' n' → WP sc 82 mc ms mL_law 1426 [vS 4, vR 9 0, vR 10 117, vI (nI i)] [] I' L' R' N' n' Q) : WP sc 82 (mc + 2) (ms + 99) mL_law 549 [vS 4, vR 9 0, vR 10 117, vI (nI i)] [] I L R N n Q := by
  have h0 := h
  obtain ⟨hs, hn, ⟨hV, hC⟩, hPI, hPT, ⟨hSO, hSH⟩, ⟨hSL, hSC⟩, hPZ, hKY⟩ := h
  refine WP.room (mc := mc) (ms := ms) ?_ (by omega) (by omega)
  refine w_aload_n dL_law_549 rfl ?_
  refine w_aload_nS dL_law_550 rfl ?_
  refine w_iload_n dL_law_551 rfl ?_
  refine w_iconst dL_law_552 ic_1 ?_
  refine w_iadd dL_law_553 ?_
  refine w_sald (q := i + 1) dL_law_554 (by decide) (nI_add i 1) (show svN sc 4 = sc.1 from rfl) (by omega) ?_ (by omega)
  refine w_aload_nS dL_law_555 rfl ?_
  refine w_iload_n dL_law_556 rfl ?_
  refine w_iconst dL_law_557 ic_2 ?_
  refine w_iadd dL_law_558 ?_
  refine w_sald (q := i + 2) dL_law_559 (by decide) (nI_add i 2) (show svN sc 4 = sc.1 from rfl) (by omega) ?_ (by omega)
  refine c_V (t := 9) (as := [_, _]) (d' := 3) dL_law_560 mlL_53 moX9_owes mvX9_owes ⟨rfl, rfl⟩ rfl rfl rfl rfl rfl (by decide) (sX9_owes hs hV hC (fun I1 hF1 hC1 => ?_))
  have h18 : I1 118 = I 118 := hF1 118 (by unfold FC; omega)
  refine w_aload_n dL_law_563 rfl ?_
  refine w_aload_nS dL_law_564 rfl ?_
  refine w_iload_n dL_law_565 rfl ?_
  refine w_iconst dL_law_566 ic_1 ?_
  refine w_iadd dL_law_567 ?_
  refine w_sald (q := i + 1) dL_law_568 (by decide) (nI_add i 1) (show svN sc 4 = sc.1 from rfl) (by omega) ?_ (by omega)
  refine w_aload_nS dL_law_569 rfl ?_
  refine w_iload_n dL_law_570 rfl ?_
  refine w_iconst dL_law_571 ic_2 ?_
  refine w_iadd dL_law_572 ?_
  refine w_sald (q := i + 2) dL_law_573 (by decide) (nI_add i 2) (show svN sc 4 = sc.1 from rfl) (by omega) ?_ (by omega)
  refine c_V (t := 10) (as := [_, _]) (d' := 3) dL_law_574 mlL_56 moX10_owes mvX10_owes ⟨rfl, rfl⟩ rfl rfl rfl rfl rfl (by decide) (sX10_owes hs h18 hV (fun I2 hF2 h118 => ?_))
  refine w_icmp_eq (tgt := 1426) dL_law_577 (by decide) (fun c577 => ?_) (fun c577 => ?_)
  · exact hk I2 L R N n (inv_W h0 (hV) hF1 hC1 hF2 h118)
  · exact absurd rfl c577

set_option maxRecDepth 20000 in
theorem lL_force {i : Nat} (hi : i + 6 ≤ sc.1) (hL : sc.1 ≤ 3072) (h : INV I R N n) (hk : ∀ (I' : HI) (L' : HL) (R' : HR) (N' : HN) (n' : Nat), INV I' R' N' n' → WP sc 82 mc ms mL_law 1426 [vS 4, vR 9 0, vR 10 117, vI (nI i)] [] I' L' R' N' n' Q) : WP sc 82 (mc + 2) (ms + 99) mL_law 582 [vS 4, vR 9 0, vR 10 117, vI (nI i)] [] I L R N n Q := by
  have h0 := h
  obtain ⟨hs, hn, ⟨hV, hC⟩, hPI, hPT, ⟨hSO, hSH⟩, ⟨hSL, hSC⟩, hPZ, hKY⟩ := h
  refine WP.room (mc := mc) (ms := ms) ?_ (by omega) (by omega)
  refine w_aload_n dL_law_582 rfl ?_
  refine w_aload_nS dL_law_583 rfl ?_
  refine w_iload_n dL_law_584 rfl ?_
  refine w_iconst dL_law_585 ic_1 ?_
  refine w_iadd dL_law_586 ?_
  refine w_sald (q := i + 1) dL_law_587 (by decide) (nI_add i 1) (show svN sc 4 = sc.1 from rfl) (by omega) ?_ (by omega)
  refine c_V (t := 9) (as := [_]) (d' := 2) dL_law_588 mlL_57 moX9_force mvX9_force ⟨rfl, rfl⟩ rfl rfl rfl rfl rfl (by decide) (sX9_force hs hV hC (fun I1 hF1 hC1 => ?_))
  have h18 : I1 118 = I 118 := hF1 118 (by unfold FC; omega)
  refine w_aload_n dL_law_591 rfl ?_
  refine w_aload_nS dL_law_592 rfl ?_
  refine w_iload_n dL_law_593 rfl ?_
  refine w_iconst dL_law_594 ic_1 ?_
  refine w_iadd dL_law_595 ?_
  refine w_sald (q := i + 1) dL_law_596 (by decide) (nI_add i 1) (show svN sc 4 = sc.1 from rfl) (by omega) ?_ (by omega)
  refine c_V (t := 10) (as := [_]) (d' := 2) dL_law_597 mlL_60 moX10_force mvX10_force ⟨rfl, rfl⟩ rfl rfl rfl rfl rfl (by decide) (sX10_force hs h18 hV (fun I2 hF2 h118 => ?_))
  refine w_icmp_eq (tgt := 1426) dL_law_600 (by decide) (fun c600 => ?_) (fun c600 => ?_)
  · exact hk I2 L R N n (inv_W h0 (VO_oForce hV _) hF1 hC1 hF2 h118)
  · exact absurd rfl c600

set_option maxRecDepth 20000 in
theorem lL_card {i : Nat} (hi : i + 6 ≤ sc.1) (hL : sc.1 ≤ 3072) (h : INV I R N n) (hk : ∀ (I' : HI) (L' : HL) (R' : HR) (N' : HN) (n' : Nat), INV I' R' N' n' → WP sc 82 mc ms mL_law 1426 [vS 4, vR 9 0, vR 10 117, vI (nI i)] [] I' L' R' N' n' Q) : WP sc 82 (mc + 2) (ms + 99) mL_law 605 [vS 4, vR 9 0, vR 10 117, vI (nI i)] [] I L R N n Q := by
  have h0 := h
  obtain ⟨hs, hn, ⟨hV, hC⟩, hPI, hPT, ⟨hSO, hSH⟩, ⟨hSL, hSC⟩, hPZ, hKY⟩ := h
  refine WP.room (mc := mc) (ms := ms) ?_ (by omega) (by omega)
  refine w_aload_n dL_law_605 rfl ?_
  refine w_aload_nS dL_law_606 rfl ?_
  refine w_iload_n dL_law_607 rfl ?_
  refine w_iconst dL_law_608 ic_1 ?_
  refine w_iadd dL_law_609 ?_
  refine w_sald (q := i + 1) dL_law_610 (by decide) (nI_add i 1) (show svN sc 4 = sc.1 from rfl) (by omega) ?_ (by omega)
  refine c_V (t := 9) (as := [_]) (d' := 2) dL_law_611 mlL_61 moX9_card mvX9_card ⟨rfl, rfl⟩ rfl rfl rfl rfl rfl (by decide) (sX9_card hs hV hC (fun I1 hF1 hC1 => ?_))
  have h18 : I1 118 = I 118 := hF1 118 (by unfold FC; omega)
  refine w_aload_n dL_law_614 rfl ?_
  refine w_aload_nS dL_law_615 rfl ?_
  refine w_iload_n dL_law_616 rfl ?_
  refine w_iconst dL_law_617 ic_1 ?_
  refine w_iadd dL_law_618 ?_
  refine w_sald (q := i + 1) dL_law_619 (by decide) (nI_add i 1) (show svN sc 4 = sc.1 from rfl) (by omega) ?_ (by omega)
  refine c_V (t := 10) (as := [_]) (d' := 2) dL_law_620 mlL_64 moX10_card mvX10_card ⟨rfl, rfl⟩ rfl rfl rfl rfl rfl (by decide) (sX10_card hs h18 hV (fun I2 hF2 h118 => ?_))
  refine w_icmp_eq (tgt := 1426) dL_law_623 (by decide) (fun c623 => ?_) (fun c623 => ?_)
  · exact hk I2 L R N n (inv_W h0 (VO_oCard hV _) hF1 hC1 hF2 h118)
  · exact absurd rfl c623

set_option maxRecDepth 20000 in
theorem lL_reader {i : Nat} (hi : i + 6 ≤ sc.1) (hL : sc.1 ≤ 3072) (h : INV I R N n) (hk : ∀ (I' : HI) (L' : HL) (R' : HR) (N' : HN) (n' : Nat), INV I' R' N' n' → WP sc 82 mc ms mL_law 1426 [vS 4, vR 9 0, vR 10 117, vI (nI i)] [] I' L' R' N' n' Q) : WP sc 82 (mc + 2) (ms + 99) mL_law 628 [vS 4, vR 9 0, vR 10 117, vI (nI i)] [] I L R N n Q := by
  have h0 := h
  obtain ⟨hs, hn, ⟨hV, hC⟩, hPI, hPT, ⟨hSO, hSH⟩, ⟨hSL, hSC⟩, hPZ, hKY⟩ := h
  refine WP.room (mc := mc) (ms := ms) ?_ (by omega) (by omega)
  refine w_aload_n dL_law_628 rfl ?_
  refine w_aload_nS dL_law_629 rfl ?_
  refine w_iload_n dL_law_630 rfl ?_
  refine w_iconst dL_law_631 ic_1 ?_
  refine w_iadd dL_law_632 ?_
  refine w_sald (q := i + 1) dL_law_633 (by decide) (nI_add i 1) (show svN sc 4 = sc.1 from rfl) (by omega) ?_ (by omega)
  refine w_aload_nS dL_law_634 rfl ?_
  refine w_iload_n dL_law_635 rfl ?_
  refine w_iconst dL_law_636 ic_2 ?_
  refine w_iadd dL_law_637 ?_
  refine w_sald (q := i + 2) dL_law_638 (by decide) (nI_add i 2) (show svN sc 4 = sc.1 from rfl) (by omega) ?_ (by omega)
  refine w_aload_nS dL_law_639 rfl ?_
  refine w_iload_n dL_law_640 rfl ?_
  refine w_iconst dL_law_641 ic_3 ?_
  refine w_iadd dL_law_642 ?_
  refine w_sald (q := i + 3) dL_law_643 (by decide) (nI_add i 3) (show svN sc 4 = sc.1 from rfl) (by omega) ?_ (by omega)
  refine c_V (t := 9) (as := [_, _, _]) (d' := 6) dL_law_644 mlL_65 moX9_reader mvX9_reader ⟨rfl, rfl⟩ rfl rfl rfl rfl rfl (by decide) (sX9_reader hs hV hC (fun I1 hF1 hC1 => ?_))
  have h18 : I1 118 = I 118 := hF1 118 (by unfold FC; omega)
  refine w_aload_n dL_law_647 rfl ?_
  refine w_aload_nS dL_law_648 rfl ?_
  refine w_iload_n dL_law_649 rfl ?_
  refine w_iconst dL_law_650 ic_1 ?_
  refine w_iadd dL_law_651 ?_
  refine w_sald (q := i + 1) dL_law_652 (by decide) (nI_add i 1) (show svN sc 4 = sc.1 from rfl) (by omega) ?_ (by omega)
  refine w_aload_nS dL_law_653 rfl ?_
  refine w_iload_n dL_law_654 rfl ?_
  refine w_iconst dL_law_655 ic_2 ?_
  refine w_iadd dL_law_656 ?_
  refine w_sald (q := i + 2) dL_law_657 (by decide) (nI_add i 2) (show svN sc 4 = sc.1 from rfl) (by omega) ?_ (by omega)
  refine w_aload_nS dL_law_658 rfl ?_
  refine w_iload_n dL_law_659 rfl ?_
  refine w_iconst dL_law_660 ic_3 ?_
  refine w_iadd dL_law_661 ?_
  refine w_sald (q := i + 3) dL_law_662 (by decide) (nI_add i 3) (show svN sc 4 = sc.1 from rfl) (by omega) ?_ (by omega)
  refine c_V (t := 10) (as := [_, _, _]) (d' := 5) dL_law_663 mlL_68 moX10_reader mvX10_reader ⟨rfl, rfl⟩ rfl rfl rfl rfl rfl (by decide) (sX10_reader hs h18 hV (fun I2 hF2 h118 => ?_))
  refine w_icmp_eq (tgt := 1426) dL_law_666 (by decide) (fun c666 => ?_) (fun c666 => ?_)
  · exact hk I2 L R N n (inv_W h0 (hV) hF1 hC1 hF2 h118)
  · exact absurd rfl c666

set_option maxRecDepth 20000 in
theorem lL_first {i : Nat} (hi : i + 6 ≤ sc.1) (hL : sc.1 ≤ 3072) (h : INV I R N n) (hk : ∀ (I' : HI) (L' : HL) (R' : HR) (N' : HN) (n' : Nat), INV I' R' N' n' → WP sc 82 mc ms mL_law 1426 [vS 4, vR 9 0, vR 10 117, vI (nI i)] [] I' L' R' N' n' Q) : WP sc 82 (mc + 2) (ms + 99) mL_law 671 [vS 4, vR 9 0, vR 10 117, vI (nI i)] [] I L R N n Q := by
  have h0 := h
  obtain ⟨hs, hn, ⟨hV, hC⟩, hPI, hPT, ⟨hSO, hSH⟩, ⟨hSL, hSC⟩, hPZ, hKY⟩ := h
  refine WP.room (mc := mc) (ms := ms) ?_ (by omega) (by omega)
  refine w_aload_n dL_law_671 rfl ?_
  refine w_aload_nS dL_law_672 rfl ?_
  refine w_iload_n dL_law_673 rfl ?_
  refine w_iconst dL_law_674 ic_1 ?_
  refine w_iadd dL_law_675 ?_
  refine w_sald (q := i + 1) dL_law_676 (by decide) (nI_add i 1) (show svN sc 4 = sc.1 from rfl) (by omega) ?_ (by omega)
  refine w_aload_nS dL_law_677 rfl ?_
  refine w_iload_n dL_law_678 rfl ?_
  refine w_iconst dL_law_679 ic_2 ?_
  refine w_iadd dL_law_680 ?_
  refine w_sald (q := i + 2) dL_law_681 (by decide) (nI_add i 2) (show svN sc 4 = sc.1 from rfl) (by omega) ?_ (by omega)
  refine c_V (t := 9) (as := [_, _]) (d' := 6) dL_law_682 mlL_69 moX9_first mvX9_first ⟨rfl, rfl⟩ rfl rfl rfl rfl rfl (by decide) (sX9_first hs hV hC (fun I1 hF1 hC1 => ?_))
  have h18 : I1 118 = I 118 := hF1 118 (by unfold FC; omega)
  refine w_aload_n dL_law_685 rfl ?_
  refine w_aload_nS dL_law_686 rfl ?_
  refine w_iload_n dL_law_687 rfl ?_
  refine w_iconst dL_law_688 ic_1 ?_
  refine w_iadd dL_law_689 ?_
  refine w_sald (q := i + 1) dL_law_690 (by decide) (nI_add i 1) (show svN sc 4 = sc.1 from rfl) (by omega) ?_ (by omega)
  refine w_aload_nS dL_law_691 rfl ?_
  refine w_iload_n dL_law_692 rfl ?_
  refine w_iconst dL_law_693 ic_2 ?_
  refine w_iadd dL_law_694 ?_
  refine w_sald (q := i + 2) dL_law_695 (by decide) (nI_add i 2) (show svN sc 4 = sc.1 from rfl) (by omega) ?_ (by omega)
  refine c_V (t := 10) (as := [_, _]) (d' := 5) dL_law_696 mlL_72 moX10_first mvX10_first ⟨rfl, rfl⟩ rfl rfl rfl rfl rfl (by decide) (sX10_first hs h18 hV (fun I2 hF2 h118 => ?_))
  refine w_icmp_eq (tgt := 1426) dL_law_699 (by decide) (fun c699 => ?_) (fun c699 => ?_)
  · exact hk I2 L R N n (inv_W h0 (hV) hF1 hC1 hF2 h118)
  · exact absurd rfl c699

set_option maxRecDepth 20000 in
theorem lL_run {i : Nat} (hi : i + 6 ≤ sc.1) (hL : sc.1 ≤ 3072) (h : INV I R N n) (hk : ∀ (I' : HI) (L' : HL) (R' : HR) (N' : HN) (n' : Nat), INV I' R' N' n' → WP sc 82 mc ms mL_law 1426 [vS 4, vR 9 0, vR 10 117, vI (nI i)] [] I' L' R' N' n' Q) : WP sc 82 (mc + 2) (ms + 99) mL_law 704 [vS 4, vR 9 0, vR 10 117, vI (nI i)] [] I L R N n Q := by
  have h0 := h
  obtain ⟨hs, hn, ⟨hV, hC⟩, hPI, hPT, ⟨hSO, hSH⟩, ⟨hSL, hSC⟩, hPZ, hKY⟩ := h
  refine WP.room (mc := mc) (ms := ms) ?_ (by omega) (by omega)
  refine w_aload_n dL_law_704 rfl ?_
  refine w_aload_nS dL_law_705 rfl ?_
  refine w_iload_n dL_law_706 rfl ?_
  refine w_iconst dL_law_707 ic_1 ?_
  refine w_iadd dL_law_708 ?_
  refine w_sald (q := i + 1) dL_law_709 (by decide) (nI_add i 1) (show svN sc 4 = sc.1 from rfl) (by omega) ?_ (by omega)
  refine c_V (t := 9) (as := [_]) (d' := 6) dL_law_710 mlL_73 moX9_run mvX9_run ⟨rfl, rfl⟩ rfl rfl rfl rfl rfl (by decide) (sX9_run hs hV hC (fun I1 hF1 hC1 => ?_))
  have h18 : I1 118 = I 118 := hF1 118 (by unfold FC; omega)
  refine w_aload_n dL_law_713 rfl ?_
  refine w_aload_nS dL_law_714 rfl ?_
  refine w_iload_n dL_law_715 rfl ?_
  refine w_iconst dL_law_716 ic_1 ?_
  refine w_iadd dL_law_717 ?_
  refine w_sald (q := i + 1) dL_law_718 (by decide) (nI_add i 1) (show svN sc 4 = sc.1 from rfl) (by omega) ?_ (by omega)
  refine c_V (t := 10) (as := [_]) (d' := 5) dL_law_719 mlL_76 moX10_run mvX10_run ⟨rfl, rfl⟩ rfl rfl rfl rfl rfl (by decide) (sX10_run hs h18 hV (fun I2 hF2 h118 => ?_))
  refine w_icmp_eq (tgt := 1426) dL_law_722 (by decide) (fun c722 => ?_) (fun c722 => ?_)
  · exact hk I2 L R N n (inv_W h0 (VO_oRun hV _) hF1 hC1 hF2 h118)
  · exact absurd rfl c722

set_option maxRecDepth 20000 in
theorem lL_year {i : Nat} (hi : i + 6 ≤ sc.1) (hL : sc.1 ≤ 3072) (h : INV I R N n) (hk : ∀ (I' : HI) (L' : HL) (R' : HR) (N' : HN) (n' : Nat), INV I' R' N' n' → WP sc 82 mc ms mL_law 1426 [vS 4, vR 9 0, vR 10 117, vI (nI i)] [] I' L' R' N' n' Q) : WP sc 82 (mc + 2) (ms + 99) mL_law 727 [vS 4, vR 9 0, vR 10 117, vI (nI i)] [] I L R N n Q := by
  have h0 := h
  obtain ⟨hs, hn, ⟨hV, hC⟩, hPI, hPT, ⟨hSO, hSH⟩, ⟨hSL, hSC⟩, hPZ, hKY⟩ := h
  refine WP.room (mc := mc) (ms := ms) ?_ (by omega) (by omega)
  refine w_aload_n dL_law_727 rfl ?_
  refine c_V (t := 9) (as := []) (d' := 6) dL_law_728 mlL_77 moX9_year mvX9_year ⟨rfl, rfl⟩ rfl rfl rfl rfl rfl (by decide) (sX9_year hs hV hC (fun I1 hF1 hC1 => ?_))
  have h18 : I1 118 = I 118 := hF1 118 (by unfold FC; omega)
  refine w_aload_n dL_law_731 rfl ?_
  refine c_V (t := 10) (as := []) (d' := 4) dL_law_732 mlL_81 moX10_year mvX10_year ⟨rfl, rfl⟩ rfl rfl rfl rfl rfl (by decide) (sX10_year hs h18 hV (fun I2 hF2 h118 => ?_))
  refine w_icmp_eq (tgt := 1426) dL_law_735 (by decide) (fun c735 => ?_) (fun c735 => ?_)
  · exact hk I2 L R N n (inv_W h0 (hV.dice _) hF1 hC1 hF2 h118)
  · exact absurd rfl c735

set_option maxRecDepth 20000 in
theorem lL_seed {i : Nat} (hi : i + 6 ≤ sc.1) (hL : sc.1 ≤ 3072) (h : INV I R N n) (hk : ∀ (I' : HI) (L' : HL) (R' : HR) (N' : HN) (n' : Nat), INV I' R' N' n' → WP sc 82 mc ms mL_law 1426 [vS 4, vR 9 0, vR 10 117, vI (nI i)] [] I' L' R' N' n' Q) : WP sc 82 (mc + 2) (ms + 99) mL_law 740 [vS 4, vR 9 0, vR 10 117, vI (nI i)] [] I L R N n Q := by
  have h0 := h
  obtain ⟨hs, hn, ⟨hV, hC⟩, hPI, hPT, ⟨hSO, hSH⟩, ⟨hSL, hSC⟩, hPZ, hKY⟩ := h
  refine WP.room (mc := mc) (ms := ms) ?_ (by omega) (by omega)
  refine w_aload_n dL_law_740 rfl ?_
  refine w_aload_nS dL_law_741 rfl ?_
  refine w_iload_n dL_law_742 rfl ?_
  refine w_iconst dL_law_743 ic_1 ?_
  refine w_iadd dL_law_744 ?_
  refine w_sald (q := i + 1) dL_law_745 (by decide) (nI_add i 1) (show svN sc 4 = sc.1 from rfl) (by omega) ?_ (by omega)
  refine c_V (t := 9) (as := [_]) (d' := 0) dL_law_746 mlL_82 moX9_seed mvX9_seed ⟨rfl, rfl⟩ rfl rfl rfl rfl rfl (by decide) (sX9_seed hs hV hC (fun I1 hF1 hC1 => ?_))
  have h18 : I1 118 = I 118 := hF1 118 (by unfold FC; omega)
  refine w_aload_n dL_law_749 rfl ?_
  refine w_aload_nS dL_law_750 rfl ?_
  refine w_iload_n dL_law_751 rfl ?_
  refine w_iconst dL_law_752 ic_1 ?_
  refine w_iadd dL_law_753 ?_
  refine w_sald (q := i + 1) dL_law_754 (by decide) (nI_add i 1) (show svN sc 4 = sc.1 from rfl) (by omega) ?_ (by omega)
  refine c_V (t := 10) (as := [_]) (d' := 0) dL_law_755 mlL_85 moX10_seed mvX10_seed ⟨rfl, rfl⟩ rfl rfl rfl rfl rfl (by decide) (sX10_seed hs h18 hV (fun I2 hF2 h118 => ?_))
  refine w_icmp_eq (tgt := 1426) dL_law_758 (by decide) (fun c758 => ?_) (fun c758 => ?_)
  · exact hk I2 L R N n (inv_W h0 (hV.dice _) hF1 hC1 hF2 h118)
  · exact absurd rfl c758

set_option maxRecDepth 20000 in
theorem lL_library {i : Nat} (hi : i + 6 ≤ sc.1) (hL : sc.1 ≤ 3072) (h : INV I R N n) (hk : ∀ (I' : HI) (L' : HL) (R' : HR) (N' : HN) (n' : Nat), INV I' R' N' n' → WP sc 82 mc ms mL_law 1426 [vS 4, vR 9 0, vR 10 117, vI (nI i)] [] I' L' R' N' n' Q) : WP sc 82 (mc + 2) (ms + 99) mL_law 763 [vS 4, vR 9 0, vR 10 117, vI (nI i)] [] I L R N n Q := by
  have h0 := h
  obtain ⟨hs, hn, ⟨hV, hC⟩, hPI, hPT, ⟨hSO, hSH⟩, ⟨hSL, hSC⟩, hPZ, hKY⟩ := h
  refine WP.room (mc := mc) (ms := ms) ?_ (by omega) (by omega)
  refine w_aload_n dL_law_763 rfl ?_
  refine w_aload_nS dL_law_764 rfl ?_
  refine w_iload_n dL_law_765 rfl ?_
  refine w_iconst dL_law_766 ic_1 ?_
  refine w_iadd dL_law_767 ?_
  refine w_sald (q := i + 1) dL_law_768 (by decide) (nI_add i 1) (show svN sc 4 = sc.1 from rfl) (by omega) ?_ (by omega)
  refine c_V (t := 9) (as := [_]) (d' := 6) dL_law_769 mlL_86 moX9_library mvX9_library ⟨rfl, rfl⟩ rfl rfl rfl rfl rfl (by decide) (sX9_library hs hV hC (fun I1 L1 hF1 hC1 => ?_))
  have h18 : I1 118 = I 118 := hF1 118 (by unfold FC; omega)
  refine w_aload_n dL_law_772 rfl ?_
  refine w_aload_nS dL_law_773 rfl ?_
  refine w_iload_n dL_law_774 rfl ?_
  refine w_iconst dL_law_775 ic_1 ?_
  refine w_iadd dL_law_776 ?_
  refine w_sald (q := i + 1) dL_law_777 (by decide) (nI_add i 1) (show svN sc 4 = sc.1 from rfl) (by omega) ?_ (by omega)
  refine c_V (t := 10) (as := [_]) (d' := 5) dL_law_778 mlL_90 moX10_library mvX10_library ⟨rfl, rfl⟩ rfl rfl rfl rfl rfl (by decide) (sX10_library hs h18 hV (fun I2 L2 hF2 h118 => ?_))
  refine w_lcmp dL_law_781 ?_
  refine w_if_eq (tgt := 1426) dL_law_782 (by decide) (fun c782 => ?_) (fun c782 => ?_)
  · exact hk I2 L2 R N n (inv_W h0 (hV) hF1 hC1 hF2 h118)
  · exact absurd (cmp_self _) c782

set_option maxRecDepth 20000 in
theorem lL_find {i : Nat} (hi : i + 6 ≤ sc.1) (hL : sc.1 ≤ 3072) (h : INV I R N n) (hk : ∀ (I' : HI) (L' : HL) (R' : HR) (N' : HN) (n' : Nat), INV I' R' N' n' → WP sc 82 mc ms mL_law 1426 [vS 4, vR 9 0, vR 10 117, vI (nI i)] [] I' L' R' N' n' Q) : WP sc 82 (mc + 2) (ms + 99) mL_law 787 [vS 4, vR 9 0, vR 10 117, vI (nI i)] [] I L R N n Q := by
  have h0 := h
  obtain ⟨hs, hn, ⟨hV, hC⟩, hPI, hPT, ⟨hSO, hSH⟩, ⟨hSL, hSC⟩, hPZ, hKY⟩ := h
  refine WP.room (mc := mc) (ms := ms) ?_ (by omega) (by omega)
  refine w_aload_n dL_law_787 rfl ?_
  refine c_V (t := 9) (as := []) (d' := 6) dL_law_788 mlL_91 moX9_find mvX9_find ⟨rfl, rfl⟩ rfl rfl rfl rfl rfl (by decide) (sX9_find hs hV hC (fun I1 L1 hF1 hC1 => ?_))
  have h18 : I1 118 = I 118 := hF1 118 (by unfold FC; omega)
  refine w_aload_n dL_law_791 rfl ?_
  refine c_V (t := 10) (as := []) (d' := 5) dL_law_792 mlL_94 moX10_find mvX10_find ⟨rfl, rfl⟩ rfl rfl rfl rfl rfl (by decide) (sX10_find hs h18 hV (fun I2 L2 hF2 h118 => ?_))
  refine w_icmp_eq (tgt := 1426) dL_law_795 (by decide) (fun c795 => ?_) (fun c795 => ?_)
  · exact hk I2 L2 R N n (inv_W h0 (hV) hF1 hC1 hF2 h118)
  · exact absurd rfl c795

set_option maxRecDepth 20000 in
theorem lL_edge {i : Nat} (hi : i + 6 ≤ sc.1) (hL : sc.1 ≤ 3072) (h : INV I R N n) (hk : ∀ (I' : HI) (L' : HL) (R' : HR) (N' : HN) (n' : Nat), INV I' R' N' n' → WP sc 82 mc ms mL_law 1426 [vS 4, vR 9 0, vR 10 117, vI (nI i)] [] I' L' R' N' n' Q) : WP sc 82 (mc + 2) (ms + 99) mL_law 800 [vS 4, vR 9 0, vR 10 117, vI (nI i)] [] I L R N n Q := by
  have h0 := h
  obtain ⟨hs, hn, ⟨hV, hC⟩, hPI, hPT, ⟨hSO, hSH⟩, ⟨hSL, hSC⟩, hPZ, hKY⟩ := h
  refine WP.room (mc := mc) (ms := ms) ?_ (by omega) (by omega)
  refine w_aload_n dL_law_800 rfl ?_
  refine w_aload_nS dL_law_801 rfl ?_
  refine w_iload_n dL_law_802 rfl ?_
  refine w_iconst dL_law_803 ic_1 ?_
  refine w_iadd dL_law_804 ?_
  refine w_sald (q := i + 1) dL_law_805 (by decide) (nI_add i 1) (show svN sc 4 = sc.1 from rfl) (by omega) ?_ (by omega)
  refine c_V (t := 9) (as := [_]) (d' := 6) dL_law_806 mlL_95 moX9_edge mvX9_edge ⟨rfl, rfl⟩ rfl rfl rfl rfl rfl (by decide) (sX9_edge hs hV hC (fun I1 hF1 hC1 => ?_))
  have h18 : I1 118 = I 118 := hF1 118 (by unfold FC; omega)
  refine w_aload_n dL_law_809 rfl ?_
  refine w_aload_nS dL_law_810 rfl ?_
  refine w_iload_n dL_law_811 rfl ?_
  refine w_iconst dL_law_812 ic_1 ?_
  refine w_iadd dL_law_813 ?_
  refine w_sald (q := i + 1) dL_law_814 (by decide) (nI_add i 1) (show svN sc 4 = sc.1 from rfl) (by omega) ?_ (by omega)
  refine c_V (t := 10) (as := [_]) (d' := 5) dL_law_815 mlL_98 moX10_edge mvX10_edge ⟨rfl, rfl⟩ rfl rfl rfl rfl rfl (by decide) (sX10_edge hs h18 hV (fun I2 hF2 h118 => ?_))
  refine w_icmp_eq (tgt := 1426) dL_law_818 (by decide) (fun c818 => ?_) (fun c818 => ?_)
  · exact hk I2 L R N n (inv_W h0 (hV) hF1 hC1 hF2 h118)
  · exact absurd rfl c818

set_option maxRecDepth 20000 in
theorem lL_write {i : Nat} (hi : i + 6 ≤ sc.1) (hL : sc.1 ≤ 3072) (h : INV I R N n) (hk : ∀ (I' : HI) (L' : HL) (R' : HR) (N' : HN) (n' : Nat), INV I' R' N' n' → WP sc 82 mc ms mL_law 1426 [vS 4, vR 9 0, vR 10 117, vI (nI i)] [] I' L' R' N' n' Q) : WP sc 82 (mc + 2) (ms + 99) mL_law 823 [vS 4, vR 9 0, vR 10 117, vI (nI i)] [] I L R N n Q := by
  have h0 := h
  obtain ⟨hs, hn, ⟨hV, hC⟩, hPI, hPT, ⟨hSO, hSH⟩, ⟨hSL, hSC⟩, hPZ, hKY⟩ := h
  refine WP.room (mc := mc) (ms := ms) ?_ (by omega) (by omega)
  refine w_aload_n dL_law_823 rfl ?_
  refine c_V (t := 9) (as := []) (d' := 6) dL_law_824 mlL_99 moX9_write mvX9_write ⟨rfl, rfl⟩ rfl rfl rfl rfl rfl (by decide) (sX9_write hs hV hC (fun I1 L1 hF1 hC1 => ?_))
  have h18 : I1 118 = I 118 := hF1 118 (by unfold FC; omega)
  refine w_aload_n dL_law_827 rfl ?_
  refine c_V (t := 10) (as := []) (d' := 5) dL_law_828 mlL_102 moX10_write mvX10_write ⟨rfl, rfl⟩ rfl rfl rfl rfl rfl (by decide) (sX10_write hs h18 hV (fun I2 L2 hF2 h118 => ?_))
  refine w_icmp_eq (tgt := 1426) dL_law_831 (by decide) (fun c831 => ?_) (fun c831 => ?_)
  · exact hk I2 L2 R N n (inv_W h0 (hV) hF1 hC1 hF2 h118)
  · exact absurd rfl c831

set_option maxRecDepth 20000 in
theorem lL_least {i : Nat} (hi : i + 6 ≤ sc.1) (hL : sc.1 ≤ 3072) (h : INV I R N n) (hk : ∀ (I' : HI) (L' : HL) (R' : HR) (N' : HN) (n' : Nat), INV I' R' N' n' → WP sc 82 mc ms mL_law 1426 [vS 4, vR 9 0, vR 10 117, vI (nI i)] [] I' L' R' N' n' Q) : WP sc 82 (mc + 2) (ms + 99) mL_law 836 [vS 4, vR 9 0, vR 10 117, vI (nI i)] [] I L R N n Q := by
  have h0 := h
  obtain ⟨hs, hn, ⟨hV, hC⟩, hPI, hPT, ⟨hSO, hSH⟩, ⟨hSL, hSC⟩, hPZ, hKY⟩ := h
  refine WP.room (mc := mc) (ms := ms) ?_ (by omega) (by omega)
  refine w_aload_n dL_law_836 rfl ?_
  refine c_V (t := 9) (as := []) (d' := 6) dL_law_837 mlL_103 moX9_least mvX9_least ⟨rfl, rfl⟩ rfl rfl rfl rfl rfl (by decide) (sX9_least hs hV hC (fun I1 L1 hF1 hC1 => ?_))
  have h18 : I1 118 = I 118 := hF1 118 (by unfold FC; omega)
  refine w_aload_n dL_law_840 rfl ?_
  refine c_V (t := 10) (as := []) (d' := 5) dL_law_841 mlL_106 moX10_least mvX10_least ⟨rfl, rfl⟩ rfl rfl rfl rfl rfl (by decide) (sX10_least hs h18 hV (fun I2 L2 hF2 h118 => ?_))
  refine w_icmp_eq (tgt := 1426) dL_law_844 (by decide) (fun c844 => ?_) (fun c844 => ?_)
  · exact hk I2 L2 R N n (inv_W h0 (hV) hF1 hC1 hF2 h118)
  · exact absurd rfl c844

set_option maxRecDepth 20000 in
theorem lL_feed {i : Nat} (hi : i + 6 ≤ sc.1) (hL : sc.1 ≤ 3072) (h : INV I R N n) (hk : ∀ (I' : HI) (L' : HL) (R' : HR) (N' : HN) (n' : Nat), INV I' R' N' n' → WP sc 82 mc ms mL_law 1426 [vS 4, vR 9 0, vR 10 117, vI (nI i)] [] I' L' R' N' n' Q) : WP sc 82 (mc + 2) (ms + 99) mL_law 849 [vS 4, vR 9 0, vR 10 117, vI (nI i)] [] I L R N n Q := by
  have h0 := h
  obtain ⟨hs, hn, ⟨hV, hC⟩, hPI, hPT, ⟨hSO, hSH⟩, ⟨hSL, hSC⟩, hPZ, hKY⟩ := h
  refine WP.room (mc := mc) (ms := ms) ?_ (by omega) (by omega)
  obtain ⟨z, hz96, hz1, hz2, hzt⟩ := hPT
  refine w_aload_n dL_law_849 rfl ?_
  refine w_aload_nS dL_law_850 rfl ?_
  refine w_iload_n dL_law_851 rfl ?_
  refine w_iconst dL_law_852 ic_1 ?_
  refine w_iadd dL_law_853 ?_
  refine w_sald (q := i + 1) dL_law_854 (by decide) (nI_add i 1) (show svN sc 4 = sc.1 from rfl) (by omega) ?_ (by omega)
  refine w_aload_nS dL_law_855 rfl ?_
  refine w_iload_n dL_law_856 rfl ?_
  refine w_iconst dL_law_857 ic_2 ?_
  refine w_iadd dL_law_858 ?_
  refine w_sald (q := i + 2) dL_law_859 (by decide) (nI_add i 2) (show svN sc 4 = sc.1 from rfl) (by omega) ?_ (by omega)
  refine w_aload_nS dL_law_860 rfl ?_
  refine w_iload_n dL_law_861 rfl ?_
  refine w_iconst dL_law_862 ic_3 ?_
  refine w_iadd dL_law_863 ?_
  refine w_sald (q := i + 3) dL_law_864 (by decide) (nI_add i 3) (show svN sc 4 = sc.1 from rfl) (by omega) ?_ (by omega)
  refine c_V (t := 9) (as := [_, _, _]) (d' := 1) dL_law_865 mlL_107 moX9_feed mvX9_feed ⟨rfl, rfl⟩ rfl rfl rfl rfl rfl (by decide) (sX9_feed hs hz1 hz96 (fun I1 a1 a2 a3 a4 => ?_))
  refine w_aload_n dL_law_868 rfl ?_
  refine w_aload_nS dL_law_869 rfl ?_
  refine w_iload_n dL_law_870 rfl ?_
  refine w_iconst dL_law_871 ic_1 ?_
  refine w_iadd dL_law_872 ?_
  refine w_sald (q := i + 1) dL_law_873 (by decide) (nI_add i 1) (show svN sc 4 = sc.1 from rfl) (by omega) ?_ (by omega)
  refine w_aload_nS dL_law_874 rfl ?_
  refine w_iload_n dL_law_875 rfl ?_
  refine w_iconst dL_law_876 ic_2 ?_
  refine w_iadd dL_law_877 ?_
  refine w_sald (q := i + 2) dL_law_878 (by decide) (nI_add i 2) (show svN sc 4 = sc.1 from rfl) (by omega) ?_ (by omega)
  refine w_aload_nS dL_law_879 rfl ?_
  refine w_iload_n dL_law_880 rfl ?_
  refine w_iconst dL_law_881 ic_3 ?_
  refine w_iadd dL_law_882 ?_
  refine w_sald (q := i + 3) dL_law_883 (by decide) (nI_add i 3) (show svN sc 4 = sc.1 from rfl) (by omega) ?_ (by omega)
  refine c_V (t := 10) (as := [_, _, _]) (d' := 0) dL_law_884 mlL_110 moX10_feed mvX10_feed ⟨rfl, rfl⟩ rfl rfl rfl rfl rfl (by decide) (sX10_feed hs (by rw [a1 117 (by decide) (by decide)]; exact hz2) hz96 (fun I2 b1 b2 b3 b4 => ?_))
  refine w_icmp_eq (tgt := 1426) dL_law_887 (by decide) (fun c887 => ?_) (fun c887 => ?_)
  · exact hk I2 L R N n (inv_feed h0 hz96 hzt a1 a2 a3 a4 b1 b2 b3 b4)
  · exact absurd rfl c887

set_option maxRecDepth 20000 in
theorem lL_trim {i : Nat} (hi : i + 6 ≤ sc.1) (hL : sc.1 ≤ 3072) (h : INV I R N n) (hk : ∀ (I' : HI) (L' : HL) (R' : HR) (N' : HN) (n' : Nat), INV I' R' N' n' → WP sc 82 mc ms mL_law 1426 [vS 4, vR 9 0, vR 10 117, vI (nI i)] [] I' L' R' N' n' Q) : WP sc 82 (mc + 2) (ms + 99) mL_law 892 [vS 4, vR 9 0, vR 10 117, vI (nI i)] [] I L R N n Q := by
  have h0 := h
  obtain ⟨hs, hn, ⟨hV, hC⟩, hPI, hPT, ⟨hSO, hSH⟩, ⟨hSL, hSC⟩, hPZ, hKY⟩ := h
  refine WP.room (mc := mc) (ms := ms) ?_ (by omega) (by omega)
  obtain ⟨z, hz96, hz1, hz2, hzt⟩ := hPT
  refine w_aload_n dL_law_892 rfl ?_
  refine w_aload_nS dL_law_893 rfl ?_
  refine w_iload_n dL_law_894 rfl ?_
  refine w_iconst dL_law_895 ic_1 ?_
  refine w_iadd dL_law_896 ?_
  refine w_sald (q := i + 1) dL_law_897 (by decide) (nI_add i 1) (show svN sc 4 = sc.1 from rfl) (by omega) ?_ (by omega)
  refine c_V (t := 9) (as := [_]) (d' := 1) dL_law_898 mlL_111 moX9_trim mvX9_trim ⟨rfl, rfl⟩ rfl rfl rfl rfl rfl (by decide) (sX9_trim hs hz1 (fun I1 a1 a2 a3 => ?_))
  refine w_aload_n dL_law_901 rfl ?_
  refine w_aload_nS dL_law_902 rfl ?_
  refine w_iload_n dL_law_903 rfl ?_
  refine w_iconst dL_law_904 ic_1 ?_
  refine w_iadd dL_law_905 ?_
  refine w_sald (q := i + 1) dL_law_906 (by decide) (nI_add i 1) (show svN sc 4 = sc.1 from rfl) (by omega) ?_ (by omega)
  refine c_V (t := 10) (as := [_]) (d' := 1) dL_law_907 mlL_114 moX10_trim mvX10_trim ⟨rfl, rfl⟩ rfl rfl rfl rfl rfl (by decide) (sX10_trim hs (z := z) (by rw [a1 117 (by decide)]; exact hz2) (fun I2 b1 b2 b3 => ?_))
  refine w_icmp_eq (tgt := 1426) dL_law_910 (by decide) (fun c910 => ?_) (fun c910 => ?_)
  · exact hk I2 L R N n (inv_trim h0 hz96 hzt a1 a3 b1 b2 b3)
  · exact absurd rfl c910

set_option maxRecDepth 20000 in
theorem lL_text {i : Nat} (hi : i + 6 ≤ sc.1) (hL : sc.1 ≤ 3072) (h : INV I R N n) (hk : ∀ (I' : HI) (L' : HL) (R' : HR) (N' : HN) (n' : Nat), INV I' R' N' n' → WP sc 82 mc ms mL_law 1426 [vS 4, vR 9 0, vR 10 117, vI (nI i)] [] I' L' R' N' n' Q) : WP sc 82 (mc + 2) (ms + 99) mL_law 915 [vS 4, vR 9 0, vR 10 117, vI (nI i)] [] I L R N n Q := by
  have h0 := h
  obtain ⟨hs, hn, ⟨hV, hC⟩, hPI, hPT, ⟨hSO, hSH⟩, ⟨hSL, hSC⟩, hPZ, hKY⟩ := h
  obtain ⟨z, hz96, hz1, hz2, hzt⟩ := hPT
  refine w_aload_n dL_law_915 rfl ?_
  refine c_Vm (mc := mc) (mc' := 2) (ms := ms) (ms' := 99) (t := 9) (as := []) (d' := 80) dL_law_916 mlL_115 moX9_text mvX9_text ⟨rfl, rfl⟩ rfl rfl rfl rfl rfl (by decide) (sX9_text (V := I 118) (T := I 129) (z := z) (td := va_up (I 134) 0 0) hs hV hC hn hz96 (fun i hi => (hzt i hi).2) (va_up_self _ _ _) (fun i hi => (hzt i hi).1) hz1 (fun I1 L1 R1 N1 n1 r hp1 ho1 a1 a2 hs1 hn1 hC1 hW1 => ?_))
  have e1 : ∀ q, (117 ≤ q ∧ q < 146) → I1 q = I q := fun q hq => a1 q (by omega) (by omega) (by omega) (by omega) (by omega) (by omega)
  refine w_aload_n dL_law_919 rfl ?_
  refine c_V (t := 10) (as := []) (d' := 4) dL_law_920 mlL_118 moX10_text mvX10_text ⟨rfl, rfl⟩ rfl rfl rfl rfl rfl (by decide) (sX10_text (V := I 118) (T := I 129) (z := z) (td := va_up (I 134) 0 0) (r := r) hs1 (hKY.keep (e1 130 (by omega)) (e1 131 (by omega))) (e1 118 (by omega)) hV hz96 (by rw [e1 134 (by omega)]) (fun i hi => by rw [e1 129 (by omega)]) (by rw [e1 117 (by omega)]; exact hz2) hp1 ho1 (fun I2 b1 b2 b3 b4 => ?_))
  refine w_icmp_eq (tgt := 1426) dL_law_923 (by decide) (fun c923 => ?_) (fun c923 => ?_)
  · exact hk I2 L1 R1 N1 n1 (inv_text h0 ho1 a1 a2 hs1 hn1 hC1 hW1 b1 b2 b3 b4)
  · exact absurd rfl c923

set_option maxRecDepth 20000 in
theorem lL_textTold {i : Nat} (hi : i + 6 ≤ sc.1) (hL : sc.1 ≤ 3072) (h : INV I R N n) (hk : ∀ (I' : HI) (L' : HL) (R' : HR) (N' : HN) (n' : Nat), INV I' R' N' n' → WP sc 82 mc ms mL_law 1426 [vS 4, vR 9 0, vR 10 117, vI (nI i)] [] I' L' R' N' n' Q) : WP sc 82 (mc + 2) (ms + 99) mL_law 928 [vS 4, vR 9 0, vR 10 117, vI (nI i)] [] I L R N n Q := by
  have h0 := h
  obtain ⟨hs, hn, ⟨hV, hC⟩, hPI, hPT, ⟨hSO, hSH⟩, ⟨hSL, hSC⟩, hPZ, hKY⟩ := h
  refine WP.room (mc := mc) (ms := ms) ?_ (by omega) (by omega)
  refine w_aload_n dL_law_928 rfl ?_
  refine w_aload_nS dL_law_929 rfl ?_
  refine w_iload_n dL_law_930 rfl ?_
  refine w_iconst dL_law_931 ic_1 ?_
  refine w_iadd dL_law_932 ?_
  refine w_sald (q := i + 1) dL_law_933 (by decide) (nI_add i 1) (show svN sc 4 = sc.1 from rfl) (by omega) ?_ (by omega)
  refine w_aload_nS dL_law_934 rfl ?_
  refine w_iload_n dL_law_935 rfl ?_
  refine w_iconst dL_law_936 ic_2 ?_
  refine w_iadd dL_law_937 ?_
  refine w_sald (q := i + 2) dL_law_938 (by decide) (nI_add i 2) (show svN sc 4 = sc.1 from rfl) (by omega) ?_ (by omega)
  refine c_V (t := 9) (as := [_, _]) (d' := 2) dL_law_939 mlL_119 moX9_textTold mvX9_textTold ⟨rfl, rfl⟩ rfl rfl rfl rfl rfl (by decide) (sX9_textTold hs hV hC ?_)
  refine w_aload_n dL_law_942 rfl ?_
  refine w_aload_nS dL_law_943 rfl ?_
  refine w_iload_n dL_law_944 rfl ?_
  refine w_iconst dL_law_945 ic_1 ?_
  refine w_iadd dL_law_946 ?_
  refine w_sald (q := i + 1) dL_law_947 (by decide) (nI_add i 1) (show svN sc 4 = sc.1 from rfl) (by omega) ?_ (by omega)
  refine w_aload_nS dL_law_948 rfl ?_
  refine w_iload_n dL_law_949 rfl ?_
  refine w_iconst dL_law_950 ic_2 ?_
  refine w_iadd dL_law_951 ?_
  refine w_sald (q := i + 2) dL_law_952 (by decide) (nI_add i 2) (show svN sc 4 = sc.1 from rfl) (by omega) ?_ (by omega)
  refine c_V (t := 10) (as := [_, _]) (d' := 1) dL_law_953 mlL_122 moX10_textTold mvX10_textTold ⟨rfl, rfl⟩ rfl rfl rfl rfl rfl (by decide) (sX10_textTold hs (V := I 118) rfl hV ?_)
  refine w_icmp_eq (tgt := 1426) dL_law_956 (by decide) (fun c956 => ?_) (fun c956 => ?_)
  · exact hk I L R N n h0
  · exact absurd rfl c956

set_option maxRecDepth 20000 in
theorem lL_why {i : Nat} (hi : i + 6 ≤ sc.1) (hL : sc.1 ≤ 3072) (h : INV I R N n) (hk : ∀ (I' : HI) (L' : HL) (R' : HR) (N' : HN) (n' : Nat), INV I' R' N' n' → WP sc 82 mc ms mL_law 1426 [vS 4, vR 9 0, vR 10 117, vI (nI i)] [] I' L' R' N' n' Q) : WP sc 82 (mc + 2) (ms + 99) mL_law 961 [vS 4, vR 9 0, vR 10 117, vI (nI i)] [] I L R N n Q := by
  have h0 := h
  obtain ⟨hs, hn, ⟨hV, hC⟩, hPI, hPT, ⟨hSO, hSH⟩, ⟨hSL, hSC⟩, hPZ, hKY⟩ := h
  refine WP.room (mc := mc) (ms := ms) ?_ (by omega) (by omega)
  refine w_aload_n dL_law_961 rfl ?_
  refine w_aload_nS dL_law_962 rfl ?_
  refine w_iload_n dL_law_963 rfl ?_
  refine w_iconst dL_law_964 ic_1 ?_
  refine w_iadd dL_law_965 ?_
  refine w_sald (q := i + 1) dL_law_966 (by decide) (nI_add i 1) (show svN sc 4 = sc.1 from rfl) (by omega) ?_ (by omega)
  refine c_V (t := 9) (as := [_]) (d' := 1) dL_law_967 mlL_123 moX9_why mvX9_why ⟨rfl, rfl⟩ rfl rfl rfl rfl rfl (by decide) (sX9_why hs hV hC ?_)
  refine w_aload_n dL_law_970 rfl ?_
  refine w_aload_nS dL_law_971 rfl ?_
  refine w_iload_n dL_law_972 rfl ?_
  refine w_iconst dL_law_973 ic_1 ?_
  refine w_iadd dL_law_974 ?_
  refine w_sald (q := i + 1) dL_law_975 (by decide) (nI_add i 1) (show svN sc 4 = sc.1 from rfl) (by omega) ?_ (by omega)
  refine c_V (t := 10) (as := [_]) (d' := 1) dL_law_976 mlL_126 moX10_why mvX10_why ⟨rfl, rfl⟩ rfl rfl rfl rfl rfl (by decide) (sX10_why hs (V := I 118) rfl hV ?_)
  refine w_icmp_eq (tgt := 1426) dL_law_979 (by decide) (fun c979 => ?_) (fun c979 => ?_)
  · exact hk I L R N n h0
  · exact absurd rfl c979

set_option maxRecDepth 20000 in
theorem lL_sheet {i : Nat} (hi : i + 6 ≤ sc.1) (hL : sc.1 ≤ 3072) (h : INV I R N n) (hk : ∀ (I' : HI) (L' : HL) (R' : HR) (N' : HN) (n' : Nat), INV I' R' N' n' → WP sc 82 mc ms mL_law 1426 [vS 4, vR 9 0, vR 10 117, vI (nI i)] [] I' L' R' N' n' Q) : WP sc 82 (mc + 2) (ms + 99) mL_law 984 [vS 4, vR 9 0, vR 10 117, vI (nI i)] [] I L R N n Q := by
  have h0 := h
  obtain ⟨hs, hn, ⟨hV, hC⟩, hPI, hPT, ⟨hSO, hSH⟩, ⟨hSL, hSC⟩, hPZ, hKY⟩ := h
  refine WP.room (mc := mc) (ms := ms) ?_ (by omega) (by omega)
  refine w_aload_n dL_law_984 rfl ?_
  refine w_aload_nS dL_law_985 rfl ?_
  refine w_iload_n dL_law_986 rfl ?_
  refine w_iconst dL_law_987 ic_1 ?_
  refine w_iadd dL_law_988 ?_
  refine w_sald (q := i + 1) dL_law_989 (by decide) (nI_add i 1) (show svN sc 4 = sc.1 from rfl) (by omega) ?_ (by omega)
  refine w_aload_nS dL_law_990 rfl ?_
  refine w_iload_n dL_law_991 rfl ?_
  refine w_iconst dL_law_992 ic_2 ?_
  refine w_iadd dL_law_993 ?_
  refine w_sald (q := i + 2) dL_law_994 (by decide) (nI_add i 2) (show svN sc 4 = sc.1 from rfl) (by omega) ?_ (by omega)
  refine w_aload_nS dL_law_995 rfl ?_
  refine w_iload_n dL_law_996 rfl ?_
  refine w_iconst dL_law_997 ic_3 ?_
  refine w_iadd dL_law_998 ?_
  refine w_sald (q := i + 3) dL_law_999 (by decide) (nI_add i 3) (show svN sc 4 = sc.1 from rfl) (by omega) ?_ (by omega)
  refine c_V (t := 9) (as := [_, _, _]) (d' := 2) dL_law_1000 mlL_127 moX9_sheet mvX9_sheet ⟨rfl, rfl⟩ rfl rfl rfl rfl rfl (by decide) (sX9_sheet (X := (I 137, I 138, I 139)) hs hSO hSH (fun I1 a1 a2 => ?_))
  refine w_aload_n dL_law_1003 rfl ?_
  refine w_aload_nS dL_law_1004 rfl ?_
  refine w_iload_n dL_law_1005 rfl ?_
  refine w_iconst dL_law_1006 ic_1 ?_
  refine w_iadd dL_law_1007 ?_
  refine w_sald (q := i + 1) dL_law_1008 (by decide) (nI_add i 1) (show svN sc 4 = sc.1 from rfl) (by omega) ?_ (by omega)
  refine w_aload_nS dL_law_1009 rfl ?_
  refine w_iload_n dL_law_1010 rfl ?_
  refine w_iconst dL_law_1011 ic_2 ?_
  refine w_iadd dL_law_1012 ?_
  refine w_sald (q := i + 2) dL_law_1013 (by decide) (nI_add i 2) (show svN sc 4 = sc.1 from rfl) (by omega) ?_ (by omega)
  refine w_aload_nS dL_law_1014 rfl ?_
  refine w_iload_n dL_law_1015 rfl ?_
  refine w_iconst dL_law_1016 ic_3 ?_
  refine w_iadd dL_law_1017 ?_
  refine w_sald (q := i + 3) dL_law_1018 (by decide) (nI_add i 3) (show svN sc 4 = sc.1 from rfl) (by omega) ?_ (by omega)
  refine c_V (t := 10) (as := [_, _, _]) (d' := 2) dL_law_1019 mlL_130 moX10_sheet mvX10_sheet ⟨rfl, rfl⟩ rfl rfl rfl rfl rfl (by decide) (sX10_sheet (X := (I 137, I 138, I 139)) hs hSO (a1 137 (by omega)) (a1 138 (by omega)) (a1 139 (by omega)) (fun I2 b1 b2 b3 b4 => ?_))
  refine w_icmp_eq (tgt := 1426) dL_law_1022 (by decide) (fun c1022 => ?_) (fun c1022 => ?_)
  · refine hk I2 L R N n (inv_X h0 (fun q c1 c2 c3 c4 c5 => (b1 q c2 c3 c4).trans (a1 q c1)) ?_)
    unfold PX
    rw [b2, b3, b4]
    refine ⟨SO_oSheet hSO _ _ _, fun s hs9 => ?_⟩
    rw [b1 (84 + 2 * s) (by omega) (by omega) (by omega), b1 (85 + 2 * s) (by omega) (by omega) (by omega)]
    exact a2 s hs9
  · exact absurd rfl c1022

set_option maxRecDepth 20000 in
theorem lL_mark {i : Nat} (hi : i + 6 ≤ sc.1) (hL : sc.1 ≤ 3072) (h : INV I R N n) (hk : ∀ (I' : HI) (L' : HL) (R' : HR) (N' : HN) (n' : Nat), INV I' R' N' n' → WP sc 82 mc ms mL_law 1426 [vS 4, vR 9 0, vR 10 117, vI (nI i)] [] I' L' R' N' n' Q) : WP sc 82 (mc + 2) (ms + 99) mL_law 1027 [vS 4, vR 9 0, vR 10 117, vI (nI i)] [] I L R N n Q := by
  have h0 := h
  obtain ⟨hs, hn, ⟨hV, hC⟩, hPI, hPT, ⟨hSO, hSH⟩, ⟨hSL, hSC⟩, hPZ, hKY⟩ := h
  refine WP.room (mc := mc) (ms := ms) ?_ (by omega) (by omega)
  refine w_aload_n dL_law_1027 rfl ?_
  refine w_aload_nS dL_law_1028 rfl ?_
  refine w_iload_n dL_law_1029 rfl ?_
  refine w_iconst dL_law_1030 ic_1 ?_
  refine w_iadd dL_law_1031 ?_
  refine w_sald (q := i + 1) dL_law_1032 (by decide) (nI_add i 1) (show svN sc 4 = sc.1 from rfl) (by omega) ?_ (by omega)
  refine w_aload_nS dL_law_1033 rfl ?_
  refine w_iload_n dL_law_1034 rfl ?_
  refine w_iconst dL_law_1035 ic_2 ?_
  refine w_iadd dL_law_1036 ?_
  refine w_sald (q := i + 2) dL_law_1037 (by decide) (nI_add i 2) (show svN sc 4 = sc.1 from rfl) (by omega) ?_ (by omega)
  refine w_aload_nS dL_law_1038 rfl ?_
  refine w_iload_n dL_law_1039 rfl ?_
  refine w_iconst dL_law_1040 ic_3 ?_
  refine w_iadd dL_law_1041 ?_
  refine w_sald (q := i + 3) dL_law_1042 (by decide) (nI_add i 3) (show svN sc 4 = sc.1 from rfl) (by omega) ?_ (by omega)
  refine c_V (t := 9) (as := [_, _, _]) (d' := 2) dL_law_1043 mlL_131 moX9_mark mvX9_mark ⟨rfl, rfl⟩ rfl rfl rfl rfl rfl (by decide) (sX9_mark (X := (I 137, I 138, I 139)) hs hSO hSH (fun I1 a1 a2 => ?_))
  refine w_aload_n dL_law_1046 rfl ?_
  refine w_aload_nS dL_law_1047 rfl ?_
  refine w_iload_n dL_law_1048 rfl ?_
  refine w_iconst dL_law_1049 ic_1 ?_
  refine w_iadd dL_law_1050 ?_
  refine w_sald (q := i + 1) dL_law_1051 (by decide) (nI_add i 1) (show svN sc 4 = sc.1 from rfl) (by omega) ?_ (by omega)
  refine w_aload_nS dL_law_1052 rfl ?_
  refine w_iload_n dL_law_1053 rfl ?_
  refine w_iconst dL_law_1054 ic_2 ?_
  refine w_iadd dL_law_1055 ?_
  refine w_sald (q := i + 2) dL_law_1056 (by decide) (nI_add i 2) (show svN sc 4 = sc.1 from rfl) (by omega) ?_ (by omega)
  refine w_aload_nS dL_law_1057 rfl ?_
  refine w_iload_n dL_law_1058 rfl ?_
  refine w_iconst dL_law_1059 ic_3 ?_
  refine w_iadd dL_law_1060 ?_
  refine w_sald (q := i + 3) dL_law_1061 (by decide) (nI_add i 3) (show svN sc 4 = sc.1 from rfl) (by omega) ?_ (by omega)
  refine c_V (t := 10) (as := [_, _, _]) (d' := 2) dL_law_1062 mlL_134 moX10_mark mvX10_mark ⟨rfl, rfl⟩ rfl rfl rfl rfl rfl (by decide) (sX10_mark (X := (I 137, I 138, I 139)) hs hSO (a1 137 (by omega)) (a1 138 (by omega)) (a1 139 (by omega)) (fun I2 b1 b2 => ?_))
  refine w_icmp_eq (tgt := 1426) dL_law_1065 (by decide) (fun c1065 => ?_) (fun c1065 => ?_)
  · refine hk I2 L R N n (inv_X h0 (fun q c1 c2 c3 c4 c5 => (b1 q c4).trans (a1 q c1)) ?_)
    unfold PX
    rw [b2, b1 137 (by decide), b1 138 (by decide), a1 137 (by omega), a1 138 (by omega)]
    refine ⟨hSO, fun s hs9 => ?_⟩
    rw [b1 (84 + 2 * s) (by omega), b1 (85 + 2 * s) (by omega)]
    exact a2 s hs9
  · exact absurd rfl c1065

set_option maxRecDepth 20000 in
theorem lL_learn {i : Nat} (hi : i + 6 ≤ sc.1) (hL : sc.1 ≤ 3072) (h : INV I R N n) (hk : ∀ (I' : HI) (L' : HL) (R' : HR) (N' : HN) (n' : Nat), INV I' R' N' n' → WP sc 82 mc ms mL_law 1426 [vS 4, vR 9 0, vR 10 117, vI (nI i)] [] I' L' R' N' n' Q) : WP sc 82 (mc + 2) (ms + 99) mL_law 1070 [vS 4, vR 9 0, vR 10 117, vI (nI i)] [] I L R N n Q := by
  have h0 := h
  obtain ⟨hs, hn, ⟨hV, hC⟩, hPI, hPT, ⟨hSO, hSH⟩, ⟨hSL, hSC⟩, hPZ, hKY⟩ := h
  refine WP.room (mc := mc) (ms := ms) ?_ (by omega) (by omega)
  refine w_aload_n dL_law_1070 rfl ?_
  refine w_aload_nS dL_law_1071 rfl ?_
  refine w_iload_n dL_law_1072 rfl ?_
  refine w_iconst dL_law_1073 ic_1 ?_
  refine w_iadd dL_law_1074 ?_
  refine w_sald (q := i + 1) dL_law_1075 (by decide) (nI_add i 1) (show svN sc 4 = sc.1 from rfl) (by omega) ?_ (by omega)
  refine c_V (t := 9) (as := [_]) (d' := 6) dL_law_1076 mlL_135 moX9_learn mvX9_learn ⟨rfl, rfl⟩ rfl rfl rfl rfl rfl (by decide) (sX9_learn hs hV hC (X := (I 137, I 138, I 139)) hSO hSH (fun I1 hF1 hC1 => ?_))
  have h18 : I1 118 = I 118 := hF1 118 (by unfold FC; omega)
  refine w_aload_n dL_law_1079 rfl ?_
  refine w_aload_nS dL_law_1080 rfl ?_
  refine w_iload_n dL_law_1081 rfl ?_
  refine w_iconst dL_law_1082 ic_1 ?_
  refine w_iadd dL_law_1083 ?_
  refine w_sald (q := i + 1) dL_law_1084 (by decide) (nI_add i 1) (show svN sc 4 = sc.1 from rfl) (by omega) ?_ (by omega)
  refine c_V (t := 10) (as := [_]) (d' := 4) dL_law_1085 mlL_138 moX10_learn mvX10_learn ⟨rfl, rfl⟩ rfl rfl rfl rfl rfl (by decide) (sX10_learn hs h18 hV (X := (I 137, I 138, I 139)) hSO (hF1 137 (by unfold FC; omega)) (hF1 138 (by unfold FC; omega)) (hF1 139 (by unfold FC; omega)) (fun I2 hF2 h118 => ?_))
  refine w_icmp_eq (tgt := 1426) dL_law_1088 (by decide) (fun c1088 => ?_) (fun c1088 => ?_)
  · exact hk I2 L R N n (inv_W h0 (hV) hF1 hC1 hF2 h118)
  · exact absurd rfl c1088

set_option maxRecDepth 20000 in
theorem lL_reads {i : Nat} (hi : i + 6 ≤ sc.1) (hL : sc.1 ≤ 3072) (h : INV I R N n) (hk : ∀ (I' : HI) (L' : HL) (R' : HR) (N' : HN) (n' : Nat), INV I' R' N' n' → WP sc 82 mc ms mL_law 1426 [vS 4, vR 9 0, vR 10 117, vI (nI i)] [] I' L' R' N' n' Q) : WP sc 82 (mc + 2) (ms + 99) mL_law 1093 [vS 4, vR 9 0, vR 10 117, vI (nI i)] [] I L R N n Q := by
  have h0 := h
  obtain ⟨hs, hn, ⟨hV, hC⟩, hPI, hPT, ⟨hSO, hSH⟩, ⟨hSL, hSC⟩, hPZ, hKY⟩ := h
  refine WP.room (mc := mc) (ms := ms) ?_ (by omega) (by omega)
  refine w_aload_n dL_law_1093 rfl ?_
  refine w_aload_nS dL_law_1094 rfl ?_
  refine w_iload_n dL_law_1095 rfl ?_
  refine w_iconst dL_law_1096 ic_1 ?_
  refine w_iadd dL_law_1097 ?_
  refine w_sald (q := i + 1) dL_law_1098 (by decide) (nI_add i 1) (show svN sc 4 = sc.1 from rfl) (by omega) ?_ (by omega)
  refine w_aload_nS dL_law_1099 rfl ?_
  refine w_iload_n dL_law_1100 rfl ?_
  refine w_iconst dL_law_1101 ic_2 ?_
  refine w_iadd dL_law_1102 ?_
  refine w_sald (q := i + 2) dL_law_1103 (by decide) (nI_add i 2) (show svN sc 4 = sc.1 from rfl) (by omega) ?_ (by omega)
  refine c_V (t := 9) (as := [_, _]) (d' := 3) dL_law_1104 mlL_139 moX9_reads mvX9_reads ⟨rfl, rfl⟩ rfl rfl rfl rfl rfl (by decide) (sX9_reads hs hV hC (X := (I 137, I 138, I 139)) hSO hSH (fun I1 hF1 hC1 => ?_))
  have h18 : I1 118 = I 118 := hF1 118 (by unfold FC; omega)
  refine w_aload_n dL_law_1107 rfl ?_
  refine w_aload_nS dL_law_1108 rfl ?_
  refine w_iload_n dL_law_1109 rfl ?_
  refine w_iconst dL_law_1110 ic_1 ?_
  refine w_iadd dL_law_1111 ?_
  refine w_sald (q := i + 1) dL_law_1112 (by decide) (nI_add i 1) (show svN sc 4 = sc.1 from rfl) (by omega) ?_ (by omega)
  refine w_aload_nS dL_law_1113 rfl ?_
  refine w_iload_n dL_law_1114 rfl ?_
  refine w_iconst dL_law_1115 ic_2 ?_
  refine w_iadd dL_law_1116 ?_
  refine w_sald (q := i + 2) dL_law_1117 (by decide) (nI_add i 2) (show svN sc 4 = sc.1 from rfl) (by omega) ?_ (by omega)
  refine c_V (t := 10) (as := [_, _]) (d' := 3) dL_law_1118 mlL_142 moX10_reads mvX10_reads ⟨rfl, rfl⟩ rfl rfl rfl rfl rfl (by decide) (sX10_reads hs h18 hV (X := (I 137, I 138, I 139)) hSO (hF1 137 (by unfold FC; omega)) (hF1 138 (by unfold FC; omega)) (hF1 139 (by unfold FC; omega)) (fun I2 hF2 h118 => ?_))
  refine w_icmp_eq (tgt := 1426) dL_law_1121 (by decide) (fun c1121 => ?_) (fun c1121 => ?_)
  · exact hk I2 L R N n (inv_W h0 (hV) hF1 hC1 hF2 h118)
  · exact absurd rfl c1121

set_option maxRecDepth 20000 in
theorem lL_copy {i : Nat} (hi : i + 6 ≤ sc.1) (hL : sc.1 ≤ 3072) (h : INV I R N n) (hk : ∀ (I' : HI) (L' : HL) (R' : HR) (N' : HN) (n' : Nat), INV I' R' N' n' → WP sc 82 mc ms mL_law 1426 [vS 4, vR 9 0, vR 10 117, vI (nI i)] [] I' L' R' N' n' Q) : WP sc 82 (mc + 2) (ms + 99) mL_law 1126 [vS 4, vR 9 0, vR 10 117, vI (nI i)] [] I L R N n Q := by
  have h0 := h
  obtain ⟨hs, hn, ⟨hV, hC⟩, hPI, hPT, ⟨hSO, hSH⟩, ⟨hSL, hSC⟩, hPZ, hKY⟩ := h
  refine WP.room (mc := mc) (ms := ms) ?_ (by omega) (by omega)
  refine w_aload_n dL_law_1126 rfl ?_
  refine w_aload_nS dL_law_1127 rfl ?_
  refine w_iload_n dL_law_1128 rfl ?_
  refine w_iconst dL_law_1129 ic_1 ?_
  refine w_iadd dL_law_1130 ?_
  refine w_sald (q := i + 1) dL_law_1131 (by decide) (nI_add i 1) (show svN sc 4 = sc.1 from rfl) (by omega) ?_ (by omega)
  refine w_aload_nS dL_law_1132 rfl ?_
  refine w_iload_n dL_law_1133 rfl ?_
  refine w_iconst dL_law_1134 ic_2 ?_
  refine w_iadd dL_law_1135 ?_
  refine w_sald (q := i + 2) dL_law_1136 (by decide) (nI_add i 2) (show svN sc 4 = sc.1 from rfl) (by omega) ?_ (by omega)
  refine w_aload_nS dL_law_1137 rfl ?_
  refine w_iload_n dL_law_1138 rfl ?_
  refine w_iconst dL_law_1139 ic_3 ?_
  refine w_iadd dL_law_1140 ?_
  refine w_sald (q := i + 3) dL_law_1141 (by decide) (nI_add i 3) (show svN sc 4 = sc.1 from rfl) (by omega) ?_ (by omega)
  refine w_aload_nS dL_law_1142 rfl ?_
  refine w_iload_n dL_law_1143 rfl ?_
  refine w_iconst dL_law_1144 ic_4 ?_
  refine w_iadd dL_law_1145 ?_
  refine w_sald (q := i + 4) dL_law_1146 (by decide) (nI_add i 4) (show svN sc 4 = sc.1 from rfl) (by omega) ?_ (by omega)
  refine w_aload_nS dL_law_1147 rfl ?_
  refine w_iload_n dL_law_1148 rfl ?_
  refine w_iconst dL_law_1149 ic_5 ?_
  refine w_iadd dL_law_1150 ?_
  refine w_sald (q := i + 5) dL_law_1151 (by decide) (nI_add i 5) (show svN sc 4 = sc.1 from rfl) (by omega) ?_ (by omega)
  refine c_V (t := 9) (as := [_, _, _, _, _]) (d' := 2) dL_law_1152 mlL_143 moX9_copy mvX9_copy ⟨rfl, rfl⟩ rfl rfl rfl rfl rfl (by decide) (sX9_copy (X := (I 137, I 138, I 139)) hs hSO hSH (fun I1 a1 a2 => ?_))
  refine w_aload_n dL_law_1155 rfl ?_
  refine w_aload_nS dL_law_1156 rfl ?_
  refine w_iload_n dL_law_1157 rfl ?_
  refine w_iconst dL_law_1158 ic_1 ?_
  refine w_iadd dL_law_1159 ?_
  refine w_sald (q := i + 1) dL_law_1160 (by decide) (nI_add i 1) (show svN sc 4 = sc.1 from rfl) (by omega) ?_ (by omega)
  refine w_aload_nS dL_law_1161 rfl ?_
  refine w_iload_n dL_law_1162 rfl ?_
  refine w_iconst dL_law_1163 ic_2 ?_
  refine w_iadd dL_law_1164 ?_
  refine w_sald (q := i + 2) dL_law_1165 (by decide) (nI_add i 2) (show svN sc 4 = sc.1 from rfl) (by omega) ?_ (by omega)
  refine w_aload_nS dL_law_1166 rfl ?_
  refine w_iload_n dL_law_1167 rfl ?_
  refine w_iconst dL_law_1168 ic_3 ?_
  refine w_iadd dL_law_1169 ?_
  refine w_sald (q := i + 3) dL_law_1170 (by decide) (nI_add i 3) (show svN sc 4 = sc.1 from rfl) (by omega) ?_ (by omega)
  refine w_aload_nS dL_law_1171 rfl ?_
  refine w_iload_n dL_law_1172 rfl ?_
  refine w_iconst dL_law_1173 ic_4 ?_
  refine w_iadd dL_law_1174 ?_
  refine w_sald (q := i + 4) dL_law_1175 (by decide) (nI_add i 4) (show svN sc 4 = sc.1 from rfl) (by omega) ?_ (by omega)
  refine w_aload_nS dL_law_1176 rfl ?_
  refine w_iload_n dL_law_1177 rfl ?_
  refine w_iconst dL_law_1178 ic_5 ?_
  refine w_iadd dL_law_1179 ?_
  refine w_sald (q := i + 5) dL_law_1180 (by decide) (nI_add i 5) (show svN sc 4 = sc.1 from rfl) (by omega) ?_ (by omega)
  refine c_V (t := 10) (as := [_, _, _, _, _]) (d' := 2) dL_law_1181 mlL_147 moX10_copy mvX10_copy ⟨rfl, rfl⟩ rfl rfl rfl rfl rfl (by decide) (sX10_copy (X := (I 137, I 138, I 139)) hs hSO (a1 137 (by omega)) (a1 138 (by omega)) (a1 139 (by omega)) (fun I2 b1 b2 => ?_))
  refine w_icmp_eq (tgt := 1426) dL_law_1184 (by decide) (fun c1184 => ?_) (fun c1184 => ?_)
  · refine hk I2 L R N n (inv_X h0 (fun q c1 c2 c3 c4 c5 => (b1 q c4 c5).trans (a1 q c1)) ?_)
    unfold PX
    rw [b2, b1 137 (by decide) (by decide), b1 138 (by decide) (by decide), a1 137 (by omega), a1 138 (by omega)]
    refine ⟨hSO, fun s hs9 => ?_⟩
    rw [b1 (84 + 2 * s) (by omega) (by omega), b1 (85 + 2 * s) (by omega) (by omega)]
    exact a2 s hs9
  · exact absurd rfl c1184

set_option maxRecDepth 20000 in
theorem lL_lay {i : Nat} (hi : i + 6 ≤ sc.1) (hL : sc.1 ≤ 3072) (h : INV I R N n) (hk : ∀ (I' : HI) (L' : HL) (R' : HR) (N' : HN) (n' : Nat), INV I' R' N' n' → WP sc 82 mc ms mL_law 1426 [vS 4, vR 9 0, vR 10 117, vI (nI i)] [] I' L' R' N' n' Q) : WP sc 82 (mc + 2) (ms + 99) mL_law 1189 [vS 4, vR 9 0, vR 10 117, vI (nI i)] [] I L R N n Q := by
  have h0 := h
  obtain ⟨hs, hn, ⟨hV, hC⟩, hPI, hPT, ⟨hSO, hSH⟩, ⟨hSL, hSC⟩, hPZ, hKY⟩ := h
  refine WP.room (mc := mc) (ms := ms) ?_ (by omega) (by omega)
  refine w_aload_n dL_law_1189 rfl ?_
  refine w_aload_nS dL_law_1190 rfl ?_
  refine w_iload_n dL_law_1191 rfl ?_
  refine w_iconst dL_law_1192 ic_1 ?_
  refine w_iadd dL_law_1193 ?_
  refine w_sald (q := i + 1) dL_law_1194 (by decide) (nI_add i 1) (show svN sc 4 = sc.1 from rfl) (by omega) ?_ (by omega)
  refine w_aload_nS dL_law_1195 rfl ?_
  refine w_iload_n dL_law_1196 rfl ?_
  refine w_iconst dL_law_1197 ic_2 ?_
  refine w_iadd dL_law_1198 ?_
  refine w_sald (q := i + 2) dL_law_1199 (by decide) (nI_add i 2) (show svN sc 4 = sc.1 from rfl) (by omega) ?_ (by omega)
  refine w_aload_nS dL_law_1200 rfl ?_
  refine w_iload_n dL_law_1201 rfl ?_
  refine w_iconst dL_law_1202 ic_3 ?_
  refine w_iadd dL_law_1203 ?_
  refine w_sald (q := i + 3) dL_law_1204 (by decide) (nI_add i 3) (show svN sc 4 = sc.1 from rfl) (by omega) ?_ (by omega)
  refine c_V (t := 9) (as := [_, _, _]) (d' := 2) dL_law_1205 mlL_148 moX9_lay mvX9_lay ⟨rfl, rfl⟩ rfl rfl rfl rfl rfl (by decide) (sX9_lay (X := (I 137, I 138, I 139)) (Y := (I 140, I 141, I 142, I 143)) hs hV hC hSO hSH hSL hSC (fun I1 a1 a2 => ?_))
  refine w_aload_n dL_law_1208 rfl ?_
  refine w_aload_nS dL_law_1209 rfl ?_
  refine w_iload_n dL_law_1210 rfl ?_
  refine w_iconst dL_law_1211 ic_1 ?_
  refine w_iadd dL_law_1212 ?_
  refine w_sald (q := i + 1) dL_law_1213 (by decide) (nI_add i 1) (show svN sc 4 = sc.1 from rfl) (by omega) ?_ (by omega)
  refine w_aload_nS dL_law_1214 rfl ?_
  refine w_iload_n dL_law_1215 rfl ?_
  refine w_iconst dL_law_1216 ic_2 ?_
  refine w_iadd dL_law_1217 ?_
  refine w_sald (q := i + 2) dL_law_1218 (by decide) (nI_add i 2) (show svN sc 4 = sc.1 from rfl) (by omega) ?_ (by omega)
  refine w_aload_nS dL_law_1219 rfl ?_
  refine w_iload_n dL_law_1220 rfl ?_
  refine w_iconst dL_law_1221 ic_3 ?_
  refine w_iadd dL_law_1222 ?_
  refine w_sald (q := i + 3) dL_law_1223 (by decide) (nI_add i 3) (show svN sc 4 = sc.1 from rfl) (by omega) ?_ (by omega)
  refine c_V (t := 10) (as := [_, _, _]) (d' := 2) dL_law_1224 mlL_151 moX10_lay mvX10_lay ⟨rfl, rfl⟩ rfl rfl rfl rfl rfl (by decide) (sX10_lay (V := I 118) (X := (I 137, I 138, I 139)) (Y := (I 140, I 141, I 142, I 143)) hs (a1 118 (by omega)) hV hSO (a1 137 (by omega)) (a1 138 (by omega)) (a1 139 (by omega)) hSL (a1 140 (by omega)) (a1 141 (by omega)) (a1 142 (by omega)) (a1 143 (by omega)) (fun I2 b1 b2 b3 b4 b5 => ?_))
  refine w_icmp_eq (tgt := 1426) dL_law_1227 (by decide) (fun c1227 => ?_) (fun c1227 => ?_)
  · refine hk I2 L R N n (inv_Y h0 (fun q c1 c2 => (b1 q (by omega) (by omega) (by omega) (by omega)).trans (a1 q c1)) ?_)
    unfold PY
    rw [b2, b3, b4, b5]
    refine ⟨SLO_oLay hV hSO hSL _ _ _, fun s hs9 => ?_⟩
    rw [b1 (92 + 5 * s) (by omega) (by omega) (by omega) (by omega), b1 (93 + 5 * s) (by omega) (by omega) (by omega) (by omega), b1 (94 + 5 * s) (by omega) (by omega) (by omega) (by omega), b1 (95 + 5 * s) (by omega) (by omega) (by omega) (by omega), b1 (96 + 5 * s) (by omega) (by omega) (by omega) (by omega)]
    exact a2 s hs9
  · exact absurd rfl c1227

set_option maxRecDepth 20000 in
theorem lL_ask {i : Nat} (hi : i + 6 ≤ sc.1) (hL : sc.1 ≤ 3072) (h : INV I R N n) (hk : ∀ (I' : HI) (L' : HL) (R' : HR) (N' : HN) (n' : Nat), INV I' R' N' n' → WP sc 82 mc ms mL_law 1426 [vS 4, vR 9 0, vR 10 117, vI (nI i)] [] I' L' R' N' n' Q) : WP sc 82 (mc + 2) (ms + 99) mL_law 1232 [vS 4, vR 9 0, vR 10 117, vI (nI i)] [] I L R N n Q := by
  have h0 := h
  obtain ⟨hs, hn, ⟨hV, hC⟩, hPI, hPT, ⟨hSO, hSH⟩, ⟨hSL, hSC⟩, hPZ, hKY⟩ := h
  refine WP.room (mc := mc) (ms := ms) ?_ (by omega) (by omega)
  refine w_aload_n dL_law_1232 rfl ?_
  refine w_aload_nS dL_law_1233 rfl ?_
  refine w_iload_n dL_law_1234 rfl ?_
  refine w_iconst dL_law_1235 ic_1 ?_
  refine w_iadd dL_law_1236 ?_
  refine w_sald (q := i + 1) dL_law_1237 (by decide) (nI_add i 1) (show svN sc 4 = sc.1 from rfl) (by omega) ?_ (by omega)
  refine w_aload_nS dL_law_1238 rfl ?_
  refine w_iload_n dL_law_1239 rfl ?_
  refine w_iconst dL_law_1240 ic_2 ?_
  refine w_iadd dL_law_1241 ?_
  refine w_sald (q := i + 2) dL_law_1242 (by decide) (nI_add i 2) (show svN sc 4 = sc.1 from rfl) (by omega) ?_ (by omega)
  refine c_V (t := 9) (as := [_, _]) (d' := 3) dL_law_1243 mlL_152 moX9_ask mvX9_ask ⟨rfl, rfl⟩ rfl rfl rfl rfl rfl (by decide) (sX9_ask (Y := (I 140, I 141, I 142, I 143)) hs hSL hSC ?_)
  refine w_aload_n dL_law_1246 rfl ?_
  refine w_aload_nS dL_law_1247 rfl ?_
  refine w_iload_n dL_law_1248 rfl ?_
  refine w_iconst dL_law_1249 ic_1 ?_
  refine w_iadd dL_law_1250 ?_
  refine w_sald (q := i + 1) dL_law_1251 (by decide) (nI_add i 1) (show svN sc 4 = sc.1 from rfl) (by omega) ?_ (by omega)
  refine w_aload_nS dL_law_1252 rfl ?_
  refine w_iload_n dL_law_1253 rfl ?_
  refine w_iconst dL_law_1254 ic_2 ?_
  refine w_iadd dL_law_1255 ?_
  refine w_sald (q := i + 2) dL_law_1256 (by decide) (nI_add i 2) (show svN sc 4 = sc.1 from rfl) (by omega) ?_ (by omega)
  refine c_V (t := 10) (as := [_, _]) (d' := 2) dL_law_1257 mlL_155 moX10_ask mvX10_ask ⟨rfl, rfl⟩ rfl rfl rfl rfl rfl (by decide) (sX10_ask (Y := (I 140, I 141, I 142, I 143)) hs hSL rfl rfl rfl rfl ?_)
  refine w_icmp_eq (tgt := 1426) dL_law_1260 (by decide) (fun c1260 => ?_) (fun c1260 => ?_)
  · exact hk I L R N n h0
  · exact absurd rfl c1260

set_option maxRecDepth 20000 in
theorem lL_item {i : Nat} (hi : i + 6 ≤ sc.1) (hL : sc.1 ≤ 3072) (h : INV I R N n) (hk : ∀ (I' : HI) (L' : HL) (R' : HR) (N' : HN) (n' : Nat), INV I' R' N' n' → WP sc 82 mc ms mL_law 1426 [vS 4, vR 9 0, vR 10 117, vI (nI i)] [] I' L' R' N' n' Q) : WP sc 82 (mc + 2) (ms + 99) mL_law 1265 [vS 4, vR 9 0, vR 10 117, vI (nI i)] [] I L R N n Q := by
  have h0 := h
  obtain ⟨hs, hn, ⟨hV, hC⟩, hPI, hPT, ⟨hSO, hSH⟩, ⟨hSL, hSC⟩, hPZ, hKY⟩ := h
  refine WP.room (mc := mc) (ms := ms) ?_ (by omega) (by omega)
  refine w_aload_n dL_law_1265 rfl ?_
  refine w_aload_nS dL_law_1266 rfl ?_
  refine w_iload_n dL_law_1267 rfl ?_
  refine w_iconst dL_law_1268 ic_1 ?_
  refine w_iadd dL_law_1269 ?_
  refine w_sald (q := i + 1) dL_law_1270 (by decide) (nI_add i 1) (show svN sc 4 = sc.1 from rfl) (by omega) ?_ (by omega)
  refine w_aload_nS dL_law_1271 rfl ?_
  refine w_iload_n dL_law_1272 rfl ?_
  refine w_iconst dL_law_1273 ic_2 ?_
  refine w_iadd dL_law_1274 ?_
  refine w_sald (q := i + 2) dL_law_1275 (by decide) (nI_add i 2) (show svN sc 4 = sc.1 from rfl) (by omega) ?_ (by omega)
  refine c_V (t := 9) (as := [_, _]) (d' := 3) dL_law_1276 mlL_156 moX9_item mvX9_item ⟨rfl, rfl⟩ rfl rfl rfl rfl rfl (by decide) (sX9_item (Y := (I 140, I 141, I 142, I 143)) hs hSL hSC ?_)
  refine w_aload_n dL_law_1279 rfl ?_
  refine w_aload_nS dL_law_1280 rfl ?_
  refine w_iload_n dL_law_1281 rfl ?_
  refine w_iconst dL_law_1282 ic_1 ?_
  refine w_iadd dL_law_1283 ?_
  refine w_sald (q := i + 1) dL_law_1284 (by decide) (nI_add i 1) (show svN sc 4 = sc.1 from rfl) (by omega) ?_ (by omega)
  refine w_aload_nS dL_law_1285 rfl ?_
  refine w_iload_n dL_law_1286 rfl ?_
  refine w_iconst dL_law_1287 ic_2 ?_
  refine w_iadd dL_law_1288 ?_
  refine w_sald (q := i + 2) dL_law_1289 (by decide) (nI_add i 2) (show svN sc 4 = sc.1 from rfl) (by omega) ?_ (by omega)
  refine c_V (t := 10) (as := [_, _]) (d' := 2) dL_law_1290 mlL_159 moX10_item mvX10_item ⟨rfl, rfl⟩ rfl rfl rfl rfl rfl (by decide) (sX10_item (Y := (I 140, I 141, I 142, I 143)) hs hSL rfl rfl rfl rfl ?_)
  refine w_icmp_eq (tgt := 1426) dL_law_1293 (by decide) (fun c1293 => ?_) (fun c1293 => ?_)
  · exact hk I L R N n h0
  · exact absurd rfl c1293

set_option maxRecDepth 20000 in
theorem lL_rest {i : Nat} (hi : i + 6 ≤ sc.1) (hL : sc.1 ≤ 3072) (h : INV I R N n) (hk : ∀ (I' : HI) (L' : HL) (R' : HR) (N' : HN) (n' : Nat), INV I' R' N' n' → WP sc 82 mc ms mL_law 1426 [vS 4, vR 9 0, vR 10 117, vI (nI i)] [] I' L' R' N' n' Q) : WP sc 82 (mc + 2) (ms + 99) mL_law 1298 [vS 4, vR 9 0, vR 10 117, vI (nI i)] [] I L R N n Q := by
  have h0 := h
  obtain ⟨hs, hn, ⟨hV, hC⟩, hPI, hPT, ⟨hSO, hSH⟩, ⟨hSL, hSC⟩, hPZ, hKY⟩ := h
  refine WP.room (mc := mc) (ms := ms) ?_ (by omega) (by omega)
  refine w_aload_n dL_law_1298 rfl ?_
  refine w_aload_nS dL_law_1299 rfl ?_
  refine w_iload_n dL_law_1300 rfl ?_
  refine w_iconst dL_law_1301 ic_1 ?_
  refine w_iadd dL_law_1302 ?_
  refine w_sald (q := i + 1) dL_law_1303 (by decide) (nI_add i 1) (show svN sc 4 = sc.1 from rfl) (by omega) ?_ (by omega)
  refine w_aload_nS dL_law_1304 rfl ?_
  refine w_iload_n dL_law_1305 rfl ?_
  refine w_iconst dL_law_1306 ic_2 ?_
  refine w_iadd dL_law_1307 ?_
  refine w_sald (q := i + 2) dL_law_1308 (by decide) (nI_add i 2) (show svN sc 4 = sc.1 from rfl) (by omega) ?_ (by omega)
  refine c_V (t := 9) (as := [_, _]) (d' := 2) dL_law_1309 mlL_160 moX9_rest mvX9_rest ⟨rfl, rfl⟩ rfl rfl rfl rfl rfl (by decide) (sX9_rest (Y := (I 140, I 141, I 142, I 143)) hs hSL hSC ?_)
  refine w_aload_n dL_law_1312 rfl ?_
  refine w_aload_nS dL_law_1313 rfl ?_
  refine w_iload_n dL_law_1314 rfl ?_
  refine w_iconst dL_law_1315 ic_1 ?_
  refine w_iadd dL_law_1316 ?_
  refine w_sald (q := i + 1) dL_law_1317 (by decide) (nI_add i 1) (show svN sc 4 = sc.1 from rfl) (by omega) ?_ (by omega)
  refine w_aload_nS dL_law_1318 rfl ?_
  refine w_iload_n dL_law_1319 rfl ?_
  refine w_iconst dL_law_1320 ic_2 ?_
  refine w_iadd dL_law_1321 ?_
  refine w_sald (q := i + 2) dL_law_1322 (by decide) (nI_add i 2) (show svN sc 4 = sc.1 from rfl) (by omega) ?_ (by omega)
  refine c_V (t := 10) (as := [_, _]) (d' := 2) dL_law_1323 mlL_163 moX10_rest mvX10_rest ⟨rfl, rfl⟩ rfl rfl rfl rfl rfl (by decide) (sX10_rest (Y := (I 140, I 141, I 142, I 143)) hs hSL rfl rfl rfl rfl ?_)
  refine w_icmp_eq (tgt := 1426) dL_law_1326 (by decide) (fun c1326 => ?_) (fun c1326 => ?_)
  · exact hk I L R N n h0
  · exact absurd rfl c1326

set_option maxRecDepth 20000 in
theorem lL_tell {i : Nat} (hi : i + 6 ≤ sc.1) (hL : sc.1 ≤ 3072) (h : INV I R N n) (hk : ∀ (I' : HI) (L' : HL) (R' : HR) (N' : HN) (n' : Nat), INV I' R' N' n' → WP sc 82 mc ms mL_law 1426 [vS 4, vR 9 0, vR 10 117, vI (nI i)] [] I' L' R' N' n' Q) : WP sc 82 (mc + 2) (ms + 99) mL_law 1331 [vS 4, vR 9 0, vR 10 117, vI (nI i)] [] I L R N n Q := by
  have h0 := h
  obtain ⟨hs, hn, ⟨hV, hC⟩, hPI, hPT, ⟨hSO, hSH⟩, ⟨hSL, hSC⟩, hPZ, hKY⟩ := h
  refine WP.room (mc := mc) (ms := ms) ?_ (by omega) (by omega)
  obtain ⟨m, hm60, hm1, hm2, hmt⟩ := hPZ
  refine w_aload_n dL_law_1331 rfl ?_
  refine w_aload_nS dL_law_1332 rfl ?_
  refine w_iload_n dL_law_1333 rfl ?_
  refine w_iconst dL_law_1334 ic_1 ?_
  refine w_iadd dL_law_1335 ?_
  refine w_sald (q := i + 1) dL_law_1336 (by decide) (nI_add i 1) (show svN sc 4 = sc.1 from rfl) (by omega) ?_ (by omega)
  refine c_V (t := 9) (as := [_]) (d' := 0) dL_law_1337 mlL_164 moX9_tell mvX9_tell ⟨rfl, rfl⟩ rfl rfl rfl rfl rfl (by decide) (sX9_tell hs hm1 hm60 (fun I1 a1 a2 a3 a4 => ?_))
  refine w_aload_n dL_law_1340 rfl ?_
  refine w_aload_nS dL_law_1341 rfl ?_
  refine w_iload_n dL_law_1342 rfl ?_
  refine w_iconst dL_law_1343 ic_1 ?_
  refine w_iadd dL_law_1344 ?_
  refine w_sald (q := i + 1) dL_law_1345 (by decide) (nI_add i 1) (show svN sc 4 = sc.1 from rfl) (by omega) ?_ (by omega)
  refine c_V (t := 10) (as := [_]) (d' := 0) dL_law_1346 mlL_167 moX10_tell mvX10_tell ⟨rfl, rfl⟩ rfl rfl rfl rfl rfl (by decide) (sX10_tell hs (by rw [a1 117 (by decide) (by decide)]; exact hm2) hm60 (fun I2 b1 b2 b3 b4 => ?_))
  refine w_icmp_eq (tgt := 1426) dL_law_1349 (by decide) (fun c1349 => ?_) (fun c1349 => ?_)
  · refine hk I2 L R N n (inv_Z h0 (fun q c1 c2 c3 c4 c5 c6 c7 c8 c9 => (b1 q c5 c9).trans (a1 q c1 c4)) (fun j hj => by rw [b1 0 (by decide) (by decide)]; exact a2 j hj) (fun j hj => (b2 j hj).trans (by rw [a1 117 (by decide) (by decide)])) ⟨if m < 60 then m + 1 else m, by split <;> omega, by rw [b1 0 (by decide) (by decide)]; exact a3, b3, fun j hj => ?_⟩)
    rw [b1 83 (by decide) (by decide), a4 j, b4 j, a1 145 (by decide) (by decide)]
    by_cases e : m < 60 ∧ j = m
    · rw [if_pos e, if_pos e]
    · rw [if_neg e, if_neg e]
      exact hmt j (by
        by_cases q : m < 60
        · rw [if_pos q] at hj; omega
        · rw [if_neg q] at hj; exact hj)
  · exact absurd rfl c1349

set_option maxRecDepth 20000 in
theorem lL_check {i : Nat} (hi : i + 6 ≤ sc.1) (hL : sc.1 ≤ 3072) (h : INV I R N n) (hk : ∀ (I' : HI) (L' : HL) (R' : HR) (N' : HN) (n' : Nat), INV I' R' N' n' → WP sc 82 mc ms mL_law 1426 [vS 4, vR 9 0, vR 10 117, vI (nI i)] [] I' L' R' N' n' Q) : WP sc 82 (mc + 2) (ms + 99) mL_law 1354 [vS 4, vR 9 0, vR 10 117, vI (nI i)] [] I L R N n Q := by
  have h0 := h
  obtain ⟨hs, hn, ⟨hV, hC⟩, hPI, hPT, ⟨hSO, hSH⟩, ⟨hSL, hSC⟩, hPZ, hKY⟩ := h
  refine WP.room (mc := mc) (ms := ms) ?_ (by omega) (by omega)
  obtain ⟨m, hm60, hm1, hm2, hmt⟩ := hPZ
  have hx : ∀ j, j < 1452 → mixV (I 119) (I 118) j = I 119 j := fun j hj => mix_lo _ _ hj
  have hk3 : I 117 3 = I 0 2 := by rcases hPI with ⟨a, b⟩ | ⟨a, b, c, d⟩ <;> rw [a, b]
  refine w_aload_n dL_law_1354 rfl ?_
  refine w_aload_nS dL_law_1355 rfl ?_
  refine w_iload_n dL_law_1356 rfl ?_
  refine w_iconst dL_law_1357 ic_1 ?_
  refine w_iadd dL_law_1358 ?_
  refine w_sald (q := i + 1) dL_law_1359 (by decide) (nI_add i 1) (show svN sc 4 = sc.1 from rfl) (by omega) ?_ (by omega)
  refine c_V (t := 9) (as := [_]) (d' := 6) dL_law_1360 mlL_168 moX9_check mvX9_check ⟨rfl, rfl⟩ rfl rfl rfl rfl rfl (by decide) (sX9_check (V := mixV (I 119) (I 118)) (T := I 83) hs (hPI.imp (fun q => q.1) (fun q => ⟨q.1, VO.ext hx q.2.2.1, WC.ext hx q.2.2.1 q.2.2.2⟩)) hm1 hm60 (fun _ _ => rfl) (fun I1 a1 a2 a3 => ?_))
  have e1 : ∀ q, 77 ≤ q → I1 q = I q := fun q hq => a1 q (by omega) (by omega) (by omega)
  refine w_aload_n dL_law_1363 rfl ?_
  refine w_aload_nS dL_law_1364 rfl ?_
  refine w_iload_n dL_law_1365 rfl ?_
  refine w_iconst dL_law_1366 ic_1 ?_
  refine w_iadd dL_law_1367 ?_
  refine w_sald (q := i + 1) dL_law_1368 (by decide) (nI_add i 1) (show svN sc 4 = sc.1 from rfl) (by omega) ?_ (by omega)
  refine c_V (t := 10) (as := [_]) (d' := 5) dL_law_1369 mlL_171 moX10_check mvX10_check ⟨rfl, rfl⟩ rfl rfl rfl rfl rfl (by decide) (sX10_check (T := I 83) hs (by rw [e1 117 (by omega), e1 118 (by omega), e1 119 (by omega)]; exact hPI.imp (fun q => q.2) (fun q => ⟨q.2.1, VO.ext hx q.2.2.1⟩)) (by rw [e1 117 (by omega)]; exact hm2) hm60 (fun j hj => by rw [e1 145 (by omega)]; exact (hmt j hj).symm) (fun I2 b1 b2 b3 => ?_))
  rw [e1 117 (by omega), e1 118 (by omega), e1 119 (by omega), hk3]
  refine w_icmp_eq (tgt := 1426) dL_law_1372 (by decide) (fun c1372 => ?_) (fun c1372 => ?_)
  · exact hk I2 L R N n (inv_Z h0 (fun q c1 c2 c3 c4 c5 c6 c7 c8 c9 => (b1 q c5 c6 (by omega) (by omega) c7).trans (a1 q c1 c2 c3)) (fun j hj => by rw [b1 0 (by decide) (by decide) (by decide) (by decide) (by decide)]; exact a2 j hj) (fun j hj => (b2 j hj).trans (by rw [e1 117 (by omega)])) ⟨0, by omega, by rw [b1 0 (by decide) (by decide) (by decide) (by decide) (by decide)]; exact a3, b3, fun j hj => absurd hj (Nat.not_lt_zero j)⟩)
  · exact absurd rfl c1372

set_option maxRecDepth 20000 in
theorem lL_keep {i : Nat} (hi : i + 6 ≤ sc.1) (hL : sc.1 ≤ 3072) (h : INV I R N n) (hk : ∀ (I' : HI) (L' : HL) (R' : HR) (N' : HN) (n' : Nat), INV I' R' N' n' → WP sc 82 mc ms mL_law 1426 [vS 4, vR 9 0, vR 10 117, vI (nI i)] [] I' L' R' N' n' Q) : WP sc 82 (mc + 2) (ms + 99) mL_law 1377 [vS 4, vR 9 0, vR 10 117, vI (nI i)] [] I L R N n Q := by
  have h0 := h
  obtain ⟨hs, hn, ⟨hV, hC⟩, hPI, hPT, ⟨hSO, hSH⟩, ⟨hSL, hSC⟩, hPZ, hKY⟩ := h
  refine WP.room (mc := mc) (ms := ms) ?_ (by omega) (by omega)
  refine w_aload_n dL_law_1377 rfl ?_
  refine c_V (t := 9) (as := []) (d' := 3) dL_law_1378 mlL_172 moX9_keep mvX9_keep ⟨rfl, rfl⟩ rfl rfl rfl rfl rfl (by decide) (sX9_keep hs hV hC (fun I1 R1 a1 a2 a3 hs1 d1 d2 => ?_))
  have e118 : I1 118 = I 118 := a1 118 (by omega) (by decide)
  refine w_aload_n dL_law_1381 rfl ?_
  refine c_V (t := 10) (as := []) (d' := 1) dL_law_1382 mlL_175 moX10_keep mvX10_keep ⟨rfl, rfl⟩ rfl rfl rfl rfl rfl (by decide) (sX10_keep hs1 (fun I2 b1 b2 b3 b4 => ?_))
  rw [e118]
  refine w_icmp_eq (tgt := 1426) dL_law_1385 (by decide) (fun c1385 => ?_) (fun c1385 => ?_)
  · exact hk I2 L R1 N n (inv_keep h0 a1 a2 a3 hs1 d1 d2 b1 b2 b3 b4)
  · exact absurd rfl c1385

set_option maxRecDepth 20000 in
theorem lL_back {i : Nat} (hi : i + 6 ≤ sc.1) (hL : sc.1 ≤ 3072) (h : INV I R N n) (hk : ∀ (I' : HI) (L' : HL) (R' : HR) (N' : HN) (n' : Nat), INV I' R' N' n' → WP sc 82 mc ms mL_law 1426 [vS 4, vR 9 0, vR 10 117, vI (nI i)] [] I' L' R' N' n' Q) : WP sc 82 (mc + 2) (ms + 99) mL_law 1390 [vS 4, vR 9 0, vR 10 117, vI (nI i)] [] I L R N n Q := by
  have h0 := h
  obtain ⟨hs, hn, ⟨hV, hC⟩, hPI, hPT, ⟨hSO, hSH⟩, ⟨hSL, hSC⟩, hPZ, hKY⟩ := h
  refine WP.room (mc := mc) (ms := ms) ?_ (by omega) (by omega)
  rcases hPI with ⟨k0, k1⟩ | ⟨k0, k1, k2, k3⟩
  · refine w_aload_n dL_law_1390 rfl ?_
    refine c_V (t := 9) (as := []) (d' := 3) dL_law_1391 mlL_176 moX9_back mvX9_back ⟨rfl, rfl⟩ rfl rfl rfl rfl rfl (by decide) (sX9_backN hs k0 ?_)
    refine w_aload_n dL_law_1394 rfl ?_
    refine c_V (t := 10) (as := []) (d' := 1) dL_law_1395 mlL_179 moX10_back mvX10_back ⟨rfl, rfl⟩ rfl rfl rfl rfl rfl (by decide) (sX10_backN hs k1 ?_)
    refine w_icmp_eq (tgt := 1426) dL_law_1398 (by decide) (fun c1398 => ?_) (fun c1398 => ?_)
    · exact hk I L R N n h0
    · exact absurd rfl c1398
  · refine w_aload_n dL_law_1390 rfl ?_
    refine c_V (t := 9) (as := []) (d' := 3) dL_law_1391 mlL_176 moX9_back mvX9_back ⟨rfl, rfl⟩ rfl rfl rfl rfl rfl (by decide) (sX9_back hs k0 k2 k3 (fun I1 R1 a1 hs1 d1 d2 => ?_))
    refine w_aload_n dL_law_1394 rfl ?_
    refine c_V (t := 10) (as := []) (d' := 1) dL_law_1395 mlL_179 moX10_back mvX10_back ⟨rfl, rfl⟩ rfl rfl rfl rfl rfl (by decide) (sX10_back hs1 (by rw [a1 117 (by omega)]; exact k1) ?_)
    rw [a1 119 (by omega)]
    refine w_icmp_eq (tgt := 1426) dL_law_1398 (by decide) (fun c1398 => ?_) (fun c1398 => ?_)
    · have hgo := inv_back h0 k0 k1 k2 a1 hs1 d1 d2
      rw [a1 119 (by omega)] at hgo
      exact hk _ L R1 N n hgo
    · exact absurd rfl c1398

set_option maxRecDepth 20000 in
theorem lL_count {i : Nat} (hi : i + 6 ≤ sc.1) (hL : sc.1 ≤ 3072) (h : INV I R N n) (hk : ∀ (I' : HI) (L' : HL) (R' : HR) (N' : HN) (n' : Nat), INV I' R' N' n' → WP sc 82 mc ms mL_law 1426 [vS 4, vR 9 0, vR 10 117, vI (nI i)] [] I' L' R' N' n' Q) : WP sc 82 (mc + 2) (ms + 99) mL_law 1403 [vS 4, vR 9 0, vR 10 117, vI (nI i)] [] I L R N n Q := by
  have h0 := h
  obtain ⟨hs, hn, ⟨hV, hC⟩, hPI, hPT, ⟨hSO, hSH⟩, ⟨hSL, hSC⟩, hPZ, hKY⟩ := h
  refine WP.room (mc := mc) (ms := ms) ?_ (by omega) (by omega)
  obtain ⟨z, hz96, hz1, hz2, hzt⟩ := hPT
  obtain ⟨m, hm60, hm1, hm2, hmt⟩ := hPZ
  refine w_aload_n dL_law_1403 rfl ?_
  refine w_aload_nS dL_law_1404 rfl ?_
  refine w_iload_n dL_law_1405 rfl ?_
  refine w_iconst dL_law_1406 ic_1 ?_
  refine w_iadd dL_law_1407 ?_
  refine w_sald (q := i + 1) dL_law_1408 (by decide) (nI_add i 1) (show svN sc 4 = sc.1 from rfl) (by omega) ?_ (by omega)
  refine c_V (t := 9) (as := [_]) (d' := 0) dL_law_1409 mlL_180 moX9_count mvX9_count ⟨rfl, rfl⟩ rfl rfl rfl rfl rfl (by decide) (sX9_count hs hC hm1 hz1 ?_)
  refine w_aload_n dL_law_1412 rfl ?_
  refine w_aload_nS dL_law_1413 rfl ?_
  refine w_iload_n dL_law_1414 rfl ?_
  refine w_iconst dL_law_1415 ic_1 ?_
  refine w_iadd dL_law_1416 ?_
  refine w_sald (q := i + 1) dL_law_1417 (by decide) (nI_add i 1) (show svN sc 4 = sc.1 from rfl) (by omega) ?_ (by omega)
  refine c_V (t := 10) (as := [_]) (d' := 1) dL_law_1418 mlL_183 moX10_count mvX10_count ⟨rfl, rfl⟩ rfl rfl rfl rfl rfl (by decide) (sX10_count hs (V := I 118) rfl hm2 hz2 ?_)
  refine w_icmp_eq (tgt := 1426) dL_law_1421 (by decide) (fun c1421 => ?_) (fun c1421 => ?_)
  · exact hk I L R N n h0
  · exact absurd rfl c1421

end
