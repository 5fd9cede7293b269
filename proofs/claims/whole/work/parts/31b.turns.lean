/-! the law's turns: one call on each side -/
theorem lq_ {q q1 : Nat → Nat} {i : Int} (h : ∀ k, k ≠ 251 → q1 k = q k) : gM q1 [(0, gR 300), (1, gR 0), (2, gR 200), (3, gI i)] = gM q [(0, gR 300), (1, gR 0), (2, gR 200), (3, gI i)] := by
  show [(0, Value.ref (q1 300)), (1, Value.ref (q1 0)), (2, Value.ref (q1 200)), (3, Value.int (Int32.ofInt i))] = [(0, Value.ref (q 300)), (1, Value.ref (q 0)), (2, Value.ref (q 200)), (3, Value.int (Int32.ofInt i))]
  rw [h 300 (by decide), h 0 (by decide), h 200 (by decide)]
set_option maxHeartbeats 1000000 in
set_option maxRecDepth 100000 in
theorem lw_c0 {p : Program} {l : Launch} {e : Env} {s : State} {m : MethodId} {below : List Frame} {meth : Method} {c : Code} {D : va_G} {cy : Nat → ClassId} {q : Nat → Nat} {A : Nat → Prop} {cells slots b Ln nn : Nat} {xs : Nat → Int32} {i : Int} {Q : State → Prop} {M : Mem} (hK : OK p s m #[Value.ref b] c D cy q A 4 code "WhiteElephantsLaw") (hX : va_X b Ln xs s s.heap) (hbl : b < s.heap.size) (hbA : ¬ A b) (hq : q 300 = b) (hLn : Ln ≤ 1000000) (hcs : cells ≤ 600000 ∧ slots ≤ 7302250) (hR : Rel nn M M) (hn : nn ≤ 512) (hi : 0 ≤ i ∧ i + 6 ≤ Ln) (kont : ∀ M2 : Mem, Rel (nn + 1) M2 M2 → M2 200 50 = M 200 50 → G p l e room_1 s m #[Value.ref b] below meth c D cy q A cells slots 4 Q 1731 [(0, gR 300), (1, gR 0), (2, gR 200), (3, gI i)] [] M2) : G p l e room_1 s m #[Value.ref b] below meth c D cy q A cells slots 4 Q 240 [(0, gR 300), (1, gR 0), (2, gR 200), (3, gI i)] [] M := by
  refine g_aloadn (pc := 240) (i := 1) (x := 0) hK dd_L_law_240 rfl rfl ?_
  refine g_aloadn (pc := 241) (i := 0) (x := 300) hK dd_L_law_241 rfl rfl ?_
  refine g_iloadn (pc := 242) (i := 3) (x := i) hK dd_L_law_242 rfl rfl ?_
  refine g_iconst (pc := 243) (x := 1) hK dd_L_law_243 (by decide) ?_
  refine g_iadd (pc := 244) (z := i + 1) hK dd_L_law_244 rfl ?_
  refine g_scr (pc := 245) hK hX hbl hbA hq hLn dd_L_law_245 (by omega) (by omega) ?_
  refine g_aloadn (pc := 246) (i := 0) (x := 300) hK dd_L_law_246 rfl rfl ?_
  refine g_iloadn (pc := 247) (i := 3) (x := i) hK dd_L_law_247 rfl rfl ?_
  refine g_iconst (pc := 248) (x := 2) hK dd_L_law_248 (by decide) ?_
  refine g_iadd (pc := 249) (z := i + 2) hK dd_L_law_249 rfl ?_
  refine g_scr (pc := 250) hK hX hbl hbA hq hLn dd_L_law_250 (by omega) (by omega) ?_
  refine g_aloadn (pc := 251) (i := 0) (x := 300) hK dd_L_law_251 rfl rfl ?_
  refine g_iloadn (pc := 252) (i := 3) (x := i) hK dd_L_law_252 rfl rfl ?_
  refine g_iconst (pc := 253) (x := 3) hK dd_L_law_253 (by decide) ?_
  refine g_iadd (pc := 254) (z := i + 3) hK dd_L_law_254 rfl ?_
  refine g_scr (pc := 255) hK hX hbl hbA hq hLn dd_L_law_255 (by omega) (by omega) ?_
  refine g_callV (pc := 256) (As := [gI ((xs (i + 1).toNat).toInt), gI ((xs (i + 2).toNat).toInt), gI ((xs (i + 3).toNat).toInt)]) hK ws_L_13 md_X11_row hcs ⟨by decide, by decide⟩ (kdm kd_0) rfl rfl dd_L_law_256 rfl rfl (Nat.le_of_ble_eq_true rfl) (p_row hR hn ((xs (i + 1).toNat).toInt) ((xs (i + 2).toNat).toInt) ((xs (i + 3).toNat).toInt) (i32_in _) (i32_in _) (i32_in _) (fun r1 M1 hf1 hk1 => ?_))
  refine g_r1 ?_
  refine g_aloadn (pc := 259) (i := 2) (x := 200) hK dd_L_law_259 rfl rfl ?_
  refine g_aloadn (pc := 260) (i := 0) (x := 300) hK dd_L_law_260 rfl rfl ?_
  refine g_iloadn (pc := 261) (i := 3) (x := i) hK dd_L_law_261 rfl rfl ?_
  refine g_iconst (pc := 262) (x := 1) hK dd_L_law_262 (by decide) ?_
  refine g_iadd (pc := 263) (z := i + 1) hK dd_L_law_263 rfl ?_
  refine g_scr (pc := 264) hK hX hbl hbA hq hLn dd_L_law_264 (by omega) (by omega) ?_
  refine g_aloadn (pc := 265) (i := 0) (x := 300) hK dd_L_law_265 rfl rfl ?_
  refine g_iloadn (pc := 266) (i := 3) (x := i) hK dd_L_law_266 rfl rfl ?_
  refine g_iconst (pc := 267) (x := 2) hK dd_L_law_267 (by decide) ?_
  refine g_iadd (pc := 268) (z := i + 2) hK dd_L_law_268 rfl ?_
  refine g_scr (pc := 269) hK hX hbl hbA hq hLn dd_L_law_269 (by omega) (by omega) ?_
  refine g_aloadn (pc := 270) (i := 0) (x := 300) hK dd_L_law_270 rfl rfl ?_
  refine g_iloadn (pc := 271) (i := 3) (x := i) hK dd_L_law_271 rfl rfl ?_
  refine g_iconst (pc := 272) (x := 3) hK dd_L_law_272 (by decide) ?_
  refine g_iadd (pc := 273) (z := i + 3) hK dd_L_law_273 rfl ?_
  refine g_scr (pc := 274) hK hX hbl hbA hq hLn dd_L_law_274 (by omega) (by omega) ?_
  refine g_callV (pc := 275) (As := [gI ((xs (i + 1).toNat).toInt), gI ((xs (i + 2).toNat).toInt), gI ((xs (i + 3).toNat).toInt)]) hK ws_L_17 md_X12_row hcs ⟨by decide, by decide⟩ (kdm kd_200) rfl rfl dd_L_law_275 rfl rfl (Nat.le_of_ble_eq_true rfl) (hk1 _ (fun M2 hR2 hf2 => ?_))
  refine g_r1 ?_
  refine g_same (pc := 278) (tgt := 1731) hK dd_L_law_278 (by decide) ?_
  exact kont M2 hR2 hf2
set_option maxHeartbeats 1000000 in
set_option maxRecDepth 100000 in
theorem lw_c1 {p : Program} {l : Launch} {e : Env} {s : State} {m : MethodId} {below : List Frame} {meth : Method} {c : Code} {D : va_G} {cy : Nat → ClassId} {q : Nat → Nat} {A : Nat → Prop} {cells slots b Ln nn : Nat} {xs : Nat → Int32} {i : Int} {Q : State → Prop} {M : Mem} (hK : OK p s m #[Value.ref b] c D cy q A 4 code "WhiteElephantsLaw") (hX : va_X b Ln xs s s.heap) (hbl : b < s.heap.size) (hbA : ¬ A b) (hq : q 300 = b) (hLn : Ln ≤ 1000000) (hcs : cells ≤ 600000 ∧ slots ≤ 7302250) (hR : Rel nn M M) (hn : nn ≤ 512) (hi : 0 ≤ i ∧ i + 6 ≤ Ln) (kont : ∀ M2 : Mem, Rel (nn + 1) M2 M2 → M2 200 50 = M 200 50 → G p l e room_1 s m #[Value.ref b] below meth c D cy q A cells slots 4 Q 1731 [(0, gR 300), (1, gR 0), (2, gR 200), (3, gI i)] [] M2) : G p l e room_1 s m #[Value.ref b] below meth c D cy q A cells slots 4 Q 283 [(0, gR 300), (1, gR 0), (2, gR 200), (3, gI i)] [] M := by
  refine g_aloadn (pc := 283) (i := 1) (x := 0) hK dd_L_law_283 rfl rfl ?_
  refine g_aloadn (pc := 284) (i := 0) (x := 300) hK dd_L_law_284 rfl rfl ?_
  refine g_iloadn (pc := 285) (i := 3) (x := i) hK dd_L_law_285 rfl rfl ?_
  refine g_iconst (pc := 286) (x := 1) hK dd_L_law_286 (by decide) ?_
  refine g_iadd (pc := 287) (z := i + 1) hK dd_L_law_287 rfl ?_
  refine g_scr (pc := 288) hK hX hbl hbA hq hLn dd_L_law_288 (by omega) (by omega) ?_
  refine g_aloadn (pc := 289) (i := 0) (x := 300) hK dd_L_law_289 rfl rfl ?_
  refine g_iloadn (pc := 290) (i := 3) (x := i) hK dd_L_law_290 rfl rfl ?_
  refine g_iconst (pc := 291) (x := 2) hK dd_L_law_291 (by decide) ?_
  refine g_iadd (pc := 292) (z := i + 2) hK dd_L_law_292 rfl ?_
  refine g_scr (pc := 293) hK hX hbl hbA hq hLn dd_L_law_293 (by omega) (by omega) ?_
  refine g_aloadn (pc := 294) (i := 0) (x := 300) hK dd_L_law_294 rfl rfl ?_
  refine g_iloadn (pc := 295) (i := 3) (x := i) hK dd_L_law_295 rfl rfl ?_
  refine g_iconst (pc := 296) (x := 3) hK dd_L_law_296 (by decide) ?_
  refine g_iadd (pc := 297) (z := i + 3) hK dd_L_law_297 rfl ?_
  refine g_scr (pc := 298) hK hX hbl hbA hq hLn dd_L_law_298 (by omega) (by omega) ?_
  refine g_i2l (pc := 299) hK dd_L_law_299 (i32_in _) ?_
  refine g_bipush (pc := 300) (x := 32) hK dd_L_law_300 (by decide) ?_
  refine g_lshl (pc := 302) hK dd_L_law_302 rfl ?_
  refine g_aloadn (pc := 303) (i := 0) (x := 300) hK dd_L_law_303 rfl rfl ?_
  refine g_iloadn (pc := 304) (i := 3) (x := i) hK dd_L_law_304 rfl rfl ?_
  refine g_iconst (pc := 305) (x := 4) hK dd_L_law_305 (by decide) ?_
  refine g_iadd (pc := 306) (z := i + 4) hK dd_L_law_306 rfl ?_
  refine g_scr (pc := 307) hK hX hbl hbA hq hLn dd_L_law_307 (by omega) (by omega) ?_
  refine g_i2l (pc := 308) hK dd_L_law_308 (i32_in _) ?_
  refine g_ldc2 (pc := 309) (x := 4294967295) hK kk_1606 dd_L_law_309 (by decide) ?_
  refine g_land (pc := 312) hK dd_L_law_312 rfl ?_
  refine g_lor (pc := 313) hK dd_L_law_313 rfl ?_
  refine g_callV (pc := 314) (As := [gI ((xs (i + 1).toNat).toInt), gI ((xs (i + 2).toNat).toInt), gL ((Int64.ofInt ((Int64.ofInt ((xs (i + 3).toNat).toInt) <<< ((Int32.ofInt 32).toInt64 &&& 63)).toInt) ||| Int64.ofInt ((Int64.ofInt ((xs (i + 4).toNat).toInt) &&& Int64.ofInt 4294967295).toInt)).toInt)]) hK ws_L_20 md_X11_set hcs ⟨by decide, by decide⟩ (kdm kd_0) rfl rfl dd_L_law_314 rfl rfl (Nat.le_of_ble_eq_true rfl) (p_set hR hn ((xs (i + 1).toNat).toInt) ((xs (i + 2).toNat).toInt) ((Int64.ofInt ((Int64.ofInt ((xs (i + 3).toNat).toInt) <<< ((Int32.ofInt 32).toInt64 &&& 63)).toInt) ||| Int64.ofInt ((Int64.ofInt ((xs (i + 4).toNat).toInt) &&& Int64.ofInt 4294967295).toInt)).toInt) (i32_in _) (i32_in _) (i64_in _) (fun r1 M1 hf1 hk1 => ?_))
  refine g_r1 ?_
  refine g_aloadn (pc := 317) (i := 2) (x := 200) hK dd_L_law_317 rfl rfl ?_
  refine g_aloadn (pc := 318) (i := 0) (x := 300) hK dd_L_law_318 rfl rfl ?_
  refine g_iloadn (pc := 319) (i := 3) (x := i) hK dd_L_law_319 rfl rfl ?_
  refine g_iconst (pc := 320) (x := 1) hK dd_L_law_320 (by decide) ?_
  refine g_iadd (pc := 321) (z := i + 1) hK dd_L_law_321 rfl ?_
  refine g_scr (pc := 322) hK hX hbl hbA hq hLn dd_L_law_322 (by omega) (by omega) ?_
  refine g_aloadn (pc := 323) (i := 0) (x := 300) hK dd_L_law_323 rfl rfl ?_
  refine g_iloadn (pc := 324) (i := 3) (x := i) hK dd_L_law_324 rfl rfl ?_
  refine g_iconst (pc := 325) (x := 2) hK dd_L_law_325 (by decide) ?_
  refine g_iadd (pc := 326) (z := i + 2) hK dd_L_law_326 rfl ?_
  refine g_scr (pc := 327) hK hX hbl hbA hq hLn dd_L_law_327 (by omega) (by omega) ?_
  refine g_aloadn (pc := 328) (i := 0) (x := 300) hK dd_L_law_328 rfl rfl ?_
  refine g_iloadn (pc := 329) (i := 3) (x := i) hK dd_L_law_329 rfl rfl ?_
  refine g_iconst (pc := 330) (x := 3) hK dd_L_law_330 (by decide) ?_
  refine g_iadd (pc := 331) (z := i + 3) hK dd_L_law_331 rfl ?_
  refine g_scr (pc := 332) hK hX hbl hbA hq hLn dd_L_law_332 (by omega) (by omega) ?_
  refine g_i2l (pc := 333) hK dd_L_law_333 (i32_in _) ?_
  refine g_bipush (pc := 334) (x := 32) hK dd_L_law_334 (by decide) ?_
  refine g_lshl (pc := 336) hK dd_L_law_336 rfl ?_
  refine g_aloadn (pc := 337) (i := 0) (x := 300) hK dd_L_law_337 rfl rfl ?_
  refine g_iloadn (pc := 338) (i := 3) (x := i) hK dd_L_law_338 rfl rfl ?_
  refine g_iconst (pc := 339) (x := 4) hK dd_L_law_339 (by decide) ?_
  refine g_iadd (pc := 340) (z := i + 4) hK dd_L_law_340 rfl ?_
  refine g_scr (pc := 341) hK hX hbl hbA hq hLn dd_L_law_341 (by omega) (by omega) ?_
  refine g_i2l (pc := 342) hK dd_L_law_342 (i32_in _) ?_
  refine g_ldc2 (pc := 343) (x := 4294967295) hK kk_1606 dd_L_law_343 (by decide) ?_
  refine g_land (pc := 346) hK dd_L_law_346 rfl ?_
  refine g_lor (pc := 347) hK dd_L_law_347 rfl ?_
  refine g_callV (pc := 348) (As := [gI ((xs (i + 1).toNat).toInt), gI ((xs (i + 2).toNat).toInt), gL ((Int64.ofInt ((Int64.ofInt ((xs (i + 3).toNat).toInt) <<< ((Int32.ofInt 32).toInt64 &&& 63)).toInt) ||| Int64.ofInt ((Int64.ofInt ((xs (i + 4).toNat).toInt) &&& Int64.ofInt 4294967295).toInt)).toInt)]) hK ws_L_24 md_X12_set hcs ⟨by decide, by decide⟩ (kdm kd_200) rfl rfl dd_L_law_348 rfl rfl (Nat.le_of_ble_eq_true rfl) (hk1 _ (fun M2 hR2 hf2 => ?_))
  refine g_r1 ?_
  refine g_same (pc := 351) (tgt := 1731) hK dd_L_law_351 (by decide) ?_
  exact kont M2 hR2 hf2
set_option maxHeartbeats 1000000 in
set_option maxRecDepth 100000 in
theorem lw_c2 {p : Program} {l : Launch} {e : Env} {s : State} {m : MethodId} {below : List Frame} {meth : Method} {c : Code} {D : va_G} {cy : Nat → ClassId} {q : Nat → Nat} {A : Nat → Prop} {cells slots b Ln nn : Nat} {xs : Nat → Int32} {i : Int} {Q : State → Prop} {M : Mem} (hK : OK p s m #[Value.ref b] c D cy q A 4 code "WhiteElephantsLaw") (hX : va_X b Ln xs s s.heap) (hbl : b < s.heap.size) (hbA : ¬ A b) (hq : q 300 = b) (hLn : Ln ≤ 1000000) (hcs : cells ≤ 600000 ∧ slots ≤ 7302250) (hR : Rel nn M M) (hn : nn ≤ 512) (hi : 0 ≤ i ∧ i + 6 ≤ Ln) (kont : ∀ M2 : Mem, Rel (nn + 1) M2 M2 → M2 200 50 = M 200 50 → G p l e room_1 s m #[Value.ref b] below meth c D cy q A cells slots 4 Q 1731 [(0, gR 300), (1, gR 0), (2, gR 200), (3, gI i)] [] M2) : G p l e room_1 s m #[Value.ref b] below meth c D cy q A cells slots 4 Q 356 [(0, gR 300), (1, gR 0), (2, gR 200), (3, gI i)] [] M := by
  refine g_aloadn (pc := 356) (i := 1) (x := 0) hK dd_L_law_356 rfl rfl ?_
  refine g_aloadn (pc := 357) (i := 0) (x := 300) hK dd_L_law_357 rfl rfl ?_
  refine g_iloadn (pc := 358) (i := 3) (x := i) hK dd_L_law_358 rfl rfl ?_
  refine g_iconst (pc := 359) (x := 1) hK dd_L_law_359 (by decide) ?_
  refine g_iadd (pc := 360) (z := i + 1) hK dd_L_law_360 rfl ?_
  refine g_scr (pc := 361) hK hX hbl hbA hq hLn dd_L_law_361 (by omega) (by omega) ?_
  refine g_aloadn (pc := 362) (i := 0) (x := 300) hK dd_L_law_362 rfl rfl ?_
  refine g_iloadn (pc := 363) (i := 3) (x := i) hK dd_L_law_363 rfl rfl ?_
  refine g_iconst (pc := 364) (x := 2) hK dd_L_law_364 (by decide) ?_
  refine g_iadd (pc := 365) (z := i + 2) hK dd_L_law_365 rfl ?_
  refine g_scr (pc := 366) hK hX hbl hbA hq hLn dd_L_law_366 (by omega) (by omega) ?_
  refine g_aloadn (pc := 367) (i := 0) (x := 300) hK dd_L_law_367 rfl rfl ?_
  refine g_iloadn (pc := 368) (i := 3) (x := i) hK dd_L_law_368 rfl rfl ?_
  refine g_iconst (pc := 369) (x := 3) hK dd_L_law_369 (by decide) ?_
  refine g_iadd (pc := 370) (z := i + 3) hK dd_L_law_370 rfl ?_
  refine g_scr (pc := 371) hK hX hbl hbA hq hLn dd_L_law_371 (by omega) (by omega) ?_
  refine g_aloadn (pc := 372) (i := 0) (x := 300) hK dd_L_law_372 rfl rfl ?_
  refine g_iloadn (pc := 373) (i := 3) (x := i) hK dd_L_law_373 rfl rfl ?_
  refine g_iconst (pc := 374) (x := 4) hK dd_L_law_374 (by decide) ?_
  refine g_iadd (pc := 375) (z := i + 4) hK dd_L_law_375 rfl ?_
  refine g_scr (pc := 376) hK hX hbl hbA hq hLn dd_L_law_376 (by omega) (by omega) ?_
  refine g_aloadn (pc := 377) (i := 0) (x := 300) hK dd_L_law_377 rfl rfl ?_
  refine g_iloadn (pc := 378) (i := 3) (x := i) hK dd_L_law_378 rfl rfl ?_
  refine g_iconst (pc := 379) (x := 5) hK dd_L_law_379 (by decide) ?_
  refine g_iadd (pc := 380) (z := i + 5) hK dd_L_law_380 rfl ?_
  refine g_scr (pc := 381) hK hX hbl hbA hq hLn dd_L_law_381 (by omega) (by omega) ?_
  refine g_callV (pc := 382) (As := [gI ((xs (i + 1).toNat).toInt), gI ((xs (i + 2).toNat).toInt), gI ((xs (i + 3).toNat).toInt), gI ((xs (i + 4).toNat).toInt), gI ((xs (i + 5).toNat).toInt)]) hK ws_L_25 md_X11_copy hcs ⟨by decide, by decide⟩ (kdm kd_0) rfl rfl dd_L_law_382 rfl rfl (Nat.le_of_ble_eq_true rfl) (p_copy hR hn ((xs (i + 1).toNat).toInt) ((xs (i + 2).toNat).toInt) ((xs (i + 3).toNat).toInt) ((xs (i + 4).toNat).toInt) ((xs (i + 5).toNat).toInt) (i32_in _) (i32_in _) (i32_in _) (i32_in _) (i32_in _) (fun r1 M1 hf1 hk1 => ?_))
  refine g_r1 ?_
  refine g_aloadn (pc := 385) (i := 2) (x := 200) hK dd_L_law_385 rfl rfl ?_
  refine g_aloadn (pc := 386) (i := 0) (x := 300) hK dd_L_law_386 rfl rfl ?_
  refine g_iloadn (pc := 387) (i := 3) (x := i) hK dd_L_law_387 rfl rfl ?_
  refine g_iconst (pc := 388) (x := 1) hK dd_L_law_388 (by decide) ?_
  refine g_iadd (pc := 389) (z := i + 1) hK dd_L_law_389 rfl ?_
  refine g_scr (pc := 390) hK hX hbl hbA hq hLn dd_L_law_390 (by omega) (by omega) ?_
  refine g_aloadn (pc := 391) (i := 0) (x := 300) hK dd_L_law_391 rfl rfl ?_
  refine g_iloadn (pc := 392) (i := 3) (x := i) hK dd_L_law_392 rfl rfl ?_
  refine g_iconst (pc := 393) (x := 2) hK dd_L_law_393 (by decide) ?_
  refine g_iadd (pc := 394) (z := i + 2) hK dd_L_law_394 rfl ?_
  refine g_scr (pc := 395) hK hX hbl hbA hq hLn dd_L_law_395 (by omega) (by omega) ?_
  refine g_aloadn (pc := 396) (i := 0) (x := 300) hK dd_L_law_396 rfl rfl ?_
  refine g_iloadn (pc := 397) (i := 3) (x := i) hK dd_L_law_397 rfl rfl ?_
  refine g_iconst (pc := 398) (x := 3) hK dd_L_law_398 (by decide) ?_
  refine g_iadd (pc := 399) (z := i + 3) hK dd_L_law_399 rfl ?_
  refine g_scr (pc := 400) hK hX hbl hbA hq hLn dd_L_law_400 (by omega) (by omega) ?_
  refine g_aloadn (pc := 401) (i := 0) (x := 300) hK dd_L_law_401 rfl rfl ?_
  refine g_iloadn (pc := 402) (i := 3) (x := i) hK dd_L_law_402 rfl rfl ?_
  refine g_iconst (pc := 403) (x := 4) hK dd_L_law_403 (by decide) ?_
  refine g_iadd (pc := 404) (z := i + 4) hK dd_L_law_404 rfl ?_
  refine g_scr (pc := 405) hK hX hbl hbA hq hLn dd_L_law_405 (by omega) (by omega) ?_
  refine g_aloadn (pc := 406) (i := 0) (x := 300) hK dd_L_law_406 rfl rfl ?_
  refine g_iloadn (pc := 407) (i := 3) (x := i) hK dd_L_law_407 rfl rfl ?_
  refine g_iconst (pc := 408) (x := 5) hK dd_L_law_408 (by decide) ?_
  refine g_iadd (pc := 409) (z := i + 5) hK dd_L_law_409 rfl ?_
  refine g_scr (pc := 410) hK hX hbl hbA hq hLn dd_L_law_410 (by omega) (by omega) ?_
  refine g_callV (pc := 411) (As := [gI ((xs (i + 1).toNat).toInt), gI ((xs (i + 2).toNat).toInt), gI ((xs (i + 3).toNat).toInt), gI ((xs (i + 4).toNat).toInt), gI ((xs (i + 5).toNat).toInt)]) hK ws_L_29 md_X12_copy hcs ⟨by decide, by decide⟩ (kdm kd_200) rfl rfl dd_L_law_411 rfl rfl (Nat.le_of_ble_eq_true rfl) (hk1 _ (fun M2 hR2 hf2 => ?_))
  refine g_r1 ?_
  refine g_same (pc := 414) (tgt := 1731) hK dd_L_law_414 (by decide) ?_
  exact kont M2 hR2 hf2
set_option maxHeartbeats 1000000 in
set_option maxRecDepth 100000 in
theorem lw_c3 {p : Program} {l : Launch} {e : Env} {s : State} {m : MethodId} {below : List Frame} {meth : Method} {c : Code} {D : va_G} {cy : Nat → ClassId} {q : Nat → Nat} {A : Nat → Prop} {cells slots b Ln nn : Nat} {xs : Nat → Int32} {i : Int} {Q : State → Prop} {M : Mem} (hK : OK p s m #[Value.ref b] c D cy q A 4 code "WhiteElephantsLaw") (hX : va_X b Ln xs s s.heap) (hbl : b < s.heap.size) (hbA : ¬ A b) (hq : q 300 = b) (hLn : Ln ≤ 1000000) (hcs : cells ≤ 600000 ∧ slots ≤ 7302250) (hR : Rel nn M M) (hn : nn ≤ 512) (hi : 0 ≤ i ∧ i + 6 ≤ Ln) (kont : ∀ M2 : Mem, Rel (nn + 1) M2 M2 → M2 200 50 = M 200 50 → G p l e room_1 s m #[Value.ref b] below meth c D cy q A cells slots 4 Q 1731 [(0, gR 300), (1, gR 0), (2, gR 200), (3, gI i)] [] M2) : G p l e room_1 s m #[Value.ref b] below meth c D cy q A cells slots 4 Q 419 [(0, gR 300), (1, gR 0), (2, gR 200), (3, gI i)] [] M := by
  refine g_aloadn (pc := 419) (i := 1) (x := 0) hK dd_L_law_419 rfl rfl ?_
  refine g_aloadn (pc := 420) (i := 0) (x := 300) hK dd_L_law_420 rfl rfl ?_
  refine g_iloadn (pc := 421) (i := 3) (x := i) hK dd_L_law_421 rfl rfl ?_
  refine g_iconst (pc := 422) (x := 1) hK dd_L_law_422 (by decide) ?_
  refine g_iadd (pc := 423) (z := i + 1) hK dd_L_law_423 rfl ?_
  refine g_scr (pc := 424) hK hX hbl hbA hq hLn dd_L_law_424 (by omega) (by omega) ?_
  refine g_aloadn (pc := 425) (i := 0) (x := 300) hK dd_L_law_425 rfl rfl ?_
  refine g_iloadn (pc := 426) (i := 3) (x := i) hK dd_L_law_426 rfl rfl ?_
  refine g_iconst (pc := 427) (x := 2) hK dd_L_law_427 (by decide) ?_
  refine g_iadd (pc := 428) (z := i + 2) hK dd_L_law_428 rfl ?_
  refine g_scr (pc := 429) hK hX hbl hbA hq hLn dd_L_law_429 (by omega) (by omega) ?_
  refine g_callV (pc := 430) (As := [gI ((xs (i + 1).toNat).toInt), gI ((xs (i + 2).toNat).toInt)]) hK ws_L_30 md_X11_element hcs ⟨by decide, by decide⟩ (kdm kd_0) rfl rfl dd_L_law_430 rfl rfl (Nat.le_of_ble_eq_true rfl) (p_element hR hn ((xs (i + 1).toNat).toInt) ((xs (i + 2).toNat).toInt) (i32_in _) (i32_in _) (fun r1 M1 hf1 hk1 => ?_))
  refine g_r1 ?_
  refine g_aloadn (pc := 433) (i := 2) (x := 200) hK dd_L_law_433 rfl rfl ?_
  refine g_aloadn (pc := 434) (i := 0) (x := 300) hK dd_L_law_434 rfl rfl ?_
  refine g_iloadn (pc := 435) (i := 3) (x := i) hK dd_L_law_435 rfl rfl ?_
  refine g_iconst (pc := 436) (x := 1) hK dd_L_law_436 (by decide) ?_
  refine g_iadd (pc := 437) (z := i + 1) hK dd_L_law_437 rfl ?_
  refine g_scr (pc := 438) hK hX hbl hbA hq hLn dd_L_law_438 (by omega) (by omega) ?_
  refine g_aloadn (pc := 439) (i := 0) (x := 300) hK dd_L_law_439 rfl rfl ?_
  refine g_iloadn (pc := 440) (i := 3) (x := i) hK dd_L_law_440 rfl rfl ?_
  refine g_iconst (pc := 441) (x := 2) hK dd_L_law_441 (by decide) ?_
  refine g_iadd (pc := 442) (z := i + 2) hK dd_L_law_442 rfl ?_
  refine g_scr (pc := 443) hK hX hbl hbA hq hLn dd_L_law_443 (by omega) (by omega) ?_
  refine g_callV (pc := 444) (As := [gI ((xs (i + 1).toNat).toInt), gI ((xs (i + 2).toNat).toInt)]) hK ws_L_34 md_X12_element hcs ⟨by decide, by decide⟩ (kdm kd_200) rfl rfl dd_L_law_444 rfl rfl (Nat.le_of_ble_eq_true rfl) (hk1 _ (fun M2 hR2 hf2 => ?_))
  refine g_r1 ?_
  refine g_sameL (pc := 447) hK dd_L_law_447 ?_
  refine g_if_eq (pc := 448) (tgt := 1731) hK dd_L_law_448 (by decide) (by decide) (fun _ => ?_) (fun c3 => absurd rfl c3)
  exact kont M2 hR2 hf2
set_option maxHeartbeats 1000000 in
set_option maxRecDepth 100000 in
theorem lw_c4 {p : Program} {l : Launch} {e : Env} {s : State} {m : MethodId} {below : List Frame} {meth : Method} {c : Code} {D : va_G} {cy : Nat → ClassId} {q : Nat → Nat} {A : Nat → Prop} {cells slots b Ln nn : Nat} {xs : Nat → Int32} {i : Int} {Q : State → Prop} {M : Mem} (hK : OK p s m #[Value.ref b] c D cy q A 4 code "WhiteElephantsLaw") (hX : va_X b Ln xs s s.heap) (hbl : b < s.heap.size) (hbA : ¬ A b) (hq : q 300 = b) (hLn : Ln ≤ 1000000) (hcs : cells ≤ 600000 ∧ slots ≤ 7302250) (hR : Rel nn M M) (hn : nn ≤ 512) (hi : 0 ≤ i ∧ i + 6 ≤ Ln) (kont : ∀ M2 : Mem, Rel (nn + 1) M2 M2 → M2 200 50 = M 200 50 → G p l e room_1 s m #[Value.ref b] below meth c D cy q A cells slots 4 Q 1731 [(0, gR 300), (1, gR 0), (2, gR 200), (3, gI i)] [] M2) : G p l e room_1 s m #[Value.ref b] below meth c D cy q A cells slots 4 Q 453 [(0, gR 300), (1, gR 0), (2, gR 200), (3, gI i)] [] M := by
  refine g_aloadn (pc := 453) (i := 1) (x := 0) hK dd_L_law_453 rfl rfl ?_
  refine g_aloadn (pc := 454) (i := 0) (x := 300) hK dd_L_law_454 rfl rfl ?_
  refine g_iloadn (pc := 455) (i := 3) (x := i) hK dd_L_law_455 rfl rfl ?_
  refine g_iconst (pc := 456) (x := 1) hK dd_L_law_456 (by decide) ?_
  refine g_iadd (pc := 457) (z := i + 1) hK dd_L_law_457 rfl ?_
  refine g_scr (pc := 458) hK hX hbl hbA hq hLn dd_L_law_458 (by omega) (by omega) ?_
  refine g_callV (pc := 459) (As := [gI ((xs (i + 1).toNat).toInt)]) hK ws_L_35 md_X11_holds hcs ⟨by decide, by decide⟩ (kdm kd_0) rfl rfl dd_L_law_459 rfl rfl (Nat.le_of_ble_eq_true rfl) (p_holds hR hn ((xs (i + 1).toNat).toInt) (i32_in _) (fun r1 M1 hf1 hk1 => ?_))
  refine g_r1 ?_
  refine g_aloadn (pc := 462) (i := 2) (x := 200) hK dd_L_law_462 rfl rfl ?_
  refine g_aloadn (pc := 463) (i := 0) (x := 300) hK dd_L_law_463 rfl rfl ?_
  refine g_iloadn (pc := 464) (i := 3) (x := i) hK dd_L_law_464 rfl rfl ?_
  refine g_iconst (pc := 465) (x := 1) hK dd_L_law_465 (by decide) ?_
  refine g_iadd (pc := 466) (z := i + 1) hK dd_L_law_466 rfl ?_
  refine g_scr (pc := 467) hK hX hbl hbA hq hLn dd_L_law_467 (by omega) (by omega) ?_
  refine g_callV (pc := 468) (As := [gI ((xs (i + 1).toNat).toInt)]) hK ws_L_39 md_X12_holds hcs ⟨by decide, by decide⟩ (kdm kd_200) rfl rfl dd_L_law_468 rfl rfl (Nat.le_of_ble_eq_true rfl) (hk1 _ (fun M2 hR2 hf2 => ?_))
  refine g_r1 ?_
  refine g_same (pc := 471) (tgt := 1731) hK dd_L_law_471 (by decide) ?_
  exact kont M2 hR2 hf2
set_option maxHeartbeats 1000000 in
set_option maxRecDepth 100000 in
theorem lw_c5 {p : Program} {l : Launch} {e : Env} {s : State} {m : MethodId} {below : List Frame} {meth : Method} {c : Code} {D : va_G} {cy : Nat → ClassId} {q : Nat → Nat} {A : Nat → Prop} {cells slots b Ln nn : Nat} {xs : Nat → Int32} {i : Int} {Q : State → Prop} {M : Mem} (hK : OK p s m #[Value.ref b] c D cy q A 4 code "WhiteElephantsLaw") (hX : va_X b Ln xs s s.heap) (hbl : b < s.heap.size) (hbA : ¬ A b) (hq : q 300 = b) (hLn : Ln ≤ 1000000) (hcs : cells ≤ 600000 ∧ slots ≤ 7302250) (hR : Rel nn M M) (hn : nn ≤ 512) (hi : 0 ≤ i ∧ i + 6 ≤ Ln) (kont : ∀ M2 : Mem, Rel (nn + 1) M2 M2 → M2 200 50 = M 200 50 → G p l e room_1 s m #[Value.ref b] below meth c D cy q A cells slots 4 Q 1731 [(0, gR 300), (1, gR 0), (2, gR 200), (3, gI i)] [] M2) : G p l e room_1 s m #[Value.ref b] below meth c D cy q A cells slots 4 Q 476 [(0, gR 300), (1, gR 0), (2, gR 200), (3, gI i)] [] M := by
  refine g_aloadn (pc := 476) (i := 1) (x := 0) hK dd_L_law_476 rfl rfl ?_
  refine g_aloadn (pc := 477) (i := 0) (x := 300) hK dd_L_law_477 rfl rfl ?_
  refine g_iloadn (pc := 478) (i := 3) (x := i) hK dd_L_law_478 rfl rfl ?_
  refine g_iconst (pc := 479) (x := 1) hK dd_L_law_479 (by decide) ?_
  refine g_iadd (pc := 480) (z := i + 1) hK dd_L_law_480 rfl ?_
  refine g_scr (pc := 481) hK hX hbl hbA hq hLn dd_L_law_481 (by omega) (by omega) ?_
  refine g_aloadn (pc := 482) (i := 0) (x := 300) hK dd_L_law_482 rfl rfl ?_
  refine g_iloadn (pc := 483) (i := 3) (x := i) hK dd_L_law_483 rfl rfl ?_
  refine g_iconst (pc := 484) (x := 2) hK dd_L_law_484 (by decide) ?_
  refine g_iadd (pc := 485) (z := i + 2) hK dd_L_law_485 rfl ?_
  refine g_scr (pc := 486) hK hX hbl hbA hq hLn dd_L_law_486 (by omega) (by omega) ?_
  refine g_callV (pc := 487) (As := [gI ((xs (i + 1).toNat).toInt), gI ((xs (i + 2).toNat).toInt)]) hK ws_L_40 md_X11_show hcs ⟨by decide, by decide⟩ (kdm kd_0) rfl rfl dd_L_law_487 rfl rfl (Nat.le_of_ble_eq_true rfl) (p_show hR hn ((xs (i + 1).toNat).toInt) ((xs (i + 2).toNat).toInt) (i32_in _) (i32_in _) (fun r1 M1 hf1 hk1 => ?_))
  refine g_r1 ?_
  refine g_aloadn (pc := 490) (i := 2) (x := 200) hK dd_L_law_490 rfl rfl ?_
  refine g_aloadn (pc := 491) (i := 0) (x := 300) hK dd_L_law_491 rfl rfl ?_
  refine g_iloadn (pc := 492) (i := 3) (x := i) hK dd_L_law_492 rfl rfl ?_
  refine g_iconst (pc := 493) (x := 1) hK dd_L_law_493 (by decide) ?_
  refine g_iadd (pc := 494) (z := i + 1) hK dd_L_law_494 rfl ?_
  refine g_scr (pc := 495) hK hX hbl hbA hq hLn dd_L_law_495 (by omega) (by omega) ?_
  refine g_aloadn (pc := 496) (i := 0) (x := 300) hK dd_L_law_496 rfl rfl ?_
  refine g_iloadn (pc := 497) (i := 3) (x := i) hK dd_L_law_497 rfl rfl ?_
  refine g_iconst (pc := 498) (x := 2) hK dd_L_law_498 (by decide) ?_
  refine g_iadd (pc := 499) (z := i + 2) hK dd_L_law_499 rfl ?_
  refine g_scr (pc := 500) hK hX hbl hbA hq hLn dd_L_law_500 (by omega) (by omega) ?_
  refine g_callV (pc := 501) (As := [gI ((xs (i + 1).toNat).toInt), gI ((xs (i + 2).toNat).toInt)]) hK ws_L_44 md_X12_show hcs ⟨by decide, by decide⟩ (kdm kd_200) rfl rfl dd_L_law_501 rfl rfl (Nat.le_of_ble_eq_true rfl) (hk1 _ (fun M2 hR2 hf2 => ?_))
  refine g_r1 ?_
  refine g_same (pc := 504) (tgt := 1731) hK dd_L_law_504 (by decide) ?_
  exact kont M2 hR2 hf2
set_option maxHeartbeats 1000000 in
set_option maxRecDepth 100000 in
theorem lw_c6 {p : Program} {l : Launch} {e : Env} {s : State} {m : MethodId} {below : List Frame} {meth : Method} {c : Code} {D : va_G} {cy : Nat → ClassId} {q : Nat → Nat} {A : Nat → Prop} {cells slots b Ln nn : Nat} {xs : Nat → Int32} {i : Int} {Q : State → Prop} {M : Mem} (hK : OK p s m #[Value.ref b] c D cy q A 4 code "WhiteElephantsLaw") (hX : va_X b Ln xs s s.heap) (hbl : b < s.heap.size) (hbA : ¬ A b) (hq : q 300 = b) (hLn : Ln ≤ 1000000) (hcs : cells ≤ 600000 ∧ slots ≤ 7302250) (hR : Rel nn M M) (hn : nn ≤ 512) (hi : 0 ≤ i ∧ i + 6 ≤ Ln) (kont : ∀ M2 : Mem, Rel (nn + 1) M2 M2 → M2 200 50 = M 200 50 → G p l e room_1 s m #[Value.ref b] below meth c D cy q A cells slots 4 Q 1731 [(0, gR 300), (1, gR 0), (2, gR 200), (3, gI i)] [] M2) : G p l e room_1 s m #[Value.ref b] below meth c D cy q A cells slots 4 Q 509 [(0, gR 300), (1, gR 0), (2, gR 200), (3, gI i)] [] M := by
  refine g_aloadn (pc := 509) (i := 1) (x := 0) hK dd_L_law_509 rfl rfl ?_
  refine g_aloadn (pc := 510) (i := 0) (x := 300) hK dd_L_law_510 rfl rfl ?_
  refine g_iloadn (pc := 511) (i := 3) (x := i) hK dd_L_law_511 rfl rfl ?_
  refine g_iconst (pc := 512) (x := 1) hK dd_L_law_512 (by decide) ?_
  refine g_iadd (pc := 513) (z := i + 1) hK dd_L_law_513 rfl ?_
  refine g_scr (pc := 514) hK hX hbl hbA hq hLn dd_L_law_514 (by omega) (by omega) ?_
  refine g_aloadn (pc := 515) (i := 0) (x := 300) hK dd_L_law_515 rfl rfl ?_
  refine g_iloadn (pc := 516) (i := 3) (x := i) hK dd_L_law_516 rfl rfl ?_
  refine g_iconst (pc := 517) (x := 2) hK dd_L_law_517 (by decide) ?_
  refine g_iadd (pc := 518) (z := i + 2) hK dd_L_law_518 rfl ?_
  refine g_scr (pc := 519) hK hX hbl hbA hq hLn dd_L_law_519 (by omega) (by omega) ?_
  refine g_callV (pc := 520) (As := [gI ((xs (i + 1).toNat).toInt), gI ((xs (i + 2).toNat).toInt)]) hK ws_L_45 md_X11_says hcs ⟨by decide, by decide⟩ (kdm kd_0) rfl rfl dd_L_law_520 rfl rfl (Nat.le_of_ble_eq_true rfl) (p_says hR hn ((xs (i + 1).toNat).toInt) ((xs (i + 2).toNat).toInt) (i32_in _) (i32_in _) (fun r1 M1 hf1 hk1 => ?_))
  refine g_r1 ?_
  refine g_aloadn (pc := 523) (i := 2) (x := 200) hK dd_L_law_523 rfl rfl ?_
  refine g_aloadn (pc := 524) (i := 0) (x := 300) hK dd_L_law_524 rfl rfl ?_
  refine g_iloadn (pc := 525) (i := 3) (x := i) hK dd_L_law_525 rfl rfl ?_
  refine g_iconst (pc := 526) (x := 1) hK dd_L_law_526 (by decide) ?_
  refine g_iadd (pc := 527) (z := i + 1) hK dd_L_law_527 rfl ?_
  refine g_scr (pc := 528) hK hX hbl hbA hq hLn dd_L_law_528 (by omega) (by omega) ?_
  refine g_aloadn (pc := 529) (i := 0) (x := 300) hK dd_L_law_529 rfl rfl ?_
  refine g_iloadn (pc := 530) (i := 3) (x := i) hK dd_L_law_530 rfl rfl ?_
  refine g_iconst (pc := 531) (x := 2) hK dd_L_law_531 (by decide) ?_
  refine g_iadd (pc := 532) (z := i + 2) hK dd_L_law_532 rfl ?_
  refine g_scr (pc := 533) hK hX hbl hbA hq hLn dd_L_law_533 (by omega) (by omega) ?_
  refine g_callV (pc := 534) (As := [gI ((xs (i + 1).toNat).toInt), gI ((xs (i + 2).toNat).toInt)]) hK ws_L_48 md_X12_says hcs ⟨by decide, by decide⟩ (kdm kd_200) rfl rfl dd_L_law_534 rfl rfl (Nat.le_of_ble_eq_true rfl) (hk1 _ (fun M2 hR2 hf2 => ?_))
  refine g_r1 ?_
  refine g_same (pc := 537) (tgt := 1731) hK dd_L_law_537 (by decide) ?_
  exact kont M2 hR2 hf2
set_option maxHeartbeats 1000000 in
set_option maxRecDepth 100000 in
theorem lw_c7 {p : Program} {l : Launch} {e : Env} {s : State} {m : MethodId} {below : List Frame} {meth : Method} {c : Code} {D : va_G} {cy : Nat → ClassId} {q : Nat → Nat} {A : Nat → Prop} {cells slots b Ln nn : Nat} {xs : Nat → Int32} {i : Int} {Q : State → Prop} {M : Mem} (hK : OK p s m #[Value.ref b] c D cy q A 4 code "WhiteElephantsLaw") (hX : va_X b Ln xs s s.heap) (hbl : b < s.heap.size) (hbA : ¬ A b) (hq : q 300 = b) (hLn : Ln ≤ 1000000) (hcs : cells ≤ 600000 ∧ slots ≤ 7302250) (hR : Rel nn M M) (hn : nn ≤ 512) (hi : 0 ≤ i ∧ i + 6 ≤ Ln) (kont : ∀ M2 : Mem, Rel (nn + 1) M2 M2 → M2 200 50 = M 200 50 → G p l e room_1 s m #[Value.ref b] below meth c D cy q A cells slots 4 Q 1731 [(0, gR 300), (1, gR 0), (2, gR 200), (3, gI i)] [] M2) : G p l e room_1 s m #[Value.ref b] below meth c D cy q A cells slots 4 Q 542 [(0, gR 300), (1, gR 0), (2, gR 200), (3, gI i)] [] M := by
  refine g_aloadn (pc := 542) (i := 1) (x := 0) hK dd_L_law_542 rfl rfl ?_
  refine g_aloadn (pc := 543) (i := 0) (x := 300) hK dd_L_law_543 rfl rfl ?_
  refine g_iloadn (pc := 544) (i := 3) (x := i) hK dd_L_law_544 rfl rfl ?_
  refine g_iconst (pc := 545) (x := 1) hK dd_L_law_545 (by decide) ?_
  refine g_iadd (pc := 546) (z := i + 1) hK dd_L_law_546 rfl ?_
  refine g_scr (pc := 547) hK hX hbl hbA hq hLn dd_L_law_547 (by omega) (by omega) ?_
  refine g_aloadn (pc := 548) (i := 0) (x := 300) hK dd_L_law_548 rfl rfl ?_
  refine g_iloadn (pc := 549) (i := 3) (x := i) hK dd_L_law_549 rfl rfl ?_
  refine g_iconst (pc := 550) (x := 2) hK dd_L_law_550 (by decide) ?_
  refine g_iadd (pc := 551) (z := i + 2) hK dd_L_law_551 rfl ?_
  refine g_scr (pc := 552) hK hX hbl hbA hq hLn dd_L_law_552 (by omega) (by omega) ?_
  refine g_aloadn (pc := 553) (i := 0) (x := 300) hK dd_L_law_553 rfl rfl ?_
  refine g_iloadn (pc := 554) (i := 3) (x := i) hK dd_L_law_554 rfl rfl ?_
  refine g_iconst (pc := 555) (x := 3) hK dd_L_law_555 (by decide) ?_
  refine g_iadd (pc := 556) (z := i + 3) hK dd_L_law_556 rfl ?_
  refine g_scr (pc := 557) hK hX hbl hbA hq hLn dd_L_law_557 (by omega) (by omega) ?_
  refine g_callV (pc := 558) (As := [gI ((xs (i + 1).toNat).toInt), gI ((xs (i + 2).toNat).toInt), gI ((xs (i + 3).toNat).toInt)]) hK ws_L_49 md_X11_thing hcs ⟨by decide, by decide⟩ (kdm kd_0) rfl rfl dd_L_law_558 rfl rfl (Nat.le_of_ble_eq_true rfl) (p_thing hR hn ((xs (i + 1).toNat).toInt) ((xs (i + 2).toNat).toInt) ((xs (i + 3).toNat).toInt) (i32_in _) (i32_in _) (i32_in _) (fun r1 M1 hf1 hk1 => ?_))
  refine g_r1 ?_
  refine g_aloadn (pc := 561) (i := 2) (x := 200) hK dd_L_law_561 rfl rfl ?_
  refine g_aloadn (pc := 562) (i := 0) (x := 300) hK dd_L_law_562 rfl rfl ?_
  refine g_iloadn (pc := 563) (i := 3) (x := i) hK dd_L_law_563 rfl rfl ?_
  refine g_iconst (pc := 564) (x := 1) hK dd_L_law_564 (by decide) ?_
  refine g_iadd (pc := 565) (z := i + 1) hK dd_L_law_565 rfl ?_
  refine g_scr (pc := 566) hK hX hbl hbA hq hLn dd_L_law_566 (by omega) (by omega) ?_
  refine g_aloadn (pc := 567) (i := 0) (x := 300) hK dd_L_law_567 rfl rfl ?_
  refine g_iloadn (pc := 568) (i := 3) (x := i) hK dd_L_law_568 rfl rfl ?_
  refine g_iconst (pc := 569) (x := 2) hK dd_L_law_569 (by decide) ?_
  refine g_iadd (pc := 570) (z := i + 2) hK dd_L_law_570 rfl ?_
  refine g_scr (pc := 571) hK hX hbl hbA hq hLn dd_L_law_571 (by omega) (by omega) ?_
  refine g_aloadn (pc := 572) (i := 0) (x := 300) hK dd_L_law_572 rfl rfl ?_
  refine g_iloadn (pc := 573) (i := 3) (x := i) hK dd_L_law_573 rfl rfl ?_
  refine g_iconst (pc := 574) (x := 3) hK dd_L_law_574 (by decide) ?_
  refine g_iadd (pc := 575) (z := i + 3) hK dd_L_law_575 rfl ?_
  refine g_scr (pc := 576) hK hX hbl hbA hq hLn dd_L_law_576 (by omega) (by omega) ?_
  refine g_callV (pc := 577) (As := [gI ((xs (i + 1).toNat).toInt), gI ((xs (i + 2).toNat).toInt), gI ((xs (i + 3).toNat).toInt)]) hK ws_L_52 md_X12_thing hcs ⟨by decide, by decide⟩ (kdm kd_200) rfl rfl dd_L_law_577 rfl rfl (Nat.le_of_ble_eq_true rfl) (hk1 _ (fun M2 hR2 hf2 => ?_))
  refine g_r1 ?_
  refine g_same (pc := 580) (tgt := 1731) hK dd_L_law_580 (by decide) ?_
  exact kont M2 hR2 hf2
set_option maxHeartbeats 1000000 in
set_option maxRecDepth 100000 in
theorem lw_c8 {p : Program} {l : Launch} {e : Env} {s : State} {m : MethodId} {below : List Frame} {meth : Method} {c : Code} {D : va_G} {cy : Nat → ClassId} {q : Nat → Nat} {A : Nat → Prop} {cells slots b Ln nn : Nat} {xs : Nat → Int32} {i : Int} {Q : State → Prop} {M : Mem} (hK : OK p s m #[Value.ref b] c D cy q A 4 code "WhiteElephantsLaw") (hX : va_X b Ln xs s s.heap) (hbl : b < s.heap.size) (hbA : ¬ A b) (hq : q 300 = b) (hLn : Ln ≤ 1000000) (hcs : cells ≤ 600000 ∧ slots ≤ 7302250) (hR : Rel nn M M) (hn : nn ≤ 512) (hi : 0 ≤ i ∧ i + 6 ≤ Ln) (kont : ∀ M2 : Mem, Rel (nn + 1) M2 M2 → M2 200 50 = M 200 50 → G p l e room_1 s m #[Value.ref b] below meth c D cy q A cells slots 4 Q 1731 [(0, gR 300), (1, gR 0), (2, gR 200), (3, gI i)] [] M2) : G p l e room_1 s m #[Value.ref b] below meth c D cy q A cells slots 4 Q 585 [(0, gR 300), (1, gR 0), (2, gR 200), (3, gI i)] [] M := by
  refine g_aloadn (pc := 585) (i := 1) (x := 0) hK dd_L_law_585 rfl rfl ?_
  refine g_aloadn (pc := 586) (i := 0) (x := 300) hK dd_L_law_586 rfl rfl ?_
  refine g_iloadn (pc := 587) (i := 3) (x := i) hK dd_L_law_587 rfl rfl ?_
  refine g_iconst (pc := 588) (x := 1) hK dd_L_law_588 (by decide) ?_
  refine g_iadd (pc := 589) (z := i + 1) hK dd_L_law_589 rfl ?_
  refine g_scr (pc := 590) hK hX hbl hbA hq hLn dd_L_law_590 (by omega) (by omega) ?_
  refine g_aloadn (pc := 591) (i := 0) (x := 300) hK dd_L_law_591 rfl rfl ?_
  refine g_iloadn (pc := 592) (i := 3) (x := i) hK dd_L_law_592 rfl rfl ?_
  refine g_iconst (pc := 593) (x := 2) hK dd_L_law_593 (by decide) ?_
  refine g_iadd (pc := 594) (z := i + 2) hK dd_L_law_594 rfl ?_
  refine g_scr (pc := 595) hK hX hbl hbA hq hLn dd_L_law_595 (by omega) (by omega) ?_
  refine g_aloadn (pc := 596) (i := 0) (x := 300) hK dd_L_law_596 rfl rfl ?_
  refine g_iloadn (pc := 597) (i := 3) (x := i) hK dd_L_law_597 rfl rfl ?_
  refine g_iconst (pc := 598) (x := 3) hK dd_L_law_598 (by decide) ?_
  refine g_iadd (pc := 599) (z := i + 3) hK dd_L_law_599 rfl ?_
  refine g_scr (pc := 600) hK hX hbl hbA hq hLn dd_L_law_600 (by omega) (by omega) ?_
  refine g_callV (pc := 601) (As := [gI ((xs (i + 1).toNat).toInt), gI ((xs (i + 2).toNat).toInt), gI ((xs (i + 3).toNat).toInt)]) hK ws_L_53 md_X11_things hcs ⟨by decide, by decide⟩ (kdm kd_0) rfl rfl dd_L_law_601 rfl rfl (Nat.le_of_ble_eq_true rfl) (p_things hR hn ((xs (i + 1).toNat).toInt) ((xs (i + 2).toNat).toInt) ((xs (i + 3).toNat).toInt) (i32_in _) (i32_in _) (i32_in _) (fun r1 M1 hf1 hk1 => ?_))
  refine g_r1 ?_
  refine g_aloadn (pc := 604) (i := 2) (x := 200) hK dd_L_law_604 rfl rfl ?_
  refine g_aloadn (pc := 605) (i := 0) (x := 300) hK dd_L_law_605 rfl rfl ?_
  refine g_iloadn (pc := 606) (i := 3) (x := i) hK dd_L_law_606 rfl rfl ?_
  refine g_iconst (pc := 607) (x := 1) hK dd_L_law_607 (by decide) ?_
  refine g_iadd (pc := 608) (z := i + 1) hK dd_L_law_608 rfl ?_
  refine g_scr (pc := 609) hK hX hbl hbA hq hLn dd_L_law_609 (by omega) (by omega) ?_
  refine g_aloadn (pc := 610) (i := 0) (x := 300) hK dd_L_law_610 rfl rfl ?_
  refine g_iloadn (pc := 611) (i := 3) (x := i) hK dd_L_law_611 rfl rfl ?_
  refine g_iconst (pc := 612) (x := 2) hK dd_L_law_612 (by decide) ?_
  refine g_iadd (pc := 613) (z := i + 2) hK dd_L_law_613 rfl ?_
  refine g_scr (pc := 614) hK hX hbl hbA hq hLn dd_L_law_614 (by omega) (by omega) ?_
  refine g_aloadn (pc := 615) (i := 0) (x := 300) hK dd_L_law_615 rfl rfl ?_
  refine g_iloadn (pc := 616) (i := 3) (x := i) hK dd_L_law_616 rfl rfl ?_
  refine g_iconst (pc := 617) (x := 3) hK dd_L_law_617 (by decide) ?_
  refine g_iadd (pc := 618) (z := i + 3) hK dd_L_law_618 rfl ?_
  refine g_scr (pc := 619) hK hX hbl hbA hq hLn dd_L_law_619 (by omega) (by omega) ?_
  refine g_callV (pc := 620) (As := [gI ((xs (i + 1).toNat).toInt), gI ((xs (i + 2).toNat).toInt), gI ((xs (i + 3).toNat).toInt)]) hK ws_L_56 md_X12_things hcs ⟨by decide, by decide⟩ (kdm kd_200) rfl rfl dd_L_law_620 rfl rfl (Nat.le_of_ble_eq_true rfl) (hk1 _ (fun M2 hR2 hf2 => ?_))
  refine g_r1 ?_
  refine g_same (pc := 623) (tgt := 1731) hK dd_L_law_623 (by decide) ?_
  exact kont M2 hR2 hf2
set_option maxHeartbeats 1000000 in
set_option maxRecDepth 100000 in
theorem lw_c9 {p : Program} {l : Launch} {e : Env} {s : State} {m : MethodId} {below : List Frame} {meth : Method} {c : Code} {D : va_G} {cy : Nat → ClassId} {q : Nat → Nat} {A : Nat → Prop} {cells slots b Ln nn : Nat} {xs : Nat → Int32} {i : Int} {Q : State → Prop} {M : Mem} (hK : OK p s m #[Value.ref b] c D cy q A 4 code "WhiteElephantsLaw") (hX : va_X b Ln xs s s.heap) (hbl : b < s.heap.size) (hbA : ¬ A b) (hq : q 300 = b) (hLn : Ln ≤ 1000000) (hcs : cells ≤ 600000 ∧ slots ≤ 7302250) (hR : Rel nn M M) (hn : nn ≤ 512) (hi : 0 ≤ i ∧ i + 6 ≤ Ln) (kont : ∀ M2 : Mem, Rel (nn + 1) M2 M2 → M2 200 50 = M 200 50 → G p l e room_1 s m #[Value.ref b] below meth c D cy q A cells slots 4 Q 1731 [(0, gR 300), (1, gR 0), (2, gR 200), (3, gI i)] [] M2) : G p l e room_1 s m #[Value.ref b] below meth c D cy q A cells slots 4 Q 628 [(0, gR 300), (1, gR 0), (2, gR 200), (3, gI i)] [] M := by
  refine g_aloadn (pc := 628) (i := 1) (x := 0) hK dd_L_law_628 rfl rfl ?_
  refine g_aloadn (pc := 629) (i := 0) (x := 300) hK dd_L_law_629 rfl rfl ?_
  refine g_iloadn (pc := 630) (i := 3) (x := i) hK dd_L_law_630 rfl rfl ?_
  refine g_iconst (pc := 631) (x := 1) hK dd_L_law_631 (by decide) ?_
  refine g_iadd (pc := 632) (z := i + 1) hK dd_L_law_632 rfl ?_
  refine g_scr (pc := 633) hK hX hbl hbA hq hLn dd_L_law_633 (by omega) (by omega) ?_
  refine g_aloadn (pc := 634) (i := 0) (x := 300) hK dd_L_law_634 rfl rfl ?_
  refine g_iloadn (pc := 635) (i := 3) (x := i) hK dd_L_law_635 rfl rfl ?_
  refine g_iconst (pc := 636) (x := 2) hK dd_L_law_636 (by decide) ?_
  refine g_iadd (pc := 637) (z := i + 2) hK dd_L_law_637 rfl ?_
  refine g_scr (pc := 638) hK hX hbl hbA hq hLn dd_L_law_638 (by omega) (by omega) ?_
  refine g_callV (pc := 639) (As := [gI ((xs (i + 1).toNat).toInt), gI ((xs (i + 2).toNat).toInt)]) hK ws_L_57 md_X11_thingOf hcs ⟨by decide, by decide⟩ (kdm kd_0) rfl rfl dd_L_law_639 rfl rfl (Nat.le_of_ble_eq_true rfl) (p_thingOf hR hn ((xs (i + 1).toNat).toInt) ((xs (i + 2).toNat).toInt) (i32_in _) (i32_in _) (fun r1 M1 hf1 hk1 => ?_))
  refine g_r1 ?_
  refine g_aloadn (pc := 642) (i := 2) (x := 200) hK dd_L_law_642 rfl rfl ?_
  refine g_aloadn (pc := 643) (i := 0) (x := 300) hK dd_L_law_643 rfl rfl ?_
  refine g_iloadn (pc := 644) (i := 3) (x := i) hK dd_L_law_644 rfl rfl ?_
  refine g_iconst (pc := 645) (x := 1) hK dd_L_law_645 (by decide) ?_
  refine g_iadd (pc := 646) (z := i + 1) hK dd_L_law_646 rfl ?_
  refine g_scr (pc := 647) hK hX hbl hbA hq hLn dd_L_law_647 (by omega) (by omega) ?_
  refine g_aloadn (pc := 648) (i := 0) (x := 300) hK dd_L_law_648 rfl rfl ?_
  refine g_iloadn (pc := 649) (i := 3) (x := i) hK dd_L_law_649 rfl rfl ?_
  refine g_iconst (pc := 650) (x := 2) hK dd_L_law_650 (by decide) ?_
  refine g_iadd (pc := 651) (z := i + 2) hK dd_L_law_651 rfl ?_
  refine g_scr (pc := 652) hK hX hbl hbA hq hLn dd_L_law_652 (by omega) (by omega) ?_
  refine g_callV (pc := 653) (As := [gI ((xs (i + 1).toNat).toInt), gI ((xs (i + 2).toNat).toInt)]) hK ws_L_60 md_X12_thingOf hcs ⟨by decide, by decide⟩ (kdm kd_200) rfl rfl dd_L_law_653 rfl rfl (Nat.le_of_ble_eq_true rfl) (hk1 _ (fun M2 hR2 hf2 => ?_))
  refine g_r1 ?_
  refine g_same (pc := 656) (tgt := 1731) hK dd_L_law_656 (by decide) ?_
  exact kont M2 hR2 hf2
set_option maxHeartbeats 1000000 in
set_option maxRecDepth 100000 in
theorem lw_c10 {p : Program} {l : Launch} {e : Env} {s : State} {m : MethodId} {below : List Frame} {meth : Method} {c : Code} {D : va_G} {cy : Nat → ClassId} {q : Nat → Nat} {A : Nat → Prop} {cells slots b Ln nn : Nat} {xs : Nat → Int32} {i : Int} {Q : State → Prop} {M : Mem} (hK : OK p s m #[Value.ref b] c D cy q A 4 code "WhiteElephantsLaw") (hX : va_X b Ln xs s s.heap) (hbl : b < s.heap.size) (hbA : ¬ A b) (hq : q 300 = b) (hLn : Ln ≤ 1000000) (hcs : cells ≤ 600000 ∧ slots ≤ 7302250) (hR : Rel nn M M) (hn : nn ≤ 512) (hi : 0 ≤ i ∧ i + 6 ≤ Ln) (kont : ∀ M2 : Mem, Rel (nn + 1) M2 M2 → M2 200 50 = M 200 50 → G p l e room_1 s m #[Value.ref b] below meth c D cy q A cells slots 4 Q 1731 [(0, gR 300), (1, gR 0), (2, gR 200), (3, gI i)] [] M2) : G p l e room_1 s m #[Value.ref b] below meth c D cy q A cells slots 4 Q 661 [(0, gR 300), (1, gR 0), (2, gR 200), (3, gI i)] [] M := by
  refine g_aloadn (pc := 661) (i := 1) (x := 0) hK dd_L_law_661 rfl rfl ?_
  refine g_aloadn (pc := 662) (i := 0) (x := 300) hK dd_L_law_662 rfl rfl ?_
  refine g_iloadn (pc := 663) (i := 3) (x := i) hK dd_L_law_663 rfl rfl ?_
  refine g_iconst (pc := 664) (x := 1) hK dd_L_law_664 (by decide) ?_
  refine g_iadd (pc := 665) (z := i + 1) hK dd_L_law_665 rfl ?_
  refine g_scr (pc := 666) hK hX hbl hbA hq hLn dd_L_law_666 (by omega) (by omega) ?_
  refine g_aloadn (pc := 667) (i := 0) (x := 300) hK dd_L_law_667 rfl rfl ?_
  refine g_iloadn (pc := 668) (i := 3) (x := i) hK dd_L_law_668 rfl rfl ?_
  refine g_iconst (pc := 669) (x := 2) hK dd_L_law_669 (by decide) ?_
  refine g_iadd (pc := 670) (z := i + 2) hK dd_L_law_670 rfl ?_
  refine g_scr (pc := 671) hK hX hbl hbA hq hLn dd_L_law_671 (by omega) (by omega) ?_
  refine g_callV (pc := 672) (As := [gI ((xs (i + 1).toNat).toInt), gI ((xs (i + 2).toNat).toInt)]) hK ws_L_61 md_X11_chip hcs ⟨by decide, by decide⟩ (kdm kd_0) rfl rfl dd_L_law_672 rfl rfl (Nat.le_of_ble_eq_true rfl) (p_chip hR hn ((xs (i + 1).toNat).toInt) ((xs (i + 2).toNat).toInt) (i32_in _) (i32_in _) (fun r1 M1 hf1 hk1 => ?_))
  refine g_r1 ?_
  refine g_aloadn (pc := 675) (i := 2) (x := 200) hK dd_L_law_675 rfl rfl ?_
  refine g_aloadn (pc := 676) (i := 0) (x := 300) hK dd_L_law_676 rfl rfl ?_
  refine g_iloadn (pc := 677) (i := 3) (x := i) hK dd_L_law_677 rfl rfl ?_
  refine g_iconst (pc := 678) (x := 1) hK dd_L_law_678 (by decide) ?_
  refine g_iadd (pc := 679) (z := i + 1) hK dd_L_law_679 rfl ?_
  refine g_scr (pc := 680) hK hX hbl hbA hq hLn dd_L_law_680 (by omega) (by omega) ?_
  refine g_aloadn (pc := 681) (i := 0) (x := 300) hK dd_L_law_681 rfl rfl ?_
  refine g_iloadn (pc := 682) (i := 3) (x := i) hK dd_L_law_682 rfl rfl ?_
  refine g_iconst (pc := 683) (x := 2) hK dd_L_law_683 (by decide) ?_
  refine g_iadd (pc := 684) (z := i + 2) hK dd_L_law_684 rfl ?_
  refine g_scr (pc := 685) hK hX hbl hbA hq hLn dd_L_law_685 (by omega) (by omega) ?_
  refine g_callV (pc := 686) (As := [gI ((xs (i + 1).toNat).toInt), gI ((xs (i + 2).toNat).toInt)]) hK ws_L_64 md_X12_chip hcs ⟨by decide, by decide⟩ (kdm kd_200) rfl rfl dd_L_law_686 rfl rfl (Nat.le_of_ble_eq_true rfl) (hk1 _ (fun M2 hR2 hf2 => ?_))
  refine g_r1 ?_
  refine g_same (pc := 689) (tgt := 1731) hK dd_L_law_689 (by decide) ?_
  exact kont M2 hR2 hf2
set_option maxHeartbeats 1000000 in
set_option maxRecDepth 100000 in
theorem lw_c11 {p : Program} {l : Launch} {e : Env} {s : State} {m : MethodId} {below : List Frame} {meth : Method} {c : Code} {D : va_G} {cy : Nat → ClassId} {q : Nat → Nat} {A : Nat → Prop} {cells slots b Ln nn : Nat} {xs : Nat → Int32} {i : Int} {Q : State → Prop} {M : Mem} (hK : OK p s m #[Value.ref b] c D cy q A 4 code "WhiteElephantsLaw") (hX : va_X b Ln xs s s.heap) (hbl : b < s.heap.size) (hbA : ¬ A b) (hq : q 300 = b) (hLn : Ln ≤ 1000000) (hcs : cells ≤ 600000 ∧ slots ≤ 7302250) (hR : Rel nn M M) (hn : nn ≤ 512) (hi : 0 ≤ i ∧ i + 6 ≤ Ln) (kont : ∀ M2 : Mem, Rel (nn + 1) M2 M2 → M2 200 50 = M 200 50 → G p l e room_1 s m #[Value.ref b] below meth c D cy q A cells slots 4 Q 1731 [(0, gR 300), (1, gR 0), (2, gR 200), (3, gI i)] [] M2) : G p l e room_1 s m #[Value.ref b] below meth c D cy q A cells slots 4 Q 694 [(0, gR 300), (1, gR 0), (2, gR 200), (3, gI i)] [] M := by
  refine g_aloadn (pc := 694) (i := 1) (x := 0) hK dd_L_law_694 rfl rfl ?_
  refine g_aloadn (pc := 695) (i := 0) (x := 300) hK dd_L_law_695 rfl rfl ?_
  refine g_iloadn (pc := 696) (i := 3) (x := i) hK dd_L_law_696 rfl rfl ?_
  refine g_iconst (pc := 697) (x := 1) hK dd_L_law_697 (by decide) ?_
  refine g_iadd (pc := 698) (z := i + 1) hK dd_L_law_698 rfl ?_
  refine g_scr (pc := 699) hK hX hbl hbA hq hLn dd_L_law_699 (by omega) (by omega) ?_
  refine g_aloadn (pc := 700) (i := 0) (x := 300) hK dd_L_law_700 rfl rfl ?_
  refine g_iloadn (pc := 701) (i := 3) (x := i) hK dd_L_law_701 rfl rfl ?_
  refine g_iconst (pc := 702) (x := 2) hK dd_L_law_702 (by decide) ?_
  refine g_iadd (pc := 703) (z := i + 2) hK dd_L_law_703 rfl ?_
  refine g_scr (pc := 704) hK hX hbl hbA hq hLn dd_L_law_704 (by omega) (by omega) ?_
  refine g_callV (pc := 705) (As := [gI ((xs (i + 1).toNat).toInt), gI ((xs (i + 2).toNat).toInt)]) hK ws_L_65 md_X11_lady hcs ⟨by decide, by decide⟩ (kdm kd_0) rfl rfl dd_L_law_705 rfl rfl (Nat.le_of_ble_eq_true rfl) (p_lady hR hn ((xs (i + 1).toNat).toInt) ((xs (i + 2).toNat).toInt) (i32_in _) (i32_in _) (fun r1 M1 hf1 hk1 => ?_))
  refine g_r1 ?_
  refine g_aloadn (pc := 708) (i := 2) (x := 200) hK dd_L_law_708 rfl rfl ?_
  refine g_aloadn (pc := 709) (i := 0) (x := 300) hK dd_L_law_709 rfl rfl ?_
  refine g_iloadn (pc := 710) (i := 3) (x := i) hK dd_L_law_710 rfl rfl ?_
  refine g_iconst (pc := 711) (x := 1) hK dd_L_law_711 (by decide) ?_
  refine g_iadd (pc := 712) (z := i + 1) hK dd_L_law_712 rfl ?_
  refine g_scr (pc := 713) hK hX hbl hbA hq hLn dd_L_law_713 (by omega) (by omega) ?_
  refine g_aloadn (pc := 714) (i := 0) (x := 300) hK dd_L_law_714 rfl rfl ?_
  refine g_iloadn (pc := 715) (i := 3) (x := i) hK dd_L_law_715 rfl rfl ?_
  refine g_iconst (pc := 716) (x := 2) hK dd_L_law_716 (by decide) ?_
  refine g_iadd (pc := 717) (z := i + 2) hK dd_L_law_717 rfl ?_
  refine g_scr (pc := 718) hK hX hbl hbA hq hLn dd_L_law_718 (by omega) (by omega) ?_
  refine g_callV (pc := 719) (As := [gI ((xs (i + 1).toNat).toInt), gI ((xs (i + 2).toNat).toInt)]) hK ws_L_68 md_X12_lady hcs ⟨by decide, by decide⟩ (kdm kd_200) rfl rfl dd_L_law_719 rfl rfl (Nat.le_of_ble_eq_true rfl) (hk1 _ (fun M2 hR2 hf2 => ?_))
  refine g_r1 ?_
  refine g_same (pc := 722) (tgt := 1731) hK dd_L_law_722 (by decide) ?_
  exact kont M2 hR2 hf2
set_option maxHeartbeats 1000000 in
set_option maxRecDepth 100000 in
theorem lw_c12 {p : Program} {l : Launch} {e : Env} {s : State} {m : MethodId} {below : List Frame} {meth : Method} {c : Code} {D : va_G} {cy : Nat → ClassId} {q : Nat → Nat} {A : Nat → Prop} {cells slots b Ln nn : Nat} {xs : Nat → Int32} {i : Int} {Q : State → Prop} {M : Mem} (hK : OK p s m #[Value.ref b] c D cy q A 4 code "WhiteElephantsLaw") (hX : va_X b Ln xs s s.heap) (hbl : b < s.heap.size) (hbA : ¬ A b) (hq : q 300 = b) (hLn : Ln ≤ 1000000) (hcs : cells ≤ 600000 ∧ slots ≤ 7302250) (hR : Rel nn M M) (hn : nn ≤ 512) (hi : 0 ≤ i ∧ i + 6 ≤ Ln) (kont : ∀ M2 : Mem, Rel (nn + 1) M2 M2 → M2 200 50 = M 200 50 → G p l e room_1 s m #[Value.ref b] below meth c D cy q A cells slots 4 Q 1731 [(0, gR 300), (1, gR 0), (2, gR 200), (3, gI i)] [] M2) : G p l e room_1 s m #[Value.ref b] below meth c D cy q A cells slots 4 Q 727 [(0, gR 300), (1, gR 0), (2, gR 200), (3, gI i)] [] M := by
  refine g_aloadn (pc := 727) (i := 1) (x := 0) hK dd_L_law_727 rfl rfl ?_
  refine g_aloadn (pc := 728) (i := 0) (x := 300) hK dd_L_law_728 rfl rfl ?_
  refine g_iloadn (pc := 729) (i := 3) (x := i) hK dd_L_law_729 rfl rfl ?_
  refine g_iconst (pc := 730) (x := 1) hK dd_L_law_730 (by decide) ?_
  refine g_iadd (pc := 731) (z := i + 1) hK dd_L_law_731 rfl ?_
  refine g_scr (pc := 732) hK hX hbl hbA hq hLn dd_L_law_732 (by omega) (by omega) ?_
  refine g_aloadn (pc := 733) (i := 0) (x := 300) hK dd_L_law_733 rfl rfl ?_
  refine g_iloadn (pc := 734) (i := 3) (x := i) hK dd_L_law_734 rfl rfl ?_
  refine g_iconst (pc := 735) (x := 2) hK dd_L_law_735 (by decide) ?_
  refine g_iadd (pc := 736) (z := i + 2) hK dd_L_law_736 rfl ?_
  refine g_scr (pc := 737) hK hX hbl hbA hq hLn dd_L_law_737 (by omega) (by omega) ?_
  refine g_callV (pc := 738) (As := [gI ((xs (i + 1).toNat).toInt), gI ((xs (i + 2).toNat).toInt)]) hK ws_L_69 md_X11_goes hcs ⟨by decide, by decide⟩ (kdm kd_0) rfl rfl dd_L_law_738 rfl rfl (Nat.le_of_ble_eq_true rfl) (p_goes hR hn ((xs (i + 1).toNat).toInt) ((xs (i + 2).toNat).toInt) (i32_in _) (i32_in _) (fun r1 M1 hf1 hk1 => ?_))
  refine g_r1 ?_
  refine g_aloadn (pc := 741) (i := 2) (x := 200) hK dd_L_law_741 rfl rfl ?_
  refine g_aloadn (pc := 742) (i := 0) (x := 300) hK dd_L_law_742 rfl rfl ?_
  refine g_iloadn (pc := 743) (i := 3) (x := i) hK dd_L_law_743 rfl rfl ?_
  refine g_iconst (pc := 744) (x := 1) hK dd_L_law_744 (by decide) ?_
  refine g_iadd (pc := 745) (z := i + 1) hK dd_L_law_745 rfl ?_
  refine g_scr (pc := 746) hK hX hbl hbA hq hLn dd_L_law_746 (by omega) (by omega) ?_
  refine g_aloadn (pc := 747) (i := 0) (x := 300) hK dd_L_law_747 rfl rfl ?_
  refine g_iloadn (pc := 748) (i := 3) (x := i) hK dd_L_law_748 rfl rfl ?_
  refine g_iconst (pc := 749) (x := 2) hK dd_L_law_749 (by decide) ?_
  refine g_iadd (pc := 750) (z := i + 2) hK dd_L_law_750 rfl ?_
  refine g_scr (pc := 751) hK hX hbl hbA hq hLn dd_L_law_751 (by omega) (by omega) ?_
  refine g_callV (pc := 752) (As := [gI ((xs (i + 1).toNat).toInt), gI ((xs (i + 2).toNat).toInt)]) hK ws_L_72 md_X12_goes hcs ⟨by decide, by decide⟩ (kdm kd_200) rfl rfl dd_L_law_752 rfl rfl (Nat.le_of_ble_eq_true rfl) (hk1 _ (fun M2 hR2 hf2 => ?_))
  refine g_r1 ?_
  refine g_same (pc := 755) (tgt := 1731) hK dd_L_law_755 (by decide) ?_
  exact kont M2 hR2 hf2
set_option maxHeartbeats 1000000 in
set_option maxRecDepth 100000 in
theorem lw_c13 {p : Program} {l : Launch} {e : Env} {s : State} {m : MethodId} {below : List Frame} {meth : Method} {c : Code} {D : va_G} {cy : Nat → ClassId} {q : Nat → Nat} {A : Nat → Prop} {cells slots b Ln nn : Nat} {xs : Nat → Int32} {i : Int} {Q : State → Prop} {M : Mem} (hK : OK p s m #[Value.ref b] c D cy q A 4 code "WhiteElephantsLaw") (hX : va_X b Ln xs s s.heap) (hbl : b < s.heap.size) (hbA : ¬ A b) (hq : q 300 = b) (hLn : Ln ≤ 1000000) (hcs : cells ≤ 600000 ∧ slots ≤ 7302250) (hR : Rel nn M M) (hn : nn ≤ 512) (hi : 0 ≤ i ∧ i + 6 ≤ Ln) (kont : ∀ M2 : Mem, Rel (nn + 1) M2 M2 → M2 200 50 = M 200 50 → G p l e room_1 s m #[Value.ref b] below meth c D cy q A cells slots 4 Q 1731 [(0, gR 300), (1, gR 0), (2, gR 200), (3, gI i)] [] M2) : G p l e room_1 s m #[Value.ref b] below meth c D cy q A cells slots 4 Q 760 [(0, gR 300), (1, gR 0), (2, gR 200), (3, gI i)] [] M := by
  refine g_aloadn (pc := 760) (i := 1) (x := 0) hK dd_L_law_760 rfl rfl ?_
  refine g_aloadn (pc := 761) (i := 0) (x := 300) hK dd_L_law_761 rfl rfl ?_
  refine g_iloadn (pc := 762) (i := 3) (x := i) hK dd_L_law_762 rfl rfl ?_
  refine g_iconst (pc := 763) (x := 1) hK dd_L_law_763 (by decide) ?_
  refine g_iadd (pc := 764) (z := i + 1) hK dd_L_law_764 rfl ?_
  refine g_scr (pc := 765) hK hX hbl hbA hq hLn dd_L_law_765 (by omega) (by omega) ?_
  refine g_aloadn (pc := 766) (i := 0) (x := 300) hK dd_L_law_766 rfl rfl ?_
  refine g_iloadn (pc := 767) (i := 3) (x := i) hK dd_L_law_767 rfl rfl ?_
  refine g_iconst (pc := 768) (x := 2) hK dd_L_law_768 (by decide) ?_
  refine g_iadd (pc := 769) (z := i + 2) hK dd_L_law_769 rfl ?_
  refine g_scr (pc := 770) hK hX hbl hbA hq hLn dd_L_law_770 (by omega) (by omega) ?_
  refine g_callV (pc := 771) (As := [gI ((xs (i + 1).toNat).toInt), gI ((xs (i + 2).toNat).toInt)]) hK ws_L_73 md_X11_feed hcs ⟨by decide, by decide⟩ (kdm kd_0) rfl rfl dd_L_law_771 rfl rfl (Nat.le_of_ble_eq_true rfl) (p_feed hR hn ((xs (i + 1).toNat).toInt) ((xs (i + 2).toNat).toInt) (i32_in _) (i32_in _) (fun r1 M1 hf1 hk1 => ?_))
  refine g_r1 ?_
  refine g_aloadn (pc := 774) (i := 2) (x := 200) hK dd_L_law_774 rfl rfl ?_
  refine g_aloadn (pc := 775) (i := 0) (x := 300) hK dd_L_law_775 rfl rfl ?_
  refine g_iloadn (pc := 776) (i := 3) (x := i) hK dd_L_law_776 rfl rfl ?_
  refine g_iconst (pc := 777) (x := 1) hK dd_L_law_777 (by decide) ?_
  refine g_iadd (pc := 778) (z := i + 1) hK dd_L_law_778 rfl ?_
  refine g_scr (pc := 779) hK hX hbl hbA hq hLn dd_L_law_779 (by omega) (by omega) ?_
  refine g_aloadn (pc := 780) (i := 0) (x := 300) hK dd_L_law_780 rfl rfl ?_
  refine g_iloadn (pc := 781) (i := 3) (x := i) hK dd_L_law_781 rfl rfl ?_
  refine g_iconst (pc := 782) (x := 2) hK dd_L_law_782 (by decide) ?_
  refine g_iadd (pc := 783) (z := i + 2) hK dd_L_law_783 rfl ?_
  refine g_scr (pc := 784) hK hX hbl hbA hq hLn dd_L_law_784 (by omega) (by omega) ?_
  refine g_callV (pc := 785) (As := [gI ((xs (i + 1).toNat).toInt), gI ((xs (i + 2).toNat).toInt)]) hK ws_L_76 md_X12_feed hcs ⟨by decide, by decide⟩ (kdm kd_200) rfl rfl dd_L_law_785 rfl rfl (Nat.le_of_ble_eq_true rfl) (hk1 _ (fun M2 hR2 hf2 => ?_))
  refine g_r1 ?_
  refine g_same (pc := 788) (tgt := 1731) hK dd_L_law_788 (by decide) ?_
  exact kont M2 hR2 hf2
set_option maxHeartbeats 1000000 in
set_option maxRecDepth 100000 in
theorem lw_c14 {p : Program} {l : Launch} {e : Env} {s : State} {m : MethodId} {below : List Frame} {meth : Method} {c : Code} {D : va_G} {cy : Nat → ClassId} {q : Nat → Nat} {A : Nat → Prop} {cells slots b Ln nn : Nat} {xs : Nat → Int32} {i : Int} {Q : State → Prop} {M : Mem} (hK : OK p s m #[Value.ref b] c D cy q A 4 code "WhiteElephantsLaw") (hX : va_X b Ln xs s s.heap) (hbl : b < s.heap.size) (hbA : ¬ A b) (hq : q 300 = b) (hLn : Ln ≤ 1000000) (hcs : cells ≤ 600000 ∧ slots ≤ 7302250) (hR : Rel nn M M) (hn : nn ≤ 512) (hi : 0 ≤ i ∧ i + 6 ≤ Ln) (kont : ∀ M2 : Mem, Rel (nn + 1) M2 M2 → M2 200 50 = M 200 50 → G p l e room_1 s m #[Value.ref b] below meth c D cy q A cells slots 4 Q 1731 [(0, gR 300), (1, gR 0), (2, gR 200), (3, gI i)] [] M2) : G p l e room_1 s m #[Value.ref b] below meth c D cy q A cells slots 4 Q 793 [(0, gR 300), (1, gR 0), (2, gR 200), (3, gI i)] [] M := by
  refine g_aloadn (pc := 793) (i := 1) (x := 0) hK dd_L_law_793 rfl rfl ?_
  refine g_callV (pc := 794) (As := []) hK ws_L_77 md_X11_wipe hcs ⟨by decide, by decide⟩ (kdm kd_0) rfl rfl dd_L_law_794 rfl rfl (Nat.le_of_ble_eq_true rfl) (p_wipe hR hn   (fun r1 M1 hf1 hk1 => ?_))
  refine g_r1 ?_
  refine g_aloadn (pc := 797) (i := 2) (x := 200) hK dd_L_law_797 rfl rfl ?_
  refine g_callV (pc := 798) (As := []) hK ws_L_81 md_X12_wipe hcs ⟨by decide, by decide⟩ (kdm kd_200) rfl rfl dd_L_law_798 rfl rfl (Nat.le_of_ble_eq_true rfl) (hk1 _ (fun M2 hR2 hf2 => ?_))
  refine g_r1 ?_
  refine g_same (pc := 801) (tgt := 1731) hK dd_L_law_801 (by decide) ?_
  exact kont M2 hR2 hf2
set_option maxHeartbeats 1000000 in
set_option maxRecDepth 100000 in
theorem lw_c15 {p : Program} {l : Launch} {e : Env} {s : State} {m : MethodId} {below : List Frame} {meth : Method} {c : Code} {D : va_G} {cy : Nat → ClassId} {q : Nat → Nat} {A : Nat → Prop} {cells slots b Ln nn : Nat} {xs : Nat → Int32} {i : Int} {Q : State → Prop} {M : Mem} (hK : OK p s m #[Value.ref b] c D cy q A 4 code "WhiteElephantsLaw") (hX : va_X b Ln xs s s.heap) (hbl : b < s.heap.size) (hbA : ¬ A b) (hq : q 300 = b) (hLn : Ln ≤ 1000000) (hcs : cells ≤ 600000 ∧ slots ≤ 7302250) (hR : Rel nn M M) (hn : nn ≤ 512) (hi : 0 ≤ i ∧ i + 6 ≤ Ln) (kont : ∀ M2 : Mem, Rel (nn + 1) M2 M2 → M2 200 50 = M 200 50 → G p l e room_1 s m #[Value.ref b] below meth c D cy q A cells slots 4 Q 1731 [(0, gR 300), (1, gR 0), (2, gR 200), (3, gI i)] [] M2) : G p l e room_1 s m #[Value.ref b] below meth c D cy q A cells slots 4 Q 806 [(0, gR 300), (1, gR 0), (2, gR 200), (3, gI i)] [] M := by
  refine g_aloadn (pc := 806) (i := 1) (x := 0) hK dd_L_law_806 rfl rfl ?_
  refine g_callV (pc := 807) (As := []) hK ws_L_82 md_X11_law hcs ⟨by decide, by decide⟩ (kdm kd_0) rfl rfl dd_L_law_807 rfl rfl (Nat.le_of_ble_eq_true rfl) (p_law hR hn   (fun r1 M1 hf1 hk1 => ?_))
  refine g_r1 ?_
  refine g_aloadn (pc := 810) (i := 2) (x := 200) hK dd_L_law_810 rfl rfl ?_
  refine g_callV (pc := 811) (As := []) hK ws_L_85 md_X12_law hcs ⟨by decide, by decide⟩ (kdm kd_200) rfl rfl dd_L_law_811 rfl rfl (Nat.le_of_ble_eq_true rfl) (hk1 _ (fun M2 hR2 hf2 => ?_))
  refine g_r1 ?_
  refine g_same (pc := 814) (tgt := 1731) hK dd_L_law_814 (by decide) ?_
  exact kont M2 hR2 hf2
set_option maxHeartbeats 1000000 in
set_option maxRecDepth 100000 in
theorem lw_c16 {p : Program} {l : Launch} {e : Env} {s : State} {m : MethodId} {below : List Frame} {meth : Method} {c : Code} {D : va_G} {cy : Nat → ClassId} {q : Nat → Nat} {A : Nat → Prop} {cells slots b Ln nn : Nat} {xs : Nat → Int32} {i : Int} {Q : State → Prop} {M : Mem} (hK : OK p s m #[Value.ref b] c D cy q A 4 code "WhiteElephantsLaw") (hX : va_X b Ln xs s s.heap) (hbl : b < s.heap.size) (hbA : ¬ A b) (hq : q 300 = b) (hLn : Ln ≤ 1000000) (hcs : cells ≤ 600000 ∧ slots ≤ 7302250) (hR : Rel nn M M) (hn : nn ≤ 512) (hi : 0 ≤ i ∧ i + 6 ≤ Ln) (kont : ∀ M2 : Mem, Rel (nn + 1) M2 M2 → M2 200 50 = M 200 50 → G p l e room_1 s m #[Value.ref b] below meth c D cy q A cells slots 4 Q 1731 [(0, gR 300), (1, gR 0), (2, gR 200), (3, gI i)] [] M2) : G p l e room_1 s m #[Value.ref b] below meth c D cy q A cells slots 4 Q 819 [(0, gR 300), (1, gR 0), (2, gR 200), (3, gI i)] [] M := by
  refine g_aloadn (pc := 819) (i := 1) (x := 0) hK dd_L_law_819 rfl rfl ?_
  refine g_aloadn (pc := 820) (i := 0) (x := 300) hK dd_L_law_820 rfl rfl ?_
  refine g_iloadn (pc := 821) (i := 3) (x := i) hK dd_L_law_821 rfl rfl ?_
  refine g_iconst (pc := 822) (x := 1) hK dd_L_law_822 (by decide) ?_
  refine g_iadd (pc := 823) (z := i + 1) hK dd_L_law_823 rfl ?_
  refine g_scr (pc := 824) hK hX hbl hbA hq hLn dd_L_law_824 (by omega) (by omega) ?_
  refine g_aloadn (pc := 825) (i := 0) (x := 300) hK dd_L_law_825 rfl rfl ?_
  refine g_iloadn (pc := 826) (i := 3) (x := i) hK dd_L_law_826 rfl rfl ?_
  refine g_iconst (pc := 827) (x := 2) hK dd_L_law_827 (by decide) ?_
  refine g_iadd (pc := 828) (z := i + 2) hK dd_L_law_828 rfl ?_
  refine g_scr (pc := 829) hK hX hbl hbA hq hLn dd_L_law_829 (by omega) (by omega) ?_
  refine g_callV (pc := 830) (As := [gI ((xs (i + 1).toNat).toInt), gI ((xs (i + 2).toNat).toInt)]) hK ws_L_86 md_X11_lawOf hcs ⟨by decide, by decide⟩ (kdm kd_0) rfl rfl dd_L_law_830 rfl rfl (Nat.le_of_ble_eq_true rfl) (p_lawOf hR hn ((xs (i + 1).toNat).toInt) ((xs (i + 2).toNat).toInt) (i32_in _) (i32_in _) (fun r1 M1 hf1 hk1 => ?_))
  refine g_r1 ?_
  refine g_aloadn (pc := 833) (i := 2) (x := 200) hK dd_L_law_833 rfl rfl ?_
  refine g_aloadn (pc := 834) (i := 0) (x := 300) hK dd_L_law_834 rfl rfl ?_
  refine g_iloadn (pc := 835) (i := 3) (x := i) hK dd_L_law_835 rfl rfl ?_
  refine g_iconst (pc := 836) (x := 1) hK dd_L_law_836 (by decide) ?_
  refine g_iadd (pc := 837) (z := i + 1) hK dd_L_law_837 rfl ?_
  refine g_scr (pc := 838) hK hX hbl hbA hq hLn dd_L_law_838 (by omega) (by omega) ?_
  refine g_aloadn (pc := 839) (i := 0) (x := 300) hK dd_L_law_839 rfl rfl ?_
  refine g_iloadn (pc := 840) (i := 3) (x := i) hK dd_L_law_840 rfl rfl ?_
  refine g_iconst (pc := 841) (x := 2) hK dd_L_law_841 (by decide) ?_
  refine g_iadd (pc := 842) (z := i + 2) hK dd_L_law_842 rfl ?_
  refine g_scr (pc := 843) hK hX hbl hbA hq hLn dd_L_law_843 (by omega) (by omega) ?_
  refine g_callV (pc := 844) (As := [gI ((xs (i + 1).toNat).toInt), gI ((xs (i + 2).toNat).toInt)]) hK ws_L_89 md_X12_lawOf hcs ⟨by decide, by decide⟩ (kdm kd_200) rfl rfl dd_L_law_844 rfl rfl (Nat.le_of_ble_eq_true rfl) (hk1 _ (fun M2 hR2 hf2 => ?_))
  refine g_r1 ?_
  refine g_same (pc := 847) (tgt := 1731) hK dd_L_law_847 (by decide) ?_
  exact kont M2 hR2 hf2
set_option maxHeartbeats 1000000 in
set_option maxRecDepth 100000 in
theorem lw_c17 {p : Program} {l : Launch} {e : Env} {s : State} {m : MethodId} {below : List Frame} {meth : Method} {c : Code} {D : va_G} {cy : Nat → ClassId} {q : Nat → Nat} {A : Nat → Prop} {cells slots b Ln nn : Nat} {xs : Nat → Int32} {i : Int} {Q : State → Prop} {M : Mem} (hK : OK p s m #[Value.ref b] c D cy q A 4 code "WhiteElephantsLaw") (hX : va_X b Ln xs s s.heap) (hbl : b < s.heap.size) (hbA : ¬ A b) (hq : q 300 = b) (hLn : Ln ≤ 1000000) (hcs : cells ≤ 600000 ∧ slots ≤ 7302250) (hR : Rel nn M M) (hn : nn ≤ 512) (hi : 0 ≤ i ∧ i + 6 ≤ Ln) (kont : ∀ M2 : Mem, Rel (nn + 1) M2 M2 → M2 200 50 = M 200 50 → G p l e room_1 s m #[Value.ref b] below meth c D cy q A cells slots 4 Q 1731 [(0, gR 300), (1, gR 0), (2, gR 200), (3, gI i)] [] M2) : G p l e room_1 s m #[Value.ref b] below meth c D cy q A cells slots 4 Q 852 [(0, gR 300), (1, gR 0), (2, gR 200), (3, gI i)] [] M := by
  refine g_aloadn (pc := 852) (i := 1) (x := 0) hK dd_L_law_852 rfl rfl ?_
  refine g_aloadn (pc := 853) (i := 0) (x := 300) hK dd_L_law_853 rfl rfl ?_
  refine g_iloadn (pc := 854) (i := 3) (x := i) hK dd_L_law_854 rfl rfl ?_
  refine g_iconst (pc := 855) (x := 1) hK dd_L_law_855 (by decide) ?_
  refine g_iadd (pc := 856) (z := i + 1) hK dd_L_law_856 rfl ?_
  refine g_scr (pc := 857) hK hX hbl hbA hq hLn dd_L_law_857 (by omega) (by omega) ?_
  refine g_aloadn (pc := 858) (i := 0) (x := 300) hK dd_L_law_858 rfl rfl ?_
  refine g_iloadn (pc := 859) (i := 3) (x := i) hK dd_L_law_859 rfl rfl ?_
  refine g_iconst (pc := 860) (x := 2) hK dd_L_law_860 (by decide) ?_
  refine g_iadd (pc := 861) (z := i + 2) hK dd_L_law_861 rfl ?_
  refine g_scr (pc := 862) hK hX hbl hbA hq hLn dd_L_law_862 (by omega) (by omega) ?_
  refine g_aloadn (pc := 863) (i := 0) (x := 300) hK dd_L_law_863 rfl rfl ?_
  refine g_iloadn (pc := 864) (i := 3) (x := i) hK dd_L_law_864 rfl rfl ?_
  refine g_iconst (pc := 865) (x := 3) hK dd_L_law_865 (by decide) ?_
  refine g_iadd (pc := 866) (z := i + 3) hK dd_L_law_866 rfl ?_
  refine g_scr (pc := 867) hK hX hbl hbA hq hLn dd_L_law_867 (by omega) (by omega) ?_
  refine g_if_eq (pc := 868) (tgt := 875) hK dd_L_law_868 (by decide) (i32_in _) (fun c1 => ?_) (fun c1 => ?_)
  · refine g_iconst (pc := 875) (x := 0) hK dd_L_law_875 (by decide) ?_
    refine g_callV (pc := 876) (As := [gI ((xs (i + 1).toNat).toInt), gI ((xs (i + 2).toNat).toInt), gI 0]) hK ws_L_90 md_X11_thinks hcs ⟨by decide, by decide⟩ (kdm kd_0) rfl rfl dd_L_law_876 rfl rfl (Nat.le_of_ble_eq_true rfl) (p_thinks hR hn ((xs (i + 1).toNat).toInt) ((xs (i + 2).toNat).toInt) 0 (i32_in _) (i32_in _) (by decide) (fun r1 M1 hf1 hk1 => ?_))
    refine g_r1 ?_
    refine g_aloadn (pc := 879) (i := 2) (x := 200) hK dd_L_law_879 rfl rfl ?_
    refine g_aloadn (pc := 880) (i := 0) (x := 300) hK dd_L_law_880 rfl rfl ?_
    refine g_iloadn (pc := 881) (i := 3) (x := i) hK dd_L_law_881 rfl rfl ?_
    refine g_iconst (pc := 882) (x := 1) hK dd_L_law_882 (by decide) ?_
    refine g_iadd (pc := 883) (z := i + 1) hK dd_L_law_883 rfl ?_
    refine g_scr (pc := 884) hK hX hbl hbA hq hLn dd_L_law_884 (by omega) (by omega) ?_
    refine g_aloadn (pc := 885) (i := 0) (x := 300) hK dd_L_law_885 rfl rfl ?_
    refine g_iloadn (pc := 886) (i := 3) (x := i) hK dd_L_law_886 rfl rfl ?_
    refine g_iconst (pc := 887) (x := 2) hK dd_L_law_887 (by decide) ?_
    refine g_iadd (pc := 888) (z := i + 2) hK dd_L_law_888 rfl ?_
    refine g_scr (pc := 889) hK hX hbl hbA hq hLn dd_L_law_889 (by omega) (by omega) ?_
    refine g_aloadn (pc := 890) (i := 0) (x := 300) hK dd_L_law_890 rfl rfl ?_
    refine g_iloadn (pc := 891) (i := 3) (x := i) hK dd_L_law_891 rfl rfl ?_
    refine g_iconst (pc := 892) (x := 3) hK dd_L_law_892 (by decide) ?_
    refine g_iadd (pc := 893) (z := i + 3) hK dd_L_law_893 rfl ?_
    refine g_scr (pc := 894) hK hX hbl hbA hq hLn dd_L_law_894 (by omega) (by omega) ?_
    refine g_if_eq (pc := 895) (tgt := 902) hK dd_L_law_895 (by decide) (i32_in _) (fun c2 => ?_) (fun c2 => ?_)
    rotate_left
    · exact absurd c1 c2
    refine g_iconst (pc := 902) (x := 0) hK dd_L_law_902 (by decide) ?_
    refine g_callV (pc := 903) (As := [gI ((xs (i + 1).toNat).toInt), gI ((xs (i + 2).toNat).toInt), gI 0]) hK ws_L_94 md_X12_thinks hcs ⟨by decide, by decide⟩ (kdm kd_200) rfl rfl dd_L_law_903 rfl rfl (Nat.le_of_ble_eq_true rfl) (hk1 _ (fun M2 hR2 hf2 => ?_))
    refine g_r1 ?_
    refine g_same (pc := 906) (tgt := 1731) hK dd_L_law_906 (by decide) ?_
    exact kont M2 hR2 hf2
  · refine g_iconst (pc := 871) (x := 1) hK dd_L_law_871 (by decide) ?_
    refine g_goto (pc := 872) (tgt := 876) hK dd_L_law_872 (by decide) ?_
    refine g_callV (pc := 876) (As := [gI ((xs (i + 1).toNat).toInt), gI ((xs (i + 2).toNat).toInt), gI 1]) hK ws_L_90 md_X11_thinks hcs ⟨by decide, by decide⟩ (kdm kd_0) rfl rfl dd_L_law_876 rfl rfl (Nat.le_of_ble_eq_true rfl) (p_thinks hR hn ((xs (i + 1).toNat).toInt) ((xs (i + 2).toNat).toInt) 1 (i32_in _) (i32_in _) (by decide) (fun r1 M1 hf1 hk1 => ?_))
    refine g_r1 ?_
    refine g_aloadn (pc := 879) (i := 2) (x := 200) hK dd_L_law_879 rfl rfl ?_
    refine g_aloadn (pc := 880) (i := 0) (x := 300) hK dd_L_law_880 rfl rfl ?_
    refine g_iloadn (pc := 881) (i := 3) (x := i) hK dd_L_law_881 rfl rfl ?_
    refine g_iconst (pc := 882) (x := 1) hK dd_L_law_882 (by decide) ?_
    refine g_iadd (pc := 883) (z := i + 1) hK dd_L_law_883 rfl ?_
    refine g_scr (pc := 884) hK hX hbl hbA hq hLn dd_L_law_884 (by omega) (by omega) ?_
    refine g_aloadn (pc := 885) (i := 0) (x := 300) hK dd_L_law_885 rfl rfl ?_
    refine g_iloadn (pc := 886) (i := 3) (x := i) hK dd_L_law_886 rfl rfl ?_
    refine g_iconst (pc := 887) (x := 2) hK dd_L_law_887 (by decide) ?_
    refine g_iadd (pc := 888) (z := i + 2) hK dd_L_law_888 rfl ?_
    refine g_scr (pc := 889) hK hX hbl hbA hq hLn dd_L_law_889 (by omega) (by omega) ?_
    refine g_aloadn (pc := 890) (i := 0) (x := 300) hK dd_L_law_890 rfl rfl ?_
    refine g_iloadn (pc := 891) (i := 3) (x := i) hK dd_L_law_891 rfl rfl ?_
    refine g_iconst (pc := 892) (x := 3) hK dd_L_law_892 (by decide) ?_
    refine g_iadd (pc := 893) (z := i + 3) hK dd_L_law_893 rfl ?_
    refine g_scr (pc := 894) hK hX hbl hbA hq hLn dd_L_law_894 (by omega) (by omega) ?_
    refine g_if_eq (pc := 895) (tgt := 902) hK dd_L_law_895 (by decide) (i32_in _) (fun c2 => ?_) (fun c2 => ?_)
    · exact absurd c2 c1
    refine g_iconst (pc := 898) (x := 1) hK dd_L_law_898 (by decide) ?_
    refine g_goto (pc := 899) (tgt := 903) hK dd_L_law_899 (by decide) ?_
    refine g_callV (pc := 903) (As := [gI ((xs (i + 1).toNat).toInt), gI ((xs (i + 2).toNat).toInt), gI 1]) hK ws_L_94 md_X12_thinks hcs ⟨by decide, by decide⟩ (kdm kd_200) rfl rfl dd_L_law_903 rfl rfl (Nat.le_of_ble_eq_true rfl) (hk1 _ (fun M2 hR2 hf2 => ?_))
    refine g_r1 ?_
    refine g_same (pc := 906) (tgt := 1731) hK dd_L_law_906 (by decide) ?_
    exact kont M2 hR2 hf2
set_option maxHeartbeats 1000000 in
set_option maxRecDepth 100000 in
theorem lw_c18 {p : Program} {l : Launch} {e : Env} {s : State} {m : MethodId} {below : List Frame} {meth : Method} {c : Code} {D : va_G} {cy : Nat → ClassId} {q : Nat → Nat} {A : Nat → Prop} {cells slots b Ln nn : Nat} {xs : Nat → Int32} {i : Int} {Q : State → Prop} {M : Mem} (hK : OK p s m #[Value.ref b] c D cy q A 4 code "WhiteElephantsLaw") (hX : va_X b Ln xs s s.heap) (hbl : b < s.heap.size) (hbA : ¬ A b) (hq : q 300 = b) (hLn : Ln ≤ 1000000) (hcs : cells ≤ 600000 ∧ slots ≤ 7302250) (hR : Rel nn M M) (hn : nn ≤ 512) (hi : 0 ≤ i ∧ i + 6 ≤ Ln) (kont : ∀ M2 : Mem, Rel (nn + 1) M2 M2 → M2 200 50 = M 200 50 → G p l e room_1 s m #[Value.ref b] below meth c D cy q A cells slots 4 Q 1731 [(0, gR 300), (1, gR 0), (2, gR 200), (3, gI i)] [] M2) : G p l e room_1 s m #[Value.ref b] below meth c D cy q A cells slots 4 Q 911 [(0, gR 300), (1, gR 0), (2, gR 200), (3, gI i)] [] M := by
  refine g_aloadn (pc := 911) (i := 1) (x := 0) hK dd_L_law_911 rfl rfl ?_
  refine g_aloadn (pc := 912) (i := 0) (x := 300) hK dd_L_law_912 rfl rfl ?_
  refine g_iloadn (pc := 913) (i := 3) (x := i) hK dd_L_law_913 rfl rfl ?_
  refine g_iconst (pc := 914) (x := 1) hK dd_L_law_914 (by decide) ?_
  refine g_iadd (pc := 915) (z := i + 1) hK dd_L_law_915 rfl ?_
  refine g_scr (pc := 916) hK hX hbl hbA hq hLn dd_L_law_916 (by omega) (by omega) ?_
  refine g_aloadn (pc := 917) (i := 0) (x := 300) hK dd_L_law_917 rfl rfl ?_
  refine g_iloadn (pc := 918) (i := 3) (x := i) hK dd_L_law_918 rfl rfl ?_
  refine g_iconst (pc := 919) (x := 2) hK dd_L_law_919 (by decide) ?_
  refine g_iadd (pc := 920) (z := i + 2) hK dd_L_law_920 rfl ?_
  refine g_scr (pc := 921) hK hX hbl hbA hq hLn dd_L_law_921 (by omega) (by omega) ?_
  refine g_callV (pc := 922) (As := [gI ((xs (i + 1).toNat).toInt), gI ((xs (i + 2).toNat).toInt)]) hK ws_L_95 md_X11_price hcs ⟨by decide, by decide⟩ (kdm kd_0) rfl rfl dd_L_law_922 rfl rfl (Nat.le_of_ble_eq_true rfl) (p_price hR hn ((xs (i + 1).toNat).toInt) ((xs (i + 2).toNat).toInt) (i32_in _) (i32_in _) (fun r1 M1 hf1 hk1 => ?_))
  refine g_r1 ?_
  refine g_aloadn (pc := 925) (i := 2) (x := 200) hK dd_L_law_925 rfl rfl ?_
  refine g_aloadn (pc := 926) (i := 0) (x := 300) hK dd_L_law_926 rfl rfl ?_
  refine g_iloadn (pc := 927) (i := 3) (x := i) hK dd_L_law_927 rfl rfl ?_
  refine g_iconst (pc := 928) (x := 1) hK dd_L_law_928 (by decide) ?_
  refine g_iadd (pc := 929) (z := i + 1) hK dd_L_law_929 rfl ?_
  refine g_scr (pc := 930) hK hX hbl hbA hq hLn dd_L_law_930 (by omega) (by omega) ?_
  refine g_aloadn (pc := 931) (i := 0) (x := 300) hK dd_L_law_931 rfl rfl ?_
  refine g_iloadn (pc := 932) (i := 3) (x := i) hK dd_L_law_932 rfl rfl ?_
  refine g_iconst (pc := 933) (x := 2) hK dd_L_law_933 (by decide) ?_
  refine g_iadd (pc := 934) (z := i + 2) hK dd_L_law_934 rfl ?_
  refine g_scr (pc := 935) hK hX hbl hbA hq hLn dd_L_law_935 (by omega) (by omega) ?_
  refine g_callV (pc := 936) (As := [gI ((xs (i + 1).toNat).toInt), gI ((xs (i + 2).toNat).toInt)]) hK ws_L_98 md_X12_price hcs ⟨by decide, by decide⟩ (kdm kd_200) rfl rfl dd_L_law_936 rfl rfl (Nat.le_of_ble_eq_true rfl) (hk1 _ (fun M2 hR2 hf2 => ?_))
  refine g_r1 ?_
  refine g_same (pc := 939) (tgt := 1731) hK dd_L_law_939 (by decide) ?_
  exact kont M2 hR2 hf2
set_option maxHeartbeats 1000000 in
set_option maxRecDepth 100000 in
theorem lw_c19 {p : Program} {l : Launch} {e : Env} {s : State} {m : MethodId} {below : List Frame} {meth : Method} {c : Code} {D : va_G} {cy : Nat → ClassId} {q : Nat → Nat} {A : Nat → Prop} {cells slots b Ln nn : Nat} {xs : Nat → Int32} {i : Int} {Q : State → Prop} {M : Mem} (hK : OK p s m #[Value.ref b] c D cy q A 4 code "WhiteElephantsLaw") (hX : va_X b Ln xs s s.heap) (hbl : b < s.heap.size) (hbA : ¬ A b) (hq : q 300 = b) (hLn : Ln ≤ 1000000) (hcs : cells ≤ 600000 ∧ slots ≤ 7302250) (hR : Rel nn M M) (hn : nn ≤ 512) (hi : 0 ≤ i ∧ i + 6 ≤ Ln) (kont : ∀ M2 : Mem, Rel (nn + 1) M2 M2 → M2 200 50 = M 200 50 → G p l e room_1 s m #[Value.ref b] below meth c D cy q A cells slots 4 Q 1731 [(0, gR 300), (1, gR 0), (2, gR 200), (3, gI i)] [] M2) : G p l e room_1 s m #[Value.ref b] below meth c D cy q A cells slots 4 Q 944 [(0, gR 300), (1, gR 0), (2, gR 200), (3, gI i)] [] M := by
  refine g_aloadn (pc := 944) (i := 1) (x := 0) hK dd_L_law_944 rfl rfl ?_
  refine g_aloadn (pc := 945) (i := 0) (x := 300) hK dd_L_law_945 rfl rfl ?_
  refine g_iloadn (pc := 946) (i := 3) (x := i) hK dd_L_law_946 rfl rfl ?_
  refine g_iconst (pc := 947) (x := 1) hK dd_L_law_947 (by decide) ?_
  refine g_iadd (pc := 948) (z := i + 1) hK dd_L_law_948 rfl ?_
  refine g_scr (pc := 949) hK hX hbl hbA hq hLn dd_L_law_949 (by omega) (by omega) ?_
  refine g_aloadn (pc := 950) (i := 0) (x := 300) hK dd_L_law_950 rfl rfl ?_
  refine g_iloadn (pc := 951) (i := 3) (x := i) hK dd_L_law_951 rfl rfl ?_
  refine g_iconst (pc := 952) (x := 2) hK dd_L_law_952 (by decide) ?_
  refine g_iadd (pc := 953) (z := i + 2) hK dd_L_law_953 rfl ?_
  refine g_scr (pc := 954) hK hX hbl hbA hq hLn dd_L_law_954 (by omega) (by omega) ?_
  refine g_callV (pc := 955) (As := [gI ((xs (i + 1).toNat).toInt), gI ((xs (i + 2).toNat).toInt)]) hK ws_L_99 md_X11_mark hcs ⟨by decide, by decide⟩ (kdm kd_0) rfl rfl dd_L_law_955 rfl rfl (Nat.le_of_ble_eq_true rfl) (p_mark hR hn ((xs (i + 1).toNat).toInt) ((xs (i + 2).toNat).toInt) (i32_in _) (i32_in _) (fun r1 M1 hf1 hk1 => ?_))
  refine g_r1 ?_
  refine g_aloadn (pc := 958) (i := 2) (x := 200) hK dd_L_law_958 rfl rfl ?_
  refine g_aloadn (pc := 959) (i := 0) (x := 300) hK dd_L_law_959 rfl rfl ?_
  refine g_iloadn (pc := 960) (i := 3) (x := i) hK dd_L_law_960 rfl rfl ?_
  refine g_iconst (pc := 961) (x := 1) hK dd_L_law_961 (by decide) ?_
  refine g_iadd (pc := 962) (z := i + 1) hK dd_L_law_962 rfl ?_
  refine g_scr (pc := 963) hK hX hbl hbA hq hLn dd_L_law_963 (by omega) (by omega) ?_
  refine g_aloadn (pc := 964) (i := 0) (x := 300) hK dd_L_law_964 rfl rfl ?_
  refine g_iloadn (pc := 965) (i := 3) (x := i) hK dd_L_law_965 rfl rfl ?_
  refine g_iconst (pc := 966) (x := 2) hK dd_L_law_966 (by decide) ?_
  refine g_iadd (pc := 967) (z := i + 2) hK dd_L_law_967 rfl ?_
  refine g_scr (pc := 968) hK hX hbl hbA hq hLn dd_L_law_968 (by omega) (by omega) ?_
  refine g_callV (pc := 969) (As := [gI ((xs (i + 1).toNat).toInt), gI ((xs (i + 2).toNat).toInt)]) hK ws_L_102 md_X12_mark hcs ⟨by decide, by decide⟩ (kdm kd_200) rfl rfl dd_L_law_969 rfl rfl (Nat.le_of_ble_eq_true rfl) (hk1 _ (fun M2 hR2 hf2 => ?_))
  refine g_r1 ?_
  refine g_same (pc := 972) (tgt := 1731) hK dd_L_law_972 (by decide) ?_
  exact kont M2 hR2 hf2
set_option maxHeartbeats 1000000 in
set_option maxRecDepth 100000 in
theorem lw_c20 {p : Program} {l : Launch} {e : Env} {s : State} {m : MethodId} {below : List Frame} {meth : Method} {c : Code} {D : va_G} {cy : Nat → ClassId} {q : Nat → Nat} {A : Nat → Prop} {cells slots b Ln nn : Nat} {xs : Nat → Int32} {i : Int} {Q : State → Prop} {M : Mem} (hK : OK p s m #[Value.ref b] c D cy q A 4 code "WhiteElephantsLaw") (hX : va_X b Ln xs s s.heap) (hbl : b < s.heap.size) (hbA : ¬ A b) (hq : q 300 = b) (hLn : Ln ≤ 1000000) (hcs : cells ≤ 600000 ∧ slots ≤ 7302250) (hR : Rel nn M M) (hn : nn ≤ 512) (hi : 0 ≤ i ∧ i + 6 ≤ Ln) (kont : ∀ M2 : Mem, Rel (nn + 1) M2 M2 → M2 200 50 = M 200 50 → G p l e room_1 s m #[Value.ref b] below meth c D cy q A cells slots 4 Q 1731 [(0, gR 300), (1, gR 0), (2, gR 200), (3, gI i)] [] M2) : G p l e room_1 s m #[Value.ref b] below meth c D cy q A cells slots 4 Q 977 [(0, gR 300), (1, gR 0), (2, gR 200), (3, gI i)] [] M := by
  refine g_aloadn (pc := 977) (i := 1) (x := 0) hK dd_L_law_977 rfl rfl ?_
  refine g_aloadn (pc := 978) (i := 0) (x := 300) hK dd_L_law_978 rfl rfl ?_
  refine g_iloadn (pc := 979) (i := 3) (x := i) hK dd_L_law_979 rfl rfl ?_
  refine g_iconst (pc := 980) (x := 1) hK dd_L_law_980 (by decide) ?_
  refine g_iadd (pc := 981) (z := i + 1) hK dd_L_law_981 rfl ?_
  refine g_scr (pc := 982) hK hX hbl hbA hq hLn dd_L_law_982 (by omega) (by omega) ?_
  refine g_aloadn (pc := 983) (i := 0) (x := 300) hK dd_L_law_983 rfl rfl ?_
  refine g_iloadn (pc := 984) (i := 3) (x := i) hK dd_L_law_984 rfl rfl ?_
  refine g_iconst (pc := 985) (x := 2) hK dd_L_law_985 (by decide) ?_
  refine g_iadd (pc := 986) (z := i + 2) hK dd_L_law_986 rfl ?_
  refine g_scr (pc := 987) hK hX hbl hbA hq hLn dd_L_law_987 (by omega) (by omega) ?_
  refine g_aloadn (pc := 988) (i := 0) (x := 300) hK dd_L_law_988 rfl rfl ?_
  refine g_iloadn (pc := 989) (i := 3) (x := i) hK dd_L_law_989 rfl rfl ?_
  refine g_iconst (pc := 990) (x := 3) hK dd_L_law_990 (by decide) ?_
  refine g_iadd (pc := 991) (z := i + 3) hK dd_L_law_991 rfl ?_
  refine g_scr (pc := 992) hK hX hbl hbA hq hLn dd_L_law_992 (by omega) (by omega) ?_
  refine g_aloadn (pc := 993) (i := 0) (x := 300) hK dd_L_law_993 rfl rfl ?_
  refine g_iloadn (pc := 994) (i := 3) (x := i) hK dd_L_law_994 rfl rfl ?_
  refine g_iconst (pc := 995) (x := 4) hK dd_L_law_995 (by decide) ?_
  refine g_iadd (pc := 996) (z := i + 4) hK dd_L_law_996 rfl ?_
  refine g_scr (pc := 997) hK hX hbl hbA hq hLn dd_L_law_997 (by omega) (by omega) ?_
  refine g_callV (pc := 998) (As := [gI ((xs (i + 1).toNat).toInt), gI ((xs (i + 2).toNat).toInt), gI ((xs (i + 3).toNat).toInt), gI ((xs (i + 4).toNat).toInt)]) hK ws_L_103 md_X11_buyer hcs ⟨by decide, by decide⟩ (kdm kd_0) rfl rfl dd_L_law_998 rfl rfl (Nat.le_of_ble_eq_true rfl) (p_buyer hR hn ((xs (i + 1).toNat).toInt) ((xs (i + 2).toNat).toInt) ((xs (i + 3).toNat).toInt) ((xs (i + 4).toNat).toInt) (i32_in _) (i32_in _) (i32_in _) (i32_in _) (fun r1 M1 hf1 hk1 => ?_))
  refine g_r1 ?_
  refine g_aloadn (pc := 1001) (i := 2) (x := 200) hK dd_L_law_1001 rfl rfl ?_
  refine g_aloadn (pc := 1002) (i := 0) (x := 300) hK dd_L_law_1002 rfl rfl ?_
  refine g_iloadn (pc := 1003) (i := 3) (x := i) hK dd_L_law_1003 rfl rfl ?_
  refine g_iconst (pc := 1004) (x := 1) hK dd_L_law_1004 (by decide) ?_
  refine g_iadd (pc := 1005) (z := i + 1) hK dd_L_law_1005 rfl ?_
  refine g_scr (pc := 1006) hK hX hbl hbA hq hLn dd_L_law_1006 (by omega) (by omega) ?_
  refine g_aloadn (pc := 1007) (i := 0) (x := 300) hK dd_L_law_1007 rfl rfl ?_
  refine g_iloadn (pc := 1008) (i := 3) (x := i) hK dd_L_law_1008 rfl rfl ?_
  refine g_iconst (pc := 1009) (x := 2) hK dd_L_law_1009 (by decide) ?_
  refine g_iadd (pc := 1010) (z := i + 2) hK dd_L_law_1010 rfl ?_
  refine g_scr (pc := 1011) hK hX hbl hbA hq hLn dd_L_law_1011 (by omega) (by omega) ?_
  refine g_aloadn (pc := 1012) (i := 0) (x := 300) hK dd_L_law_1012 rfl rfl ?_
  refine g_iloadn (pc := 1013) (i := 3) (x := i) hK dd_L_law_1013 rfl rfl ?_
  refine g_iconst (pc := 1014) (x := 3) hK dd_L_law_1014 (by decide) ?_
  refine g_iadd (pc := 1015) (z := i + 3) hK dd_L_law_1015 rfl ?_
  refine g_scr (pc := 1016) hK hX hbl hbA hq hLn dd_L_law_1016 (by omega) (by omega) ?_
  refine g_aloadn (pc := 1017) (i := 0) (x := 300) hK dd_L_law_1017 rfl rfl ?_
  refine g_iloadn (pc := 1018) (i := 3) (x := i) hK dd_L_law_1018 rfl rfl ?_
  refine g_iconst (pc := 1019) (x := 4) hK dd_L_law_1019 (by decide) ?_
  refine g_iadd (pc := 1020) (z := i + 4) hK dd_L_law_1020 rfl ?_
  refine g_scr (pc := 1021) hK hX hbl hbA hq hLn dd_L_law_1021 (by omega) (by omega) ?_
  refine g_callV (pc := 1022) (As := [gI ((xs (i + 1).toNat).toInt), gI ((xs (i + 2).toNat).toInt), gI ((xs (i + 3).toNat).toInt), gI ((xs (i + 4).toNat).toInt)]) hK ws_L_107 md_X12_buyer hcs ⟨by decide, by decide⟩ (kdm kd_200) rfl rfl dd_L_law_1022 rfl rfl (Nat.le_of_ble_eq_true rfl) (hk1 _ (fun M2 hR2 hf2 => ?_))
  refine g_r1 ?_
  refine g_same (pc := 1025) (tgt := 1731) hK dd_L_law_1025 (by decide) ?_
  exact kont M2 hR2 hf2
set_option maxHeartbeats 1000000 in
set_option maxRecDepth 100000 in
theorem lw_c21 {p : Program} {l : Launch} {e : Env} {s : State} {m : MethodId} {below : List Frame} {meth : Method} {c : Code} {D : va_G} {cy : Nat → ClassId} {q : Nat → Nat} {A : Nat → Prop} {cells slots b Ln nn : Nat} {xs : Nat → Int32} {i : Int} {Q : State → Prop} {M : Mem} (hK : OK p s m #[Value.ref b] c D cy q A 4 code "WhiteElephantsLaw") (hX : va_X b Ln xs s s.heap) (hbl : b < s.heap.size) (hbA : ¬ A b) (hq : q 300 = b) (hLn : Ln ≤ 1000000) (hcs : cells ≤ 600000 ∧ slots ≤ 7302250) (hR : Rel nn M M) (hn : nn ≤ 512) (hi : 0 ≤ i ∧ i + 6 ≤ Ln) (kont : ∀ M2 : Mem, Rel (nn + 1) M2 M2 → M2 200 50 = M 200 50 → G p l e room_1 s m #[Value.ref b] below meth c D cy q A cells slots 4 Q 1731 [(0, gR 300), (1, gR 0), (2, gR 200), (3, gI i)] [] M2) : G p l e room_1 s m #[Value.ref b] below meth c D cy q A cells slots 4 Q 1030 [(0, gR 300), (1, gR 0), (2, gR 200), (3, gI i)] [] M := by
  refine g_aloadn (pc := 1030) (i := 1) (x := 0) hK dd_L_law_1030 rfl rfl ?_
  refine g_aloadn (pc := 1031) (i := 0) (x := 300) hK dd_L_law_1031 rfl rfl ?_
  refine g_iloadn (pc := 1032) (i := 3) (x := i) hK dd_L_law_1032 rfl rfl ?_
  refine g_iconst (pc := 1033) (x := 1) hK dd_L_law_1033 (by decide) ?_
  refine g_iadd (pc := 1034) (z := i + 1) hK dd_L_law_1034 rfl ?_
  refine g_scr (pc := 1035) hK hX hbl hbA hq hLn dd_L_law_1035 (by omega) (by omega) ?_
  refine g_aloadn (pc := 1036) (i := 0) (x := 300) hK dd_L_law_1036 rfl rfl ?_
  refine g_iloadn (pc := 1037) (i := 3) (x := i) hK dd_L_law_1037 rfl rfl ?_
  refine g_iconst (pc := 1038) (x := 2) hK dd_L_law_1038 (by decide) ?_
  refine g_iadd (pc := 1039) (z := i + 2) hK dd_L_law_1039 rfl ?_
  refine g_scr (pc := 1040) hK hX hbl hbA hq hLn dd_L_law_1040 (by omega) (by omega) ?_
  refine g_callV (pc := 1041) (As := [gI ((xs (i + 1).toNat).toInt), gI ((xs (i + 2).toNat).toInt)]) hK ws_L_108 md_X11_buyerOf hcs ⟨by decide, by decide⟩ (kdm kd_0) rfl rfl dd_L_law_1041 rfl rfl (Nat.le_of_ble_eq_true rfl) (p_buyerOf hR hn ((xs (i + 1).toNat).toInt) ((xs (i + 2).toNat).toInt) (i32_in _) (i32_in _) (fun r1 M1 hf1 hk1 => ?_))
  refine g_r1 ?_
  refine g_aloadn (pc := 1044) (i := 2) (x := 200) hK dd_L_law_1044 rfl rfl ?_
  refine g_aloadn (pc := 1045) (i := 0) (x := 300) hK dd_L_law_1045 rfl rfl ?_
  refine g_iloadn (pc := 1046) (i := 3) (x := i) hK dd_L_law_1046 rfl rfl ?_
  refine g_iconst (pc := 1047) (x := 1) hK dd_L_law_1047 (by decide) ?_
  refine g_iadd (pc := 1048) (z := i + 1) hK dd_L_law_1048 rfl ?_
  refine g_scr (pc := 1049) hK hX hbl hbA hq hLn dd_L_law_1049 (by omega) (by omega) ?_
  refine g_aloadn (pc := 1050) (i := 0) (x := 300) hK dd_L_law_1050 rfl rfl ?_
  refine g_iloadn (pc := 1051) (i := 3) (x := i) hK dd_L_law_1051 rfl rfl ?_
  refine g_iconst (pc := 1052) (x := 2) hK dd_L_law_1052 (by decide) ?_
  refine g_iadd (pc := 1053) (z := i + 2) hK dd_L_law_1053 rfl ?_
  refine g_scr (pc := 1054) hK hX hbl hbA hq hLn dd_L_law_1054 (by omega) (by omega) ?_
  refine g_callV (pc := 1055) (As := [gI ((xs (i + 1).toNat).toInt), gI ((xs (i + 2).toNat).toInt)]) hK ws_L_111 md_X12_buyerOf hcs ⟨by decide, by decide⟩ (kdm kd_200) rfl rfl dd_L_law_1055 rfl rfl (Nat.le_of_ble_eq_true rfl) (hk1 _ (fun M2 hR2 hf2 => ?_))
  refine g_r1 ?_
  refine g_same (pc := 1058) (tgt := 1731) hK dd_L_law_1058 (by decide) ?_
  exact kont M2 hR2 hf2
set_option maxHeartbeats 1000000 in
set_option maxRecDepth 100000 in
theorem lw_c22 {p : Program} {l : Launch} {e : Env} {s : State} {m : MethodId} {below : List Frame} {meth : Method} {c : Code} {D : va_G} {cy : Nat → ClassId} {q : Nat → Nat} {A : Nat → Prop} {cells slots b Ln nn : Nat} {xs : Nat → Int32} {i : Int} {Q : State → Prop} {M : Mem} (hK : OK p s m #[Value.ref b] c D cy q A 4 code "WhiteElephantsLaw") (hX : va_X b Ln xs s s.heap) (hbl : b < s.heap.size) (hbA : ¬ A b) (hq : q 300 = b) (hLn : Ln ≤ 1000000) (hcs : cells ≤ 600000 ∧ slots ≤ 7302250) (hR : Rel nn M M) (hn : nn ≤ 512) (hi : 0 ≤ i ∧ i + 6 ≤ Ln) (kont : ∀ M2 : Mem, Rel (nn + 1) M2 M2 → M2 200 50 = M 200 50 → G p l e room_1 s m #[Value.ref b] below meth c D cy q A cells slots 4 Q 1731 [(0, gR 300), (1, gR 0), (2, gR 200), (3, gI i)] [] M2) : G p l e room_1 s m #[Value.ref b] below meth c D cy q A cells slots 4 Q 1063 [(0, gR 300), (1, gR 0), (2, gR 200), (3, gI i)] [] M := by
  refine g_aloadn (pc := 1063) (i := 1) (x := 0) hK dd_L_law_1063 rfl rfl ?_
  refine g_aloadn (pc := 1064) (i := 0) (x := 300) hK dd_L_law_1064 rfl rfl ?_
  refine g_iloadn (pc := 1065) (i := 3) (x := i) hK dd_L_law_1065 rfl rfl ?_
  refine g_iconst (pc := 1066) (x := 1) hK dd_L_law_1066 (by decide) ?_
  refine g_iadd (pc := 1067) (z := i + 1) hK dd_L_law_1067 rfl ?_
  refine g_scr (pc := 1068) hK hX hbl hbA hq hLn dd_L_law_1068 (by omega) (by omega) ?_
  refine g_aloadn (pc := 1069) (i := 0) (x := 300) hK dd_L_law_1069 rfl rfl ?_
  refine g_iloadn (pc := 1070) (i := 3) (x := i) hK dd_L_law_1070 rfl rfl ?_
  refine g_iconst (pc := 1071) (x := 2) hK dd_L_law_1071 (by decide) ?_
  refine g_iadd (pc := 1072) (z := i + 2) hK dd_L_law_1072 rfl ?_
  refine g_scr (pc := 1073) hK hX hbl hbA hq hLn dd_L_law_1073 (by omega) (by omega) ?_
  refine g_callV (pc := 1074) (As := [gI ((xs (i + 1).toNat).toInt), gI ((xs (i + 2).toNat).toInt)]) hK ws_L_112 md_X11_turn hcs ⟨by decide, by decide⟩ (kdm kd_0) rfl rfl dd_L_law_1074 rfl rfl (Nat.le_of_ble_eq_true rfl) (p_turn hR hn ((xs (i + 1).toNat).toInt) ((xs (i + 2).toNat).toInt) (i32_in _) (i32_in _) (fun r1 M1 hf1 hk1 => ?_))
  refine g_r1 ?_
  refine g_aloadn (pc := 1077) (i := 2) (x := 200) hK dd_L_law_1077 rfl rfl ?_
  refine g_aloadn (pc := 1078) (i := 0) (x := 300) hK dd_L_law_1078 rfl rfl ?_
  refine g_iloadn (pc := 1079) (i := 3) (x := i) hK dd_L_law_1079 rfl rfl ?_
  refine g_iconst (pc := 1080) (x := 1) hK dd_L_law_1080 (by decide) ?_
  refine g_iadd (pc := 1081) (z := i + 1) hK dd_L_law_1081 rfl ?_
  refine g_scr (pc := 1082) hK hX hbl hbA hq hLn dd_L_law_1082 (by omega) (by omega) ?_
  refine g_aloadn (pc := 1083) (i := 0) (x := 300) hK dd_L_law_1083 rfl rfl ?_
  refine g_iloadn (pc := 1084) (i := 3) (x := i) hK dd_L_law_1084 rfl rfl ?_
  refine g_iconst (pc := 1085) (x := 2) hK dd_L_law_1085 (by decide) ?_
  refine g_iadd (pc := 1086) (z := i + 2) hK dd_L_law_1086 rfl ?_
  refine g_scr (pc := 1087) hK hX hbl hbA hq hLn dd_L_law_1087 (by omega) (by omega) ?_
  refine g_callV (pc := 1088) (As := [gI ((xs (i + 1).toNat).toInt), gI ((xs (i + 2).toNat).toInt)]) hK ws_L_115 md_X12_turn hcs ⟨by decide, by decide⟩ (kdm kd_200) rfl rfl dd_L_law_1088 rfl rfl (Nat.le_of_ble_eq_true rfl) (hk1 _ (fun M2 hR2 hf2 => ?_))
  refine g_r1 ?_
  refine g_same (pc := 1091) (tgt := 1731) hK dd_L_law_1091 (by decide) ?_
  exact kont M2 hR2 hf2
set_option maxHeartbeats 1000000 in
set_option maxRecDepth 100000 in
theorem lw_c23 {p : Program} {l : Launch} {e : Env} {s : State} {m : MethodId} {below : List Frame} {meth : Method} {c : Code} {D : va_G} {cy : Nat → ClassId} {q : Nat → Nat} {A : Nat → Prop} {cells slots b Ln nn : Nat} {xs : Nat → Int32} {i : Int} {Q : State → Prop} {M : Mem} (hK : OK p s m #[Value.ref b] c D cy q A 4 code "WhiteElephantsLaw") (hX : va_X b Ln xs s s.heap) (hbl : b < s.heap.size) (hbA : ¬ A b) (hq : q 300 = b) (hLn : Ln ≤ 1000000) (hcs : cells ≤ 600000 ∧ slots ≤ 7302250) (hR : Rel nn M M) (hn : nn ≤ 512) (hi : 0 ≤ i ∧ i + 6 ≤ Ln) (kont : ∀ M2 : Mem, Rel (nn + 1) M2 M2 → M2 200 50 = M 200 50 → G p l e room_1 s m #[Value.ref b] below meth c D cy q A cells slots 4 Q 1731 [(0, gR 300), (1, gR 0), (2, gR 200), (3, gI i)] [] M2) : G p l e room_1 s m #[Value.ref b] below meth c D cy q A cells slots 4 Q 1096 [(0, gR 300), (1, gR 0), (2, gR 200), (3, gI i)] [] M := by
  refine g_aloadn (pc := 1096) (i := 1) (x := 0) hK dd_L_law_1096 rfl rfl ?_
  refine g_aloadn (pc := 1097) (i := 0) (x := 300) hK dd_L_law_1097 rfl rfl ?_
  refine g_iloadn (pc := 1098) (i := 3) (x := i) hK dd_L_law_1098 rfl rfl ?_
  refine g_iconst (pc := 1099) (x := 1) hK dd_L_law_1099 (by decide) ?_
  refine g_iadd (pc := 1100) (z := i + 1) hK dd_L_law_1100 rfl ?_
  refine g_scr (pc := 1101) hK hX hbl hbA hq hLn dd_L_law_1101 (by omega) (by omega) ?_
  refine g_aloadn (pc := 1102) (i := 0) (x := 300) hK dd_L_law_1102 rfl rfl ?_
  refine g_iloadn (pc := 1103) (i := 3) (x := i) hK dd_L_law_1103 rfl rfl ?_
  refine g_iconst (pc := 1104) (x := 2) hK dd_L_law_1104 (by decide) ?_
  refine g_iadd (pc := 1105) (z := i + 2) hK dd_L_law_1105 rfl ?_
  refine g_scr (pc := 1106) hK hX hbl hbA hq hLn dd_L_law_1106 (by omega) (by omega) ?_
  refine g_callV (pc := 1107) (As := [gI ((xs (i + 1).toNat).toInt), gI ((xs (i + 2).toNat).toInt)]) hK ws_L_116 md_X11_costs hcs ⟨by decide, by decide⟩ (kdm kd_0) rfl rfl dd_L_law_1107 rfl rfl (Nat.le_of_ble_eq_true rfl) (p_costs hR hn ((xs (i + 1).toNat).toInt) ((xs (i + 2).toNat).toInt) (i32_in _) (i32_in _) (fun r1 M1 hf1 hk1 => ?_))
  refine g_r1 ?_
  refine g_aloadn (pc := 1110) (i := 2) (x := 200) hK dd_L_law_1110 rfl rfl ?_
  refine g_aloadn (pc := 1111) (i := 0) (x := 300) hK dd_L_law_1111 rfl rfl ?_
  refine g_iloadn (pc := 1112) (i := 3) (x := i) hK dd_L_law_1112 rfl rfl ?_
  refine g_iconst (pc := 1113) (x := 1) hK dd_L_law_1113 (by decide) ?_
  refine g_iadd (pc := 1114) (z := i + 1) hK dd_L_law_1114 rfl ?_
  refine g_scr (pc := 1115) hK hX hbl hbA hq hLn dd_L_law_1115 (by omega) (by omega) ?_
  refine g_aloadn (pc := 1116) (i := 0) (x := 300) hK dd_L_law_1116 rfl rfl ?_
  refine g_iloadn (pc := 1117) (i := 3) (x := i) hK dd_L_law_1117 rfl rfl ?_
  refine g_iconst (pc := 1118) (x := 2) hK dd_L_law_1118 (by decide) ?_
  refine g_iadd (pc := 1119) (z := i + 2) hK dd_L_law_1119 rfl ?_
  refine g_scr (pc := 1120) hK hX hbl hbA hq hLn dd_L_law_1120 (by omega) (by omega) ?_
  refine g_callV (pc := 1121) (As := [gI ((xs (i + 1).toNat).toInt), gI ((xs (i + 2).toNat).toInt)]) hK ws_L_119 md_X12_costs hcs ⟨by decide, by decide⟩ (kdm kd_200) rfl rfl dd_L_law_1121 rfl rfl (Nat.le_of_ble_eq_true rfl) (hk1 _ (fun M2 hR2 hf2 => ?_))
  refine g_r1 ?_
  refine g_same (pc := 1124) (tgt := 1731) hK dd_L_law_1124 (by decide) ?_
  exact kont M2 hR2 hf2
set_option maxHeartbeats 1000000 in
set_option maxRecDepth 100000 in
theorem lw_c24 {p : Program} {l : Launch} {e : Env} {s : State} {m : MethodId} {below : List Frame} {meth : Method} {c : Code} {D : va_G} {cy : Nat → ClassId} {q : Nat → Nat} {A : Nat → Prop} {cells slots b Ln nn : Nat} {xs : Nat → Int32} {i : Int} {Q : State → Prop} {M : Mem} (hK : OK p s m #[Value.ref b] c D cy q A 4 code "WhiteElephantsLaw") (hX : va_X b Ln xs s s.heap) (hbl : b < s.heap.size) (hbA : ¬ A b) (hq : q 300 = b) (hLn : Ln ≤ 1000000) (hcs : cells ≤ 600000 ∧ slots ≤ 7302250) (hR : Rel nn M M) (hn : nn ≤ 512) (hi : 0 ≤ i ∧ i + 6 ≤ Ln) (kont : ∀ M2 : Mem, Rel (nn + 1) M2 M2 → M2 200 50 = M 200 50 → G p l e room_1 s m #[Value.ref b] below meth c D cy q A cells slots 4 Q 1731 [(0, gR 300), (1, gR 0), (2, gR 200), (3, gI i)] [] M2) : G p l e room_1 s m #[Value.ref b] below meth c D cy q A cells slots 4 Q 1129 [(0, gR 300), (1, gR 0), (2, gR 200), (3, gI i)] [] M := by
  refine g_aloadn (pc := 1129) (i := 1) (x := 0) hK dd_L_law_1129 rfl rfl ?_
  refine g_aloadn (pc := 1130) (i := 0) (x := 300) hK dd_L_law_1130 rfl rfl ?_
  refine g_iloadn (pc := 1131) (i := 3) (x := i) hK dd_L_law_1131 rfl rfl ?_
  refine g_iconst (pc := 1132) (x := 1) hK dd_L_law_1132 (by decide) ?_
  refine g_iadd (pc := 1133) (z := i + 1) hK dd_L_law_1133 rfl ?_
  refine g_scr (pc := 1134) hK hX hbl hbA hq hLn dd_L_law_1134 (by omega) (by omega) ?_
  refine g_aloadn (pc := 1135) (i := 0) (x := 300) hK dd_L_law_1135 rfl rfl ?_
  refine g_iloadn (pc := 1136) (i := 3) (x := i) hK dd_L_law_1136 rfl rfl ?_
  refine g_iconst (pc := 1137) (x := 2) hK dd_L_law_1137 (by decide) ?_
  refine g_iadd (pc := 1138) (z := i + 2) hK dd_L_law_1138 rfl ?_
  refine g_scr (pc := 1139) hK hX hbl hbA hq hLn dd_L_law_1139 (by omega) (by omega) ?_
  refine g_callV (pc := 1140) (As := [gI ((xs (i + 1).toNat).toInt), gI ((xs (i + 2).toNat).toInt)]) hK ws_L_120 md_X11_takes hcs ⟨by decide, by decide⟩ (kdm kd_0) rfl rfl dd_L_law_1140 rfl rfl (Nat.le_of_ble_eq_true rfl) (p_takes hR hn ((xs (i + 1).toNat).toInt) ((xs (i + 2).toNat).toInt) (i32_in _) (i32_in _) (fun r1 M1 hf1 hk1 => ?_))
  refine g_r1 ?_
  refine g_aloadn (pc := 1143) (i := 2) (x := 200) hK dd_L_law_1143 rfl rfl ?_
  refine g_aloadn (pc := 1144) (i := 0) (x := 300) hK dd_L_law_1144 rfl rfl ?_
  refine g_iloadn (pc := 1145) (i := 3) (x := i) hK dd_L_law_1145 rfl rfl ?_
  refine g_iconst (pc := 1146) (x := 1) hK dd_L_law_1146 (by decide) ?_
  refine g_iadd (pc := 1147) (z := i + 1) hK dd_L_law_1147 rfl ?_
  refine g_scr (pc := 1148) hK hX hbl hbA hq hLn dd_L_law_1148 (by omega) (by omega) ?_
  refine g_aloadn (pc := 1149) (i := 0) (x := 300) hK dd_L_law_1149 rfl rfl ?_
  refine g_iloadn (pc := 1150) (i := 3) (x := i) hK dd_L_law_1150 rfl rfl ?_
  refine g_iconst (pc := 1151) (x := 2) hK dd_L_law_1151 (by decide) ?_
  refine g_iadd (pc := 1152) (z := i + 2) hK dd_L_law_1152 rfl ?_
  refine g_scr (pc := 1153) hK hX hbl hbA hq hLn dd_L_law_1153 (by omega) (by omega) ?_
  refine g_callV (pc := 1154) (As := [gI ((xs (i + 1).toNat).toInt), gI ((xs (i + 2).toNat).toInt)]) hK ws_L_123 md_X12_takes hcs ⟨by decide, by decide⟩ (kdm kd_200) rfl rfl dd_L_law_1154 rfl rfl (Nat.le_of_ble_eq_true rfl) (hk1 _ (fun M2 hR2 hf2 => ?_))
  refine g_r1 ?_
  refine g_same (pc := 1157) (tgt := 1731) hK dd_L_law_1157 (by decide) ?_
  exact kont M2 hR2 hf2
set_option maxHeartbeats 1000000 in
set_option maxRecDepth 100000 in
theorem lw_c25 {p : Program} {l : Launch} {e : Env} {s : State} {m : MethodId} {below : List Frame} {meth : Method} {c : Code} {D : va_G} {cy : Nat → ClassId} {q : Nat → Nat} {A : Nat → Prop} {cells slots b Ln nn : Nat} {xs : Nat → Int32} {i : Int} {Q : State → Prop} {M : Mem} (hK : OK p s m #[Value.ref b] c D cy q A 4 code "WhiteElephantsLaw") (hX : va_X b Ln xs s s.heap) (hbl : b < s.heap.size) (hbA : ¬ A b) (hq : q 300 = b) (hLn : Ln ≤ 1000000) (hcs : cells ≤ 600000 ∧ slots ≤ 7302250) (hR : Rel nn M M) (hn : nn ≤ 512) (hi : 0 ≤ i ∧ i + 6 ≤ Ln) (kont : ∀ M2 : Mem, Rel (nn + 1) M2 M2 → M2 200 50 = M 200 50 → G p l e room_1 s m #[Value.ref b] below meth c D cy q A cells slots 4 Q 1731 [(0, gR 300), (1, gR 0), (2, gR 200), (3, gI i)] [] M2) : G p l e room_1 s m #[Value.ref b] below meth c D cy q A cells slots 4 Q 1162 [(0, gR 300), (1, gR 0), (2, gR 200), (3, gI i)] [] M := by
  refine g_aloadn (pc := 1162) (i := 1) (x := 0) hK dd_L_law_1162 rfl rfl ?_
  refine g_aloadn (pc := 1163) (i := 0) (x := 300) hK dd_L_law_1163 rfl rfl ?_
  refine g_iloadn (pc := 1164) (i := 3) (x := i) hK dd_L_law_1164 rfl rfl ?_
  refine g_iconst (pc := 1165) (x := 1) hK dd_L_law_1165 (by decide) ?_
  refine g_iadd (pc := 1166) (z := i + 1) hK dd_L_law_1166 rfl ?_
  refine g_scr (pc := 1167) hK hX hbl hbA hq hLn dd_L_law_1167 (by omega) (by omega) ?_
  refine g_aloadn (pc := 1168) (i := 0) (x := 300) hK dd_L_law_1168 rfl rfl ?_
  refine g_iloadn (pc := 1169) (i := 3) (x := i) hK dd_L_law_1169 rfl rfl ?_
  refine g_iconst (pc := 1170) (x := 2) hK dd_L_law_1170 (by decide) ?_
  refine g_iadd (pc := 1171) (z := i + 2) hK dd_L_law_1171 rfl ?_
  refine g_scr (pc := 1172) hK hX hbl hbA hq hLn dd_L_law_1172 (by omega) (by omega) ?_
  refine g_callV (pc := 1173) (As := [gI ((xs (i + 1).toNat).toInt), gI ((xs (i + 2).toNat).toInt)]) hK ws_L_124 md_X11_takings hcs ⟨by decide, by decide⟩ (kdm kd_0) rfl rfl dd_L_law_1173 rfl rfl (Nat.le_of_ble_eq_true rfl) (p_takings hR hn ((xs (i + 1).toNat).toInt) ((xs (i + 2).toNat).toInt) (i32_in _) (i32_in _) (fun r1 M1 hf1 hk1 => ?_))
  refine g_r1 ?_
  refine g_aloadn (pc := 1176) (i := 2) (x := 200) hK dd_L_law_1176 rfl rfl ?_
  refine g_aloadn (pc := 1177) (i := 0) (x := 300) hK dd_L_law_1177 rfl rfl ?_
  refine g_iloadn (pc := 1178) (i := 3) (x := i) hK dd_L_law_1178 rfl rfl ?_
  refine g_iconst (pc := 1179) (x := 1) hK dd_L_law_1179 (by decide) ?_
  refine g_iadd (pc := 1180) (z := i + 1) hK dd_L_law_1180 rfl ?_
  refine g_scr (pc := 1181) hK hX hbl hbA hq hLn dd_L_law_1181 (by omega) (by omega) ?_
  refine g_aloadn (pc := 1182) (i := 0) (x := 300) hK dd_L_law_1182 rfl rfl ?_
  refine g_iloadn (pc := 1183) (i := 3) (x := i) hK dd_L_law_1183 rfl rfl ?_
  refine g_iconst (pc := 1184) (x := 2) hK dd_L_law_1184 (by decide) ?_
  refine g_iadd (pc := 1185) (z := i + 2) hK dd_L_law_1185 rfl ?_
  refine g_scr (pc := 1186) hK hX hbl hbA hq hLn dd_L_law_1186 (by omega) (by omega) ?_
  refine g_callV (pc := 1187) (As := [gI ((xs (i + 1).toNat).toInt), gI ((xs (i + 2).toNat).toInt)]) hK ws_L_127 md_X12_takings hcs ⟨by decide, by decide⟩ (kdm kd_200) rfl rfl dd_L_law_1187 rfl rfl (Nat.le_of_ble_eq_true rfl) (hk1 _ (fun M2 hR2 hf2 => ?_))
  refine g_r1 ?_
  refine g_same (pc := 1190) (tgt := 1731) hK dd_L_law_1190 (by decide) ?_
  exact kont M2 hR2 hf2
set_option maxHeartbeats 1000000 in
set_option maxRecDepth 100000 in
theorem lw_c26 {p : Program} {l : Launch} {e : Env} {s : State} {m : MethodId} {below : List Frame} {meth : Method} {c : Code} {D : va_G} {cy : Nat → ClassId} {q : Nat → Nat} {A : Nat → Prop} {cells slots b Ln nn : Nat} {xs : Nat → Int32} {i : Int} {Q : State → Prop} {M : Mem} (hK : OK p s m #[Value.ref b] c D cy q A 4 code "WhiteElephantsLaw") (hX : va_X b Ln xs s s.heap) (hbl : b < s.heap.size) (hbA : ¬ A b) (hq : q 300 = b) (hLn : Ln ≤ 1000000) (hcs : cells ≤ 600000 ∧ slots ≤ 7302250) (hR : Rel nn M M) (hn : nn ≤ 512) (hi : 0 ≤ i ∧ i + 6 ≤ Ln) (kont : ∀ M2 : Mem, Rel (nn + 1) M2 M2 → M2 200 50 = M 200 50 → G p l e room_1 s m #[Value.ref b] below meth c D cy q A cells slots 4 Q 1731 [(0, gR 300), (1, gR 0), (2, gR 200), (3, gI i)] [] M2) : G p l e room_1 s m #[Value.ref b] below meth c D cy q A cells slots 4 Q 1195 [(0, gR 300), (1, gR 0), (2, gR 200), (3, gI i)] [] M := by
  refine g_aloadn (pc := 1195) (i := 1) (x := 0) hK dd_L_law_1195 rfl rfl ?_
  refine g_callV (pc := 1196) (As := []) hK ws_L_128 md_X11_best hcs ⟨by decide, by decide⟩ (kdm kd_0) rfl rfl dd_L_law_1196 rfl rfl (Nat.le_of_ble_eq_true rfl) (p_best hR hn   (fun r1 M1 hf1 hk1 => ?_))
  refine g_r1 ?_
  refine g_aloadn (pc := 1199) (i := 2) (x := 200) hK dd_L_law_1199 rfl rfl ?_
  refine g_callV (pc := 1200) (As := []) hK ws_L_131 md_X12_best hcs ⟨by decide, by decide⟩ (kdm kd_200) rfl rfl dd_L_law_1200 rfl rfl (Nat.le_of_ble_eq_true rfl) (hk1 _ (fun M2 hR2 hf2 => ?_))
  refine g_r1 ?_
  refine g_same (pc := 1203) (tgt := 1731) hK dd_L_law_1203 (by decide) ?_
  exact kont M2 hR2 hf2
set_option maxHeartbeats 1000000 in
set_option maxRecDepth 100000 in
theorem lw_c27 {p : Program} {l : Launch} {e : Env} {s : State} {m : MethodId} {below : List Frame} {meth : Method} {c : Code} {D : va_G} {cy : Nat → ClassId} {q : Nat → Nat} {A : Nat → Prop} {cells slots b Ln nn : Nat} {xs : Nat → Int32} {i : Int} {Q : State → Prop} {M : Mem} (hK : OK p s m #[Value.ref b] c D cy q A 4 code "WhiteElephantsLaw") (hX : va_X b Ln xs s s.heap) (hbl : b < s.heap.size) (hbA : ¬ A b) (hq : q 300 = b) (hLn : Ln ≤ 1000000) (hcs : cells ≤ 600000 ∧ slots ≤ 7302250) (hR : Rel nn M M) (hn : nn ≤ 512) (hi : 0 ≤ i ∧ i + 6 ≤ Ln) (kont : ∀ M2 : Mem, Rel (nn + 1) M2 M2 → M2 200 50 = M 200 50 → G p l e room_1 s m #[Value.ref b] below meth c D cy q A cells slots 4 Q 1731 [(0, gR 300), (1, gR 0), (2, gR 200), (3, gI i)] [] M2) : G p l e room_1 s m #[Value.ref b] below meth c D cy q A cells slots 4 Q 1208 [(0, gR 300), (1, gR 0), (2, gR 200), (3, gI i)] [] M := by
  refine g_aloadn (pc := 1208) (i := 1) (x := 0) hK dd_L_law_1208 rfl rfl ?_
  refine g_aloadn (pc := 1209) (i := 0) (x := 300) hK dd_L_law_1209 rfl rfl ?_
  refine g_iloadn (pc := 1210) (i := 3) (x := i) hK dd_L_law_1210 rfl rfl ?_
  refine g_iconst (pc := 1211) (x := 1) hK dd_L_law_1211 (by decide) ?_
  refine g_iadd (pc := 1212) (z := i + 1) hK dd_L_law_1212 rfl ?_
  refine g_scr (pc := 1213) hK hX hbl hbA hq hLn dd_L_law_1213 (by omega) (by omega) ?_
  refine g_callV (pc := 1214) (As := [gI ((xs (i + 1).toNat).toInt)]) hK ws_L_132 md_X11_judge hcs ⟨by decide, by decide⟩ (kdm kd_0) rfl rfl dd_L_law_1214 rfl rfl (Nat.le_of_ble_eq_true rfl) (p_judge hR hn ((xs (i + 1).toNat).toInt) (i32_in _) (fun r1 M1 hf1 hk1 => ?_))
  refine g_r1 ?_
  refine g_aloadn (pc := 1217) (i := 2) (x := 200) hK dd_L_law_1217 rfl rfl ?_
  refine g_aloadn (pc := 1218) (i := 0) (x := 300) hK dd_L_law_1218 rfl rfl ?_
  refine g_iloadn (pc := 1219) (i := 3) (x := i) hK dd_L_law_1219 rfl rfl ?_
  refine g_iconst (pc := 1220) (x := 1) hK dd_L_law_1220 (by decide) ?_
  refine g_iadd (pc := 1221) (z := i + 1) hK dd_L_law_1221 rfl ?_
  refine g_scr (pc := 1222) hK hX hbl hbA hq hLn dd_L_law_1222 (by omega) (by omega) ?_
  refine g_callV (pc := 1223) (As := [gI ((xs (i + 1).toNat).toInt)]) hK ws_L_135 md_X12_judge hcs ⟨by decide, by decide⟩ (kdm kd_200) rfl rfl dd_L_law_1223 rfl rfl (Nat.le_of_ble_eq_true rfl) (hk1 _ (fun M2 hR2 hf2 => ?_))
  refine g_r1 ?_
  refine g_same (pc := 1226) (tgt := 1731) hK dd_L_law_1226 (by decide) ?_
  exact kont M2 hR2 hf2
set_option maxHeartbeats 1000000 in
set_option maxRecDepth 100000 in
theorem lw_c28 {p : Program} {l : Launch} {e : Env} {s : State} {m : MethodId} {below : List Frame} {meth : Method} {c : Code} {D : va_G} {cy : Nat → ClassId} {q : Nat → Nat} {A : Nat → Prop} {cells slots b Ln nn : Nat} {xs : Nat → Int32} {i : Int} {Q : State → Prop} {M : Mem} (hK : OK p s m #[Value.ref b] c D cy q A 4 code "WhiteElephantsLaw") (hX : va_X b Ln xs s s.heap) (hbl : b < s.heap.size) (hbA : ¬ A b) (hq : q 300 = b) (hLn : Ln ≤ 1000000) (hcs : cells ≤ 600000 ∧ slots ≤ 7302250) (hR : Rel nn M M) (hn : nn ≤ 512) (hi : 0 ≤ i ∧ i + 6 ≤ Ln) (kont : ∀ M2 : Mem, Rel (nn + 1) M2 M2 → M2 200 50 = M 200 50 → G p l e room_1 s m #[Value.ref b] below meth c D cy q A cells slots 4 Q 1731 [(0, gR 300), (1, gR 0), (2, gR 200), (3, gI i)] [] M2) : G p l e room_1 s m #[Value.ref b] below meth c D cy q A cells slots 4 Q 1231 [(0, gR 300), (1, gR 0), (2, gR 200), (3, gI i)] [] M := by
  refine g_aloadn (pc := 1231) (i := 1) (x := 0) hK dd_L_law_1231 rfl rfl ?_
  refine g_aloadn (pc := 1232) (i := 0) (x := 300) hK dd_L_law_1232 rfl rfl ?_
  refine g_iloadn (pc := 1233) (i := 3) (x := i) hK dd_L_law_1233 rfl rfl ?_
  refine g_iconst (pc := 1234) (x := 1) hK dd_L_law_1234 (by decide) ?_
  refine g_iadd (pc := 1235) (z := i + 1) hK dd_L_law_1235 rfl ?_
  refine g_scr (pc := 1236) hK hX hbl hbA hq hLn dd_L_law_1236 (by omega) (by omega) ?_
  refine g_callV (pc := 1237) (As := [gI ((xs (i + 1).toNat).toInt)]) hK ws_L_136 md_X11_rest hcs ⟨by decide, by decide⟩ (kdm kd_0) rfl rfl dd_L_law_1237 rfl rfl (Nat.le_of_ble_eq_true rfl) (p_rest hR hn ((xs (i + 1).toNat).toInt) (i32_in _) (fun r1 M1 hf1 hk1 => ?_))
  refine g_r1 ?_
  refine g_aloadn (pc := 1240) (i := 2) (x := 200) hK dd_L_law_1240 rfl rfl ?_
  refine g_aloadn (pc := 1241) (i := 0) (x := 300) hK dd_L_law_1241 rfl rfl ?_
  refine g_iloadn (pc := 1242) (i := 3) (x := i) hK dd_L_law_1242 rfl rfl ?_
  refine g_iconst (pc := 1243) (x := 1) hK dd_L_law_1243 (by decide) ?_
  refine g_iadd (pc := 1244) (z := i + 1) hK dd_L_law_1244 rfl ?_
  refine g_scr (pc := 1245) hK hX hbl hbA hq hLn dd_L_law_1245 (by omega) (by omega) ?_
  refine g_callV (pc := 1246) (As := [gI ((xs (i + 1).toNat).toInt)]) hK ws_L_139 md_X12_rest hcs ⟨by decide, by decide⟩ (kdm kd_200) rfl rfl dd_L_law_1246 rfl rfl (Nat.le_of_ble_eq_true rfl) (hk1 _ (fun M2 hR2 hf2 => ?_))
  refine g_r1 ?_
  refine g_same (pc := 1249) (tgt := 1731) hK dd_L_law_1249 (by decide) ?_
  exact kont M2 hR2 hf2
set_option maxHeartbeats 1000000 in
set_option maxRecDepth 100000 in
theorem lw_c29 {p : Program} {l : Launch} {e : Env} {s : State} {m : MethodId} {below : List Frame} {meth : Method} {c : Code} {D : va_G} {cy : Nat → ClassId} {q : Nat → Nat} {A : Nat → Prop} {cells slots b Ln nn : Nat} {xs : Nat → Int32} {i : Int} {Q : State → Prop} {M : Mem} (hK : OK p s m #[Value.ref b] c D cy q A 4 code "WhiteElephantsLaw") (hX : va_X b Ln xs s s.heap) (hbl : b < s.heap.size) (hbA : ¬ A b) (hq : q 300 = b) (hLn : Ln ≤ 1000000) (hcs : cells ≤ 600000 ∧ slots ≤ 7302250) (hR : Rel nn M M) (hn : nn ≤ 512) (hi : 0 ≤ i ∧ i + 6 ≤ Ln) (kont : ∀ M2 : Mem, Rel (nn + 1) M2 M2 → M2 200 50 = M 200 50 → G p l e room_1 s m #[Value.ref b] below meth c D cy q A cells slots 4 Q 1731 [(0, gR 300), (1, gR 0), (2, gR 200), (3, gI i)] [] M2) : G p l e room_1 s m #[Value.ref b] below meth c D cy q A cells slots 4 Q 1254 [(0, gR 300), (1, gR 0), (2, gR 200), (3, gI i)] [] M := by
  refine g_aloadn (pc := 1254) (i := 1) (x := 0) hK dd_L_law_1254 rfl rfl ?_
  refine g_aloadn (pc := 1255) (i := 0) (x := 300) hK dd_L_law_1255 rfl rfl ?_
  refine g_iloadn (pc := 1256) (i := 3) (x := i) hK dd_L_law_1256 rfl rfl ?_
  refine g_iconst (pc := 1257) (x := 1) hK dd_L_law_1257 (by decide) ?_
  refine g_iadd (pc := 1258) (z := i + 1) hK dd_L_law_1258 rfl ?_
  refine g_scr (pc := 1259) hK hX hbl hbA hq hLn dd_L_law_1259 (by omega) (by omega) ?_
  refine g_aloadn (pc := 1260) (i := 0) (x := 300) hK dd_L_law_1260 rfl rfl ?_
  refine g_iloadn (pc := 1261) (i := 3) (x := i) hK dd_L_law_1261 rfl rfl ?_
  refine g_iconst (pc := 1262) (x := 2) hK dd_L_law_1262 (by decide) ?_
  refine g_iadd (pc := 1263) (z := i + 2) hK dd_L_law_1263 rfl ?_
  refine g_scr (pc := 1264) hK hX hbl hbA hq hLn dd_L_law_1264 (by omega) (by omega) ?_
  refine g_callV (pc := 1265) (As := [gI ((xs (i + 1).toNat).toInt), gI ((xs (i + 2).toNat).toInt)]) hK ws_L_140 md_X11_loses hcs ⟨by decide, by decide⟩ (kdm kd_0) rfl rfl dd_L_law_1265 rfl rfl (Nat.le_of_ble_eq_true rfl) (p_loses hR hn ((xs (i + 1).toNat).toInt) ((xs (i + 2).toNat).toInt) (i32_in _) (i32_in _) (fun r1 M1 hf1 hk1 => ?_))
  refine g_r1 ?_
  refine g_aloadn (pc := 1268) (i := 2) (x := 200) hK dd_L_law_1268 rfl rfl ?_
  refine g_aloadn (pc := 1269) (i := 0) (x := 300) hK dd_L_law_1269 rfl rfl ?_
  refine g_iloadn (pc := 1270) (i := 3) (x := i) hK dd_L_law_1270 rfl rfl ?_
  refine g_iconst (pc := 1271) (x := 1) hK dd_L_law_1271 (by decide) ?_
  refine g_iadd (pc := 1272) (z := i + 1) hK dd_L_law_1272 rfl ?_
  refine g_scr (pc := 1273) hK hX hbl hbA hq hLn dd_L_law_1273 (by omega) (by omega) ?_
  refine g_aloadn (pc := 1274) (i := 0) (x := 300) hK dd_L_law_1274 rfl rfl ?_
  refine g_iloadn (pc := 1275) (i := 3) (x := i) hK dd_L_law_1275 rfl rfl ?_
  refine g_iconst (pc := 1276) (x := 2) hK dd_L_law_1276 (by decide) ?_
  refine g_iadd (pc := 1277) (z := i + 2) hK dd_L_law_1277 rfl ?_
  refine g_scr (pc := 1278) hK hX hbl hbA hq hLn dd_L_law_1278 (by omega) (by omega) ?_
  refine g_callV (pc := 1279) (As := [gI ((xs (i + 1).toNat).toInt), gI ((xs (i + 2).toNat).toInt)]) hK ws_L_143 md_X12_loses hcs ⟨by decide, by decide⟩ (kdm kd_200) rfl rfl dd_L_law_1279 rfl rfl (Nat.le_of_ble_eq_true rfl) (hk1 _ (fun M2 hR2 hf2 => ?_))
  refine g_r1 ?_
  refine g_same (pc := 1282) (tgt := 1731) hK dd_L_law_1282 (by decide) ?_
  exact kont M2 hR2 hf2
set_option maxHeartbeats 1000000 in
set_option maxRecDepth 100000 in
theorem lw_c30 {p : Program} {l : Launch} {e : Env} {s : State} {m : MethodId} {below : List Frame} {meth : Method} {c : Code} {D : va_G} {cy : Nat → ClassId} {q : Nat → Nat} {A : Nat → Prop} {cells slots b Ln nn : Nat} {xs : Nat → Int32} {i : Int} {Q : State → Prop} {M : Mem} (hK : OK p s m #[Value.ref b] c D cy q A 4 code "WhiteElephantsLaw") (hX : va_X b Ln xs s s.heap) (hbl : b < s.heap.size) (hbA : ¬ A b) (hq : q 300 = b) (hLn : Ln ≤ 1000000) (hcs : cells ≤ 600000 ∧ slots ≤ 7302250) (hR : Rel nn M M) (hn : nn ≤ 512) (hi : 0 ≤ i ∧ i + 6 ≤ Ln) (kont : ∀ M2 : Mem, Rel (nn + 1) M2 M2 → M2 200 50 = M 200 50 → G p l e room_1 s m #[Value.ref b] below meth c D cy q A cells slots 4 Q 1731 [(0, gR 300), (1, gR 0), (2, gR 200), (3, gI i)] [] M2) : G p l e room_1 s m #[Value.ref b] below meth c D cy q A cells slots 4 Q 1287 [(0, gR 300), (1, gR 0), (2, gR 200), (3, gI i)] [] M := by
  refine g_aloadn (pc := 1287) (i := 1) (x := 0) hK dd_L_law_1287 rfl rfl ?_
  refine g_aloadn (pc := 1288) (i := 0) (x := 300) hK dd_L_law_1288 rfl rfl ?_
  refine g_iloadn (pc := 1289) (i := 3) (x := i) hK dd_L_law_1289 rfl rfl ?_
  refine g_iconst (pc := 1290) (x := 1) hK dd_L_law_1290 (by decide) ?_
  refine g_iadd (pc := 1291) (z := i + 1) hK dd_L_law_1291 rfl ?_
  refine g_scr (pc := 1292) hK hX hbl hbA hq hLn dd_L_law_1292 (by omega) (by omega) ?_
  refine g_callV (pc := 1293) (As := [gI ((xs (i + 1).toNat).toInt)]) hK ws_L_144 md_X11_go hcs ⟨by decide, by decide⟩ (kdm kd_0) rfl rfl dd_L_law_1293 rfl rfl (Nat.le_of_ble_eq_true rfl) (p_go hR hn ((xs (i + 1).toNat).toInt) (i32_in _) (fun r1 M1 hf1 hk1 => ?_))
  refine g_r1 ?_
  refine g_aloadn (pc := 1296) (i := 2) (x := 200) hK dd_L_law_1296 rfl rfl ?_
  refine g_aloadn (pc := 1297) (i := 0) (x := 300) hK dd_L_law_1297 rfl rfl ?_
  refine g_iloadn (pc := 1298) (i := 3) (x := i) hK dd_L_law_1298 rfl rfl ?_
  refine g_iconst (pc := 1299) (x := 1) hK dd_L_law_1299 (by decide) ?_
  refine g_iadd (pc := 1300) (z := i + 1) hK dd_L_law_1300 rfl ?_
  refine g_scr (pc := 1301) hK hX hbl hbA hq hLn dd_L_law_1301 (by omega) (by omega) ?_
  refine g_callV (pc := 1302) (As := [gI ((xs (i + 1).toNat).toInt)]) hK ws_L_147 md_X12_go hcs ⟨by decide, by decide⟩ (kdm kd_200) rfl rfl dd_L_law_1302 rfl rfl (Nat.le_of_ble_eq_true rfl) (hk1 _ (fun M2 hR2 hf2 => ?_))
  refine g_r1 ?_
  refine g_same (pc := 1305) (tgt := 1731) hK dd_L_law_1305 (by decide) ?_
  exact kont M2 hR2 hf2
set_option maxHeartbeats 1000000 in
set_option maxRecDepth 100000 in
theorem lw_c31 {p : Program} {l : Launch} {e : Env} {s : State} {m : MethodId} {below : List Frame} {meth : Method} {c : Code} {D : va_G} {cy : Nat → ClassId} {q : Nat → Nat} {A : Nat → Prop} {cells slots b Ln nn : Nat} {xs : Nat → Int32} {i : Int} {Q : State → Prop} {M : Mem} (hK : OK p s m #[Value.ref b] c D cy q A 4 code "WhiteElephantsLaw") (hX : va_X b Ln xs s s.heap) (hbl : b < s.heap.size) (hbA : ¬ A b) (hq : q 300 = b) (hLn : Ln ≤ 1000000) (hcs : cells ≤ 600000 ∧ slots ≤ 7302250) (hR : Rel nn M M) (hn : nn ≤ 512) (hi : 0 ≤ i ∧ i + 6 ≤ Ln) (kont : ∀ M2 : Mem, Rel (nn + 1) M2 M2 → M2 200 50 = M 200 50 → G p l e room_1 s m #[Value.ref b] below meth c D cy q A cells slots 4 Q 1731 [(0, gR 300), (1, gR 0), (2, gR 200), (3, gI i)] [] M2) : G p l e room_1 s m #[Value.ref b] below meth c D cy q A cells slots 4 Q 1310 [(0, gR 300), (1, gR 0), (2, gR 200), (3, gI i)] [] M := by
  refine g_aloadn (pc := 1310) (i := 1) (x := 0) hK dd_L_law_1310 rfl rfl ?_
  refine g_aloadn (pc := 1311) (i := 0) (x := 300) hK dd_L_law_1311 rfl rfl ?_
  refine g_iloadn (pc := 1312) (i := 3) (x := i) hK dd_L_law_1312 rfl rfl ?_
  refine g_iconst (pc := 1313) (x := 1) hK dd_L_law_1313 (by decide) ?_
  refine g_iadd (pc := 1314) (z := i + 1) hK dd_L_law_1314 rfl ?_
  refine g_scr (pc := 1315) hK hX hbl hbA hq hLn dd_L_law_1315 (by omega) (by omega) ?_
  refine g_callV (pc := 1316) (As := [gI ((xs (i + 1).toNat).toInt)]) hK ws_L_148 md_X11_day hcs ⟨by decide, by decide⟩ (kdm kd_0) rfl rfl dd_L_law_1316 rfl rfl (Nat.le_of_ble_eq_true rfl) (p_day hR hn ((xs (i + 1).toNat).toInt) (i32_in _) (fun r1 M1 hf1 hk1 => ?_))
  refine g_r1 ?_
  refine g_aloadn (pc := 1319) (i := 2) (x := 200) hK dd_L_law_1319 rfl rfl ?_
  refine g_aloadn (pc := 1320) (i := 0) (x := 300) hK dd_L_law_1320 rfl rfl ?_
  refine g_iloadn (pc := 1321) (i := 3) (x := i) hK dd_L_law_1321 rfl rfl ?_
  refine g_iconst (pc := 1322) (x := 1) hK dd_L_law_1322 (by decide) ?_
  refine g_iadd (pc := 1323) (z := i + 1) hK dd_L_law_1323 rfl ?_
  refine g_scr (pc := 1324) hK hX hbl hbA hq hLn dd_L_law_1324 (by omega) (by omega) ?_
  refine g_callV (pc := 1325) (As := [gI ((xs (i + 1).toNat).toInt)]) hK ws_L_151 md_X12_day hcs ⟨by decide, by decide⟩ (kdm kd_200) rfl rfl dd_L_law_1325 rfl rfl (Nat.le_of_ble_eq_true rfl) (hk1 _ (fun M2 hR2 hf2 => ?_))
  refine g_r1 ?_
  refine g_same (pc := 1328) (tgt := 1731) hK dd_L_law_1328 (by decide) ?_
  exact kont M2 hR2 hf2
set_option maxHeartbeats 1000000 in
set_option maxRecDepth 100000 in
theorem lw_c32 {p : Program} {l : Launch} {e : Env} {s : State} {m : MethodId} {below : List Frame} {meth : Method} {c : Code} {D : va_G} {cy : Nat → ClassId} {q : Nat → Nat} {A : Nat → Prop} {cells slots b Ln nn : Nat} {xs : Nat → Int32} {i : Int} {Q : State → Prop} {M : Mem} (hK : OK p s m #[Value.ref b] c D cy q A 4 code "WhiteElephantsLaw") (hX : va_X b Ln xs s s.heap) (hbl : b < s.heap.size) (hbA : ¬ A b) (hq : q 300 = b) (hLn : Ln ≤ 1000000) (hcs : cells ≤ 600000 ∧ slots ≤ 7302250) (hR : Rel nn M M) (hn : nn ≤ 512) (hi : 0 ≤ i ∧ i + 6 ≤ Ln) (kont : ∀ M2 : Mem, Rel (nn + 1) M2 M2 → M2 200 50 = M 200 50 → G p l e room_1 s m #[Value.ref b] below meth c D cy q A cells slots 4 Q 1731 [(0, gR 300), (1, gR 0), (2, gR 200), (3, gI i)] [] M2) : G p l e room_1 s m #[Value.ref b] below meth c D cy q A cells slots 4 Q 1333 [(0, gR 300), (1, gR 0), (2, gR 200), (3, gI i)] [] M := by
  refine g_aloadn (pc := 1333) (i := 1) (x := 0) hK dd_L_law_1333 rfl rfl ?_
  refine g_callV (pc := 1334) (As := []) hK ws_L_152 md_X11_morning hcs ⟨by decide, by decide⟩ (kdm kd_0) rfl rfl dd_L_law_1334 rfl rfl (Nat.le_of_ble_eq_true rfl) (p_morning hR hn   (fun r1 M1 hf1 hk1 => ?_))
  refine g_r1 ?_
  refine g_aloadn (pc := 1337) (i := 2) (x := 200) hK dd_L_law_1337 rfl rfl ?_
  refine g_callV (pc := 1338) (As := []) hK ws_L_155 md_X12_morning hcs ⟨by decide, by decide⟩ (kdm kd_200) rfl rfl dd_L_law_1338 rfl rfl (Nat.le_of_ble_eq_true rfl) (hk1 _ (fun M2 hR2 hf2 => ?_))
  refine g_r1 ?_
  refine g_same (pc := 1341) (tgt := 1731) hK dd_L_law_1341 (by decide) ?_
  exact kont M2 hR2 hf2
set_option maxHeartbeats 1000000 in
set_option maxRecDepth 100000 in
theorem lw_c33 {p : Program} {l : Launch} {e : Env} {s : State} {m : MethodId} {below : List Frame} {meth : Method} {c : Code} {D : va_G} {cy : Nat → ClassId} {q : Nat → Nat} {A : Nat → Prop} {cells slots b Ln nn : Nat} {xs : Nat → Int32} {i : Int} {Q : State → Prop} {M : Mem} (hK : OK p s m #[Value.ref b] c D cy q A 4 code "WhiteElephantsLaw") (hX : va_X b Ln xs s s.heap) (hbl : b < s.heap.size) (hbA : ¬ A b) (hq : q 300 = b) (hLn : Ln ≤ 1000000) (hcs : cells ≤ 600000 ∧ slots ≤ 7302250) (hR : Rel nn M M) (hn : nn ≤ 512) (hi : 0 ≤ i ∧ i + 6 ≤ Ln) (kont : ∀ M2 : Mem, Rel (nn + 1) M2 M2 → M2 200 50 = M 200 50 → G p l e room_1 s m #[Value.ref b] below meth c D cy q A cells slots 4 Q 1731 [(0, gR 300), (1, gR 0), (2, gR 200), (3, gI i)] [] M2) : G p l e room_1 s m #[Value.ref b] below meth c D cy q A cells slots 4 Q 1346 [(0, gR 300), (1, gR 0), (2, gR 200), (3, gI i)] [] M := by
  refine g_aloadn (pc := 1346) (i := 1) (x := 0) hK dd_L_law_1346 rfl rfl ?_
  refine g_aloadn (pc := 1347) (i := 0) (x := 300) hK dd_L_law_1347 rfl rfl ?_
  refine g_iloadn (pc := 1348) (i := 3) (x := i) hK dd_L_law_1348 rfl rfl ?_
  refine g_iconst (pc := 1349) (x := 1) hK dd_L_law_1349 (by decide) ?_
  refine g_iadd (pc := 1350) (z := i + 1) hK dd_L_law_1350 rfl ?_
  refine g_scr (pc := 1351) hK hX hbl hbA hq hLn dd_L_law_1351 (by omega) (by omega) ?_
  refine g_callV (pc := 1352) (As := [gI ((xs (i + 1).toNat).toInt)]) hK ws_L_156 md_X11_shown hcs ⟨by decide, by decide⟩ (kdm kd_0) rfl rfl dd_L_law_1352 rfl rfl (Nat.le_of_ble_eq_true rfl) (p_shown hR hn ((xs (i + 1).toNat).toInt) (i32_in _) (fun r1 M1 hf1 hk1 => ?_))
  refine g_r1 ?_
  refine g_aloadn (pc := 1355) (i := 2) (x := 200) hK dd_L_law_1355 rfl rfl ?_
  refine g_aloadn (pc := 1356) (i := 0) (x := 300) hK dd_L_law_1356 rfl rfl ?_
  refine g_iloadn (pc := 1357) (i := 3) (x := i) hK dd_L_law_1357 rfl rfl ?_
  refine g_iconst (pc := 1358) (x := 1) hK dd_L_law_1358 (by decide) ?_
  refine g_iadd (pc := 1359) (z := i + 1) hK dd_L_law_1359 rfl ?_
  refine g_scr (pc := 1360) hK hX hbl hbA hq hLn dd_L_law_1360 (by omega) (by omega) ?_
  refine g_callV (pc := 1361) (As := [gI ((xs (i + 1).toNat).toInt)]) hK ws_L_159 md_X12_shown hcs ⟨by decide, by decide⟩ (kdm kd_200) rfl rfl dd_L_law_1361 rfl rfl (Nat.le_of_ble_eq_true rfl) (hk1 _ (fun M2 hR2 hf2 => ?_))
  refine g_r1 ?_
  refine g_same (pc := 1364) (tgt := 1731) hK dd_L_law_1364 (by decide) ?_
  exact kont M2 hR2 hf2
set_option maxHeartbeats 1000000 in
set_option maxRecDepth 100000 in
theorem lw_c34 {p : Program} {l : Launch} {e : Env} {s : State} {m : MethodId} {below : List Frame} {meth : Method} {c : Code} {D : va_G} {cy : Nat → ClassId} {q : Nat → Nat} {A : Nat → Prop} {cells slots b Ln nn : Nat} {xs : Nat → Int32} {i : Int} {Q : State → Prop} {M : Mem} (hK : OK p s m #[Value.ref b] c D cy q A 4 code "WhiteElephantsLaw") (hX : va_X b Ln xs s s.heap) (hbl : b < s.heap.size) (hbA : ¬ A b) (hq : q 300 = b) (hLn : Ln ≤ 1000000) (hcs : cells ≤ 600000 ∧ slots ≤ 7302250) (hR : Rel nn M M) (hn : nn ≤ 512) (hi : 0 ≤ i ∧ i + 6 ≤ Ln) (kont : ∀ M2 : Mem, Rel (nn + 1) M2 M2 → M2 200 50 = M 200 50 → G p l e room_1 s m #[Value.ref b] below meth c D cy q A cells slots 4 Q 1731 [(0, gR 300), (1, gR 0), (2, gR 200), (3, gI i)] [] M2) : G p l e room_1 s m #[Value.ref b] below meth c D cy q A cells slots 4 Q 1369 [(0, gR 300), (1, gR 0), (2, gR 200), (3, gI i)] [] M := by
  refine g_aloadn (pc := 1369) (i := 1) (x := 0) hK dd_L_law_1369 rfl rfl ?_
  refine g_aloadn (pc := 1370) (i := 0) (x := 300) hK dd_L_law_1370 rfl rfl ?_
  refine g_iloadn (pc := 1371) (i := 3) (x := i) hK dd_L_law_1371 rfl rfl ?_
  refine g_iconst (pc := 1372) (x := 1) hK dd_L_law_1372 (by decide) ?_
  refine g_iadd (pc := 1373) (z := i + 1) hK dd_L_law_1373 rfl ?_
  refine g_scr (pc := 1374) hK hX hbl hbA hq hLn dd_L_law_1374 (by omega) (by omega) ?_
  refine g_callV (pc := 1375) (As := [gI ((xs (i + 1).toNat).toInt)]) hK ws_L_160 md_X11_table hcs ⟨by decide, by decide⟩ (kdm kd_0) rfl rfl dd_L_law_1375 rfl rfl (Nat.le_of_ble_eq_true rfl) (p_table hR hn ((xs (i + 1).toNat).toInt) (i32_in _) (fun r1 M1 hf1 hk1 => ?_))
  refine g_r1 ?_
  refine g_aloadn (pc := 1378) (i := 2) (x := 200) hK dd_L_law_1378 rfl rfl ?_
  refine g_aloadn (pc := 1379) (i := 0) (x := 300) hK dd_L_law_1379 rfl rfl ?_
  refine g_iloadn (pc := 1380) (i := 3) (x := i) hK dd_L_law_1380 rfl rfl ?_
  refine g_iconst (pc := 1381) (x := 1) hK dd_L_law_1381 (by decide) ?_
  refine g_iadd (pc := 1382) (z := i + 1) hK dd_L_law_1382 rfl ?_
  refine g_scr (pc := 1383) hK hX hbl hbA hq hLn dd_L_law_1383 (by omega) (by omega) ?_
  refine g_callV (pc := 1384) (As := [gI ((xs (i + 1).toNat).toInt)]) hK ws_L_163 md_X12_table hcs ⟨by decide, by decide⟩ (kdm kd_200) rfl rfl dd_L_law_1384 rfl rfl (Nat.le_of_ble_eq_true rfl) (hk1 _ (fun M2 hR2 hf2 => ?_))
  refine g_r1 ?_
  refine g_same (pc := 1387) (tgt := 1731) hK dd_L_law_1387 (by decide) ?_
  exact kont M2 hR2 hf2
set_option maxHeartbeats 1000000 in
set_option maxRecDepth 100000 in
theorem lw_c35 {p : Program} {l : Launch} {e : Env} {s : State} {m : MethodId} {below : List Frame} {meth : Method} {c : Code} {D : va_G} {cy : Nat → ClassId} {q : Nat → Nat} {A : Nat → Prop} {cells slots b Ln nn : Nat} {xs : Nat → Int32} {i : Int} {Q : State → Prop} {M : Mem} (hK : OK p s m #[Value.ref b] c D cy q A 4 code "WhiteElephantsLaw") (hX : va_X b Ln xs s s.heap) (hbl : b < s.heap.size) (hbA : ¬ A b) (hq : q 300 = b) (hLn : Ln ≤ 1000000) (hcs : cells ≤ 600000 ∧ slots ≤ 7302250) (hR : Rel nn M M) (hn : nn ≤ 512) (hi : 0 ≤ i ∧ i + 6 ≤ Ln) (kont : ∀ M2 : Mem, Rel (nn + 1) M2 M2 → M2 200 50 = M 200 50 → G p l e room_1 s m #[Value.ref b] below meth c D cy q A cells slots 4 Q 1731 [(0, gR 300), (1, gR 0), (2, gR 200), (3, gI i)] [] M2) : G p l e room_1 s m #[Value.ref b] below meth c D cy q A cells slots 4 Q 1392 [(0, gR 300), (1, gR 0), (2, gR 200), (3, gI i)] [] M := by
  refine g_aloadn (pc := 1392) (i := 1) (x := 0) hK dd_L_law_1392 rfl rfl ?_
  refine g_aloadn (pc := 1393) (i := 0) (x := 300) hK dd_L_law_1393 rfl rfl ?_
  refine g_iloadn (pc := 1394) (i := 3) (x := i) hK dd_L_law_1394 rfl rfl ?_
  refine g_iconst (pc := 1395) (x := 1) hK dd_L_law_1395 (by decide) ?_
  refine g_iadd (pc := 1396) (z := i + 1) hK dd_L_law_1396 rfl ?_
  refine g_scr (pc := 1397) hK hX hbl hbA hq hLn dd_L_law_1397 (by omega) (by omega) ?_
  refine g_callV (pc := 1398) (As := [gI ((xs (i + 1).toNat).toInt)]) hK ws_L_164 md_X11_who hcs ⟨by decide, by decide⟩ (kdm kd_0) rfl rfl dd_L_law_1398 rfl rfl (Nat.le_of_ble_eq_true rfl) (p_who hR hn ((xs (i + 1).toNat).toInt) (i32_in _) (fun r1 M1 hf1 hk1 => ?_))
  refine g_r1 ?_
  refine g_aloadn (pc := 1401) (i := 2) (x := 200) hK dd_L_law_1401 rfl rfl ?_
  refine g_aloadn (pc := 1402) (i := 0) (x := 300) hK dd_L_law_1402 rfl rfl ?_
  refine g_iloadn (pc := 1403) (i := 3) (x := i) hK dd_L_law_1403 rfl rfl ?_
  refine g_iconst (pc := 1404) (x := 1) hK dd_L_law_1404 (by decide) ?_
  refine g_iadd (pc := 1405) (z := i + 1) hK dd_L_law_1405 rfl ?_
  refine g_scr (pc := 1406) hK hX hbl hbA hq hLn dd_L_law_1406 (by omega) (by omega) ?_
  refine g_callV (pc := 1407) (As := [gI ((xs (i + 1).toNat).toInt)]) hK ws_L_167 md_X12_who hcs ⟨by decide, by decide⟩ (kdm kd_200) rfl rfl dd_L_law_1407 rfl rfl (Nat.le_of_ble_eq_true rfl) (hk1 _ (fun M2 hR2 hf2 => ?_))
  refine g_r1 ?_
  refine g_same (pc := 1410) (tgt := 1731) hK dd_L_law_1410 (by decide) ?_
  exact kont M2 hR2 hf2
set_option maxHeartbeats 1000000 in
set_option maxRecDepth 100000 in
theorem lw_c36 {p : Program} {l : Launch} {e : Env} {s : State} {m : MethodId} {below : List Frame} {meth : Method} {c : Code} {D : va_G} {cy : Nat → ClassId} {q : Nat → Nat} {A : Nat → Prop} {cells slots b Ln nn : Nat} {xs : Nat → Int32} {i : Int} {Q : State → Prop} {M : Mem} (hK : OK p s m #[Value.ref b] c D cy q A 4 code "WhiteElephantsLaw") (hX : va_X b Ln xs s s.heap) (hbl : b < s.heap.size) (hbA : ¬ A b) (hq : q 300 = b) (hLn : Ln ≤ 1000000) (hcs : cells ≤ 600000 ∧ slots ≤ 7302250) (hR : Rel nn M M) (hn : nn ≤ 512) (hi : 0 ≤ i ∧ i + 6 ≤ Ln) (kont : ∀ M2 : Mem, Rel (nn + 1) M2 M2 → M2 200 50 = M 200 50 → G p l e room_1 s m #[Value.ref b] below meth c D cy q A cells slots 4 Q 1731 [(0, gR 300), (1, gR 0), (2, gR 200), (3, gI i)] [] M2) : G p l e room_1 s m #[Value.ref b] below meth c D cy q A cells slots 4 Q 1415 [(0, gR 300), (1, gR 0), (2, gR 200), (3, gI i)] [] M := by
  refine g_aloadn (pc := 1415) (i := 1) (x := 0) hK dd_L_law_1415 rfl rfl ?_
  refine g_aloadn (pc := 1416) (i := 0) (x := 300) hK dd_L_law_1416 rfl rfl ?_
  refine g_iloadn (pc := 1417) (i := 3) (x := i) hK dd_L_law_1417 rfl rfl ?_
  refine g_iconst (pc := 1418) (x := 1) hK dd_L_law_1418 (by decide) ?_
  refine g_iadd (pc := 1419) (z := i + 1) hK dd_L_law_1419 rfl ?_
  refine g_scr (pc := 1420) hK hX hbl hbA hq hLn dd_L_law_1420 (by omega) (by omega) ?_
  refine g_aloadn (pc := 1421) (i := 0) (x := 300) hK dd_L_law_1421 rfl rfl ?_
  refine g_iloadn (pc := 1422) (i := 3) (x := i) hK dd_L_law_1422 rfl rfl ?_
  refine g_iconst (pc := 1423) (x := 2) hK dd_L_law_1423 (by decide) ?_
  refine g_iadd (pc := 1424) (z := i + 2) hK dd_L_law_1424 rfl ?_
  refine g_scr (pc := 1425) hK hX hbl hbA hq hLn dd_L_law_1425 (by omega) (by omega) ?_
  refine g_aloadn (pc := 1426) (i := 0) (x := 300) hK dd_L_law_1426 rfl rfl ?_
  refine g_iloadn (pc := 1427) (i := 3) (x := i) hK dd_L_law_1427 rfl rfl ?_
  refine g_iconst (pc := 1428) (x := 3) hK dd_L_law_1428 (by decide) ?_
  refine g_iadd (pc := 1429) (z := i + 3) hK dd_L_law_1429 rfl ?_
  refine g_scr (pc := 1430) hK hX hbl hbA hq hLn dd_L_law_1430 (by omega) (by omega) ?_
  refine g_aloadn (pc := 1431) (i := 0) (x := 300) hK dd_L_law_1431 rfl rfl ?_
  refine g_iloadn (pc := 1432) (i := 3) (x := i) hK dd_L_law_1432 rfl rfl ?_
  refine g_iconst (pc := 1433) (x := 4) hK dd_L_law_1433 (by decide) ?_
  refine g_iadd (pc := 1434) (z := i + 4) hK dd_L_law_1434 rfl ?_
  refine g_scr (pc := 1435) hK hX hbl hbA hq hLn dd_L_law_1435 (by omega) (by omega) ?_
  refine g_callV (pc := 1436) (As := [gI ((xs (i + 1).toNat).toInt), gI ((xs (i + 2).toNat).toInt), gI ((xs (i + 3).toNat).toInt), gI ((xs (i + 4).toNat).toInt)]) hK ws_L_168 md_X11_sight hcs ⟨by decide, by decide⟩ (kdm kd_0) rfl rfl dd_L_law_1436 rfl rfl (Nat.le_of_ble_eq_true rfl) (p_sight hR hn ((xs (i + 1).toNat).toInt) ((xs (i + 2).toNat).toInt) ((xs (i + 3).toNat).toInt) ((xs (i + 4).toNat).toInt) (i32_in _) (i32_in _) (i32_in _) (i32_in _) (fun r1 M1 hf1 hk1 => ?_))
  refine g_r1 ?_
  refine g_aloadn (pc := 1439) (i := 2) (x := 200) hK dd_L_law_1439 rfl rfl ?_
  refine g_aloadn (pc := 1440) (i := 0) (x := 300) hK dd_L_law_1440 rfl rfl ?_
  refine g_iloadn (pc := 1441) (i := 3) (x := i) hK dd_L_law_1441 rfl rfl ?_
  refine g_iconst (pc := 1442) (x := 1) hK dd_L_law_1442 (by decide) ?_
  refine g_iadd (pc := 1443) (z := i + 1) hK dd_L_law_1443 rfl ?_
  refine g_scr (pc := 1444) hK hX hbl hbA hq hLn dd_L_law_1444 (by omega) (by omega) ?_
  refine g_aloadn (pc := 1445) (i := 0) (x := 300) hK dd_L_law_1445 rfl rfl ?_
  refine g_iloadn (pc := 1446) (i := 3) (x := i) hK dd_L_law_1446 rfl rfl ?_
  refine g_iconst (pc := 1447) (x := 2) hK dd_L_law_1447 (by decide) ?_
  refine g_iadd (pc := 1448) (z := i + 2) hK dd_L_law_1448 rfl ?_
  refine g_scr (pc := 1449) hK hX hbl hbA hq hLn dd_L_law_1449 (by omega) (by omega) ?_
  refine g_aloadn (pc := 1450) (i := 0) (x := 300) hK dd_L_law_1450 rfl rfl ?_
  refine g_iloadn (pc := 1451) (i := 3) (x := i) hK dd_L_law_1451 rfl rfl ?_
  refine g_iconst (pc := 1452) (x := 3) hK dd_L_law_1452 (by decide) ?_
  refine g_iadd (pc := 1453) (z := i + 3) hK dd_L_law_1453 rfl ?_
  refine g_scr (pc := 1454) hK hX hbl hbA hq hLn dd_L_law_1454 (by omega) (by omega) ?_
  refine g_aloadn (pc := 1455) (i := 0) (x := 300) hK dd_L_law_1455 rfl rfl ?_
  refine g_iloadn (pc := 1456) (i := 3) (x := i) hK dd_L_law_1456 rfl rfl ?_
  refine g_iconst (pc := 1457) (x := 4) hK dd_L_law_1457 (by decide) ?_
  refine g_iadd (pc := 1458) (z := i + 4) hK dd_L_law_1458 rfl ?_
  refine g_scr (pc := 1459) hK hX hbl hbA hq hLn dd_L_law_1459 (by omega) (by omega) ?_
  refine g_callV (pc := 1460) (As := [gI ((xs (i + 1).toNat).toInt), gI ((xs (i + 2).toNat).toInt), gI ((xs (i + 3).toNat).toInt), gI ((xs (i + 4).toNat).toInt)]) hK ws_L_171 md_X12_sight hcs ⟨by decide, by decide⟩ (kdm kd_200) rfl rfl dd_L_law_1460 rfl rfl (Nat.le_of_ble_eq_true rfl) (hk1 _ (fun M2 hR2 hf2 => ?_))
  refine g_r1 ?_
  refine g_same (pc := 1463) (tgt := 1731) hK dd_L_law_1463 (by decide) ?_
  exact kont M2 hR2 hf2
set_option maxHeartbeats 1000000 in
set_option maxRecDepth 100000 in
theorem lw_c37 {p : Program} {l : Launch} {e : Env} {s : State} {m : MethodId} {below : List Frame} {meth : Method} {c : Code} {D : va_G} {cy : Nat → ClassId} {q : Nat → Nat} {A : Nat → Prop} {cells slots b Ln nn : Nat} {xs : Nat → Int32} {i : Int} {Q : State → Prop} {M : Mem} (hK : OK p s m #[Value.ref b] c D cy q A 4 code "WhiteElephantsLaw") (hX : va_X b Ln xs s s.heap) (hbl : b < s.heap.size) (hbA : ¬ A b) (hq : q 300 = b) (hLn : Ln ≤ 1000000) (hcs : cells ≤ 600000 ∧ slots ≤ 7302250) (hR : Rel nn M M) (hn : nn ≤ 512) (hi : 0 ≤ i ∧ i + 6 ≤ Ln) (kont : ∀ M2 : Mem, Rel (nn + 1) M2 M2 → M2 200 50 = M 200 50 → G p l e room_1 s m #[Value.ref b] below meth c D cy q A cells slots 4 Q 1731 [(0, gR 300), (1, gR 0), (2, gR 200), (3, gI i)] [] M2) : G p l e room_1 s m #[Value.ref b] below meth c D cy q A cells slots 4 Q 1468 [(0, gR 300), (1, gR 0), (2, gR 200), (3, gI i)] [] M := by
  refine g_aloadn (pc := 1468) (i := 1) (x := 0) hK dd_L_law_1468 rfl rfl ?_
  refine g_aloadn (pc := 1469) (i := 0) (x := 300) hK dd_L_law_1469 rfl rfl ?_
  refine g_iloadn (pc := 1470) (i := 3) (x := i) hK dd_L_law_1470 rfl rfl ?_
  refine g_iconst (pc := 1471) (x := 1) hK dd_L_law_1471 (by decide) ?_
  refine g_iadd (pc := 1472) (z := i + 1) hK dd_L_law_1472 rfl ?_
  refine g_scr (pc := 1473) hK hX hbl hbA hq hLn dd_L_law_1473 (by omega) (by omega) ?_
  refine g_aloadn (pc := 1474) (i := 0) (x := 300) hK dd_L_law_1474 rfl rfl ?_
  refine g_iloadn (pc := 1475) (i := 3) (x := i) hK dd_L_law_1475 rfl rfl ?_
  refine g_iconst (pc := 1476) (x := 2) hK dd_L_law_1476 (by decide) ?_
  refine g_iadd (pc := 1477) (z := i + 2) hK dd_L_law_1477 rfl ?_
  refine g_scr (pc := 1478) hK hX hbl hbA hq hLn dd_L_law_1478 (by omega) (by omega) ?_
  refine g_callV (pc := 1479) (As := [gI ((xs (i + 1).toNat).toInt), gI ((xs (i + 2).toNat).toInt)]) hK ws_L_172 md_X11_same hcs ⟨by decide, by decide⟩ (kdm kd_0) rfl rfl dd_L_law_1479 rfl rfl (Nat.le_of_ble_eq_true rfl) (p_same hR hn ((xs (i + 1).toNat).toInt) ((xs (i + 2).toNat).toInt) (i32_in _) (i32_in _) (fun r1 M1 hf1 hk1 => ?_))
  refine g_r1 ?_
  refine g_aloadn (pc := 1482) (i := 2) (x := 200) hK dd_L_law_1482 rfl rfl ?_
  refine g_aloadn (pc := 1483) (i := 0) (x := 300) hK dd_L_law_1483 rfl rfl ?_
  refine g_iloadn (pc := 1484) (i := 3) (x := i) hK dd_L_law_1484 rfl rfl ?_
  refine g_iconst (pc := 1485) (x := 1) hK dd_L_law_1485 (by decide) ?_
  refine g_iadd (pc := 1486) (z := i + 1) hK dd_L_law_1486 rfl ?_
  refine g_scr (pc := 1487) hK hX hbl hbA hq hLn dd_L_law_1487 (by omega) (by omega) ?_
  refine g_aloadn (pc := 1488) (i := 0) (x := 300) hK dd_L_law_1488 rfl rfl ?_
  refine g_iloadn (pc := 1489) (i := 3) (x := i) hK dd_L_law_1489 rfl rfl ?_
  refine g_iconst (pc := 1490) (x := 2) hK dd_L_law_1490 (by decide) ?_
  refine g_iadd (pc := 1491) (z := i + 2) hK dd_L_law_1491 rfl ?_
  refine g_scr (pc := 1492) hK hX hbl hbA hq hLn dd_L_law_1492 (by omega) (by omega) ?_
  refine g_callV (pc := 1493) (As := [gI ((xs (i + 1).toNat).toInt), gI ((xs (i + 2).toNat).toInt)]) hK ws_L_175 md_X12_same hcs ⟨by decide, by decide⟩ (kdm kd_200) rfl rfl dd_L_law_1493 rfl rfl (Nat.le_of_ble_eq_true rfl) (hk1 _ (fun M2 hR2 hf2 => ?_))
  refine g_r1 ?_
  refine g_same (pc := 1496) (tgt := 1731) hK dd_L_law_1496 (by decide) ?_
  exact kont M2 hR2 hf2
set_option maxHeartbeats 1000000 in
set_option maxRecDepth 100000 in
theorem lw_c38 {p : Program} {l : Launch} {e : Env} {s : State} {m : MethodId} {below : List Frame} {meth : Method} {c : Code} {D : va_G} {cy : Nat → ClassId} {q : Nat → Nat} {A : Nat → Prop} {cells slots b Ln nn : Nat} {xs : Nat → Int32} {i : Int} {Q : State → Prop} {M : Mem} (hK : OK p s m #[Value.ref b] c D cy q A 4 code "WhiteElephantsLaw") (hX : va_X b Ln xs s s.heap) (hbl : b < s.heap.size) (hbA : ¬ A b) (hq : q 300 = b) (hLn : Ln ≤ 1000000) (hcs : cells ≤ 600000 ∧ slots ≤ 7302250) (hR : Rel nn M M) (hn : nn ≤ 512) (hi : 0 ≤ i ∧ i + 6 ≤ Ln) (kont : ∀ M2 : Mem, Rel (nn + 1) M2 M2 → M2 200 50 = M 200 50 → G p l e room_1 s m #[Value.ref b] below meth c D cy q A cells slots 4 Q 1731 [(0, gR 300), (1, gR 0), (2, gR 200), (3, gI i)] [] M2) : G p l e room_1 s m #[Value.ref b] below meth c D cy q A cells slots 4 Q 1501 [(0, gR 300), (1, gR 0), (2, gR 200), (3, gI i)] [] M := by
  refine g_aloadn (pc := 1501) (i := 1) (x := 0) hK dd_L_law_1501 rfl rfl ?_
  refine g_callV (pc := 1502) (As := []) hK ws_L_176 md_X11_vases hcs ⟨by decide, by decide⟩ (kdm kd_0) rfl rfl dd_L_law_1502 rfl rfl (Nat.le_of_ble_eq_true rfl) (p_vases hR hn   (fun r1 M1 hf1 hk1 => ?_))
  refine g_r1 ?_
  refine g_aloadn (pc := 1505) (i := 2) (x := 200) hK dd_L_law_1505 rfl rfl ?_
  refine g_callV (pc := 1506) (As := []) hK ws_L_179 md_X12_vases hcs ⟨by decide, by decide⟩ (kdm kd_200) rfl rfl dd_L_law_1506 rfl rfl (Nat.le_of_ble_eq_true rfl) (hk1 _ (fun M2 hR2 hf2 => ?_))
  refine g_r1 ?_
  refine g_same (pc := 1509) (tgt := 1731) hK dd_L_law_1509 (by decide) ?_
  exact kont M2 hR2 hf2
set_option maxHeartbeats 1000000 in
set_option maxRecDepth 100000 in
theorem lw_c39 {p : Program} {l : Launch} {e : Env} {s : State} {m : MethodId} {below : List Frame} {meth : Method} {c : Code} {D : va_G} {cy : Nat → ClassId} {q : Nat → Nat} {A : Nat → Prop} {cells slots b Ln nn : Nat} {xs : Nat → Int32} {i : Int} {Q : State → Prop} {M : Mem} (hK : OK p s m #[Value.ref b] c D cy q A 4 code "WhiteElephantsLaw") (hX : va_X b Ln xs s s.heap) (hbl : b < s.heap.size) (hbA : ¬ A b) (hq : q 300 = b) (hLn : Ln ≤ 1000000) (hcs : cells ≤ 600000 ∧ slots ≤ 7302250) (hR : Rel nn M M) (hn : nn ≤ 512) (hi : 0 ≤ i ∧ i + 6 ≤ Ln) (kont : ∀ M2 : Mem, Rel (nn + 1) M2 M2 → M2 200 50 = M 200 50 → G p l e room_1 s m #[Value.ref b] below meth c D cy q A cells slots 4 Q 1731 [(0, gR 300), (1, gR 0), (2, gR 200), (3, gI i)] [] M2) : G p l e room_1 s m #[Value.ref b] below meth c D cy q A cells slots 4 Q 1514 [(0, gR 300), (1, gR 0), (2, gR 200), (3, gI i)] [] M := by
  refine g_aloadn (pc := 1514) (i := 1) (x := 0) hK dd_L_law_1514 rfl rfl ?_
  refine g_callV (pc := 1515) (As := []) hK ws_L_180 md_X11_longest hcs ⟨by decide, by decide⟩ (kdm kd_0) rfl rfl dd_L_law_1515 rfl rfl (Nat.le_of_ble_eq_true rfl) (p_longest hR hn   (fun r1 M1 hf1 hk1 => ?_))
  refine g_r1 ?_
  refine g_aloadn (pc := 1518) (i := 2) (x := 200) hK dd_L_law_1518 rfl rfl ?_
  refine g_callV (pc := 1519) (As := []) hK ws_L_183 md_X12_longest hcs ⟨by decide, by decide⟩ (kdm kd_200) rfl rfl dd_L_law_1519 rfl rfl (Nat.le_of_ble_eq_true rfl) (hk1 _ (fun M2 hR2 hf2 => ?_))
  refine g_r1 ?_
  refine g_same (pc := 1522) (tgt := 1731) hK dd_L_law_1522 (by decide) ?_
  exact kont M2 hR2 hf2
set_option maxHeartbeats 1000000 in
set_option maxRecDepth 100000 in
theorem lw_c40 {p : Program} {l : Launch} {e : Env} {s : State} {m : MethodId} {below : List Frame} {meth : Method} {c : Code} {D : va_G} {cy : Nat → ClassId} {q : Nat → Nat} {A : Nat → Prop} {cells slots b Ln nn : Nat} {xs : Nat → Int32} {i : Int} {Q : State → Prop} {M : Mem} (hK : OK p s m #[Value.ref b] c D cy q A 4 code "WhiteElephantsLaw") (hX : va_X b Ln xs s s.heap) (hbl : b < s.heap.size) (hbA : ¬ A b) (hq : q 300 = b) (hLn : Ln ≤ 1000000) (hcs : cells ≤ 600000 ∧ slots ≤ 7302250) (hR : Rel nn M M) (hn : nn ≤ 512) (hi : 0 ≤ i ∧ i + 6 ≤ Ln) (kont : ∀ M2 : Mem, Rel (nn + 1) M2 M2 → M2 200 50 = M 200 50 → G p l e room_1 s m #[Value.ref b] below meth c D cy q A cells slots 4 Q 1731 [(0, gR 300), (1, gR 0), (2, gR 200), (3, gI i)] [] M2) : G p l e room_1 s m #[Value.ref b] below meth c D cy q A cells slots 4 Q 1527 [(0, gR 300), (1, gR 0), (2, gR 200), (3, gI i)] [] M := by
  refine g_aloadn (pc := 1527) (i := 1) (x := 0) hK dd_L_law_1527 rfl rfl ?_
  refine g_aloadn (pc := 1528) (i := 0) (x := 300) hK dd_L_law_1528 rfl rfl ?_
  refine g_iloadn (pc := 1529) (i := 3) (x := i) hK dd_L_law_1529 rfl rfl ?_
  refine g_iconst (pc := 1530) (x := 1) hK dd_L_law_1530 (by decide) ?_
  refine g_iadd (pc := 1531) (z := i + 1) hK dd_L_law_1531 rfl ?_
  refine g_scr (pc := 1532) hK hX hbl hbA hq hLn dd_L_law_1532 (by omega) (by omega) ?_
  refine g_aloadn (pc := 1533) (i := 0) (x := 300) hK dd_L_law_1533 rfl rfl ?_
  refine g_iloadn (pc := 1534) (i := 3) (x := i) hK dd_L_law_1534 rfl rfl ?_
  refine g_iconst (pc := 1535) (x := 2) hK dd_L_law_1535 (by decide) ?_
  refine g_iadd (pc := 1536) (z := i + 2) hK dd_L_law_1536 rfl ?_
  refine g_scr (pc := 1537) hK hX hbl hbA hq hLn dd_L_law_1537 (by omega) (by omega) ?_
  refine g_callV (pc := 1538) (As := [gI ((xs (i + 1).toNat).toInt), gI ((xs (i + 2).toNat).toInt)]) hK ws_L_184 md_X11_secret hcs ⟨by decide, by decide⟩ (kdm kd_0) rfl rfl dd_L_law_1538 rfl rfl (Nat.le_of_ble_eq_true rfl) (p_secret hR hn ((xs (i + 1).toNat).toInt) ((xs (i + 2).toNat).toInt) (i32_in _) (i32_in _) (fun r1 M1 hf1 hk1 => ?_))
  refine g_r1 ?_
  refine g_aloadn (pc := 1541) (i := 2) (x := 200) hK dd_L_law_1541 rfl rfl ?_
  refine g_aloadn (pc := 1542) (i := 0) (x := 300) hK dd_L_law_1542 rfl rfl ?_
  refine g_iloadn (pc := 1543) (i := 3) (x := i) hK dd_L_law_1543 rfl rfl ?_
  refine g_iconst (pc := 1544) (x := 1) hK dd_L_law_1544 (by decide) ?_
  refine g_iadd (pc := 1545) (z := i + 1) hK dd_L_law_1545 rfl ?_
  refine g_scr (pc := 1546) hK hX hbl hbA hq hLn dd_L_law_1546 (by omega) (by omega) ?_
  refine g_aloadn (pc := 1547) (i := 0) (x := 300) hK dd_L_law_1547 rfl rfl ?_
  refine g_iloadn (pc := 1548) (i := 3) (x := i) hK dd_L_law_1548 rfl rfl ?_
  refine g_iconst (pc := 1549) (x := 2) hK dd_L_law_1549 (by decide) ?_
  refine g_iadd (pc := 1550) (z := i + 2) hK dd_L_law_1550 rfl ?_
  refine g_scr (pc := 1551) hK hX hbl hbA hq hLn dd_L_law_1551 (by omega) (by omega) ?_
  refine g_callV (pc := 1552) (As := [gI ((xs (i + 1).toNat).toInt), gI ((xs (i + 2).toNat).toInt)]) hK ws_L_187 md_X12_secret hcs ⟨by decide, by decide⟩ (kdm kd_200) rfl rfl dd_L_law_1552 rfl rfl (Nat.le_of_ble_eq_true rfl) (hk1 _ (fun M2 hR2 hf2 => ?_))
  refine g_r1 ?_
  refine g_same (pc := 1555) (tgt := 1731) hK dd_L_law_1555 (by decide) ?_
  exact kont M2 hR2 hf2
set_option maxHeartbeats 1000000 in
set_option maxRecDepth 100000 in
theorem lw_c41 {p : Program} {l : Launch} {e : Env} {s : State} {m : MethodId} {below : List Frame} {meth : Method} {c : Code} {D : va_G} {cy : Nat → ClassId} {q : Nat → Nat} {A : Nat → Prop} {cells slots b Ln nn : Nat} {xs : Nat → Int32} {i : Int} {Q : State → Prop} {M : Mem} (hK : OK p s m #[Value.ref b] c D cy q A 4 code "WhiteElephantsLaw") (hX : va_X b Ln xs s s.heap) (hbl : b < s.heap.size) (hbA : ¬ A b) (hq : q 300 = b) (hLn : Ln ≤ 1000000) (hcs : cells ≤ 600000 ∧ slots ≤ 7302250) (hR : Rel nn M M) (hn : nn ≤ 512) (hi : 0 ≤ i ∧ i + 6 ≤ Ln) (kont : ∀ M2 : Mem, Rel (nn + 1) M2 M2 → M2 200 50 = M 200 50 → G p l e room_1 s m #[Value.ref b] below meth c D cy q A cells slots 4 Q 1731 [(0, gR 300), (1, gR 0), (2, gR 200), (3, gI i)] [] M2) : G p l e room_1 s m #[Value.ref b] below meth c D cy q A cells slots 4 Q 1560 [(0, gR 300), (1, gR 0), (2, gR 200), (3, gI i)] [] M := by
  refine g_aloadn (pc := 1560) (i := 1) (x := 0) hK dd_L_law_1560 rfl rfl ?_
  refine g_aloadn (pc := 1561) (i := 0) (x := 300) hK dd_L_law_1561 rfl rfl ?_
  refine g_iloadn (pc := 1562) (i := 3) (x := i) hK dd_L_law_1562 rfl rfl ?_
  refine g_iconst (pc := 1563) (x := 1) hK dd_L_law_1563 (by decide) ?_
  refine g_iadd (pc := 1564) (z := i + 1) hK dd_L_law_1564 rfl ?_
  refine g_scr (pc := 1565) hK hX hbl hbA hq hLn dd_L_law_1565 (by omega) (by omega) ?_
  refine g_aloadn (pc := 1566) (i := 0) (x := 300) hK dd_L_law_1566 rfl rfl ?_
  refine g_iloadn (pc := 1567) (i := 3) (x := i) hK dd_L_law_1567 rfl rfl ?_
  refine g_iconst (pc := 1568) (x := 2) hK dd_L_law_1568 (by decide) ?_
  refine g_iadd (pc := 1569) (z := i + 2) hK dd_L_law_1569 rfl ?_
  refine g_scr (pc := 1570) hK hX hbl hbA hq hLn dd_L_law_1570 (by omega) (by omega) ?_
  refine g_callV (pc := 1571) (As := [gI ((xs (i + 1).toNat).toInt), gI ((xs (i + 2).toNat).toInt)]) hK ws_L_188 md_X11_looks hcs ⟨by decide, by decide⟩ (kdm kd_0) rfl rfl dd_L_law_1571 rfl rfl (Nat.le_of_ble_eq_true rfl) (p_looks hR hn ((xs (i + 1).toNat).toInt) ((xs (i + 2).toNat).toInt) (i32_in _) (i32_in _) (fun r1 M1 hf1 hk1 => ?_))
  refine g_r1 ?_
  refine g_aloadn (pc := 1574) (i := 2) (x := 200) hK dd_L_law_1574 rfl rfl ?_
  refine g_aloadn (pc := 1575) (i := 0) (x := 300) hK dd_L_law_1575 rfl rfl ?_
  refine g_iloadn (pc := 1576) (i := 3) (x := i) hK dd_L_law_1576 rfl rfl ?_
  refine g_iconst (pc := 1577) (x := 1) hK dd_L_law_1577 (by decide) ?_
  refine g_iadd (pc := 1578) (z := i + 1) hK dd_L_law_1578 rfl ?_
  refine g_scr (pc := 1579) hK hX hbl hbA hq hLn dd_L_law_1579 (by omega) (by omega) ?_
  refine g_aloadn (pc := 1580) (i := 0) (x := 300) hK dd_L_law_1580 rfl rfl ?_
  refine g_iloadn (pc := 1581) (i := 3) (x := i) hK dd_L_law_1581 rfl rfl ?_
  refine g_iconst (pc := 1582) (x := 2) hK dd_L_law_1582 (by decide) ?_
  refine g_iadd (pc := 1583) (z := i + 2) hK dd_L_law_1583 rfl ?_
  refine g_scr (pc := 1584) hK hX hbl hbA hq hLn dd_L_law_1584 (by omega) (by omega) ?_
  refine g_callV (pc := 1585) (As := [gI ((xs (i + 1).toNat).toInt), gI ((xs (i + 2).toNat).toInt)]) hK ws_L_191 md_X12_looks hcs ⟨by decide, by decide⟩ (kdm kd_200) rfl rfl dd_L_law_1585 rfl rfl (Nat.le_of_ble_eq_true rfl) (hk1 _ (fun M2 hR2 hf2 => ?_))
  refine g_r1 ?_
  refine g_same (pc := 1588) (tgt := 1731) hK dd_L_law_1588 (by decide) ?_
  exact kont M2 hR2 hf2
set_option maxHeartbeats 1000000 in
set_option maxRecDepth 100000 in
theorem lw_c42 {p : Program} {l : Launch} {e : Env} {s : State} {m : MethodId} {below : List Frame} {meth : Method} {c : Code} {D : va_G} {cy : Nat → ClassId} {q : Nat → Nat} {A : Nat → Prop} {cells slots b Ln nn : Nat} {xs : Nat → Int32} {i : Int} {Q : State → Prop} {M : Mem} (hK : OK p s m #[Value.ref b] c D cy q A 4 code "WhiteElephantsLaw") (hX : va_X b Ln xs s s.heap) (hbl : b < s.heap.size) (hbA : ¬ A b) (hq : q 300 = b) (hLn : Ln ≤ 1000000) (hcs : cells ≤ 600000 ∧ slots ≤ 7302250) (hR : Rel nn M M) (hn : nn ≤ 512) (hi : 0 ≤ i ∧ i + 6 ≤ Ln) (kont : ∀ M2 : Mem, Rel (nn + 1) M2 M2 → M2 200 50 = M 200 50 → G p l e room_1 s m #[Value.ref b] below meth c D cy q A cells slots 4 Q 1731 [(0, gR 300), (1, gR 0), (2, gR 200), (3, gI i)] [] M2) : G p l e room_1 s m #[Value.ref b] below meth c D cy q A cells slots 4 Q 1593 [(0, gR 300), (1, gR 0), (2, gR 200), (3, gI i)] [] M := by
  refine g_aloadn (pc := 1593) (i := 1) (x := 0) hK dd_L_law_1593 rfl rfl ?_
  refine g_aloadn (pc := 1594) (i := 0) (x := 300) hK dd_L_law_1594 rfl rfl ?_
  refine g_iloadn (pc := 1595) (i := 3) (x := i) hK dd_L_law_1595 rfl rfl ?_
  refine g_iconst (pc := 1596) (x := 1) hK dd_L_law_1596 (by decide) ?_
  refine g_iadd (pc := 1597) (z := i + 1) hK dd_L_law_1597 rfl ?_
  refine g_scr (pc := 1598) hK hX hbl hbA hq hLn dd_L_law_1598 (by omega) (by omega) ?_
  refine g_aloadn (pc := 1599) (i := 0) (x := 300) hK dd_L_law_1599 rfl rfl ?_
  refine g_iloadn (pc := 1600) (i := 3) (x := i) hK dd_L_law_1600 rfl rfl ?_
  refine g_iconst (pc := 1601) (x := 2) hK dd_L_law_1601 (by decide) ?_
  refine g_iadd (pc := 1602) (z := i + 2) hK dd_L_law_1602 rfl ?_
  refine g_scr (pc := 1603) hK hX hbl hbA hq hLn dd_L_law_1603 (by omega) (by omega) ?_
  refine g_callV (pc := 1604) (As := [gI ((xs (i + 1).toNat).toInt), gI ((xs (i + 2).toNat).toInt)]) hK ws_L_192 md_X11_laid hcs ⟨by decide, by decide⟩ (kdm kd_0) rfl rfl dd_L_law_1604 rfl rfl (Nat.le_of_ble_eq_true rfl) (p_laid hR hn ((xs (i + 1).toNat).toInt) ((xs (i + 2).toNat).toInt) (i32_in _) (i32_in _) (fun r1 M1 hf1 hk1 => ?_))
  refine g_r1 ?_
  refine g_aloadn (pc := 1607) (i := 2) (x := 200) hK dd_L_law_1607 rfl rfl ?_
  refine g_aloadn (pc := 1608) (i := 0) (x := 300) hK dd_L_law_1608 rfl rfl ?_
  refine g_iloadn (pc := 1609) (i := 3) (x := i) hK dd_L_law_1609 rfl rfl ?_
  refine g_iconst (pc := 1610) (x := 1) hK dd_L_law_1610 (by decide) ?_
  refine g_iadd (pc := 1611) (z := i + 1) hK dd_L_law_1611 rfl ?_
  refine g_scr (pc := 1612) hK hX hbl hbA hq hLn dd_L_law_1612 (by omega) (by omega) ?_
  refine g_aloadn (pc := 1613) (i := 0) (x := 300) hK dd_L_law_1613 rfl rfl ?_
  refine g_iloadn (pc := 1614) (i := 3) (x := i) hK dd_L_law_1614 rfl rfl ?_
  refine g_iconst (pc := 1615) (x := 2) hK dd_L_law_1615 (by decide) ?_
  refine g_iadd (pc := 1616) (z := i + 2) hK dd_L_law_1616 rfl ?_
  refine g_scr (pc := 1617) hK hX hbl hbA hq hLn dd_L_law_1617 (by omega) (by omega) ?_
  refine g_callV (pc := 1618) (As := [gI ((xs (i + 1).toNat).toInt), gI ((xs (i + 2).toNat).toInt)]) hK ws_L_195 md_X12_laid hcs ⟨by decide, by decide⟩ (kdm kd_200) rfl rfl dd_L_law_1618 rfl rfl (Nat.le_of_ble_eq_true rfl) (hk1 _ (fun M2 hR2 hf2 => ?_))
  refine g_r1 ?_
  refine g_same (pc := 1621) (tgt := 1731) hK dd_L_law_1621 (by decide) ?_
  exact kont M2 hR2 hf2
set_option maxHeartbeats 1000000 in
set_option maxRecDepth 100000 in
theorem lw_c43 {p : Program} {l : Launch} {e : Env} {s : State} {m : MethodId} {below : List Frame} {meth : Method} {c : Code} {D : va_G} {cy : Nat → ClassId} {q : Nat → Nat} {A : Nat → Prop} {cells slots b Ln nn : Nat} {xs : Nat → Int32} {i : Int} {Q : State → Prop} {M : Mem} (hK : OK p s m #[Value.ref b] c D cy q A 4 code "WhiteElephantsLaw") (hX : va_X b Ln xs s s.heap) (hbl : b < s.heap.size) (hbA : ¬ A b) (hq : q 300 = b) (hLn : Ln ≤ 1000000) (hcs : cells ≤ 600000 ∧ slots ≤ 7302250) (hR : Rel nn M M) (hn : nn ≤ 512) (hi : 0 ≤ i ∧ i + 6 ≤ Ln) (hcn : M 200 50 = 0 → cells + 1 ≤ 600000 ∧ slots + 310000 ≤ 7302250) (kontN : ∀ (q1 : Nat → Nat) (M2 : Mem), (∀ k, k ≠ 251 → q1 k = q k) → M 200 50 = 0 → Rel (nn + 1) M2 M2 → ¬ M2 200 50 = 0 → G p l e room_1 s m #[Value.ref b] below meth c D cy q1 A (cells + 1) (slots + 310000) 4 Q 1731 [(0, gR 300), (1, gR 0), (2, gR 200), (3, gI i)] [] M2) (kont : ∀ M2 : Mem, Rel (nn + 1) M2 M2 → M2 200 50 = M 200 50 → G p l e room_1 s m #[Value.ref b] below meth c D cy q A cells slots 4 Q 1731 [(0, gR 300), (1, gR 0), (2, gR 200), (3, gI i)] [] M2) : G p l e room_1 s m #[Value.ref b] below meth c D cy q A cells slots 4 Q 1626 [(0, gR 300), (1, gR 0), (2, gR 200), (3, gI i)] [] M := by
  refine g_aloadn (pc := 1626) (i := 1) (x := 0) hK dd_L_law_1626 rfl rfl ?_
  refine g_aloadn (pc := 1627) (i := 0) (x := 300) hK dd_L_law_1627 rfl rfl ?_
  refine g_iloadn (pc := 1628) (i := 3) (x := i) hK dd_L_law_1628 rfl rfl ?_
  refine g_iconst (pc := 1629) (x := 1) hK dd_L_law_1629 (by decide) ?_
  refine g_iadd (pc := 1630) (z := i + 1) hK dd_L_law_1630 rfl ?_
  refine g_scr (pc := 1631) hK hX hbl hbA hq hLn dd_L_law_1631 (by omega) (by omega) ?_
  refine g_callV (pc := 1632) (As := [gI ((xs (i + 1).toNat).toInt)]) hK ws_L_196 md_X11_shortBy hcs ⟨by decide, by decide⟩ (kdm kd_0) rfl rfl dd_L_law_1632 rfl rfl (Nat.le_of_ble_eq_true rfl) (p_shortBy hR hn ((xs (i + 1).toNat).toInt) (i32_in _) (fun r1 M1 hf1 hk1 => ?_))
  rcases hk1 with hk1 | ⟨hk0, hk1⟩
  rotate_left
  · refine g_r1 ?_
    refine g_aloadn (pc := 1635) (i := 2) (x := 200) hK dd_L_law_1635 rfl rfl ?_
    refine g_aloadn (pc := 1636) (i := 0) (x := 300) hK dd_L_law_1636 rfl rfl ?_
    refine g_iloadn (pc := 1637) (i := 3) (x := i) hK dd_L_law_1637 rfl rfl ?_
    refine g_iconst (pc := 1638) (x := 1) hK dd_L_law_1638 (by decide) ?_
    refine g_iadd (pc := 1639) (z := i + 1) hK dd_L_law_1639 rfl ?_
    refine g_scr (pc := 1640) hK hX hbl hbA hq hLn dd_L_law_1640 (by omega) (by omega) ?_
    refine g_callVN (Pq := fun v M2 => v = some (gI r1) ∧ Rel (nn + 1) M2 M2 ∧ ¬ M2 200 50 = 0) (pc := 1641) (As := [gI ((xs (i + 1).toNat).toInt)]) (st := [gI r1]) hK ws_L_199 md_X12_shortBy (hcn hk0) ⟨by decide, by decide⟩ (kdm kd_200) rfl rfl dd_L_law_1641 rfl rfl (Nat.le_of_ble_eq_true rfl) (fun q1 h => ⟨lq_ h, rfl⟩) (hk1 _ (fun M2 hR2 hf2 => ⟨rfl, hR2, hf2⟩)) (fun q1 v M2 hq1 hv => ?_)
    obtain ⟨rfl, hR2, hf2⟩ := hv
    refine g_r1 ?_
    refine g_same (pc := 1644) (tgt := 1731) (OK_q hK hq1) dd_L_law_1644 (by decide) ?_
    exact kontN q1 M2 hq1 hk0 hR2 hf2
  refine g_r1 ?_
  refine g_aloadn (pc := 1635) (i := 2) (x := 200) hK dd_L_law_1635 rfl rfl ?_
  refine g_aloadn (pc := 1636) (i := 0) (x := 300) hK dd_L_law_1636 rfl rfl ?_
  refine g_iloadn (pc := 1637) (i := 3) (x := i) hK dd_L_law_1637 rfl rfl ?_
  refine g_iconst (pc := 1638) (x := 1) hK dd_L_law_1638 (by decide) ?_
  refine g_iadd (pc := 1639) (z := i + 1) hK dd_L_law_1639 rfl ?_
  refine g_scr (pc := 1640) hK hX hbl hbA hq hLn dd_L_law_1640 (by omega) (by omega) ?_
  refine g_callV (pc := 1641) (As := [gI ((xs (i + 1).toNat).toInt)]) hK ws_L_199 md_X12_shortBy hcs ⟨by decide, by decide⟩ (kdm kd_200) rfl rfl dd_L_law_1641 rfl rfl (Nat.le_of_ble_eq_true rfl) (hk1 _ (fun M2 hR2 hf2 => ?_))
  refine g_r1 ?_
  refine g_same (pc := 1644) (tgt := 1731) hK dd_L_law_1644 (by decide) ?_
  exact kont M2 hR2 hf2
set_option maxHeartbeats 1000000 in
set_option maxRecDepth 100000 in
theorem lw_c44 {p : Program} {l : Launch} {e : Env} {s : State} {m : MethodId} {below : List Frame} {meth : Method} {c : Code} {D : va_G} {cy : Nat → ClassId} {q : Nat → Nat} {A : Nat → Prop} {cells slots b Ln nn : Nat} {xs : Nat → Int32} {i : Int} {Q : State → Prop} {M : Mem} (hK : OK p s m #[Value.ref b] c D cy q A 4 code "WhiteElephantsLaw") (hX : va_X b Ln xs s s.heap) (hbl : b < s.heap.size) (hbA : ¬ A b) (hq : q 300 = b) (hLn : Ln ≤ 1000000) (hcs : cells ≤ 600000 ∧ slots ≤ 7302250) (hR : Rel nn M M) (hn : nn ≤ 512) (hi : 0 ≤ i ∧ i + 6 ≤ Ln) (kont : ∀ M2 : Mem, Rel (nn + 1) M2 M2 → M2 200 50 = M 200 50 → G p l e room_1 s m #[Value.ref b] below meth c D cy q A cells slots 4 Q 1731 [(0, gR 300), (1, gR 0), (2, gR 200), (3, gI i)] [] M2) : G p l e room_1 s m #[Value.ref b] below meth c D cy q A cells slots 4 Q 1649 [(0, gR 300), (1, gR 0), (2, gR 200), (3, gI i)] [] M := by
  refine g_aloadn (pc := 1649) (i := 1) (x := 0) hK dd_L_law_1649 rfl rfl ?_
  refine g_aloadn (pc := 1650) (i := 0) (x := 300) hK dd_L_law_1650 rfl rfl ?_
  refine g_iloadn (pc := 1651) (i := 3) (x := i) hK dd_L_law_1651 rfl rfl ?_
  refine g_iconst (pc := 1652) (x := 1) hK dd_L_law_1652 (by decide) ?_
  refine g_iadd (pc := 1653) (z := i + 1) hK dd_L_law_1653 rfl ?_
  refine g_scr (pc := 1654) hK hX hbl hbA hq hLn dd_L_law_1654 (by omega) (by omega) ?_
  refine g_aloadn (pc := 1655) (i := 0) (x := 300) hK dd_L_law_1655 rfl rfl ?_
  refine g_iloadn (pc := 1656) (i := 3) (x := i) hK dd_L_law_1656 rfl rfl ?_
  refine g_iconst (pc := 1657) (x := 2) hK dd_L_law_1657 (by decide) ?_
  refine g_iadd (pc := 1658) (z := i + 2) hK dd_L_law_1658 rfl ?_
  refine g_scr (pc := 1659) hK hX hbl hbA hq hLn dd_L_law_1659 (by omega) (by omega) ?_
  refine g_callV (pc := 1660) (As := [gI ((xs (i + 1).toNat).toInt), gI ((xs (i + 2).toNat).toInt)]) hK ws_L_200 md_X11_hall hcs ⟨by decide, by decide⟩ (kdm kd_0) rfl rfl dd_L_law_1660 rfl rfl (Nat.le_of_ble_eq_true rfl) (p_hall hR hn ((xs (i + 1).toNat).toInt) ((xs (i + 2).toNat).toInt) (i32_in _) (i32_in _) (fun r1 M1 hf1 hk1 => ?_))
  refine g_r1 ?_
  refine g_aloadn (pc := 1663) (i := 2) (x := 200) hK dd_L_law_1663 rfl rfl ?_
  refine g_aloadn (pc := 1664) (i := 0) (x := 300) hK dd_L_law_1664 rfl rfl ?_
  refine g_iloadn (pc := 1665) (i := 3) (x := i) hK dd_L_law_1665 rfl rfl ?_
  refine g_iconst (pc := 1666) (x := 1) hK dd_L_law_1666 (by decide) ?_
  refine g_iadd (pc := 1667) (z := i + 1) hK dd_L_law_1667 rfl ?_
  refine g_scr (pc := 1668) hK hX hbl hbA hq hLn dd_L_law_1668 (by omega) (by omega) ?_
  refine g_aloadn (pc := 1669) (i := 0) (x := 300) hK dd_L_law_1669 rfl rfl ?_
  refine g_iloadn (pc := 1670) (i := 3) (x := i) hK dd_L_law_1670 rfl rfl ?_
  refine g_iconst (pc := 1671) (x := 2) hK dd_L_law_1671 (by decide) ?_
  refine g_iadd (pc := 1672) (z := i + 2) hK dd_L_law_1672 rfl ?_
  refine g_scr (pc := 1673) hK hX hbl hbA hq hLn dd_L_law_1673 (by omega) (by omega) ?_
  refine g_callV (pc := 1674) (As := [gI ((xs (i + 1).toNat).toInt), gI ((xs (i + 2).toNat).toInt)]) hK ws_L_203 md_X12_hall hcs ⟨by decide, by decide⟩ (kdm kd_200) rfl rfl dd_L_law_1674 rfl rfl (Nat.le_of_ble_eq_true rfl) (hk1 _ (fun M2 hR2 hf2 => ?_))
  refine g_r1 ?_
  refine g_same (pc := 1677) (tgt := 1731) hK dd_L_law_1677 (by decide) ?_
  exact kont M2 hR2 hf2
set_option maxHeartbeats 1000000 in
set_option maxRecDepth 100000 in
theorem lw_c45 {p : Program} {l : Launch} {e : Env} {s : State} {m : MethodId} {below : List Frame} {meth : Method} {c : Code} {D : va_G} {cy : Nat → ClassId} {q : Nat → Nat} {A : Nat → Prop} {cells slots b Ln nn : Nat} {xs : Nat → Int32} {i : Int} {Q : State → Prop} {M : Mem} (hK : OK p s m #[Value.ref b] c D cy q A 4 code "WhiteElephantsLaw") (hX : va_X b Ln xs s s.heap) (hbl : b < s.heap.size) (hbA : ¬ A b) (hq : q 300 = b) (hLn : Ln ≤ 1000000) (hcs : cells ≤ 600000 ∧ slots ≤ 7302250) (hR : Rel nn M M) (hn : nn ≤ 512) (hi : 0 ≤ i ∧ i + 6 ≤ Ln) (kont : ∀ M2 : Mem, Rel (nn + 1) M2 M2 → M2 200 50 = M 200 50 → G p l e room_1 s m #[Value.ref b] below meth c D cy q A cells slots 4 Q 1731 [(0, gR 300), (1, gR 0), (2, gR 200), (3, gI i)] [] M2) : G p l e room_1 s m #[Value.ref b] below meth c D cy q A cells slots 4 Q 1682 [(0, gR 300), (1, gR 0), (2, gR 200), (3, gI i)] [] M := by
  refine g_aloadn (pc := 1682) (i := 1) (x := 0) hK dd_L_law_1682 rfl rfl ?_
  refine g_callV (pc := 1683) (As := []) hK ws_L_204 md_X11_image hcs ⟨by decide, by decide⟩ (kdm kd_0) rfl rfl dd_L_law_1683 rfl rfl (Nat.le_of_ble_eq_true rfl) (p_image hR hn   (fun r1 M1 hf1 hk1 => ?_))
  refine g_r1 ?_
  refine g_aloadn (pc := 1686) (i := 2) (x := 200) hK dd_L_law_1686 rfl rfl ?_
  refine g_callV (pc := 1687) (As := []) hK ws_L_207 md_X12_image hcs ⟨by decide, by decide⟩ (kdm kd_200) rfl rfl dd_L_law_1687 rfl rfl (Nat.le_of_ble_eq_true rfl) (hk1 _ (fun M2 hR2 hf2 => ?_))
  refine g_r1 ?_
  refine g_same (pc := 1690) (tgt := 1731) hK dd_L_law_1690 (by decide) ?_
  exact kont M2 hR2 hf2
set_option maxHeartbeats 1000000 in
set_option maxRecDepth 100000 in
theorem lw_c46 {p : Program} {l : Launch} {e : Env} {s : State} {m : MethodId} {below : List Frame} {meth : Method} {c : Code} {D : va_G} {cy : Nat → ClassId} {q : Nat → Nat} {A : Nat → Prop} {cells slots b Ln nn : Nat} {xs : Nat → Int32} {i : Int} {Q : State → Prop} {M : Mem} (hK : OK p s m #[Value.ref b] c D cy q A 4 code "WhiteElephantsLaw") (hX : va_X b Ln xs s s.heap) (hbl : b < s.heap.size) (hbA : ¬ A b) (hq : q 300 = b) (hLn : Ln ≤ 1000000) (hcs : cells ≤ 600000 ∧ slots ≤ 7302250) (hR : Rel nn M M) (hn : nn ≤ 512) (hi : 0 ≤ i ∧ i + 6 ≤ Ln) (kont : ∀ M2 : Mem, Rel (nn + 1) M2 M2 → M2 200 50 = M 200 50 → G p l e room_1 s m #[Value.ref b] below meth c D cy q A cells slots 4 Q 1731 [(0, gR 300), (1, gR 0), (2, gR 200), (3, gI i)] [] M2) : G p l e room_1 s m #[Value.ref b] below meth c D cy q A cells slots 4 Q 1695 [(0, gR 300), (1, gR 0), (2, gR 200), (3, gI i)] [] M := by
  refine g_aloadn (pc := 1695) (i := 1) (x := 0) hK dd_L_law_1695 rfl rfl ?_
  refine g_callV (pc := 1696) (As := []) hK ws_L_208 md_X11_back hcs ⟨by decide, by decide⟩ (kdm kd_0) rfl rfl dd_L_law_1696 rfl rfl (Nat.le_of_ble_eq_true rfl) (p_back hR hn   (fun r1 M1 hf1 hk1 => ?_))
  refine g_r1 ?_
  refine g_aloadn (pc := 1699) (i := 2) (x := 200) hK dd_L_law_1699 rfl rfl ?_
  refine g_callV (pc := 1700) (As := []) hK ws_L_211 md_X12_back hcs ⟨by decide, by decide⟩ (kdm kd_200) rfl rfl dd_L_law_1700 rfl rfl (Nat.le_of_ble_eq_true rfl) (hk1 _ (fun M2 hR2 hf2 => ?_))
  refine g_r1 ?_
  refine g_same (pc := 1703) (tgt := 1731) hK dd_L_law_1703 (by decide) ?_
  exact kont M2 hR2 hf2
set_option maxHeartbeats 1000000 in
set_option maxRecDepth 100000 in
theorem lw_c47 {p : Program} {l : Launch} {e : Env} {s : State} {m : MethodId} {below : List Frame} {meth : Method} {c : Code} {D : va_G} {cy : Nat → ClassId} {q : Nat → Nat} {A : Nat → Prop} {cells slots b Ln nn : Nat} {xs : Nat → Int32} {i : Int} {Q : State → Prop} {M : Mem} (hK : OK p s m #[Value.ref b] c D cy q A 4 code "WhiteElephantsLaw") (hX : va_X b Ln xs s s.heap) (hbl : b < s.heap.size) (hbA : ¬ A b) (hq : q 300 = b) (hLn : Ln ≤ 1000000) (hcs : cells ≤ 600000 ∧ slots ≤ 7302250) (hR : Rel nn M M) (hn : nn ≤ 512) (hi : 0 ≤ i ∧ i + 6 ≤ Ln) (kont : ∀ M2 : Mem, Rel (nn + 1) M2 M2 → M2 200 50 = M 200 50 → G p l e room_1 s m #[Value.ref b] below meth c D cy q A cells slots 4 Q 1731 [(0, gR 300), (1, gR 0), (2, gR 200), (3, gI i)] [] M2) : G p l e room_1 s m #[Value.ref b] below meth c D cy q A cells slots 4 Q 1708 [(0, gR 300), (1, gR 0), (2, gR 200), (3, gI i)] [] M := by
  refine g_aloadn (pc := 1708) (i := 1) (x := 0) hK dd_L_law_1708 rfl rfl ?_
  refine g_aloadn (pc := 1709) (i := 0) (x := 300) hK dd_L_law_1709 rfl rfl ?_
  refine g_iloadn (pc := 1710) (i := 3) (x := i) hK dd_L_law_1710 rfl rfl ?_
  refine g_iconst (pc := 1711) (x := 1) hK dd_L_law_1711 (by decide) ?_
  refine g_iadd (pc := 1712) (z := i + 1) hK dd_L_law_1712 rfl ?_
  refine g_scr (pc := 1713) hK hX hbl hbA hq hLn dd_L_law_1713 (by omega) (by omega) ?_
  refine g_callV (pc := 1714) (As := [gI ((xs (i + 1).toNat).toInt)]) hK ws_L_212 md_X11_status hcs ⟨by decide, by decide⟩ (kdm kd_0) rfl rfl dd_L_law_1714 rfl rfl (Nat.le_of_ble_eq_true rfl) (p_status hR hn ((xs (i + 1).toNat).toInt) (i32_in _) (fun r1 M1 hf1 hk1 => ?_))
  refine g_r1 ?_
  refine g_aloadn (pc := 1717) (i := 2) (x := 200) hK dd_L_law_1717 rfl rfl ?_
  refine g_aloadn (pc := 1718) (i := 0) (x := 300) hK dd_L_law_1718 rfl rfl ?_
  refine g_iloadn (pc := 1719) (i := 3) (x := i) hK dd_L_law_1719 rfl rfl ?_
  refine g_iconst (pc := 1720) (x := 1) hK dd_L_law_1720 (by decide) ?_
  refine g_iadd (pc := 1721) (z := i + 1) hK dd_L_law_1721 rfl ?_
  refine g_scr (pc := 1722) hK hX hbl hbA hq hLn dd_L_law_1722 (by omega) (by omega) ?_
  refine g_callV (pc := 1723) (As := [gI ((xs (i + 1).toNat).toInt)]) hK ws_L_215 md_X12_status hcs ⟨by decide, by decide⟩ (kdm kd_200) rfl rfl dd_L_law_1723 rfl rfl (Nat.le_of_ble_eq_true rfl) (hk1 _ (fun M2 hR2 hf2 => ?_))
  refine g_r1 ?_
  refine g_same (pc := 1726) (tgt := 1731) hK dd_L_law_1726 (by decide) ?_
  exact kont M2 hR2 hf2
