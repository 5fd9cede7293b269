set_option maxHeartbeats 4000000 in
set_option maxRecDepth 100000 in
theorem law_case_0 {p : Program} {e : Env} {s : State} {m : MethodId} {below : List Frame} {meth : Method} {c : Code} (l : Launch) (D : va_G) (cy : Nat → ClassId) (q t : Nat → Nat) (A : Nat → Prop) (hAe : ∀ w, A w → s.heap.size ≤ w) (hA : ∀ w, s.heap.size ≤ w → A w) {b : Nat} {xs : Nat → Int32} (Sx : CallFix p m c code 4 s #[Value.ref b] BW "WhiteElephantsLaw") (hr : meth.sig.returnType = ret) (hlocks : meth.locks = false) (hK : va_K D cls (TY cy) s) (hX : LX A s) (hSc : va_X b 6 xs s s.heap) (hbl : b < s.heap.size) {H : Heap} {locs : List Loc} {ls : Array Slot} (hl : lv_has ls 4 [(3, .int 0), (2, .ref (t 60)), (1, .ref (q 0)), (0, .ref b)]) (hP : va_P D cls (wX cy q ++ wM cy t) H) (hD : va_D A (wX cy q ++ wM cy t)) (hS : va_S A s.heap H locs) : W p l e room_1 s m #[Value.ref b] below meth c H locs 155 19939 (lw_Z below #[Value.ref b] s) (F0 m 240 ls []) := by
  have hx := Sx.1
  have hb := Sx.2.1
  have hbA : ¬ A b := fun h => absurd (hAe b h) (Nat.not_le.mpr hbl)
  refine lv_aload_n hx hb dd_L_law_240 rfl (lv_at hl 2 rfl) ?_
  refine lv_aload_n hx hb dd_L_law_241 rfl (lv_at hl 3 rfl) ?_
  refine lv_iload_n hx hb dd_L_law_242 rfl (lv_at hl 0 rfl) ?_
  refine lv_iconst (v := 1) hx hb dd_L_law_243 (by decide) ?_
  refine lv_iadd hx hb dd_L_law_244 ?_
  refine wk_int (v := 1) (by decide) ?_
  refine va_sld hx hb hSc hbl hbA hS (i := 1) (vi_of (by decide)) dd_L_law_245 ?_
  refine wk_int (v := xs 1) rfl ?_
  refine lv_aload_n hx hb dd_L_law_246 rfl (lv_at hl 3 rfl) ?_
  refine lv_iload_n hx hb dd_L_law_247 rfl (lv_at hl 0 rfl) ?_
  refine lv_iconst (v := 2) hx hb dd_L_law_248 (by decide) ?_
  refine lv_iadd hx hb dd_L_law_249 ?_
  refine wk_int (v := 2) (by decide) ?_
  refine va_sld hx hb hSc hbl hbA hS (i := 2) (vi_of (by decide)) dd_L_law_250 ?_
  refine wk_int (v := xs 2) rfl ?_
  refine lv_aload_n hx hb dd_L_law_251 rfl (lv_at hl 3 rfl) ?_
  refine lv_iload_n hx hb dd_L_law_252 rfl (lv_at hl 0 rfl) ?_
  refine lv_iconst (v := 3) hx hb dd_L_law_253 (by decide) ?_
  refine lv_iadd hx hb dd_L_law_254 ?_
  refine wk_int (v := 3) (by decide) ?_
  refine va_sld hx hb hSc hbl hbA hS (i := 3) (vi_of (by decide)) dd_L_law_255 ?_
  refine wk_int (v := xs 3) rfl ?_
  refine hk_i (wr := (wM cy t)) (c1 := 155) (s1 := 19939) [0, 1, 2, 97, 98, 99, 100, 101, 102, 103, 104, 105, 106, 107, 108, 109, 110, 111, 112] [113, 114, 115, 116, 117, 118, 119, 120, 121, 122, 123, 124, 125, 126, 127, 128, 129, 130, 131, 132, 133, 134, 135, 136, 137, 138, 139, 140, 141, 142, 143, 144, 145, 146, 147, 148, 149, 150, 151, 152, 153, 154] (hc_V [.int (xs 1), .int (xs 2), .int (xs 3)] [] [0, 1, 2, 97, 98, 99, 100, 101, 102, 103, 104, 105, 106, 107, 108, 109, 110, 111, 112] Sx hl.1 ws_L_13 md_X11_row (c_X_row l D cy q (xs 1) (xs 2) (xs 3)) ⟨Nat.le_of_ble_eq_true rfl, Nat.le_of_ble_eq_true rfl⟩ hP hD rfl (by decide) hK nx_b (nx_w hX.1.1) (va_recv hK hP (ci := 11) (q0 := 0) rfl rfl) rfl rfl (Nat.le_of_ble_eq_true rfl) dd_L_law_256 ⟨Nat.le_of_ble_eq_true rfl, Nat.le_of_ble_eq_true rfl⟩) hS hA hP hD rfl rfl (by decide) (by decide) rfl rfl (fun r1 u2 H locs hw3 hP hD hS => ?_)
  have hP : va_P D cls (wM cy t) H := hP
  have hD : va_D A (wM cy t) := hD
  refine lv_aload_n hx hb dd_L_law_259 rfl (lv_at hl 1 rfl) ?_
  refine lv_aload_n hx hb dd_L_law_260 rfl (lv_at hl 3 rfl) ?_
  refine lv_iload_n hx hb dd_L_law_261 rfl (lv_at hl 0 rfl) ?_
  refine lv_iconst (v := 1) hx hb dd_L_law_262 (by decide) ?_
  refine lv_iadd hx hb dd_L_law_263 ?_
  refine wk_int (v := 1) (by decide) ?_
  refine va_sld hx hb hSc hbl hbA hS (i := 1) (vi_of (by decide)) dd_L_law_264 ?_
  refine wk_int (v := xs 1) rfl ?_
  refine lv_aload_n hx hb dd_L_law_265 rfl (lv_at hl 3 rfl) ?_
  refine lv_iload_n hx hb dd_L_law_266 rfl (lv_at hl 0 rfl) ?_
  refine lv_iconst (v := 2) hx hb dd_L_law_267 (by decide) ?_
  refine lv_iadd hx hb dd_L_law_268 ?_
  refine wk_int (v := 2) (by decide) ?_
  refine va_sld hx hb hSc hbl hbA hS (i := 2) (vi_of (by decide)) dd_L_law_269 ?_
  refine wk_int (v := xs 2) rfl ?_
  refine lv_aload_n hx hb dd_L_law_270 rfl (lv_at hl 3 rfl) ?_
  refine lv_iload_n hx hb dd_L_law_271 rfl (lv_at hl 0 rfl) ?_
  refine lv_iconst (v := 3) hx hb dd_L_law_272 (by decide) ?_
  refine lv_iadd hx hb dd_L_law_273 ?_
  refine wk_int (v := 3) (by decide) ?_
  refine va_sld hx hb hSc hbl hbA hS (i := 3) (vi_of (by decide)) dd_L_law_274 ?_
  refine wk_int (v := xs 3) rfl ?_
  refine hk_i (wr := []) (c1 := 155) (s1 := 19939) [0, 1, 2, 3, 29] [] (hc_V [.int (xs 1), .int (xs 2), .int (xs 3)] [.int r1] [0, 1, 2, 3, 29] Sx hl.1 ws_L_17 md_X12_row (c_M_pub_row l D cy t (xs 1) (xs 2) (xs 3)) ⟨Nat.le_of_ble_eq_true rfl, Nat.le_of_ble_eq_true rfl⟩ hP hD rfl (by decide) hK nx_b (nx_w hX.1.1) (va_recv hK hP (ci := 12) (q0 := 0) rfl rfl) rfl rfl (Nat.le_of_ble_eq_true rfl) dd_L_law_275 ⟨Nat.le_of_ble_eq_true rfl, Nat.le_of_ble_eq_true rfl⟩) hS hA hP hD rfl rfl (by decide) (by decide) rfl rfl (fun r4 u5 H locs hw6 hP hD hS => ?_)
  refine lv_icmp_eq (tgt := 1731) hx hb dd_L_law_278 (by decide) (fun _ => ?_) (fun c => absurd (if2_eq hw3 hw6) c)
  exact law_again l A hAe Sx hr hlocks hSc hbl hS ls (lv_sub hl [0, 3] rfl)
set_option maxHeartbeats 4000000 in
set_option maxRecDepth 100000 in
theorem law_case_1 {p : Program} {e : Env} {s : State} {m : MethodId} {below : List Frame} {meth : Method} {c : Code} (l : Launch) (D : va_G) (cy : Nat → ClassId) (q t : Nat → Nat) (A : Nat → Prop) (hAe : ∀ w, A w → s.heap.size ≤ w) (hA : ∀ w, s.heap.size ≤ w → A w) {b : Nat} {xs : Nat → Int32} (Sx : CallFix p m c code 4 s #[Value.ref b] BW "WhiteElephantsLaw") (hr : meth.sig.returnType = ret) (hlocks : meth.locks = false) (hK : va_K D cls (TY cy) s) (hX : LX A s) (hSc : va_X b 6 xs s s.heap) (hbl : b < s.heap.size) {H : Heap} {locs : List Loc} {ls : Array Slot} (hl : lv_has ls 4 [(3, .int 0), (2, .ref (t 60)), (1, .ref (q 0)), (0, .ref b)]) (hP : va_P D cls (wX cy q ++ wM cy t) H) (hD : va_D A (wX cy q ++ wM cy t)) (hS : va_S A s.heap H locs) : W p l e room_1 s m #[Value.ref b] below meth c H locs 155 19939 (lw_Z below #[Value.ref b] s) (F0 m 283 ls []) := by
  have hx := Sx.1
  have hb := Sx.2.1
  have hbA : ¬ A b := fun h => absurd (hAe b h) (Nat.not_le.mpr hbl)
  refine lv_aload_n hx hb dd_L_law_283 rfl (lv_at hl 2 rfl) ?_
  refine lv_aload_n hx hb dd_L_law_284 rfl (lv_at hl 3 rfl) ?_
  refine lv_iload_n hx hb dd_L_law_285 rfl (lv_at hl 0 rfl) ?_
  refine lv_iconst (v := 1) hx hb dd_L_law_286 (by decide) ?_
  refine lv_iadd hx hb dd_L_law_287 ?_
  refine wk_int (v := 1) (by decide) ?_
  refine va_sld hx hb hSc hbl hbA hS (i := 1) (vi_of (by decide)) dd_L_law_288 ?_
  refine wk_int (v := xs 1) rfl ?_
  refine lv_aload_n hx hb dd_L_law_289 rfl (lv_at hl 3 rfl) ?_
  refine lv_iload_n hx hb dd_L_law_290 rfl (lv_at hl 0 rfl) ?_
  refine lv_iconst (v := 2) hx hb dd_L_law_291 (by decide) ?_
  refine lv_iadd hx hb dd_L_law_292 ?_
  refine wk_int (v := 2) (by decide) ?_
  refine va_sld hx hb hSc hbl hbA hS (i := 2) (vi_of (by decide)) dd_L_law_293 ?_
  refine wk_int (v := xs 2) rfl ?_
  refine lv_aload_n hx hb dd_L_law_294 rfl (lv_at hl 3 rfl) ?_
  refine lv_iload_n hx hb dd_L_law_295 rfl (lv_at hl 0 rfl) ?_
  refine lv_iconst (v := 3) hx hb dd_L_law_296 (by decide) ?_
  refine lv_iadd hx hb dd_L_law_297 ?_
  refine wk_int (v := 3) (by decide) ?_
  refine va_sld hx hb hSc hbl hbA hS (i := 3) (vi_of (by decide)) dd_L_law_298 ?_
  refine wk_int (v := xs 3) rfl ?_
  refine lv_i2l hx hb dd_L_law_299 rfl ?_
  refine lv_topl (fun z1 ez1 => ?_)
  refine lv_bipush (v := 32) hx hb dd_L_law_300 (by decide) ?_
  refine lv_lshl hx hb dd_L_law_302 rfl ?_
  refine lv_topl (fun z2 ez2 => ?_)
  refine lv_aload_n hx hb dd_L_law_303 rfl (lv_at hl 3 rfl) ?_
  refine lv_iload_n hx hb dd_L_law_304 rfl (lv_at hl 0 rfl) ?_
  refine lv_iconst (v := 4) hx hb dd_L_law_305 (by decide) ?_
  refine lv_iadd hx hb dd_L_law_306 ?_
  refine wk_int (v := 4) (by decide) ?_
  refine va_sld hx hb hSc hbl hbA hS (i := 4) (vi_of (by decide)) dd_L_law_307 ?_
  refine wk_int (v := xs 4) rfl ?_
  refine lv_i2l hx hb dd_L_law_308 rfl ?_
  refine lv_topl (fun z3 ez3 => ?_)
  refine lv_ldc2 (v := 4294967295) hx hb (own := "WhiteElephantsLaw") (index := 18) Sx.2.2.2.1 (Sx.2.2.2.2 _ kk_1606) dd_L_law_309 ?_
  refine lv_land hx hb dd_L_law_312 ?_
  refine lv_topl (fun z4 ez4 => ?_)
  refine lv_lor hx hb dd_L_law_313 ?_
  refine lv_topl (fun z5 ez5 => ?_)
  refine hk_i (wr := (wM cy t)) (c1 := 155) (s1 := 19939) [0, 1, 2, 97, 98, 99, 100, 101, 102, 103, 104, 105, 106, 107, 108, 109, 110, 111, 112] [113, 114, 115, 116, 117, 118, 119, 120, 121, 122, 123, 124, 125, 126, 127, 128, 129, 130, 131, 132, 133, 134, 135, 136, 137, 138, 139, 140, 141, 142, 143, 144, 145, 146, 147, 148, 149, 150, 151, 152, 153, 154] (hc_V [.int (xs 1), .int (xs 2), .long z5] [] [0, 1, 2, 97, 98, 99, 100, 101, 102, 103, 104, 105, 106, 107, 108, 109, 110, 111, 112] Sx hl.1 ws_L_20 md_X11_set (c_X_set l D cy q (xs 1) (xs 2) z5) ⟨Nat.le_of_ble_eq_true rfl, Nat.le_of_ble_eq_true rfl⟩ hP hD rfl (by decide) hK nx_b (nx_w hX.1.1) (va_recv hK hP (ci := 11) (q0 := 0) rfl rfl) rfl rfl (Nat.le_of_ble_eq_true rfl) dd_L_law_314 ⟨Nat.le_of_ble_eq_true rfl, Nat.le_of_ble_eq_true rfl⟩) hS hA hP hD rfl rfl (by decide) (by decide) rfl rfl (fun r6 u7 H locs hw8 hP hD hS => ?_)
  have hP : va_P D cls (wM cy t) H := hP
  have hD : va_D A (wM cy t) := hD
  refine lv_aload_n hx hb dd_L_law_317 rfl (lv_at hl 1 rfl) ?_
  refine lv_aload_n hx hb dd_L_law_318 rfl (lv_at hl 3 rfl) ?_
  refine lv_iload_n hx hb dd_L_law_319 rfl (lv_at hl 0 rfl) ?_
  refine lv_iconst (v := 1) hx hb dd_L_law_320 (by decide) ?_
  refine lv_iadd hx hb dd_L_law_321 ?_
  refine wk_int (v := 1) (by decide) ?_
  refine va_sld hx hb hSc hbl hbA hS (i := 1) (vi_of (by decide)) dd_L_law_322 ?_
  refine wk_int (v := xs 1) rfl ?_
  refine lv_aload_n hx hb dd_L_law_323 rfl (lv_at hl 3 rfl) ?_
  refine lv_iload_n hx hb dd_L_law_324 rfl (lv_at hl 0 rfl) ?_
  refine lv_iconst (v := 2) hx hb dd_L_law_325 (by decide) ?_
  refine lv_iadd hx hb dd_L_law_326 ?_
  refine wk_int (v := 2) (by decide) ?_
  refine va_sld hx hb hSc hbl hbA hS (i := 2) (vi_of (by decide)) dd_L_law_327 ?_
  refine wk_int (v := xs 2) rfl ?_
  refine lv_aload_n hx hb dd_L_law_328 rfl (lv_at hl 3 rfl) ?_
  refine lv_iload_n hx hb dd_L_law_329 rfl (lv_at hl 0 rfl) ?_
  refine lv_iconst (v := 3) hx hb dd_L_law_330 (by decide) ?_
  refine lv_iadd hx hb dd_L_law_331 ?_
  refine wk_int (v := 3) (by decide) ?_
  refine va_sld hx hb hSc hbl hbA hS (i := 3) (vi_of (by decide)) dd_L_law_332 ?_
  refine wk_int (v := xs 3) rfl ?_
  refine lv_i2l hx hb dd_L_law_333 rfl ?_
  refine lv_topl (fun z9 ez9 => ?_)
  refine lv_bipush (v := 32) hx hb dd_L_law_334 (by decide) ?_
  refine lv_lshl hx hb dd_L_law_336 rfl ?_
  refine lv_topl (fun z10 ez10 => ?_)
  refine lv_aload_n hx hb dd_L_law_337 rfl (lv_at hl 3 rfl) ?_
  refine lv_iload_n hx hb dd_L_law_338 rfl (lv_at hl 0 rfl) ?_
  refine lv_iconst (v := 4) hx hb dd_L_law_339 (by decide) ?_
  refine lv_iadd hx hb dd_L_law_340 ?_
  refine wk_int (v := 4) (by decide) ?_
  refine va_sld hx hb hSc hbl hbA hS (i := 4) (vi_of (by decide)) dd_L_law_341 ?_
  refine wk_int (v := xs 4) rfl ?_
  refine lv_i2l hx hb dd_L_law_342 rfl ?_
  refine lv_topl (fun z11 ez11 => ?_)
  refine lv_ldc2 (v := 4294967295) hx hb (own := "WhiteElephantsLaw") (index := 18) Sx.2.2.2.1 (Sx.2.2.2.2 _ kk_1606) dd_L_law_343 ?_
  refine lv_land hx hb dd_L_law_346 ?_
  refine lv_topl (fun z12 ez12 => ?_)
  refine lv_lor hx hb dd_L_law_347 ?_
  refine lv_topl (fun z13 ez13 => ?_)
  refine hk_i (wr := []) (c1 := 155) (s1 := 19939) [0, 1, 29] [] (hc_V [.int (xs 1), .int (xs 2), .long z13] [.int r6] [0, 1, 29] Sx hl.1 ws_L_24 md_X12_set (c_M_pub_set l D cy t (xs 1) (xs 2) z13) ⟨Nat.le_of_ble_eq_true rfl, Nat.le_of_ble_eq_true rfl⟩ hP hD rfl (by decide) hK nx_b (nx_w hX.1.1) (va_recv hK hP (ci := 12) (q0 := 0) rfl rfl) rfl rfl (Nat.le_of_ble_eq_true rfl) dd_L_law_348 ⟨Nat.le_of_ble_eq_true rfl, Nat.le_of_ble_eq_true rfl⟩) hS hA hP hD rfl rfl (by decide) (by decide) rfl rfl (fun r14 u15 H locs hw16 hP hD hS => ?_)
  refine lv_icmp_eq (tgt := 1731) hx hb dd_L_law_351 (by decide) (fun _ => ?_) (fun c => absurd (if2_eq hw8 hw16) c)
  exact law_again l A hAe Sx hr hlocks hSc hbl hS ls (lv_sub hl [0, 3] rfl)
set_option maxHeartbeats 4000000 in
set_option maxRecDepth 100000 in
theorem law_case_2 {p : Program} {e : Env} {s : State} {m : MethodId} {below : List Frame} {meth : Method} {c : Code} (l : Launch) (D : va_G) (cy : Nat → ClassId) (q t : Nat → Nat) (A : Nat → Prop) (hAe : ∀ w, A w → s.heap.size ≤ w) (hA : ∀ w, s.heap.size ≤ w → A w) {b : Nat} {xs : Nat → Int32} (Sx : CallFix p m c code 4 s #[Value.ref b] BW "WhiteElephantsLaw") (hr : meth.sig.returnType = ret) (hlocks : meth.locks = false) (hK : va_K D cls (TY cy) s) (hX : LX A s) (hSc : va_X b 6 xs s s.heap) (hbl : b < s.heap.size) {H : Heap} {locs : List Loc} {ls : Array Slot} (hl : lv_has ls 4 [(3, .int 0), (2, .ref (t 60)), (1, .ref (q 0)), (0, .ref b)]) (hP : va_P D cls (wX cy q ++ wM cy t) H) (hD : va_D A (wX cy q ++ wM cy t)) (hS : va_S A s.heap H locs) : W p l e room_1 s m #[Value.ref b] below meth c H locs 155 19939 (lw_Z below #[Value.ref b] s) (F0 m 356 ls []) := by
  have hx := Sx.1
  have hb := Sx.2.1
  have hbA : ¬ A b := fun h => absurd (hAe b h) (Nat.not_le.mpr hbl)
  refine lv_aload_n hx hb dd_L_law_356 rfl (lv_at hl 2 rfl) ?_
  refine lv_aload_n hx hb dd_L_law_357 rfl (lv_at hl 3 rfl) ?_
  refine lv_iload_n hx hb dd_L_law_358 rfl (lv_at hl 0 rfl) ?_
  refine lv_iconst (v := 1) hx hb dd_L_law_359 (by decide) ?_
  refine lv_iadd hx hb dd_L_law_360 ?_
  refine wk_int (v := 1) (by decide) ?_
  refine va_sld hx hb hSc hbl hbA hS (i := 1) (vi_of (by decide)) dd_L_law_361 ?_
  refine wk_int (v := xs 1) rfl ?_
  refine lv_aload_n hx hb dd_L_law_362 rfl (lv_at hl 3 rfl) ?_
  refine lv_iload_n hx hb dd_L_law_363 rfl (lv_at hl 0 rfl) ?_
  refine lv_iconst (v := 2) hx hb dd_L_law_364 (by decide) ?_
  refine lv_iadd hx hb dd_L_law_365 ?_
  refine wk_int (v := 2) (by decide) ?_
  refine va_sld hx hb hSc hbl hbA hS (i := 2) (vi_of (by decide)) dd_L_law_366 ?_
  refine wk_int (v := xs 2) rfl ?_
  refine lv_aload_n hx hb dd_L_law_367 rfl (lv_at hl 3 rfl) ?_
  refine lv_iload_n hx hb dd_L_law_368 rfl (lv_at hl 0 rfl) ?_
  refine lv_iconst (v := 3) hx hb dd_L_law_369 (by decide) ?_
  refine lv_iadd hx hb dd_L_law_370 ?_
  refine wk_int (v := 3) (by decide) ?_
  refine va_sld hx hb hSc hbl hbA hS (i := 3) (vi_of (by decide)) dd_L_law_371 ?_
  refine wk_int (v := xs 3) rfl ?_
  refine lv_aload_n hx hb dd_L_law_372 rfl (lv_at hl 3 rfl) ?_
  refine lv_iload_n hx hb dd_L_law_373 rfl (lv_at hl 0 rfl) ?_
  refine lv_iconst (v := 4) hx hb dd_L_law_374 (by decide) ?_
  refine lv_iadd hx hb dd_L_law_375 ?_
  refine wk_int (v := 4) (by decide) ?_
  refine va_sld hx hb hSc hbl hbA hS (i := 4) (vi_of (by decide)) dd_L_law_376 ?_
  refine wk_int (v := xs 4) rfl ?_
  refine lv_aload_n hx hb dd_L_law_377 rfl (lv_at hl 3 rfl) ?_
  refine lv_iload_n hx hb dd_L_law_378 rfl (lv_at hl 0 rfl) ?_
  refine lv_iconst (v := 5) hx hb dd_L_law_379 (by decide) ?_
  refine lv_iadd hx hb dd_L_law_380 ?_
  refine wk_int (v := 5) (by decide) ?_
  refine va_sld hx hb hSc hbl hbA hS (i := 5) (vi_of (by decide)) dd_L_law_381 ?_
  refine wk_int (v := xs 5) rfl ?_
  refine hk_i (wr := (wM cy t)) (c1 := 155) (s1 := 19939) [0, 1, 2, 97, 98, 99, 100, 101, 102, 103, 104, 105, 106, 107, 108, 109, 110, 111, 112] [113, 114, 115, 116, 117, 118, 119, 120, 121, 122, 123, 124, 125, 126, 127, 128, 129, 130, 131, 132, 133, 134, 135, 136, 137, 138, 139, 140, 141, 142, 143, 144, 145, 146, 147, 148, 149, 150, 151, 152, 153, 154] (hc_V [.int (xs 1), .int (xs 2), .int (xs 3), .int (xs 4), .int (xs 5)] [] [0, 1, 2, 97, 98, 99, 100, 101, 102, 103, 104, 105, 106, 107, 108, 109, 110, 111, 112] Sx hl.1 ws_L_25 md_X11_copy (c_X_copy l D cy q (xs 1) (xs 2) (xs 3) (xs 4) (xs 5)) ⟨Nat.le_of_ble_eq_true rfl, Nat.le_of_ble_eq_true rfl⟩ hP hD rfl (by decide) hK nx_b (nx_w hX.1.1) (va_recv hK hP (ci := 11) (q0 := 0) rfl rfl) rfl rfl (Nat.le_of_ble_eq_true rfl) dd_L_law_382 ⟨Nat.le_of_ble_eq_true rfl, Nat.le_of_ble_eq_true rfl⟩) hS hA hP hD rfl rfl (by decide) (by decide) rfl rfl (fun r1 u2 H locs hw3 hP hD hS => ?_)
  have hP : va_P D cls (wM cy t) H := hP
  have hD : va_D A (wM cy t) := hD
  refine lv_aload_n hx hb dd_L_law_385 rfl (lv_at hl 1 rfl) ?_
  refine lv_aload_n hx hb dd_L_law_386 rfl (lv_at hl 3 rfl) ?_
  refine lv_iload_n hx hb dd_L_law_387 rfl (lv_at hl 0 rfl) ?_
  refine lv_iconst (v := 1) hx hb dd_L_law_388 (by decide) ?_
  refine lv_iadd hx hb dd_L_law_389 ?_
  refine wk_int (v := 1) (by decide) ?_
  refine va_sld hx hb hSc hbl hbA hS (i := 1) (vi_of (by decide)) dd_L_law_390 ?_
  refine wk_int (v := xs 1) rfl ?_
  refine lv_aload_n hx hb dd_L_law_391 rfl (lv_at hl 3 rfl) ?_
  refine lv_iload_n hx hb dd_L_law_392 rfl (lv_at hl 0 rfl) ?_
  refine lv_iconst (v := 2) hx hb dd_L_law_393 (by decide) ?_
  refine lv_iadd hx hb dd_L_law_394 ?_
  refine wk_int (v := 2) (by decide) ?_
  refine va_sld hx hb hSc hbl hbA hS (i := 2) (vi_of (by decide)) dd_L_law_395 ?_
  refine wk_int (v := xs 2) rfl ?_
  refine lv_aload_n hx hb dd_L_law_396 rfl (lv_at hl 3 rfl) ?_
  refine lv_iload_n hx hb dd_L_law_397 rfl (lv_at hl 0 rfl) ?_
  refine lv_iconst (v := 3) hx hb dd_L_law_398 (by decide) ?_
  refine lv_iadd hx hb dd_L_law_399 ?_
  refine wk_int (v := 3) (by decide) ?_
  refine va_sld hx hb hSc hbl hbA hS (i := 3) (vi_of (by decide)) dd_L_law_400 ?_
  refine wk_int (v := xs 3) rfl ?_
  refine lv_aload_n hx hb dd_L_law_401 rfl (lv_at hl 3 rfl) ?_
  refine lv_iload_n hx hb dd_L_law_402 rfl (lv_at hl 0 rfl) ?_
  refine lv_iconst (v := 4) hx hb dd_L_law_403 (by decide) ?_
  refine lv_iadd hx hb dd_L_law_404 ?_
  refine wk_int (v := 4) (by decide) ?_
  refine va_sld hx hb hSc hbl hbA hS (i := 4) (vi_of (by decide)) dd_L_law_405 ?_
  refine wk_int (v := xs 4) rfl ?_
  refine lv_aload_n hx hb dd_L_law_406 rfl (lv_at hl 3 rfl) ?_
  refine lv_iload_n hx hb dd_L_law_407 rfl (lv_at hl 0 rfl) ?_
  refine lv_iconst (v := 5) hx hb dd_L_law_408 (by decide) ?_
  refine lv_iadd hx hb dd_L_law_409 ?_
  refine wk_int (v := 5) (by decide) ?_
  refine va_sld hx hb hSc hbl hbA hS (i := 5) (vi_of (by decide)) dd_L_law_410 ?_
  refine wk_int (v := xs 5) rfl ?_
  refine hk_i (wr := []) (c1 := 155) (s1 := 19939) [0, 1, 29] [] (hc_V [.int (xs 1), .int (xs 2), .int (xs 3), .int (xs 4), .int (xs 5)] [.int r1] [0, 1, 29] Sx hl.1 ws_L_29 md_X12_copy (c_M_pub_copy l D cy t (xs 1) (xs 2) (xs 3) (xs 4) (xs 5)) ⟨Nat.le_of_ble_eq_true rfl, Nat.le_of_ble_eq_true rfl⟩ hP hD rfl (by decide) hK nx_b (nx_w hX.1.1) (va_recv hK hP (ci := 12) (q0 := 0) rfl rfl) rfl rfl (Nat.le_of_ble_eq_true rfl) dd_L_law_411 ⟨Nat.le_of_ble_eq_true rfl, Nat.le_of_ble_eq_true rfl⟩) hS hA hP hD rfl rfl (by decide) (by decide) rfl rfl (fun r4 u5 H locs hw6 hP hD hS => ?_)
  refine lv_icmp_eq (tgt := 1731) hx hb dd_L_law_414 (by decide) (fun _ => ?_) (fun c => absurd (if2_eq hw3 hw6) c)
  exact law_again l A hAe Sx hr hlocks hSc hbl hS ls (lv_sub hl [0, 3] rfl)
set_option maxHeartbeats 4000000 in
set_option maxRecDepth 100000 in
theorem law_case_3 {p : Program} {e : Env} {s : State} {m : MethodId} {below : List Frame} {meth : Method} {c : Code} (l : Launch) (D : va_G) (cy : Nat → ClassId) (q t : Nat → Nat) (A : Nat → Prop) (hAe : ∀ w, A w → s.heap.size ≤ w) (hA : ∀ w, s.heap.size ≤ w → A w) {b : Nat} {xs : Nat → Int32} (Sx : CallFix p m c code 4 s #[Value.ref b] BW "WhiteElephantsLaw") (hr : meth.sig.returnType = ret) (hlocks : meth.locks = false) (hK : va_K D cls (TY cy) s) (hX : LX A s) (hSc : va_X b 6 xs s s.heap) (hbl : b < s.heap.size) {H : Heap} {locs : List Loc} {ls : Array Slot} (hl : lv_has ls 4 [(3, .int 0), (2, .ref (t 60)), (1, .ref (q 0)), (0, .ref b)]) (hP : va_P D cls (wX cy q ++ wM cy t) H) (hD : va_D A (wX cy q ++ wM cy t)) (hS : va_S A s.heap H locs) : W p l e room_1 s m #[Value.ref b] below meth c H locs 155 19939 (lw_Z below #[Value.ref b] s) (F0 m 419 ls []) := by
  have hx := Sx.1
  have hb := Sx.2.1
  have hbA : ¬ A b := fun h => absurd (hAe b h) (Nat.not_le.mpr hbl)
  refine lv_aload_n hx hb dd_L_law_419 rfl (lv_at hl 2 rfl) ?_
  refine lv_aload_n hx hb dd_L_law_420 rfl (lv_at hl 3 rfl) ?_
  refine lv_iload_n hx hb dd_L_law_421 rfl (lv_at hl 0 rfl) ?_
  refine lv_iconst (v := 1) hx hb dd_L_law_422 (by decide) ?_
  refine lv_iadd hx hb dd_L_law_423 ?_
  refine wk_int (v := 1) (by decide) ?_
  refine va_sld hx hb hSc hbl hbA hS (i := 1) (vi_of (by decide)) dd_L_law_424 ?_
  refine wk_int (v := xs 1) rfl ?_
  refine lv_aload_n hx hb dd_L_law_425 rfl (lv_at hl 3 rfl) ?_
  refine lv_iload_n hx hb dd_L_law_426 rfl (lv_at hl 0 rfl) ?_
  refine lv_iconst (v := 2) hx hb dd_L_law_427 (by decide) ?_
  refine lv_iadd hx hb dd_L_law_428 ?_
  refine wk_int (v := 2) (by decide) ?_
  refine va_sld hx hb hSc hbl hbA hS (i := 2) (vi_of (by decide)) dd_L_law_429 ?_
  refine wk_int (v := xs 2) rfl ?_
  refine pk_l (pc_V [.int (xs 1), .int (xs 2)] [] Sx hl.1 ws_L_30 md_X11_element (c_X_element l D cy q (xs 1) (xs 2)) ⟨rfl, rfl⟩ ⟨Nat.le_of_ble_eq_true rfl, Nat.le_of_ble_eq_true rfl⟩ (hP.sub [0, 1, 97, 98, 99, 100, 101, 102, 103, 104, 105, 106, 107, 108, 109, 110, 111, 112] rfl) hK ns_b (ns_w hX.1.1) (va_recv hK hP (ci := 11) (q0 := 0) rfl rfl) rfl rfl (Nat.le_of_ble_eq_true rfl) dd_L_law_430 ⟨Nat.le_of_ble_eq_true rfl, Nat.le_of_ble_eq_true rfl⟩) (fun r1 hw2 => ?_)
  subst hw2
  refine lv_aload_n hx hb dd_L_law_433 rfl (lv_at hl 1 rfl) ?_
  refine lv_aload_n hx hb dd_L_law_434 rfl (lv_at hl 3 rfl) ?_
  refine lv_iload_n hx hb dd_L_law_435 rfl (lv_at hl 0 rfl) ?_
  refine lv_iconst (v := 1) hx hb dd_L_law_436 (by decide) ?_
  refine lv_iadd hx hb dd_L_law_437 ?_
  refine wk_int (v := 1) (by decide) ?_
  refine va_sld hx hb hSc hbl hbA hS (i := 1) (vi_of (by decide)) dd_L_law_438 ?_
  refine wk_int (v := xs 1) rfl ?_
  refine lv_aload_n hx hb dd_L_law_439 rfl (lv_at hl 3 rfl) ?_
  refine lv_iload_n hx hb dd_L_law_440 rfl (lv_at hl 0 rfl) ?_
  refine lv_iconst (v := 2) hx hb dd_L_law_441 (by decide) ?_
  refine lv_iadd hx hb dd_L_law_442 ?_
  refine wk_int (v := 2) (by decide) ?_
  refine va_sld hx hb hSc hbl hbA hS (i := 2) (vi_of (by decide)) dd_L_law_443 ?_
  refine wk_int (v := xs 2) rfl ?_
  refine pk_l (pc_V [.int (xs 1), .int (xs 2)] [.long 0] Sx hl.1 ws_L_34 md_X12_element (c_M_pub_element l D cy t (xs 1) (xs 2)) ⟨rfl, rfl⟩ ⟨Nat.le_of_ble_eq_true rfl, Nat.le_of_ble_eq_true rfl⟩ (hP.sub [113, 114] rfl) hK ns_b (ns_w hX.1.1) (va_recv hK hP (ci := 12) (q0 := 113) rfl rfl) rfl rfl (Nat.le_of_ble_eq_true rfl) dd_L_law_444 ⟨Nat.le_of_ble_eq_true rfl, Nat.le_of_ble_eq_true rfl⟩) (fun r3 hw4 => ?_)
  subst hw4
  refine W.lcmp hx hb dd_L_law_447 ?_
  refine wk_int (v := 0) (by decide) ?_
  refine lv_if_eq (tgt := 1731) hx hb dd_L_law_448 (by decide) (fun _ => ?_) (fun c => absurd c (by decide))
  exact law_again l A hAe Sx hr hlocks hSc hbl hS ls (lv_sub hl [0, 3] rfl)
set_option maxHeartbeats 4000000 in
set_option maxRecDepth 100000 in
theorem law_case_4 {p : Program} {e : Env} {s : State} {m : MethodId} {below : List Frame} {meth : Method} {c : Code} (l : Launch) (D : va_G) (cy : Nat → ClassId) (q t : Nat → Nat) (A : Nat → Prop) (hAe : ∀ w, A w → s.heap.size ≤ w) (hA : ∀ w, s.heap.size ≤ w → A w) {b : Nat} {xs : Nat → Int32} (Sx : CallFix p m c code 4 s #[Value.ref b] BW "WhiteElephantsLaw") (hr : meth.sig.returnType = ret) (hlocks : meth.locks = false) (hK : va_K D cls (TY cy) s) (hX : LX A s) (hSc : va_X b 6 xs s s.heap) (hbl : b < s.heap.size) {H : Heap} {locs : List Loc} {ls : Array Slot} (hl : lv_has ls 4 [(3, .int 0), (2, .ref (t 60)), (1, .ref (q 0)), (0, .ref b)]) (hP : va_P D cls (wX cy q ++ wM cy t) H) (hD : va_D A (wX cy q ++ wM cy t)) (hS : va_S A s.heap H locs) : W p l e room_1 s m #[Value.ref b] below meth c H locs 155 19939 (lw_Z below #[Value.ref b] s) (F0 m 453 ls []) := by
  have hx := Sx.1
  have hb := Sx.2.1
  have hbA : ¬ A b := fun h => absurd (hAe b h) (Nat.not_le.mpr hbl)
  refine lv_aload_n hx hb dd_L_law_453 rfl (lv_at hl 2 rfl) ?_
  refine lv_aload_n hx hb dd_L_law_454 rfl (lv_at hl 3 rfl) ?_
  refine lv_iload_n hx hb dd_L_law_455 rfl (lv_at hl 0 rfl) ?_
  refine lv_iconst (v := 1) hx hb dd_L_law_456 (by decide) ?_
  refine lv_iadd hx hb dd_L_law_457 ?_
  refine wk_int (v := 1) (by decide) ?_
  refine va_sld hx hb hSc hbl hbA hS (i := 1) (vi_of (by decide)) dd_L_law_458 ?_
  refine wk_int (v := xs 1) rfl ?_
  refine pk_i (pc_V [.int (xs 1)] [] Sx hl.1 ws_L_35 md_X11_holds (c_X_holds l D cy q (xs 1)) ⟨rfl, rfl⟩ ⟨Nat.le_of_ble_eq_true rfl, Nat.le_of_ble_eq_true rfl⟩ (hP.sub [0, 1, 97, 98, 99, 100, 101, 102, 103, 104, 105, 106, 107, 108, 109, 110, 111, 112] rfl) hK ns_b (ns_w hX.1.1) (va_recv hK hP (ci := 11) (q0 := 0) rfl rfl) rfl rfl (Nat.le_of_ble_eq_true rfl) dd_L_law_459 ⟨Nat.le_of_ble_eq_true rfl, Nat.le_of_ble_eq_true rfl⟩) (fun r1 hw2 => ?_)
  refine lv_aload_n hx hb dd_L_law_462 rfl (lv_at hl 1 rfl) ?_
  refine lv_aload_n hx hb dd_L_law_463 rfl (lv_at hl 3 rfl) ?_
  refine lv_iload_n hx hb dd_L_law_464 rfl (lv_at hl 0 rfl) ?_
  refine lv_iconst (v := 1) hx hb dd_L_law_465 (by decide) ?_
  refine lv_iadd hx hb dd_L_law_466 ?_
  refine wk_int (v := 1) (by decide) ?_
  refine va_sld hx hb hSc hbl hbA hS (i := 1) (vi_of (by decide)) dd_L_law_467 ?_
  refine wk_int (v := xs 1) rfl ?_
  refine pk_i (pc_V [.int (xs 1)] [.int r1] Sx hl.1 ws_L_39 md_X12_holds (c_M_pub_holds l D cy t (xs 1)) ⟨rfl, rfl⟩ ⟨Nat.le_of_ble_eq_true rfl, Nat.le_of_ble_eq_true rfl⟩ (hP.sub [113, 114] rfl) hK ns_b (ns_w hX.1.1) (va_recv hK hP (ci := 12) (q0 := 113) rfl rfl) rfl rfl (Nat.le_of_ble_eq_true rfl) dd_L_law_468 ⟨Nat.le_of_ble_eq_true rfl, Nat.le_of_ble_eq_true rfl⟩) (fun r3 hw4 => ?_)
  refine lv_icmp_eq (tgt := 1731) hx hb dd_L_law_471 (by decide) (fun _ => ?_) (fun c => absurd (hw2.trans hw4.symm) c)
  exact law_again l A hAe Sx hr hlocks hSc hbl hS ls (lv_sub hl [0, 3] rfl)
set_option maxHeartbeats 4000000 in
set_option maxRecDepth 100000 in
theorem law_case_5 {p : Program} {e : Env} {s : State} {m : MethodId} {below : List Frame} {meth : Method} {c : Code} (l : Launch) (D : va_G) (cy : Nat → ClassId) (q t : Nat → Nat) (A : Nat → Prop) (hAe : ∀ w, A w → s.heap.size ≤ w) (hA : ∀ w, s.heap.size ≤ w → A w) {b : Nat} {xs : Nat → Int32} (Sx : CallFix p m c code 4 s #[Value.ref b] BW "WhiteElephantsLaw") (hr : meth.sig.returnType = ret) (hlocks : meth.locks = false) (hK : va_K D cls (TY cy) s) (hX : LX A s) (hSc : va_X b 6 xs s s.heap) (hbl : b < s.heap.size) {H : Heap} {locs : List Loc} {ls : Array Slot} (hl : lv_has ls 4 [(3, .int 0), (2, .ref (t 60)), (1, .ref (q 0)), (0, .ref b)]) (hP : va_P D cls (wX cy q ++ wM cy t) H) (hD : va_D A (wX cy q ++ wM cy t)) (hS : va_S A s.heap H locs) : W p l e room_1 s m #[Value.ref b] below meth c H locs 155 19939 (lw_Z below #[Value.ref b] s) (F0 m 476 ls []) := by
  have hx := Sx.1
  have hb := Sx.2.1
  have hbA : ¬ A b := fun h => absurd (hAe b h) (Nat.not_le.mpr hbl)
  refine lv_aload_n hx hb dd_L_law_476 rfl (lv_at hl 2 rfl) ?_
  refine lv_aload_n hx hb dd_L_law_477 rfl (lv_at hl 3 rfl) ?_
  refine lv_iload_n hx hb dd_L_law_478 rfl (lv_at hl 0 rfl) ?_
  refine lv_iconst (v := 1) hx hb dd_L_law_479 (by decide) ?_
  refine lv_iadd hx hb dd_L_law_480 ?_
  refine wk_int (v := 1) (by decide) ?_
  refine va_sld hx hb hSc hbl hbA hS (i := 1) (vi_of (by decide)) dd_L_law_481 ?_
  refine wk_int (v := xs 1) rfl ?_
  refine lv_aload_n hx hb dd_L_law_482 rfl (lv_at hl 3 rfl) ?_
  refine lv_iload_n hx hb dd_L_law_483 rfl (lv_at hl 0 rfl) ?_
  refine lv_iconst (v := 2) hx hb dd_L_law_484 (by decide) ?_
  refine lv_iadd hx hb dd_L_law_485 ?_
  refine wk_int (v := 2) (by decide) ?_
  refine va_sld hx hb hSc hbl hbA hS (i := 2) (vi_of (by decide)) dd_L_law_486 ?_
  refine wk_int (v := xs 2) rfl ?_
  refine hk_i (wr := (wM cy t)) (c1 := 155) (s1 := 19939) [0, 1, 2, 5, 6, 97, 98, 99, 100, 101, 102, 103, 104, 105, 106, 107, 108, 109, 110, 111, 112] [113, 114, 115, 116, 117, 118, 119, 120, 121, 122, 123, 124, 125, 126, 127, 128, 129, 130, 131, 132, 133, 134, 135, 136, 137, 138, 139, 140, 141, 142, 143, 144, 145, 146, 147, 148, 149, 150, 151, 152, 153, 154] (hc_V [.int (xs 1), .int (xs 2)] [] [0, 1, 2, 5, 6, 97, 98, 99, 100, 101, 102, 103, 104, 105, 106, 107, 108, 109, 110, 111, 112] Sx hl.1 ws_L_40 md_X11_show (c_X_show l D cy q (xs 1) (xs 2)) ⟨Nat.le_of_ble_eq_true rfl, Nat.le_of_ble_eq_true rfl⟩ hP hD rfl (by decide) hK nx_b (nx_w hX.1.1) (va_recv hK hP (ci := 11) (q0 := 0) rfl rfl) rfl rfl (Nat.le_of_ble_eq_true rfl) dd_L_law_487 ⟨Nat.le_of_ble_eq_true rfl, Nat.le_of_ble_eq_true rfl⟩) hS hA hP hD rfl rfl (by decide) (by decide) rfl rfl (fun r1 u2 H locs hw3 hP hD hS => ?_)
  have hP : va_P D cls (wM cy t) H := hP
  have hD : va_D A (wM cy t) := hD
  refine lv_aload_n hx hb dd_L_law_490 rfl (lv_at hl 1 rfl) ?_
  refine lv_aload_n hx hb dd_L_law_491 rfl (lv_at hl 3 rfl) ?_
  refine lv_iload_n hx hb dd_L_law_492 rfl (lv_at hl 0 rfl) ?_
  refine lv_iconst (v := 1) hx hb dd_L_law_493 (by decide) ?_
  refine lv_iadd hx hb dd_L_law_494 ?_
  refine wk_int (v := 1) (by decide) ?_
  refine va_sld hx hb hSc hbl hbA hS (i := 1) (vi_of (by decide)) dd_L_law_495 ?_
  refine wk_int (v := xs 1) rfl ?_
  refine lv_aload_n hx hb dd_L_law_496 rfl (lv_at hl 3 rfl) ?_
  refine lv_iload_n hx hb dd_L_law_497 rfl (lv_at hl 0 rfl) ?_
  refine lv_iconst (v := 2) hx hb dd_L_law_498 (by decide) ?_
  refine lv_iadd hx hb dd_L_law_499 ?_
  refine wk_int (v := 2) (by decide) ?_
  refine va_sld hx hb hSc hbl hbA hS (i := 2) (vi_of (by decide)) dd_L_law_500 ?_
  refine wk_int (v := xs 2) rfl ?_
  refine hk_i (wr := []) (c1 := 155) (s1 := 19939) [0, 1, 29] [] (hc_V [.int (xs 1), .int (xs 2)] [.int r1] [0, 1, 29] Sx hl.1 ws_L_44 md_X12_show (c_M_pub_show l D cy t (xs 1) (xs 2)) ⟨Nat.le_of_ble_eq_true rfl, Nat.le_of_ble_eq_true rfl⟩ hP hD rfl (by decide) hK nx_b (nx_w hX.1.1) (va_recv hK hP (ci := 12) (q0 := 0) rfl rfl) rfl rfl (Nat.le_of_ble_eq_true rfl) dd_L_law_501 ⟨Nat.le_of_ble_eq_true rfl, Nat.le_of_ble_eq_true rfl⟩) hS hA hP hD rfl rfl (by decide) (by decide) rfl rfl (fun r4 u5 H locs hw6 hP hD hS => ?_)
  refine lv_icmp_eq (tgt := 1731) hx hb dd_L_law_504 (by decide) (fun _ => ?_) (fun c => absurd (if2_eq hw3 hw6) c)
  exact law_again l A hAe Sx hr hlocks hSc hbl hS ls (lv_sub hl [0, 3] rfl)
set_option maxHeartbeats 4000000 in
set_option maxRecDepth 100000 in
theorem law_case_6 {p : Program} {e : Env} {s : State} {m : MethodId} {below : List Frame} {meth : Method} {c : Code} (l : Launch) (D : va_G) (cy : Nat → ClassId) (q t : Nat → Nat) (A : Nat → Prop) (hAe : ∀ w, A w → s.heap.size ≤ w) (hA : ∀ w, s.heap.size ≤ w → A w) {b : Nat} {xs : Nat → Int32} (Sx : CallFix p m c code 4 s #[Value.ref b] BW "WhiteElephantsLaw") (hr : meth.sig.returnType = ret) (hlocks : meth.locks = false) (hK : va_K D cls (TY cy) s) (hX : LX A s) (hSc : va_X b 6 xs s s.heap) (hbl : b < s.heap.size) {H : Heap} {locs : List Loc} {ls : Array Slot} (hl : lv_has ls 4 [(3, .int 0), (2, .ref (t 60)), (1, .ref (q 0)), (0, .ref b)]) (hP : va_P D cls (wX cy q ++ wM cy t) H) (hD : va_D A (wX cy q ++ wM cy t)) (hS : va_S A s.heap H locs) : W p l e room_1 s m #[Value.ref b] below meth c H locs 155 19939 (lw_Z below #[Value.ref b] s) (F0 m 509 ls []) := by
  have hx := Sx.1
  have hb := Sx.2.1
  have hbA : ¬ A b := fun h => absurd (hAe b h) (Nat.not_le.mpr hbl)
  refine lv_aload_n hx hb dd_L_law_509 rfl (lv_at hl 2 rfl) ?_
  refine lv_aload_n hx hb dd_L_law_510 rfl (lv_at hl 3 rfl) ?_
  refine lv_iload_n hx hb dd_L_law_511 rfl (lv_at hl 0 rfl) ?_
  refine lv_iconst (v := 1) hx hb dd_L_law_512 (by decide) ?_
  refine lv_iadd hx hb dd_L_law_513 ?_
  refine wk_int (v := 1) (by decide) ?_
  refine va_sld hx hb hSc hbl hbA hS (i := 1) (vi_of (by decide)) dd_L_law_514 ?_
  refine wk_int (v := xs 1) rfl ?_
  refine lv_aload_n hx hb dd_L_law_515 rfl (lv_at hl 3 rfl) ?_
  refine lv_iload_n hx hb dd_L_law_516 rfl (lv_at hl 0 rfl) ?_
  refine lv_iconst (v := 2) hx hb dd_L_law_517 (by decide) ?_
  refine lv_iadd hx hb dd_L_law_518 ?_
  refine wk_int (v := 2) (by decide) ?_
  refine va_sld hx hb hSc hbl hbA hS (i := 2) (vi_of (by decide)) dd_L_law_519 ?_
  refine wk_int (v := xs 2) rfl ?_
  refine hk_i (wr := (wM cy t)) (c1 := 155) (s1 := 19939) [0, 1, 2, 97, 98, 99, 100, 101, 102, 103, 104, 105, 106, 107, 108, 109, 110, 111, 112] [113, 114, 115, 116, 117, 118, 119, 120, 121, 122, 123, 124, 125, 126, 127, 128, 129, 130, 131, 132, 133, 134, 135, 136, 137, 138, 139, 140, 141, 142, 143, 144, 145, 146, 147, 148, 149, 150, 151, 152, 153, 154] (hc_V [.int (xs 1), .int (xs 2)] [] [0, 1, 2, 97, 98, 99, 100, 101, 102, 103, 104, 105, 106, 107, 108, 109, 110, 111, 112] Sx hl.1 ws_L_45 md_X11_says (c_X_says l D cy q (xs 1) (xs 2)) ⟨Nat.le_of_ble_eq_true rfl, Nat.le_of_ble_eq_true rfl⟩ hP hD rfl (by decide) hK nx_b (nx_w hX.1.1) (va_recv hK hP (ci := 11) (q0 := 0) rfl rfl) rfl rfl (Nat.le_of_ble_eq_true rfl) dd_L_law_520 ⟨Nat.le_of_ble_eq_true rfl, Nat.le_of_ble_eq_true rfl⟩) hS hA hP hD rfl rfl (by decide) (by decide) rfl rfl (fun r1 u2 H locs hw3 hP hD hS => ?_)
  have hP : va_P D cls (wM cy t) H := hP
  have hD : va_D A (wM cy t) := hD
  refine lv_aload_n hx hb dd_L_law_523 rfl (lv_at hl 1 rfl) ?_
  refine lv_aload_n hx hb dd_L_law_524 rfl (lv_at hl 3 rfl) ?_
  refine lv_iload_n hx hb dd_L_law_525 rfl (lv_at hl 0 rfl) ?_
  refine lv_iconst (v := 1) hx hb dd_L_law_526 (by decide) ?_
  refine lv_iadd hx hb dd_L_law_527 ?_
  refine wk_int (v := 1) (by decide) ?_
  refine va_sld hx hb hSc hbl hbA hS (i := 1) (vi_of (by decide)) dd_L_law_528 ?_
  refine wk_int (v := xs 1) rfl ?_
  refine lv_aload_n hx hb dd_L_law_529 rfl (lv_at hl 3 rfl) ?_
  refine lv_iload_n hx hb dd_L_law_530 rfl (lv_at hl 0 rfl) ?_
  refine lv_iconst (v := 2) hx hb dd_L_law_531 (by decide) ?_
  refine lv_iadd hx hb dd_L_law_532 ?_
  refine wk_int (v := 2) (by decide) ?_
  refine va_sld hx hb hSc hbl hbA hS (i := 2) (vi_of (by decide)) dd_L_law_533 ?_
  refine wk_int (v := xs 2) rfl ?_
  refine hk_i (wr := []) (c1 := 155) (s1 := 19939) [0, 1, 29] [] (hc_V [.int (xs 1), .int (xs 2)] [.int r1] [0, 1, 29] Sx hl.1 ws_L_48 md_X12_says (c_M_pub_says l D cy t (xs 1) (xs 2)) ⟨Nat.le_of_ble_eq_true rfl, Nat.le_of_ble_eq_true rfl⟩ hP hD rfl (by decide) hK nx_b (nx_w hX.1.1) (va_recv hK hP (ci := 12) (q0 := 0) rfl rfl) rfl rfl (Nat.le_of_ble_eq_true rfl) dd_L_law_534 ⟨Nat.le_of_ble_eq_true rfl, Nat.le_of_ble_eq_true rfl⟩) hS hA hP hD rfl rfl (by decide) (by decide) rfl rfl (fun r4 u5 H locs hw6 hP hD hS => ?_)
  refine lv_icmp_eq (tgt := 1731) hx hb dd_L_law_537 (by decide) (fun _ => ?_) (fun c => absurd (if2_eq hw3 hw6) c)
  exact law_again l A hAe Sx hr hlocks hSc hbl hS ls (lv_sub hl [0, 3] rfl)
set_option maxHeartbeats 4000000 in
set_option maxRecDepth 100000 in
theorem law_case_7 {p : Program} {e : Env} {s : State} {m : MethodId} {below : List Frame} {meth : Method} {c : Code} (l : Launch) (D : va_G) (cy : Nat → ClassId) (q t : Nat → Nat) (A : Nat → Prop) (hAe : ∀ w, A w → s.heap.size ≤ w) (hA : ∀ w, s.heap.size ≤ w → A w) {b : Nat} {xs : Nat → Int32} (Sx : CallFix p m c code 4 s #[Value.ref b] BW "WhiteElephantsLaw") (hr : meth.sig.returnType = ret) (hlocks : meth.locks = false) (hK : va_K D cls (TY cy) s) (hX : LX A s) (hSc : va_X b 6 xs s s.heap) (hbl : b < s.heap.size) {H : Heap} {locs : List Loc} {ls : Array Slot} (hl : lv_has ls 4 [(3, .int 0), (2, .ref (t 60)), (1, .ref (q 0)), (0, .ref b)]) (hP : va_P D cls (wX cy q ++ wM cy t) H) (hD : va_D A (wX cy q ++ wM cy t)) (hS : va_S A s.heap H locs) : W p l e room_1 s m #[Value.ref b] below meth c H locs 155 19939 (lw_Z below #[Value.ref b] s) (F0 m 542 ls []) := by
  have hx := Sx.1
  have hb := Sx.2.1
  have hbA : ¬ A b := fun h => absurd (hAe b h) (Nat.not_le.mpr hbl)
  refine lv_aload_n hx hb dd_L_law_542 rfl (lv_at hl 2 rfl) ?_
  refine lv_aload_n hx hb dd_L_law_543 rfl (lv_at hl 3 rfl) ?_
  refine lv_iload_n hx hb dd_L_law_544 rfl (lv_at hl 0 rfl) ?_
  refine lv_iconst (v := 1) hx hb dd_L_law_545 (by decide) ?_
  refine lv_iadd hx hb dd_L_law_546 ?_
  refine wk_int (v := 1) (by decide) ?_
  refine va_sld hx hb hSc hbl hbA hS (i := 1) (vi_of (by decide)) dd_L_law_547 ?_
  refine wk_int (v := xs 1) rfl ?_
  refine lv_aload_n hx hb dd_L_law_548 rfl (lv_at hl 3 rfl) ?_
  refine lv_iload_n hx hb dd_L_law_549 rfl (lv_at hl 0 rfl) ?_
  refine lv_iconst (v := 2) hx hb dd_L_law_550 (by decide) ?_
  refine lv_iadd hx hb dd_L_law_551 ?_
  refine wk_int (v := 2) (by decide) ?_
  refine va_sld hx hb hSc hbl hbA hS (i := 2) (vi_of (by decide)) dd_L_law_552 ?_
  refine wk_int (v := xs 2) rfl ?_
  refine lv_aload_n hx hb dd_L_law_553 rfl (lv_at hl 3 rfl) ?_
  refine lv_iload_n hx hb dd_L_law_554 rfl (lv_at hl 0 rfl) ?_
  refine lv_iconst (v := 3) hx hb dd_L_law_555 (by decide) ?_
  refine lv_iadd hx hb dd_L_law_556 ?_
  refine wk_int (v := 3) (by decide) ?_
  refine va_sld hx hb hSc hbl hbA hS (i := 3) (vi_of (by decide)) dd_L_law_557 ?_
  refine wk_int (v := xs 3) rfl ?_
  refine hk_i (wr := (wM cy t)) (c1 := 155) (s1 := 19939) [0, 2, 5, 6, 7, 8, 9, 10, 11, 12, 13] [113, 114, 115, 116, 117, 118, 119, 120, 121, 122, 123, 124, 125, 126, 127, 128, 129, 130, 131, 132, 133, 134, 135, 136, 137, 138, 139, 140, 141, 142, 143, 144, 145, 146, 147, 148, 149, 150, 151, 152, 153, 154] (hc_V [.int (xs 1), .int (xs 2), .int (xs 3)] [] [0, 2, 5, 6, 7, 8, 9, 10, 11, 12, 13] Sx hl.1 ws_L_49 md_X11_thing (c_X_thing l D cy q (xs 1) (xs 2) (xs 3)) ⟨Nat.le_of_ble_eq_true rfl, Nat.le_of_ble_eq_true rfl⟩ hP hD rfl (by decide) hK nx_b (nx_w hX.1.1) (va_recv hK hP (ci := 11) (q0 := 0) rfl rfl) rfl rfl (Nat.le_of_ble_eq_true rfl) dd_L_law_558 ⟨Nat.le_of_ble_eq_true rfl, Nat.le_of_ble_eq_true rfl⟩) hS hA hP hD rfl rfl (by decide) (by decide) rfl rfl (fun r1 u2 H locs hw3 hP hD hS => ?_)
  have hP : va_P D cls (wM cy t) H := hP
  have hD : va_D A (wM cy t) := hD
  refine lv_aload_n hx hb dd_L_law_561 rfl (lv_at hl 1 rfl) ?_
  refine lv_aload_n hx hb dd_L_law_562 rfl (lv_at hl 3 rfl) ?_
  refine lv_iload_n hx hb dd_L_law_563 rfl (lv_at hl 0 rfl) ?_
  refine lv_iconst (v := 1) hx hb dd_L_law_564 (by decide) ?_
  refine lv_iadd hx hb dd_L_law_565 ?_
  refine wk_int (v := 1) (by decide) ?_
  refine va_sld hx hb hSc hbl hbA hS (i := 1) (vi_of (by decide)) dd_L_law_566 ?_
  refine wk_int (v := xs 1) rfl ?_
  refine lv_aload_n hx hb dd_L_law_567 rfl (lv_at hl 3 rfl) ?_
  refine lv_iload_n hx hb dd_L_law_568 rfl (lv_at hl 0 rfl) ?_
  refine lv_iconst (v := 2) hx hb dd_L_law_569 (by decide) ?_
  refine lv_iadd hx hb dd_L_law_570 ?_
  refine wk_int (v := 2) (by decide) ?_
  refine va_sld hx hb hSc hbl hbA hS (i := 2) (vi_of (by decide)) dd_L_law_571 ?_
  refine wk_int (v := xs 2) rfl ?_
  refine lv_aload_n hx hb dd_L_law_572 rfl (lv_at hl 3 rfl) ?_
  refine lv_iload_n hx hb dd_L_law_573 rfl (lv_at hl 0 rfl) ?_
  refine lv_iconst (v := 3) hx hb dd_L_law_574 (by decide) ?_
  refine lv_iadd hx hb dd_L_law_575 ?_
  refine wk_int (v := 3) (by decide) ?_
  refine va_sld hx hb hSc hbl hbA hS (i := 3) (vi_of (by decide)) dd_L_law_576 ?_
  refine wk_int (v := xs 3) rfl ?_
  refine hk_i (wr := []) (c1 := 155) (s1 := 19939) [0, 4, 5, 6, 7, 8, 9, 29] [] (hc_V [.int (xs 1), .int (xs 2), .int (xs 3)] [.int r1] [0, 4, 5, 6, 7, 8, 9, 29] Sx hl.1 ws_L_52 md_X12_thing (c_M_pub_thing l D cy t (xs 1) (xs 2) (xs 3)) ⟨Nat.le_of_ble_eq_true rfl, Nat.le_of_ble_eq_true rfl⟩ hP hD rfl (by decide) hK nx_b (nx_w hX.1.1) (va_recv hK hP (ci := 12) (q0 := 0) rfl rfl) rfl rfl (Nat.le_of_ble_eq_true rfl) dd_L_law_577 ⟨Nat.le_of_ble_eq_true rfl, Nat.le_of_ble_eq_true rfl⟩) hS hA hP hD rfl rfl (by decide) (by decide) rfl rfl (fun r4 u5 H locs hw6 hP hD hS => ?_)
  refine lv_icmp_eq (tgt := 1731) hx hb dd_L_law_580 (by decide) (fun _ => ?_) (fun c => absurd (if2_eq hw3 hw6) c)
  exact law_again l A hAe Sx hr hlocks hSc hbl hS ls (lv_sub hl [0, 3] rfl)
set_option maxHeartbeats 4000000 in
set_option maxRecDepth 100000 in
theorem law_case_8 {p : Program} {e : Env} {s : State} {m : MethodId} {below : List Frame} {meth : Method} {c : Code} (l : Launch) (D : va_G) (cy : Nat → ClassId) (q t : Nat → Nat) (A : Nat → Prop) (hAe : ∀ w, A w → s.heap.size ≤ w) (hA : ∀ w, s.heap.size ≤ w → A w) {b : Nat} {xs : Nat → Int32} (Sx : CallFix p m c code 4 s #[Value.ref b] BW "WhiteElephantsLaw") (hr : meth.sig.returnType = ret) (hlocks : meth.locks = false) (hK : va_K D cls (TY cy) s) (hX : LX A s) (hSc : va_X b 6 xs s s.heap) (hbl : b < s.heap.size) {H : Heap} {locs : List Loc} {ls : Array Slot} (hl : lv_has ls 4 [(3, .int 0), (2, .ref (t 60)), (1, .ref (q 0)), (0, .ref b)]) (hP : va_P D cls (wX cy q ++ wM cy t) H) (hD : va_D A (wX cy q ++ wM cy t)) (hS : va_S A s.heap H locs) : W p l e room_1 s m #[Value.ref b] below meth c H locs 155 19939 (lw_Z below #[Value.ref b] s) (F0 m 585 ls []) := by
  have hx := Sx.1
  have hb := Sx.2.1
  have hbA : ¬ A b := fun h => absurd (hAe b h) (Nat.not_le.mpr hbl)
  refine lv_aload_n hx hb dd_L_law_585 rfl (lv_at hl 2 rfl) ?_
  refine lv_aload_n hx hb dd_L_law_586 rfl (lv_at hl 3 rfl) ?_
  refine lv_iload_n hx hb dd_L_law_587 rfl (lv_at hl 0 rfl) ?_
  refine lv_iconst (v := 1) hx hb dd_L_law_588 (by decide) ?_
  refine lv_iadd hx hb dd_L_law_589 ?_
  refine wk_int (v := 1) (by decide) ?_
  refine va_sld hx hb hSc hbl hbA hS (i := 1) (vi_of (by decide)) dd_L_law_590 ?_
  refine wk_int (v := xs 1) rfl ?_
  refine lv_aload_n hx hb dd_L_law_591 rfl (lv_at hl 3 rfl) ?_
  refine lv_iload_n hx hb dd_L_law_592 rfl (lv_at hl 0 rfl) ?_
  refine lv_iconst (v := 2) hx hb dd_L_law_593 (by decide) ?_
  refine lv_iadd hx hb dd_L_law_594 ?_
  refine wk_int (v := 2) (by decide) ?_
  refine va_sld hx hb hSc hbl hbA hS (i := 2) (vi_of (by decide)) dd_L_law_595 ?_
  refine wk_int (v := xs 2) rfl ?_
  refine lv_aload_n hx hb dd_L_law_596 rfl (lv_at hl 3 rfl) ?_
  refine lv_iload_n hx hb dd_L_law_597 rfl (lv_at hl 0 rfl) ?_
  refine lv_iconst (v := 3) hx hb dd_L_law_598 (by decide) ?_
  refine lv_iadd hx hb dd_L_law_599 ?_
  refine wk_int (v := 3) (by decide) ?_
  refine va_sld hx hb hSc hbl hbA hS (i := 3) (vi_of (by decide)) dd_L_law_600 ?_
  refine wk_int (v := xs 3) rfl ?_
  refine hk_i (wr := (wM cy t)) (c1 := 155) (s1 := 19939) [0, 1, 2, 97, 98, 99, 100, 101, 102, 103, 104, 105, 106, 107, 108, 109, 110, 111, 112] [113, 114, 115, 116, 117, 118, 119, 120, 121, 122, 123, 124, 125, 126, 127, 128, 129, 130, 131, 132, 133, 134, 135, 136, 137, 138, 139, 140, 141, 142, 143, 144, 145, 146, 147, 148, 149, 150, 151, 152, 153, 154] (hc_V [.int (xs 1), .int (xs 2), .int (xs 3)] [] [0, 1, 2, 97, 98, 99, 100, 101, 102, 103, 104, 105, 106, 107, 108, 109, 110, 111, 112] Sx hl.1 ws_L_53 md_X11_things (c_X_things l D cy q (xs 1) (xs 2) (xs 3)) ⟨Nat.le_of_ble_eq_true rfl, Nat.le_of_ble_eq_true rfl⟩ hP hD rfl (by decide) hK nx_b (nx_w hX.1.1) (va_recv hK hP (ci := 11) (q0 := 0) rfl rfl) rfl rfl (Nat.le_of_ble_eq_true rfl) dd_L_law_601 ⟨Nat.le_of_ble_eq_true rfl, Nat.le_of_ble_eq_true rfl⟩) hS hA hP hD rfl rfl (by decide) (by decide) rfl rfl (fun r1 u2 H locs hw3 hP hD hS => ?_)
  have hP : va_P D cls (wM cy t) H := hP
  have hD : va_D A (wM cy t) := hD
  refine lv_aload_n hx hb dd_L_law_604 rfl (lv_at hl 1 rfl) ?_
  refine lv_aload_n hx hb dd_L_law_605 rfl (lv_at hl 3 rfl) ?_
  refine lv_iload_n hx hb dd_L_law_606 rfl (lv_at hl 0 rfl) ?_
  refine lv_iconst (v := 1) hx hb dd_L_law_607 (by decide) ?_
  refine lv_iadd hx hb dd_L_law_608 ?_
  refine wk_int (v := 1) (by decide) ?_
  refine va_sld hx hb hSc hbl hbA hS (i := 1) (vi_of (by decide)) dd_L_law_609 ?_
  refine wk_int (v := xs 1) rfl ?_
  refine lv_aload_n hx hb dd_L_law_610 rfl (lv_at hl 3 rfl) ?_
  refine lv_iload_n hx hb dd_L_law_611 rfl (lv_at hl 0 rfl) ?_
  refine lv_iconst (v := 2) hx hb dd_L_law_612 (by decide) ?_
  refine lv_iadd hx hb dd_L_law_613 ?_
  refine wk_int (v := 2) (by decide) ?_
  refine va_sld hx hb hSc hbl hbA hS (i := 2) (vi_of (by decide)) dd_L_law_614 ?_
  refine wk_int (v := xs 2) rfl ?_
  refine lv_aload_n hx hb dd_L_law_615 rfl (lv_at hl 3 rfl) ?_
  refine lv_iload_n hx hb dd_L_law_616 rfl (lv_at hl 0 rfl) ?_
  refine lv_iconst (v := 3) hx hb dd_L_law_617 (by decide) ?_
  refine lv_iadd hx hb dd_L_law_618 ?_
  refine wk_int (v := 3) (by decide) ?_
  refine va_sld hx hb hSc hbl hbA hS (i := 3) (vi_of (by decide)) dd_L_law_619 ?_
  refine wk_int (v := xs 3) rfl ?_
  refine hk_i (wr := []) (c1 := 155) (s1 := 19939) [0, 1, 29] [] (hc_V [.int (xs 1), .int (xs 2), .int (xs 3)] [.int r1] [0, 1, 29] Sx hl.1 ws_L_56 md_X12_things (c_M_pub_things l D cy t (xs 1) (xs 2) (xs 3)) ⟨Nat.le_of_ble_eq_true rfl, Nat.le_of_ble_eq_true rfl⟩ hP hD rfl (by decide) hK nx_b (nx_w hX.1.1) (va_recv hK hP (ci := 12) (q0 := 0) rfl rfl) rfl rfl (Nat.le_of_ble_eq_true rfl) dd_L_law_620 ⟨Nat.le_of_ble_eq_true rfl, Nat.le_of_ble_eq_true rfl⟩) hS hA hP hD rfl rfl (by decide) (by decide) rfl rfl (fun r4 u5 H locs hw6 hP hD hS => ?_)
  refine lv_icmp_eq (tgt := 1731) hx hb dd_L_law_623 (by decide) (fun _ => ?_) (fun c => absurd (if2_eq hw3 hw6) c)
  exact law_again l A hAe Sx hr hlocks hSc hbl hS ls (lv_sub hl [0, 3] rfl)
set_option maxHeartbeats 4000000 in
set_option maxRecDepth 100000 in
theorem law_case_9 {p : Program} {e : Env} {s : State} {m : MethodId} {below : List Frame} {meth : Method} {c : Code} (l : Launch) (D : va_G) (cy : Nat → ClassId) (q t : Nat → Nat) (A : Nat → Prop) (hAe : ∀ w, A w → s.heap.size ≤ w) (hA : ∀ w, s.heap.size ≤ w → A w) {b : Nat} {xs : Nat → Int32} (Sx : CallFix p m c code 4 s #[Value.ref b] BW "WhiteElephantsLaw") (hr : meth.sig.returnType = ret) (hlocks : meth.locks = false) (hK : va_K D cls (TY cy) s) (hX : LX A s) (hSc : va_X b 6 xs s s.heap) (hbl : b < s.heap.size) {H : Heap} {locs : List Loc} {ls : Array Slot} (hl : lv_has ls 4 [(3, .int 0), (2, .ref (t 60)), (1, .ref (q 0)), (0, .ref b)]) (hP : va_P D cls (wX cy q ++ wM cy t) H) (hD : va_D A (wX cy q ++ wM cy t)) (hS : va_S A s.heap H locs) : W p l e room_1 s m #[Value.ref b] below meth c H locs 155 19939 (lw_Z below #[Value.ref b] s) (F0 m 628 ls []) := by
  have hx := Sx.1
  have hb := Sx.2.1
  have hbA : ¬ A b := fun h => absurd (hAe b h) (Nat.not_le.mpr hbl)
  refine lv_aload_n hx hb dd_L_law_628 rfl (lv_at hl 2 rfl) ?_
  refine lv_aload_n hx hb dd_L_law_629 rfl (lv_at hl 3 rfl) ?_
  refine lv_iload_n hx hb dd_L_law_630 rfl (lv_at hl 0 rfl) ?_
  refine lv_iconst (v := 1) hx hb dd_L_law_631 (by decide) ?_
  refine lv_iadd hx hb dd_L_law_632 ?_
  refine wk_int (v := 1) (by decide) ?_
  refine va_sld hx hb hSc hbl hbA hS (i := 1) (vi_of (by decide)) dd_L_law_633 ?_
  refine wk_int (v := xs 1) rfl ?_
  refine lv_aload_n hx hb dd_L_law_634 rfl (lv_at hl 3 rfl) ?_
  refine lv_iload_n hx hb dd_L_law_635 rfl (lv_at hl 0 rfl) ?_
  refine lv_iconst (v := 2) hx hb dd_L_law_636 (by decide) ?_
  refine lv_iadd hx hb dd_L_law_637 ?_
  refine wk_int (v := 2) (by decide) ?_
  refine va_sld hx hb hSc hbl hbA hS (i := 2) (vi_of (by decide)) dd_L_law_638 ?_
  refine wk_int (v := xs 2) rfl ?_
  refine hk_i (wr := (wM cy t)) (c1 := 155) (s1 := 19939) [0, 2, 5, 6] [113, 114, 115, 116, 117, 118, 119, 120, 121, 122, 123, 124, 125, 126, 127, 128, 129, 130, 131, 132, 133, 134, 135, 136, 137, 138, 139, 140, 141, 142, 143, 144, 145, 146, 147, 148, 149, 150, 151, 152, 153, 154] (hc_V [.int (xs 1), .int (xs 2)] [] [0, 2, 5, 6] Sx hl.1 ws_L_57 md_X11_thingOf (c_X_thingOf l D cy q (xs 1) (xs 2)) ⟨Nat.le_of_ble_eq_true rfl, Nat.le_of_ble_eq_true rfl⟩ hP hD rfl (by decide) hK nx_b (nx_w hX.1.1) (va_recv hK hP (ci := 11) (q0 := 0) rfl rfl) rfl rfl (Nat.le_of_ble_eq_true rfl) dd_L_law_639 ⟨Nat.le_of_ble_eq_true rfl, Nat.le_of_ble_eq_true rfl⟩) hS hA hP hD rfl rfl (by decide) (by decide) rfl rfl (fun r1 u2 H locs hw3 hP hD hS => ?_)
  have hP : va_P D cls (wM cy t) H := hP
  have hD : va_D A (wM cy t) := hD
  refine lv_aload_n hx hb dd_L_law_642 rfl (lv_at hl 1 rfl) ?_
  refine lv_aload_n hx hb dd_L_law_643 rfl (lv_at hl 3 rfl) ?_
  refine lv_iload_n hx hb dd_L_law_644 rfl (lv_at hl 0 rfl) ?_
  refine lv_iconst (v := 1) hx hb dd_L_law_645 (by decide) ?_
  refine lv_iadd hx hb dd_L_law_646 ?_
  refine wk_int (v := 1) (by decide) ?_
  refine va_sld hx hb hSc hbl hbA hS (i := 1) (vi_of (by decide)) dd_L_law_647 ?_
  refine wk_int (v := xs 1) rfl ?_
  refine lv_aload_n hx hb dd_L_law_648 rfl (lv_at hl 3 rfl) ?_
  refine lv_iload_n hx hb dd_L_law_649 rfl (lv_at hl 0 rfl) ?_
  refine lv_iconst (v := 2) hx hb dd_L_law_650 (by decide) ?_
  refine lv_iadd hx hb dd_L_law_651 ?_
  refine wk_int (v := 2) (by decide) ?_
  refine va_sld hx hb hSc hbl hbA hS (i := 2) (vi_of (by decide)) dd_L_law_652 ?_
  refine wk_int (v := xs 2) rfl ?_
  refine hk_i (wr := []) (c1 := 155) (s1 := 19939) [0, 29] [] (hc_V [.int (xs 1), .int (xs 2)] [.int r1] [0, 29] Sx hl.1 ws_L_60 md_X12_thingOf (c_M_pub_thingOf l D cy t (xs 1) (xs 2)) ⟨Nat.le_of_ble_eq_true rfl, Nat.le_of_ble_eq_true rfl⟩ hP hD rfl (by decide) hK nx_b (nx_w hX.1.1) (va_recv hK hP (ci := 12) (q0 := 0) rfl rfl) rfl rfl (Nat.le_of_ble_eq_true rfl) dd_L_law_653 ⟨Nat.le_of_ble_eq_true rfl, Nat.le_of_ble_eq_true rfl⟩) hS hA hP hD rfl rfl (by decide) (by decide) rfl rfl (fun r4 u5 H locs hw6 hP hD hS => ?_)
  refine lv_icmp_eq (tgt := 1731) hx hb dd_L_law_656 (by decide) (fun _ => ?_) (fun c => absurd (hw3.trans hw6.symm) c)
  exact law_again l A hAe Sx hr hlocks hSc hbl hS ls (lv_sub hl [0, 3] rfl)
set_option maxHeartbeats 4000000 in
set_option maxRecDepth 100000 in
theorem law_case_10 {p : Program} {e : Env} {s : State} {m : MethodId} {below : List Frame} {meth : Method} {c : Code} (l : Launch) (D : va_G) (cy : Nat → ClassId) (q t : Nat → Nat) (A : Nat → Prop) (hAe : ∀ w, A w → s.heap.size ≤ w) (hA : ∀ w, s.heap.size ≤ w → A w) {b : Nat} {xs : Nat → Int32} (Sx : CallFix p m c code 4 s #[Value.ref b] BW "WhiteElephantsLaw") (hr : meth.sig.returnType = ret) (hlocks : meth.locks = false) (hK : va_K D cls (TY cy) s) (hX : LX A s) (hSc : va_X b 6 xs s s.heap) (hbl : b < s.heap.size) {H : Heap} {locs : List Loc} {ls : Array Slot} (hl : lv_has ls 4 [(3, .int 0), (2, .ref (t 60)), (1, .ref (q 0)), (0, .ref b)]) (hP : va_P D cls (wX cy q ++ wM cy t) H) (hD : va_D A (wX cy q ++ wM cy t)) (hS : va_S A s.heap H locs) : W p l e room_1 s m #[Value.ref b] below meth c H locs 155 19939 (lw_Z below #[Value.ref b] s) (F0 m 661 ls []) := by
  have hx := Sx.1
  have hb := Sx.2.1
  have hbA : ¬ A b := fun h => absurd (hAe b h) (Nat.not_le.mpr hbl)
  refine lv_aload_n hx hb dd_L_law_661 rfl (lv_at hl 2 rfl) ?_
  refine lv_aload_n hx hb dd_L_law_662 rfl (lv_at hl 3 rfl) ?_
  refine lv_iload_n hx hb dd_L_law_663 rfl (lv_at hl 0 rfl) ?_
  refine lv_iconst (v := 1) hx hb dd_L_law_664 (by decide) ?_
  refine lv_iadd hx hb dd_L_law_665 ?_
  refine wk_int (v := 1) (by decide) ?_
  refine va_sld hx hb hSc hbl hbA hS (i := 1) (vi_of (by decide)) dd_L_law_666 ?_
  refine wk_int (v := xs 1) rfl ?_
  refine lv_aload_n hx hb dd_L_law_667 rfl (lv_at hl 3 rfl) ?_
  refine lv_iload_n hx hb dd_L_law_668 rfl (lv_at hl 0 rfl) ?_
  refine lv_iconst (v := 2) hx hb dd_L_law_669 (by decide) ?_
  refine lv_iadd hx hb dd_L_law_670 ?_
  refine wk_int (v := 2) (by decide) ?_
  refine va_sld hx hb hSc hbl hbA hS (i := 2) (vi_of (by decide)) dd_L_law_671 ?_
  refine wk_int (v := xs 2) rfl ?_
  refine hk_i (wr := (wM cy t)) (c1 := 155) (s1 := 19939) [0, 2, 5, 6] [113, 114, 115, 116, 117, 118, 119, 120, 121, 122, 123, 124, 125, 126, 127, 128, 129, 130, 131, 132, 133, 134, 135, 136, 137, 138, 139, 140, 141, 142, 143, 144, 145, 146, 147, 148, 149, 150, 151, 152, 153, 154] (hc_V [.int (xs 1), .int (xs 2)] [] [0, 2, 5, 6] Sx hl.1 ws_L_61 md_X11_chip (c_X_chip l D cy q (xs 1) (xs 2)) ⟨Nat.le_of_ble_eq_true rfl, Nat.le_of_ble_eq_true rfl⟩ hP hD rfl (by decide) hK nx_b (nx_w hX.1.1) (va_recv hK hP (ci := 11) (q0 := 0) rfl rfl) rfl rfl (Nat.le_of_ble_eq_true rfl) dd_L_law_672 ⟨Nat.le_of_ble_eq_true rfl, Nat.le_of_ble_eq_true rfl⟩) hS hA hP hD rfl rfl (by decide) (by decide) rfl rfl (fun r1 u2 H locs hw3 hP hD hS => ?_)
  have hP : va_P D cls (wM cy t) H := hP
  have hD : va_D A (wM cy t) := hD
  refine lv_aload_n hx hb dd_L_law_675 rfl (lv_at hl 1 rfl) ?_
  refine lv_aload_n hx hb dd_L_law_676 rfl (lv_at hl 3 rfl) ?_
  refine lv_iload_n hx hb dd_L_law_677 rfl (lv_at hl 0 rfl) ?_
  refine lv_iconst (v := 1) hx hb dd_L_law_678 (by decide) ?_
  refine lv_iadd hx hb dd_L_law_679 ?_
  refine wk_int (v := 1) (by decide) ?_
  refine va_sld hx hb hSc hbl hbA hS (i := 1) (vi_of (by decide)) dd_L_law_680 ?_
  refine wk_int (v := xs 1) rfl ?_
  refine lv_aload_n hx hb dd_L_law_681 rfl (lv_at hl 3 rfl) ?_
  refine lv_iload_n hx hb dd_L_law_682 rfl (lv_at hl 0 rfl) ?_
  refine lv_iconst (v := 2) hx hb dd_L_law_683 (by decide) ?_
  refine lv_iadd hx hb dd_L_law_684 ?_
  refine wk_int (v := 2) (by decide) ?_
  refine va_sld hx hb hSc hbl hbA hS (i := 2) (vi_of (by decide)) dd_L_law_685 ?_
  refine wk_int (v := xs 2) rfl ?_
  refine hk_i (wr := []) (c1 := 155) (s1 := 19939) [0, 29] [] (hc_V [.int (xs 1), .int (xs 2)] [.int r1] [0, 29] Sx hl.1 ws_L_64 md_X12_chip (c_M_pub_chip l D cy t (xs 1) (xs 2)) ⟨Nat.le_of_ble_eq_true rfl, Nat.le_of_ble_eq_true rfl⟩ hP hD rfl (by decide) hK nx_b (nx_w hX.1.1) (va_recv hK hP (ci := 12) (q0 := 0) rfl rfl) rfl rfl (Nat.le_of_ble_eq_true rfl) dd_L_law_686 ⟨Nat.le_of_ble_eq_true rfl, Nat.le_of_ble_eq_true rfl⟩) hS hA hP hD rfl rfl (by decide) (by decide) rfl rfl (fun r4 u5 H locs hw6 hP hD hS => ?_)
  refine lv_icmp_eq (tgt := 1731) hx hb dd_L_law_689 (by decide) (fun _ => ?_) (fun c => absurd (hw3.trans hw6.symm) c)
  exact law_again l A hAe Sx hr hlocks hSc hbl hS ls (lv_sub hl [0, 3] rfl)
set_option maxHeartbeats 4000000 in
set_option maxRecDepth 100000 in
theorem law_case_11 {p : Program} {e : Env} {s : State} {m : MethodId} {below : List Frame} {meth : Method} {c : Code} (l : Launch) (D : va_G) (cy : Nat → ClassId) (q t : Nat → Nat) (A : Nat → Prop) (hAe : ∀ w, A w → s.heap.size ≤ w) (hA : ∀ w, s.heap.size ≤ w → A w) {b : Nat} {xs : Nat → Int32} (Sx : CallFix p m c code 4 s #[Value.ref b] BW "WhiteElephantsLaw") (hr : meth.sig.returnType = ret) (hlocks : meth.locks = false) (hK : va_K D cls (TY cy) s) (hX : LX A s) (hSc : va_X b 6 xs s s.heap) (hbl : b < s.heap.size) {H : Heap} {locs : List Loc} {ls : Array Slot} (hl : lv_has ls 4 [(3, .int 0), (2, .ref (t 60)), (1, .ref (q 0)), (0, .ref b)]) (hP : va_P D cls (wX cy q ++ wM cy t) H) (hD : va_D A (wX cy q ++ wM cy t)) (hS : va_S A s.heap H locs) : W p l e room_1 s m #[Value.ref b] below meth c H locs 155 19939 (lw_Z below #[Value.ref b] s) (F0 m 694 ls []) := by
  have hx := Sx.1
  have hb := Sx.2.1
  have hbA : ¬ A b := fun h => absurd (hAe b h) (Nat.not_le.mpr hbl)
  refine lv_aload_n hx hb dd_L_law_694 rfl (lv_at hl 2 rfl) ?_
  refine lv_aload_n hx hb dd_L_law_695 rfl (lv_at hl 3 rfl) ?_
  refine lv_iload_n hx hb dd_L_law_696 rfl (lv_at hl 0 rfl) ?_
  refine lv_iconst (v := 1) hx hb dd_L_law_697 (by decide) ?_
  refine lv_iadd hx hb dd_L_law_698 ?_
  refine wk_int (v := 1) (by decide) ?_
  refine va_sld hx hb hSc hbl hbA hS (i := 1) (vi_of (by decide)) dd_L_law_699 ?_
  refine wk_int (v := xs 1) rfl ?_
  refine lv_aload_n hx hb dd_L_law_700 rfl (lv_at hl 3 rfl) ?_
  refine lv_iload_n hx hb dd_L_law_701 rfl (lv_at hl 0 rfl) ?_
  refine lv_iconst (v := 2) hx hb dd_L_law_702 (by decide) ?_
  refine lv_iadd hx hb dd_L_law_703 ?_
  refine wk_int (v := 2) (by decide) ?_
  refine va_sld hx hb hSc hbl hbA hS (i := 2) (vi_of (by decide)) dd_L_law_704 ?_
  refine wk_int (v := xs 2) rfl ?_
  refine hk_i (wr := (wM cy t)) (c1 := 155) (s1 := 19939) [0, 2, 5, 14, 15, 16, 17] [113, 114, 115, 116, 117, 118, 119, 120, 121, 122, 123, 124, 125, 126, 127, 128, 129, 130, 131, 132, 133, 134, 135, 136, 137, 138, 139, 140, 141, 142, 143, 144, 145, 146, 147, 148, 149, 150, 151, 152, 153, 154] (hc_V [.int (xs 1), .int (xs 2)] [] [0, 2, 5, 14, 15, 16, 17] Sx hl.1 ws_L_65 md_X11_lady (c_X_lady l D cy q (xs 1) (xs 2)) ⟨Nat.le_of_ble_eq_true rfl, Nat.le_of_ble_eq_true rfl⟩ hP hD rfl (by decide) hK nx_b (nx_w hX.1.1) (va_recv hK hP (ci := 11) (q0 := 0) rfl rfl) rfl rfl (Nat.le_of_ble_eq_true rfl) dd_L_law_705 ⟨Nat.le_of_ble_eq_true rfl, Nat.le_of_ble_eq_true rfl⟩) hS hA hP hD rfl rfl (by decide) (by decide) rfl rfl (fun r1 u2 H locs hw3 hP hD hS => ?_)
  have hP : va_P D cls (wM cy t) H := hP
  have hD : va_D A (wM cy t) := hD
  refine lv_aload_n hx hb dd_L_law_708 rfl (lv_at hl 1 rfl) ?_
  refine lv_aload_n hx hb dd_L_law_709 rfl (lv_at hl 3 rfl) ?_
  refine lv_iload_n hx hb dd_L_law_710 rfl (lv_at hl 0 rfl) ?_
  refine lv_iconst (v := 1) hx hb dd_L_law_711 (by decide) ?_
  refine lv_iadd hx hb dd_L_law_712 ?_
  refine wk_int (v := 1) (by decide) ?_
  refine va_sld hx hb hSc hbl hbA hS (i := 1) (vi_of (by decide)) dd_L_law_713 ?_
  refine wk_int (v := xs 1) rfl ?_
  refine lv_aload_n hx hb dd_L_law_714 rfl (lv_at hl 3 rfl) ?_
  refine lv_iload_n hx hb dd_L_law_715 rfl (lv_at hl 0 rfl) ?_
  refine lv_iconst (v := 2) hx hb dd_L_law_716 (by decide) ?_
  refine lv_iadd hx hb dd_L_law_717 ?_
  refine wk_int (v := 2) (by decide) ?_
  refine va_sld hx hb hSc hbl hbA hS (i := 2) (vi_of (by decide)) dd_L_law_718 ?_
  refine wk_int (v := xs 2) rfl ?_
  refine hk_i (wr := []) (c1 := 155) (s1 := 19939) [0, 10, 11, 12, 29] [] (hc_V [.int (xs 1), .int (xs 2)] [.int r1] [0, 10, 11, 12, 29] Sx hl.1 ws_L_68 md_X12_lady (c_M_pub_lady l D cy t (xs 1) (xs 2)) ⟨Nat.le_of_ble_eq_true rfl, Nat.le_of_ble_eq_true rfl⟩ hP hD rfl (by decide) hK nx_b (nx_w hX.1.1) (va_recv hK hP (ci := 12) (q0 := 0) rfl rfl) rfl rfl (Nat.le_of_ble_eq_true rfl) dd_L_law_719 ⟨Nat.le_of_ble_eq_true rfl, Nat.le_of_ble_eq_true rfl⟩) hS hA hP hD rfl rfl (by decide) (by decide) rfl rfl (fun r4 u5 H locs hw6 hP hD hS => ?_)
  refine lv_icmp_eq (tgt := 1731) hx hb dd_L_law_722 (by decide) (fun _ => ?_) (fun c => absurd (if2_eq hw3 hw6) c)
  exact law_again l A hAe Sx hr hlocks hSc hbl hS ls (lv_sub hl [0, 3] rfl)
