set_option maxHeartbeats 4000000 in
set_option maxRecDepth 100000 in
theorem law_case_36 {p : Program} {e : Env} {s : State} {m : MethodId} {below : List Frame} {meth : Method} {c : Code} (l : Launch) (D : va_G) (cy : Nat → ClassId) (q t : Nat → Nat) (A : Nat → Prop) (hAe : ∀ w, A w → s.heap.size ≤ w) (hA : ∀ w, s.heap.size ≤ w → A w) {b : Nat} {xs : Nat → Int32} (Sx : CallFix p m c code 4 s #[Value.ref b] BW "WhiteElephantsLaw") (hr : meth.sig.returnType = ret) (hlocks : meth.locks = false) (hK : va_K D cls (TY cy) s) (hX : LX A s) (hSc : va_X b 6 xs s s.heap) (hbl : b < s.heap.size) {H : Heap} {locs : List Loc} {ls : Array Slot} (hl : lv_has ls 4 [(3, .int 0), (2, .ref (t 60)), (1, .ref (q 0)), (0, .ref b)]) (hP : va_P D cls (wX cy q ++ wM cy t) H) (hD : va_D A (wX cy q ++ wM cy t)) (hS : va_S A s.heap H locs) : W p l e room_1 s m #[Value.ref b] below meth c H locs 155 19939 (lw_Z below #[Value.ref b] s) (F0 m 1415 ls []) := by
  have hx := Sx.1
  have hb := Sx.2.1
  have hbA : ¬ A b := fun h => absurd (hAe b h) (Nat.not_le.mpr hbl)
  refine lv_aload_n hx hb dd_L_law_1415 rfl (lv_at hl 2 rfl) ?_
  refine lv_aload_n hx hb dd_L_law_1416 rfl (lv_at hl 3 rfl) ?_
  refine lv_iload_n hx hb dd_L_law_1417 rfl (lv_at hl 0 rfl) ?_
  refine lv_iconst (v := 1) hx hb dd_L_law_1418 (by decide) ?_
  refine lv_iadd hx hb dd_L_law_1419 ?_
  refine wk_int (v := 1) (by decide) ?_
  refine va_sld hx hb hSc hbl hbA hS (i := 1) (vi_of (by decide)) dd_L_law_1420 ?_
  refine wk_int (v := xs 1) rfl ?_
  refine lv_aload_n hx hb dd_L_law_1421 rfl (lv_at hl 3 rfl) ?_
  refine lv_iload_n hx hb dd_L_law_1422 rfl (lv_at hl 0 rfl) ?_
  refine lv_iconst (v := 2) hx hb dd_L_law_1423 (by decide) ?_
  refine lv_iadd hx hb dd_L_law_1424 ?_
  refine wk_int (v := 2) (by decide) ?_
  refine va_sld hx hb hSc hbl hbA hS (i := 2) (vi_of (by decide)) dd_L_law_1425 ?_
  refine wk_int (v := xs 2) rfl ?_
  refine lv_aload_n hx hb dd_L_law_1426 rfl (lv_at hl 3 rfl) ?_
  refine lv_iload_n hx hb dd_L_law_1427 rfl (lv_at hl 0 rfl) ?_
  refine lv_iconst (v := 3) hx hb dd_L_law_1428 (by decide) ?_
  refine lv_iadd hx hb dd_L_law_1429 ?_
  refine wk_int (v := 3) (by decide) ?_
  refine va_sld hx hb hSc hbl hbA hS (i := 3) (vi_of (by decide)) dd_L_law_1430 ?_
  refine wk_int (v := xs 3) rfl ?_
  refine lv_aload_n hx hb dd_L_law_1431 rfl (lv_at hl 3 rfl) ?_
  refine lv_iload_n hx hb dd_L_law_1432 rfl (lv_at hl 0 rfl) ?_
  refine lv_iconst (v := 4) hx hb dd_L_law_1433 (by decide) ?_
  refine lv_iadd hx hb dd_L_law_1434 ?_
  refine wk_int (v := 4) (by decide) ?_
  refine va_sld hx hb hSc hbl hbA hS (i := 4) (vi_of (by decide)) dd_L_law_1435 ?_
  refine wk_int (v := xs 4) rfl ?_
  refine hk_i (wr := (wM cy t)) (c1 := 155) (s1 := 19939) [0, 2, 5, 27, 28, 29, 30, 31, 32, 33, 34] [113, 114, 115, 116, 117, 118, 119, 120, 121, 122, 123, 124, 125, 126, 127, 128, 129, 130, 131, 132, 133, 134, 135, 136, 137, 138, 139, 140, 141, 142, 143, 144, 145, 146, 147, 148, 149, 150, 151, 152, 153, 154] (hc_V [.int (xs 1), .int (xs 2), .int (xs 3), .int (xs 4)] [] [0, 2, 5, 27, 28, 29, 30, 31, 32, 33, 34] Sx hl.1 ws_L_168 md_X11_sight (c_X_sight l D cy q (xs 1) (xs 2) (xs 3) (xs 4)) ⟨Nat.le_of_ble_eq_true rfl, Nat.le_of_ble_eq_true rfl⟩ hP hD rfl (by decide) hK nx_b (nx_w hX.1.1) (va_recv hK hP (ci := 11) (q0 := 0) rfl rfl) rfl rfl (Nat.le_of_ble_eq_true rfl) dd_L_law_1436 ⟨Nat.le_of_ble_eq_true rfl, Nat.le_of_ble_eq_true rfl⟩) hS hA hP hD rfl rfl (by decide) (by decide) rfl rfl (fun r1 u2 H locs hw3 hP hD hS => ?_)
  have hP : va_P D cls (wM cy t) H := hP
  have hD : va_D A (wM cy t) := hD
  refine lv_aload_n hx hb dd_L_law_1439 rfl (lv_at hl 1 rfl) ?_
  refine lv_aload_n hx hb dd_L_law_1440 rfl (lv_at hl 3 rfl) ?_
  refine lv_iload_n hx hb dd_L_law_1441 rfl (lv_at hl 0 rfl) ?_
  refine lv_iconst (v := 1) hx hb dd_L_law_1442 (by decide) ?_
  refine lv_iadd hx hb dd_L_law_1443 ?_
  refine wk_int (v := 1) (by decide) ?_
  refine va_sld hx hb hSc hbl hbA hS (i := 1) (vi_of (by decide)) dd_L_law_1444 ?_
  refine wk_int (v := xs 1) rfl ?_
  refine lv_aload_n hx hb dd_L_law_1445 rfl (lv_at hl 3 rfl) ?_
  refine lv_iload_n hx hb dd_L_law_1446 rfl (lv_at hl 0 rfl) ?_
  refine lv_iconst (v := 2) hx hb dd_L_law_1447 (by decide) ?_
  refine lv_iadd hx hb dd_L_law_1448 ?_
  refine wk_int (v := 2) (by decide) ?_
  refine va_sld hx hb hSc hbl hbA hS (i := 2) (vi_of (by decide)) dd_L_law_1449 ?_
  refine wk_int (v := xs 2) rfl ?_
  refine lv_aload_n hx hb dd_L_law_1450 rfl (lv_at hl 3 rfl) ?_
  refine lv_iload_n hx hb dd_L_law_1451 rfl (lv_at hl 0 rfl) ?_
  refine lv_iconst (v := 3) hx hb dd_L_law_1452 (by decide) ?_
  refine lv_iadd hx hb dd_L_law_1453 ?_
  refine wk_int (v := 3) (by decide) ?_
  refine va_sld hx hb hSc hbl hbA hS (i := 3) (vi_of (by decide)) dd_L_law_1454 ?_
  refine wk_int (v := xs 3) rfl ?_
  refine lv_aload_n hx hb dd_L_law_1455 rfl (lv_at hl 3 rfl) ?_
  refine lv_iload_n hx hb dd_L_law_1456 rfl (lv_at hl 0 rfl) ?_
  refine lv_iconst (v := 4) hx hb dd_L_law_1457 (by decide) ?_
  refine lv_iadd hx hb dd_L_law_1458 ?_
  refine wk_int (v := 4) (by decide) ?_
  refine va_sld hx hb hSc hbl hbA hS (i := 4) (vi_of (by decide)) dd_L_law_1459 ?_
  refine wk_int (v := xs 4) rfl ?_
  refine hk_i (wr := []) (c1 := 155) (s1 := 19939) [0, 21, 22, 23, 24, 29] [] (hc_V [.int (xs 1), .int (xs 2), .int (xs 3), .int (xs 4)] [.int r1] [0, 21, 22, 23, 24, 29] Sx hl.1 ws_L_171 md_X12_sight (c_M_pub_sight l D cy t (xs 1) (xs 2) (xs 3) (xs 4)) ⟨Nat.le_of_ble_eq_true rfl, Nat.le_of_ble_eq_true rfl⟩ hP hD rfl (by decide) hK nx_b (nx_w hX.1.1) (va_recv hK hP (ci := 12) (q0 := 0) rfl rfl) rfl rfl (Nat.le_of_ble_eq_true rfl) dd_L_law_1460 ⟨Nat.le_of_ble_eq_true rfl, Nat.le_of_ble_eq_true rfl⟩) hS hA hP hD rfl rfl (by decide) (by decide) rfl rfl (fun r4 u5 H locs hw6 hP hD hS => ?_)
  refine lv_icmp_eq (tgt := 1731) hx hb dd_L_law_1463 (by decide) (fun _ => ?_) (fun c => absurd (if2_eq hw3 hw6) c)
  exact law_again l A hAe Sx hr hlocks hSc hbl hS ls (lv_sub hl [0, 3] rfl)
set_option maxHeartbeats 4000000 in
set_option maxRecDepth 100000 in
theorem law_case_37 {p : Program} {e : Env} {s : State} {m : MethodId} {below : List Frame} {meth : Method} {c : Code} (l : Launch) (D : va_G) (cy : Nat → ClassId) (q t : Nat → Nat) (A : Nat → Prop) (hAe : ∀ w, A w → s.heap.size ≤ w) (hA : ∀ w, s.heap.size ≤ w → A w) {b : Nat} {xs : Nat → Int32} (Sx : CallFix p m c code 4 s #[Value.ref b] BW "WhiteElephantsLaw") (hr : meth.sig.returnType = ret) (hlocks : meth.locks = false) (hK : va_K D cls (TY cy) s) (hX : LX A s) (hSc : va_X b 6 xs s s.heap) (hbl : b < s.heap.size) {H : Heap} {locs : List Loc} {ls : Array Slot} (hl : lv_has ls 4 [(3, .int 0), (2, .ref (t 60)), (1, .ref (q 0)), (0, .ref b)]) (hP : va_P D cls (wX cy q ++ wM cy t) H) (hD : va_D A (wX cy q ++ wM cy t)) (hS : va_S A s.heap H locs) : W p l e room_1 s m #[Value.ref b] below meth c H locs 155 19939 (lw_Z below #[Value.ref b] s) (F0 m 1468 ls []) := by
  have hx := Sx.1
  have hb := Sx.2.1
  have hbA : ¬ A b := fun h => absurd (hAe b h) (Nat.not_le.mpr hbl)
  refine lv_aload_n hx hb dd_L_law_1468 rfl (lv_at hl 2 rfl) ?_
  refine lv_aload_n hx hb dd_L_law_1469 rfl (lv_at hl 3 rfl) ?_
  refine lv_iload_n hx hb dd_L_law_1470 rfl (lv_at hl 0 rfl) ?_
  refine lv_iconst (v := 1) hx hb dd_L_law_1471 (by decide) ?_
  refine lv_iadd hx hb dd_L_law_1472 ?_
  refine wk_int (v := 1) (by decide) ?_
  refine va_sld hx hb hSc hbl hbA hS (i := 1) (vi_of (by decide)) dd_L_law_1473 ?_
  refine wk_int (v := xs 1) rfl ?_
  refine lv_aload_n hx hb dd_L_law_1474 rfl (lv_at hl 3 rfl) ?_
  refine lv_iload_n hx hb dd_L_law_1475 rfl (lv_at hl 0 rfl) ?_
  refine lv_iconst (v := 2) hx hb dd_L_law_1476 (by decide) ?_
  refine lv_iadd hx hb dd_L_law_1477 ?_
  refine wk_int (v := 2) (by decide) ?_
  refine va_sld hx hb hSc hbl hbA hS (i := 2) (vi_of (by decide)) dd_L_law_1478 ?_
  refine wk_int (v := xs 2) rfl ?_
  refine hk_i (wr := (wM cy t)) (c1 := 155) (s1 := 19939) [0, 2, 5, 27] [113, 114, 115, 116, 117, 118, 119, 120, 121, 122, 123, 124, 125, 126, 127, 128, 129, 130, 131, 132, 133, 134, 135, 136, 137, 138, 139, 140, 141, 142, 143, 144, 145, 146, 147, 148, 149, 150, 151, 152, 153, 154] (hc_V [.int (xs 1), .int (xs 2)] [] [0, 2, 5, 27] Sx hl.1 ws_L_172 md_X11_same (c_X_same l D cy q (xs 1) (xs 2)) ⟨Nat.le_of_ble_eq_true rfl, Nat.le_of_ble_eq_true rfl⟩ hP hD rfl (by decide) hK nx_b (nx_w hX.1.1) (va_recv hK hP (ci := 11) (q0 := 0) rfl rfl) rfl rfl (Nat.le_of_ble_eq_true rfl) dd_L_law_1479 ⟨Nat.le_of_ble_eq_true rfl, Nat.le_of_ble_eq_true rfl⟩) hS hA hP hD rfl rfl (by decide) (by decide) rfl rfl (fun r1 u2 H locs hw3 hP hD hS => ?_)
  have hP : va_P D cls (wM cy t) H := hP
  have hD : va_D A (wM cy t) := hD
  refine lv_aload_n hx hb dd_L_law_1482 rfl (lv_at hl 1 rfl) ?_
  refine lv_aload_n hx hb dd_L_law_1483 rfl (lv_at hl 3 rfl) ?_
  refine lv_iload_n hx hb dd_L_law_1484 rfl (lv_at hl 0 rfl) ?_
  refine lv_iconst (v := 1) hx hb dd_L_law_1485 (by decide) ?_
  refine lv_iadd hx hb dd_L_law_1486 ?_
  refine wk_int (v := 1) (by decide) ?_
  refine va_sld hx hb hSc hbl hbA hS (i := 1) (vi_of (by decide)) dd_L_law_1487 ?_
  refine wk_int (v := xs 1) rfl ?_
  refine lv_aload_n hx hb dd_L_law_1488 rfl (lv_at hl 3 rfl) ?_
  refine lv_iload_n hx hb dd_L_law_1489 rfl (lv_at hl 0 rfl) ?_
  refine lv_iconst (v := 2) hx hb dd_L_law_1490 (by decide) ?_
  refine lv_iadd hx hb dd_L_law_1491 ?_
  refine wk_int (v := 2) (by decide) ?_
  refine va_sld hx hb hSc hbl hbA hS (i := 2) (vi_of (by decide)) dd_L_law_1492 ?_
  refine wk_int (v := xs 2) rfl ?_
  refine hk_i (wr := []) (c1 := 155) (s1 := 19939) [0, 29] [] (hc_V [.int (xs 1), .int (xs 2)] [.int r1] [0, 29] Sx hl.1 ws_L_175 md_X12_same (c_M_pub_same l D cy t (xs 1) (xs 2)) ⟨Nat.le_of_ble_eq_true rfl, Nat.le_of_ble_eq_true rfl⟩ hP hD rfl (by decide) hK nx_b (nx_w hX.1.1) (va_recv hK hP (ci := 12) (q0 := 0) rfl rfl) rfl rfl (Nat.le_of_ble_eq_true rfl) dd_L_law_1493 ⟨Nat.le_of_ble_eq_true rfl, Nat.le_of_ble_eq_true rfl⟩) hS hA hP hD rfl rfl (by decide) (by decide) rfl rfl (fun r4 u5 H locs hw6 hP hD hS => ?_)
  refine lv_icmp_eq (tgt := 1731) hx hb dd_L_law_1496 (by decide) (fun _ => ?_) (fun c => absurd (hw3.trans hw6.symm) c)
  exact law_again l A hAe Sx hr hlocks hSc hbl hS ls (lv_sub hl [0, 3] rfl)
set_option maxHeartbeats 4000000 in
set_option maxRecDepth 100000 in
theorem law_case_38 {p : Program} {e : Env} {s : State} {m : MethodId} {below : List Frame} {meth : Method} {c : Code} (l : Launch) (D : va_G) (cy : Nat → ClassId) (q t : Nat → Nat) (A : Nat → Prop) (hAe : ∀ w, A w → s.heap.size ≤ w) (hA : ∀ w, s.heap.size ≤ w → A w) {b : Nat} {xs : Nat → Int32} (Sx : CallFix p m c code 4 s #[Value.ref b] BW "WhiteElephantsLaw") (hr : meth.sig.returnType = ret) (hlocks : meth.locks = false) (hK : va_K D cls (TY cy) s) (hX : LX A s) (hSc : va_X b 6 xs s s.heap) (hbl : b < s.heap.size) {H : Heap} {locs : List Loc} {ls : Array Slot} (hl : lv_has ls 4 [(3, .int 0), (2, .ref (t 60)), (1, .ref (q 0)), (0, .ref b)]) (hP : va_P D cls (wX cy q ++ wM cy t) H) (hD : va_D A (wX cy q ++ wM cy t)) (hS : va_S A s.heap H locs) : W p l e room_1 s m #[Value.ref b] below meth c H locs 155 19939 (lw_Z below #[Value.ref b] s) (F0 m 1501 ls []) := by
  have hx := Sx.1
  have hb := Sx.2.1
  have hbA : ¬ A b := fun h => absurd (hAe b h) (Nat.not_le.mpr hbl)
  refine lv_aload_n hx hb dd_L_law_1501 rfl (lv_at hl 2 rfl) ?_
  refine hk_i (wr := (wM cy t)) (c1 := 155) (s1 := 19939) [0, 5, 27, 28, 29, 30, 31, 32, 33, 34] [113, 114, 115, 116, 117, 118, 119, 120, 121, 122, 123, 124, 125, 126, 127, 128, 129, 130, 131, 132, 133, 134, 135, 136, 137, 138, 139, 140, 141, 142, 143, 144, 145, 146, 147, 148, 149, 150, 151, 152, 153, 154] (hc_V [] [] [0, 5, 27, 28, 29, 30, 31, 32, 33, 34] Sx hl.1 ws_L_176 md_X11_vases (c_X_vases l D cy q) ⟨Nat.le_of_ble_eq_true rfl, Nat.le_of_ble_eq_true rfl⟩ hP hD rfl (by decide) hK nx_b (nx_w hX.1.1) (va_recv hK hP (ci := 11) (q0 := 0) rfl rfl) rfl rfl (Nat.le_of_ble_eq_true rfl) dd_L_law_1502 ⟨Nat.le_of_ble_eq_true rfl, Nat.le_of_ble_eq_true rfl⟩) hS hA hP hD rfl rfl (by decide) (by decide) rfl rfl (fun r1 u2 H locs hw3 hP hD hS => ?_)
  have hP : va_P D cls (wM cy t) H := hP
  have hD : va_D A (wM cy t) := hD
  refine lv_aload_n hx hb dd_L_law_1505 rfl (lv_at hl 1 rfl) ?_
  refine pk_i (pc_V [] [.int r1] Sx hl.1 ws_L_179 md_X12_vases (c_M_pub_vases l D cy t) ⟨rfl, rfl⟩ ⟨Nat.le_of_ble_eq_true rfl, Nat.le_of_ble_eq_true rfl⟩ (hP.sub [0] rfl) hK ns_b (ns_w hX.1.1) (va_recv hK hP (ci := 12) (q0 := 0) rfl rfl) rfl rfl (Nat.le_of_ble_eq_true rfl) dd_L_law_1506 ⟨Nat.le_of_ble_eq_true rfl, Nat.le_of_ble_eq_true rfl⟩) (fun r4 hw5 => ?_)
  refine lv_icmp_eq (tgt := 1731) hx hb dd_L_law_1509 (by decide) (fun _ => ?_) (fun c => absurd (hw3.trans hw5.symm) c)
  exact law_again l A hAe Sx hr hlocks hSc hbl hS ls (lv_sub hl [0, 3] rfl)
set_option maxHeartbeats 4000000 in
set_option maxRecDepth 100000 in
theorem law_case_39 {p : Program} {e : Env} {s : State} {m : MethodId} {below : List Frame} {meth : Method} {c : Code} (l : Launch) (D : va_G) (cy : Nat → ClassId) (q t : Nat → Nat) (A : Nat → Prop) (hAe : ∀ w, A w → s.heap.size ≤ w) (hA : ∀ w, s.heap.size ≤ w → A w) {b : Nat} {xs : Nat → Int32} (Sx : CallFix p m c code 4 s #[Value.ref b] BW "WhiteElephantsLaw") (hr : meth.sig.returnType = ret) (hlocks : meth.locks = false) (hK : va_K D cls (TY cy) s) (hX : LX A s) (hSc : va_X b 6 xs s s.heap) (hbl : b < s.heap.size) {H : Heap} {locs : List Loc} {ls : Array Slot} (hl : lv_has ls 4 [(3, .int 0), (2, .ref (t 60)), (1, .ref (q 0)), (0, .ref b)]) (hP : va_P D cls (wX cy q ++ wM cy t) H) (hD : va_D A (wX cy q ++ wM cy t)) (hS : va_S A s.heap H locs) : W p l e room_1 s m #[Value.ref b] below meth c H locs 155 19939 (lw_Z below #[Value.ref b] s) (F0 m 1514 ls []) := by
  have hx := Sx.1
  have hb := Sx.2.1
  have hbA : ¬ A b := fun h => absurd (hAe b h) (Nat.not_le.mpr hbl)
  refine lv_aload_n hx hb dd_L_law_1514 rfl (lv_at hl 2 rfl) ?_
  refine pk_i (pc_V [] [] Sx hl.1 ws_L_180 md_X11_longest (c_X_longest l D cy q) ⟨rfl, rfl⟩ ⟨Nat.le_of_ble_eq_true rfl, Nat.le_of_ble_eq_true rfl⟩ (hP.sub [0, 5, 27] rfl) hK ns_b (ns_w hX.1.1) (va_recv hK hP (ci := 11) (q0 := 0) rfl rfl) rfl rfl (Nat.le_of_ble_eq_true rfl) dd_L_law_1515 ⟨Nat.le_of_ble_eq_true rfl, Nat.le_of_ble_eq_true rfl⟩) (fun r1 hw2 => ?_)
  refine lv_aload_n hx hb dd_L_law_1518 rfl (lv_at hl 1 rfl) ?_
  refine pk_i (pc_V [] [.int r1] Sx hl.1 ws_L_183 md_X12_longest (c_M_pub_longest l D cy t) ⟨rfl, rfl⟩ ⟨Nat.le_of_ble_eq_true rfl, Nat.le_of_ble_eq_true rfl⟩ (hP.sub [113] rfl) hK ns_b (ns_w hX.1.1) (va_recv hK hP (ci := 12) (q0 := 113) rfl rfl) rfl rfl (Nat.le_of_ble_eq_true rfl) dd_L_law_1519 ⟨Nat.le_of_ble_eq_true rfl, Nat.le_of_ble_eq_true rfl⟩) (fun r3 hw4 => ?_)
  refine lv_icmp_eq (tgt := 1731) hx hb dd_L_law_1522 (by decide) (fun _ => ?_) (fun c => absurd (hw2.trans hw4.symm) c)
  exact law_again l A hAe Sx hr hlocks hSc hbl hS ls (lv_sub hl [0, 3] rfl)
set_option maxHeartbeats 4000000 in
set_option maxRecDepth 100000 in
theorem law_case_40 {p : Program} {e : Env} {s : State} {m : MethodId} {below : List Frame} {meth : Method} {c : Code} (l : Launch) (D : va_G) (cy : Nat → ClassId) (q t : Nat → Nat) (A : Nat → Prop) (hAe : ∀ w, A w → s.heap.size ≤ w) (hA : ∀ w, s.heap.size ≤ w → A w) {b : Nat} {xs : Nat → Int32} (Sx : CallFix p m c code 4 s #[Value.ref b] BW "WhiteElephantsLaw") (hr : meth.sig.returnType = ret) (hlocks : meth.locks = false) (hK : va_K D cls (TY cy) s) (hX : LX A s) (hSc : va_X b 6 xs s s.heap) (hbl : b < s.heap.size) {H : Heap} {locs : List Loc} {ls : Array Slot} (hl : lv_has ls 4 [(3, .int 0), (2, .ref (t 60)), (1, .ref (q 0)), (0, .ref b)]) (hP : va_P D cls (wX cy q ++ wM cy t) H) (hD : va_D A (wX cy q ++ wM cy t)) (hS : va_S A s.heap H locs) : W p l e room_1 s m #[Value.ref b] below meth c H locs 155 19939 (lw_Z below #[Value.ref b] s) (F0 m 1527 ls []) := by
  have hx := Sx.1
  have hb := Sx.2.1
  have hbA : ¬ A b := fun h => absurd (hAe b h) (Nat.not_le.mpr hbl)
  refine lv_aload_n hx hb dd_L_law_1527 rfl (lv_at hl 2 rfl) ?_
  refine lv_aload_n hx hb dd_L_law_1528 rfl (lv_at hl 3 rfl) ?_
  refine lv_iload_n hx hb dd_L_law_1529 rfl (lv_at hl 0 rfl) ?_
  refine lv_iconst (v := 1) hx hb dd_L_law_1530 (by decide) ?_
  refine lv_iadd hx hb dd_L_law_1531 ?_
  refine wk_int (v := 1) (by decide) ?_
  refine va_sld hx hb hSc hbl hbA hS (i := 1) (vi_of (by decide)) dd_L_law_1532 ?_
  refine wk_int (v := xs 1) rfl ?_
  refine lv_aload_n hx hb dd_L_law_1533 rfl (lv_at hl 3 rfl) ?_
  refine lv_iload_n hx hb dd_L_law_1534 rfl (lv_at hl 0 rfl) ?_
  refine lv_iconst (v := 2) hx hb dd_L_law_1535 (by decide) ?_
  refine lv_iadd hx hb dd_L_law_1536 ?_
  refine wk_int (v := 2) (by decide) ?_
  refine va_sld hx hb hSc hbl hbA hS (i := 2) (vi_of (by decide)) dd_L_law_1537 ?_
  refine wk_int (v := xs 2) rfl ?_
  refine hk_i (wr := (wM cy t)) (c1 := 155) (s1 := 19939) [0, 2, 5, 6] [113, 114, 115, 116, 117, 118, 119, 120, 121, 122, 123, 124, 125, 126, 127, 128, 129, 130, 131, 132, 133, 134, 135, 136, 137, 138, 139, 140, 141, 142, 143, 144, 145, 146, 147, 148, 149, 150, 151, 152, 153, 154] (hc_V [.int (xs 1), .int (xs 2)] [] [0, 2, 5, 6] Sx hl.1 ws_L_184 md_X11_secret (c_X_secret l D cy q (xs 1) (xs 2)) ⟨Nat.le_of_ble_eq_true rfl, Nat.le_of_ble_eq_true rfl⟩ hP hD rfl (by decide) hK nx_b (nx_w hX.1.1) (va_recv hK hP (ci := 11) (q0 := 0) rfl rfl) rfl rfl (Nat.le_of_ble_eq_true rfl) dd_L_law_1538 ⟨Nat.le_of_ble_eq_true rfl, Nat.le_of_ble_eq_true rfl⟩) hS hA hP hD rfl rfl (by decide) (by decide) rfl rfl (fun r1 u2 H locs hw3 hP hD hS => ?_)
  have hP : va_P D cls (wM cy t) H := hP
  have hD : va_D A (wM cy t) := hD
  refine lv_aload_n hx hb dd_L_law_1541 rfl (lv_at hl 1 rfl) ?_
  refine lv_aload_n hx hb dd_L_law_1542 rfl (lv_at hl 3 rfl) ?_
  refine lv_iload_n hx hb dd_L_law_1543 rfl (lv_at hl 0 rfl) ?_
  refine lv_iconst (v := 1) hx hb dd_L_law_1544 (by decide) ?_
  refine lv_iadd hx hb dd_L_law_1545 ?_
  refine wk_int (v := 1) (by decide) ?_
  refine va_sld hx hb hSc hbl hbA hS (i := 1) (vi_of (by decide)) dd_L_law_1546 ?_
  refine wk_int (v := xs 1) rfl ?_
  refine lv_aload_n hx hb dd_L_law_1547 rfl (lv_at hl 3 rfl) ?_
  refine lv_iload_n hx hb dd_L_law_1548 rfl (lv_at hl 0 rfl) ?_
  refine lv_iconst (v := 2) hx hb dd_L_law_1549 (by decide) ?_
  refine lv_iadd hx hb dd_L_law_1550 ?_
  refine wk_int (v := 2) (by decide) ?_
  refine va_sld hx hb hSc hbl hbA hS (i := 2) (vi_of (by decide)) dd_L_law_1551 ?_
  refine wk_int (v := xs 2) rfl ?_
  refine hk_i (wr := []) (c1 := 155) (s1 := 19939) [0, 29] [] (hc_V [.int (xs 1), .int (xs 2)] [.int r1] [0, 29] Sx hl.1 ws_L_187 md_X12_secret (c_M_pub_secret l D cy t (xs 1) (xs 2)) ⟨Nat.le_of_ble_eq_true rfl, Nat.le_of_ble_eq_true rfl⟩ hP hD rfl (by decide) hK nx_b (nx_w hX.1.1) (va_recv hK hP (ci := 12) (q0 := 0) rfl rfl) rfl rfl (Nat.le_of_ble_eq_true rfl) dd_L_law_1552 ⟨Nat.le_of_ble_eq_true rfl, Nat.le_of_ble_eq_true rfl⟩) hS hA hP hD rfl rfl (by decide) (by decide) rfl rfl (fun r4 u5 H locs hw6 hP hD hS => ?_)
  refine lv_icmp_eq (tgt := 1731) hx hb dd_L_law_1555 (by decide) (fun _ => ?_) (fun c => absurd (hw3.trans hw6.symm) c)
  exact law_again l A hAe Sx hr hlocks hSc hbl hS ls (lv_sub hl [0, 3] rfl)
set_option maxHeartbeats 4000000 in
set_option maxRecDepth 100000 in
theorem law_case_41 {p : Program} {e : Env} {s : State} {m : MethodId} {below : List Frame} {meth : Method} {c : Code} (l : Launch) (D : va_G) (cy : Nat → ClassId) (q t : Nat → Nat) (A : Nat → Prop) (hAe : ∀ w, A w → s.heap.size ≤ w) (hA : ∀ w, s.heap.size ≤ w → A w) {b : Nat} {xs : Nat → Int32} (Sx : CallFix p m c code 4 s #[Value.ref b] BW "WhiteElephantsLaw") (hr : meth.sig.returnType = ret) (hlocks : meth.locks = false) (hK : va_K D cls (TY cy) s) (hX : LX A s) (hSc : va_X b 6 xs s s.heap) (hbl : b < s.heap.size) {H : Heap} {locs : List Loc} {ls : Array Slot} (hl : lv_has ls 4 [(3, .int 0), (2, .ref (t 60)), (1, .ref (q 0)), (0, .ref b)]) (hP : va_P D cls (wX cy q ++ wM cy t) H) (hD : va_D A (wX cy q ++ wM cy t)) (hS : va_S A s.heap H locs) : W p l e room_1 s m #[Value.ref b] below meth c H locs 155 19939 (lw_Z below #[Value.ref b] s) (F0 m 1560 ls []) := by
  have hx := Sx.1
  have hb := Sx.2.1
  have hbA : ¬ A b := fun h => absurd (hAe b h) (Nat.not_le.mpr hbl)
  refine lv_aload_n hx hb dd_L_law_1560 rfl (lv_at hl 2 rfl) ?_
  refine lv_aload_n hx hb dd_L_law_1561 rfl (lv_at hl 3 rfl) ?_
  refine lv_iload_n hx hb dd_L_law_1562 rfl (lv_at hl 0 rfl) ?_
  refine lv_iconst (v := 1) hx hb dd_L_law_1563 (by decide) ?_
  refine lv_iadd hx hb dd_L_law_1564 ?_
  refine wk_int (v := 1) (by decide) ?_
  refine va_sld hx hb hSc hbl hbA hS (i := 1) (vi_of (by decide)) dd_L_law_1565 ?_
  refine wk_int (v := xs 1) rfl ?_
  refine lv_aload_n hx hb dd_L_law_1566 rfl (lv_at hl 3 rfl) ?_
  refine lv_iload_n hx hb dd_L_law_1567 rfl (lv_at hl 0 rfl) ?_
  refine lv_iconst (v := 2) hx hb dd_L_law_1568 (by decide) ?_
  refine lv_iadd hx hb dd_L_law_1569 ?_
  refine wk_int (v := 2) (by decide) ?_
  refine va_sld hx hb hSc hbl hbA hS (i := 2) (vi_of (by decide)) dd_L_law_1570 ?_
  refine wk_int (v := xs 2) rfl ?_
  refine hk_i (wr := (wM cy t)) (c1 := 155) (s1 := 19939) [0, 2, 5, 35, 38] [113, 114, 115, 116, 117, 118, 119, 120, 121, 122, 123, 124, 125, 126, 127, 128, 129, 130, 131, 132, 133, 134, 135, 136, 137, 138, 139, 140, 141, 142, 143, 144, 145, 146, 147, 148, 149, 150, 151, 152, 153, 154] (hc_V [.int (xs 1), .int (xs 2)] [] [0, 2, 5, 35, 38] Sx hl.1 ws_L_188 md_X11_looks (c_X_looks l D cy q (xs 1) (xs 2)) ⟨Nat.le_of_ble_eq_true rfl, Nat.le_of_ble_eq_true rfl⟩ hP hD rfl (by decide) hK nx_b (nx_w hX.1.1) (va_recv hK hP (ci := 11) (q0 := 0) rfl rfl) rfl rfl (Nat.le_of_ble_eq_true rfl) dd_L_law_1571 ⟨Nat.le_of_ble_eq_true rfl, Nat.le_of_ble_eq_true rfl⟩) hS hA hP hD rfl rfl (by decide) (by decide) rfl rfl (fun r1 u2 H locs hw3 hP hD hS => ?_)
  have hP : va_P D cls (wM cy t) H := hP
  have hD : va_D A (wM cy t) := hD
  refine lv_aload_n hx hb dd_L_law_1574 rfl (lv_at hl 1 rfl) ?_
  refine lv_aload_n hx hb dd_L_law_1575 rfl (lv_at hl 3 rfl) ?_
  refine lv_iload_n hx hb dd_L_law_1576 rfl (lv_at hl 0 rfl) ?_
  refine lv_iconst (v := 1) hx hb dd_L_law_1577 (by decide) ?_
  refine lv_iadd hx hb dd_L_law_1578 ?_
  refine wk_int (v := 1) (by decide) ?_
  refine va_sld hx hb hSc hbl hbA hS (i := 1) (vi_of (by decide)) dd_L_law_1579 ?_
  refine wk_int (v := xs 1) rfl ?_
  refine lv_aload_n hx hb dd_L_law_1580 rfl (lv_at hl 3 rfl) ?_
  refine lv_iload_n hx hb dd_L_law_1581 rfl (lv_at hl 0 rfl) ?_
  refine lv_iconst (v := 2) hx hb dd_L_law_1582 (by decide) ?_
  refine lv_iadd hx hb dd_L_law_1583 ?_
  refine wk_int (v := 2) (by decide) ?_
  refine va_sld hx hb hSc hbl hbA hS (i := 2) (vi_of (by decide)) dd_L_law_1584 ?_
  refine wk_int (v := xs 2) rfl ?_
  refine hk_i (wr := []) (c1 := 155) (s1 := 19939) [0, 27, 29] [] (hc_V [.int (xs 1), .int (xs 2)] [.int r1] [0, 27, 29] Sx hl.1 ws_L_191 md_X12_looks (c_M_pub_looks l D cy t (xs 1) (xs 2)) ⟨Nat.le_of_ble_eq_true rfl, Nat.le_of_ble_eq_true rfl⟩ hP hD rfl (by decide) hK nx_b (nx_w hX.1.1) (va_recv hK hP (ci := 12) (q0 := 0) rfl rfl) rfl rfl (Nat.le_of_ble_eq_true rfl) dd_L_law_1585 ⟨Nat.le_of_ble_eq_true rfl, Nat.le_of_ble_eq_true rfl⟩) hS hA hP hD rfl rfl (by decide) (by decide) rfl rfl (fun r4 u5 H locs hw6 hP hD hS => ?_)
  refine lv_icmp_eq (tgt := 1731) hx hb dd_L_law_1588 (by decide) (fun _ => ?_) (fun c => absurd (if2_eq hw3 hw6) c)
  exact law_again l A hAe Sx hr hlocks hSc hbl hS ls (lv_sub hl [0, 3] rfl)
set_option maxHeartbeats 4000000 in
set_option maxRecDepth 100000 in
theorem law_case_42 {p : Program} {e : Env} {s : State} {m : MethodId} {below : List Frame} {meth : Method} {c : Code} (l : Launch) (D : va_G) (cy : Nat → ClassId) (q t : Nat → Nat) (A : Nat → Prop) (hAe : ∀ w, A w → s.heap.size ≤ w) (hA : ∀ w, s.heap.size ≤ w → A w) {b : Nat} {xs : Nat → Int32} (Sx : CallFix p m c code 4 s #[Value.ref b] BW "WhiteElephantsLaw") (hr : meth.sig.returnType = ret) (hlocks : meth.locks = false) (hK : va_K D cls (TY cy) s) (hX : LX A s) (hSc : va_X b 6 xs s s.heap) (hbl : b < s.heap.size) {H : Heap} {locs : List Loc} {ls : Array Slot} (hl : lv_has ls 4 [(3, .int 0), (2, .ref (t 60)), (1, .ref (q 0)), (0, .ref b)]) (hP : va_P D cls (wX cy q ++ wM cy t) H) (hD : va_D A (wX cy q ++ wM cy t)) (hS : va_S A s.heap H locs) : W p l e room_1 s m #[Value.ref b] below meth c H locs 155 19939 (lw_Z below #[Value.ref b] s) (F0 m 1593 ls []) := by
  have hx := Sx.1
  have hb := Sx.2.1
  have hbA : ¬ A b := fun h => absurd (hAe b h) (Nat.not_le.mpr hbl)
  refine lv_aload_n hx hb dd_L_law_1593 rfl (lv_at hl 2 rfl) ?_
  refine lv_aload_n hx hb dd_L_law_1594 rfl (lv_at hl 3 rfl) ?_
  refine lv_iload_n hx hb dd_L_law_1595 rfl (lv_at hl 0 rfl) ?_
  refine lv_iconst (v := 1) hx hb dd_L_law_1596 (by decide) ?_
  refine lv_iadd hx hb dd_L_law_1597 ?_
  refine wk_int (v := 1) (by decide) ?_
  refine va_sld hx hb hSc hbl hbA hS (i := 1) (vi_of (by decide)) dd_L_law_1598 ?_
  refine wk_int (v := xs 1) rfl ?_
  refine lv_aload_n hx hb dd_L_law_1599 rfl (lv_at hl 3 rfl) ?_
  refine lv_iload_n hx hb dd_L_law_1600 rfl (lv_at hl 0 rfl) ?_
  refine lv_iconst (v := 2) hx hb dd_L_law_1601 (by decide) ?_
  refine lv_iadd hx hb dd_L_law_1602 ?_
  refine wk_int (v := 2) (by decide) ?_
  refine va_sld hx hb hSc hbl hbA hS (i := 2) (vi_of (by decide)) dd_L_law_1603 ?_
  refine wk_int (v := xs 2) rfl ?_
  refine hk_i (wr := (wM cy t)) (c1 := 155) (s1 := 19939) [0, 2, 5, 6] [113, 114, 115, 116, 117, 118, 119, 120, 121, 122, 123, 124, 125, 126, 127, 128, 129, 130, 131, 132, 133, 134, 135, 136, 137, 138, 139, 140, 141, 142, 143, 144, 145, 146, 147, 148, 149, 150, 151, 152, 153, 154] (hc_V [.int (xs 1), .int (xs 2)] [] [0, 2, 5, 6] Sx hl.1 ws_L_192 md_X11_laid (c_X_laid l D cy q (xs 1) (xs 2)) ⟨Nat.le_of_ble_eq_true rfl, Nat.le_of_ble_eq_true rfl⟩ hP hD rfl (by decide) hK nx_b (nx_w hX.1.1) (va_recv hK hP (ci := 11) (q0 := 0) rfl rfl) rfl rfl (Nat.le_of_ble_eq_true rfl) dd_L_law_1604 ⟨Nat.le_of_ble_eq_true rfl, Nat.le_of_ble_eq_true rfl⟩) hS hA hP hD rfl rfl (by decide) (by decide) rfl rfl (fun r1 u2 H locs hw3 hP hD hS => ?_)
  have hP : va_P D cls (wM cy t) H := hP
  have hD : va_D A (wM cy t) := hD
  refine lv_aload_n hx hb dd_L_law_1607 rfl (lv_at hl 1 rfl) ?_
  refine lv_aload_n hx hb dd_L_law_1608 rfl (lv_at hl 3 rfl) ?_
  refine lv_iload_n hx hb dd_L_law_1609 rfl (lv_at hl 0 rfl) ?_
  refine lv_iconst (v := 1) hx hb dd_L_law_1610 (by decide) ?_
  refine lv_iadd hx hb dd_L_law_1611 ?_
  refine wk_int (v := 1) (by decide) ?_
  refine va_sld hx hb hSc hbl hbA hS (i := 1) (vi_of (by decide)) dd_L_law_1612 ?_
  refine wk_int (v := xs 1) rfl ?_
  refine lv_aload_n hx hb dd_L_law_1613 rfl (lv_at hl 3 rfl) ?_
  refine lv_iload_n hx hb dd_L_law_1614 rfl (lv_at hl 0 rfl) ?_
  refine lv_iconst (v := 2) hx hb dd_L_law_1615 (by decide) ?_
  refine lv_iadd hx hb dd_L_law_1616 ?_
  refine wk_int (v := 2) (by decide) ?_
  refine va_sld hx hb hSc hbl hbA hS (i := 2) (vi_of (by decide)) dd_L_law_1617 ?_
  refine wk_int (v := xs 2) rfl ?_
  refine hk_i (wr := []) (c1 := 155) (s1 := 19939) [0, 29] [] (hc_V [.int (xs 1), .int (xs 2)] [.int r1] [0, 29] Sx hl.1 ws_L_195 md_X12_laid (c_M_pub_laid l D cy t (xs 1) (xs 2)) ⟨Nat.le_of_ble_eq_true rfl, Nat.le_of_ble_eq_true rfl⟩ hP hD rfl (by decide) hK nx_b (nx_w hX.1.1) (va_recv hK hP (ci := 12) (q0 := 0) rfl rfl) rfl rfl (Nat.le_of_ble_eq_true rfl) dd_L_law_1618 ⟨Nat.le_of_ble_eq_true rfl, Nat.le_of_ble_eq_true rfl⟩) hS hA hP hD rfl rfl (by decide) (by decide) rfl rfl (fun r4 u5 H locs hw6 hP hD hS => ?_)
  refine lv_icmp_eq (tgt := 1731) hx hb dd_L_law_1621 (by decide) (fun _ => ?_) (fun c => absurd (hw3.trans hw6.symm) c)
  exact law_again l A hAe Sx hr hlocks hSc hbl hS ls (lv_sub hl [0, 3] rfl)
set_option maxHeartbeats 4000000 in
set_option maxRecDepth 100000 in
theorem law_case_43 {p : Program} {e : Env} {s : State} {m : MethodId} {below : List Frame} {meth : Method} {c : Code} (l : Launch) (D : va_G) (cy : Nat → ClassId) (q t : Nat → Nat) (A : Nat → Prop) (hAe : ∀ w, A w → s.heap.size ≤ w) (hA : ∀ w, s.heap.size ≤ w → A w) {b : Nat} {xs : Nat → Int32} (Sx : CallFix p m c code 4 s #[Value.ref b] BW "WhiteElephantsLaw") (hr : meth.sig.returnType = ret) (hlocks : meth.locks = false) (hK : va_K D cls (TY cy) s) (hX : LX A s) (hSc : va_X b 6 xs s s.heap) (hbl : b < s.heap.size) {H : Heap} {locs : List Loc} {ls : Array Slot} (hl : lv_has ls 4 [(3, .int 0), (2, .ref (t 60)), (1, .ref (q 0)), (0, .ref b)]) (hP : va_P D cls (wX cy q ++ wM cy t) H) (hD : va_D A (wX cy q ++ wM cy t)) (hS : va_S A s.heap H locs) : W p l e room_1 s m #[Value.ref b] below meth c H locs 155 19939 (lw_Z below #[Value.ref b] s) (F0 m 1626 ls []) := by
  have hx := Sx.1
  have hb := Sx.2.1
  have hbA : ¬ A b := fun h => absurd (hAe b h) (Nat.not_le.mpr hbl)
  refine lv_aload_n hx hb dd_L_law_1626 rfl (lv_at hl 2 rfl) ?_
  refine lv_aload_n hx hb dd_L_law_1627 rfl (lv_at hl 3 rfl) ?_
  refine lv_iload_n hx hb dd_L_law_1628 rfl (lv_at hl 0 rfl) ?_
  refine lv_iconst (v := 1) hx hb dd_L_law_1629 (by decide) ?_
  refine lv_iadd hx hb dd_L_law_1630 ?_
  refine wk_int (v := 1) (by decide) ?_
  refine va_sld hx hb hSc hbl hbA hS (i := 1) (vi_of (by decide)) dd_L_law_1631 ?_
  refine wk_int (v := xs 1) rfl ?_
  refine hk_i (wr := (wM cy t)) (c1 := 155) (s1 := 19939) [0, 2, 5, 6, 94, 95] [113, 114, 115, 116, 117, 118, 119, 120, 121, 122, 123, 124, 125, 126, 127, 128, 129, 130, 131, 132, 133, 134, 135, 136, 137, 138, 139, 140, 141, 142, 143, 144, 145, 146, 147, 148, 149, 150, 151, 152, 153, 154] (hc_V [.int (xs 1)] [] [0, 2, 5, 6, 94, 95] Sx hl.1 ws_L_196 md_X11_shortBy (c_X_shortBy l D cy q (xs 1)) ⟨Nat.le_of_ble_eq_true rfl, Nat.le_of_ble_eq_true rfl⟩ hP hD rfl (by decide) hK nx_b (nx_w hX.1.1) (va_recv hK hP (ci := 11) (q0 := 0) rfl rfl) rfl rfl (Nat.le_of_ble_eq_true rfl) dd_L_law_1632 ⟨Nat.le_of_ble_eq_true rfl, Nat.le_of_ble_eq_true rfl⟩) hS hA hP hD rfl rfl (by decide) (by decide) rfl rfl (fun r1 u2 H locs hw3 hP hD hS => ?_)
  have hP : va_P D cls (wM cy t) H := hP
  have hD : va_D A (wM cy t) := hD
  refine lv_aload_n hx hb dd_L_law_1635 rfl (lv_at hl 1 rfl) ?_
  refine lv_aload_n hx hb dd_L_law_1636 rfl (lv_at hl 3 rfl) ?_
  refine lv_iload_n hx hb dd_L_law_1637 rfl (lv_at hl 0 rfl) ?_
  refine lv_iconst (v := 1) hx hb dd_L_law_1638 (by decide) ?_
  refine lv_iadd hx hb dd_L_law_1639 ?_
  refine wk_int (v := 1) (by decide) ?_
  refine va_sld hx hb hSc hbl hbA hS (i := 1) (vi_of (by decide)) dd_L_law_1640 ?_
  refine wk_int (v := xs 1) rfl ?_
  refine hk_i (wr := []) (c1 := 156) (s1 := 329939) [0, 29] [] (hc_V [.int (xs 1)] [.int r1] [0, 29] Sx hl.1 ws_L_199 md_X12_shortBy (c_M_pub_shortBy l D cy t (xs 1)) ⟨Nat.le_of_ble_eq_true rfl, Nat.le_of_ble_eq_true rfl⟩ hP hD rfl (by decide) hK nx_b (nx_w hX.1.1) (va_recv hK hP (ci := 12) (q0 := 0) rfl rfl) rfl rfl (Nat.le_of_ble_eq_true rfl) dd_L_law_1641 ⟨Nat.le_of_ble_eq_true rfl, Nat.le_of_ble_eq_true rfl⟩) hS hA hP hD rfl rfl (by decide) (by decide) rfl rfl (fun r4 u5 H locs hw6 hP hD hS => ?_)
  refine lv_icmp_eq (tgt := 1731) hx hb dd_L_law_1644 (by decide) (fun _ => ?_) (fun c => absurd (if2_eq hw3 hw6) c)
  exact law_again l A hAe Sx hr hlocks hSc hbl hS ls (lv_sub hl [0, 3] rfl)
set_option maxHeartbeats 4000000 in
set_option maxRecDepth 100000 in
theorem law_case_44 {p : Program} {e : Env} {s : State} {m : MethodId} {below : List Frame} {meth : Method} {c : Code} (l : Launch) (D : va_G) (cy : Nat → ClassId) (q t : Nat → Nat) (A : Nat → Prop) (hAe : ∀ w, A w → s.heap.size ≤ w) (hA : ∀ w, s.heap.size ≤ w → A w) {b : Nat} {xs : Nat → Int32} (Sx : CallFix p m c code 4 s #[Value.ref b] BW "WhiteElephantsLaw") (hr : meth.sig.returnType = ret) (hlocks : meth.locks = false) (hK : va_K D cls (TY cy) s) (hX : LX A s) (hSc : va_X b 6 xs s s.heap) (hbl : b < s.heap.size) {H : Heap} {locs : List Loc} {ls : Array Slot} (hl : lv_has ls 4 [(3, .int 0), (2, .ref (t 60)), (1, .ref (q 0)), (0, .ref b)]) (hP : va_P D cls (wX cy q ++ wM cy t) H) (hD : va_D A (wX cy q ++ wM cy t)) (hS : va_S A s.heap H locs) : W p l e room_1 s m #[Value.ref b] below meth c H locs 155 19939 (lw_Z below #[Value.ref b] s) (F0 m 1649 ls []) := by
  have hx := Sx.1
  have hb := Sx.2.1
  have hbA : ¬ A b := fun h => absurd (hAe b h) (Nat.not_le.mpr hbl)
  refine lv_aload_n hx hb dd_L_law_1649 rfl (lv_at hl 2 rfl) ?_
  refine lv_aload_n hx hb dd_L_law_1650 rfl (lv_at hl 3 rfl) ?_
  refine lv_iload_n hx hb dd_L_law_1651 rfl (lv_at hl 0 rfl) ?_
  refine lv_iconst (v := 1) hx hb dd_L_law_1652 (by decide) ?_
  refine lv_iadd hx hb dd_L_law_1653 ?_
  refine wk_int (v := 1) (by decide) ?_
  refine va_sld hx hb hSc hbl hbA hS (i := 1) (vi_of (by decide)) dd_L_law_1654 ?_
  refine wk_int (v := xs 1) rfl ?_
  refine lv_aload_n hx hb dd_L_law_1655 rfl (lv_at hl 3 rfl) ?_
  refine lv_iload_n hx hb dd_L_law_1656 rfl (lv_at hl 0 rfl) ?_
  refine lv_iconst (v := 2) hx hb dd_L_law_1657 (by decide) ?_
  refine lv_iadd hx hb dd_L_law_1658 ?_
  refine wk_int (v := 2) (by decide) ?_
  refine va_sld hx hb hSc hbl hbA hS (i := 2) (vi_of (by decide)) dd_L_law_1659 ?_
  refine wk_int (v := xs 2) rfl ?_
  refine hk_i (wr := (wM cy t)) (c1 := 155) (s1 := 19939) [0, 2, 5, 6] [113, 114, 115, 116, 117, 118, 119, 120, 121, 122, 123, 124, 125, 126, 127, 128, 129, 130, 131, 132, 133, 134, 135, 136, 137, 138, 139, 140, 141, 142, 143, 144, 145, 146, 147, 148, 149, 150, 151, 152, 153, 154] (hc_V [.int (xs 1), .int (xs 2)] [] [0, 2, 5, 6] Sx hl.1 ws_L_200 md_X11_hall (c_X_hall l D cy q (xs 1) (xs 2)) ⟨Nat.le_of_ble_eq_true rfl, Nat.le_of_ble_eq_true rfl⟩ hP hD rfl (by decide) hK nx_b (nx_w hX.1.1) (va_recv hK hP (ci := 11) (q0 := 0) rfl rfl) rfl rfl (Nat.le_of_ble_eq_true rfl) dd_L_law_1660 ⟨Nat.le_of_ble_eq_true rfl, Nat.le_of_ble_eq_true rfl⟩) hS hA hP hD rfl rfl (by decide) (by decide) rfl rfl (fun r1 u2 H locs hw3 hP hD hS => ?_)
  have hP : va_P D cls (wM cy t) H := hP
  have hD : va_D A (wM cy t) := hD
  refine lv_aload_n hx hb dd_L_law_1663 rfl (lv_at hl 1 rfl) ?_
  refine lv_aload_n hx hb dd_L_law_1664 rfl (lv_at hl 3 rfl) ?_
  refine lv_iload_n hx hb dd_L_law_1665 rfl (lv_at hl 0 rfl) ?_
  refine lv_iconst (v := 1) hx hb dd_L_law_1666 (by decide) ?_
  refine lv_iadd hx hb dd_L_law_1667 ?_
  refine wk_int (v := 1) (by decide) ?_
  refine va_sld hx hb hSc hbl hbA hS (i := 1) (vi_of (by decide)) dd_L_law_1668 ?_
  refine wk_int (v := xs 1) rfl ?_
  refine lv_aload_n hx hb dd_L_law_1669 rfl (lv_at hl 3 rfl) ?_
  refine lv_iload_n hx hb dd_L_law_1670 rfl (lv_at hl 0 rfl) ?_
  refine lv_iconst (v := 2) hx hb dd_L_law_1671 (by decide) ?_
  refine lv_iadd hx hb dd_L_law_1672 ?_
  refine wk_int (v := 2) (by decide) ?_
  refine va_sld hx hb hSc hbl hbA hS (i := 2) (vi_of (by decide)) dd_L_law_1673 ?_
  refine wk_int (v := xs 2) rfl ?_
  refine hk_i (wr := []) (c1 := 155) (s1 := 19939) [0, 29] [] (hc_V [.int (xs 1), .int (xs 2)] [.int r1] [0, 29] Sx hl.1 ws_L_203 md_X12_hall (c_M_pub_hall l D cy t (xs 1) (xs 2)) ⟨Nat.le_of_ble_eq_true rfl, Nat.le_of_ble_eq_true rfl⟩ hP hD rfl (by decide) hK nx_b (nx_w hX.1.1) (va_recv hK hP (ci := 12) (q0 := 0) rfl rfl) rfl rfl (Nat.le_of_ble_eq_true rfl) dd_L_law_1674 ⟨Nat.le_of_ble_eq_true rfl, Nat.le_of_ble_eq_true rfl⟩) hS hA hP hD rfl rfl (by decide) (by decide) rfl rfl (fun r4 u5 H locs hw6 hP hD hS => ?_)
  refine lv_icmp_eq (tgt := 1731) hx hb dd_L_law_1677 (by decide) (fun _ => ?_) (fun c => absurd (hw3.trans hw6.symm) c)
  exact law_again l A hAe Sx hr hlocks hSc hbl hS ls (lv_sub hl [0, 3] rfl)
set_option maxHeartbeats 4000000 in
set_option maxRecDepth 100000 in
theorem law_case_45 {p : Program} {e : Env} {s : State} {m : MethodId} {below : List Frame} {meth : Method} {c : Code} (l : Launch) (D : va_G) (cy : Nat → ClassId) (q t : Nat → Nat) (A : Nat → Prop) (hAe : ∀ w, A w → s.heap.size ≤ w) (hA : ∀ w, s.heap.size ≤ w → A w) {b : Nat} {xs : Nat → Int32} (Sx : CallFix p m c code 4 s #[Value.ref b] BW "WhiteElephantsLaw") (hr : meth.sig.returnType = ret) (hlocks : meth.locks = false) (hK : va_K D cls (TY cy) s) (hX : LX A s) (hSc : va_X b 6 xs s s.heap) (hbl : b < s.heap.size) {H : Heap} {locs : List Loc} {ls : Array Slot} (hl : lv_has ls 4 [(3, .int 0), (2, .ref (t 60)), (1, .ref (q 0)), (0, .ref b)]) (hP : va_P D cls (wX cy q ++ wM cy t) H) (hD : va_D A (wX cy q ++ wM cy t)) (hS : va_S A s.heap H locs) : W p l e room_1 s m #[Value.ref b] below meth c H locs 155 19939 (lw_Z below #[Value.ref b] s) (F0 m 1682 ls []) := by
  have hx := Sx.1
  have hb := Sx.2.1
  have hbA : ¬ A b := fun h => absurd (hAe b h) (Nat.not_le.mpr hbl)
  refine lv_aload_n hx hb dd_L_law_1682 rfl (lv_at hl 2 rfl) ?_
  refine hk_i (wr := (wM cy t)) (c1 := 155) (s1 := 19939) [0, 5, 6, 7, 8, 9, 10, 11, 12, 13, 14, 15, 16, 17, 18, 19, 20, 21, 22, 23, 24, 25, 26, 27, 28, 29, 30, 31, 32, 33, 34, 35, 36, 37, 38, 39, 40, 41, 42, 43, 44, 45, 46, 47, 48, 49, 50, 51, 52, 53, 54, 55, 56, 57, 58, 59, 60, 61, 62, 63, 64, 65, 66, 67, 68, 69, 70, 71, 72, 73, 74, 75, 76, 77, 78, 79, 80, 81, 82, 83, 84, 85, 86] [113, 114, 115, 116, 117, 118, 119, 120, 121, 122, 123, 124, 125, 126, 127, 128, 129, 130, 131, 132, 133, 134, 135, 136, 137, 138, 139, 140, 141, 142, 143, 144, 145, 146, 147, 148, 149, 150, 151, 152, 153, 154] (hc_V [] [] [0, 5, 6, 7, 8, 9, 10, 11, 12, 13, 14, 15, 16, 17, 18, 19, 20, 21, 22, 23, 24, 25, 26, 27, 28, 29, 30, 31, 32, 33, 34, 35, 36, 37, 38, 39, 40, 41, 42, 43, 44, 45, 46, 47, 48, 49, 50, 51, 52, 53, 54, 55, 56, 57, 58, 59, 60, 61, 62, 63, 64, 65, 66, 67, 68, 69, 70, 71, 72, 73, 74, 75, 76, 77, 78, 79, 80, 81, 82, 83, 84, 85, 86] Sx hl.1 ws_L_204 md_X11_image (c_X_image l D cy q) ⟨Nat.le_of_ble_eq_true rfl, Nat.le_of_ble_eq_true rfl⟩ hP hD rfl (by decide) hK nx_b (nx_w hX.1.1) (va_recv hK hP (ci := 11) (q0 := 0) rfl rfl) rfl rfl (Nat.le_of_ble_eq_true rfl) dd_L_law_1683 ⟨Nat.le_of_ble_eq_true rfl, Nat.le_of_ble_eq_true rfl⟩) hS hA hP hD rfl rfl (by decide) (by decide) rfl rfl (fun r1 u2 H locs hw3 hP hD hS => ?_)
  have hP : va_P D cls (wM cy t) H := hP
  have hD : va_D A (wM cy t) := hD
  refine lv_aload_n hx hb dd_L_law_1686 rfl (lv_at hl 1 rfl) ?_
  refine hk_i (wr := []) (c1 := 155) (s1 := 19939) [0, 4, 5, 6, 7, 8, 9, 10, 11, 12, 13, 15, 16, 17, 18, 19, 20, 21, 22, 23, 24, 25, 26, 27, 28, 30, 31] [] (hc_V [] [.int r1] [0, 4, 5, 6, 7, 8, 9, 10, 11, 12, 13, 15, 16, 17, 18, 19, 20, 21, 22, 23, 24, 25, 26, 27, 28, 30, 31] Sx hl.1 ws_L_207 md_X12_image (c_M_pub_image l D cy t) ⟨Nat.le_of_ble_eq_true rfl, Nat.le_of_ble_eq_true rfl⟩ hP hD rfl (by decide) hK nx_b (nx_w hX.1.1) (va_recv hK hP (ci := 12) (q0 := 0) rfl rfl) rfl rfl (Nat.le_of_ble_eq_true rfl) dd_L_law_1687 ⟨Nat.le_of_ble_eq_true rfl, Nat.le_of_ble_eq_true rfl⟩) hS hA hP hD rfl rfl (by decide) (by decide) rfl rfl (fun r4 u5 H locs hw6 hP hD hS => ?_)
  refine lv_icmp_eq (tgt := 1731) hx hb dd_L_law_1690 (by decide) (fun _ => ?_) (fun c => absurd (hw3.trans hw6.symm) c)
  exact law_again l A hAe Sx hr hlocks hSc hbl hS ls (lv_sub hl [0, 3] rfl)
set_option maxHeartbeats 4000000 in
set_option maxRecDepth 100000 in
theorem law_case_46 {p : Program} {e : Env} {s : State} {m : MethodId} {below : List Frame} {meth : Method} {c : Code} (l : Launch) (D : va_G) (cy : Nat → ClassId) (q t : Nat → Nat) (A : Nat → Prop) (hAe : ∀ w, A w → s.heap.size ≤ w) (hA : ∀ w, s.heap.size ≤ w → A w) {b : Nat} {xs : Nat → Int32} (Sx : CallFix p m c code 4 s #[Value.ref b] BW "WhiteElephantsLaw") (hr : meth.sig.returnType = ret) (hlocks : meth.locks = false) (hK : va_K D cls (TY cy) s) (hX : LX A s) (hSc : va_X b 6 xs s s.heap) (hbl : b < s.heap.size) {H : Heap} {locs : List Loc} {ls : Array Slot} (hl : lv_has ls 4 [(3, .int 0), (2, .ref (t 60)), (1, .ref (q 0)), (0, .ref b)]) (hP : va_P D cls (wX cy q ++ wM cy t) H) (hD : va_D A (wX cy q ++ wM cy t)) (hS : va_S A s.heap H locs) : W p l e room_1 s m #[Value.ref b] below meth c H locs 155 19939 (lw_Z below #[Value.ref b] s) (F0 m 1695 ls []) := by
  have hx := Sx.1
  have hb := Sx.2.1
  have hbA : ¬ A b := fun h => absurd (hAe b h) (Nat.not_le.mpr hbl)
  refine lv_aload_n hx hb dd_L_law_1695 rfl (lv_at hl 2 rfl) ?_
  refine hk_i (wr := (wM cy t)) (c1 := 155) (s1 := 19939) [0, 2] [113, 114, 115, 116, 117, 118, 119, 120, 121, 122, 123, 124, 125, 126, 127, 128, 129, 130, 131, 132, 133, 134, 135, 136, 137, 138, 139, 140, 141, 142, 143, 144, 145, 146, 147, 148, 149, 150, 151, 152, 153, 154] (hc_V [] [] [0, 2] Sx hl.1 ws_L_208 md_X11_back (c_X_back l D cy q) ⟨Nat.le_of_ble_eq_true rfl, Nat.le_of_ble_eq_true rfl⟩ hP hD rfl (by decide) hK nx_b (nx_w hX.1.1) (va_recv hK hP (ci := 11) (q0 := 0) rfl rfl) rfl rfl (Nat.le_of_ble_eq_true rfl) dd_L_law_1696 ⟨Nat.le_of_ble_eq_true rfl, Nat.le_of_ble_eq_true rfl⟩) hS hA hP hD rfl rfl (by decide) (by decide) rfl rfl (fun r1 u2 H locs hw3 hP hD hS => ?_)
  have hP : va_P D cls (wM cy t) H := hP
  have hD : va_D A (wM cy t) := hD
  refine lv_aload_n hx hb dd_L_law_1699 rfl (lv_at hl 1 rfl) ?_
  refine hk_i (wr := []) (c1 := 155) (s1 := 19939) [0, 29] [] (hc_V [] [.int r1] [0, 29] Sx hl.1 ws_L_211 md_X12_back (c_M_pub_back l D cy t) ⟨Nat.le_of_ble_eq_true rfl, Nat.le_of_ble_eq_true rfl⟩ hP hD rfl (by decide) hK nx_b (nx_w hX.1.1) (va_recv hK hP (ci := 12) (q0 := 0) rfl rfl) rfl rfl (Nat.le_of_ble_eq_true rfl) dd_L_law_1700 ⟨Nat.le_of_ble_eq_true rfl, Nat.le_of_ble_eq_true rfl⟩) hS hA hP hD rfl rfl (by decide) (by decide) rfl rfl (fun r4 u5 H locs hw6 hP hD hS => ?_)
  refine lv_icmp_eq (tgt := 1731) hx hb dd_L_law_1703 (by decide) (fun _ => ?_) (fun c => absurd (hw3.trans hw6.symm) c)
  exact law_again l A hAe Sx hr hlocks hSc hbl hS ls (lv_sub hl [0, 3] rfl)
set_option maxHeartbeats 4000000 in
set_option maxRecDepth 100000 in
theorem law_case_47 {p : Program} {e : Env} {s : State} {m : MethodId} {below : List Frame} {meth : Method} {c : Code} (l : Launch) (D : va_G) (cy : Nat → ClassId) (q t : Nat → Nat) (A : Nat → Prop) (hAe : ∀ w, A w → s.heap.size ≤ w) (hA : ∀ w, s.heap.size ≤ w → A w) {b : Nat} {xs : Nat → Int32} (Sx : CallFix p m c code 4 s #[Value.ref b] BW "WhiteElephantsLaw") (hr : meth.sig.returnType = ret) (hlocks : meth.locks = false) (hK : va_K D cls (TY cy) s) (hX : LX A s) (hSc : va_X b 6 xs s s.heap) (hbl : b < s.heap.size) {H : Heap} {locs : List Loc} {ls : Array Slot} (hl : lv_has ls 4 [(3, .int 0), (2, .ref (t 60)), (1, .ref (q 0)), (0, .ref b)]) (hP : va_P D cls (wX cy q ++ wM cy t) H) (hD : va_D A (wX cy q ++ wM cy t)) (hS : va_S A s.heap H locs) : W p l e room_1 s m #[Value.ref b] below meth c H locs 155 19939 (lw_Z below #[Value.ref b] s) (F0 m 1708 ls []) := by
  have hx := Sx.1
  have hb := Sx.2.1
  have hbA : ¬ A b := fun h => absurd (hAe b h) (Nat.not_le.mpr hbl)
  refine lv_aload_n hx hb dd_L_law_1708 rfl (lv_at hl 2 rfl) ?_
  refine lv_aload_n hx hb dd_L_law_1709 rfl (lv_at hl 3 rfl) ?_
  refine lv_iload_n hx hb dd_L_law_1710 rfl (lv_at hl 0 rfl) ?_
  refine lv_iconst (v := 1) hx hb dd_L_law_1711 (by decide) ?_
  refine lv_iadd hx hb dd_L_law_1712 ?_
  refine wk_int (v := 1) (by decide) ?_
  refine va_sld hx hb hSc hbl hbA hS (i := 1) (vi_of (by decide)) dd_L_law_1713 ?_
  refine wk_int (v := xs 1) rfl ?_
  refine pk_i (pc_V [.int (xs 1)] [] Sx hl.1 ws_L_212 md_X11_status (c_X_status l D cy q (xs 1)) ⟨rfl, rfl⟩ ⟨Nat.le_of_ble_eq_true rfl, Nat.le_of_ble_eq_true rfl⟩ (hP.sub [0, 1, 2, 3, 5, 6, 14, 18, 21, 27, 35, 97, 98, 99, 100, 101, 102, 103, 104, 105, 106, 107, 108, 109, 110, 111, 112] rfl) hK ns_b (ns_w hX.1.1) (va_recv hK hP (ci := 11) (q0 := 0) rfl rfl) rfl rfl (Nat.le_of_ble_eq_true rfl) dd_L_law_1714 ⟨Nat.le_of_ble_eq_true rfl, Nat.le_of_ble_eq_true rfl⟩) (fun r1 hw2 => ?_)
  refine lv_aload_n hx hb dd_L_law_1717 rfl (lv_at hl 1 rfl) ?_
  refine lv_aload_n hx hb dd_L_law_1718 rfl (lv_at hl 3 rfl) ?_
  refine lv_iload_n hx hb dd_L_law_1719 rfl (lv_at hl 0 rfl) ?_
  refine lv_iconst (v := 1) hx hb dd_L_law_1720 (by decide) ?_
  refine lv_iadd hx hb dd_L_law_1721 ?_
  refine wk_int (v := 1) (by decide) ?_
  refine va_sld hx hb hSc hbl hbA hS (i := 1) (vi_of (by decide)) dd_L_law_1722 ?_
  refine wk_int (v := xs 1) rfl ?_
  refine pk_i (pc_V [.int (xs 1)] [.int r1] Sx hl.1 ws_L_215 md_X12_status (c_M_pub_status l D cy t (xs 1)) ⟨rfl, rfl⟩ ⟨Nat.le_of_ble_eq_true rfl, Nat.le_of_ble_eq_true rfl⟩ (hP.sub [113, 114, 142] rfl) hK ns_b (ns_w hX.1.1) (va_recv hK hP (ci := 12) (q0 := 113) rfl rfl) rfl rfl (Nat.le_of_ble_eq_true rfl) dd_L_law_1723 ⟨Nat.le_of_ble_eq_true rfl, Nat.le_of_ble_eq_true rfl⟩) (fun r3 hw4 => ?_)
  refine lv_icmp_eq (tgt := 1731) hx hb dd_L_law_1726 (by decide) (fun _ => ?_) (fun c => absurd (if2_eq hw2 hw4) c)
  exact law_again l A hAe Sx hr hlocks hSc hbl hS ls (lv_sub hl [0, 3] rfl)
