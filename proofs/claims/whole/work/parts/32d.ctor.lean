set_option maxHeartbeats 4000000 in
set_option maxRecDepth 100000 in
theorem c_init_Buyers (l : Launch) (D : va_G) (cy : Nat → ClassId) (h : Nat) : HC l my_X0_init mb_X0_init 1 ((none : Option Jvm.ClassFile.FieldType)) (rmC 1 5 60) D (TY cy) [.ref h] NX [(h, .inr (0, [.null, .null, .null, .null, .null, .int 0]))] (QV (S := Nat → Nat) D (fun u => u 0 = h) (fun u => [(u 0, .inr (0, fBuyers u)), (u 1, .inl (cy 0, 12, .inl (fun _ => 0))), (u 2, .inl (cy 0, 12, .inl (fun _ => 0))), (u 3, .inl (cy 0, 12, .inl (fun _ => 0))), (u 4, .inl (cy 0, 12, .inl (fun _ => 0))), (u 5, .inl (cy 0, 12, .inl (fun _ => 0)))])) := by
  refine hc_intro (by decide) (Nat.le_of_ble_eq_true rfl) (fun p e s m below meth c A ls Sx hr hlocks hin hl hP hD hK hS hA hX => ?_)
  have hx := Sx.1
  have hb := Sx.2.1
  have hl : lv_has ls 1 [(0, .ref h)] := hl
  have hP : va_P D cls [(h, .inr (0, [.null, .null, .null, .null, .null, .int 0]))] s.heap := hP
  have hD : va_D A [(h, .inr (0, [.null, .null, .null, .null, .null, .int 0]))] := hD
  refine lv_aload_n hx hb dd_X0_init_0 rfl (lv_at hl 0 rfl) ?_
  refine W.objInit hx hb Sx.2.2.2.1 (Sx.2.2.2.2 _ kk_158) (Sx.2.2.2.2 _ kk_28) (Sx.2.2.2.2 _ kk_29) rfl (by rw [Sx.2.2.1]; exact hl.1) rfl dd_X0_init_1 (Nat.le_of_ble_eq_true rfl) (Nat.le_of_ble_eq_true rfl) ?_
  refine W.eq (g2 := F0 m 4 ls []) rfl ?_
  refine lv_aload_n hx hb dd_X0_init_4 rfl (lv_at hl 0 rfl) ?_
  refine lv_bipush (v := 12) hx hb dd_X0_init_5 (by decide) ?_
  refine wk_newa1 (at_ := .int) (a0 := (12, .inl (fun _ => 0))) (ft := .int) (cI := cy 0) (c1 := 1) (s1 := 12) Sx kk_52 rfl hK 0 rfl (fun _ h => h) hP hD hS hA 12 (fun _ => rfl) (by decide) (by decide) (Nat.le_of_ble_eq_true rfl) (Nat.le_of_ble_eq_true rfl) (Nat.le_of_ble_eq_true rfl) rfl rfl dd_X0_init_7 (fun n1 H hP hD hS => ?_)
  have hP : va_P D cls [(h, .inr (0, [.null, .null, .null, .null, .null, .int 0])), (n1, .inl (cy 0, 12, .inl (fun _ => 0)))] H := hP
  have hD : va_D A [(h, .inr (0, [.null, .null, .null, .null, .null, .int 0])), (n1, .inl (cy 0, 12, .inl (fun _ => 0)))] := hD
  refine wk_putF (ws' := [(h, .inr (0, [.ref n1, .null, .null, .null, .null, .int 0])), (n1, .inl (cy 0, 12, .inl (fun _ => 0)))]) Sx ef_0 hK hP hD hS 0 rfl rfl 0 (by decide) kk_159 rfl hin rfl rfl rfl (Nat.le_of_ble_eq_true rfl) dd_X0_init_9 rfl (fun H locs hP hD hS => ?_)
  refine lv_aload_n hx hb dd_X0_init_12 rfl (lv_at hl 0 rfl) ?_
  refine lv_bipush (v := 12) hx hb dd_X0_init_13 (by decide) ?_
  refine wk_newa1 (at_ := .int) (a0 := (12, .inl (fun _ => 0))) (ft := .int) (cI := cy 0) (c1 := 2) (s1 := 24) Sx kk_52 rfl hK 0 rfl (fun _ h => h) hP hD hS hA 12 (fun _ => rfl) (by decide) (by decide) (Nat.le_of_ble_eq_true rfl) (Nat.le_of_ble_eq_true rfl) (Nat.le_of_ble_eq_true rfl) rfl rfl dd_X0_init_15 (fun n2 H hP hD hS => ?_)
  have hP : va_P D cls [(h, .inr (0, [.ref n1, .null, .null, .null, .null, .int 0])), (n1, .inl (cy 0, 12, .inl (fun _ => 0))), (n2, .inl (cy 0, 12, .inl (fun _ => 0)))] H := hP
  have hD : va_D A [(h, .inr (0, [.ref n1, .null, .null, .null, .null, .int 0])), (n1, .inl (cy 0, 12, .inl (fun _ => 0))), (n2, .inl (cy 0, 12, .inl (fun _ => 0)))] := hD
  refine wk_putF (ws' := [(h, .inr (0, [.ref n1, .ref n2, .null, .null, .null, .int 0])), (n1, .inl (cy 0, 12, .inl (fun _ => 0))), (n2, .inl (cy 0, 12, .inl (fun _ => 0)))]) Sx ef_0 hK hP hD hS 0 rfl rfl 1 (by decide) kk_162 rfl hin rfl rfl rfl (Nat.le_of_ble_eq_true rfl) dd_X0_init_17 rfl (fun H locs hP hD hS => ?_)
  refine lv_aload_n hx hb dd_X0_init_20 rfl (lv_at hl 0 rfl) ?_
  refine lv_bipush (v := 12) hx hb dd_X0_init_21 (by decide) ?_
  refine wk_newa1 (at_ := .int) (a0 := (12, .inl (fun _ => 0))) (ft := .int) (cI := cy 0) (c1 := 3) (s1 := 36) Sx kk_52 rfl hK 0 rfl (fun _ h => h) hP hD hS hA 12 (fun _ => rfl) (by decide) (by decide) (Nat.le_of_ble_eq_true rfl) (Nat.le_of_ble_eq_true rfl) (Nat.le_of_ble_eq_true rfl) rfl rfl dd_X0_init_23 (fun n3 H hP hD hS => ?_)
  have hP : va_P D cls [(h, .inr (0, [.ref n1, .ref n2, .null, .null, .null, .int 0])), (n1, .inl (cy 0, 12, .inl (fun _ => 0))), (n2, .inl (cy 0, 12, .inl (fun _ => 0))), (n3, .inl (cy 0, 12, .inl (fun _ => 0)))] H := hP
  have hD : va_D A [(h, .inr (0, [.ref n1, .ref n2, .null, .null, .null, .int 0])), (n1, .inl (cy 0, 12, .inl (fun _ => 0))), (n2, .inl (cy 0, 12, .inl (fun _ => 0))), (n3, .inl (cy 0, 12, .inl (fun _ => 0)))] := hD
  refine wk_putF (ws' := [(h, .inr (0, [.ref n1, .ref n2, .ref n3, .null, .null, .int 0])), (n1, .inl (cy 0, 12, .inl (fun _ => 0))), (n2, .inl (cy 0, 12, .inl (fun _ => 0))), (n3, .inl (cy 0, 12, .inl (fun _ => 0)))]) Sx ef_0 hK hP hD hS 0 rfl rfl 2 (by decide) kk_165 rfl hin rfl rfl rfl (Nat.le_of_ble_eq_true rfl) dd_X0_init_25 rfl (fun H locs hP hD hS => ?_)
  refine lv_aload_n hx hb dd_X0_init_28 rfl (lv_at hl 0 rfl) ?_
  refine lv_bipush (v := 12) hx hb dd_X0_init_29 (by decide) ?_
  refine wk_newa1 (at_ := .int) (a0 := (12, .inl (fun _ => 0))) (ft := .int) (cI := cy 0) (c1 := 4) (s1 := 48) Sx kk_52 rfl hK 0 rfl (fun _ h => h) hP hD hS hA 12 (fun _ => rfl) (by decide) (by decide) (Nat.le_of_ble_eq_true rfl) (Nat.le_of_ble_eq_true rfl) (Nat.le_of_ble_eq_true rfl) rfl rfl dd_X0_init_31 (fun n4 H hP hD hS => ?_)
  have hP : va_P D cls [(h, .inr (0, [.ref n1, .ref n2, .ref n3, .null, .null, .int 0])), (n1, .inl (cy 0, 12, .inl (fun _ => 0))), (n2, .inl (cy 0, 12, .inl (fun _ => 0))), (n3, .inl (cy 0, 12, .inl (fun _ => 0))), (n4, .inl (cy 0, 12, .inl (fun _ => 0)))] H := hP
  have hD : va_D A [(h, .inr (0, [.ref n1, .ref n2, .ref n3, .null, .null, .int 0])), (n1, .inl (cy 0, 12, .inl (fun _ => 0))), (n2, .inl (cy 0, 12, .inl (fun _ => 0))), (n3, .inl (cy 0, 12, .inl (fun _ => 0))), (n4, .inl (cy 0, 12, .inl (fun _ => 0)))] := hD
  refine wk_putF (ws' := [(h, .inr (0, [.ref n1, .ref n2, .ref n3, .ref n4, .null, .int 0])), (n1, .inl (cy 0, 12, .inl (fun _ => 0))), (n2, .inl (cy 0, 12, .inl (fun _ => 0))), (n3, .inl (cy 0, 12, .inl (fun _ => 0))), (n4, .inl (cy 0, 12, .inl (fun _ => 0)))]) Sx ef_0 hK hP hD hS 0 rfl rfl 3 (by decide) kk_168 rfl hin rfl rfl rfl (Nat.le_of_ble_eq_true rfl) dd_X0_init_33 rfl (fun H locs hP hD hS => ?_)
  refine lv_aload_n hx hb dd_X0_init_36 rfl (lv_at hl 0 rfl) ?_
  refine lv_bipush (v := 12) hx hb dd_X0_init_37 (by decide) ?_
  refine wk_newa1 (at_ := .int) (a0 := (12, .inl (fun _ => 0))) (ft := .int) (cI := cy 0) (c1 := 5) (s1 := 60) Sx kk_52 rfl hK 0 rfl (fun _ h => h) hP hD hS hA 12 (fun _ => rfl) (by decide) (by decide) (Nat.le_of_ble_eq_true rfl) (Nat.le_of_ble_eq_true rfl) (Nat.le_of_ble_eq_true rfl) rfl rfl dd_X0_init_39 (fun n5 H hP hD hS => ?_)
  have hP : va_P D cls [(h, .inr (0, [.ref n1, .ref n2, .ref n3, .ref n4, .null, .int 0])), (n1, .inl (cy 0, 12, .inl (fun _ => 0))), (n2, .inl (cy 0, 12, .inl (fun _ => 0))), (n3, .inl (cy 0, 12, .inl (fun _ => 0))), (n4, .inl (cy 0, 12, .inl (fun _ => 0))), (n5, .inl (cy 0, 12, .inl (fun _ => 0)))] H := hP
  have hD : va_D A [(h, .inr (0, [.ref n1, .ref n2, .ref n3, .ref n4, .null, .int 0])), (n1, .inl (cy 0, 12, .inl (fun _ => 0))), (n2, .inl (cy 0, 12, .inl (fun _ => 0))), (n3, .inl (cy 0, 12, .inl (fun _ => 0))), (n4, .inl (cy 0, 12, .inl (fun _ => 0))), (n5, .inl (cy 0, 12, .inl (fun _ => 0)))] := hD
  refine wk_putF (ws' := [(h, .inr (0, [.ref n1, .ref n2, .ref n3, .ref n4, .ref n5, .int 0])), (n1, .inl (cy 0, 12, .inl (fun _ => 0))), (n2, .inl (cy 0, 12, .inl (fun _ => 0))), (n3, .inl (cy 0, 12, .inl (fun _ => 0))), (n4, .inl (cy 0, 12, .inl (fun _ => 0))), (n5, .inl (cy 0, 12, .inl (fun _ => 0)))]) Sx ef_0 hK hP hD hS 0 rfl rfl 4 (by decide) kk_171 rfl hin rfl rfl rfl (Nat.le_of_ble_eq_true rfl) dd_X0_init_41 rfl (fun H locs hP hD hS => ?_)
  refine lv_aload_n hx hb dd_X0_init_44 rfl (lv_at hl 0 rfl) ?_
  refine lv_iconst (v := 0) hx hb dd_X0_init_45 (by decide) ?_
  refine wk_put1 (ws' := [(h, .inr (0, [.ref n1, .ref n2, .ref n3, .ref n4, .ref n5, .int 0])), (n1, .inl (cy 0, 12, .inl (fun _ => 0))), (n2, .inl (cy 0, 12, .inl (fun _ => 0))), (n3, .inl (cy 0, 12, .inl (fun _ => 0))), (n4, .inl (cy 0, 12, .inl (fun _ => 0))), (n5, .inl (cy 0, 12, .inl (fun _ => 0)))]) Sx ef_0 hK hP hD hS 0 rfl rfl 5 (by decide) kk_174 rfl rfl rfl (Nat.le_of_ble_eq_true rfl) dd_X0_init_46 rfl (fun H locs hP hD hS => ?_)
  exact hc_vret Sx hr hlocks dd_X0_init_49 hS (fun k => ([h, n1, n2, n3, n4, n5] : List Nat).getD k 0) rfl (hP.sub [0, 1, 2, 3, 4, 5] rfl) (hD.sub [0, 1, 2, 3, 4, 5] (by decide) rfl)
set_option maxHeartbeats 4000000 in
set_option maxRecDepth 100000 in
theorem c_init_Things (l : Launch) (D : va_G) (cy : Nat → ClassId) (h : Nat) : HC l my_X10_init mb_X10_init 1 ((none : Option Jvm.ClassFile.FieldType)) (rmC 1 7 210) D (TY cy) [.ref h] NX [(h, .inr (10, [.null, .null, .null, .null, .null, .null, .int 0, .null]))] (QV (S := Nat → Nat) D (fun u => u 0 = h) (fun u => [(u 0, .inr (10, fThings u)), (u 1, .inl (cy 0, 30, .inl (fun _ => 0))), (u 2, .inl (cy 0, 30, .inl (fun _ => 0))), (u 3, .inl (cy 0, 30, .inl (fun _ => 0))), (u 4, .inl (cy 0, 30, .inl (fun _ => 0))), (u 5, .inl (cy 0, 30, .inl (fun _ => 0))), (u 6, .inl (cy 0, 30, .inl (fun _ => 0))), (u 7, .inl (cy 0, 30, .inl (fun _ => 0)))])) := by
  refine hc_intro (by decide) (Nat.le_of_ble_eq_true rfl) (fun p e s m below meth c A ls Sx hr hlocks hin hl hP hD hK hS hA hX => ?_)
  have hx := Sx.1
  have hb := Sx.2.1
  have hl : lv_has ls 1 [(0, .ref h)] := hl
  have hP : va_P D cls [(h, .inr (10, [.null, .null, .null, .null, .null, .null, .int 0, .null]))] s.heap := hP
  have hD : va_D A [(h, .inr (10, [.null, .null, .null, .null, .null, .null, .int 0, .null]))] := hD
  refine lv_aload_n hx hb dd_X10_init_0 rfl (lv_at hl 0 rfl) ?_
  refine W.objInit hx hb Sx.2.2.2.1 (Sx.2.2.2.2 _ kk_65) (Sx.2.2.2.2 _ kk_28) (Sx.2.2.2.2 _ kk_29) rfl (by rw [Sx.2.2.1]; exact hl.1) rfl dd_X10_init_1 (Nat.le_of_ble_eq_true rfl) (Nat.le_of_ble_eq_true rfl) ?_
  refine W.eq (g2 := F0 m 4 ls []) rfl ?_
  refine lv_aload_n hx hb dd_X10_init_4 rfl (lv_at hl 0 rfl) ?_
  refine lv_bipush (v := 30) hx hb dd_X10_init_5 (by decide) ?_
  refine wk_newa1 (at_ := .int) (a0 := (30, .inl (fun _ => 0))) (ft := .int) (cI := cy 0) (c1 := 1) (s1 := 30) Sx kk_52 rfl hK 0 rfl (fun _ h => h) hP hD hS hA 30 (fun _ => rfl) (by decide) (by decide) (Nat.le_of_ble_eq_true rfl) (Nat.le_of_ble_eq_true rfl) (Nat.le_of_ble_eq_true rfl) rfl rfl dd_X10_init_7 (fun n1 H hP hD hS => ?_)
  have hP : va_P D cls [(h, .inr (10, [.null, .null, .null, .null, .null, .null, .int 0, .null])), (n1, .inl (cy 0, 30, .inl (fun _ => 0)))] H := hP
  have hD : va_D A [(h, .inr (10, [.null, .null, .null, .null, .null, .null, .int 0, .null])), (n1, .inl (cy 0, 30, .inl (fun _ => 0)))] := hD
  refine wk_putF (ws' := [(h, .inr (10, [.ref n1, .null, .null, .null, .null, .null, .int 0, .null])), (n1, .inl (cy 0, 30, .inl (fun _ => 0)))]) Sx ef_10 hK hP hD hS 0 rfl rfl 0 (by decide) kk_66 rfl hin rfl rfl rfl (Nat.le_of_ble_eq_true rfl) dd_X10_init_9 rfl (fun H locs hP hD hS => ?_)
  refine lv_aload_n hx hb dd_X10_init_12 rfl (lv_at hl 0 rfl) ?_
  refine lv_bipush (v := 30) hx hb dd_X10_init_13 (by decide) ?_
  refine wk_newa1 (at_ := .int) (a0 := (30, .inl (fun _ => 0))) (ft := .int) (cI := cy 0) (c1 := 2) (s1 := 60) Sx kk_52 rfl hK 0 rfl (fun _ h => h) hP hD hS hA 30 (fun _ => rfl) (by decide) (by decide) (Nat.le_of_ble_eq_true rfl) (Nat.le_of_ble_eq_true rfl) (Nat.le_of_ble_eq_true rfl) rfl rfl dd_X10_init_15 (fun n2 H hP hD hS => ?_)
  have hP : va_P D cls [(h, .inr (10, [.ref n1, .null, .null, .null, .null, .null, .int 0, .null])), (n1, .inl (cy 0, 30, .inl (fun _ => 0))), (n2, .inl (cy 0, 30, .inl (fun _ => 0)))] H := hP
  have hD : va_D A [(h, .inr (10, [.ref n1, .null, .null, .null, .null, .null, .int 0, .null])), (n1, .inl (cy 0, 30, .inl (fun _ => 0))), (n2, .inl (cy 0, 30, .inl (fun _ => 0)))] := hD
  refine wk_putF (ws' := [(h, .inr (10, [.ref n1, .ref n2, .null, .null, .null, .null, .int 0, .null])), (n1, .inl (cy 0, 30, .inl (fun _ => 0))), (n2, .inl (cy 0, 30, .inl (fun _ => 0)))]) Sx ef_10 hK hP hD hS 0 rfl rfl 1 (by decide) kk_70 rfl hin rfl rfl rfl (Nat.le_of_ble_eq_true rfl) dd_X10_init_17 rfl (fun H locs hP hD hS => ?_)
  refine lv_aload_n hx hb dd_X10_init_20 rfl (lv_at hl 0 rfl) ?_
  refine lv_bipush (v := 30) hx hb dd_X10_init_21 (by decide) ?_
  refine wk_newa1 (at_ := .int) (a0 := (30, .inl (fun _ => 0))) (ft := .int) (cI := cy 0) (c1 := 3) (s1 := 90) Sx kk_52 rfl hK 0 rfl (fun _ h => h) hP hD hS hA 30 (fun _ => rfl) (by decide) (by decide) (Nat.le_of_ble_eq_true rfl) (Nat.le_of_ble_eq_true rfl) (Nat.le_of_ble_eq_true rfl) rfl rfl dd_X10_init_23 (fun n3 H hP hD hS => ?_)
  have hP : va_P D cls [(h, .inr (10, [.ref n1, .ref n2, .null, .null, .null, .null, .int 0, .null])), (n1, .inl (cy 0, 30, .inl (fun _ => 0))), (n2, .inl (cy 0, 30, .inl (fun _ => 0))), (n3, .inl (cy 0, 30, .inl (fun _ => 0)))] H := hP
  have hD : va_D A [(h, .inr (10, [.ref n1, .ref n2, .null, .null, .null, .null, .int 0, .null])), (n1, .inl (cy 0, 30, .inl (fun _ => 0))), (n2, .inl (cy 0, 30, .inl (fun _ => 0))), (n3, .inl (cy 0, 30, .inl (fun _ => 0)))] := hD
  refine wk_putF (ws' := [(h, .inr (10, [.ref n1, .ref n2, .ref n3, .null, .null, .null, .int 0, .null])), (n1, .inl (cy 0, 30, .inl (fun _ => 0))), (n2, .inl (cy 0, 30, .inl (fun _ => 0))), (n3, .inl (cy 0, 30, .inl (fun _ => 0)))]) Sx ef_10 hK hP hD hS 0 rfl rfl 2 (by decide) kk_72 rfl hin rfl rfl rfl (Nat.le_of_ble_eq_true rfl) dd_X10_init_25 rfl (fun H locs hP hD hS => ?_)
  refine lv_aload_n hx hb dd_X10_init_28 rfl (lv_at hl 0 rfl) ?_
  refine lv_bipush (v := 30) hx hb dd_X10_init_29 (by decide) ?_
  refine wk_newa1 (at_ := .int) (a0 := (30, .inl (fun _ => 0))) (ft := .int) (cI := cy 0) (c1 := 4) (s1 := 120) Sx kk_52 rfl hK 0 rfl (fun _ h => h) hP hD hS hA 30 (fun _ => rfl) (by decide) (by decide) (Nat.le_of_ble_eq_true rfl) (Nat.le_of_ble_eq_true rfl) (Nat.le_of_ble_eq_true rfl) rfl rfl dd_X10_init_31 (fun n4 H hP hD hS => ?_)
  have hP : va_P D cls [(h, .inr (10, [.ref n1, .ref n2, .ref n3, .null, .null, .null, .int 0, .null])), (n1, .inl (cy 0, 30, .inl (fun _ => 0))), (n2, .inl (cy 0, 30, .inl (fun _ => 0))), (n3, .inl (cy 0, 30, .inl (fun _ => 0))), (n4, .inl (cy 0, 30, .inl (fun _ => 0)))] H := hP
  have hD : va_D A [(h, .inr (10, [.ref n1, .ref n2, .ref n3, .null, .null, .null, .int 0, .null])), (n1, .inl (cy 0, 30, .inl (fun _ => 0))), (n2, .inl (cy 0, 30, .inl (fun _ => 0))), (n3, .inl (cy 0, 30, .inl (fun _ => 0))), (n4, .inl (cy 0, 30, .inl (fun _ => 0)))] := hD
  refine wk_putF (ws' := [(h, .inr (10, [.ref n1, .ref n2, .ref n3, .ref n4, .null, .null, .int 0, .null])), (n1, .inl (cy 0, 30, .inl (fun _ => 0))), (n2, .inl (cy 0, 30, .inl (fun _ => 0))), (n3, .inl (cy 0, 30, .inl (fun _ => 0))), (n4, .inl (cy 0, 30, .inl (fun _ => 0)))]) Sx ef_10 hK hP hD hS 0 rfl rfl 3 (by decide) kk_74 rfl hin rfl rfl rfl (Nat.le_of_ble_eq_true rfl) dd_X10_init_33 rfl (fun H locs hP hD hS => ?_)
  refine lv_aload_n hx hb dd_X10_init_36 rfl (lv_at hl 0 rfl) ?_
  refine lv_bipush (v := 30) hx hb dd_X10_init_37 (by decide) ?_
  refine wk_newa1 (at_ := .int) (a0 := (30, .inl (fun _ => 0))) (ft := .int) (cI := cy 0) (c1 := 5) (s1 := 150) Sx kk_52 rfl hK 0 rfl (fun _ h => h) hP hD hS hA 30 (fun _ => rfl) (by decide) (by decide) (Nat.le_of_ble_eq_true rfl) (Nat.le_of_ble_eq_true rfl) (Nat.le_of_ble_eq_true rfl) rfl rfl dd_X10_init_39 (fun n5 H hP hD hS => ?_)
  have hP : va_P D cls [(h, .inr (10, [.ref n1, .ref n2, .ref n3, .ref n4, .null, .null, .int 0, .null])), (n1, .inl (cy 0, 30, .inl (fun _ => 0))), (n2, .inl (cy 0, 30, .inl (fun _ => 0))), (n3, .inl (cy 0, 30, .inl (fun _ => 0))), (n4, .inl (cy 0, 30, .inl (fun _ => 0))), (n5, .inl (cy 0, 30, .inl (fun _ => 0)))] H := hP
  have hD : va_D A [(h, .inr (10, [.ref n1, .ref n2, .ref n3, .ref n4, .null, .null, .int 0, .null])), (n1, .inl (cy 0, 30, .inl (fun _ => 0))), (n2, .inl (cy 0, 30, .inl (fun _ => 0))), (n3, .inl (cy 0, 30, .inl (fun _ => 0))), (n4, .inl (cy 0, 30, .inl (fun _ => 0))), (n5, .inl (cy 0, 30, .inl (fun _ => 0)))] := hD
  refine wk_putF (ws' := [(h, .inr (10, [.ref n1, .ref n2, .ref n3, .ref n4, .ref n5, .null, .int 0, .null])), (n1, .inl (cy 0, 30, .inl (fun _ => 0))), (n2, .inl (cy 0, 30, .inl (fun _ => 0))), (n3, .inl (cy 0, 30, .inl (fun _ => 0))), (n4, .inl (cy 0, 30, .inl (fun _ => 0))), (n5, .inl (cy 0, 30, .inl (fun _ => 0)))]) Sx ef_10 hK hP hD hS 0 rfl rfl 4 (by decide) kk_79 rfl hin rfl rfl rfl (Nat.le_of_ble_eq_true rfl) dd_X10_init_41 rfl (fun H locs hP hD hS => ?_)
  refine lv_aload_n hx hb dd_X10_init_44 rfl (lv_at hl 0 rfl) ?_
  refine lv_bipush (v := 30) hx hb dd_X10_init_45 (by decide) ?_
  refine wk_newa1 (at_ := .int) (a0 := (30, .inl (fun _ => 0))) (ft := .int) (cI := cy 0) (c1 := 6) (s1 := 180) Sx kk_52 rfl hK 0 rfl (fun _ h => h) hP hD hS hA 30 (fun _ => rfl) (by decide) (by decide) (Nat.le_of_ble_eq_true rfl) (Nat.le_of_ble_eq_true rfl) (Nat.le_of_ble_eq_true rfl) rfl rfl dd_X10_init_47 (fun n6 H hP hD hS => ?_)
  have hP : va_P D cls [(h, .inr (10, [.ref n1, .ref n2, .ref n3, .ref n4, .ref n5, .null, .int 0, .null])), (n1, .inl (cy 0, 30, .inl (fun _ => 0))), (n2, .inl (cy 0, 30, .inl (fun _ => 0))), (n3, .inl (cy 0, 30, .inl (fun _ => 0))), (n4, .inl (cy 0, 30, .inl (fun _ => 0))), (n5, .inl (cy 0, 30, .inl (fun _ => 0))), (n6, .inl (cy 0, 30, .inl (fun _ => 0)))] H := hP
  have hD : va_D A [(h, .inr (10, [.ref n1, .ref n2, .ref n3, .ref n4, .ref n5, .null, .int 0, .null])), (n1, .inl (cy 0, 30, .inl (fun _ => 0))), (n2, .inl (cy 0, 30, .inl (fun _ => 0))), (n3, .inl (cy 0, 30, .inl (fun _ => 0))), (n4, .inl (cy 0, 30, .inl (fun _ => 0))), (n5, .inl (cy 0, 30, .inl (fun _ => 0))), (n6, .inl (cy 0, 30, .inl (fun _ => 0)))] := hD
  refine wk_putF (ws' := [(h, .inr (10, [.ref n1, .ref n2, .ref n3, .ref n4, .ref n5, .ref n6, .int 0, .null])), (n1, .inl (cy 0, 30, .inl (fun _ => 0))), (n2, .inl (cy 0, 30, .inl (fun _ => 0))), (n3, .inl (cy 0, 30, .inl (fun _ => 0))), (n4, .inl (cy 0, 30, .inl (fun _ => 0))), (n5, .inl (cy 0, 30, .inl (fun _ => 0))), (n6, .inl (cy 0, 30, .inl (fun _ => 0)))]) Sx ef_10 hK hP hD hS 0 rfl rfl 5 (by decide) kk_82 rfl hin rfl rfl rfl (Nat.le_of_ble_eq_true rfl) dd_X10_init_49 rfl (fun H locs hP hD hS => ?_)
  refine lv_aload_n hx hb dd_X10_init_52 rfl (lv_at hl 0 rfl) ?_
  refine lv_iconst (v := 0) hx hb dd_X10_init_53 (by decide) ?_
  refine wk_put1 (ws' := [(h, .inr (10, [.ref n1, .ref n2, .ref n3, .ref n4, .ref n5, .ref n6, .int 0, .null])), (n1, .inl (cy 0, 30, .inl (fun _ => 0))), (n2, .inl (cy 0, 30, .inl (fun _ => 0))), (n3, .inl (cy 0, 30, .inl (fun _ => 0))), (n4, .inl (cy 0, 30, .inl (fun _ => 0))), (n5, .inl (cy 0, 30, .inl (fun _ => 0))), (n6, .inl (cy 0, 30, .inl (fun _ => 0)))]) Sx ef_10 hK hP hD hS 0 rfl rfl 6 (by decide) kk_86 rfl rfl rfl (Nat.le_of_ble_eq_true rfl) dd_X10_init_54 rfl (fun H locs hP hD hS => ?_)
  refine lv_aload_n hx hb dd_X10_init_57 rfl (lv_at hl 0 rfl) ?_
  refine lv_bipush (v := 30) hx hb dd_X10_init_58 (by decide) ?_
  refine wk_newa1 (at_ := .int) (a0 := (30, .inl (fun _ => 0))) (ft := .int) (cI := cy 0) (c1 := 7) (s1 := 210) Sx kk_52 rfl hK 0 rfl (fun _ h => h) hP hD hS hA 30 (fun _ => rfl) (by decide) (by decide) (Nat.le_of_ble_eq_true rfl) (Nat.le_of_ble_eq_true rfl) (Nat.le_of_ble_eq_true rfl) rfl rfl dd_X10_init_60 (fun n7 H hP hD hS => ?_)
  have hP : va_P D cls [(h, .inr (10, [.ref n1, .ref n2, .ref n3, .ref n4, .ref n5, .ref n6, .int 0, .null])), (n1, .inl (cy 0, 30, .inl (fun _ => 0))), (n2, .inl (cy 0, 30, .inl (fun _ => 0))), (n3, .inl (cy 0, 30, .inl (fun _ => 0))), (n4, .inl (cy 0, 30, .inl (fun _ => 0))), (n5, .inl (cy 0, 30, .inl (fun _ => 0))), (n6, .inl (cy 0, 30, .inl (fun _ => 0))), (n7, .inl (cy 0, 30, .inl (fun _ => 0)))] H := hP
  have hD : va_D A [(h, .inr (10, [.ref n1, .ref n2, .ref n3, .ref n4, .ref n5, .ref n6, .int 0, .null])), (n1, .inl (cy 0, 30, .inl (fun _ => 0))), (n2, .inl (cy 0, 30, .inl (fun _ => 0))), (n3, .inl (cy 0, 30, .inl (fun _ => 0))), (n4, .inl (cy 0, 30, .inl (fun _ => 0))), (n5, .inl (cy 0, 30, .inl (fun _ => 0))), (n6, .inl (cy 0, 30, .inl (fun _ => 0))), (n7, .inl (cy 0, 30, .inl (fun _ => 0)))] := hD
  refine wk_putF (ws' := [(h, .inr (10, [.ref n1, .ref n2, .ref n3, .ref n4, .ref n5, .ref n6, .int 0, .ref n7])), (n1, .inl (cy 0, 30, .inl (fun _ => 0))), (n2, .inl (cy 0, 30, .inl (fun _ => 0))), (n3, .inl (cy 0, 30, .inl (fun _ => 0))), (n4, .inl (cy 0, 30, .inl (fun _ => 0))), (n5, .inl (cy 0, 30, .inl (fun _ => 0))), (n6, .inl (cy 0, 30, .inl (fun _ => 0))), (n7, .inl (cy 0, 30, .inl (fun _ => 0)))]) Sx ef_10 hK hP hD hS 0 rfl rfl 7 (by decide) kk_91 rfl hin rfl rfl rfl (Nat.le_of_ble_eq_true rfl) dd_X10_init_62 rfl (fun H locs hP hD hS => ?_)
  exact hc_vret Sx hr hlocks dd_X10_init_65 hS (fun k => ([h, n1, n2, n3, n4, n5, n6, n7] : List Nat).getD k 0) rfl (hP.sub [0, 1, 2, 3, 4, 5, 6, 7] rfl) (hD.sub [0, 1, 2, 3, 4, 5, 6, 7] (by decide) rfl)
set_option maxHeartbeats 4000000 in
set_option maxRecDepth 100000 in
theorem c_init_Ladies (l : Launch) (D : va_G) (cy : Nat → ClassId) (h : Nat) : HC l my_X2_init mb_X2_init 1 ((none : Option Jvm.ClassFile.FieldType)) (rmC 1 3 15) D (TY cy) [.ref h] NX [(h, .inr (2, [.null, .null, .null, .int 0]))] (QV (S := Nat → Nat) D (fun u => u 0 = h) (fun u => [(u 0, .inr (2, fLadies u)), (u 1, .inl (cy 0, 5, .inl (fun _ => 0))), (u 2, .inl (cy 0, 5, .inl (fun _ => 0))), (u 3, .inl (cy 0, 5, .inl (fun _ => 0)))])) := by
  refine hc_intro (by decide) (Nat.le_of_ble_eq_true rfl) (fun p e s m below meth c A ls Sx hr hlocks hin hl hP hD hK hS hA hX => ?_)
  have hx := Sx.1
  have hb := Sx.2.1
  have hl : lv_has ls 1 [(0, .ref h)] := hl
  have hP : va_P D cls [(h, .inr (2, [.null, .null, .null, .int 0]))] s.heap := hP
  have hD : va_D A [(h, .inr (2, [.null, .null, .null, .int 0]))] := hD
  refine lv_aload_n hx hb dd_X2_init_0 rfl (lv_at hl 0 rfl) ?_
  refine W.objInit hx hb Sx.2.2.2.1 (Sx.2.2.2.2 _ kk_115) (Sx.2.2.2.2 _ kk_28) (Sx.2.2.2.2 _ kk_29) rfl (by rw [Sx.2.2.1]; exact hl.1) rfl dd_X2_init_1 (Nat.le_of_ble_eq_true rfl) (Nat.le_of_ble_eq_true rfl) ?_
  refine W.eq (g2 := F0 m 4 ls []) rfl ?_
  refine lv_aload_n hx hb dd_X2_init_4 rfl (lv_at hl 0 rfl) ?_
  refine lv_iconst (v := 5) hx hb dd_X2_init_5 (by decide) ?_
  refine wk_newa1 (at_ := .int) (a0 := (5, .inl (fun _ => 0))) (ft := .int) (cI := cy 0) (c1 := 1) (s1 := 5) Sx kk_52 rfl hK 0 rfl (fun _ h => h) hP hD hS hA 5 (fun _ => rfl) (by decide) (by decide) (Nat.le_of_ble_eq_true rfl) (Nat.le_of_ble_eq_true rfl) (Nat.le_of_ble_eq_true rfl) rfl rfl dd_X2_init_6 (fun n1 H hP hD hS => ?_)
  have hP : va_P D cls [(h, .inr (2, [.null, .null, .null, .int 0])), (n1, .inl (cy 0, 5, .inl (fun _ => 0)))] H := hP
  have hD : va_D A [(h, .inr (2, [.null, .null, .null, .int 0])), (n1, .inl (cy 0, 5, .inl (fun _ => 0)))] := hD
  refine wk_putF (ws' := [(h, .inr (2, [.ref n1, .null, .null, .int 0])), (n1, .inl (cy 0, 5, .inl (fun _ => 0)))]) Sx ef_2 hK hP hD hS 0 rfl rfl 0 (by decide) kk_116 rfl hin rfl rfl rfl (Nat.le_of_ble_eq_true rfl) dd_X2_init_8 rfl (fun H locs hP hD hS => ?_)
  refine lv_aload_n hx hb dd_X2_init_11 rfl (lv_at hl 0 rfl) ?_
  refine lv_iconst (v := 5) hx hb dd_X2_init_12 (by decide) ?_
  refine wk_newa1 (at_ := .int) (a0 := (5, .inl (fun _ => 0))) (ft := .int) (cI := cy 0) (c1 := 2) (s1 := 10) Sx kk_52 rfl hK 0 rfl (fun _ h => h) hP hD hS hA 5 (fun _ => rfl) (by decide) (by decide) (Nat.le_of_ble_eq_true rfl) (Nat.le_of_ble_eq_true rfl) (Nat.le_of_ble_eq_true rfl) rfl rfl dd_X2_init_13 (fun n2 H hP hD hS => ?_)
  have hP : va_P D cls [(h, .inr (2, [.ref n1, .null, .null, .int 0])), (n1, .inl (cy 0, 5, .inl (fun _ => 0))), (n2, .inl (cy 0, 5, .inl (fun _ => 0)))] H := hP
  have hD : va_D A [(h, .inr (2, [.ref n1, .null, .null, .int 0])), (n1, .inl (cy 0, 5, .inl (fun _ => 0))), (n2, .inl (cy 0, 5, .inl (fun _ => 0)))] := hD
  refine wk_putF (ws' := [(h, .inr (2, [.ref n1, .ref n2, .null, .int 0])), (n1, .inl (cy 0, 5, .inl (fun _ => 0))), (n2, .inl (cy 0, 5, .inl (fun _ => 0)))]) Sx ef_2 hK hP hD hS 0 rfl rfl 1 (by decide) kk_118 rfl hin rfl rfl rfl (Nat.le_of_ble_eq_true rfl) dd_X2_init_15 rfl (fun H locs hP hD hS => ?_)
  refine lv_aload_n hx hb dd_X2_init_18 rfl (lv_at hl 0 rfl) ?_
  refine lv_iconst (v := 5) hx hb dd_X2_init_19 (by decide) ?_
  refine wk_newa1 (at_ := .int) (a0 := (5, .inl (fun _ => 0))) (ft := .int) (cI := cy 0) (c1 := 3) (s1 := 15) Sx kk_52 rfl hK 0 rfl (fun _ h => h) hP hD hS hA 5 (fun _ => rfl) (by decide) (by decide) (Nat.le_of_ble_eq_true rfl) (Nat.le_of_ble_eq_true rfl) (Nat.le_of_ble_eq_true rfl) rfl rfl dd_X2_init_20 (fun n3 H hP hD hS => ?_)
  have hP : va_P D cls [(h, .inr (2, [.ref n1, .ref n2, .null, .int 0])), (n1, .inl (cy 0, 5, .inl (fun _ => 0))), (n2, .inl (cy 0, 5, .inl (fun _ => 0))), (n3, .inl (cy 0, 5, .inl (fun _ => 0)))] H := hP
  have hD : va_D A [(h, .inr (2, [.ref n1, .ref n2, .null, .int 0])), (n1, .inl (cy 0, 5, .inl (fun _ => 0))), (n2, .inl (cy 0, 5, .inl (fun _ => 0))), (n3, .inl (cy 0, 5, .inl (fun _ => 0)))] := hD
  refine wk_putF (ws' := [(h, .inr (2, [.ref n1, .ref n2, .ref n3, .int 0])), (n1, .inl (cy 0, 5, .inl (fun _ => 0))), (n2, .inl (cy 0, 5, .inl (fun _ => 0))), (n3, .inl (cy 0, 5, .inl (fun _ => 0)))]) Sx ef_2 hK hP hD hS 0 rfl rfl 2 (by decide) kk_120 rfl hin rfl rfl rfl (Nat.le_of_ble_eq_true rfl) dd_X2_init_22 rfl (fun H locs hP hD hS => ?_)
  refine lv_aload_n hx hb dd_X2_init_25 rfl (lv_at hl 0 rfl) ?_
  refine lv_iconst (v := 0) hx hb dd_X2_init_26 (by decide) ?_
  refine wk_put1 (ws' := [(h, .inr (2, [.ref n1, .ref n2, .ref n3, .int 0])), (n1, .inl (cy 0, 5, .inl (fun _ => 0))), (n2, .inl (cy 0, 5, .inl (fun _ => 0))), (n3, .inl (cy 0, 5, .inl (fun _ => 0)))]) Sx ef_2 hK hP hD hS 0 rfl rfl 3 (by decide) kk_123 rfl rfl rfl (Nat.le_of_ble_eq_true rfl) dd_X2_init_27 rfl (fun H locs hP hD hS => ?_)
  exact hc_vret Sx hr hlocks dd_X2_init_30 hS (fun k => ([h, n1, n2, n3] : List Nat).getD k 0) rfl (hP.sub [0, 1, 2, 3] rfl) (hD.sub [0, 1, 2, 3] (by decide) rfl)
set_option maxHeartbeats 4000000 in
set_option maxRecDepth 100000 in
theorem c_init_Laws (l : Launch) (D : va_G) (cy : Nat → ClassId) (h : Nat) : HC l my_X3_init mb_X3_init 1 ((none : Option Jvm.ClassFile.FieldType)) (rmC 1 2 35) D (TY cy) [.ref h] NX [(h, .inr (3, [.null, .null, .int 0]))] (QV (S := Nat → Nat) D (fun u => u 0 = h) (fun u => [(u 0, .inr (3, fLaws u)), (u 1, .inl (cy 0, 30, .inl (fun _ => 0))), (u 2, .inl (cy 0, 5, .inl (fun _ => 0)))])) := by
  refine hc_intro (by decide) (Nat.le_of_ble_eq_true rfl) (fun p e s m below meth c A ls Sx hr hlocks hin hl hP hD hK hS hA hX => ?_)
  have hx := Sx.1
  have hb := Sx.2.1
  have hl : lv_has ls 1 [(0, .ref h)] := hl
  have hP : va_P D cls [(h, .inr (3, [.null, .null, .int 0]))] s.heap := hP
  have hD : va_D A [(h, .inr (3, [.null, .null, .int 0]))] := hD
  refine lv_aload_n hx hb dd_X3_init_0 rfl (lv_at hl 0 rfl) ?_
  refine W.objInit hx hb Sx.2.2.2.1 (Sx.2.2.2.2 _ kk_140) (Sx.2.2.2.2 _ kk_28) (Sx.2.2.2.2 _ kk_29) rfl (by rw [Sx.2.2.1]; exact hl.1) rfl dd_X3_init_1 (Nat.le_of_ble_eq_true rfl) (Nat.le_of_ble_eq_true rfl) ?_
  refine W.eq (g2 := F0 m 4 ls []) rfl ?_
  refine lv_aload_n hx hb dd_X3_init_4 rfl (lv_at hl 0 rfl) ?_
  refine lv_bipush (v := 30) hx hb dd_X3_init_5 (by decide) ?_
  refine wk_newa1 (at_ := .int) (a0 := (30, .inl (fun _ => 0))) (ft := .int) (cI := cy 0) (c1 := 1) (s1 := 30) Sx kk_52 rfl hK 0 rfl (fun _ h => h) hP hD hS hA 30 (fun _ => rfl) (by decide) (by decide) (Nat.le_of_ble_eq_true rfl) (Nat.le_of_ble_eq_true rfl) (Nat.le_of_ble_eq_true rfl) rfl rfl dd_X3_init_7 (fun n1 H hP hD hS => ?_)
  have hP : va_P D cls [(h, .inr (3, [.null, .null, .int 0])), (n1, .inl (cy 0, 30, .inl (fun _ => 0)))] H := hP
  have hD : va_D A [(h, .inr (3, [.null, .null, .int 0])), (n1, .inl (cy 0, 30, .inl (fun _ => 0)))] := hD
  refine wk_putF (ws' := [(h, .inr (3, [.ref n1, .null, .int 0])), (n1, .inl (cy 0, 30, .inl (fun _ => 0)))]) Sx ef_3 hK hP hD hS 0 rfl rfl 0 (by decide) kk_141 rfl hin rfl rfl rfl (Nat.le_of_ble_eq_true rfl) dd_X3_init_9 rfl (fun H locs hP hD hS => ?_)
  refine lv_aload_n hx hb dd_X3_init_12 rfl (lv_at hl 0 rfl) ?_
  refine lv_iconst (v := 5) hx hb dd_X3_init_13 (by decide) ?_
  refine wk_newa1 (at_ := .int) (a0 := (5, .inl (fun _ => 0))) (ft := .int) (cI := cy 0) (c1 := 2) (s1 := 35) Sx kk_52 rfl hK 0 rfl (fun _ h => h) hP hD hS hA 5 (fun _ => rfl) (by decide) (by decide) (Nat.le_of_ble_eq_true rfl) (Nat.le_of_ble_eq_true rfl) (Nat.le_of_ble_eq_true rfl) rfl rfl dd_X3_init_14 (fun n2 H hP hD hS => ?_)
  have hP : va_P D cls [(h, .inr (3, [.ref n1, .null, .int 0])), (n1, .inl (cy 0, 30, .inl (fun _ => 0))), (n2, .inl (cy 0, 5, .inl (fun _ => 0)))] H := hP
  have hD : va_D A [(h, .inr (3, [.ref n1, .null, .int 0])), (n1, .inl (cy 0, 30, .inl (fun _ => 0))), (n2, .inl (cy 0, 5, .inl (fun _ => 0)))] := hD
  refine wk_putF (ws' := [(h, .inr (3, [.ref n1, .ref n2, .int 0])), (n1, .inl (cy 0, 30, .inl (fun _ => 0))), (n2, .inl (cy 0, 5, .inl (fun _ => 0)))]) Sx ef_3 hK hP hD hS 0 rfl rfl 1 (by decide) kk_142 rfl hin rfl rfl rfl (Nat.le_of_ble_eq_true rfl) dd_X3_init_16 rfl (fun H locs hP hD hS => ?_)
  refine lv_aload_n hx hb dd_X3_init_19 rfl (lv_at hl 0 rfl) ?_
  refine lv_iconst (v := 0) hx hb dd_X3_init_20 (by decide) ?_
  refine wk_put1 (ws' := [(h, .inr (3, [.ref n1, .ref n2, .int 0])), (n1, .inl (cy 0, 30, .inl (fun _ => 0))), (n2, .inl (cy 0, 5, .inl (fun _ => 0)))]) Sx ef_3 hK hP hD hS 0 rfl rfl 2 (by decide) kk_144 rfl rfl rfl (Nat.le_of_ble_eq_true rfl) dd_X3_init_21 rfl (fun H locs hP hD hS => ?_)
  exact hc_vret Sx hr hlocks dd_X3_init_24 hS (fun k => ([h, n1, n2] : List Nat).getD k 0) rfl (hP.sub [0, 1, 2] rfl) (hD.sub [0, 1, 2] (by decide) rfl)
set_option maxHeartbeats 4000000 in
set_option maxRecDepth 100000 in
theorem c_init_Sightings (l : Launch) (D : va_G) (cy : Nat → ClassId) (h : Nat) : HC l my_X8_init mb_X8_init 1 ((none : Option Jvm.ClassFile.FieldType)) (rmC 1 7 140) D (TY cy) [.ref h] NX [(h, .inr (8, [.null, .null, .null, .null, .int 0, .null, .null, .null]))] (QV (S := Nat → Nat) D (fun u => u 0 = h) (fun u => [(u 0, .inr (8, fSightings u)), (u 1, .inl (cy 0, 20, .inl (fun _ => 0))), (u 2, .inl (cy 0, 20, .inl (fun _ => 0))), (u 3, .inl (cy 0, 20, .inl (fun _ => 0))), (u 4, .inl (cy 0, 20, .inl (fun _ => 0))), (u 5, .inl (cy 0, 20, .inl (fun _ => 0))), (u 6, .inl (cy 0, 20, .inl (fun _ => 0))), (u 7, .inl (cy 0, 20, .inl (fun _ => 0)))])) := by
  refine hc_intro (by decide) (Nat.le_of_ble_eq_true rfl) (fun p e s m below meth c A ls Sx hr hlocks hin hl hP hD hK hS hA hX => ?_)
  have hx := Sx.1
  have hb := Sx.2.1
  have hl : lv_has ls 1 [(0, .ref h)] := hl
  have hP : va_P D cls [(h, .inr (8, [.null, .null, .null, .null, .int 0, .null, .null, .null]))] s.heap := hP
  have hD : va_D A [(h, .inr (8, [.null, .null, .null, .null, .int 0, .null, .null, .null]))] := hD
  refine lv_aload_n hx hb dd_X8_init_0 rfl (lv_at hl 0 rfl) ?_
  refine W.objInit hx hb Sx.2.2.2.1 (Sx.2.2.2.2 _ kk_195) (Sx.2.2.2.2 _ kk_28) (Sx.2.2.2.2 _ kk_29) rfl (by rw [Sx.2.2.1]; exact hl.1) rfl dd_X8_init_1 (Nat.le_of_ble_eq_true rfl) (Nat.le_of_ble_eq_true rfl) ?_
  refine W.eq (g2 := F0 m 4 ls []) rfl ?_
  refine lv_aload_n hx hb dd_X8_init_4 rfl (lv_at hl 0 rfl) ?_
  refine lv_bipush (v := 20) hx hb dd_X8_init_5 (by decide) ?_
  refine wk_newa1 (at_ := .int) (a0 := (20, .inl (fun _ => 0))) (ft := .int) (cI := cy 0) (c1 := 1) (s1 := 20) Sx kk_52 rfl hK 0 rfl (fun _ h => h) hP hD hS hA 20 (fun _ => rfl) (by decide) (by decide) (Nat.le_of_ble_eq_true rfl) (Nat.le_of_ble_eq_true rfl) (Nat.le_of_ble_eq_true rfl) rfl rfl dd_X8_init_7 (fun n1 H hP hD hS => ?_)
  have hP : va_P D cls [(h, .inr (8, [.null, .null, .null, .null, .int 0, .null, .null, .null])), (n1, .inl (cy 0, 20, .inl (fun _ => 0)))] H := hP
  have hD : va_D A [(h, .inr (8, [.null, .null, .null, .null, .int 0, .null, .null, .null])), (n1, .inl (cy 0, 20, .inl (fun _ => 0)))] := hD
  refine wk_putF (ws' := [(h, .inr (8, [.ref n1, .null, .null, .null, .int 0, .null, .null, .null])), (n1, .inl (cy 0, 20, .inl (fun _ => 0)))]) Sx ef_8 hK hP hD hS 0 rfl rfl 0 (by decide) kk_196 rfl hin rfl rfl rfl (Nat.le_of_ble_eq_true rfl) dd_X8_init_9 rfl (fun H locs hP hD hS => ?_)
  refine lv_aload_n hx hb dd_X8_init_12 rfl (lv_at hl 0 rfl) ?_
  refine lv_bipush (v := 20) hx hb dd_X8_init_13 (by decide) ?_
  refine wk_newa1 (at_ := .int) (a0 := (20, .inl (fun _ => 0))) (ft := .int) (cI := cy 0) (c1 := 2) (s1 := 40) Sx kk_52 rfl hK 0 rfl (fun _ h => h) hP hD hS hA 20 (fun _ => rfl) (by decide) (by decide) (Nat.le_of_ble_eq_true rfl) (Nat.le_of_ble_eq_true rfl) (Nat.le_of_ble_eq_true rfl) rfl rfl dd_X8_init_15 (fun n2 H hP hD hS => ?_)
  have hP : va_P D cls [(h, .inr (8, [.ref n1, .null, .null, .null, .int 0, .null, .null, .null])), (n1, .inl (cy 0, 20, .inl (fun _ => 0))), (n2, .inl (cy 0, 20, .inl (fun _ => 0)))] H := hP
  have hD : va_D A [(h, .inr (8, [.ref n1, .null, .null, .null, .int 0, .null, .null, .null])), (n1, .inl (cy 0, 20, .inl (fun _ => 0))), (n2, .inl (cy 0, 20, .inl (fun _ => 0)))] := hD
  refine wk_putF (ws' := [(h, .inr (8, [.ref n1, .ref n2, .null, .null, .int 0, .null, .null, .null])), (n1, .inl (cy 0, 20, .inl (fun _ => 0))), (n2, .inl (cy 0, 20, .inl (fun _ => 0)))]) Sx ef_8 hK hP hD hS 0 rfl rfl 1 (by decide) kk_197 rfl hin rfl rfl rfl (Nat.le_of_ble_eq_true rfl) dd_X8_init_17 rfl (fun H locs hP hD hS => ?_)
  refine lv_aload_n hx hb dd_X8_init_20 rfl (lv_at hl 0 rfl) ?_
  refine lv_bipush (v := 20) hx hb dd_X8_init_21 (by decide) ?_
  refine wk_newa1 (at_ := .int) (a0 := (20, .inl (fun _ => 0))) (ft := .int) (cI := cy 0) (c1 := 3) (s1 := 60) Sx kk_52 rfl hK 0 rfl (fun _ h => h) hP hD hS hA 20 (fun _ => rfl) (by decide) (by decide) (Nat.le_of_ble_eq_true rfl) (Nat.le_of_ble_eq_true rfl) (Nat.le_of_ble_eq_true rfl) rfl rfl dd_X8_init_23 (fun n3 H hP hD hS => ?_)
  have hP : va_P D cls [(h, .inr (8, [.ref n1, .ref n2, .null, .null, .int 0, .null, .null, .null])), (n1, .inl (cy 0, 20, .inl (fun _ => 0))), (n2, .inl (cy 0, 20, .inl (fun _ => 0))), (n3, .inl (cy 0, 20, .inl (fun _ => 0)))] H := hP
  have hD : va_D A [(h, .inr (8, [.ref n1, .ref n2, .null, .null, .int 0, .null, .null, .null])), (n1, .inl (cy 0, 20, .inl (fun _ => 0))), (n2, .inl (cy 0, 20, .inl (fun _ => 0))), (n3, .inl (cy 0, 20, .inl (fun _ => 0)))] := hD
  refine wk_putF (ws' := [(h, .inr (8, [.ref n1, .ref n2, .ref n3, .null, .int 0, .null, .null, .null])), (n1, .inl (cy 0, 20, .inl (fun _ => 0))), (n2, .inl (cy 0, 20, .inl (fun _ => 0))), (n3, .inl (cy 0, 20, .inl (fun _ => 0)))]) Sx ef_8 hK hP hD hS 0 rfl rfl 2 (by decide) kk_198 rfl hin rfl rfl rfl (Nat.le_of_ble_eq_true rfl) dd_X8_init_25 rfl (fun H locs hP hD hS => ?_)
  refine lv_aload_n hx hb dd_X8_init_28 rfl (lv_at hl 0 rfl) ?_
  refine lv_bipush (v := 20) hx hb dd_X8_init_29 (by decide) ?_
  refine wk_newa1 (at_ := .int) (a0 := (20, .inl (fun _ => 0))) (ft := .int) (cI := cy 0) (c1 := 4) (s1 := 80) Sx kk_52 rfl hK 0 rfl (fun _ h => h) hP hD hS hA 20 (fun _ => rfl) (by decide) (by decide) (Nat.le_of_ble_eq_true rfl) (Nat.le_of_ble_eq_true rfl) (Nat.le_of_ble_eq_true rfl) rfl rfl dd_X8_init_31 (fun n4 H hP hD hS => ?_)
  have hP : va_P D cls [(h, .inr (8, [.ref n1, .ref n2, .ref n3, .null, .int 0, .null, .null, .null])), (n1, .inl (cy 0, 20, .inl (fun _ => 0))), (n2, .inl (cy 0, 20, .inl (fun _ => 0))), (n3, .inl (cy 0, 20, .inl (fun _ => 0))), (n4, .inl (cy 0, 20, .inl (fun _ => 0)))] H := hP
  have hD : va_D A [(h, .inr (8, [.ref n1, .ref n2, .ref n3, .null, .int 0, .null, .null, .null])), (n1, .inl (cy 0, 20, .inl (fun _ => 0))), (n2, .inl (cy 0, 20, .inl (fun _ => 0))), (n3, .inl (cy 0, 20, .inl (fun _ => 0))), (n4, .inl (cy 0, 20, .inl (fun _ => 0)))] := hD
  refine wk_putF (ws' := [(h, .inr (8, [.ref n1, .ref n2, .ref n3, .ref n4, .int 0, .null, .null, .null])), (n1, .inl (cy 0, 20, .inl (fun _ => 0))), (n2, .inl (cy 0, 20, .inl (fun _ => 0))), (n3, .inl (cy 0, 20, .inl (fun _ => 0))), (n4, .inl (cy 0, 20, .inl (fun _ => 0)))]) Sx ef_8 hK hP hD hS 0 rfl rfl 3 (by decide) kk_199 rfl hin rfl rfl rfl (Nat.le_of_ble_eq_true rfl) dd_X8_init_33 rfl (fun H locs hP hD hS => ?_)
  refine lv_aload_n hx hb dd_X8_init_36 rfl (lv_at hl 0 rfl) ?_
  refine lv_iconst (v := 0) hx hb dd_X8_init_37 (by decide) ?_
  refine wk_put1 (ws' := [(h, .inr (8, [.ref n1, .ref n2, .ref n3, .ref n4, .int 0, .null, .null, .null])), (n1, .inl (cy 0, 20, .inl (fun _ => 0))), (n2, .inl (cy 0, 20, .inl (fun _ => 0))), (n3, .inl (cy 0, 20, .inl (fun _ => 0))), (n4, .inl (cy 0, 20, .inl (fun _ => 0)))]) Sx ef_8 hK hP hD hS 0 rfl rfl 4 (by decide) kk_200 rfl rfl rfl (Nat.le_of_ble_eq_true rfl) dd_X8_init_38 rfl (fun H locs hP hD hS => ?_)
  refine lv_aload_n hx hb dd_X8_init_41 rfl (lv_at hl 0 rfl) ?_
  refine lv_bipush (v := 20) hx hb dd_X8_init_42 (by decide) ?_
  refine wk_newa1 (at_ := .int) (a0 := (20, .inl (fun _ => 0))) (ft := .int) (cI := cy 0) (c1 := 5) (s1 := 100) Sx kk_52 rfl hK 0 rfl (fun _ h => h) hP hD hS hA 20 (fun _ => rfl) (by decide) (by decide) (Nat.le_of_ble_eq_true rfl) (Nat.le_of_ble_eq_true rfl) (Nat.le_of_ble_eq_true rfl) rfl rfl dd_X8_init_44 (fun n5 H hP hD hS => ?_)
  have hP : va_P D cls [(h, .inr (8, [.ref n1, .ref n2, .ref n3, .ref n4, .int 0, .null, .null, .null])), (n1, .inl (cy 0, 20, .inl (fun _ => 0))), (n2, .inl (cy 0, 20, .inl (fun _ => 0))), (n3, .inl (cy 0, 20, .inl (fun _ => 0))), (n4, .inl (cy 0, 20, .inl (fun _ => 0))), (n5, .inl (cy 0, 20, .inl (fun _ => 0)))] H := hP
  have hD : va_D A [(h, .inr (8, [.ref n1, .ref n2, .ref n3, .ref n4, .int 0, .null, .null, .null])), (n1, .inl (cy 0, 20, .inl (fun _ => 0))), (n2, .inl (cy 0, 20, .inl (fun _ => 0))), (n3, .inl (cy 0, 20, .inl (fun _ => 0))), (n4, .inl (cy 0, 20, .inl (fun _ => 0))), (n5, .inl (cy 0, 20, .inl (fun _ => 0)))] := hD
  refine wk_putF (ws' := [(h, .inr (8, [.ref n1, .ref n2, .ref n3, .ref n4, .int 0, .ref n5, .null, .null])), (n1, .inl (cy 0, 20, .inl (fun _ => 0))), (n2, .inl (cy 0, 20, .inl (fun _ => 0))), (n3, .inl (cy 0, 20, .inl (fun _ => 0))), (n4, .inl (cy 0, 20, .inl (fun _ => 0))), (n5, .inl (cy 0, 20, .inl (fun _ => 0)))]) Sx ef_8 hK hP hD hS 0 rfl rfl 5 (by decide) kk_202 rfl hin rfl rfl rfl (Nat.le_of_ble_eq_true rfl) dd_X8_init_46 rfl (fun H locs hP hD hS => ?_)
  refine lv_aload_n hx hb dd_X8_init_49 rfl (lv_at hl 0 rfl) ?_
  refine lv_bipush (v := 20) hx hb dd_X8_init_50 (by decide) ?_
  refine wk_newa1 (at_ := .int) (a0 := (20, .inl (fun _ => 0))) (ft := .int) (cI := cy 0) (c1 := 6) (s1 := 120) Sx kk_52 rfl hK 0 rfl (fun _ h => h) hP hD hS hA 20 (fun _ => rfl) (by decide) (by decide) (Nat.le_of_ble_eq_true rfl) (Nat.le_of_ble_eq_true rfl) (Nat.le_of_ble_eq_true rfl) rfl rfl dd_X8_init_52 (fun n6 H hP hD hS => ?_)
  have hP : va_P D cls [(h, .inr (8, [.ref n1, .ref n2, .ref n3, .ref n4, .int 0, .ref n5, .null, .null])), (n1, .inl (cy 0, 20, .inl (fun _ => 0))), (n2, .inl (cy 0, 20, .inl (fun _ => 0))), (n3, .inl (cy 0, 20, .inl (fun _ => 0))), (n4, .inl (cy 0, 20, .inl (fun _ => 0))), (n5, .inl (cy 0, 20, .inl (fun _ => 0))), (n6, .inl (cy 0, 20, .inl (fun _ => 0)))] H := hP
  have hD : va_D A [(h, .inr (8, [.ref n1, .ref n2, .ref n3, .ref n4, .int 0, .ref n5, .null, .null])), (n1, .inl (cy 0, 20, .inl (fun _ => 0))), (n2, .inl (cy 0, 20, .inl (fun _ => 0))), (n3, .inl (cy 0, 20, .inl (fun _ => 0))), (n4, .inl (cy 0, 20, .inl (fun _ => 0))), (n5, .inl (cy 0, 20, .inl (fun _ => 0))), (n6, .inl (cy 0, 20, .inl (fun _ => 0)))] := hD
  refine wk_putF (ws' := [(h, .inr (8, [.ref n1, .ref n2, .ref n3, .ref n4, .int 0, .ref n5, .ref n6, .null])), (n1, .inl (cy 0, 20, .inl (fun _ => 0))), (n2, .inl (cy 0, 20, .inl (fun _ => 0))), (n3, .inl (cy 0, 20, .inl (fun _ => 0))), (n4, .inl (cy 0, 20, .inl (fun _ => 0))), (n5, .inl (cy 0, 20, .inl (fun _ => 0))), (n6, .inl (cy 0, 20, .inl (fun _ => 0)))]) Sx ef_8 hK hP hD hS 0 rfl rfl 6 (by decide) kk_203 rfl hin rfl rfl rfl (Nat.le_of_ble_eq_true rfl) dd_X8_init_54 rfl (fun H locs hP hD hS => ?_)
  refine lv_aload_n hx hb dd_X8_init_57 rfl (lv_at hl 0 rfl) ?_
  refine lv_bipush (v := 20) hx hb dd_X8_init_58 (by decide) ?_
  refine wk_newa1 (at_ := .int) (a0 := (20, .inl (fun _ => 0))) (ft := .int) (cI := cy 0) (c1 := 7) (s1 := 140) Sx kk_52 rfl hK 0 rfl (fun _ h => h) hP hD hS hA 20 (fun _ => rfl) (by decide) (by decide) (Nat.le_of_ble_eq_true rfl) (Nat.le_of_ble_eq_true rfl) (Nat.le_of_ble_eq_true rfl) rfl rfl dd_X8_init_60 (fun n7 H hP hD hS => ?_)
  have hP : va_P D cls [(h, .inr (8, [.ref n1, .ref n2, .ref n3, .ref n4, .int 0, .ref n5, .ref n6, .null])), (n1, .inl (cy 0, 20, .inl (fun _ => 0))), (n2, .inl (cy 0, 20, .inl (fun _ => 0))), (n3, .inl (cy 0, 20, .inl (fun _ => 0))), (n4, .inl (cy 0, 20, .inl (fun _ => 0))), (n5, .inl (cy 0, 20, .inl (fun _ => 0))), (n6, .inl (cy 0, 20, .inl (fun _ => 0))), (n7, .inl (cy 0, 20, .inl (fun _ => 0)))] H := hP
  have hD : va_D A [(h, .inr (8, [.ref n1, .ref n2, .ref n3, .ref n4, .int 0, .ref n5, .ref n6, .null])), (n1, .inl (cy 0, 20, .inl (fun _ => 0))), (n2, .inl (cy 0, 20, .inl (fun _ => 0))), (n3, .inl (cy 0, 20, .inl (fun _ => 0))), (n4, .inl (cy 0, 20, .inl (fun _ => 0))), (n5, .inl (cy 0, 20, .inl (fun _ => 0))), (n6, .inl (cy 0, 20, .inl (fun _ => 0))), (n7, .inl (cy 0, 20, .inl (fun _ => 0)))] := hD
  refine wk_putF (ws' := [(h, .inr (8, [.ref n1, .ref n2, .ref n3, .ref n4, .int 0, .ref n5, .ref n6, .ref n7])), (n1, .inl (cy 0, 20, .inl (fun _ => 0))), (n2, .inl (cy 0, 20, .inl (fun _ => 0))), (n3, .inl (cy 0, 20, .inl (fun _ => 0))), (n4, .inl (cy 0, 20, .inl (fun _ => 0))), (n5, .inl (cy 0, 20, .inl (fun _ => 0))), (n6, .inl (cy 0, 20, .inl (fun _ => 0))), (n7, .inl (cy 0, 20, .inl (fun _ => 0)))]) Sx ef_8 hK hP hD hS 0 rfl rfl 7 (by decide) kk_204 rfl hin rfl rfl rfl (Nat.le_of_ble_eq_true rfl) dd_X8_init_62 rfl (fun H locs hP hD hS => ?_)
  exact hc_vret Sx hr hlocks dd_X8_init_65 hS (fun k => ([h, n1, n2, n3, n4, n5, n6, n7] : List Nat).getD k 0) rfl (hP.sub [0, 1, 2, 3, 4, 5, 6, 7] rfl) (hD.sub [0, 1, 2, 3, 4, 5, 6, 7] (by decide) rfl)
set_option maxHeartbeats 4000000 in
set_option maxRecDepth 100000 in
theorem c_init_Secrets (l : Launch) (D : va_G) (cy : Nat → ClassId) (h : Nat) : HC l my_X6_init mb_X6_init 1 ((none : Option Jvm.ClassFile.FieldType)) (rmC 1 7 71) D (TY cy) [.ref h] NX [(h, .inr (6, [.null, .null, .int 0, .null, .null, .null, .null, .int 0, .null]))] (QV (S := Nat → Nat) D (fun u => u 0 = h) (fun u => [(u 0, .inr (6, fSecrets u)), (u 1, .inl (cy 0, 10, .inl (fun _ => 0))), (u 2, .inl (cy 0, 10, .inl (fun _ => 0))), (u 3, .inl (cy 0, 16, .inl (fun _ => 0))), (u 4, .inl (cy 0, 10, .inl (fun _ => 0))), (u 5, .inl (cy 0, 10, .inl (fun _ => 0))), (u 6, .inl (cy 0, 10, .inl (fun _ => 0))), (u 7, .inl (cy 0, 5, .inl (fun _ => 0)))])) := by
  refine hc_intro (by decide) (Nat.le_of_ble_eq_true rfl) (fun p e s m below meth c A ls Sx hr hlocks hin hl hP hD hK hS hA hX => ?_)
  have hx := Sx.1
  have hb := Sx.2.1
  have hl : lv_has ls 1 [(0, .ref h)] := hl
  have hP : va_P D cls [(h, .inr (6, [.null, .null, .int 0, .null, .null, .null, .null, .int 0, .null]))] s.heap := hP
  have hD : va_D A [(h, .inr (6, [.null, .null, .int 0, .null, .null, .null, .null, .int 0, .null]))] := hD
  refine lv_aload_n hx hb dd_X6_init_0 rfl (lv_at hl 0 rfl) ?_
  refine W.objInit hx hb Sx.2.2.2.1 (Sx.2.2.2.2 _ kk_227) (Sx.2.2.2.2 _ kk_28) (Sx.2.2.2.2 _ kk_29) rfl (by rw [Sx.2.2.1]; exact hl.1) rfl dd_X6_init_1 (Nat.le_of_ble_eq_true rfl) (Nat.le_of_ble_eq_true rfl) ?_
  refine W.eq (g2 := F0 m 4 ls []) rfl ?_
  refine lv_aload_n hx hb dd_X6_init_4 rfl (lv_at hl 0 rfl) ?_
  refine lv_bipush (v := 10) hx hb dd_X6_init_5 (by decide) ?_
  refine wk_newa1 (at_ := .int) (a0 := (10, .inl (fun _ => 0))) (ft := .int) (cI := cy 0) (c1 := 1) (s1 := 10) Sx kk_52 rfl hK 0 rfl (fun _ h => h) hP hD hS hA 10 (fun _ => rfl) (by decide) (by decide) (Nat.le_of_ble_eq_true rfl) (Nat.le_of_ble_eq_true rfl) (Nat.le_of_ble_eq_true rfl) rfl rfl dd_X6_init_7 (fun n1 H hP hD hS => ?_)
  have hP : va_P D cls [(h, .inr (6, [.null, .null, .int 0, .null, .null, .null, .null, .int 0, .null])), (n1, .inl (cy 0, 10, .inl (fun _ => 0)))] H := hP
  have hD : va_D A [(h, .inr (6, [.null, .null, .int 0, .null, .null, .null, .null, .int 0, .null])), (n1, .inl (cy 0, 10, .inl (fun _ => 0)))] := hD
  refine wk_putF (ws' := [(h, .inr (6, [.ref n1, .null, .int 0, .null, .null, .null, .null, .int 0, .null])), (n1, .inl (cy 0, 10, .inl (fun _ => 0)))]) Sx ef_6 hK hP hD hS 0 rfl rfl 0 (by decide) kk_228 rfl hin rfl rfl rfl (Nat.le_of_ble_eq_true rfl) dd_X6_init_9 rfl (fun H locs hP hD hS => ?_)
  refine lv_aload_n hx hb dd_X6_init_12 rfl (lv_at hl 0 rfl) ?_
  refine lv_bipush (v := 10) hx hb dd_X6_init_13 (by decide) ?_
  refine wk_newa1 (at_ := .int) (a0 := (10, .inl (fun _ => 0))) (ft := .int) (cI := cy 0) (c1 := 2) (s1 := 20) Sx kk_52 rfl hK 0 rfl (fun _ h => h) hP hD hS hA 10 (fun _ => rfl) (by decide) (by decide) (Nat.le_of_ble_eq_true rfl) (Nat.le_of_ble_eq_true rfl) (Nat.le_of_ble_eq_true rfl) rfl rfl dd_X6_init_15 (fun n2 H hP hD hS => ?_)
  have hP : va_P D cls [(h, .inr (6, [.ref n1, .null, .int 0, .null, .null, .null, .null, .int 0, .null])), (n1, .inl (cy 0, 10, .inl (fun _ => 0))), (n2, .inl (cy 0, 10, .inl (fun _ => 0)))] H := hP
  have hD : va_D A [(h, .inr (6, [.ref n1, .null, .int 0, .null, .null, .null, .null, .int 0, .null])), (n1, .inl (cy 0, 10, .inl (fun _ => 0))), (n2, .inl (cy 0, 10, .inl (fun _ => 0)))] := hD
  refine wk_putF (ws' := [(h, .inr (6, [.ref n1, .ref n2, .int 0, .null, .null, .null, .null, .int 0, .null])), (n1, .inl (cy 0, 10, .inl (fun _ => 0))), (n2, .inl (cy 0, 10, .inl (fun _ => 0)))]) Sx ef_6 hK hP hD hS 0 rfl rfl 1 (by decide) kk_229 rfl hin rfl rfl rfl (Nat.le_of_ble_eq_true rfl) dd_X6_init_17 rfl (fun H locs hP hD hS => ?_)
  refine lv_aload_n hx hb dd_X6_init_20 rfl (lv_at hl 0 rfl) ?_
  refine lv_iconst (v := 0) hx hb dd_X6_init_21 (by decide) ?_
  refine wk_put1 (ws' := [(h, .inr (6, [.ref n1, .ref n2, .int 0, .null, .null, .null, .null, .int 0, .null])), (n1, .inl (cy 0, 10, .inl (fun _ => 0))), (n2, .inl (cy 0, 10, .inl (fun _ => 0)))]) Sx ef_6 hK hP hD hS 0 rfl rfl 2 (by decide) kk_230 rfl rfl rfl (Nat.le_of_ble_eq_true rfl) dd_X6_init_22 rfl (fun H locs hP hD hS => ?_)
  refine lv_aload_n hx hb dd_X6_init_25 rfl (lv_at hl 0 rfl) ?_
  refine lv_bipush (v := 16) hx hb dd_X6_init_26 (by decide) ?_
  refine wk_newa1 (at_ := .int) (a0 := (16, .inl (fun _ => 0))) (ft := .int) (cI := cy 0) (c1 := 3) (s1 := 36) Sx kk_52 rfl hK 0 rfl (fun _ h => h) hP hD hS hA 16 (fun _ => rfl) (by decide) (by decide) (Nat.le_of_ble_eq_true rfl) (Nat.le_of_ble_eq_true rfl) (Nat.le_of_ble_eq_true rfl) rfl rfl dd_X6_init_28 (fun n3 H hP hD hS => ?_)
  have hP : va_P D cls [(h, .inr (6, [.ref n1, .ref n2, .int 0, .null, .null, .null, .null, .int 0, .null])), (n1, .inl (cy 0, 10, .inl (fun _ => 0))), (n2, .inl (cy 0, 10, .inl (fun _ => 0))), (n3, .inl (cy 0, 16, .inl (fun _ => 0)))] H := hP
  have hD : va_D A [(h, .inr (6, [.ref n1, .ref n2, .int 0, .null, .null, .null, .null, .int 0, .null])), (n1, .inl (cy 0, 10, .inl (fun _ => 0))), (n2, .inl (cy 0, 10, .inl (fun _ => 0))), (n3, .inl (cy 0, 16, .inl (fun _ => 0)))] := hD
  refine wk_putF (ws' := [(h, .inr (6, [.ref n1, .ref n2, .int 0, .ref n3, .null, .null, .null, .int 0, .null])), (n1, .inl (cy 0, 10, .inl (fun _ => 0))), (n2, .inl (cy 0, 10, .inl (fun _ => 0))), (n3, .inl (cy 0, 16, .inl (fun _ => 0)))]) Sx ef_6 hK hP hD hS 0 rfl rfl 3 (by decide) kk_232 rfl hin rfl rfl rfl (Nat.le_of_ble_eq_true rfl) dd_X6_init_30 rfl (fun H locs hP hD hS => ?_)
  refine lv_aload_n hx hb dd_X6_init_33 rfl (lv_at hl 0 rfl) ?_
  refine lv_bipush (v := 10) hx hb dd_X6_init_34 (by decide) ?_
  refine wk_newa1 (at_ := .int) (a0 := (10, .inl (fun _ => 0))) (ft := .int) (cI := cy 0) (c1 := 4) (s1 := 46) Sx kk_52 rfl hK 0 rfl (fun _ h => h) hP hD hS hA 10 (fun _ => rfl) (by decide) (by decide) (Nat.le_of_ble_eq_true rfl) (Nat.le_of_ble_eq_true rfl) (Nat.le_of_ble_eq_true rfl) rfl rfl dd_X6_init_36 (fun n4 H hP hD hS => ?_)
  have hP : va_P D cls [(h, .inr (6, [.ref n1, .ref n2, .int 0, .ref n3, .null, .null, .null, .int 0, .null])), (n1, .inl (cy 0, 10, .inl (fun _ => 0))), (n2, .inl (cy 0, 10, .inl (fun _ => 0))), (n3, .inl (cy 0, 16, .inl (fun _ => 0))), (n4, .inl (cy 0, 10, .inl (fun _ => 0)))] H := hP
  have hD : va_D A [(h, .inr (6, [.ref n1, .ref n2, .int 0, .ref n3, .null, .null, .null, .int 0, .null])), (n1, .inl (cy 0, 10, .inl (fun _ => 0))), (n2, .inl (cy 0, 10, .inl (fun _ => 0))), (n3, .inl (cy 0, 16, .inl (fun _ => 0))), (n4, .inl (cy 0, 10, .inl (fun _ => 0)))] := hD
  refine wk_putF (ws' := [(h, .inr (6, [.ref n1, .ref n2, .int 0, .ref n3, .ref n4, .null, .null, .int 0, .null])), (n1, .inl (cy 0, 10, .inl (fun _ => 0))), (n2, .inl (cy 0, 10, .inl (fun _ => 0))), (n3, .inl (cy 0, 16, .inl (fun _ => 0))), (n4, .inl (cy 0, 10, .inl (fun _ => 0)))]) Sx ef_6 hK hP hD hS 0 rfl rfl 4 (by decide) kk_234 rfl hin rfl rfl rfl (Nat.le_of_ble_eq_true rfl) dd_X6_init_38 rfl (fun H locs hP hD hS => ?_)
  refine lv_aload_n hx hb dd_X6_init_41 rfl (lv_at hl 0 rfl) ?_
  refine lv_bipush (v := 10) hx hb dd_X6_init_42 (by decide) ?_
  refine wk_newa1 (at_ := .int) (a0 := (10, .inl (fun _ => 0))) (ft := .int) (cI := cy 0) (c1 := 5) (s1 := 56) Sx kk_52 rfl hK 0 rfl (fun _ h => h) hP hD hS hA 10 (fun _ => rfl) (by decide) (by decide) (Nat.le_of_ble_eq_true rfl) (Nat.le_of_ble_eq_true rfl) (Nat.le_of_ble_eq_true rfl) rfl rfl dd_X6_init_44 (fun n5 H hP hD hS => ?_)
  have hP : va_P D cls [(h, .inr (6, [.ref n1, .ref n2, .int 0, .ref n3, .ref n4, .null, .null, .int 0, .null])), (n1, .inl (cy 0, 10, .inl (fun _ => 0))), (n2, .inl (cy 0, 10, .inl (fun _ => 0))), (n3, .inl (cy 0, 16, .inl (fun _ => 0))), (n4, .inl (cy 0, 10, .inl (fun _ => 0))), (n5, .inl (cy 0, 10, .inl (fun _ => 0)))] H := hP
  have hD : va_D A [(h, .inr (6, [.ref n1, .ref n2, .int 0, .ref n3, .ref n4, .null, .null, .int 0, .null])), (n1, .inl (cy 0, 10, .inl (fun _ => 0))), (n2, .inl (cy 0, 10, .inl (fun _ => 0))), (n3, .inl (cy 0, 16, .inl (fun _ => 0))), (n4, .inl (cy 0, 10, .inl (fun _ => 0))), (n5, .inl (cy 0, 10, .inl (fun _ => 0)))] := hD
  refine wk_putF (ws' := [(h, .inr (6, [.ref n1, .ref n2, .int 0, .ref n3, .ref n4, .ref n5, .null, .int 0, .null])), (n1, .inl (cy 0, 10, .inl (fun _ => 0))), (n2, .inl (cy 0, 10, .inl (fun _ => 0))), (n3, .inl (cy 0, 16, .inl (fun _ => 0))), (n4, .inl (cy 0, 10, .inl (fun _ => 0))), (n5, .inl (cy 0, 10, .inl (fun _ => 0)))]) Sx ef_6 hK hP hD hS 0 rfl rfl 5 (by decide) kk_235 rfl hin rfl rfl rfl (Nat.le_of_ble_eq_true rfl) dd_X6_init_46 rfl (fun H locs hP hD hS => ?_)
  refine lv_aload_n hx hb dd_X6_init_49 rfl (lv_at hl 0 rfl) ?_
  refine lv_bipush (v := 10) hx hb dd_X6_init_50 (by decide) ?_
  refine wk_newa1 (at_ := .int) (a0 := (10, .inl (fun _ => 0))) (ft := .int) (cI := cy 0) (c1 := 6) (s1 := 66) Sx kk_52 rfl hK 0 rfl (fun _ h => h) hP hD hS hA 10 (fun _ => rfl) (by decide) (by decide) (Nat.le_of_ble_eq_true rfl) (Nat.le_of_ble_eq_true rfl) (Nat.le_of_ble_eq_true rfl) rfl rfl dd_X6_init_52 (fun n6 H hP hD hS => ?_)
  have hP : va_P D cls [(h, .inr (6, [.ref n1, .ref n2, .int 0, .ref n3, .ref n4, .ref n5, .null, .int 0, .null])), (n1, .inl (cy 0, 10, .inl (fun _ => 0))), (n2, .inl (cy 0, 10, .inl (fun _ => 0))), (n3, .inl (cy 0, 16, .inl (fun _ => 0))), (n4, .inl (cy 0, 10, .inl (fun _ => 0))), (n5, .inl (cy 0, 10, .inl (fun _ => 0))), (n6, .inl (cy 0, 10, .inl (fun _ => 0)))] H := hP
  have hD : va_D A [(h, .inr (6, [.ref n1, .ref n2, .int 0, .ref n3, .ref n4, .ref n5, .null, .int 0, .null])), (n1, .inl (cy 0, 10, .inl (fun _ => 0))), (n2, .inl (cy 0, 10, .inl (fun _ => 0))), (n3, .inl (cy 0, 16, .inl (fun _ => 0))), (n4, .inl (cy 0, 10, .inl (fun _ => 0))), (n5, .inl (cy 0, 10, .inl (fun _ => 0))), (n6, .inl (cy 0, 10, .inl (fun _ => 0)))] := hD
  refine wk_putF (ws' := [(h, .inr (6, [.ref n1, .ref n2, .int 0, .ref n3, .ref n4, .ref n5, .ref n6, .int 0, .null])), (n1, .inl (cy 0, 10, .inl (fun _ => 0))), (n2, .inl (cy 0, 10, .inl (fun _ => 0))), (n3, .inl (cy 0, 16, .inl (fun _ => 0))), (n4, .inl (cy 0, 10, .inl (fun _ => 0))), (n5, .inl (cy 0, 10, .inl (fun _ => 0))), (n6, .inl (cy 0, 10, .inl (fun _ => 0)))]) Sx ef_6 hK hP hD hS 0 rfl rfl 6 (by decide) kk_236 rfl hin rfl rfl rfl (Nat.le_of_ble_eq_true rfl) dd_X6_init_54 rfl (fun H locs hP hD hS => ?_)
  refine lv_aload_n hx hb dd_X6_init_57 rfl (lv_at hl 0 rfl) ?_
  refine lv_iconst (v := 0) hx hb dd_X6_init_58 (by decide) ?_
  refine wk_put1 (ws' := [(h, .inr (6, [.ref n1, .ref n2, .int 0, .ref n3, .ref n4, .ref n5, .ref n6, .int 0, .null])), (n1, .inl (cy 0, 10, .inl (fun _ => 0))), (n2, .inl (cy 0, 10, .inl (fun _ => 0))), (n3, .inl (cy 0, 16, .inl (fun _ => 0))), (n4, .inl (cy 0, 10, .inl (fun _ => 0))), (n5, .inl (cy 0, 10, .inl (fun _ => 0))), (n6, .inl (cy 0, 10, .inl (fun _ => 0)))]) Sx ef_6 hK hP hD hS 0 rfl rfl 7 (by decide) kk_237 rfl rfl rfl (Nat.le_of_ble_eq_true rfl) dd_X6_init_59 rfl (fun H locs hP hD hS => ?_)
  refine lv_aload_n hx hb dd_X6_init_62 rfl (lv_at hl 0 rfl) ?_
  refine lv_iconst (v := 5) hx hb dd_X6_init_63 (by decide) ?_
  refine wk_newa1 (at_ := .int) (a0 := (5, .inl (fun _ => 0))) (ft := .int) (cI := cy 0) (c1 := 7) (s1 := 71) Sx kk_52 rfl hK 0 rfl (fun _ h => h) hP hD hS hA 5 (fun _ => rfl) (by decide) (by decide) (Nat.le_of_ble_eq_true rfl) (Nat.le_of_ble_eq_true rfl) (Nat.le_of_ble_eq_true rfl) rfl rfl dd_X6_init_64 (fun n7 H hP hD hS => ?_)
  have hP : va_P D cls [(h, .inr (6, [.ref n1, .ref n2, .int 0, .ref n3, .ref n4, .ref n5, .ref n6, .int 0, .null])), (n1, .inl (cy 0, 10, .inl (fun _ => 0))), (n2, .inl (cy 0, 10, .inl (fun _ => 0))), (n3, .inl (cy 0, 16, .inl (fun _ => 0))), (n4, .inl (cy 0, 10, .inl (fun _ => 0))), (n5, .inl (cy 0, 10, .inl (fun _ => 0))), (n6, .inl (cy 0, 10, .inl (fun _ => 0))), (n7, .inl (cy 0, 5, .inl (fun _ => 0)))] H := hP
  have hD : va_D A [(h, .inr (6, [.ref n1, .ref n2, .int 0, .ref n3, .ref n4, .ref n5, .ref n6, .int 0, .null])), (n1, .inl (cy 0, 10, .inl (fun _ => 0))), (n2, .inl (cy 0, 10, .inl (fun _ => 0))), (n3, .inl (cy 0, 16, .inl (fun _ => 0))), (n4, .inl (cy 0, 10, .inl (fun _ => 0))), (n5, .inl (cy 0, 10, .inl (fun _ => 0))), (n6, .inl (cy 0, 10, .inl (fun _ => 0))), (n7, .inl (cy 0, 5, .inl (fun _ => 0)))] := hD
  refine wk_putF (ws' := [(h, .inr (6, [.ref n1, .ref n2, .int 0, .ref n3, .ref n4, .ref n5, .ref n6, .int 0, .ref n7])), (n1, .inl (cy 0, 10, .inl (fun _ => 0))), (n2, .inl (cy 0, 10, .inl (fun _ => 0))), (n3, .inl (cy 0, 16, .inl (fun _ => 0))), (n4, .inl (cy 0, 10, .inl (fun _ => 0))), (n5, .inl (cy 0, 10, .inl (fun _ => 0))), (n6, .inl (cy 0, 10, .inl (fun _ => 0))), (n7, .inl (cy 0, 5, .inl (fun _ => 0)))]) Sx ef_6 hK hP hD hS 0 rfl rfl 8 (by decide) kk_238 rfl hin rfl rfl rfl (Nat.le_of_ble_eq_true rfl) dd_X6_init_66 rfl (fun H locs hP hD hS => ?_)
  exact hc_vret Sx hr hlocks dd_X6_init_69 hS (fun k => ([h, n1, n2, n3, n4, n5, n6, n7] : List Nat).getD k 0) rfl (hP.sub [0, 1, 2, 3, 4, 5, 6, 7] rfl) (hD.sub [0, 1, 2, 3, 4, 5, 6, 7] (by decide) rfl)
set_option maxHeartbeats 4000000 in
set_option maxRecDepth 100000 in
theorem c_init_Shelf (l : Launch) (D : va_G) (cy : Nat → ClassId) (h : Nat) : HC l my_X7_init mb_X7_init 1 ((none : Option Jvm.ClassFile.FieldType)) (rmC 1 1 40) D (TY cy) [.ref h] NX [(h, .inr (7, [.null, .int 0, .int 0]))] (QV (S := Nat → Nat) D (fun u => u 0 = h) (fun u => [(u 0, .inr (7, fShelf u)), (u 1, .inl (cy 2, 40, .inr (.inl (fun _ => 0))))])) := by
  refine hc_intro (by decide) (Nat.le_of_ble_eq_true rfl) (fun p e s m below meth c A ls Sx hr hlocks hin hl hP hD hK hS hA hX => ?_)
  have hx := Sx.1
  have hb := Sx.2.1
  have hl : lv_has ls 1 [(0, .ref h)] := hl
  have hP : va_P D cls [(h, .inr (7, [.null, .int 0, .int 0]))] s.heap := hP
  have hD : va_D A [(h, .inr (7, [.null, .int 0, .int 0]))] := hD
  refine lv_aload_n hx hb dd_X7_init_0 rfl (lv_at hl 0 rfl) ?_
  refine W.objInit hx hb Sx.2.2.2.1 (Sx.2.2.2.2 _ kk_367) (Sx.2.2.2.2 _ kk_28) (Sx.2.2.2.2 _ kk_29) rfl (by rw [Sx.2.2.1]; exact hl.1) rfl dd_X7_init_1 (Nat.le_of_ble_eq_true rfl) (Nat.le_of_ble_eq_true rfl) ?_
  refine W.eq (g2 := F0 m 4 ls []) rfl ?_
  refine lv_aload_n hx hb dd_X7_init_4 rfl (lv_at hl 0 rfl) ?_
  refine lv_bipush (v := 40) hx hb dd_X7_init_5 (by decide) ?_
  refine wk_newa1 (at_ := .long) (a0 := (40, .inr (.inl (fun _ => 0)))) (ft := .long) (cI := cy 2) (c1 := 1) (s1 := 40) Sx kk_381 rfl hK 2 rfl (fun _ h => h) hP hD hS hA 40 (fun _ => rfl) (by decide) (by decide) (Nat.le_of_ble_eq_true rfl) (Nat.le_of_ble_eq_true rfl) (Nat.le_of_ble_eq_true rfl) rfl rfl dd_X7_init_7 (fun n1 H hP hD hS => ?_)
  have hP : va_P D cls [(h, .inr (7, [.null, .int 0, .int 0])), (n1, .inl (cy 2, 40, .inr (.inl (fun _ => 0))))] H := hP
  have hD : va_D A [(h, .inr (7, [.null, .int 0, .int 0])), (n1, .inl (cy 2, 40, .inr (.inl (fun _ => 0))))] := hD
  refine wk_putF (ws' := [(h, .inr (7, [.ref n1, .int 0, .int 0])), (n1, .inl (cy 2, 40, .inr (.inl (fun _ => 0))))]) Sx ef_7 hK hP hD hS 0 rfl rfl 0 (by decide) kk_368 rfl hin rfl rfl rfl (Nat.le_of_ble_eq_true rfl) dd_X7_init_9 rfl (fun H locs hP hD hS => ?_)
  refine lv_aload_n hx hb dd_X7_init_12 rfl (lv_at hl 0 rfl) ?_
  refine lv_iconst (v := (-1)) hx hb dd_X7_init_13 (by decide) ?_
  refine wk_put1 (ws' := [(h, .inr (7, [.ref n1, .int (-1), .int 0])), (n1, .inl (cy 2, 40, .inr (.inl (fun _ => 0))))]) Sx ef_7 hK hP hD hS 0 rfl rfl 1 (by decide) kk_370 rfl rfl rfl (Nat.le_of_ble_eq_true rfl) dd_X7_init_14 rfl (fun H locs hP hD hS => ?_)
  refine lv_aload_n hx hb dd_X7_init_17 rfl (lv_at hl 0 rfl) ?_
  refine lv_iconst (v := 0) hx hb dd_X7_init_18 (by decide) ?_
  refine wk_put1 (ws' := [(h, .inr (7, [.ref n1, .int (-1), .int 0])), (n1, .inl (cy 2, 40, .inr (.inl (fun _ => 0))))]) Sx ef_7 hK hP hD hS 0 rfl rfl 2 (by decide) kk_372 rfl rfl rfl (Nat.le_of_ble_eq_true rfl) dd_X7_init_19 rfl (fun H locs hP hD hS => ?_)
  exact hc_vret Sx hr hlocks dd_X7_init_22 hS (fun k => ([h, n1] : List Nat).getD k 0) rfl (hP.sub [0, 1] rfl) (hD.sub [0, 1] (by decide) rfl)
set_option maxHeartbeats 4000000 in
set_option maxRecDepth 100000 in
theorem c_init_Tape (l : Launch) (D : va_G) (cy : Nat → ClassId) (h : Nat) : HC l my_X9_init mb_X9_init 1 ((none : Option Jvm.ClassFile.FieldType)) (rmC 1 1 120) D (TY cy) [.ref h] NX [(h, .inr (9, [.null, .int 0, .int 0, .int 0]))] (QV (S := Nat → Nat) D (fun u => u 0 = h) (fun u => [(u 0, .inr (9, fTape u)), (u 1, .inl (cy 1, 120, .inl (fun _ => 0)))])) := by
  refine hc_intro (by decide) (Nat.le_of_ble_eq_true rfl) (fun p e s m below meth c A ls Sx hr hlocks hin hl hP hD hK hS hA hX => ?_)
  have hx := Sx.1
  have hb := Sx.2.1
  have hl : lv_has ls 1 [(0, .ref h)] := hl
  have hP : va_P D cls [(h, .inr (9, [.null, .int 0, .int 0, .int 0]))] s.heap := hP
  have hD : va_D A [(h, .inr (9, [.null, .int 0, .int 0, .int 0]))] := hD
  refine lv_aload_n hx hb dd_X9_init_0 rfl (lv_at hl 0 rfl) ?_
  refine W.objInit hx hb Sx.2.2.2.1 (Sx.2.2.2.2 _ kk_37) (Sx.2.2.2.2 _ kk_28) (Sx.2.2.2.2 _ kk_29) rfl (by rw [Sx.2.2.1]; exact hl.1) rfl dd_X9_init_1 (Nat.le_of_ble_eq_true rfl) (Nat.le_of_ble_eq_true rfl) ?_
  refine W.eq (g2 := F0 m 4 ls []) rfl ?_
  refine lv_aload_n hx hb dd_X9_init_4 rfl (lv_at hl 0 rfl) ?_
  refine lv_bipush (v := 120) hx hb dd_X9_init_5 (by decide) ?_
  refine wk_newa1 (at_ := .byte) (a0 := (120, .inl (fun _ => 0))) (ft := .byte) (cI := cy 1) (c1 := 1) (s1 := 120) Sx kk_53 rfl hK 1 rfl (fun _ h => h) hP hD hS hA 120 (fun _ => rfl) (by decide) (by decide) (Nat.le_of_ble_eq_true rfl) (Nat.le_of_ble_eq_true rfl) (Nat.le_of_ble_eq_true rfl) rfl rfl dd_X9_init_7 (fun n1 H hP hD hS => ?_)
  have hP : va_P D cls [(h, .inr (9, [.null, .int 0, .int 0, .int 0])), (n1, .inl (cy 1, 120, .inl (fun _ => 0)))] H := hP
  have hD : va_D A [(h, .inr (9, [.null, .int 0, .int 0, .int 0])), (n1, .inl (cy 1, 120, .inl (fun _ => 0)))] := hD
  refine wk_putF (ws' := [(h, .inr (9, [.ref n1, .int 0, .int 0, .int 0])), (n1, .inl (cy 1, 120, .inl (fun _ => 0)))]) Sx ef_9 hK hP hD hS 0 rfl rfl 0 (by decide) kk_38 rfl hin rfl rfl rfl (Nat.le_of_ble_eq_true rfl) dd_X9_init_9 rfl (fun H locs hP hD hS => ?_)
  refine lv_aload_n hx hb dd_X9_init_12 rfl (lv_at hl 0 rfl) ?_
  refine lv_iconst (v := 0) hx hb dd_X9_init_13 (by decide) ?_
  refine wk_put1 (ws' := [(h, .inr (9, [.ref n1, .int 0, .int 0, .int 0])), (n1, .inl (cy 1, 120, .inl (fun _ => 0)))]) Sx ef_9 hK hP hD hS 0 rfl rfl 1 (by decide) kk_39 rfl rfl rfl (Nat.le_of_ble_eq_true rfl) dd_X9_init_14 rfl (fun H locs hP hD hS => ?_)
  refine lv_aload_n hx hb dd_X9_init_17 rfl (lv_at hl 0 rfl) ?_
  refine lv_iconst (v := 0) hx hb dd_X9_init_18 (by decide) ?_
  refine wk_put1 (ws' := [(h, .inr (9, [.ref n1, .int 0, .int 0, .int 0])), (n1, .inl (cy 1, 120, .inl (fun _ => 0)))]) Sx ef_9 hK hP hD hS 0 rfl rfl 2 (by decide) kk_41 rfl rfl rfl (Nat.le_of_ble_eq_true rfl) dd_X9_init_19 rfl (fun H locs hP hD hS => ?_)
  refine lv_aload_n hx hb dd_X9_init_22 rfl (lv_at hl 0 rfl) ?_
  refine lv_iconst (v := 0) hx hb dd_X9_init_23 (by decide) ?_
  refine wk_put1 (ws' := [(h, .inr (9, [.ref n1, .int 0, .int 0, .int 0])), (n1, .inl (cy 1, 120, .inl (fun _ => 0)))]) Sx ef_9 hK hP hD hS 0 rfl rfl 3 (by decide) kk_42 rfl rfl rfl (Nat.le_of_ble_eq_true rfl) dd_X9_init_24 rfl (fun H locs hP hD hS => ?_)
  exact hc_vret Sx hr hlocks dd_X9_init_27 hS (fun k => ([h, n1] : List Nat).getD k 0) rfl (hP.sub [0, 1] rfl) (hD.sub [0, 1] (by decide) rfl)
set_option maxHeartbeats 4000000 in
set_option maxRecDepth 100000 in
theorem c_init_Sale (l : Launch) (D : va_G) (cy : Nat → ClassId) (h : Nat) : HC l my_X5_init mb_X5_init 1 ((none : Option Jvm.ClassFile.FieldType)) (rmC 1 6 144) D (TY cy) [.ref h] NX [(h, .inr (5, [.int 0, .int 0, .null, .int 0, .null, .null, .null, .null, .null]))] (QV (S := Nat → Nat) D (fun u => u 0 = h) (fun u => [(u 0, .inr (5, fSale u)), (u 1, .inl (cy 0, 30, .inl (fun _ => 0))), (u 2, .inl (cy 0, 30, .inl (fun _ => 0))), (u 3, .inl (cy 0, 30, .inl (fun _ => 0))), (u 4, .inl (cy 0, 30, .inl (fun _ => 0))), (u 5, .inl (cy 0, 12, .inl (fun _ => 0))), (u 6, .inl (cy 0, 12, .inl (fun _ => 0)))])) := by
  refine hc_intro (by decide) (Nat.le_of_ble_eq_true rfl) (fun p e s m below meth c A ls Sx hr hlocks hin hl hP hD hK hS hA hX => ?_)
  have hx := Sx.1
  have hb := Sx.2.1
  have hl : lv_has ls 1 [(0, .ref h)] := hl
  have hP : va_P D cls [(h, .inr (5, [.int 0, .int 0, .null, .int 0, .null, .null, .null, .null, .null]))] s.heap := hP
  have hD : va_D A [(h, .inr (5, [.int 0, .int 0, .null, .int 0, .null, .null, .null, .null, .null]))] := hD
  refine lv_aload_n hx hb dd_X5_init_0 rfl (lv_at hl 0 rfl) ?_
  refine W.objInit hx hb Sx.2.2.2.1 (Sx.2.2.2.2 _ kk_321) (Sx.2.2.2.2 _ kk_28) (Sx.2.2.2.2 _ kk_29) rfl (by rw [Sx.2.2.1]; exact hl.1) rfl dd_X5_init_1 (Nat.le_of_ble_eq_true rfl) (Nat.le_of_ble_eq_true rfl) ?_
  refine W.eq (g2 := F0 m 4 ls []) rfl ?_
  refine lv_aload_n hx hb dd_X5_init_4 rfl (lv_at hl 0 rfl) ?_
  refine lv_bipush (v := 12) hx hb dd_X5_init_5 (by decide) ?_
  refine wk_put1 (ws' := [(h, .inr (5, [.int 12, .int 0, .null, .int 0, .null, .null, .null, .null, .null]))]) Sx ef_5 hK hP hD hS 0 rfl rfl 0 (by decide) kk_322 rfl rfl rfl (Nat.le_of_ble_eq_true rfl) dd_X5_init_7 rfl (fun H locs hP hD hS => ?_)
  refine lv_aload_n hx hb dd_X5_init_10 rfl (lv_at hl 0 rfl) ?_
  refine lv_bipush (v := 12) hx hb dd_X5_init_11 (by decide) ?_
  refine wk_put1 (ws' := [(h, .inr (5, [.int 12, .int 12, .null, .int 0, .null, .null, .null, .null, .null]))]) Sx ef_5 hK hP hD hS 0 rfl rfl 1 (by decide) kk_323 rfl rfl rfl (Nat.le_of_ble_eq_true rfl) dd_X5_init_13 rfl (fun H locs hP hD hS => ?_)
  refine lv_aload_n hx hb dd_X5_init_16 rfl (lv_at hl 0 rfl) ?_
  refine lv_bipush (v := 30) hx hb dd_X5_init_17 (by decide) ?_
  refine wk_newa1 (at_ := .int) (a0 := (30, .inl (fun _ => 0))) (ft := .int) (cI := cy 0) (c1 := 1) (s1 := 30) Sx kk_52 rfl hK 0 rfl (fun _ h => h) hP hD hS hA 30 (fun _ => rfl) (by decide) (by decide) (Nat.le_of_ble_eq_true rfl) (Nat.le_of_ble_eq_true rfl) (Nat.le_of_ble_eq_true rfl) rfl rfl dd_X5_init_19 (fun n1 H hP hD hS => ?_)
  have hP : va_P D cls [(h, .inr (5, [.int 12, .int 12, .null, .int 0, .null, .null, .null, .null, .null])), (n1, .inl (cy 0, 30, .inl (fun _ => 0)))] H := hP
  have hD : va_D A [(h, .inr (5, [.int 12, .int 12, .null, .int 0, .null, .null, .null, .null, .null])), (n1, .inl (cy 0, 30, .inl (fun _ => 0)))] := hD
  refine wk_putF (ws' := [(h, .inr (5, [.int 12, .int 12, .ref n1, .int 0, .null, .null, .null, .null, .null])), (n1, .inl (cy 0, 30, .inl (fun _ => 0)))]) Sx ef_5 hK hP hD hS 0 rfl rfl 2 (by decide) kk_324 rfl hin rfl rfl rfl (Nat.le_of_ble_eq_true rfl) dd_X5_init_21 rfl (fun H locs hP hD hS => ?_)
  refine lv_aload_n hx hb dd_X5_init_24 rfl (lv_at hl 0 rfl) ?_
  refine lv_iconst (v := 0) hx hb dd_X5_init_25 (by decide) ?_
  refine wk_put1 (ws' := [(h, .inr (5, [.int 12, .int 12, .ref n1, .int 0, .null, .null, .null, .null, .null])), (n1, .inl (cy 0, 30, .inl (fun _ => 0)))]) Sx ef_5 hK hP hD hS 0 rfl rfl 3 (by decide) kk_325 rfl rfl rfl (Nat.le_of_ble_eq_true rfl) dd_X5_init_26 rfl (fun H locs hP hD hS => ?_)
  refine lv_aload_n hx hb dd_X5_init_29 rfl (lv_at hl 0 rfl) ?_
  refine lv_bipush (v := 30) hx hb dd_X5_init_30 (by decide) ?_
  refine wk_newa1 (at_ := .int) (a0 := (30, .inl (fun _ => 0))) (ft := .int) (cI := cy 0) (c1 := 2) (s1 := 60) Sx kk_52 rfl hK 0 rfl (fun _ h => h) hP hD hS hA 30 (fun _ => rfl) (by decide) (by decide) (Nat.le_of_ble_eq_true rfl) (Nat.le_of_ble_eq_true rfl) (Nat.le_of_ble_eq_true rfl) rfl rfl dd_X5_init_32 (fun n2 H hP hD hS => ?_)
  have hP : va_P D cls [(h, .inr (5, [.int 12, .int 12, .ref n1, .int 0, .null, .null, .null, .null, .null])), (n1, .inl (cy 0, 30, .inl (fun _ => 0))), (n2, .inl (cy 0, 30, .inl (fun _ => 0)))] H := hP
  have hD : va_D A [(h, .inr (5, [.int 12, .int 12, .ref n1, .int 0, .null, .null, .null, .null, .null])), (n1, .inl (cy 0, 30, .inl (fun _ => 0))), (n2, .inl (cy 0, 30, .inl (fun _ => 0)))] := hD
  refine wk_putF (ws' := [(h, .inr (5, [.int 12, .int 12, .ref n1, .int 0, .ref n2, .null, .null, .null, .null])), (n1, .inl (cy 0, 30, .inl (fun _ => 0))), (n2, .inl (cy 0, 30, .inl (fun _ => 0)))]) Sx ef_5 hK hP hD hS 0 rfl rfl 4 (by decide) kk_326 rfl hin rfl rfl rfl (Nat.le_of_ble_eq_true rfl) dd_X5_init_34 rfl (fun H locs hP hD hS => ?_)
  refine lv_aload_n hx hb dd_X5_init_37 rfl (lv_at hl 0 rfl) ?_
  refine lv_bipush (v := 30) hx hb dd_X5_init_38 (by decide) ?_
  refine wk_newa1 (at_ := .int) (a0 := (30, .inl (fun _ => 0))) (ft := .int) (cI := cy 0) (c1 := 3) (s1 := 90) Sx kk_52 rfl hK 0 rfl (fun _ h => h) hP hD hS hA 30 (fun _ => rfl) (by decide) (by decide) (Nat.le_of_ble_eq_true rfl) (Nat.le_of_ble_eq_true rfl) (Nat.le_of_ble_eq_true rfl) rfl rfl dd_X5_init_40 (fun n3 H hP hD hS => ?_)
  have hP : va_P D cls [(h, .inr (5, [.int 12, .int 12, .ref n1, .int 0, .ref n2, .null, .null, .null, .null])), (n1, .inl (cy 0, 30, .inl (fun _ => 0))), (n2, .inl (cy 0, 30, .inl (fun _ => 0))), (n3, .inl (cy 0, 30, .inl (fun _ => 0)))] H := hP
  have hD : va_D A [(h, .inr (5, [.int 12, .int 12, .ref n1, .int 0, .ref n2, .null, .null, .null, .null])), (n1, .inl (cy 0, 30, .inl (fun _ => 0))), (n2, .inl (cy 0, 30, .inl (fun _ => 0))), (n3, .inl (cy 0, 30, .inl (fun _ => 0)))] := hD
  refine wk_putF (ws' := [(h, .inr (5, [.int 12, .int 12, .ref n1, .int 0, .ref n2, .ref n3, .null, .null, .null])), (n1, .inl (cy 0, 30, .inl (fun _ => 0))), (n2, .inl (cy 0, 30, .inl (fun _ => 0))), (n3, .inl (cy 0, 30, .inl (fun _ => 0)))]) Sx ef_5 hK hP hD hS 0 rfl rfl 5 (by decide) kk_327 rfl hin rfl rfl rfl (Nat.le_of_ble_eq_true rfl) dd_X5_init_42 rfl (fun H locs hP hD hS => ?_)
  refine lv_aload_n hx hb dd_X5_init_45 rfl (lv_at hl 0 rfl) ?_
  refine lv_bipush (v := 30) hx hb dd_X5_init_46 (by decide) ?_
  refine wk_newa1 (at_ := .int) (a0 := (30, .inl (fun _ => 0))) (ft := .int) (cI := cy 0) (c1 := 4) (s1 := 120) Sx kk_52 rfl hK 0 rfl (fun _ h => h) hP hD hS hA 30 (fun _ => rfl) (by decide) (by decide) (Nat.le_of_ble_eq_true rfl) (Nat.le_of_ble_eq_true rfl) (Nat.le_of_ble_eq_true rfl) rfl rfl dd_X5_init_48 (fun n4 H hP hD hS => ?_)
  have hP : va_P D cls [(h, .inr (5, [.int 12, .int 12, .ref n1, .int 0, .ref n2, .ref n3, .null, .null, .null])), (n1, .inl (cy 0, 30, .inl (fun _ => 0))), (n2, .inl (cy 0, 30, .inl (fun _ => 0))), (n3, .inl (cy 0, 30, .inl (fun _ => 0))), (n4, .inl (cy 0, 30, .inl (fun _ => 0)))] H := hP
  have hD : va_D A [(h, .inr (5, [.int 12, .int 12, .ref n1, .int 0, .ref n2, .ref n3, .null, .null, .null])), (n1, .inl (cy 0, 30, .inl (fun _ => 0))), (n2, .inl (cy 0, 30, .inl (fun _ => 0))), (n3, .inl (cy 0, 30, .inl (fun _ => 0))), (n4, .inl (cy 0, 30, .inl (fun _ => 0)))] := hD
  refine wk_putF (ws' := [(h, .inr (5, [.int 12, .int 12, .ref n1, .int 0, .ref n2, .ref n3, .ref n4, .null, .null])), (n1, .inl (cy 0, 30, .inl (fun _ => 0))), (n2, .inl (cy 0, 30, .inl (fun _ => 0))), (n3, .inl (cy 0, 30, .inl (fun _ => 0))), (n4, .inl (cy 0, 30, .inl (fun _ => 0)))]) Sx ef_5 hK hP hD hS 0 rfl rfl 6 (by decide) kk_328 rfl hin rfl rfl rfl (Nat.le_of_ble_eq_true rfl) dd_X5_init_50 rfl (fun H locs hP hD hS => ?_)
  refine lv_aload_n hx hb dd_X5_init_53 rfl (lv_at hl 0 rfl) ?_
  refine lv_bipush (v := 12) hx hb dd_X5_init_54 (by decide) ?_
  refine wk_newa1 (at_ := .int) (a0 := (12, .inl (fun _ => 0))) (ft := .int) (cI := cy 0) (c1 := 5) (s1 := 132) Sx kk_52 rfl hK 0 rfl (fun _ h => h) hP hD hS hA 12 (fun _ => rfl) (by decide) (by decide) (Nat.le_of_ble_eq_true rfl) (Nat.le_of_ble_eq_true rfl) (Nat.le_of_ble_eq_true rfl) rfl rfl dd_X5_init_56 (fun n5 H hP hD hS => ?_)
  have hP : va_P D cls [(h, .inr (5, [.int 12, .int 12, .ref n1, .int 0, .ref n2, .ref n3, .ref n4, .null, .null])), (n1, .inl (cy 0, 30, .inl (fun _ => 0))), (n2, .inl (cy 0, 30, .inl (fun _ => 0))), (n3, .inl (cy 0, 30, .inl (fun _ => 0))), (n4, .inl (cy 0, 30, .inl (fun _ => 0))), (n5, .inl (cy 0, 12, .inl (fun _ => 0)))] H := hP
  have hD : va_D A [(h, .inr (5, [.int 12, .int 12, .ref n1, .int 0, .ref n2, .ref n3, .ref n4, .null, .null])), (n1, .inl (cy 0, 30, .inl (fun _ => 0))), (n2, .inl (cy 0, 30, .inl (fun _ => 0))), (n3, .inl (cy 0, 30, .inl (fun _ => 0))), (n4, .inl (cy 0, 30, .inl (fun _ => 0))), (n5, .inl (cy 0, 12, .inl (fun _ => 0)))] := hD
  refine wk_putF (ws' := [(h, .inr (5, [.int 12, .int 12, .ref n1, .int 0, .ref n2, .ref n3, .ref n4, .ref n5, .null])), (n1, .inl (cy 0, 30, .inl (fun _ => 0))), (n2, .inl (cy 0, 30, .inl (fun _ => 0))), (n3, .inl (cy 0, 30, .inl (fun _ => 0))), (n4, .inl (cy 0, 30, .inl (fun _ => 0))), (n5, .inl (cy 0, 12, .inl (fun _ => 0)))]) Sx ef_5 hK hP hD hS 0 rfl rfl 7 (by decide) kk_329 rfl hin rfl rfl rfl (Nat.le_of_ble_eq_true rfl) dd_X5_init_58 rfl (fun H locs hP hD hS => ?_)
  refine lv_aload_n hx hb dd_X5_init_61 rfl (lv_at hl 0 rfl) ?_
  refine lv_bipush (v := 12) hx hb dd_X5_init_62 (by decide) ?_
  refine wk_newa1 (at_ := .int) (a0 := (12, .inl (fun _ => 0))) (ft := .int) (cI := cy 0) (c1 := 6) (s1 := 144) Sx kk_52 rfl hK 0 rfl (fun _ h => h) hP hD hS hA 12 (fun _ => rfl) (by decide) (by decide) (Nat.le_of_ble_eq_true rfl) (Nat.le_of_ble_eq_true rfl) (Nat.le_of_ble_eq_true rfl) rfl rfl dd_X5_init_64 (fun n6 H hP hD hS => ?_)
  have hP : va_P D cls [(h, .inr (5, [.int 12, .int 12, .ref n1, .int 0, .ref n2, .ref n3, .ref n4, .ref n5, .null])), (n1, .inl (cy 0, 30, .inl (fun _ => 0))), (n2, .inl (cy 0, 30, .inl (fun _ => 0))), (n3, .inl (cy 0, 30, .inl (fun _ => 0))), (n4, .inl (cy 0, 30, .inl (fun _ => 0))), (n5, .inl (cy 0, 12, .inl (fun _ => 0))), (n6, .inl (cy 0, 12, .inl (fun _ => 0)))] H := hP
  have hD : va_D A [(h, .inr (5, [.int 12, .int 12, .ref n1, .int 0, .ref n2, .ref n3, .ref n4, .ref n5, .null])), (n1, .inl (cy 0, 30, .inl (fun _ => 0))), (n2, .inl (cy 0, 30, .inl (fun _ => 0))), (n3, .inl (cy 0, 30, .inl (fun _ => 0))), (n4, .inl (cy 0, 30, .inl (fun _ => 0))), (n5, .inl (cy 0, 12, .inl (fun _ => 0))), (n6, .inl (cy 0, 12, .inl (fun _ => 0)))] := hD
  refine wk_putF (ws' := [(h, .inr (5, [.int 12, .int 12, .ref n1, .int 0, .ref n2, .ref n3, .ref n4, .ref n5, .ref n6])), (n1, .inl (cy 0, 30, .inl (fun _ => 0))), (n2, .inl (cy 0, 30, .inl (fun _ => 0))), (n3, .inl (cy 0, 30, .inl (fun _ => 0))), (n4, .inl (cy 0, 30, .inl (fun _ => 0))), (n5, .inl (cy 0, 12, .inl (fun _ => 0))), (n6, .inl (cy 0, 12, .inl (fun _ => 0)))]) Sx ef_5 hK hP hD hS 0 rfl rfl 8 (by decide) kk_330 rfl hin rfl rfl rfl (Nat.le_of_ble_eq_true rfl) dd_X5_init_66 rfl (fun H locs hP hD hS => ?_)
  exact hc_vret Sx hr hlocks dd_X5_init_69 hS (fun k => ([h, n1, n2, n3, n4, n5, n6] : List Nat).getD k 0) rfl (hP.sub [0, 1, 2, 3, 4, 5, 6] rfl) (hD.sub [0, 1, 2, 3, 4, 5, 6] (by decide) rfl)
set_option maxHeartbeats 4000000 in
set_option maxRecDepth 100000 in
theorem c_init_Picks (l : Launch) (D : va_G) (cy : Nat → ClassId) (h : Nat) : HC l my_X4_init mb_X4_init 1 ((none : Option Jvm.ClassFile.FieldType)) (rmC 1 2 10201) D (TY cy) [.ref h] NX [(h, .inr (4, [.null, .null]))] (QV (S := Nat → Nat) D (fun u => u 0 = h) (fun u => [(u 0, .inr (4, fPicks u)), (u 1, .inl (cy 0, 10000, .inl (fun _ => 0))), (u 2, .inl (cy 0, 201, .inl (fun _ => 0)))])) := by
  refine hc_intro (by decide) (Nat.le_of_ble_eq_true rfl) (fun p e s m below meth c A ls Sx hr hlocks hin hl hP hD hK hS hA hX => ?_)
  have hx := Sx.1
  have hb := Sx.2.1
  have hl : lv_has ls 1 [(0, .ref h)] := hl
  have hP : va_P D cls [(h, .inr (4, [.null, .null]))] s.heap := hP
  have hD : va_D A [(h, .inr (4, [.null, .null]))] := hD
  refine lv_aload_n hx hb dd_X4_init_0 rfl (lv_at hl 0 rfl) ?_
  refine W.objInit hx hb Sx.2.2.2.1 (Sx.2.2.2.2 _ kk_355) (Sx.2.2.2.2 _ kk_28) (Sx.2.2.2.2 _ kk_29) rfl (by rw [Sx.2.2.1]; exact hl.1) rfl dd_X4_init_1 (Nat.le_of_ble_eq_true rfl) (Nat.le_of_ble_eq_true rfl) ?_
  refine W.eq (g2 := F0 m 4 ls []) rfl ?_
  refine lv_aload_n hx hb dd_X4_init_4 rfl (lv_at hl 0 rfl) ?_
  refine lv_sipush (v := 10000) hx hb dd_X4_init_5 (by decide) ?_
  refine wk_newa1 (at_ := .int) (a0 := (10000, .inl (fun _ => 0))) (ft := .int) (cI := cy 0) (c1 := 1) (s1 := 10000) Sx kk_52 rfl hK 0 rfl (fun _ h => h) hP hD hS hA 10000 (fun _ => rfl) (by decide) (by decide) (Nat.le_of_ble_eq_true rfl) (Nat.le_of_ble_eq_true rfl) (Nat.le_of_ble_eq_true rfl) rfl rfl dd_X4_init_8 (fun n1 H hP hD hS => ?_)
  have hP : va_P D cls [(h, .inr (4, [.null, .null])), (n1, .inl (cy 0, 10000, .inl (fun _ => 0)))] H := hP
  have hD : va_D A [(h, .inr (4, [.null, .null])), (n1, .inl (cy 0, 10000, .inl (fun _ => 0)))] := hD
  refine wk_putF (ws' := [(h, .inr (4, [.ref n1, .null])), (n1, .inl (cy 0, 10000, .inl (fun _ => 0)))]) Sx ef_4 hK hP hD hS 0 rfl rfl 0 (by decide) kk_356 rfl hin rfl rfl rfl (Nat.le_of_ble_eq_true rfl) dd_X4_init_10 rfl (fun H locs hP hD hS => ?_)
  refine lv_aload_n hx hb dd_X4_init_13 rfl (lv_at hl 0 rfl) ?_
  refine lv_sipush (v := 201) hx hb dd_X4_init_14 (by decide) ?_
  refine wk_newa1 (at_ := .int) (a0 := (201, .inl (fun _ => 0))) (ft := .int) (cI := cy 0) (c1 := 2) (s1 := 10201) Sx kk_52 rfl hK 0 rfl (fun _ h => h) hP hD hS hA 201 (fun _ => rfl) (by decide) (by decide) (Nat.le_of_ble_eq_true rfl) (Nat.le_of_ble_eq_true rfl) (Nat.le_of_ble_eq_true rfl) rfl rfl dd_X4_init_17 (fun n2 H hP hD hS => ?_)
  have hP : va_P D cls [(h, .inr (4, [.ref n1, .null])), (n1, .inl (cy 0, 10000, .inl (fun _ => 0))), (n2, .inl (cy 0, 201, .inl (fun _ => 0)))] H := hP
  have hD : va_D A [(h, .inr (4, [.ref n1, .null])), (n1, .inl (cy 0, 10000, .inl (fun _ => 0))), (n2, .inl (cy 0, 201, .inl (fun _ => 0)))] := hD
  refine wk_putF (ws' := [(h, .inr (4, [.ref n1, .ref n2])), (n1, .inl (cy 0, 10000, .inl (fun _ => 0))), (n2, .inl (cy 0, 201, .inl (fun _ => 0)))]) Sx ef_4 hK hP hD hS 0 rfl rfl 1 (by decide) kk_357 rfl hin rfl rfl rfl (Nat.le_of_ble_eq_true rfl) dd_X4_init_19 rfl (fun H locs hP hD hS => ?_)
  exact hc_vret Sx hr hlocks dd_X4_init_22 hS (fun k => ([h, n1, n2] : List Nat).getD k 0) rfl (hP.sub [0, 1, 2] rfl) (hD.sub [0, 1, 2] (by decide) rfl)
