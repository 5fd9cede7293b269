set_option maxHeartbeats 4000000 in
set_option maxRecDepth 100000 in
theorem c_coder (l : Launch) (D : va_G) (cy : Nat → ClassId) (w : Nat) (v : Nat) (n : Nat) (hn : 1 ≤ n ∧ n ≤ 7) : PC l my_J0_coder_7d493 mb_J0_coder_7d493 1 ((some .byte)) (rmD 1 0 0) D (TY cy) [.ref w] (IX w v n) [] (vp_Si (fun r => r = 0)) := by
  refine pc_intro (by decide) (Nat.le_of_ble_eq_true rfl) (fun p e s m below meth c ls Sx hr hlocks hl hP hK hX => ?_)
  have hx := Sx.1
  have hb := Sx.2.1
  have hl : lv_has ls 1 [(0, .ref w)] := hl
  refine va_gets (A := FF) hx hb hX.2.1 va_S.rf Sx.2.2.2.1 (Sx.2.2.2.2 _ kk_640) (fun _ h => h) dd_J0_coder_7d493_0 ?_
  refine lv_if_eq (tgt := 13) hx hb dd_J0_coder_7d493_3 (by decide) (fun c => absurd c (by decide)) (fun _ => ?_)
  refine lv_aload_n hx hb dd_J0_coder_7d493_6 rfl (lv_at hl 0 rfl) ?_
  refine vk_getf (A := FF) hx hb hX.2.2.2.1 va_S.rf Sx.2.2.2.1 (Sx.2.2.2.2 _ kk_1608) (fun _ h => h) dd_J0_coder_7d493_7 ?_
  refine lv_goto (tgt := 14) hx hb dd_J0_coder_7d493_10 (by decide) ?_
  exact pc_ret Sx hr hlocks rfl dd_J0_coder_7d493_14 rfl
set_option maxHeartbeats 4000000 in
set_option maxRecDepth 100000 in
theorem c_length (l : Launch) (D : va_G) (cy : Nat → ClassId) (w : Nat) (v : Nat) (n : Nat) (hn : 1 ≤ n ∧ n ≤ 7) : PC l my_J0_length_8abf5 mb_J0_length_8abf5 1 ((some .int)) (rmD 2 0 0) D (TY cy) [.ref w] (IX w v n) [] (vp_Si (fun r => r = nI n)) := by
  refine pc_intro (by decide) (Nat.le_of_ble_eq_true rfl) (fun p e s m below meth c ls Sx hr hlocks hl hP hK hX => ?_)
  have hx := Sx.1
  have hb := Sx.2.1
  have hl : lv_has ls 1 [(0, .ref w)] := hl
  refine lv_aload_n hx hb dd_J0_length_8abf5_0 rfl (lv_at hl 0 rfl) ?_
  refine vk_getf (A := FF) hx hb hX.2.2.2.2.1 va_S.rf Sx.2.2.2.1 (Sx.2.2.2.2 _ kk_1607) (fun _ h => h) dd_J0_length_8abf5_1 ?_
  obtain ⟨ft, hT⟩ := hX.2.2.2.2.2
  refine va_tlen (A := FF) (v := nI n) hx hb hT va_S.rf rfl dd_J0_length_8abf5_4 ?_
  refine lv_aload_n hx hb dd_J0_length_8abf5_5 rfl (lv_at hl 0 rfl) ?_
  refine pk_i (pc_V [] [.int (nI n)] Sx hl.1 ws_String_335 md_J0_coder_7d493 (c_coder l D cy w v n (by omega)) ⟨rfl, rfl⟩ ⟨Nat.le_of_ble_eq_true rfl, Nat.le_of_ble_eq_true rfl⟩ p_nil hK ix_b (fun U hU hW => ⟨NN.warm hW hX.1, cz_go va_S.rf (fun _ h => h) hU hW hX.2.1, st_go va_S.rf (fun _ h => h) hU hW hX.2.2⟩) (st_recv hX.2.2) rfl rfl (Nat.le_of_ble_eq_true rfl) dd_J0_length_8abf5_6 ⟨Nat.le_of_ble_eq_true rfl, Nat.le_of_ble_eq_true rfl⟩) (fun r1 hw2 => ?_)
  subst hw2
  refine lv_ishr hx hb dd_J0_length_8abf5_9 ?_
  refine wk_int (v := nI n) (sb_shr0 _) ?_
  exact pc_ret Sx hr hlocks rfl dd_J0_length_8abf5_10 rfl
set_option maxHeartbeats 4000000 in
set_option maxRecDepth 100000 in
theorem c_isWord (l : Launch) (D : va_G) (cy : Nat → ClassId) (q : Nat → Nat) (w : Nat) (v : Nat) (n : Nat) (hn : 1 ≤ n ∧ n ≤ 7) : PC l my_X9_isWord mb_X9_isWord 3 ((some .boolean)) (rmD 3 0 0) D (TY cy) [.ref (q 0), .ref w] (IX w v n) [(q 0, .inr (9, fTape q))] (vp_Si (fun r => r = 0)) := by
  refine pc_intro (by decide) (Nat.le_of_ble_eq_true rfl) (fun p e s m below meth c ls Sx hr hlocks hl hP hK hX => ?_)
  have hx := Sx.1
  have hb := Sx.2.1
  have hl : lv_has ls 3 [(0, .ref (q 0)), (1, .ref w)] := hl
  refine lv_aload_n hx hb dd_X9_isWord_0 rfl (lv_at hl 0 rfl) ?_
  refine wk_get (v := .int 0) Sx ef_9 hK hP 0 rfl rfl 3 (by decide) kk_42 rfl dd_X9_isWord_1 ?_
  refine lv_aload_n hx hb dd_X9_isWord_4 rfl (lv_at hl 0 rfl) ?_
  refine wk_get (v := .int 0) Sx ef_9 hK hP 0 rfl rfl 2 (by decide) kk_41 rfl dd_X9_isWord_5 ?_
  refine lv_isub hx hb dd_X9_isWord_8 ?_
  refine wk_int (v := 0) (by decide) ?_
  refine lv_aload_n hx hb dd_X9_isWord_9 rfl (lv_at hl 1 rfl) ?_
  refine pk_i (pc_V [] [.int 0] Sx hl.1 ws_Tape_69 md_J0_length_8abf5 (c_length l D cy w v n (by omega)) ⟨rfl, rfl⟩ ⟨Nat.le_of_ble_eq_true rfl, Nat.le_of_ble_eq_true rfl⟩ p_nil hK ix_b (fun U hU hW => ⟨NN.warm hW hX.1, cz_go va_S.rf (fun _ h => h) hU hW hX.2.1, st_go va_S.rf (fun _ h => h) hU hW hX.2.2⟩) (st_recv hX.2.2) rfl rfl (Nat.le_of_ble_eq_true rfl) dd_X9_isWord_10 ⟨Nat.le_of_ble_eq_true rfl, Nat.le_of_ble_eq_true rfl⟩) (fun r1 hw2 => ?_)
  subst hw2
  refine lv_icmp_eq (tgt := 18) hx hb dd_X9_isWord_13 (by decide) (fun c3 => ?_) (fun c3 => ?_)
  · have fc3 := ci_eq (a := 0) (b := ((n : Nat) : Int)) rfl (nI_toInt (by omega)) c3
    exfalso; omega
  · have fc3 := ci_ne (a := 0) (b := ((n : Nat) : Int)) rfl (nI_toInt (by omega)) c3
    refine lv_iconst (v := 0) hx hb dd_X9_isWord_16 (by decide) ?_
    exact pc_ret Sx hr hlocks rfl dd_X9_isWord_17 rfl
set_option maxHeartbeats 4000000 in
set_option maxRecDepth 100000 in
theorem c_partNamed (l : Launch) (D : va_G) (cy : Nat → ClassId) (q : Nat → Nat) : PC l my_X9_partNamed mb_X9_partNamed 1 ((some .int)) (rmD 4 0 0) D (TY cy) [.ref (q 0)] (PX FF) [(q 0, .inr (9, fTape q))] (vp_Si (fun r => r = (-1))) := by
  refine pc_intro (by decide) (Nat.le_of_ble_eq_true rfl) (fun p e s m below meth c ls Sx hr hlocks hl hP hK hX => ?_)
  have hx := Sx.1
  have hb := Sx.2.1
  have hl : lv_has ls 1 [(0, .ref (q 0))] := hl
  refine lv_aload_n hx hb dd_X9_partNamed_0 rfl (lv_at hl 0 rfl) ?_
  obtain ⟨w1, v2, hR3, hT4⟩ := hX.2.2 (55, "known", 5) (by decide)
  refine va_ldcS hx hb Sx.2.2.2.1 hR3 dd_X9_partNamed_1 ?_
  refine pk_i (pc_V [.ref w1] [] Sx hl.1 ws_Tape_57 md_X9_isWord (c_isWord l D cy q w1 v2 5 (by decide)) ⟨rfl, rfl⟩ ⟨Nat.le_of_ble_eq_true rfl, Nat.le_of_ble_eq_true rfl⟩ (hP.sub [0] rfl) hK ix_b (fun U hU hW => ⟨NN.warm hW hX.1, cz_go va_S.rf (fun _ h => h) hU hW hX.2.1, st_go va_S.rf (fun _ h => h) hU hW hT4⟩) (va_recv hK hP (ci := 9) (q0 := 0) rfl rfl) rfl rfl (Nat.le_of_ble_eq_true rfl) dd_X9_partNamed_3 ⟨Nat.le_of_ble_eq_true rfl, Nat.le_of_ble_eq_true rfl⟩) (fun r5 hw6 => ?_)
  subst hw6
  refine lv_if_eq (tgt := 11) hx hb dd_X9_partNamed_6 (by decide) (fun _ => ?_) (fun c => absurd c (by decide))
  refine lv_aload_n hx hb dd_X9_partNamed_11 rfl (lv_at hl 0 rfl) ?_
  obtain ⟨w7, v8, hR9, hT10⟩ := hX.2.2 (61, "strange", 7) (by decide)
  refine va_ldcS hx hb Sx.2.2.2.1 hR9 dd_X9_partNamed_12 ?_
  refine pk_i (pc_V [.ref w7] [] Sx hl.1 ws_Tape_57 md_X9_isWord (c_isWord l D cy q w7 v8 7 (by decide)) ⟨rfl, rfl⟩ ⟨Nat.le_of_ble_eq_true rfl, Nat.le_of_ble_eq_true rfl⟩ (hP.sub [0] rfl) hK ix_b (fun U hU hW => ⟨NN.warm hW hX.1, cz_go va_S.rf (fun _ h => h) hU hW hX.2.1, st_go va_S.rf (fun _ h => h) hU hW hT10⟩) (va_recv hK hP (ci := 9) (q0 := 0) rfl rfl) rfl rfl (Nat.le_of_ble_eq_true rfl) dd_X9_partNamed_14 ⟨Nat.le_of_ble_eq_true rfl, Nat.le_of_ble_eq_true rfl⟩) (fun r11 hw12 => ?_)
  subst hw12
  refine lv_if_eq (tgt := 22) hx hb dd_X9_partNamed_17 (by decide) (fun _ => ?_) (fun c => absurd c (by decide))
  refine lv_aload_n hx hb dd_X9_partNamed_22 rfl (lv_at hl 0 rfl) ?_
  obtain ⟨w13, v14, hR15, hT16⟩ := hX.2.2 (63, "round", 5) (by decide)
  refine va_ldcS hx hb Sx.2.2.2.1 hR15 dd_X9_partNamed_23 ?_
  refine pk_i (pc_V [.ref w13] [] Sx hl.1 ws_Tape_57 md_X9_isWord (c_isWord l D cy q w13 v14 5 (by decide)) ⟨rfl, rfl⟩ ⟨Nat.le_of_ble_eq_true rfl, Nat.le_of_ble_eq_true rfl⟩ (hP.sub [0] rfl) hK ix_b (fun U hU hW => ⟨NN.warm hW hX.1, cz_go va_S.rf (fun _ h => h) hU hW hX.2.1, st_go va_S.rf (fun _ h => h) hU hW hT16⟩) (va_recv hK hP (ci := 9) (q0 := 0) rfl rfl) rfl rfl (Nat.le_of_ble_eq_true rfl) dd_X9_partNamed_25 ⟨Nat.le_of_ble_eq_true rfl, Nat.le_of_ble_eq_true rfl⟩) (fun r17 hw18 => ?_)
  subst hw18
  refine lv_if_eq (tgt := 33) hx hb dd_X9_partNamed_28 (by decide) (fun _ => ?_) (fun c => absurd c (by decide))
  refine lv_aload_n hx hb dd_X9_partNamed_33 rfl (lv_at hl 0 rfl) ?_
  obtain ⟨w19, v20, hR21, hT22⟩ := hX.2.2 (65, "least", 5) (by decide)
  refine va_ldcS hx hb Sx.2.2.2.1 hR21 dd_X9_partNamed_34 ?_
  refine pk_i (pc_V [.ref w19] [] Sx hl.1 ws_Tape_57 md_X9_isWord (c_isWord l D cy q w19 v20 5 (by decide)) ⟨rfl, rfl⟩ ⟨Nat.le_of_ble_eq_true rfl, Nat.le_of_ble_eq_true rfl⟩ (hP.sub [0] rfl) hK ix_b (fun U hU hW => ⟨NN.warm hW hX.1, cz_go va_S.rf (fun _ h => h) hU hW hX.2.1, st_go va_S.rf (fun _ h => h) hU hW hT22⟩) (va_recv hK hP (ci := 9) (q0 := 0) rfl rfl) rfl rfl (Nat.le_of_ble_eq_true rfl) dd_X9_partNamed_36 ⟨Nat.le_of_ble_eq_true rfl, Nat.le_of_ble_eq_true rfl⟩) (fun r23 hw24 => ?_)
  subst hw24
  refine lv_if_eq (tgt := 44) hx hb dd_X9_partNamed_39 (by decide) (fun _ => ?_) (fun c => absurd c (by decide))
  refine lv_aload_n hx hb dd_X9_partNamed_44 rfl (lv_at hl 0 rfl) ?_
  obtain ⟨w25, v26, hR27, hT28⟩ := hX.2.2 (67, "most", 4) (by decide)
  refine va_ldcS hx hb Sx.2.2.2.1 hR27 dd_X9_partNamed_45 ?_
  refine pk_i (pc_V [.ref w25] [] Sx hl.1 ws_Tape_57 md_X9_isWord (c_isWord l D cy q w25 v26 4 (by decide)) ⟨rfl, rfl⟩ ⟨Nat.le_of_ble_eq_true rfl, Nat.le_of_ble_eq_true rfl⟩ (hP.sub [0] rfl) hK ix_b (fun U hU hW => ⟨NN.warm hW hX.1, cz_go va_S.rf (fun _ h => h) hU hW hX.2.1, st_go va_S.rf (fun _ h => h) hU hW hT28⟩) (va_recv hK hP (ci := 9) (q0 := 0) rfl rfl) rfl rfl (Nat.le_of_ble_eq_true rfl) dd_X9_partNamed_47 ⟨Nat.le_of_ble_eq_true rfl, Nat.le_of_ble_eq_true rfl⟩) (fun r29 hw30 => ?_)
  subst hw30
  refine lv_if_eq (tgt := 57) hx hb dd_X9_partNamed_50 (by decide) (fun _ => ?_) (fun c => absurd c (by decide))
  refine lv_iconst (v := (-1)) hx hb dd_X9_partNamed_57 (by decide) ?_
  exact pc_ret Sx hr hlocks rfl dd_X9_partNamed_58 rfl
set_option maxHeartbeats 4000000 in
set_option maxRecDepth 100000 in
theorem c_clearDraft (l : Launch) (D : va_G) (cy : Nat → ClassId) (q : Nat → Nat) : HC l my_X3_clearDraft mb_X3_clearDraft 1 ((none : Option Jvm.ClassFile.FieldType)) (rmD 1 0 0) D (TY cy) [.ref (q 0)] CX [(q 0, .inr (3, fLaws q)), (q 2, .inl (cy 0, 5, .inl (fun _ => 0)))] (QV (S := Unit) D (fun _ => True) (fun _ => [])) := by
  refine hc_intro (by decide) (Nat.le_of_ble_eq_true rfl) (fun p e s m below meth c A ls Sx hr hlocks hin hl hP hD hK hS hA hX => ?_)
  have hx := Sx.1
  have hb := Sx.2.1
  have hl : lv_has ls 1 [(0, .ref (q 0))] := hl
  have hP : va_P D cls [(q 0, .inr (3, fLaws q)), (q 2, .inl (cy 0, 5, .inl (fun _ => 0)))] s.heap := hP
  have hD : va_D A [(q 0, .inr (3, fLaws q)), (q 2, .inl (cy 0, 5, .inl (fun _ => 0)))] := hD
  obtain ⟨ta, hZ, hXa, hta, hnA⟩ := hX.2
  refine va_gets hx hb hZ hS Sx.2.2.2.1 (Sx.2.2.2.2 _ kk_610) (fun _ h => h) dd_X3_clearDraft_0 ?_
  refine lv_iconst (v := 0) hx hb dd_X3_clearDraft_3 (by decide) ?_
  refine lv_aload_n hx hb dd_X3_clearDraft_4 rfl (lv_at hl 0 rfl) ?_
  refine wk_get (v := .ref (q 2)) Sx ef_3 hK hP 0 rfl rfl 1 (by decide) kk_142 rfl dd_X3_clearDraft_5 ?_
  refine lv_iconst (v := 0) hx hb dd_X3_clearDraft_8 (by decide) ?_
  refine lv_iconst (v := 5) hx hb dd_X3_clearDraft_9 (by decide) ?_
  refine va_copyx hx hb (Sx.2.2.1.trans hl.1.symm) Sx.2.2.2.1 (Sx.2.2.2.2 _ kk_612) (Sx.2.2.2.2 _ kk_468) (Sx.2.2.2.2 _ kk_467) (Sx.2.2.2.2 _ kk_15) hK hP hD hS hXa hta hnA 1 0 rfl rfl (by decide) (by decide) (by decide) (Nat.le_of_ble_eq_true rfl) (Nat.le_of_ble_eq_true rfl) (Nat.le_of_ble_eq_true rfl) (Nat.le_of_ble_eq_true rfl) dd_X3_clearDraft_10 (fun H locs hP hD hS => ?_)
  exact hc_vret Sx hr hlocks dd_X3_clearDraft_13 hS () trivial p_nil d_nil
set_option maxHeartbeats 4000000 in
set_option maxRecDepth 100000 in
theorem c_step (l : Launch) (D : va_G) (cy : Nat → ClassId) (q : Nat → Nat) : HC l my_X9_step mb_X9_step 1 ((none : Option Jvm.ClassFile.FieldType)) (rmD 1 0 0) D (TY cy) [.ref (q 0)] NX [(q 0, .inr (9, fTape q))] (QV (S := Unit) D (fun _ => True) (fun _ => [(q 0, .inr (9, fTape q))])) := by
  refine hc_intro (by decide) (Nat.le_of_ble_eq_true rfl) (fun p e s m below meth c A ls Sx hr hlocks hin hl hP hD hK hS hA hX => ?_)
  have hx := Sx.1
  have hb := Sx.2.1
  have hl : lv_has ls 1 [(0, .ref (q 0))] := hl
  have hP : va_P D cls [(q 0, .inr (9, fTape q))] s.heap := hP
  have hD : va_D A [(q 0, .inr (9, fTape q))] := hD
  refine lv_aload_n hx hb dd_X9_step_0 rfl (lv_at hl 0 rfl) ?_
  refine lv_aload_n hx hb dd_X9_step_1 rfl (lv_at hl 0 rfl) ?_
  refine wk_get (v := .int 0) Sx ef_9 hK hP 0 rfl rfl 3 (by decide) kk_42 rfl dd_X9_step_2 ?_
  refine wk_put (ws' := [(q 0, .inr (9, fTape q))]) Sx ef_9 hK hP hD hS 0 rfl rfl 2 (by decide) kk_41 rfl rfl rfl (Nat.le_of_ble_eq_true rfl) dd_X9_step_5 rfl (fun H locs hP hD hS => ?_)
  refine lv_aload_n hx hb dd_X9_step_8 rfl (lv_at hl 0 rfl) ?_
  refine wk_get (v := .int 0) Sx ef_9 hK hP 0 rfl rfl 2 (by decide) kk_41 rfl dd_X9_step_9 ?_
  refine lv_aload_n hx hb dd_X9_step_12 rfl (lv_at hl 0 rfl) ?_
  refine wk_get (v := .int 0) Sx ef_9 hK hP 0 rfl rfl 1 (by decide) kk_39 rfl dd_X9_step_13 ?_
  refine lv_icmp_ge (tgt := 46) hx hb dd_X9_step_16 (by decide) (fun _ => ?_) (fun c => absurd c (by decide))
  refine lv_aload_n hx hb dd_X9_step_46 rfl (lv_at hl 0 rfl) ?_
  refine lv_aload_n hx hb dd_X9_step_47 rfl (lv_at hl 0 rfl) ?_
  refine wk_get (v := .int 0) Sx ef_9 hK hP 0 rfl rfl 2 (by decide) kk_41 rfl dd_X9_step_48 ?_
  refine wk_put (ws' := [(q 0, .inr (9, fTape q))]) Sx ef_9 hK hP hD hS 0 rfl rfl 3 (by decide) kk_42 rfl rfl rfl (Nat.le_of_ble_eq_true rfl) dd_X9_step_51 rfl (fun H locs hP hD hS => ?_)
  refine lv_aload_n hx hb dd_X9_step_54 rfl (lv_at hl 0 rfl) ?_
  refine wk_get (v := .int 0) Sx ef_9 hK hP 0 rfl rfl 3 (by decide) kk_42 rfl dd_X9_step_55 ?_
  refine lv_aload_n hx hb dd_X9_step_58 rfl (lv_at hl 0 rfl) ?_
  refine wk_get (v := .int 0) Sx ef_9 hK hP 0 rfl rfl 1 (by decide) kk_39 rfl dd_X9_step_59 ?_
  refine lv_icmp_ge (tgt := 93) hx hb dd_X9_step_62 (by decide) (fun _ => ?_) (fun c => absurd c (by decide))
  refine lv_aload_n hx hb dd_X9_step_93 rfl (lv_at hl 0 rfl) ?_
  refine wk_get (v := .int 0) Sx ef_9 hK hP 0 rfl rfl 3 (by decide) kk_42 rfl dd_X9_step_94 ?_
  refine lv_aload_n hx hb dd_X9_step_97 rfl (lv_at hl 0 rfl) ?_
  refine wk_get (v := .int 0) Sx ef_9 hK hP 0 rfl rfl 2 (by decide) kk_41 rfl dd_X9_step_98 ?_
  refine lv_icmp_le (tgt := 105) hx hb dd_X9_step_101 (by decide) (fun _ => ?_) (fun c => absurd c (by decide))
  refine lv_aload_n hx hb dd_X9_step_105 rfl (lv_at hl 0 rfl) ?_
  refine wk_get (v := .int 0) Sx ef_9 hK hP 0 rfl rfl 3 (by decide) kk_42 rfl dd_X9_step_106 ?_
  refine lv_aload_n hx hb dd_X9_step_109 rfl (lv_at hl 0 rfl) ?_
  refine wk_get (v := .int 0) Sx ef_9 hK hP 0 rfl rfl 1 (by decide) kk_39 rfl dd_X9_step_110 ?_
  refine lv_icmp_ge (tgt := 144) hx hb dd_X9_step_113 (by decide) (fun _ => ?_) (fun c => absurd c (by decide))
  refine lv_aload_n hx hb dd_X9_step_144 rfl (lv_at hl 0 rfl) ?_
  refine wk_get (v := .int 0) Sx ef_9 hK hP 0 rfl rfl 3 (by decide) kk_42 rfl dd_X9_step_145 ?_
  refine lv_aload_n hx hb dd_X9_step_148 rfl (lv_at hl 0 rfl) ?_
  refine wk_get (v := .int 0) Sx ef_9 hK hP 0 rfl rfl 2 (by decide) kk_41 rfl dd_X9_step_149 ?_
  refine lv_icmp_ne (tgt := 176) hx hb dd_X9_step_152 (by decide) (fun c => absurd c (by decide)) (fun _ => ?_)
  refine lv_aload_n hx hb dd_X9_step_155 rfl (lv_at hl 0 rfl) ?_
  refine wk_get (v := .int 0) Sx ef_9 hK hP 0 rfl rfl 3 (by decide) kk_42 rfl dd_X9_step_156 ?_
  refine lv_aload_n hx hb dd_X9_step_159 rfl (lv_at hl 0 rfl) ?_
  refine wk_get (v := .int 0) Sx ef_9 hK hP 0 rfl rfl 1 (by decide) kk_39 rfl dd_X9_step_160 ?_
  refine lv_icmp_ge (tgt := 176) hx hb dd_X9_step_163 (by decide) (fun _ => ?_) (fun c => absurd c (by decide))
  exact hc_vret Sx hr hlocks dd_X9_step_176 hS () trivial hP hD
set_option maxHeartbeats 4000000 in
set_option maxRecDepth 100000 in
theorem c_readInto (l : Launch) (D : va_G) (cy : Nat → ClassId) (q : Nat → Nat) (t : Nat → Nat) : HC l my_X9_readInto mb_X9_readInto 5 ((some .int)) (rmD 5 0 0) D (TY cy) [.ref (q 0), .ref (t 0)] LX [(q 0, .inr (9, fTape q)), (t 0, .inr (3, fLaws t)), (t 2, .inl (cy 0, 5, .inl (fun _ => 0)))] (QI (S := Unit) D (fun r _ => r = 0) (fun _ => [(q 0, .inr (9, fTape q))])) := by
  refine hc_intro (by decide) (Nat.le_of_ble_eq_true rfl) (fun p e s m below meth c A ls Sx hr hlocks hin hl hP hD hK hS hA hX => ?_)
  have hx := Sx.1
  have hb := Sx.2.1
  have hl : lv_has ls 5 [(0, .ref (q 0)), (1, .ref (t 0))] := hl
  have hP : va_P D cls [(q 0, .inr (9, fTape q)), (t 0, .inr (3, fLaws t)), (t 2, .inl (cy 0, 5, .inl (fun _ => 0)))] s.heap := hP
  have hD : va_D A [(q 0, .inr (9, fTape q)), (t 0, .inr (3, fLaws t)), (t 2, .inl (cy 0, 5, .inl (fun _ => 0)))] := hD
  refine lv_aload_n hx hb dd_X9_readInto_0 rfl (lv_at hl 1 rfl) ?_
  refine hk_v (wr := [(q 0, .inr (9, fTape q))]) (c1 := 0) (s1 := 0) [1, 2] [0] (hc_V [] [] [1, 2] Sx hl.1 ws_Tape_25 md_X3_clearDraft (c_clearDraft l D cy t) ⟨Nat.le_of_ble_eq_true rfl, Nat.le_of_ble_eq_true rfl⟩ hP hD rfl (by decide) hK cx_b (fun U hU hW => ⟨NN.warm hW hX.1.1, at_go hS (va_free hD hS hA [1, 2] rfl) hU hW hX.2⟩) (va_recv hK hP (ci := 3) (q0 := 1) rfl rfl) rfl rfl (Nat.le_of_ble_eq_true rfl) dd_X9_readInto_1 ⟨Nat.le_of_ble_eq_true rfl, Nat.le_of_ble_eq_true rfl⟩) hS hA hP hD rfl rfl (by decide) (by decide) rfl rfl (fun u2 H locs hw3 hP hD hS => ?_)
  have hP : va_P D cls [(q 0, .inr (9, fTape q))] H := hP
  have hD : va_D A [(q 0, .inr (9, fTape q))] := hD
  refine lv_aload_n hx hb dd_X9_readInto_4 rfl (lv_at hl 0 rfl) ?_
  refine lv_iconst (v := 0) hx hb dd_X9_readInto_5 (by decide) ?_
  refine wk_put (ws' := [(q 0, .inr (9, fTape q))]) Sx ef_9 hK hP hD hS 0 rfl rfl 2 (by decide) kk_41 rfl rfl rfl (Nat.le_of_ble_eq_true rfl) dd_X9_readInto_6 rfl (fun H locs hP hD hS => ?_)
  refine lv_aload_n hx hb dd_X9_readInto_9 rfl (lv_at hl 0 rfl) ?_
  refine lv_iconst (v := 0) hx hb dd_X9_readInto_10 (by decide) ?_
  refine wk_put (ws' := [(q 0, .inr (9, fTape q))]) Sx ef_9 hK hP hD hS 0 rfl rfl 3 (by decide) kk_42 rfl rfl rfl (Nat.le_of_ble_eq_true rfl) dd_X9_readInto_11 rfl (fun H locs hP hD hS => ?_)
  refine lv_iconst (v := 0) hx hb dd_X9_readInto_14 (by decide) ?_
  refine lv_istore_n (lv' := [(2, .int 0), (0, .ref (q 0)), (1, .ref (t 0))]) hx hb dd_X9_readInto_15 rfl hl (by decide) rfl (fun ls hl => ?_)
  refine lv_iload_n hx hb dd_X9_readInto_16 rfl (lv_at hl 0 rfl) ?_
  refine lv_aload_n hx hb dd_X9_readInto_17 rfl (lv_at hl 1 rfl) ?_
  refine wk_get (v := .int 0) Sx ef_9 hK hP 0 rfl rfl 1 (by decide) kk_39 rfl dd_X9_readInto_18 ?_
  refine lv_icmp_gt (tgt := 117) hx hb dd_X9_readInto_21 (by decide) (fun c => absurd c (by decide)) (fun _ => ?_)
  refine lv_aload_n hx hb dd_X9_readInto_24 rfl (lv_at hl 1 rfl) ?_
  refine hk_v (wr := []) (c1 := 0) (s1 := 0) [0] [] (hc_V [] [] [0] Sx hl.1 ws_Tape_30 md_X9_step (c_step l D cy q) ⟨Nat.le_of_ble_eq_true rfl, Nat.le_of_ble_eq_true rfl⟩ hP hD rfl (by decide) hK nx_b (nx_w hX.1.1) (va_recv hK hP (ci := 9) (q0 := 0) rfl rfl) rfl rfl (Nat.le_of_ble_eq_true rfl) dd_X9_readInto_25 ⟨Nat.le_of_ble_eq_true rfl, Nat.le_of_ble_eq_true rfl⟩) hS hA hP hD rfl rfl (by decide) (by decide) rfl rfl (fun u5 H locs hw6 hP hD hS => ?_)
  have hP : va_P D cls [(q 0, .inr (9, fTape q))] H := hP
  have hD : va_D A [(q 0, .inr (9, fTape q))] := hD
  refine lv_aload_n hx hb dd_X9_readInto_28 rfl (lv_at hl 1 rfl) ?_
  refine pk_i (pc_V [] [] Sx hl.1 ws_Tape_33 md_X9_partNamed (c_partNamed l D cy q) ⟨rfl, rfl⟩ ⟨Nat.le_of_ble_eq_true rfl, Nat.le_of_ble_eq_true rfl⟩ (hP.sub [0] rfl) hK px_b (fun U hU hW => px_go hS (fun _ h => h.elim) hU hW hX.1) (va_recv hK hP (ci := 9) (q0 := 0) rfl rfl) rfl rfl (Nat.le_of_ble_eq_true rfl) dd_X9_readInto_29 ⟨Nat.le_of_ble_eq_true rfl, Nat.le_of_ble_eq_true rfl⟩) (fun r7 hw8 => ?_)
  subst hw8
  refine lv_istore_n (lv' := [(3, .int (-1)), (2, .int 0), (0, .ref (q 0)), (1, .ref (t 0))]) hx hb dd_X9_readInto_32 rfl hl (by decide) rfl (fun ls hl => ?_)
  refine lv_iload_n hx hb dd_X9_readInto_33 rfl (lv_at hl 0 rfl) ?_
  refine lv_iconst (v := (-1)) hx hb dd_X9_readInto_34 (by decide) ?_
  refine lv_icmp_ne (tgt := 43) hx hb dd_X9_readInto_35 (by decide) (fun c => absurd c (by decide)) (fun _ => ?_)
  refine lv_aload_n hx hb dd_X9_readInto_38 rfl (lv_at hl 2 rfl) ?_
  refine wk_get (v := .int 0) Sx ef_9 hK hP 0 rfl rfl 2 (by decide) kk_41 rfl dd_X9_readInto_39 ?_
  exact hc_ret Sx hr hlocks dd_X9_readInto_42 hS () rfl (hP.sub [0] rfl) (hD.sub [0] (by decide) rfl)
set_option maxHeartbeats 4000000 in
set_option maxRecDepth 100000 in
theorem c_X_law (l : Launch) (D : va_G) (cy : Nat → ClassId) (q : Nat → Nat) : HC l my_X11_law mb_X11_law 2 ((some .int)) (rmD 6 0 0) D (TY cy) [.ref (q 0)] LX [(q 0, .inr (11, fX q)), (q 2, .inl (cy 0, 5, .inl (fun _ => 0))), (q 3, .inr (9, fTape (fun k => q (3 + k)))), (q 5, .inr (1, fHall (fun k => q (5 + k)))), (q 18, .inr (3, fLaws (fun k => q (18 + k)))), (q 20, .inl (cy 0, 5, .inl (fun _ => 0)))] (QI (S := Unit) D (fun r _ => r = (-20)) (fun _ => [])) := by
  refine hc_intro (by decide) (Nat.le_of_ble_eq_true rfl) (fun p e s m below meth c A ls Sx hr hlocks hin hl hP hD hK hS hA hX => ?_)
  have hx := Sx.1
  have hb := Sx.2.1
  have hl : lv_has ls 2 [(0, .ref (q 0))] := hl
  have hP : va_P D cls [(q 0, .inr (11, fX q)), (q 2, .inl (cy 0, 5, .inl (fun _ => 0))), (q 3, .inr (9, fTape (fun k => q (3 + k)))), (q 5, .inr (1, fHall (fun k => q (5 + k)))), (q 18, .inr (3, fLaws (fun k => q (18 + k)))), (q 20, .inl (cy 0, 5, .inl (fun _ => 0)))] s.heap := hP
  have hD : va_D A [(q 0, .inr (11, fX q)), (q 2, .inl (cy 0, 5, .inl (fun _ => 0))), (q 3, .inr (9, fTape (fun k => q (3 + k)))), (q 5, .inr (1, fHall (fun k => q (5 + k)))), (q 18, .inr (3, fLaws (fun k => q (18 + k)))), (q 20, .inl (cy 0, 5, .inl (fun _ => 0)))] := hD
  refine lv_aload_n hx hb dd_X11_law_0 rfl (lv_at hl 0 rfl) ?_
  refine wk_get (v := .ref (q 5)) Sx ef_11 hK hP 0 rfl rfl 3 (by decide) kk_385 rfl dd_X11_law_1 ?_
  refine wk_get (v := .ref (q 18)) Sx ef_1 hK hP 3 rfl rfl 2 (by decide) kk_264 rfl dd_X11_law_4 ?_
  refine wk_get (v := .int 0) Sx ef_3 hK hP 4 rfl rfl 2 (by decide) kk_145 rfl dd_X11_law_7 ?_
  refine lv_bipush (v := 6) hx hb dd_X11_law_10 (by decide) ?_
  refine lv_icmp_lt (tgt := 22) hx hb dd_X11_law_12 (by decide) (fun _ => ?_) (fun c => absurd c (by decide))
  refine lv_aload_n hx hb dd_X11_law_22 rfl (lv_at hl 0 rfl) ?_
  refine wk_get (v := .ref (q 3)) Sx ef_11 hK hP 0 rfl rfl 2 (by decide) kk_384 rfl dd_X11_law_23 ?_
  refine lv_aload_n hx hb dd_X11_law_26 rfl (lv_at hl 0 rfl) ?_
  refine wk_get (v := .ref (q 5)) Sx ef_11 hK hP 0 rfl rfl 3 (by decide) kk_385 rfl dd_X11_law_27 ?_
  refine wk_get (v := .ref (q 18)) Sx ef_1 hK hP 3 rfl rfl 2 (by decide) kk_264 rfl dd_X11_law_30 ?_
  refine hk_i (wr := [(q 0, .inr (11, fX q)), (q 2, .inl (cy 0, 5, .inl (fun _ => 0))), (q 5, .inr (1, fHall (fun k => q (5 + k))))]) (c1 := 0) (s1 := 0) [2, 4, 5] [0, 1, 3] (hc_V [.ref (q 18)] [] [2, 4, 5] Sx hl.1 ws_X_193 md_X9_readInto (c_readInto l D cy (fun k => q (3 + k)) (fun k => q (18 + k))) ⟨Nat.le_of_ble_eq_true rfl, Nat.le_of_ble_eq_true rfl⟩ hP hD rfl (by decide) hK lx_b (fun U hU hW => ⟨px_go hS (va_free hD hS hA [2, 4, 5] rfl) hU hW hX.1, at_go hS (va_free hD hS hA [2, 4, 5] rfl) hU hW hX.2⟩) (va_recv hK hP (ci := 9) (q0 := 2) rfl rfl) rfl rfl (Nat.le_of_ble_eq_true rfl) dd_X11_law_33 ⟨Nat.le_of_ble_eq_true rfl, Nat.le_of_ble_eq_true rfl⟩) hS hA hP hD rfl rfl (by decide) (by decide) rfl rfl (fun r1 u2 H locs hw3 hP hD hS => ?_)
  have hP : va_P D cls [(q 0, .inr (11, fX q)), (q 2, .inl (cy 0, 5, .inl (fun _ => 0))), (q 5, .inr (1, fHall (fun k => q (5 + k)))), (q 3, .inr (9, fTape (fun k => q (3 + k))))] H := hP
  have hD : va_D A [(q 0, .inr (11, fX q)), (q 2, .inl (cy 0, 5, .inl (fun _ => 0))), (q 5, .inr (1, fHall (fun k => q (5 + k)))), (q 3, .inr (9, fTape (fun k => q (3 + k))))] := hD
  subst hw3
  refine lv_istore_n (lv' := [(1, .int 0), (0, .ref (q 0))]) hx hb dd_X11_law_36 rfl hl (by decide) rfl (fun ls hl => ?_)
  refine lv_aload_n hx hb dd_X11_law_37 rfl (lv_at hl 1 rfl) ?_
  refine wk_get (v := .ref (q 3)) Sx ef_11 hK hP 0 rfl rfl 2 (by decide) kk_384 rfl dd_X11_law_38 ?_
  refine lv_iconst (v := 0) hx hb dd_X11_law_41 (by decide) ?_
  refine wk_put (ws' := [(q 0, .inr (11, fX q)), (q 2, .inl (cy 0, 5, .inl (fun _ => 0))), (q 5, .inr (1, fHall (fun k => q (5 + k)))), (q 3, .inr (9, fTape (fun k => q (3 + k))))]) Sx ef_9 hK hP hD hS 3 rfl rfl 1 (by decide) kk_40 rfl rfl rfl (Nat.le_of_ble_eq_true rfl) dd_X11_law_42 rfl (fun H locs hP hD hS => ?_)
  refine lv_iload_n hx hb dd_X11_law_45 rfl (lv_at hl 0 rfl) ?_
  refine lv_iconst (v := (-1)) hx hb dd_X11_law_46 (by decide) ?_
  refine lv_icmp_ne (tgt := 61) hx hb dd_X11_law_47 (by decide) (fun _ => ?_) (fun c => absurd c (by decide))
  refine lv_aload_n hx hb dd_X11_law_61 rfl (lv_at hl 1 rfl) ?_
  refine lv_bipush (v := (-2)) hx hb dd_X11_law_62 (by decide) ?_
  refine hk_i (wr := [(q 5, .inr (1, fHall (fun k => q (5 + k)))), (q 3, .inr (9, fTape (fun k => q (3 + k))))]) (c1 := 0) (s1 := 0) [0, 1] [2, 3] (hc_V [.int (-2)] [] [0, 1] Sx hl.1 ws_X_63 md_X11_refuse (c_refuse_2 l D cy q) ⟨Nat.le_of_ble_eq_true rfl, Nat.le_of_ble_eq_true rfl⟩ hP hD rfl (by decide) hK nx_b (nx_w hX.1.1) (va_recv hK hP (ci := 11) (q0 := 0) rfl rfl) rfl rfl (Nat.le_of_ble_eq_true rfl) dd_X11_law_64 ⟨Nat.le_of_ble_eq_true rfl, Nat.le_of_ble_eq_true rfl⟩) hS hA hP hD rfl rfl (by decide) (by decide) rfl rfl (fun r4 u5 H locs hw6 hP hD hS => ?_)
  have hP : va_P D cls [(q 5, .inr (1, fHall (fun k => q (5 + k)))), (q 3, .inr (9, fTape (fun k => q (3 + k))))] H := hP
  have hD : va_D A [(q 5, .inr (1, fHall (fun k => q (5 + k)))), (q 3, .inr (9, fTape (fun k => q (3 + k))))] := hD
  subst hw6
  refine lv_pop hx hb dd_X11_law_67 rfl ?_
  refine lv_bipush (v := (-20)) hx hb dd_X11_law_68 (by decide) ?_
  refine lv_iload_n hx hb dd_X11_law_70 rfl (lv_at hl 0 rfl) ?_
  refine lv_isub hx hb dd_X11_law_71 ?_
  refine wk_int (v := (-20)) (by decide) ?_
  exact hc_ret Sx hr hlocks dd_X11_law_72 hS () rfl p_nil d_nil
set_option maxHeartbeats 4000000 in
set_option maxRecDepth 100000 in
theorem c_M_read (l : Launch) (D : va_G) (cy : Nat → ClassId) (q : Nat → Nat) : HC l my_X12_read mb_X12_read 7 ((some .int)) (rmD 1 0 0) D (TY cy) [.ref (q 60), .int 0] NX [(q 60, .inr (12, fM q)), (q 15, .inl (cy 0, 30, .inl (fun _ => 0)))] (QI (S := Unit) D (fun r _ => r = 0) (fun _ => [(q 60, .inr (12, fM q))])) := by
  refine hc_intro (by decide) (Nat.le_of_ble_eq_true rfl) (fun p e s m below meth c A ls Sx hr hlocks hin hl hP hD hK hS hA hX => ?_)
  have hx := Sx.1
  have hb := Sx.2.1
  have hl : lv_has ls 7 [(0, .ref (q 60)), (1, .int 0)] := hl
  have hP : va_P D cls [(q 60, .inr (12, fM q)), (q 15, .inl (cy 0, 30, .inl (fun _ => 0)))] s.heap := hP
  have hD : va_D A [(q 60, .inr (12, fM q)), (q 15, .inl (cy 0, 30, .inl (fun _ => 0)))] := hD
  refine lv_aload_n hx hb dd_X12_read_0 rfl (lv_at hl 0 rfl) ?_
  refine wk_get (v := .ref (q 15)) Sx ef_12 hK hP 0 rfl rfl 15 (by decide) kk_1116 rfl dd_X12_read_1 ?_
  refine lv_iload_n hx hb dd_X12_read_4 rfl (lv_at hl 1 rfl) ?_
  refine lv_bipush (v := 100) hx hb dd_X12_read_5 (by decide) ?_
  refine wk_iast (ws' := [(q 60, .inr (12, fM q)), (q 15, .inl (cy 0, 30, .inl (upd (fun _ => 0) (0 : Int32).toNatClampNeg 100)))]) Sx hK hP hD hS 1 0 rfl rfl (vi_of (by decide)) dd_X12_read_7 rfl (fun H locs hP hD hS => ?_)
  refine lv_aload_n hx hb dd_X12_read_8 rfl (lv_at hl 0 rfl) ?_
  refine wk_get (v := .ref (q 15)) Sx ef_12 hK hP 0 rfl rfl 15 (by decide) kk_1116 rfl dd_X12_read_9 ?_
  refine lv_iload_n hx hb dd_X12_read_12 rfl (lv_at hl 1 rfl) ?_
  refine lv_iconst (v := 1) hx hb dd_X12_read_13 (by decide) ?_
  refine lv_iadd hx hb dd_X12_read_14 ?_
  refine wk_int (v := 1) (by decide) ?_
  refine lv_bipush (v := 50) hx hb dd_X12_read_15 (by decide) ?_
  refine wk_iast (ws' := [(q 60, .inr (12, fM q)), (q 15, .inl (cy 0, 30, .inl (upd (upd (fun _ => 0) (0 : Int32).toNatClampNeg 100) (1 : Int32).toNatClampNeg 50)))]) Sx hK hP hD hS 1 0 rfl rfl (vi_of (by decide)) dd_X12_read_17 rfl (fun H locs hP hD hS => ?_)
  refine lv_aload_n hx hb dd_X12_read_18 rfl (lv_at hl 0 rfl) ?_
  refine wk_get (v := .ref (q 15)) Sx ef_12 hK hP 0 rfl rfl 15 (by decide) kk_1116 rfl dd_X12_read_19 ?_
  refine lv_iload_n hx hb dd_X12_read_22 rfl (lv_at hl 1 rfl) ?_
  refine lv_iconst (v := 2) hx hb dd_X12_read_23 (by decide) ?_
  refine lv_iadd hx hb dd_X12_read_24 ?_
  refine wk_int (v := 2) (by decide) ?_
  refine lv_iconst (v := 1) hx hb dd_X12_read_25 (by decide) ?_
  refine wk_iast (ws' := [(q 60, .inr (12, fM q)), (q 15, .inl (cy 0, 30, .inl (upd (upd (upd (fun _ => 0) (0 : Int32).toNatClampNeg 100) (1 : Int32).toNatClampNeg 50) (2 : Int32).toNatClampNeg 1)))]) Sx hK hP hD hS 1 0 rfl rfl (vi_of (by decide)) dd_X12_read_26 rfl (fun H locs hP hD hS => ?_)
  refine lv_aload_n hx hb dd_X12_read_27 rfl (lv_at hl 0 rfl) ?_
  refine wk_get (v := .ref (q 15)) Sx ef_12 hK hP 0 rfl rfl 15 (by decide) kk_1116 rfl dd_X12_read_28 ?_
  refine lv_iload_n hx hb dd_X12_read_31 rfl (lv_at hl 1 rfl) ?_
  refine lv_iconst (v := 3) hx hb dd_X12_read_32 (by decide) ?_
  refine lv_iadd hx hb dd_X12_read_33 ?_
  refine wk_int (v := 3) (by decide) ?_
  refine lv_iconst (v := 0) hx hb dd_X12_read_34 (by decide) ?_
  refine wk_iast (ws' := [(q 60, .inr (12, fM q)), (q 15, .inl (cy 0, 30, .inl (upd (upd (upd (upd (fun _ => 0) (0 : Int32).toNatClampNeg 100) (1 : Int32).toNatClampNeg 50) (2 : Int32).toNatClampNeg 1) (3 : Int32).toNatClampNeg 0)))]) Sx hK hP hD hS 1 0 rfl rfl (vi_of (by decide)) dd_X12_read_35 rfl (fun H locs hP hD hS => ?_)
  refine lv_aload_n hx hb dd_X12_read_36 rfl (lv_at hl 0 rfl) ?_
  refine wk_get (v := .ref (q 15)) Sx ef_12 hK hP 0 rfl rfl 15 (by decide) kk_1116 rfl dd_X12_read_37 ?_
  refine lv_iload_n hx hb dd_X12_read_40 rfl (lv_at hl 1 rfl) ?_
  refine lv_iconst (v := 4) hx hb dd_X12_read_41 (by decide) ?_
  refine lv_iadd hx hb dd_X12_read_42 ?_
  refine wk_int (v := 4) (by decide) ?_
  refine lv_sipush (v := 999) hx hb dd_X12_read_43 (by decide) ?_
  refine wk_iast (ws' := [(q 60, .inr (12, fM q)), (q 15, .inl (cy 0, 30, .inl (upd (upd (upd (upd (upd (fun _ => 0) (0 : Int32).toNatClampNeg 100) (1 : Int32).toNatClampNeg 50) (2 : Int32).toNatClampNeg 1) (3 : Int32).toNatClampNeg 0) (4 : Int32).toNatClampNeg 999)))]) Sx hK hP hD hS 1 0 rfl rfl (vi_of (by decide)) dd_X12_read_46 rfl (fun H locs hP hD hS => ?_)
  refine lv_iconst (v := 0) hx hb dd_X12_read_47 (by decide) ?_
  refine lv_istore_n (lv' := [(2, .int 0), (0, .ref (q 60)), (1, .int 0)]) hx hb dd_X12_read_48 rfl hl (by decide) rfl (fun ls hl => ?_)
  refine lv_iconst (v := 0) hx hb dd_X12_read_49 (by decide) ?_
  refine lv_istore_n (lv' := [(3, .int 0), (2, .int 0), (0, .ref (q 60)), (1, .int 0)]) hx hb dd_X12_read_50 rfl hl (by decide) rfl (fun ls hl => ?_)
  refine lv_iconst (v := 0) hx hb dd_X12_read_51 (by decide) ?_
  refine lv_istore (lv' := [(4, .int 0), (3, .int 0), (2, .int 0), (0, .ref (q 60)), (1, .int 0)]) hx hb dd_X12_read_52 hl (by decide) rfl (fun ls hl => ?_)
  refine lv_iload_n hx hb dd_X12_read_54 rfl (lv_at hl 2 rfl) ?_
  refine lv_aload_n hx hb dd_X12_read_55 rfl (lv_at hl 3 rfl) ?_
  refine wk_get (v := .int 0) Sx ef_12 hK hP 0 rfl rfl 16 (by decide) kk_1117 rfl dd_X12_read_56 ?_
  refine lv_icmp_ge (tgt := 79) hx hb dd_X12_read_59 (by decide) (fun _ => ?_) (fun c => absurd c (by decide))
  refine lv_iload_n hx hb dd_X12_read_79 rfl (lv_at hl 2 rfl) ?_
  refine lv_aload_n hx hb dd_X12_read_80 rfl (lv_at hl 3 rfl) ?_
  refine wk_get (v := .int 0) Sx ef_12 hK hP 0 rfl rfl 16 (by decide) kk_1117 rfl dd_X12_read_81 ?_
  refine lv_icmp_ne (tgt := 101) hx hb dd_X12_read_84 (by decide) (fun c => absurd c (by decide)) (fun _ => ?_)
  refine lv_iload_n hx hb dd_X12_read_87 rfl (lv_at hl 1 rfl) ?_
  refine lv_iconst (v := 2) hx hb dd_X12_read_88 (by decide) ?_
  refine lv_icmp_ne (tgt := 96) hx hb dd_X12_read_89 (by decide) (fun _ => ?_) (fun c => absurd c (by decide))
  refine lv_aload_n hx hb dd_X12_read_96 rfl (lv_at hl 3 rfl) ?_
  refine wk_get (v := .int 0) Sx ef_12 hK hP 0 rfl rfl 16 (by decide) kk_1117 rfl dd_X12_read_97 ?_
  exact hc_ret Sx hr hlocks dd_X12_read_100 hS () rfl (hP.sub [0] rfl) (hD.sub [0] (by decide) rfl)
set_option maxHeartbeats 4000000 in
set_option maxRecDepth 100000 in
theorem c_M_pub_law (l : Launch) (D : va_G) (cy : Nat → ClassId) (q : Nat → Nat) : HC l my_X12_law mb_X12_law 2 ((some .int)) (rmD 2 0 0) D (TY cy) [.ref (q 60)] NX [(q 60, .inr (12, fM q)), (q 15, .inl (cy 0, 30, .inl (fun _ => 0))), (q 36, .inl (cy 0, 7, .inl (fun _ => 0)))] (QI (S := Unit) D (fun r _ => r = (-20)) (fun _ => [])) := by
  refine hc_intro (by decide) (Nat.le_of_ble_eq_true rfl) (fun p e s m below meth c A ls Sx hr hlocks hin hl hP hD hK hS hA hX => ?_)
  have hx := Sx.1
  have hb := Sx.2.1
  have hl : lv_has ls 2 [(0, .ref (q 60))] := hl
  have hP : va_P D cls [(q 60, .inr (12, fM q)), (q 15, .inl (cy 0, 30, .inl (fun _ => 0))), (q 36, .inl (cy 0, 7, .inl (fun _ => 0)))] s.heap := hP
  have hD : va_D A [(q 60, .inr (12, fM q)), (q 15, .inl (cy 0, 30, .inl (fun _ => 0))), (q 36, .inl (cy 0, 7, .inl (fun _ => 0)))] := hD
  refine lv_aload_n hx hb dd_X12_law_0 rfl (lv_at hl 0 rfl) ?_
  refine wk_get (v := .int 0) Sx ef_12 hK hP 0 rfl rfl 14 (by decide) kk_1115 rfl dd_X12_law_1 ?_
  refine lv_bipush (v := 6) hx hb dd_X12_law_4 (by decide) ?_
  refine lv_icmp_ne (tgt := 16) hx hb dd_X12_law_6 (by decide) (fun _ => ?_) (fun c => absurd c (by decide))
  refine lv_aload_n hx hb dd_X12_law_16 rfl (lv_at hl 0 rfl) ?_
  refine lv_iconst (v := 5) hx hb dd_X12_law_17 (by decide) ?_
  refine lv_aload_n hx hb dd_X12_law_18 rfl (lv_at hl 0 rfl) ?_
  refine wk_get (v := .int 0) Sx ef_12 hK hP 0 rfl rfl 14 (by decide) kk_1115 rfl dd_X12_law_19 ?_
  refine lv_imul hx hb dd_X12_law_22 ?_
  refine wk_int (v := 0) (by decide) ?_
  refine hk_i (wr := [(q 36, .inl (cy 0, 7, .inl (fun _ => 0)))]) (c1 := 0) (s1 := 0) [0, 1] [2] (hc_V [.int 0] [] [0, 1] Sx hl.1 ws_M_239 md_X12_read (c_M_read l D cy q) ⟨Nat.le_of_ble_eq_true rfl, Nat.le_of_ble_eq_true rfl⟩ hP hD rfl (by decide) hK nx_b (nx_w hX) (va_recv hK hP (ci := 12) (q0 := 0) rfl rfl) rfl rfl (Nat.le_of_ble_eq_true rfl) dd_X12_law_23 ⟨Nat.le_of_ble_eq_true rfl, Nat.le_of_ble_eq_true rfl⟩) hS hA hP hD rfl rfl (by decide) (by decide) rfl rfl (fun r1 u2 H locs hw3 hP hD hS => ?_)
  have hP : va_P D cls [(q 36, .inl (cy 0, 7, .inl (fun _ => 0))), (q 60, .inr (12, fM q))] H := hP
  have hD : va_D A [(q 36, .inl (cy 0, 7, .inl (fun _ => 0))), (q 60, .inr (12, fM q))] := hD
  subst hw3
  refine lv_istore_n (lv' := [(1, .int 0), (0, .ref (q 60))]) hx hb dd_X12_law_26 rfl hl (by decide) rfl (fun ls hl => ?_)
  refine lv_aload_n hx hb dd_X12_law_27 rfl (lv_at hl 1 rfl) ?_
  refine lv_iconst (v := 0) hx hb dd_X12_law_28 (by decide) ?_
  refine wk_put (ws' := [(q 36, .inl (cy 0, 7, .inl (fun _ => 0))), (q 60, .inr (12, fM q))]) Sx ef_12 hK hP hD hS 1 rfl rfl 16 (by decide) kk_1117 rfl rfl rfl (Nat.le_of_ble_eq_true rfl) dd_X12_law_29 rfl (fun H locs hP hD hS => ?_)
  refine lv_iload_n hx hb dd_X12_law_32 rfl (lv_at hl 0 rfl) ?_
  refine lv_if_lt (tgt := 48) hx hb dd_X12_law_33 (by decide) (fun c => absurd c (by decide)) (fun _ => ?_)
  refine lv_aload_n hx hb dd_X12_law_36 rfl (lv_at hl 1 rfl) ?_
  refine lv_bipush (v := (-2)) hx hb dd_X12_law_37 (by decide) ?_
  refine hk_i (wr := []) (c1 := 0) (s1 := 0) [1, 0] [] (hc_V [.int (-2)] [] [1, 0] Sx hl.1 ws_M_152 md_X12_no (c_M_no_2 l D cy q) ⟨Nat.le_of_ble_eq_true rfl, Nat.le_of_ble_eq_true rfl⟩ hP hD rfl (by decide) hK nx_b (nx_w hX) (va_recv hK hP (ci := 12) (q0 := 1) rfl rfl) rfl rfl (Nat.le_of_ble_eq_true rfl) dd_X12_law_39 ⟨Nat.le_of_ble_eq_true rfl, Nat.le_of_ble_eq_true rfl⟩) hS hA hP hD rfl rfl (by decide) (by decide) rfl rfl (fun r4 u5 H locs hw6 hP hD hS => ?_)
  have hP : va_P D cls [] H := hP
  have hD : va_D A [] := hD
  subst hw6
  refine lv_pop hx hb dd_X12_law_42 rfl ?_
  refine lv_bipush (v := (-20)) hx hb dd_X12_law_43 (by decide) ?_
  refine lv_iload_n hx hb dd_X12_law_45 rfl (lv_at hl 0 rfl) ?_
  refine lv_isub hx hb dd_X12_law_46 ?_
  refine wk_int (v := (-20)) (by decide) ?_
  exact hc_ret Sx hr hlocks dd_X12_law_47 hS () rfl p_nil d_nil
