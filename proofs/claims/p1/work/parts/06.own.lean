set_option maxHeartbeats 4000000 in
set_option maxRecDepth 100000 in
theorem c_refuse_2 (l : Launch) (D : va_G) (cy : Nat → ClassId) (q : Nat → Nat) : HC l my_X11_refuse mb_X11_refuse 3 ((some .int)) (rmD 2 0 0) D (TY cy) [.ref (q 0), .int (-2)] NX [(q 0, .inr (11, fX q)), (q 2, .inl (cy 0, 5, .inl (fun _ => 0)))] (QI (S := Unit) D (fun r _ => r = (-2)) (fun _ => [])) := by
  refine hc_intro (by decide) (Nat.le_of_ble_eq_true rfl) (fun p e s m below meth c A ls Sx hr hlocks hin hl hP hD hK hS hA hX => ?_)
  have hx := Sx.1
  have hb := Sx.2.1
  have hl : lv_has ls 3 [(0, .ref (q 0)), (1, .int (-2))] := hl
  have hP : va_P D cls [(q 0, .inr (11, fX q)), (q 2, .inl (cy 0, 5, .inl (fun _ => 0)))] s.heap := hP
  have hD : va_D A [(q 0, .inr (11, fX q)), (q 2, .inl (cy 0, 5, .inl (fun _ => 0)))] := hD
  refine lv_bipush (v := (-2)) hx hb dd_X11_refuse_0 (by decide) ?_
  refine lv_iload_n hx hb dd_X11_refuse_2 rfl (lv_at hl 1 rfl) ?_
  refine lv_isub hx hb dd_X11_refuse_3 ?_
  refine wk_int (v := 0) (by decide) ?_
  refine lv_istore_n (lv' := [(2, .int 0), (0, .ref (q 0)), (1, .int (-2))]) hx hb dd_X11_refuse_4 rfl hl (by decide) rfl (fun ls hl => ?_)
  refine lv_iload_n hx hb dd_X11_refuse_5 rfl (lv_at hl 0 rfl) ?_
  refine lv_iconst (v := 0) hx hb dd_X11_refuse_6 (by decide) ?_
  refine lv_iconst (v := 4) hx hb dd_X11_refuse_7 (by decide) ?_
  refine pk_i (pc_T [.int 0, .int 0, .int 4] [] Sx hl.1 ws_X_59 md_X11_within (c_within l D cy 0 0 4) ⟨rfl, rfl⟩ ⟨Nat.le_of_ble_eq_true rfl, Nat.le_of_ble_eq_true rfl⟩ p_nil hK ns_b (ns_w hX) rfl rfl (Nat.le_of_ble_eq_true rfl) dd_X11_refuse_8 ⟨Nat.le_of_ble_eq_true rfl, Nat.le_of_ble_eq_true rfl⟩) (fun r1 hw2 => ?_)
  rcases hw2 with ⟨hw2, ehw2⟩ | ⟨hw2, ehw2⟩
  · have hl3 : Int32.toInt 0 = 0 := rfl
    have hl4 : Int32.toInt 4 = 4 := rfl
    subst ehw2
    refine lv_if_eq (tgt := 24) hx hb dd_X11_refuse_11 (by decide) (fun c => absurd c (by decide)) (fun _ => ?_)
    refine lv_aload_n hx hb dd_X11_refuse_14 rfl (lv_at hl 1 rfl) ?_
    refine wk_get (v := .ref (q 2)) Sx ef_11 hK hP 0 rfl rfl 1 (by decide) kk_383 rfl dd_X11_refuse_15 ?_
    refine lv_iload_n hx hb dd_X11_refuse_18 rfl (lv_at hl 0 rfl) ?_
    refine lv_dup2_11 hx hb dd_X11_refuse_19 rfl rfl ?_
    have hi5 : vp_in 0 5 := (vi_of (by decide))
    refine va_iald hx hb hK hP 1 0 rfl rfl hi5 dd_X11_refuse_20 ?_
    refine wk_int (v := 0) rfl ?_
    refine lv_iconst (v := 1) hx hb dd_X11_refuse_21 (by decide) ?_
    refine lv_iadd hx hb dd_X11_refuse_22 ?_
    refine wk_int (v := 1) (by decide) ?_
    refine wk_iast (ws' := [(q 0, .inr (11, fX q)), (q 2, .inl (cy 0, 5, .inl (upd (fun _ => 0) (0 : Int32).toNatClampNeg 1)))]) Sx hK hP hD hS 1 0 rfl rfl (vi_of (by decide)) dd_X11_refuse_23 rfl (fun H locs hP hD hS => ?_)
    refine lv_iload_n hx hb dd_X11_refuse_24 rfl (lv_at hl 2 rfl) ?_
    exact hc_ret Sx hr hlocks dd_X11_refuse_25 hS () rfl p_nil d_nil
  · have hl6 : Int32.toInt 0 = 0 := rfl
    have hl7 : Int32.toInt 4 = 4 := rfl
    exfalso; omega
set_option maxHeartbeats 4000000 in
set_option maxRecDepth 100000 in
theorem c_refuse_4 (l : Launch) (D : va_G) (cy : Nat → ClassId) (q : Nat → Nat) : HC l my_X11_refuse mb_X11_refuse 3 ((some .int)) (rmD 2 0 0) D (TY cy) [.ref (q 0), .int (-4)] NX [(q 0, .inr (11, fX q)), (q 2, .inl (cy 0, 5, .inl (fun _ => 0)))] (QI (S := Unit) D (fun r _ => r = (-4)) (fun _ => [])) := by
  refine hc_intro (by decide) (Nat.le_of_ble_eq_true rfl) (fun p e s m below meth c A ls Sx hr hlocks hin hl hP hD hK hS hA hX => ?_)
  have hx := Sx.1
  have hb := Sx.2.1
  have hl : lv_has ls 3 [(0, .ref (q 0)), (1, .int (-4))] := hl
  have hP : va_P D cls [(q 0, .inr (11, fX q)), (q 2, .inl (cy 0, 5, .inl (fun _ => 0)))] s.heap := hP
  have hD : va_D A [(q 0, .inr (11, fX q)), (q 2, .inl (cy 0, 5, .inl (fun _ => 0)))] := hD
  refine lv_bipush (v := (-2)) hx hb dd_X11_refuse_0 (by decide) ?_
  refine lv_iload_n hx hb dd_X11_refuse_2 rfl (lv_at hl 1 rfl) ?_
  refine lv_isub hx hb dd_X11_refuse_3 ?_
  refine wk_int (v := 2) (by decide) ?_
  refine lv_istore_n (lv' := [(2, .int 2), (0, .ref (q 0)), (1, .int (-4))]) hx hb dd_X11_refuse_4 rfl hl (by decide) rfl (fun ls hl => ?_)
  refine lv_iload_n hx hb dd_X11_refuse_5 rfl (lv_at hl 0 rfl) ?_
  refine lv_iconst (v := 0) hx hb dd_X11_refuse_6 (by decide) ?_
  refine lv_iconst (v := 4) hx hb dd_X11_refuse_7 (by decide) ?_
  refine pk_i (pc_T [.int 2, .int 0, .int 4] [] Sx hl.1 ws_X_59 md_X11_within (c_within l D cy 2 0 4) ⟨rfl, rfl⟩ ⟨Nat.le_of_ble_eq_true rfl, Nat.le_of_ble_eq_true rfl⟩ p_nil hK ns_b (ns_w hX) rfl rfl (Nat.le_of_ble_eq_true rfl) dd_X11_refuse_8 ⟨Nat.le_of_ble_eq_true rfl, Nat.le_of_ble_eq_true rfl⟩) (fun r1 hw2 => ?_)
  rcases hw2 with ⟨hw2, ehw2⟩ | ⟨hw2, ehw2⟩
  · have hl3 : Int32.toInt 0 = 0 := rfl
    have hl4 : Int32.toInt 2 = 2 := rfl
    have hl5 : Int32.toInt 4 = 4 := rfl
    subst ehw2
    refine lv_if_eq (tgt := 24) hx hb dd_X11_refuse_11 (by decide) (fun c => absurd c (by decide)) (fun _ => ?_)
    refine lv_aload_n hx hb dd_X11_refuse_14 rfl (lv_at hl 1 rfl) ?_
    refine wk_get (v := .ref (q 2)) Sx ef_11 hK hP 0 rfl rfl 1 (by decide) kk_383 rfl dd_X11_refuse_15 ?_
    refine lv_iload_n hx hb dd_X11_refuse_18 rfl (lv_at hl 0 rfl) ?_
    refine lv_dup2_11 hx hb dd_X11_refuse_19 rfl rfl ?_
    have hi6 : vp_in 2 5 := (vi_of (by decide))
    refine va_iald hx hb hK hP 1 0 rfl rfl hi6 dd_X11_refuse_20 ?_
    refine wk_int (v := 0) rfl ?_
    refine lv_iconst (v := 1) hx hb dd_X11_refuse_21 (by decide) ?_
    refine lv_iadd hx hb dd_X11_refuse_22 ?_
    refine wk_int (v := 1) (by decide) ?_
    refine wk_iast (ws' := [(q 0, .inr (11, fX q)), (q 2, .inl (cy 0, 5, .inl (upd (fun _ => 0) (2 : Int32).toNatClampNeg 1)))]) Sx hK hP hD hS 1 0 rfl rfl (vi_of (by decide)) dd_X11_refuse_23 rfl (fun H locs hP hD hS => ?_)
    refine lv_iload_n hx hb dd_X11_refuse_24 rfl (lv_at hl 2 rfl) ?_
    exact hc_ret Sx hr hlocks dd_X11_refuse_25 hS () rfl p_nil d_nil
  · have hl7 : Int32.toInt 0 = 0 := rfl
    have hl8 : Int32.toInt 2 = 2 := rfl
    have hl9 : Int32.toInt 4 = 4 := rfl
    exfalso; omega
set_option maxHeartbeats 4000000 in
set_option maxRecDepth 100000 in
theorem c_refuse_5 (l : Launch) (D : va_G) (cy : Nat → ClassId) (q : Nat → Nat) : HC l my_X11_refuse mb_X11_refuse 3 ((some .int)) (rmD 2 0 0) D (TY cy) [.ref (q 0), .int (-5)] NX [(q 0, .inr (11, fX q)), (q 2, .inl (cy 0, 5, .inl (fun _ => 0)))] (QI (S := Unit) D (fun r _ => r = (-5)) (fun _ => [])) := by
  refine hc_intro (by decide) (Nat.le_of_ble_eq_true rfl) (fun p e s m below meth c A ls Sx hr hlocks hin hl hP hD hK hS hA hX => ?_)
  have hx := Sx.1
  have hb := Sx.2.1
  have hl : lv_has ls 3 [(0, .ref (q 0)), (1, .int (-5))] := hl
  have hP : va_P D cls [(q 0, .inr (11, fX q)), (q 2, .inl (cy 0, 5, .inl (fun _ => 0)))] s.heap := hP
  have hD : va_D A [(q 0, .inr (11, fX q)), (q 2, .inl (cy 0, 5, .inl (fun _ => 0)))] := hD
  refine lv_bipush (v := (-2)) hx hb dd_X11_refuse_0 (by decide) ?_
  refine lv_iload_n hx hb dd_X11_refuse_2 rfl (lv_at hl 1 rfl) ?_
  refine lv_isub hx hb dd_X11_refuse_3 ?_
  refine wk_int (v := 3) (by decide) ?_
  refine lv_istore_n (lv' := [(2, .int 3), (0, .ref (q 0)), (1, .int (-5))]) hx hb dd_X11_refuse_4 rfl hl (by decide) rfl (fun ls hl => ?_)
  refine lv_iload_n hx hb dd_X11_refuse_5 rfl (lv_at hl 0 rfl) ?_
  refine lv_iconst (v := 0) hx hb dd_X11_refuse_6 (by decide) ?_
  refine lv_iconst (v := 4) hx hb dd_X11_refuse_7 (by decide) ?_
  refine pk_i (pc_T [.int 3, .int 0, .int 4] [] Sx hl.1 ws_X_59 md_X11_within (c_within l D cy 3 0 4) ⟨rfl, rfl⟩ ⟨Nat.le_of_ble_eq_true rfl, Nat.le_of_ble_eq_true rfl⟩ p_nil hK ns_b (ns_w hX) rfl rfl (Nat.le_of_ble_eq_true rfl) dd_X11_refuse_8 ⟨Nat.le_of_ble_eq_true rfl, Nat.le_of_ble_eq_true rfl⟩) (fun r1 hw2 => ?_)
  rcases hw2 with ⟨hw2, ehw2⟩ | ⟨hw2, ehw2⟩
  · have hl3 : Int32.toInt 0 = 0 := rfl
    have hl4 : Int32.toInt 3 = 3 := rfl
    have hl5 : Int32.toInt 4 = 4 := rfl
    subst ehw2
    refine lv_if_eq (tgt := 24) hx hb dd_X11_refuse_11 (by decide) (fun c => absurd c (by decide)) (fun _ => ?_)
    refine lv_aload_n hx hb dd_X11_refuse_14 rfl (lv_at hl 1 rfl) ?_
    refine wk_get (v := .ref (q 2)) Sx ef_11 hK hP 0 rfl rfl 1 (by decide) kk_383 rfl dd_X11_refuse_15 ?_
    refine lv_iload_n hx hb dd_X11_refuse_18 rfl (lv_at hl 0 rfl) ?_
    refine lv_dup2_11 hx hb dd_X11_refuse_19 rfl rfl ?_
    have hi6 : vp_in 3 5 := (vi_of (by decide))
    refine va_iald hx hb hK hP 1 0 rfl rfl hi6 dd_X11_refuse_20 ?_
    refine wk_int (v := 0) rfl ?_
    refine lv_iconst (v := 1) hx hb dd_X11_refuse_21 (by decide) ?_
    refine lv_iadd hx hb dd_X11_refuse_22 ?_
    refine wk_int (v := 1) (by decide) ?_
    refine wk_iast (ws' := [(q 0, .inr (11, fX q)), (q 2, .inl (cy 0, 5, .inl (upd (fun _ => 0) (3 : Int32).toNatClampNeg 1)))]) Sx hK hP hD hS 1 0 rfl rfl (vi_of (by decide)) dd_X11_refuse_23 rfl (fun H locs hP hD hS => ?_)
    refine lv_iload_n hx hb dd_X11_refuse_24 rfl (lv_at hl 2 rfl) ?_
    exact hc_ret Sx hr hlocks dd_X11_refuse_25 hS () rfl p_nil d_nil
  · have hl7 : Int32.toInt 0 = 0 := rfl
    have hl8 : Int32.toInt 3 = 3 := rfl
    have hl9 : Int32.toInt 4 = 4 := rfl
    exfalso; omega
set_option maxHeartbeats 4000000 in
set_option maxRecDepth 100000 in
theorem c_refusalOfRow (l : Launch) (D : va_G) (cy : Nat → ClassId) (q : Nat → Nat) (sf : Int32) : PC l my_X11_refusalOfRow mb_X11_refusalOfRow 2 ((some .int)) (rmD 3 0 0) D (TY cy) [.ref (q 0), .int sf] NS [(q 0, .inr (11, fX q)), (q 1, .inl (cy 4, 8, .inr (.inr (.inr (.inr (shv q)))))), (q 97, .inr (7, fShelf (fun k => q (97 + k)))), (q 98, .inl (cy 2, 40, .inr (.inl (fun _ => 0)))), (q 99, .inr (7, fShelf (fun k => q (99 + k)))), (q 100, .inl (cy 2, 40, .inr (.inl (fun _ => 0)))), (q 101, .inr (7, fShelf (fun k => q (101 + k)))), (q 102, .inl (cy 2, 40, .inr (.inl (fun _ => 0)))), (q 103, .inr (7, fShelf (fun k => q (103 + k)))), (q 104, .inl (cy 2, 40, .inr (.inl (fun _ => 0)))), (q 105, .inr (7, fShelf (fun k => q (105 + k)))), (q 106, .inl (cy 2, 40, .inr (.inl (fun _ => 0)))), (q 107, .inr (7, fShelf (fun k => q (107 + k)))), (q 108, .inl (cy 2, 40, .inr (.inl (fun _ => 0)))), (q 109, .inr (7, fShelf (fun k => q (109 + k)))), (q 110, .inl (cy 2, 40, .inr (.inl (fun _ => 0)))), (q 111, .inr (7, fShelf (fun k => q (111 + k)))), (q 112, .inl (cy 2, 40, .inr (.inl (fun _ => 0))))] (vp_Si (fun r => if2 (0 ≤ sf.toInt ∧ sf.toInt ≤ 7) (-4) (-2) r)) := by
  refine pc_intro (by decide) (Nat.le_of_ble_eq_true rfl) (fun p e s m below meth c ls Sx hr hlocks hl hP hK hX => ?_)
  have hx := Sx.1
  have hb := Sx.2.1
  have hl : lv_has ls 2 [(0, .ref (q 0)), (1, .int sf)] := hl
  refine lv_iload_n hx hb dd_X11_refusalOfRow_0 rfl (lv_at hl 1 rfl) ?_
  refine pk_i (pc_T [.int sf] [] Sx hl.1 ws_X_55 md_X11_isShelf (c_isShelf l D cy sf) ⟨rfl, rfl⟩ ⟨Nat.le_of_ble_eq_true rfl, Nat.le_of_ble_eq_true rfl⟩ p_nil hK ns_b (ns_w hX) rfl rfl (Nat.le_of_ble_eq_true rfl) dd_X11_refusalOfRow_1 ⟨Nat.le_of_ble_eq_true rfl, Nat.le_of_ble_eq_true rfl⟩) (fun r1 hw2 => ?_)
  rcases hw2 with ⟨hw2, ehw2⟩ | ⟨hw2, ehw2⟩
  · subst ehw2
    refine lv_if_ne (tgt := 10) hx hb dd_X11_refusalOfRow_4 (by decide) (fun _ => ?_) (fun c => absurd c (by decide))
    refine lv_aload_n hx hb dd_X11_refusalOfRow_10 rfl (lv_at hl 0 rfl) ?_
    refine wk_get (v := .ref (q 1)) Sx ef_11 hK hP 0 rfl rfl 0 (by decide) kk_382 rfl dd_X11_refusalOfRow_11 ?_
    refine lv_iload_n hx hb dd_X11_refusalOfRow_14 rfl (lv_at hl 1 rfl) ?_
    have hi3 : vp_in sf 8 := (vi_of (by omega))
    refine va_aldq hx hb hK hP 1 4 rfl rfl hi3 dd_X11_refusalOfRow_15 ?_
    obtain ⟨j4, hjj4, ejj4⟩ : ∃ y, y < 8 ∧ sf.toNatClampNeg = y := ⟨_, vi_lt hi3, rfl⟩
    have hpj4 := sh_p (cy := cy) (q := q) (hP.sub [2, 3, 4, 5, 6, 7, 8, 9, 10, 11, 12, 13, 14, 15, 16, 17] rfl) j4 hjj4
    refine wk_val (v := .ref (q (97 + 2 * j4))) (by rw [ejj4, shv_at _ _ hjj4]; rfl) ?_
    refine pk_i (pc_V [] [] Sx hl.1 ws_X_82 md_X7_hasThing (c_Shelf_hasThing l D cy (fun k => q (97 + 2 * j4 + k))) ⟨rfl, rfl⟩ ⟨Nat.le_of_ble_eq_true rfl, Nat.le_of_ble_eq_true rfl⟩ (hpj4.sub [0] rfl) hK ns_b (ns_w hX) (va_recv hK hpj4 (ci := 7) (q0 := 0) rfl rfl) rfl rfl (Nat.le_of_ble_eq_true rfl) dd_X11_refusalOfRow_16 ⟨Nat.le_of_ble_eq_true rfl, Nat.le_of_ble_eq_true rfl⟩) (fun r5 hw6 => ?_)
    subst hw6
    refine lv_if_eq (tgt := 25) hx hb dd_X11_refusalOfRow_19 (by decide) (fun _ => ?_) (fun c => absurd c (by decide))
    refine lv_aload_n hx hb dd_X11_refusalOfRow_25 rfl (lv_at hl 0 rfl) ?_
    refine wk_get (v := .ref (q 1)) Sx ef_11 hK hP 0 rfl rfl 0 (by decide) kk_382 rfl dd_X11_refusalOfRow_26 ?_
    refine lv_iload_n hx hb dd_X11_refusalOfRow_29 rfl (lv_at hl 1 rfl) ?_
    have hi7 : vp_in sf 8 := (vi_of (by omega))
    refine va_aldq hx hb hK hP 1 4 rfl rfl hi7 dd_X11_refusalOfRow_30 ?_
    obtain ⟨j8, hjj8, ejj8⟩ : ∃ y, y < 8 ∧ sf.toNatClampNeg = y := ⟨_, vi_lt hi7, rfl⟩
    have hpj8 := sh_p (cy := cy) (q := q) (hP.sub [2, 3, 4, 5, 6, 7, 8, 9, 10, 11, 12, 13, 14, 15, 16, 17] rfl) j8 hjj8
    refine wk_val (v := .ref (q (97 + 2 * j8))) (by rw [ejj8, shv_at _ _ hjj8]; rfl) ?_
    refine pk_i (pc_V [] [] Sx hl.1 ws_X_92 md_X7_isEmpty (c_Shelf_isEmpty l D cy (fun k => q (97 + 2 * j8 + k))) ⟨rfl, rfl⟩ ⟨Nat.le_of_ble_eq_true rfl, Nat.le_of_ble_eq_true rfl⟩ (hpj8.sub [0] rfl) hK ns_b (ns_w hX) (va_recv hK hpj8 (ci := 7) (q0 := 0) rfl rfl) rfl rfl (Nat.le_of_ble_eq_true rfl) dd_X11_refusalOfRow_31 ⟨Nat.le_of_ble_eq_true rfl, Nat.le_of_ble_eq_true rfl⟩) (fun r9 hw10 => ?_)
    subst hw10
    refine lv_if_eq (tgt := 42) hx hb dd_X11_refusalOfRow_34 (by decide) (fun c => absurd c (by decide)) (fun _ => ?_)
    refine lv_bipush (v := (-4)) hx hb dd_X11_refusalOfRow_37 (by decide) ?_
    refine lv_goto (tgt := 43) hx hb dd_X11_refusalOfRow_39 (by decide) ?_
    exact pc_ret Sx hr hlocks rfl dd_X11_refusalOfRow_43 (Or.inl ⟨by omega, rfl⟩)
  · subst ehw2
    refine lv_if_ne (tgt := 10) hx hb dd_X11_refusalOfRow_4 (by decide) (fun c => absurd c (by decide)) (fun _ => ?_)
    refine lv_bipush (v := (-2)) hx hb dd_X11_refusalOfRow_7 (by decide) ?_
    exact pc_ret Sx hr hlocks rfl dd_X11_refusalOfRow_9 (Or.inr ⟨by omega, rfl⟩)
set_option maxHeartbeats 4000000 in
set_option maxRecDepth 100000 in
theorem c_shelvesInUse (l : Launch) (D : va_G) (cy : Nat → ClassId) (q : Nat → Nat) : PC l my_X11_shelvesInUse mb_X11_shelvesInUse 3 ((some .int)) (rmD 2 0 0) D (TY cy) [.ref (q 0)] NS [(q 0, .inr (11, fX q)), (q 1, .inl (cy 4, 8, .inr (.inr (.inr (.inr (shv q)))))), (q 97, .inr (7, fShelf (fun k => q (97 + k)))), (q 98, .inl (cy 2, 40, .inr (.inl (fun _ => 0)))), (q 99, .inr (7, fShelf (fun k => q (99 + k)))), (q 100, .inl (cy 2, 40, .inr (.inl (fun _ => 0)))), (q 101, .inr (7, fShelf (fun k => q (101 + k)))), (q 102, .inl (cy 2, 40, .inr (.inl (fun _ => 0)))), (q 103, .inr (7, fShelf (fun k => q (103 + k)))), (q 104, .inl (cy 2, 40, .inr (.inl (fun _ => 0)))), (q 105, .inr (7, fShelf (fun k => q (105 + k)))), (q 106, .inl (cy 2, 40, .inr (.inl (fun _ => 0)))), (q 107, .inr (7, fShelf (fun k => q (107 + k)))), (q 108, .inl (cy 2, 40, .inr (.inl (fun _ => 0)))), (q 109, .inr (7, fShelf (fun k => q (109 + k)))), (q 110, .inl (cy 2, 40, .inr (.inl (fun _ => 0)))), (q 111, .inr (7, fShelf (fun k => q (111 + k)))), (q 112, .inl (cy 2, 40, .inr (.inl (fun _ => 0))))] (vp_Si (fun r => r = 0)) := by
  refine pc_intro (by decide) (Nat.le_of_ble_eq_true rfl) (fun p e s m below meth c ls Sx hr hlocks hl hP hK hX => ?_)
  have hx := Sx.1
  have hb := Sx.2.1
  have hl : lv_has ls 3 [(0, .ref (q 0))] := hl
  refine lv_iconst (v := 0) hx hb dd_X11_shelvesInUse_0 (by decide) ?_
  refine lv_istore_n (lv' := [(1, .int 0), (0, .ref (q 0))]) hx hb dd_X11_shelvesInUse_1 rfl hl (by decide) rfl (fun ls hl => ?_)
  refine lv_iconst (v := 0) hx hb dd_X11_shelvesInUse_2 (by decide) ?_
  refine lv_istore_n (lv' := [(2, .int 0), (1, .int 0), (0, .ref (q 0))]) hx hb dd_X11_shelvesInUse_3 rfl hl (by decide) rfl (fun ls hl => ?_)
  refine lv_iload_n hx hb dd_X11_shelvesInUse_4 rfl (lv_at hl 0 rfl) ?_
  refine lv_bipush (v := 8) hx hb dd_X11_shelvesInUse_5 (by decide) ?_
  refine lv_icmp_ge (tgt := 31) hx hb dd_X11_shelvesInUse_7 (by decide) (fun c => absurd c (by decide)) (fun _ => ?_)
  refine lv_aload_n hx hb dd_X11_shelvesInUse_10 rfl (lv_at hl 2 rfl) ?_
  refine wk_get (v := .ref (q 1)) Sx ef_11 hK hP 0 rfl rfl 0 (by decide) kk_382 rfl dd_X11_shelvesInUse_11 ?_
  refine lv_iload_n hx hb dd_X11_shelvesInUse_14 rfl (lv_at hl 0 rfl) ?_
  have hi1 : vp_in 0 8 := (vi_of (by decide))
  refine va_aldq hx hb hK hP 1 4 rfl rfl hi1 dd_X11_shelvesInUse_15 ?_
  refine wk_val (v := .ref (q 97)) rfl ?_
  refine pk_i (pc_V [] [] Sx hl.1 ws_X_92 md_X7_isEmpty (c_Shelf_isEmpty l D cy (fun k => q (97 + k))) ⟨rfl, rfl⟩ ⟨Nat.le_of_ble_eq_true rfl, Nat.le_of_ble_eq_true rfl⟩ (hP.sub [2] rfl) hK ns_b (ns_w hX) (va_recv hK hP (ci := 7) (q0 := 2) rfl rfl) rfl rfl (Nat.le_of_ble_eq_true rfl) dd_X11_shelvesInUse_16 ⟨Nat.le_of_ble_eq_true rfl, Nat.le_of_ble_eq_true rfl⟩) (fun r2 hw3 => ?_)
  subst hw3
  refine lv_if_ne (tgt := 25) hx hb dd_X11_shelvesInUse_19 (by decide) (fun _ => ?_) (fun c => absurd c (by decide))
  refine lv_iinc (v := 1) (lv' := [(2, .int 1), (1, .int 0), (0, .ref (q 0))]) hx hb dd_X11_shelvesInUse_25 hl (k := 0) rfl (by decide) (by decide) rfl (fun ls hl => ?_)
  refine lv_goto (tgt := 4) hx hb dd_X11_shelvesInUse_28 (by decide) ?_
  refine lv_iload_n hx hb dd_X11_shelvesInUse_4 rfl (lv_at hl 0 rfl) ?_
  refine lv_bipush (v := 8) hx hb dd_X11_shelvesInUse_5 (by decide) ?_
  refine lv_icmp_ge (tgt := 31) hx hb dd_X11_shelvesInUse_7 (by decide) (fun c => absurd c (by decide)) (fun _ => ?_)
  refine lv_aload_n hx hb dd_X11_shelvesInUse_10 rfl (lv_at hl 2 rfl) ?_
  refine wk_get (v := .ref (q 1)) Sx ef_11 hK hP 0 rfl rfl 0 (by decide) kk_382 rfl dd_X11_shelvesInUse_11 ?_
  refine lv_iload_n hx hb dd_X11_shelvesInUse_14 rfl (lv_at hl 0 rfl) ?_
  have hi4 : vp_in 1 8 := (vi_of (by decide))
  refine va_aldq hx hb hK hP 1 4 rfl rfl hi4 dd_X11_shelvesInUse_15 ?_
  refine wk_val (v := .ref (q 99)) rfl ?_
  refine pk_i (pc_V [] [] Sx hl.1 ws_X_92 md_X7_isEmpty (c_Shelf_isEmpty l D cy (fun k => q (99 + k))) ⟨rfl, rfl⟩ ⟨Nat.le_of_ble_eq_true rfl, Nat.le_of_ble_eq_true rfl⟩ (hP.sub [4] rfl) hK ns_b (ns_w hX) (va_recv hK hP (ci := 7) (q0 := 4) rfl rfl) rfl rfl (Nat.le_of_ble_eq_true rfl) dd_X11_shelvesInUse_16 ⟨Nat.le_of_ble_eq_true rfl, Nat.le_of_ble_eq_true rfl⟩) (fun r5 hw6 => ?_)
  subst hw6
  refine lv_if_ne (tgt := 25) hx hb dd_X11_shelvesInUse_19 (by decide) (fun _ => ?_) (fun c => absurd c (by decide))
  refine lv_iinc (v := 2) (lv' := [(2, .int 2), (1, .int 0), (0, .ref (q 0))]) hx hb dd_X11_shelvesInUse_25 hl (k := 0) rfl (by decide) (by decide) rfl (fun ls hl => ?_)
  refine lv_goto (tgt := 4) hx hb dd_X11_shelvesInUse_28 (by decide) ?_
  refine lv_iload_n hx hb dd_X11_shelvesInUse_4 rfl (lv_at hl 0 rfl) ?_
  refine lv_bipush (v := 8) hx hb dd_X11_shelvesInUse_5 (by decide) ?_
  refine lv_icmp_ge (tgt := 31) hx hb dd_X11_shelvesInUse_7 (by decide) (fun c => absurd c (by decide)) (fun _ => ?_)
  refine lv_aload_n hx hb dd_X11_shelvesInUse_10 rfl (lv_at hl 2 rfl) ?_
  refine wk_get (v := .ref (q 1)) Sx ef_11 hK hP 0 rfl rfl 0 (by decide) kk_382 rfl dd_X11_shelvesInUse_11 ?_
  refine lv_iload_n hx hb dd_X11_shelvesInUse_14 rfl (lv_at hl 0 rfl) ?_
  have hi7 : vp_in 2 8 := (vi_of (by decide))
  refine va_aldq hx hb hK hP 1 4 rfl rfl hi7 dd_X11_shelvesInUse_15 ?_
  refine wk_val (v := .ref (q 101)) rfl ?_
  refine pk_i (pc_V [] [] Sx hl.1 ws_X_92 md_X7_isEmpty (c_Shelf_isEmpty l D cy (fun k => q (101 + k))) ⟨rfl, rfl⟩ ⟨Nat.le_of_ble_eq_true rfl, Nat.le_of_ble_eq_true rfl⟩ (hP.sub [6] rfl) hK ns_b (ns_w hX) (va_recv hK hP (ci := 7) (q0 := 6) rfl rfl) rfl rfl (Nat.le_of_ble_eq_true rfl) dd_X11_shelvesInUse_16 ⟨Nat.le_of_ble_eq_true rfl, Nat.le_of_ble_eq_true rfl⟩) (fun r8 hw9 => ?_)
  subst hw9
  refine lv_if_ne (tgt := 25) hx hb dd_X11_shelvesInUse_19 (by decide) (fun _ => ?_) (fun c => absurd c (by decide))
  refine lv_iinc (v := 3) (lv' := [(2, .int 3), (1, .int 0), (0, .ref (q 0))]) hx hb dd_X11_shelvesInUse_25 hl (k := 0) rfl (by decide) (by decide) rfl (fun ls hl => ?_)
  refine lv_goto (tgt := 4) hx hb dd_X11_shelvesInUse_28 (by decide) ?_
  refine lv_iload_n hx hb dd_X11_shelvesInUse_4 rfl (lv_at hl 0 rfl) ?_
  refine lv_bipush (v := 8) hx hb dd_X11_shelvesInUse_5 (by decide) ?_
  refine lv_icmp_ge (tgt := 31) hx hb dd_X11_shelvesInUse_7 (by decide) (fun c => absurd c (by decide)) (fun _ => ?_)
  refine lv_aload_n hx hb dd_X11_shelvesInUse_10 rfl (lv_at hl 2 rfl) ?_
  refine wk_get (v := .ref (q 1)) Sx ef_11 hK hP 0 rfl rfl 0 (by decide) kk_382 rfl dd_X11_shelvesInUse_11 ?_
  refine lv_iload_n hx hb dd_X11_shelvesInUse_14 rfl (lv_at hl 0 rfl) ?_
  have hi10 : vp_in 3 8 := (vi_of (by decide))
  refine va_aldq hx hb hK hP 1 4 rfl rfl hi10 dd_X11_shelvesInUse_15 ?_
  refine wk_val (v := .ref (q 103)) rfl ?_
  refine pk_i (pc_V [] [] Sx hl.1 ws_X_92 md_X7_isEmpty (c_Shelf_isEmpty l D cy (fun k => q (103 + k))) ⟨rfl, rfl⟩ ⟨Nat.le_of_ble_eq_true rfl, Nat.le_of_ble_eq_true rfl⟩ (hP.sub [8] rfl) hK ns_b (ns_w hX) (va_recv hK hP (ci := 7) (q0 := 8) rfl rfl) rfl rfl (Nat.le_of_ble_eq_true rfl) dd_X11_shelvesInUse_16 ⟨Nat.le_of_ble_eq_true rfl, Nat.le_of_ble_eq_true rfl⟩) (fun r11 hw12 => ?_)
  subst hw12
  refine lv_if_ne (tgt := 25) hx hb dd_X11_shelvesInUse_19 (by decide) (fun _ => ?_) (fun c => absurd c (by decide))
  refine lv_iinc (v := 4) (lv' := [(2, .int 4), (1, .int 0), (0, .ref (q 0))]) hx hb dd_X11_shelvesInUse_25 hl (k := 0) rfl (by decide) (by decide) rfl (fun ls hl => ?_)
  refine lv_goto (tgt := 4) hx hb dd_X11_shelvesInUse_28 (by decide) ?_
  refine lv_iload_n hx hb dd_X11_shelvesInUse_4 rfl (lv_at hl 0 rfl) ?_
  refine lv_bipush (v := 8) hx hb dd_X11_shelvesInUse_5 (by decide) ?_
  refine lv_icmp_ge (tgt := 31) hx hb dd_X11_shelvesInUse_7 (by decide) (fun c => absurd c (by decide)) (fun _ => ?_)
  refine lv_aload_n hx hb dd_X11_shelvesInUse_10 rfl (lv_at hl 2 rfl) ?_
  refine wk_get (v := .ref (q 1)) Sx ef_11 hK hP 0 rfl rfl 0 (by decide) kk_382 rfl dd_X11_shelvesInUse_11 ?_
  refine lv_iload_n hx hb dd_X11_shelvesInUse_14 rfl (lv_at hl 0 rfl) ?_
  have hi13 : vp_in 4 8 := (vi_of (by decide))
  refine va_aldq hx hb hK hP 1 4 rfl rfl hi13 dd_X11_shelvesInUse_15 ?_
  refine wk_val (v := .ref (q 105)) rfl ?_
  refine pk_i (pc_V [] [] Sx hl.1 ws_X_92 md_X7_isEmpty (c_Shelf_isEmpty l D cy (fun k => q (105 + k))) ⟨rfl, rfl⟩ ⟨Nat.le_of_ble_eq_true rfl, Nat.le_of_ble_eq_true rfl⟩ (hP.sub [10] rfl) hK ns_b (ns_w hX) (va_recv hK hP (ci := 7) (q0 := 10) rfl rfl) rfl rfl (Nat.le_of_ble_eq_true rfl) dd_X11_shelvesInUse_16 ⟨Nat.le_of_ble_eq_true rfl, Nat.le_of_ble_eq_true rfl⟩) (fun r14 hw15 => ?_)
  subst hw15
  refine lv_if_ne (tgt := 25) hx hb dd_X11_shelvesInUse_19 (by decide) (fun _ => ?_) (fun c => absurd c (by decide))
  refine lv_iinc (v := 5) (lv' := [(2, .int 5), (1, .int 0), (0, .ref (q 0))]) hx hb dd_X11_shelvesInUse_25 hl (k := 0) rfl (by decide) (by decide) rfl (fun ls hl => ?_)
  refine lv_goto (tgt := 4) hx hb dd_X11_shelvesInUse_28 (by decide) ?_
  refine lv_iload_n hx hb dd_X11_shelvesInUse_4 rfl (lv_at hl 0 rfl) ?_
  refine lv_bipush (v := 8) hx hb dd_X11_shelvesInUse_5 (by decide) ?_
  refine lv_icmp_ge (tgt := 31) hx hb dd_X11_shelvesInUse_7 (by decide) (fun c => absurd c (by decide)) (fun _ => ?_)
  refine lv_aload_n hx hb dd_X11_shelvesInUse_10 rfl (lv_at hl 2 rfl) ?_
  refine wk_get (v := .ref (q 1)) Sx ef_11 hK hP 0 rfl rfl 0 (by decide) kk_382 rfl dd_X11_shelvesInUse_11 ?_
  refine lv_iload_n hx hb dd_X11_shelvesInUse_14 rfl (lv_at hl 0 rfl) ?_
  have hi16 : vp_in 5 8 := (vi_of (by decide))
  refine va_aldq hx hb hK hP 1 4 rfl rfl hi16 dd_X11_shelvesInUse_15 ?_
  refine wk_val (v := .ref (q 107)) rfl ?_
  refine pk_i (pc_V [] [] Sx hl.1 ws_X_92 md_X7_isEmpty (c_Shelf_isEmpty l D cy (fun k => q (107 + k))) ⟨rfl, rfl⟩ ⟨Nat.le_of_ble_eq_true rfl, Nat.le_of_ble_eq_true rfl⟩ (hP.sub [12] rfl) hK ns_b (ns_w hX) (va_recv hK hP (ci := 7) (q0 := 12) rfl rfl) rfl rfl (Nat.le_of_ble_eq_true rfl) dd_X11_shelvesInUse_16 ⟨Nat.le_of_ble_eq_true rfl, Nat.le_of_ble_eq_true rfl⟩) (fun r17 hw18 => ?_)
  subst hw18
  refine lv_if_ne (tgt := 25) hx hb dd_X11_shelvesInUse_19 (by decide) (fun _ => ?_) (fun c => absurd c (by decide))
  refine lv_iinc (v := 6) (lv' := [(2, .int 6), (1, .int 0), (0, .ref (q 0))]) hx hb dd_X11_shelvesInUse_25 hl (k := 0) rfl (by decide) (by decide) rfl (fun ls hl => ?_)
  refine lv_goto (tgt := 4) hx hb dd_X11_shelvesInUse_28 (by decide) ?_
  refine lv_iload_n hx hb dd_X11_shelvesInUse_4 rfl (lv_at hl 0 rfl) ?_
  refine lv_bipush (v := 8) hx hb dd_X11_shelvesInUse_5 (by decide) ?_
  refine lv_icmp_ge (tgt := 31) hx hb dd_X11_shelvesInUse_7 (by decide) (fun c => absurd c (by decide)) (fun _ => ?_)
  refine lv_aload_n hx hb dd_X11_shelvesInUse_10 rfl (lv_at hl 2 rfl) ?_
  refine wk_get (v := .ref (q 1)) Sx ef_11 hK hP 0 rfl rfl 0 (by decide) kk_382 rfl dd_X11_shelvesInUse_11 ?_
  refine lv_iload_n hx hb dd_X11_shelvesInUse_14 rfl (lv_at hl 0 rfl) ?_
  have hi19 : vp_in 6 8 := (vi_of (by decide))
  refine va_aldq hx hb hK hP 1 4 rfl rfl hi19 dd_X11_shelvesInUse_15 ?_
  refine wk_val (v := .ref (q 109)) rfl ?_
  refine pk_i (pc_V [] [] Sx hl.1 ws_X_92 md_X7_isEmpty (c_Shelf_isEmpty l D cy (fun k => q (109 + k))) ⟨rfl, rfl⟩ ⟨Nat.le_of_ble_eq_true rfl, Nat.le_of_ble_eq_true rfl⟩ (hP.sub [14] rfl) hK ns_b (ns_w hX) (va_recv hK hP (ci := 7) (q0 := 14) rfl rfl) rfl rfl (Nat.le_of_ble_eq_true rfl) dd_X11_shelvesInUse_16 ⟨Nat.le_of_ble_eq_true rfl, Nat.le_of_ble_eq_true rfl⟩) (fun r20 hw21 => ?_)
  subst hw21
  refine lv_if_ne (tgt := 25) hx hb dd_X11_shelvesInUse_19 (by decide) (fun _ => ?_) (fun c => absurd c (by decide))
  refine lv_iinc (v := 7) (lv' := [(2, .int 7), (1, .int 0), (0, .ref (q 0))]) hx hb dd_X11_shelvesInUse_25 hl (k := 0) rfl (by decide) (by decide) rfl (fun ls hl => ?_)
  refine lv_goto (tgt := 4) hx hb dd_X11_shelvesInUse_28 (by decide) ?_
  refine lv_iload_n hx hb dd_X11_shelvesInUse_4 rfl (lv_at hl 0 rfl) ?_
  refine lv_bipush (v := 8) hx hb dd_X11_shelvesInUse_5 (by decide) ?_
  refine lv_icmp_ge (tgt := 31) hx hb dd_X11_shelvesInUse_7 (by decide) (fun c => absurd c (by decide)) (fun _ => ?_)
  refine lv_aload_n hx hb dd_X11_shelvesInUse_10 rfl (lv_at hl 2 rfl) ?_
  refine wk_get (v := .ref (q 1)) Sx ef_11 hK hP 0 rfl rfl 0 (by decide) kk_382 rfl dd_X11_shelvesInUse_11 ?_
  refine lv_iload_n hx hb dd_X11_shelvesInUse_14 rfl (lv_at hl 0 rfl) ?_
  have hi22 : vp_in 7 8 := (vi_of (by decide))
  refine va_aldq hx hb hK hP 1 4 rfl rfl hi22 dd_X11_shelvesInUse_15 ?_
  refine wk_val (v := .ref (q 111)) rfl ?_
  refine pk_i (pc_V [] [] Sx hl.1 ws_X_92 md_X7_isEmpty (c_Shelf_isEmpty l D cy (fun k => q (111 + k))) ⟨rfl, rfl⟩ ⟨Nat.le_of_ble_eq_true rfl, Nat.le_of_ble_eq_true rfl⟩ (hP.sub [16] rfl) hK ns_b (ns_w hX) (va_recv hK hP (ci := 7) (q0 := 16) rfl rfl) rfl rfl (Nat.le_of_ble_eq_true rfl) dd_X11_shelvesInUse_16 ⟨Nat.le_of_ble_eq_true rfl, Nat.le_of_ble_eq_true rfl⟩) (fun r23 hw24 => ?_)
  subst hw24
  refine lv_if_ne (tgt := 25) hx hb dd_X11_shelvesInUse_19 (by decide) (fun _ => ?_) (fun c => absurd c (by decide))
  refine lv_iinc (v := 8) (lv' := [(2, .int 8), (1, .int 0), (0, .ref (q 0))]) hx hb dd_X11_shelvesInUse_25 hl (k := 0) rfl (by decide) (by decide) rfl (fun ls hl => ?_)
  refine lv_goto (tgt := 4) hx hb dd_X11_shelvesInUse_28 (by decide) ?_
  refine lv_iload_n hx hb dd_X11_shelvesInUse_4 rfl (lv_at hl 0 rfl) ?_
  refine lv_bipush (v := 8) hx hb dd_X11_shelvesInUse_5 (by decide) ?_
  refine lv_icmp_ge (tgt := 31) hx hb dd_X11_shelvesInUse_7 (by decide) (fun _ => ?_) (fun c => absurd c (by decide))
  refine lv_iload_n hx hb dd_X11_shelvesInUse_31 rfl (lv_at hl 1 rfl) ?_
  exact pc_ret Sx hr hlocks rfl dd_X11_shelvesInUse_32 rfl
set_option maxHeartbeats 4000000 in
set_option maxRecDepth 100000 in
theorem c_X_row (l : Launch) (D : va_G) (cy : Nat → ClassId) (q : Nat → Nat) (sf : Int32) (so : Int32) (nn : Int32) : HC l my_X11_row mb_X11_row 4 ((some .int)) (rmD 3 0 0) D (TY cy) [.ref (q 0), .int sf, .int so, .int nn] NX [(q 0, .inr (11, fX q)), (q 1, .inl (cy 4, 8, .inr (.inr (.inr (.inr (shv q)))))), (q 2, .inl (cy 0, 5, .inl (fun _ => 0))), (q 97, .inr (7, fShelf (fun k => q (97 + k)))), (q 98, .inl (cy 2, 40, .inr (.inl (fun _ => 0)))), (q 99, .inr (7, fShelf (fun k => q (99 + k)))), (q 100, .inl (cy 2, 40, .inr (.inl (fun _ => 0)))), (q 101, .inr (7, fShelf (fun k => q (101 + k)))), (q 102, .inl (cy 2, 40, .inr (.inl (fun _ => 0)))), (q 103, .inr (7, fShelf (fun k => q (103 + k)))), (q 104, .inl (cy 2, 40, .inr (.inl (fun _ => 0)))), (q 105, .inr (7, fShelf (fun k => q (105 + k)))), (q 106, .inl (cy 2, 40, .inr (.inl (fun _ => 0)))), (q 107, .inr (7, fShelf (fun k => q (107 + k)))), (q 108, .inl (cy 2, 40, .inr (.inl (fun _ => 0)))), (q 109, .inr (7, fShelf (fun k => q (109 + k)))), (q 110, .inl (cy 2, 40, .inr (.inl (fun _ => 0)))), (q 111, .inr (7, fShelf (fun k => q (111 + k)))), (q 112, .inl (cy 2, 40, .inr (.inl (fun _ => 0))))] (QI (S := Unit) D (fun r _ => if2 (0 ≤ sf.toInt ∧ sf.toInt ≤ 7 ∧ 0 ≤ so.toInt ∧ so.toInt ≤ 4 ∧ 0 ≤ nn.toInt ∧ nn.toInt ≤ 40) 1 (-2) r) (fun _ => [])) := by
  refine hc_intro (by decide) (Nat.le_of_ble_eq_true rfl) (fun p e s m below meth c A ls Sx hr hlocks hin hl hP hD hK hS hA hX => ?_)
  have hx := Sx.1
  have hb := Sx.2.1
  have hl : lv_has ls 4 [(0, .ref (q 0)), (1, .int sf), (2, .int so), (3, .int nn)] := hl
  have hP : va_P D cls [(q 0, .inr (11, fX q)), (q 1, .inl (cy 4, 8, .inr (.inr (.inr (.inr (shv q)))))), (q 2, .inl (cy 0, 5, .inl (fun _ => 0))), (q 97, .inr (7, fShelf (fun k => q (97 + k)))), (q 98, .inl (cy 2, 40, .inr (.inl (fun _ => 0)))), (q 99, .inr (7, fShelf (fun k => q (99 + k)))), (q 100, .inl (cy 2, 40, .inr (.inl (fun _ => 0)))), (q 101, .inr (7, fShelf (fun k => q (101 + k)))), (q 102, .inl (cy 2, 40, .inr (.inl (fun _ => 0)))), (q 103, .inr (7, fShelf (fun k => q (103 + k)))), (q 104, .inl (cy 2, 40, .inr (.inl (fun _ => 0)))), (q 105, .inr (7, fShelf (fun k => q (105 + k)))), (q 106, .inl (cy 2, 40, .inr (.inl (fun _ => 0)))), (q 107, .inr (7, fShelf (fun k => q (107 + k)))), (q 108, .inl (cy 2, 40, .inr (.inl (fun _ => 0)))), (q 109, .inr (7, fShelf (fun k => q (109 + k)))), (q 110, .inl (cy 2, 40, .inr (.inl (fun _ => 0)))), (q 111, .inr (7, fShelf (fun k => q (111 + k)))), (q 112, .inl (cy 2, 40, .inr (.inl (fun _ => 0))))] s.heap := hP
  have hD : va_D A [(q 0, .inr (11, fX q)), (q 1, .inl (cy 4, 8, .inr (.inr (.inr (.inr (shv q)))))), (q 2, .inl (cy 0, 5, .inl (fun _ => 0))), (q 97, .inr (7, fShelf (fun k => q (97 + k)))), (q 98, .inl (cy 2, 40, .inr (.inl (fun _ => 0)))), (q 99, .inr (7, fShelf (fun k => q (99 + k)))), (q 100, .inl (cy 2, 40, .inr (.inl (fun _ => 0)))), (q 101, .inr (7, fShelf (fun k => q (101 + k)))), (q 102, .inl (cy 2, 40, .inr (.inl (fun _ => 0)))), (q 103, .inr (7, fShelf (fun k => q (103 + k)))), (q 104, .inl (cy 2, 40, .inr (.inl (fun _ => 0)))), (q 105, .inr (7, fShelf (fun k => q (105 + k)))), (q 106, .inl (cy 2, 40, .inr (.inl (fun _ => 0)))), (q 107, .inr (7, fShelf (fun k => q (107 + k)))), (q 108, .inl (cy 2, 40, .inr (.inl (fun _ => 0)))), (q 109, .inr (7, fShelf (fun k => q (109 + k)))), (q 110, .inl (cy 2, 40, .inr (.inl (fun _ => 0)))), (q 111, .inr (7, fShelf (fun k => q (111 + k)))), (q 112, .inl (cy 2, 40, .inr (.inl (fun _ => 0))))] := hD
  refine lv_iload_n hx hb dd_X11_row_0 rfl (lv_at hl 1 rfl) ?_
  refine pk_i (pc_T [.int sf] [] Sx hl.1 ws_X_55 md_X11_isShelf (c_isShelf l D cy sf) ⟨rfl, rfl⟩ ⟨Nat.le_of_ble_eq_true rfl, Nat.le_of_ble_eq_true rfl⟩ p_nil hK ns_b (ns_w hX) rfl rfl (Nat.le_of_ble_eq_true rfl) dd_X11_row_1 ⟨Nat.le_of_ble_eq_true rfl, Nat.le_of_ble_eq_true rfl⟩) (fun r1 hw2 => ?_)
  rcases hw2 with ⟨hw2, ehw2⟩ | ⟨hw2, ehw2⟩
  · subst ehw2
    refine lv_if_eq (tgt := 26) hx hb dd_X11_row_4 (by decide) (fun c => absurd c (by decide)) (fun _ => ?_)
    refine lv_iload_n hx hb dd_X11_row_7 rfl (lv_at hl 2 rfl) ?_
    refine lv_iconst (v := 0) hx hb dd_X11_row_8 (by decide) ?_
    refine lv_iconst (v := 4) hx hb dd_X11_row_9 (by decide) ?_
    refine pk_i (pc_T [.int so, .int 0, .int 4] [] Sx hl.1 ws_X_59 md_X11_within (c_within l D cy so 0 4) ⟨rfl, rfl⟩ ⟨Nat.le_of_ble_eq_true rfl, Nat.le_of_ble_eq_true rfl⟩ p_nil hK ns_b (ns_w hX) rfl rfl (Nat.le_of_ble_eq_true rfl) dd_X11_row_10 ⟨Nat.le_of_ble_eq_true rfl, Nat.le_of_ble_eq_true rfl⟩) (fun r3 hw4 => ?_)
    rcases hw4 with ⟨hw4, ehw4⟩ | ⟨hw4, ehw4⟩
    · have hl5 : Int32.toInt 0 = 0 := rfl
      have hl6 : Int32.toInt 4 = 4 := rfl
      subst ehw4
      refine lv_if_eq (tgt := 26) hx hb dd_X11_row_13 (by decide) (fun c => absurd c (by decide)) (fun _ => ?_)
      refine lv_iload_n hx hb dd_X11_row_16 rfl (lv_at hl 3 rfl) ?_
      refine lv_iconst (v := 0) hx hb dd_X11_row_17 (by decide) ?_
      refine lv_bipush (v := 40) hx hb dd_X11_row_18 (by decide) ?_
      refine pk_i (pc_T [.int nn, .int 0, .int 40] [] Sx hl.1 ws_X_59 md_X11_within (c_within l D cy nn 0 40) ⟨rfl, rfl⟩ ⟨Nat.le_of_ble_eq_true rfl, Nat.le_of_ble_eq_true rfl⟩ p_nil hK ns_b (ns_w hX) rfl rfl (Nat.le_of_ble_eq_true rfl) dd_X11_row_20 ⟨Nat.le_of_ble_eq_true rfl, Nat.le_of_ble_eq_true rfl⟩) (fun r7 hw8 => ?_)
      rcases hw8 with ⟨hw8, ehw8⟩ | ⟨hw8, ehw8⟩
      · have hl9 : Int32.toInt 0 = 0 := rfl
        have hl10 : Int32.toInt 40 = 40 := rfl
        subst ehw8
        refine lv_if_ne (tgt := 33) hx hb dd_X11_row_23 (by decide) (fun _ => ?_) (fun c => absurd c (by decide))
        refine lv_aload_n hx hb dd_X11_row_33 rfl (lv_at hl 0 rfl) ?_
        refine wk_get (v := .ref (q 1)) Sx ef_11 hK hP 0 rfl rfl 0 (by decide) kk_382 rfl dd_X11_row_34 ?_
        refine lv_iload_n hx hb dd_X11_row_37 rfl (lv_at hl 1 rfl) ?_
        have hi11 : vp_in sf 8 := (vi_of (by omega))
        refine va_aldq hx hb hK hP 1 4 rfl rfl hi11 dd_X11_row_38 ?_
        obtain ⟨j12, hjj12, ejj12⟩ : ∃ y, y < 8 ∧ sf.toNatClampNeg = y := ⟨_, vi_lt hi11, rfl⟩
        have hpj12 := sh_p (cy := cy) (q := q) (hP.sub [3, 4, 5, 6, 7, 8, 9, 10, 11, 12, 13, 14, 15, 16, 17, 18] rfl) j12 hjj12
        have hdj12 := sh_d (cy := cy) (q := q) (hD.sub [3, 4, 5, 6, 7, 8, 9, 10, 11, 12, 13, 14, 15, 16, 17, 18] (by decide) rfl) j12 hjj12
        refine wk_val (v := .ref (q (97 + 2 * j12))) (by rw [ejj12, shv_at _ _ hjj12]; rfl) ?_
        refine lv_iload_n hx hb dd_X11_row_39 rfl (lv_at hl 2 rfl) ?_
        refine lv_iload_n hx hb dd_X11_row_40 rfl (lv_at hl 3 rfl) ?_
        have hP := hpj12
        have hD := hdj12
        refine hk_v (wr := []) (c1 := 0) (s1 := 0) [0, 1] [] (hc_V [.int so, .int nn] [] [0, 1] Sx hl.1 ws_X_67 md_X7_takeRow (c_Shelf_takeRow l D cy (fun k => q (97 + 2 * j12 + k)) so nn) ⟨Nat.le_of_ble_eq_true rfl, Nat.le_of_ble_eq_true rfl⟩ hP hD rfl (by decide) hK nx_b (nx_w hX) (va_recv hK hP (ci := 7) (q0 := 0) rfl rfl) rfl rfl (Nat.le_of_ble_eq_true rfl) dd_X11_row_41 ⟨Nat.le_of_ble_eq_true rfl, Nat.le_of_ble_eq_true rfl⟩) hS hA hP hD rfl rfl (by decide) (by decide) rfl rfl (fun u14 H locs hw15 hP hD hS => ?_)
        have hP : va_P D cls [] H := hP
        have hD : va_D A [] := hD
        refine lv_iconst (v := 1) hx hb dd_X11_row_44 (by decide) ?_
        exact hc_ret Sx hr hlocks dd_X11_row_45 hS () (Or.inl ⟨by omega, rfl⟩) p_nil d_nil
      · have hl16 : Int32.toInt 0 = 0 := rfl
        have hl17 : Int32.toInt 40 = 40 := rfl
        subst ehw8
        refine lv_if_ne (tgt := 33) hx hb dd_X11_row_23 (by decide) (fun c => absurd c (by decide)) (fun _ => ?_)
        refine lv_aload_n hx hb dd_X11_row_26 rfl (lv_at hl 0 rfl) ?_
        refine lv_bipush (v := (-2)) hx hb dd_X11_row_27 (by decide) ?_
        refine hk_i (wr := [(q 1, .inl (cy 4, 8, .inr (.inr (.inr (.inr (shv q)))))), (q 97, .inr (7, fShelf (fun k => q (97 + k)))), (q 98, .inl (cy 2, 40, .inr (.inl (fun _ => 0)))), (q 99, .inr (7, fShelf (fun k => q (99 + k)))), (q 100, .inl (cy 2, 40, .inr (.inl (fun _ => 0)))), (q 101, .inr (7, fShelf (fun k => q (101 + k)))), (q 102, .inl (cy 2, 40, .inr (.inl (fun _ => 0)))), (q 103, .inr (7, fShelf (fun k => q (103 + k)))), (q 104, .inl (cy 2, 40, .inr (.inl (fun _ => 0)))), (q 105, .inr (7, fShelf (fun k => q (105 + k)))), (q 106, .inl (cy 2, 40, .inr (.inl (fun _ => 0)))), (q 107, .inr (7, fShelf (fun k => q (107 + k)))), (q 108, .inl (cy 2, 40, .inr (.inl (fun _ => 0)))), (q 109, .inr (7, fShelf (fun k => q (109 + k)))), (q 110, .inl (cy 2, 40, .inr (.inl (fun _ => 0)))), (q 111, .inr (7, fShelf (fun k => q (111 + k)))), (q 112, .inl (cy 2, 40, .inr (.inl (fun _ => 0))))]) (c1 := 0) (s1 := 0) [0, 2] [1, 3, 4, 5, 6, 7, 8, 9, 10, 11, 12, 13, 14, 15, 16, 17, 18] (hc_V [.int (-2)] [] [0, 2] Sx hl.1 ws_X_63 md_X11_refuse (c_refuse_2 l D cy q) ⟨Nat.le_of_ble_eq_true rfl, Nat.le_of_ble_eq_true rfl⟩ hP hD rfl (by decide) hK nx_b (nx_w hX) (va_recv hK hP (ci := 11) (q0 := 0) rfl rfl) rfl rfl (Nat.le_of_ble_eq_true rfl) dd_X11_row_29 ⟨Nat.le_of_ble_eq_true rfl, Nat.le_of_ble_eq_true rfl⟩) hS hA hP hD rfl rfl (by decide) (by decide) rfl rfl (fun r18 u19 H locs hw20 hP hD hS => ?_)
        have hP : va_P D cls [(q 1, .inl (cy 4, 8, .inr (.inr (.inr (.inr (shv q)))))), (q 97, .inr (7, fShelf (fun k => q (97 + k)))), (q 98, .inl (cy 2, 40, .inr (.inl (fun _ => 0)))), (q 99, .inr (7, fShelf (fun k => q (99 + k)))), (q 100, .inl (cy 2, 40, .inr (.inl (fun _ => 0)))), (q 101, .inr (7, fShelf (fun k => q (101 + k)))), (q 102, .inl (cy 2, 40, .inr (.inl (fun _ => 0)))), (q 103, .inr (7, fShelf (fun k => q (103 + k)))), (q 104, .inl (cy 2, 40, .inr (.inl (fun _ => 0)))), (q 105, .inr (7, fShelf (fun k => q (105 + k)))), (q 106, .inl (cy 2, 40, .inr (.inl (fun _ => 0)))), (q 107, .inr (7, fShelf (fun k => q (107 + k)))), (q 108, .inl (cy 2, 40, .inr (.inl (fun _ => 0)))), (q 109, .inr (7, fShelf (fun k => q (109 + k)))), (q 110, .inl (cy 2, 40, .inr (.inl (fun _ => 0)))), (q 111, .inr (7, fShelf (fun k => q (111 + k)))), (q 112, .inl (cy 2, 40, .inr (.inl (fun _ => 0))))] H := hP
        have hD : va_D A [(q 1, .inl (cy 4, 8, .inr (.inr (.inr (.inr (shv q)))))), (q 97, .inr (7, fShelf (fun k => q (97 + k)))), (q 98, .inl (cy 2, 40, .inr (.inl (fun _ => 0)))), (q 99, .inr (7, fShelf (fun k => q (99 + k)))), (q 100, .inl (cy 2, 40, .inr (.inl (fun _ => 0)))), (q 101, .inr (7, fShelf (fun k => q (101 + k)))), (q 102, .inl (cy 2, 40, .inr (.inl (fun _ => 0)))), (q 103, .inr (7, fShelf (fun k => q (103 + k)))), (q 104, .inl (cy 2, 40, .inr (.inl (fun _ => 0)))), (q 105, .inr (7, fShelf (fun k => q (105 + k)))), (q 106, .inl (cy 2, 40, .inr (.inl (fun _ => 0)))), (q 107, .inr (7, fShelf (fun k => q (107 + k)))), (q 108, .inl (cy 2, 40, .inr (.inl (fun _ => 0)))), (q 109, .inr (7, fShelf (fun k => q (109 + k)))), (q 110, .inl (cy 2, 40, .inr (.inl (fun _ => 0)))), (q 111, .inr (7, fShelf (fun k => q (111 + k)))), (q 112, .inl (cy 2, 40, .inr (.inl (fun _ => 0))))] := hD
        subst hw20
        exact hc_ret Sx hr hlocks dd_X11_row_32 hS () (Or.inr ⟨by omega, rfl⟩) p_nil d_nil
    · have hl21 : Int32.toInt 0 = 0 := rfl
      have hl22 : Int32.toInt 4 = 4 := rfl
      subst ehw4
      refine lv_if_eq (tgt := 26) hx hb dd_X11_row_13 (by decide) (fun _ => ?_) (fun c => absurd c (by decide))
      refine lv_aload_n hx hb dd_X11_row_26 rfl (lv_at hl 0 rfl) ?_
      refine lv_bipush (v := (-2)) hx hb dd_X11_row_27 (by decide) ?_
      refine hk_i (wr := [(q 1, .inl (cy 4, 8, .inr (.inr (.inr (.inr (shv q)))))), (q 97, .inr (7, fShelf (fun k => q (97 + k)))), (q 98, .inl (cy 2, 40, .inr (.inl (fun _ => 0)))), (q 99, .inr (7, fShelf (fun k => q (99 + k)))), (q 100, .inl (cy 2, 40, .inr (.inl (fun _ => 0)))), (q 101, .inr (7, fShelf (fun k => q (101 + k)))), (q 102, .inl (cy 2, 40, .inr (.inl (fun _ => 0)))), (q 103, .inr (7, fShelf (fun k => q (103 + k)))), (q 104, .inl (cy 2, 40, .inr (.inl (fun _ => 0)))), (q 105, .inr (7, fShelf (fun k => q (105 + k)))), (q 106, .inl (cy 2, 40, .inr (.inl (fun _ => 0)))), (q 107, .inr (7, fShelf (fun k => q (107 + k)))), (q 108, .inl (cy 2, 40, .inr (.inl (fun _ => 0)))), (q 109, .inr (7, fShelf (fun k => q (109 + k)))), (q 110, .inl (cy 2, 40, .inr (.inl (fun _ => 0)))), (q 111, .inr (7, fShelf (fun k => q (111 + k)))), (q 112, .inl (cy 2, 40, .inr (.inl (fun _ => 0))))]) (c1 := 0) (s1 := 0) [0, 2] [1, 3, 4, 5, 6, 7, 8, 9, 10, 11, 12, 13, 14, 15, 16, 17, 18] (hc_V [.int (-2)] [] [0, 2] Sx hl.1 ws_X_63 md_X11_refuse (c_refuse_2 l D cy q) ⟨Nat.le_of_ble_eq_true rfl, Nat.le_of_ble_eq_true rfl⟩ hP hD rfl (by decide) hK nx_b (nx_w hX) (va_recv hK hP (ci := 11) (q0 := 0) rfl rfl) rfl rfl (Nat.le_of_ble_eq_true rfl) dd_X11_row_29 ⟨Nat.le_of_ble_eq_true rfl, Nat.le_of_ble_eq_true rfl⟩) hS hA hP hD rfl rfl (by decide) (by decide) rfl rfl (fun r23 u24 H locs hw25 hP hD hS => ?_)
      have hP : va_P D cls [(q 1, .inl (cy 4, 8, .inr (.inr (.inr (.inr (shv q)))))), (q 97, .inr (7, fShelf (fun k => q (97 + k)))), (q 98, .inl (cy 2, 40, .inr (.inl (fun _ => 0)))), (q 99, .inr (7, fShelf (fun k => q (99 + k)))), (q 100, .inl (cy 2, 40, .inr (.inl (fun _ => 0)))), (q 101, .inr (7, fShelf (fun k => q (101 + k)))), (q 102, .inl (cy 2, 40, .inr (.inl (fun _ => 0)))), (q 103, .inr (7, fShelf (fun k => q (103 + k)))), (q 104, .inl (cy 2, 40, .inr (.inl (fun _ => 0)))), (q 105, .inr (7, fShelf (fun k => q (105 + k)))), (q 106, .inl (cy 2, 40, .inr (.inl (fun _ => 0)))), (q 107, .inr (7, fShelf (fun k => q (107 + k)))), (q 108, .inl (cy 2, 40, .inr (.inl (fun _ => 0)))), (q 109, .inr (7, fShelf (fun k => q (109 + k)))), (q 110, .inl (cy 2, 40, .inr (.inl (fun _ => 0)))), (q 111, .inr (7, fShelf (fun k => q (111 + k)))), (q 112, .inl (cy 2, 40, .inr (.inl (fun _ => 0))))] H := hP
      have hD : va_D A [(q 1, .inl (cy 4, 8, .inr (.inr (.inr (.inr (shv q)))))), (q 97, .inr (7, fShelf (fun k => q (97 + k)))), (q 98, .inl (cy 2, 40, .inr (.inl (fun _ => 0)))), (q 99, .inr (7, fShelf (fun k => q (99 + k)))), (q 100, .inl (cy 2, 40, .inr (.inl (fun _ => 0)))), (q 101, .inr (7, fShelf (fun k => q (101 + k)))), (q 102, .inl (cy 2, 40, .inr (.inl (fun _ => 0)))), (q 103, .inr (7, fShelf (fun k => q (103 + k)))), (q 104, .inl (cy 2, 40, .inr (.inl (fun _ => 0)))), (q 105, .inr (7, fShelf (fun k => q (105 + k)))), (q 106, .inl (cy 2, 40, .inr (.inl (fun _ => 0)))), (q 107, .inr (7, fShelf (fun k => q (107 + k)))), (q 108, .inl (cy 2, 40, .inr (.inl (fun _ => 0)))), (q 109, .inr (7, fShelf (fun k => q (109 + k)))), (q 110, .inl (cy 2, 40, .inr (.inl (fun _ => 0)))), (q 111, .inr (7, fShelf (fun k => q (111 + k)))), (q 112, .inl (cy 2, 40, .inr (.inl (fun _ => 0))))] := hD
      subst hw25
      exact hc_ret Sx hr hlocks dd_X11_row_32 hS () (Or.inr ⟨by omega, rfl⟩) p_nil d_nil
  · subst ehw2
    refine lv_if_eq (tgt := 26) hx hb dd_X11_row_4 (by decide) (fun _ => ?_) (fun c => absurd c (by decide))
    refine lv_aload_n hx hb dd_X11_row_26 rfl (lv_at hl 0 rfl) ?_
    refine lv_bipush (v := (-2)) hx hb dd_X11_row_27 (by decide) ?_
    refine hk_i (wr := [(q 1, .inl (cy 4, 8, .inr (.inr (.inr (.inr (shv q)))))), (q 97, .inr (7, fShelf (fun k => q (97 + k)))), (q 98, .inl (cy 2, 40, .inr (.inl (fun _ => 0)))), (q 99, .inr (7, fShelf (fun k => q (99 + k)))), (q 100, .inl (cy 2, 40, .inr (.inl (fun _ => 0)))), (q 101, .inr (7, fShelf (fun k => q (101 + k)))), (q 102, .inl (cy 2, 40, .inr (.inl (fun _ => 0)))), (q 103, .inr (7, fShelf (fun k => q (103 + k)))), (q 104, .inl (cy 2, 40, .inr (.inl (fun _ => 0)))), (q 105, .inr (7, fShelf (fun k => q (105 + k)))), (q 106, .inl (cy 2, 40, .inr (.inl (fun _ => 0)))), (q 107, .inr (7, fShelf (fun k => q (107 + k)))), (q 108, .inl (cy 2, 40, .inr (.inl (fun _ => 0)))), (q 109, .inr (7, fShelf (fun k => q (109 + k)))), (q 110, .inl (cy 2, 40, .inr (.inl (fun _ => 0)))), (q 111, .inr (7, fShelf (fun k => q (111 + k)))), (q 112, .inl (cy 2, 40, .inr (.inl (fun _ => 0))))]) (c1 := 0) (s1 := 0) [0, 2] [1, 3, 4, 5, 6, 7, 8, 9, 10, 11, 12, 13, 14, 15, 16, 17, 18] (hc_V [.int (-2)] [] [0, 2] Sx hl.1 ws_X_63 md_X11_refuse (c_refuse_2 l D cy q) ⟨Nat.le_of_ble_eq_true rfl, Nat.le_of_ble_eq_true rfl⟩ hP hD rfl (by decide) hK nx_b (nx_w hX) (va_recv hK hP (ci := 11) (q0 := 0) rfl rfl) rfl rfl (Nat.le_of_ble_eq_true rfl) dd_X11_row_29 ⟨Nat.le_of_ble_eq_true rfl, Nat.le_of_ble_eq_true rfl⟩) hS hA hP hD rfl rfl (by decide) (by decide) rfl rfl (fun r26 u27 H locs hw28 hP hD hS => ?_)
    have hP : va_P D cls [(q 1, .inl (cy 4, 8, .inr (.inr (.inr (.inr (shv q)))))), (q 97, .inr (7, fShelf (fun k => q (97 + k)))), (q 98, .inl (cy 2, 40, .inr (.inl (fun _ => 0)))), (q 99, .inr (7, fShelf (fun k => q (99 + k)))), (q 100, .inl (cy 2, 40, .inr (.inl (fun _ => 0)))), (q 101, .inr (7, fShelf (fun k => q (101 + k)))), (q 102, .inl (cy 2, 40, .inr (.inl (fun _ => 0)))), (q 103, .inr (7, fShelf (fun k => q (103 + k)))), (q 104, .inl (cy 2, 40, .inr (.inl (fun _ => 0)))), (q 105, .inr (7, fShelf (fun k => q (105 + k)))), (q 106, .inl (cy 2, 40, .inr (.inl (fun _ => 0)))), (q 107, .inr (7, fShelf (fun k => q (107 + k)))), (q 108, .inl (cy 2, 40, .inr (.inl (fun _ => 0)))), (q 109, .inr (7, fShelf (fun k => q (109 + k)))), (q 110, .inl (cy 2, 40, .inr (.inl (fun _ => 0)))), (q 111, .inr (7, fShelf (fun k => q (111 + k)))), (q 112, .inl (cy 2, 40, .inr (.inl (fun _ => 0))))] H := hP
    have hD : va_D A [(q 1, .inl (cy 4, 8, .inr (.inr (.inr (.inr (shv q)))))), (q 97, .inr (7, fShelf (fun k => q (97 + k)))), (q 98, .inl (cy 2, 40, .inr (.inl (fun _ => 0)))), (q 99, .inr (7, fShelf (fun k => q (99 + k)))), (q 100, .inl (cy 2, 40, .inr (.inl (fun _ => 0)))), (q 101, .inr (7, fShelf (fun k => q (101 + k)))), (q 102, .inl (cy 2, 40, .inr (.inl (fun _ => 0)))), (q 103, .inr (7, fShelf (fun k => q (103 + k)))), (q 104, .inl (cy 2, 40, .inr (.inl (fun _ => 0)))), (q 105, .inr (7, fShelf (fun k => q (105 + k)))), (q 106, .inl (cy 2, 40, .inr (.inl (fun _ => 0)))), (q 107, .inr (7, fShelf (fun k => q (107 + k)))), (q 108, .inl (cy 2, 40, .inr (.inl (fun _ => 0)))), (q 109, .inr (7, fShelf (fun k => q (109 + k)))), (q 110, .inl (cy 2, 40, .inr (.inl (fun _ => 0)))), (q 111, .inr (7, fShelf (fun k => q (111 + k)))), (q 112, .inl (cy 2, 40, .inr (.inl (fun _ => 0))))] := hD
    subst hw28
    exact hc_ret Sx hr hlocks dd_X11_row_32 hS () (Or.inr ⟨by omega, rfl⟩) p_nil d_nil
set_option maxHeartbeats 4000000 in
set_option maxRecDepth 100000 in
theorem c_X_set (l : Launch) (D : va_G) (cy : Nat → ClassId) (q : Nat → Nat) (sf : Int32) (ix : Int32) (lv : Int64) : HC l my_X11_set mb_X11_set 6 ((some .int)) (rmD 4 0 0) D (TY cy) [.ref (q 0), .int sf, .int ix, .long lv] NX [(q 0, .inr (11, fX q)), (q 1, .inl (cy 4, 8, .inr (.inr (.inr (.inr (shv q)))))), (q 2, .inl (cy 0, 5, .inl (fun _ => 0))), (q 97, .inr (7, fShelf (fun k => q (97 + k)))), (q 98, .inl (cy 2, 40, .inr (.inl (fun _ => 0)))), (q 99, .inr (7, fShelf (fun k => q (99 + k)))), (q 100, .inl (cy 2, 40, .inr (.inl (fun _ => 0)))), (q 101, .inr (7, fShelf (fun k => q (101 + k)))), (q 102, .inl (cy 2, 40, .inr (.inl (fun _ => 0)))), (q 103, .inr (7, fShelf (fun k => q (103 + k)))), (q 104, .inl (cy 2, 40, .inr (.inl (fun _ => 0)))), (q 105, .inr (7, fShelf (fun k => q (105 + k)))), (q 106, .inl (cy 2, 40, .inr (.inl (fun _ => 0)))), (q 107, .inr (7, fShelf (fun k => q (107 + k)))), (q 108, .inl (cy 2, 40, .inr (.inl (fun _ => 0)))), (q 109, .inr (7, fShelf (fun k => q (109 + k)))), (q 110, .inl (cy 2, 40, .inr (.inl (fun _ => 0)))), (q 111, .inr (7, fShelf (fun k => q (111 + k)))), (q 112, .inl (cy 2, 40, .inr (.inl (fun _ => 0))))] (QI (S := Unit) D (fun r _ => if2 (0 ≤ sf.toInt ∧ sf.toInt ≤ 7) (-4) (-2) r) (fun _ => [])) := by
  refine hc_intro (by decide) (Nat.le_of_ble_eq_true rfl) (fun p e s m below meth c A ls Sx hr hlocks hin hl hP hD hK hS hA hX => ?_)
  have hx := Sx.1
  have hb := Sx.2.1
  have hl : lv_has ls 6 [(0, .ref (q 0)), (1, .int sf), (2, .int ix), (3, .long lv)] := hl
  have hP : va_P D cls [(q 0, .inr (11, fX q)), (q 1, .inl (cy 4, 8, .inr (.inr (.inr (.inr (shv q)))))), (q 2, .inl (cy 0, 5, .inl (fun _ => 0))), (q 97, .inr (7, fShelf (fun k => q (97 + k)))), (q 98, .inl (cy 2, 40, .inr (.inl (fun _ => 0)))), (q 99, .inr (7, fShelf (fun k => q (99 + k)))), (q 100, .inl (cy 2, 40, .inr (.inl (fun _ => 0)))), (q 101, .inr (7, fShelf (fun k => q (101 + k)))), (q 102, .inl (cy 2, 40, .inr (.inl (fun _ => 0)))), (q 103, .inr (7, fShelf (fun k => q (103 + k)))), (q 104, .inl (cy 2, 40, .inr (.inl (fun _ => 0)))), (q 105, .inr (7, fShelf (fun k => q (105 + k)))), (q 106, .inl (cy 2, 40, .inr (.inl (fun _ => 0)))), (q 107, .inr (7, fShelf (fun k => q (107 + k)))), (q 108, .inl (cy 2, 40, .inr (.inl (fun _ => 0)))), (q 109, .inr (7, fShelf (fun k => q (109 + k)))), (q 110, .inl (cy 2, 40, .inr (.inl (fun _ => 0)))), (q 111, .inr (7, fShelf (fun k => q (111 + k)))), (q 112, .inl (cy 2, 40, .inr (.inl (fun _ => 0))))] s.heap := hP
  have hD : va_D A [(q 0, .inr (11, fX q)), (q 1, .inl (cy 4, 8, .inr (.inr (.inr (.inr (shv q)))))), (q 2, .inl (cy 0, 5, .inl (fun _ => 0))), (q 97, .inr (7, fShelf (fun k => q (97 + k)))), (q 98, .inl (cy 2, 40, .inr (.inl (fun _ => 0)))), (q 99, .inr (7, fShelf (fun k => q (99 + k)))), (q 100, .inl (cy 2, 40, .inr (.inl (fun _ => 0)))), (q 101, .inr (7, fShelf (fun k => q (101 + k)))), (q 102, .inl (cy 2, 40, .inr (.inl (fun _ => 0)))), (q 103, .inr (7, fShelf (fun k => q (103 + k)))), (q 104, .inl (cy 2, 40, .inr (.inl (fun _ => 0)))), (q 105, .inr (7, fShelf (fun k => q (105 + k)))), (q 106, .inl (cy 2, 40, .inr (.inl (fun _ => 0)))), (q 107, .inr (7, fShelf (fun k => q (107 + k)))), (q 108, .inl (cy 2, 40, .inr (.inl (fun _ => 0)))), (q 109, .inr (7, fShelf (fun k => q (109 + k)))), (q 110, .inl (cy 2, 40, .inr (.inl (fun _ => 0)))), (q 111, .inr (7, fShelf (fun k => q (111 + k)))), (q 112, .inl (cy 2, 40, .inr (.inl (fun _ => 0))))] := hD
  refine lv_aload_n hx hb dd_X11_set_0 rfl (lv_at hl 0 rfl) ?_
  refine lv_iload_n hx hb dd_X11_set_1 rfl (lv_at hl 1 rfl) ?_
  refine pk_i (pc_V [.int sf] [] Sx hl.1 ws_X_71 md_X11_refusalOfRow (c_refusalOfRow l D cy q sf) ⟨rfl, rfl⟩ ⟨Nat.le_of_ble_eq_true rfl, Nat.le_of_ble_eq_true rfl⟩ (hP.sub [0, 1, 3, 4, 5, 6, 7, 8, 9, 10, 11, 12, 13, 14, 15, 16, 17, 18] rfl) hK ns_b (ns_w hX) (va_recv hK hP (ci := 11) (q0 := 0) rfl rfl) rfl rfl (Nat.le_of_ble_eq_true rfl) dd_X11_set_2 ⟨Nat.le_of_ble_eq_true rfl, Nat.le_of_ble_eq_true rfl⟩) (fun r1 hw2 => ?_)
  rcases hw2 with ⟨hw2, ehw2⟩ | ⟨hw2, ehw2⟩
  · subst ehw2
    refine lv_istore (lv' := [(5, .int (-4)), (0, .ref (q 0)), (1, .int sf), (2, .int ix), (3, .long lv)]) hx hb dd_X11_set_5 hl (by decide) rfl (fun ls hl => ?_)
    refine lv_iload hx hb dd_X11_set_7 (lv_at hl 0 rfl) ?_
    refine lv_if_eq (tgt := 19) hx hb dd_X11_set_9 (by decide) (fun c => absurd c (by decide)) (fun _ => ?_)
    refine lv_aload_n hx hb dd_X11_set_12 rfl (lv_at hl 1 rfl) ?_
    refine lv_iload hx hb dd_X11_set_13 (lv_at hl 0 rfl) ?_
    refine hk_i (wr := [(q 1, .inl (cy 4, 8, .inr (.inr (.inr (.inr (shv q)))))), (q 97, .inr (7, fShelf (fun k => q (97 + k)))), (q 98, .inl (cy 2, 40, .inr (.inl (fun _ => 0)))), (q 99, .inr (7, fShelf (fun k => q (99 + k)))), (q 100, .inl (cy 2, 40, .inr (.inl (fun _ => 0)))), (q 101, .inr (7, fShelf (fun k => q (101 + k)))), (q 102, .inl (cy 2, 40, .inr (.inl (fun _ => 0)))), (q 103, .inr (7, fShelf (fun k => q (103 + k)))), (q 104, .inl (cy 2, 40, .inr (.inl (fun _ => 0)))), (q 105, .inr (7, fShelf (fun k => q (105 + k)))), (q 106, .inl (cy 2, 40, .inr (.inl (fun _ => 0)))), (q 107, .inr (7, fShelf (fun k => q (107 + k)))), (q 108, .inl (cy 2, 40, .inr (.inl (fun _ => 0)))), (q 109, .inr (7, fShelf (fun k => q (109 + k)))), (q 110, .inl (cy 2, 40, .inr (.inl (fun _ => 0)))), (q 111, .inr (7, fShelf (fun k => q (111 + k)))), (q 112, .inl (cy 2, 40, .inr (.inl (fun _ => 0))))]) (c1 := 0) (s1 := 0) [0, 2] [1, 3, 4, 5, 6, 7, 8, 9, 10, 11, 12, 13, 14, 15, 16, 17, 18] (hc_V [.int (-4)] [] [0, 2] Sx hl.1 ws_X_63 md_X11_refuse (c_refuse_4 l D cy q) ⟨Nat.le_of_ble_eq_true rfl, Nat.le_of_ble_eq_true rfl⟩ hP hD rfl (by decide) hK nx_b (nx_w hX) (va_recv hK hP (ci := 11) (q0 := 0) rfl rfl) rfl rfl (Nat.le_of_ble_eq_true rfl) dd_X11_set_15 ⟨Nat.le_of_ble_eq_true rfl, Nat.le_of_ble_eq_true rfl⟩) hS hA hP hD rfl rfl (by decide) (by decide) rfl rfl (fun r3 u4 H locs hw5 hP hD hS => ?_)
    have hP : va_P D cls [(q 1, .inl (cy 4, 8, .inr (.inr (.inr (.inr (shv q)))))), (q 97, .inr (7, fShelf (fun k => q (97 + k)))), (q 98, .inl (cy 2, 40, .inr (.inl (fun _ => 0)))), (q 99, .inr (7, fShelf (fun k => q (99 + k)))), (q 100, .inl (cy 2, 40, .inr (.inl (fun _ => 0)))), (q 101, .inr (7, fShelf (fun k => q (101 + k)))), (q 102, .inl (cy 2, 40, .inr (.inl (fun _ => 0)))), (q 103, .inr (7, fShelf (fun k => q (103 + k)))), (q 104, .inl (cy 2, 40, .inr (.inl (fun _ => 0)))), (q 105, .inr (7, fShelf (fun k => q (105 + k)))), (q 106, .inl (cy 2, 40, .inr (.inl (fun _ => 0)))), (q 107, .inr (7, fShelf (fun k => q (107 + k)))), (q 108, .inl (cy 2, 40, .inr (.inl (fun _ => 0)))), (q 109, .inr (7, fShelf (fun k => q (109 + k)))), (q 110, .inl (cy 2, 40, .inr (.inl (fun _ => 0)))), (q 111, .inr (7, fShelf (fun k => q (111 + k)))), (q 112, .inl (cy 2, 40, .inr (.inl (fun _ => 0))))] H := hP
    have hD : va_D A [(q 1, .inl (cy 4, 8, .inr (.inr (.inr (.inr (shv q)))))), (q 97, .inr (7, fShelf (fun k => q (97 + k)))), (q 98, .inl (cy 2, 40, .inr (.inl (fun _ => 0)))), (q 99, .inr (7, fShelf (fun k => q (99 + k)))), (q 100, .inl (cy 2, 40, .inr (.inl (fun _ => 0)))), (q 101, .inr (7, fShelf (fun k => q (101 + k)))), (q 102, .inl (cy 2, 40, .inr (.inl (fun _ => 0)))), (q 103, .inr (7, fShelf (fun k => q (103 + k)))), (q 104, .inl (cy 2, 40, .inr (.inl (fun _ => 0)))), (q 105, .inr (7, fShelf (fun k => q (105 + k)))), (q 106, .inl (cy 2, 40, .inr (.inl (fun _ => 0)))), (q 107, .inr (7, fShelf (fun k => q (107 + k)))), (q 108, .inl (cy 2, 40, .inr (.inl (fun _ => 0)))), (q 109, .inr (7, fShelf (fun k => q (109 + k)))), (q 110, .inl (cy 2, 40, .inr (.inl (fun _ => 0)))), (q 111, .inr (7, fShelf (fun k => q (111 + k)))), (q 112, .inl (cy 2, 40, .inr (.inl (fun _ => 0))))] := hD
    subst hw5
    exact hc_ret Sx hr hlocks dd_X11_set_18 hS () (Or.inl ⟨by omega, rfl⟩) p_nil d_nil
  · subst ehw2
    refine lv_istore (lv' := [(5, .int (-2)), (0, .ref (q 0)), (1, .int sf), (2, .int ix), (3, .long lv)]) hx hb dd_X11_set_5 hl (by decide) rfl (fun ls hl => ?_)
    refine lv_iload hx hb dd_X11_set_7 (lv_at hl 0 rfl) ?_
    refine lv_if_eq (tgt := 19) hx hb dd_X11_set_9 (by decide) (fun c => absurd c (by decide)) (fun _ => ?_)
    refine lv_aload_n hx hb dd_X11_set_12 rfl (lv_at hl 1 rfl) ?_
    refine lv_iload hx hb dd_X11_set_13 (lv_at hl 0 rfl) ?_
    refine hk_i (wr := [(q 1, .inl (cy 4, 8, .inr (.inr (.inr (.inr (shv q)))))), (q 97, .inr (7, fShelf (fun k => q (97 + k)))), (q 98, .inl (cy 2, 40, .inr (.inl (fun _ => 0)))), (q 99, .inr (7, fShelf (fun k => q (99 + k)))), (q 100, .inl (cy 2, 40, .inr (.inl (fun _ => 0)))), (q 101, .inr (7, fShelf (fun k => q (101 + k)))), (q 102, .inl (cy 2, 40, .inr (.inl (fun _ => 0)))), (q 103, .inr (7, fShelf (fun k => q (103 + k)))), (q 104, .inl (cy 2, 40, .inr (.inl (fun _ => 0)))), (q 105, .inr (7, fShelf (fun k => q (105 + k)))), (q 106, .inl (cy 2, 40, .inr (.inl (fun _ => 0)))), (q 107, .inr (7, fShelf (fun k => q (107 + k)))), (q 108, .inl (cy 2, 40, .inr (.inl (fun _ => 0)))), (q 109, .inr (7, fShelf (fun k => q (109 + k)))), (q 110, .inl (cy 2, 40, .inr (.inl (fun _ => 0)))), (q 111, .inr (7, fShelf (fun k => q (111 + k)))), (q 112, .inl (cy 2, 40, .inr (.inl (fun _ => 0))))]) (c1 := 0) (s1 := 0) [0, 2] [1, 3, 4, 5, 6, 7, 8, 9, 10, 11, 12, 13, 14, 15, 16, 17, 18] (hc_V [.int (-2)] [] [0, 2] Sx hl.1 ws_X_63 md_X11_refuse (c_refuse_2 l D cy q) ⟨Nat.le_of_ble_eq_true rfl, Nat.le_of_ble_eq_true rfl⟩ hP hD rfl (by decide) hK nx_b (nx_w hX) (va_recv hK hP (ci := 11) (q0 := 0) rfl rfl) rfl rfl (Nat.le_of_ble_eq_true rfl) dd_X11_set_15 ⟨Nat.le_of_ble_eq_true rfl, Nat.le_of_ble_eq_true rfl⟩) hS hA hP hD rfl rfl (by decide) (by decide) rfl rfl (fun r6 u7 H locs hw8 hP hD hS => ?_)
    have hP : va_P D cls [(q 1, .inl (cy 4, 8, .inr (.inr (.inr (.inr (shv q)))))), (q 97, .inr (7, fShelf (fun k => q (97 + k)))), (q 98, .inl (cy 2, 40, .inr (.inl (fun _ => 0)))), (q 99, .inr (7, fShelf (fun k => q (99 + k)))), (q 100, .inl (cy 2, 40, .inr (.inl (fun _ => 0)))), (q 101, .inr (7, fShelf (fun k => q (101 + k)))), (q 102, .inl (cy 2, 40, .inr (.inl (fun _ => 0)))), (q 103, .inr (7, fShelf (fun k => q (103 + k)))), (q 104, .inl (cy 2, 40, .inr (.inl (fun _ => 0)))), (q 105, .inr (7, fShelf (fun k => q (105 + k)))), (q 106, .inl (cy 2, 40, .inr (.inl (fun _ => 0)))), (q 107, .inr (7, fShelf (fun k => q (107 + k)))), (q 108, .inl (cy 2, 40, .inr (.inl (fun _ => 0)))), (q 109, .inr (7, fShelf (fun k => q (109 + k)))), (q 110, .inl (cy 2, 40, .inr (.inl (fun _ => 0)))), (q 111, .inr (7, fShelf (fun k => q (111 + k)))), (q 112, .inl (cy 2, 40, .inr (.inl (fun _ => 0))))] H := hP
    have hD : va_D A [(q 1, .inl (cy 4, 8, .inr (.inr (.inr (.inr (shv q)))))), (q 97, .inr (7, fShelf (fun k => q (97 + k)))), (q 98, .inl (cy 2, 40, .inr (.inl (fun _ => 0)))), (q 99, .inr (7, fShelf (fun k => q (99 + k)))), (q 100, .inl (cy 2, 40, .inr (.inl (fun _ => 0)))), (q 101, .inr (7, fShelf (fun k => q (101 + k)))), (q 102, .inl (cy 2, 40, .inr (.inl (fun _ => 0)))), (q 103, .inr (7, fShelf (fun k => q (103 + k)))), (q 104, .inl (cy 2, 40, .inr (.inl (fun _ => 0)))), (q 105, .inr (7, fShelf (fun k => q (105 + k)))), (q 106, .inl (cy 2, 40, .inr (.inl (fun _ => 0)))), (q 107, .inr (7, fShelf (fun k => q (107 + k)))), (q 108, .inl (cy 2, 40, .inr (.inl (fun _ => 0)))), (q 109, .inr (7, fShelf (fun k => q (109 + k)))), (q 110, .inl (cy 2, 40, .inr (.inl (fun _ => 0)))), (q 111, .inr (7, fShelf (fun k => q (111 + k)))), (q 112, .inl (cy 2, 40, .inr (.inl (fun _ => 0))))] := hD
    subst hw8
    exact hc_ret Sx hr hlocks dd_X11_set_18 hS () (Or.inr ⟨by omega, rfl⟩) p_nil d_nil
set_option maxHeartbeats 4000000 in
set_option maxRecDepth 100000 in
theorem c_X_copy (l : Launch) (D : va_G) (cy : Nat → ClassId) (q : Nat → Nat) (pp : Int32) (qq : Int32) (ia : Int32) (ib : Int32) (nn : Int32) : HC l my_X11_copy mb_X11_copy 8 ((some .int)) (rmD 3 0 0) D (TY cy) [.ref (q 0), .int pp, .int qq, .int ia, .int ib, .int nn] NX [(q 0, .inr (11, fX q)), (q 1, .inl (cy 4, 8, .inr (.inr (.inr (.inr (shv q)))))), (q 2, .inl (cy 0, 5, .inl (fun _ => 0))), (q 97, .inr (7, fShelf (fun k => q (97 + k)))), (q 98, .inl (cy 2, 40, .inr (.inl (fun _ => 0)))), (q 99, .inr (7, fShelf (fun k => q (99 + k)))), (q 100, .inl (cy 2, 40, .inr (.inl (fun _ => 0)))), (q 101, .inr (7, fShelf (fun k => q (101 + k)))), (q 102, .inl (cy 2, 40, .inr (.inl (fun _ => 0)))), (q 103, .inr (7, fShelf (fun k => q (103 + k)))), (q 104, .inl (cy 2, 40, .inr (.inl (fun _ => 0)))), (q 105, .inr (7, fShelf (fun k => q (105 + k)))), (q 106, .inl (cy 2, 40, .inr (.inl (fun _ => 0)))), (q 107, .inr (7, fShelf (fun k => q (107 + k)))), (q 108, .inl (cy 2, 40, .inr (.inl (fun _ => 0)))), (q 109, .inr (7, fShelf (fun k => q (109 + k)))), (q 110, .inl (cy 2, 40, .inr (.inl (fun _ => 0)))), (q 111, .inr (7, fShelf (fun k => q (111 + k)))), (q 112, .inl (cy 2, 40, .inr (.inl (fun _ => 0))))] (QI (S := Unit) D (fun r _ => if2 (0 ≤ pp.toInt ∧ pp.toInt ≤ 7 ∧ 0 ≤ qq.toInt ∧ qq.toInt ≤ 7) (-4) (-2) r) (fun _ => [])) := by
  refine hc_intro (by decide) (Nat.le_of_ble_eq_true rfl) (fun p e s m below meth c A ls Sx hr hlocks hin hl hP hD hK hS hA hX => ?_)
  have hx := Sx.1
  have hb := Sx.2.1
  have hl : lv_has ls 8 [(0, .ref (q 0)), (1, .int pp), (2, .int qq), (3, .int ia), (4, .int ib), (5, .int nn)] := hl
  have hP : va_P D cls [(q 0, .inr (11, fX q)), (q 1, .inl (cy 4, 8, .inr (.inr (.inr (.inr (shv q)))))), (q 2, .inl (cy 0, 5, .inl (fun _ => 0))), (q 97, .inr (7, fShelf (fun k => q (97 + k)))), (q 98, .inl (cy 2, 40, .inr (.inl (fun _ => 0)))), (q 99, .inr (7, fShelf (fun k => q (99 + k)))), (q 100, .inl (cy 2, 40, .inr (.inl (fun _ => 0)))), (q 101, .inr (7, fShelf (fun k => q (101 + k)))), (q 102, .inl (cy 2, 40, .inr (.inl (fun _ => 0)))), (q 103, .inr (7, fShelf (fun k => q (103 + k)))), (q 104, .inl (cy 2, 40, .inr (.inl (fun _ => 0)))), (q 105, .inr (7, fShelf (fun k => q (105 + k)))), (q 106, .inl (cy 2, 40, .inr (.inl (fun _ => 0)))), (q 107, .inr (7, fShelf (fun k => q (107 + k)))), (q 108, .inl (cy 2, 40, .inr (.inl (fun _ => 0)))), (q 109, .inr (7, fShelf (fun k => q (109 + k)))), (q 110, .inl (cy 2, 40, .inr (.inl (fun _ => 0)))), (q 111, .inr (7, fShelf (fun k => q (111 + k)))), (q 112, .inl (cy 2, 40, .inr (.inl (fun _ => 0))))] s.heap := hP
  have hD : va_D A [(q 0, .inr (11, fX q)), (q 1, .inl (cy 4, 8, .inr (.inr (.inr (.inr (shv q)))))), (q 2, .inl (cy 0, 5, .inl (fun _ => 0))), (q 97, .inr (7, fShelf (fun k => q (97 + k)))), (q 98, .inl (cy 2, 40, .inr (.inl (fun _ => 0)))), (q 99, .inr (7, fShelf (fun k => q (99 + k)))), (q 100, .inl (cy 2, 40, .inr (.inl (fun _ => 0)))), (q 101, .inr (7, fShelf (fun k => q (101 + k)))), (q 102, .inl (cy 2, 40, .inr (.inl (fun _ => 0)))), (q 103, .inr (7, fShelf (fun k => q (103 + k)))), (q 104, .inl (cy 2, 40, .inr (.inl (fun _ => 0)))), (q 105, .inr (7, fShelf (fun k => q (105 + k)))), (q 106, .inl (cy 2, 40, .inr (.inl (fun _ => 0)))), (q 107, .inr (7, fShelf (fun k => q (107 + k)))), (q 108, .inl (cy 2, 40, .inr (.inl (fun _ => 0)))), (q 109, .inr (7, fShelf (fun k => q (109 + k)))), (q 110, .inl (cy 2, 40, .inr (.inl (fun _ => 0)))), (q 111, .inr (7, fShelf (fun k => q (111 + k)))), (q 112, .inl (cy 2, 40, .inr (.inl (fun _ => 0))))] := hD
  refine lv_iload_n hx hb dd_X11_copy_0 rfl (lv_at hl 1 rfl) ?_
  refine pk_i (pc_T [.int pp] [] Sx hl.1 ws_X_55 md_X11_isShelf (c_isShelf l D cy pp) ⟨rfl, rfl⟩ ⟨Nat.le_of_ble_eq_true rfl, Nat.le_of_ble_eq_true rfl⟩ p_nil hK ns_b (ns_w hX) rfl rfl (Nat.le_of_ble_eq_true rfl) dd_X11_copy_1 ⟨Nat.le_of_ble_eq_true rfl, Nat.le_of_ble_eq_true rfl⟩) (fun r1 hw2 => ?_)
  rcases hw2 with ⟨hw2, ehw2⟩ | ⟨hw2, ehw2⟩
  · subst ehw2
    refine lv_if_eq (tgt := 14) hx hb dd_X11_copy_4 (by decide) (fun c => absurd c (by decide)) (fun _ => ?_)
    refine lv_iload_n hx hb dd_X11_copy_7 rfl (lv_at hl 2 rfl) ?_
    refine pk_i (pc_T [.int qq] [] Sx hl.1 ws_X_55 md_X11_isShelf (c_isShelf l D cy qq) ⟨rfl, rfl⟩ ⟨Nat.le_of_ble_eq_true rfl, Nat.le_of_ble_eq_true rfl⟩ p_nil hK ns_b (ns_w hX) rfl rfl (Nat.le_of_ble_eq_true rfl) dd_X11_copy_8 ⟨Nat.le_of_ble_eq_true rfl, Nat.le_of_ble_eq_true rfl⟩) (fun r3 hw4 => ?_)
    rcases hw4 with ⟨hw4, ehw4⟩ | ⟨hw4, ehw4⟩
    · subst ehw4
      refine lv_if_ne (tgt := 21) hx hb dd_X11_copy_11 (by decide) (fun _ => ?_) (fun c => absurd c (by decide))
      refine lv_aload_n hx hb dd_X11_copy_21 rfl (lv_at hl 0 rfl) ?_
      refine wk_get (v := .ref (q 1)) Sx ef_11 hK hP 0 rfl rfl 0 (by decide) kk_382 rfl dd_X11_copy_22 ?_
      refine lv_iload_n hx hb dd_X11_copy_25 rfl (lv_at hl 1 rfl) ?_
      have hi5 : vp_in pp 8 := (vi_of (by omega))
      refine va_aldq hx hb hK hP 1 4 rfl rfl hi5 dd_X11_copy_26 ?_
      obtain ⟨j6, hjj6, ejj6⟩ : ∃ y, y < 8 ∧ pp.toNatClampNeg = y := ⟨_, vi_lt hi5, rfl⟩
      have hpj6 := sh_p (cy := cy) (q := q) (hP.sub [3, 4, 5, 6, 7, 8, 9, 10, 11, 12, 13, 14, 15, 16, 17, 18] rfl) j6 hjj6
      have hdj6 := sh_d (cy := cy) (q := q) (hD.sub [3, 4, 5, 6, 7, 8, 9, 10, 11, 12, 13, 14, 15, 16, 17, 18] (by decide) rfl) j6 hjj6
      refine wk_val (v := .ref (q (97 + 2 * j6))) (by rw [ejj6, shv_at _ _ hjj6]; rfl) ?_
      refine lv_astore (lv' := [(6, .ref (q (97 + 2 * j6))), (0, .ref (q 0)), (1, .int pp), (2, .int qq), (3, .int ia), (4, .int ib), (5, .int nn)]) hx hb dd_X11_copy_27 hl (by decide) rfl (fun ls hl => ?_)
      refine lv_aload_n hx hb dd_X11_copy_29 rfl (lv_at hl 1 rfl) ?_
      refine wk_get (v := .ref (q 1)) Sx ef_11 hK hP 0 rfl rfl 0 (by decide) kk_382 rfl dd_X11_copy_30 ?_
      refine lv_iload_n hx hb dd_X11_copy_33 rfl (lv_at hl 3 rfl) ?_
      have hi7 : vp_in qq 8 := (vi_of (by omega))
      refine va_aldq hx hb hK hP 1 4 rfl rfl hi7 dd_X11_copy_34 ?_
      obtain ⟨j8, hjj8, ejj8⟩ : ∃ y, y < 8 ∧ qq.toNatClampNeg = y := ⟨_, vi_lt hi7, rfl⟩
      have hpj8 := sh_p (cy := cy) (q := q) (hP.sub [3, 4, 5, 6, 7, 8, 9, 10, 11, 12, 13, 14, 15, 16, 17, 18] rfl) j8 hjj8
      have hdj8 := sh_d (cy := cy) (q := q) (hD.sub [3, 4, 5, 6, 7, 8, 9, 10, 11, 12, 13, 14, 15, 16, 17, 18] (by decide) rfl) j8 hjj8
      refine wk_val (v := .ref (q (97 + 2 * j8))) (by rw [ejj8, shv_at _ _ hjj8]; rfl) ?_
      refine lv_astore (lv' := [(7, .ref (q (97 + 2 * j8))), (6, .ref (q (97 + 2 * j6))), (0, .ref (q 0)), (1, .int pp), (2, .int qq), (3, .int ia), (4, .int ib), (5, .int nn)]) hx hb dd_X11_copy_35 hl (by decide) rfl (fun ls hl => ?_)
      refine lv_aload hx hb dd_X11_copy_37 (lv_at hl 1 rfl) ?_
      refine pk_i (pc_V [] [] Sx hl.1 ws_X_82 md_X7_hasThing (c_Shelf_hasThing l D cy (fun k => q (97 + 2 * j6 + k))) ⟨rfl, rfl⟩ ⟨Nat.le_of_ble_eq_true rfl, Nat.le_of_ble_eq_true rfl⟩ (hpj6.sub [0] rfl) hK ns_b (ns_w hX) (va_recv hK hpj6 (ci := 7) (q0 := 0) rfl rfl) rfl rfl (Nat.le_of_ble_eq_true rfl) dd_X11_copy_39 ⟨Nat.le_of_ble_eq_true rfl, Nat.le_of_ble_eq_true rfl⟩) (fun r9 hw10 => ?_)
      subst hw10
      refine lv_if_ne (tgt := 53) hx hb dd_X11_copy_42 (by decide) (fun c => absurd c (by decide)) (fun _ => ?_)
      refine lv_aload hx hb dd_X11_copy_45 (lv_at hl 0 rfl) ?_
      refine pk_i (pc_V [] [] Sx hl.1 ws_X_82 md_X7_hasThing (c_Shelf_hasThing l D cy (fun k => q (97 + 2 * j8 + k))) ⟨rfl, rfl⟩ ⟨Nat.le_of_ble_eq_true rfl, Nat.le_of_ble_eq_true rfl⟩ (hpj8.sub [0] rfl) hK ns_b (ns_w hX) (va_recv hK hpj8 (ci := 7) (q0 := 0) rfl rfl) rfl rfl (Nat.le_of_ble_eq_true rfl) dd_X11_copy_47 ⟨Nat.le_of_ble_eq_true rfl, Nat.le_of_ble_eq_true rfl⟩) (fun r11 hw12 => ?_)
      subst hw12
      refine lv_if_eq (tgt := 60) hx hb dd_X11_copy_50 (by decide) (fun _ => ?_) (fun c => absurd c (by decide))
      refine lv_aload hx hb dd_X11_copy_60 (lv_at hl 1 rfl) ?_
      refine pk_i (pc_V [] [] Sx hl.1 ws_X_86 md_X7_hasRow (c_Shelf_hasRow l D cy (fun k => q (97 + 2 * j6 + k))) ⟨rfl, rfl⟩ ⟨Nat.le_of_ble_eq_true rfl, Nat.le_of_ble_eq_true rfl⟩ (hpj6.sub [0] rfl) hK ns_b (ns_w hX) (va_recv hK hpj6 (ci := 7) (q0 := 0) rfl rfl) rfl rfl (Nat.le_of_ble_eq_true rfl) dd_X11_copy_62 ⟨Nat.le_of_ble_eq_true rfl, Nat.le_of_ble_eq_true rfl⟩) (fun r13 hw14 => ?_)
      subst hw14
      refine lv_if_eq (tgt := 96) hx hb dd_X11_copy_65 (by decide) (fun _ => ?_) (fun c => absurd c (by decide))
      refine lv_aload hx hb dd_X11_copy_96 (lv_at hl 1 rfl) ?_
      refine pk_i (pc_V [] [] Sx hl.1 ws_X_92 md_X7_isEmpty (c_Shelf_isEmpty l D cy (fun k => q (97 + 2 * j6 + k))) ⟨rfl, rfl⟩ ⟨Nat.le_of_ble_eq_true rfl, Nat.le_of_ble_eq_true rfl⟩ (hpj6.sub [0] rfl) hK ns_b (ns_w hX) (va_recv hK hpj6 (ci := 7) (q0 := 0) rfl rfl) rfl rfl (Nat.le_of_ble_eq_true rfl) dd_X11_copy_98 ⟨Nat.le_of_ble_eq_true rfl, Nat.le_of_ble_eq_true rfl⟩) (fun r15 hw16 => ?_)
      subst hw16
      refine lv_if_ne (tgt := 112) hx hb dd_X11_copy_101 (by decide) (fun _ => ?_) (fun c => absurd c (by decide))
      refine lv_aload_n hx hb dd_X11_copy_112 rfl (lv_at hl 2 rfl) ?_
      refine lv_bipush (v := (-4)) hx hb dd_X11_copy_113 (by decide) ?_
      refine hk_i (wr := [(q 1, .inl (cy 4, 8, .inr (.inr (.inr (.inr (shv q)))))), (q 97, .inr (7, fShelf (fun k => q (97 + k)))), (q 98, .inl (cy 2, 40, .inr (.inl (fun _ => 0)))), (q 99, .inr (7, fShelf (fun k => q (99 + k)))), (q 100, .inl (cy 2, 40, .inr (.inl (fun _ => 0)))), (q 101, .inr (7, fShelf (fun k => q (101 + k)))), (q 102, .inl (cy 2, 40, .inr (.inl (fun _ => 0)))), (q 103, .inr (7, fShelf (fun k => q (103 + k)))), (q 104, .inl (cy 2, 40, .inr (.inl (fun _ => 0)))), (q 105, .inr (7, fShelf (fun k => q (105 + k)))), (q 106, .inl (cy 2, 40, .inr (.inl (fun _ => 0)))), (q 107, .inr (7, fShelf (fun k => q (107 + k)))), (q 108, .inl (cy 2, 40, .inr (.inl (fun _ => 0)))), (q 109, .inr (7, fShelf (fun k => q (109 + k)))), (q 110, .inl (cy 2, 40, .inr (.inl (fun _ => 0)))), (q 111, .inr (7, fShelf (fun k => q (111 + k)))), (q 112, .inl (cy 2, 40, .inr (.inl (fun _ => 0))))]) (c1 := 0) (s1 := 0) [0, 2] [1, 3, 4, 5, 6, 7, 8, 9, 10, 11, 12, 13, 14, 15, 16, 17, 18] (hc_V [.int (-4)] [] [0, 2] Sx hl.1 ws_X_63 md_X11_refuse (c_refuse_4 l D cy q) ⟨Nat.le_of_ble_eq_true rfl, Nat.le_of_ble_eq_true rfl⟩ hP hD rfl (by decide) hK nx_b (nx_w hX) (va_recv hK hP (ci := 11) (q0 := 0) rfl rfl) rfl rfl (Nat.le_of_ble_eq_true rfl) dd_X11_copy_115 ⟨Nat.le_of_ble_eq_true rfl, Nat.le_of_ble_eq_true rfl⟩) hS hA hP hD rfl rfl (by decide) (by decide) rfl rfl (fun r17 u18 H locs hw19 hP hD hS => ?_)
      have hP : va_P D cls [(q 1, .inl (cy 4, 8, .inr (.inr (.inr (.inr (shv q)))))), (q 97, .inr (7, fShelf (fun k => q (97 + k)))), (q 98, .inl (cy 2, 40, .inr (.inl (fun _ => 0)))), (q 99, .inr (7, fShelf (fun k => q (99 + k)))), (q 100, .inl (cy 2, 40, .inr (.inl (fun _ => 0)))), (q 101, .inr (7, fShelf (fun k => q (101 + k)))), (q 102, .inl (cy 2, 40, .inr (.inl (fun _ => 0)))), (q 103, .inr (7, fShelf (fun k => q (103 + k)))), (q 104, .inl (cy 2, 40, .inr (.inl (fun _ => 0)))), (q 105, .inr (7, fShelf (fun k => q (105 + k)))), (q 106, .inl (cy 2, 40, .inr (.inl (fun _ => 0)))), (q 107, .inr (7, fShelf (fun k => q (107 + k)))), (q 108, .inl (cy 2, 40, .inr (.inl (fun _ => 0)))), (q 109, .inr (7, fShelf (fun k => q (109 + k)))), (q 110, .inl (cy 2, 40, .inr (.inl (fun _ => 0)))), (q 111, .inr (7, fShelf (fun k => q (111 + k)))), (q 112, .inl (cy 2, 40, .inr (.inl (fun _ => 0))))] H := hP
      have hD : va_D A [(q 1, .inl (cy 4, 8, .inr (.inr (.inr (.inr (shv q)))))), (q 97, .inr (7, fShelf (fun k => q (97 + k)))), (q 98, .inl (cy 2, 40, .inr (.inl (fun _ => 0)))), (q 99, .inr (7, fShelf (fun k => q (99 + k)))), (q 100, .inl (cy 2, 40, .inr (.inl (fun _ => 0)))), (q 101, .inr (7, fShelf (fun k => q (101 + k)))), (q 102, .inl (cy 2, 40, .inr (.inl (fun _ => 0)))), (q 103, .inr (7, fShelf (fun k => q (103 + k)))), (q 104, .inl (cy 2, 40, .inr (.inl (fun _ => 0)))), (q 105, .inr (7, fShelf (fun k => q (105 + k)))), (q 106, .inl (cy 2, 40, .inr (.inl (fun _ => 0)))), (q 107, .inr (7, fShelf (fun k => q (107 + k)))), (q 108, .inl (cy 2, 40, .inr (.inl (fun _ => 0)))), (q 109, .inr (7, fShelf (fun k => q (109 + k)))), (q 110, .inl (cy 2, 40, .inr (.inl (fun _ => 0)))), (q 111, .inr (7, fShelf (fun k => q (111 + k)))), (q 112, .inl (cy 2, 40, .inr (.inl (fun _ => 0))))] := hD
      subst hw19
      exact hc_ret Sx hr hlocks dd_X11_copy_118 hS () (Or.inl ⟨by omega, rfl⟩) p_nil d_nil
    · subst ehw4
      refine lv_if_ne (tgt := 21) hx hb dd_X11_copy_11 (by decide) (fun c => absurd c (by decide)) (fun _ => ?_)
      refine lv_aload_n hx hb dd_X11_copy_14 rfl (lv_at hl 0 rfl) ?_
      refine lv_bipush (v := (-2)) hx hb dd_X11_copy_15 (by decide) ?_
      refine hk_i (wr := [(q 1, .inl (cy 4, 8, .inr (.inr (.inr (.inr (shv q)))))), (q 97, .inr (7, fShelf (fun k => q (97 + k)))), (q 98, .inl (cy 2, 40, .inr (.inl (fun _ => 0)))), (q 99, .inr (7, fShelf (fun k => q (99 + k)))), (q 100, .inl (cy 2, 40, .inr (.inl (fun _ => 0)))), (q 101, .inr (7, fShelf (fun k => q (101 + k)))), (q 102, .inl (cy 2, 40, .inr (.inl (fun _ => 0)))), (q 103, .inr (7, fShelf (fun k => q (103 + k)))), (q 104, .inl (cy 2, 40, .inr (.inl (fun _ => 0)))), (q 105, .inr (7, fShelf (fun k => q (105 + k)))), (q 106, .inl (cy 2, 40, .inr (.inl (fun _ => 0)))), (q 107, .inr (7, fShelf (fun k => q (107 + k)))), (q 108, .inl (cy 2, 40, .inr (.inl (fun _ => 0)))), (q 109, .inr (7, fShelf (fun k => q (109 + k)))), (q 110, .inl (cy 2, 40, .inr (.inl (fun _ => 0)))), (q 111, .inr (7, fShelf (fun k => q (111 + k)))), (q 112, .inl (cy 2, 40, .inr (.inl (fun _ => 0))))]) (c1 := 0) (s1 := 0) [0, 2] [1, 3, 4, 5, 6, 7, 8, 9, 10, 11, 12, 13, 14, 15, 16, 17, 18] (hc_V [.int (-2)] [] [0, 2] Sx hl.1 ws_X_63 md_X11_refuse (c_refuse_2 l D cy q) ⟨Nat.le_of_ble_eq_true rfl, Nat.le_of_ble_eq_true rfl⟩ hP hD rfl (by decide) hK nx_b (nx_w hX) (va_recv hK hP (ci := 11) (q0 := 0) rfl rfl) rfl rfl (Nat.le_of_ble_eq_true rfl) dd_X11_copy_17 ⟨Nat.le_of_ble_eq_true rfl, Nat.le_of_ble_eq_true rfl⟩) hS hA hP hD rfl rfl (by decide) (by decide) rfl rfl (fun r20 u21 H locs hw22 hP hD hS => ?_)
      have hP : va_P D cls [(q 1, .inl (cy 4, 8, .inr (.inr (.inr (.inr (shv q)))))), (q 97, .inr (7, fShelf (fun k => q (97 + k)))), (q 98, .inl (cy 2, 40, .inr (.inl (fun _ => 0)))), (q 99, .inr (7, fShelf (fun k => q (99 + k)))), (q 100, .inl (cy 2, 40, .inr (.inl (fun _ => 0)))), (q 101, .inr (7, fShelf (fun k => q (101 + k)))), (q 102, .inl (cy 2, 40, .inr (.inl (fun _ => 0)))), (q 103, .inr (7, fShelf (fun k => q (103 + k)))), (q 104, .inl (cy 2, 40, .inr (.inl (fun _ => 0)))), (q 105, .inr (7, fShelf (fun k => q (105 + k)))), (q 106, .inl (cy 2, 40, .inr (.inl (fun _ => 0)))), (q 107, .inr (7, fShelf (fun k => q (107 + k)))), (q 108, .inl (cy 2, 40, .inr (.inl (fun _ => 0)))), (q 109, .inr (7, fShelf (fun k => q (109 + k)))), (q 110, .inl (cy 2, 40, .inr (.inl (fun _ => 0)))), (q 111, .inr (7, fShelf (fun k => q (111 + k)))), (q 112, .inl (cy 2, 40, .inr (.inl (fun _ => 0))))] H := hP
      have hD : va_D A [(q 1, .inl (cy 4, 8, .inr (.inr (.inr (.inr (shv q)))))), (q 97, .inr (7, fShelf (fun k => q (97 + k)))), (q 98, .inl (cy 2, 40, .inr (.inl (fun _ => 0)))), (q 99, .inr (7, fShelf (fun k => q (99 + k)))), (q 100, .inl (cy 2, 40, .inr (.inl (fun _ => 0)))), (q 101, .inr (7, fShelf (fun k => q (101 + k)))), (q 102, .inl (cy 2, 40, .inr (.inl (fun _ => 0)))), (q 103, .inr (7, fShelf (fun k => q (103 + k)))), (q 104, .inl (cy 2, 40, .inr (.inl (fun _ => 0)))), (q 105, .inr (7, fShelf (fun k => q (105 + k)))), (q 106, .inl (cy 2, 40, .inr (.inl (fun _ => 0)))), (q 107, .inr (7, fShelf (fun k => q (107 + k)))), (q 108, .inl (cy 2, 40, .inr (.inl (fun _ => 0)))), (q 109, .inr (7, fShelf (fun k => q (109 + k)))), (q 110, .inl (cy 2, 40, .inr (.inl (fun _ => 0)))), (q 111, .inr (7, fShelf (fun k => q (111 + k)))), (q 112, .inl (cy 2, 40, .inr (.inl (fun _ => 0))))] := hD
      subst hw22
      exact hc_ret Sx hr hlocks dd_X11_copy_20 hS () (Or.inr ⟨by omega, rfl⟩) p_nil d_nil
  · subst ehw2
    refine lv_if_eq (tgt := 14) hx hb dd_X11_copy_4 (by decide) (fun _ => ?_) (fun c => absurd c (by decide))
    refine lv_aload_n hx hb dd_X11_copy_14 rfl (lv_at hl 0 rfl) ?_
    refine lv_bipush (v := (-2)) hx hb dd_X11_copy_15 (by decide) ?_
    refine hk_i (wr := [(q 1, .inl (cy 4, 8, .inr (.inr (.inr (.inr (shv q)))))), (q 97, .inr (7, fShelf (fun k => q (97 + k)))), (q 98, .inl (cy 2, 40, .inr (.inl (fun _ => 0)))), (q 99, .inr (7, fShelf (fun k => q (99 + k)))), (q 100, .inl (cy 2, 40, .inr (.inl (fun _ => 0)))), (q 101, .inr (7, fShelf (fun k => q (101 + k)))), (q 102, .inl (cy 2, 40, .inr (.inl (fun _ => 0)))), (q 103, .inr (7, fShelf (fun k => q (103 + k)))), (q 104, .inl (cy 2, 40, .inr (.inl (fun _ => 0)))), (q 105, .inr (7, fShelf (fun k => q (105 + k)))), (q 106, .inl (cy 2, 40, .inr (.inl (fun _ => 0)))), (q 107, .inr (7, fShelf (fun k => q (107 + k)))), (q 108, .inl (cy 2, 40, .inr (.inl (fun _ => 0)))), (q 109, .inr (7, fShelf (fun k => q (109 + k)))), (q 110, .inl (cy 2, 40, .inr (.inl (fun _ => 0)))), (q 111, .inr (7, fShelf (fun k => q (111 + k)))), (q 112, .inl (cy 2, 40, .inr (.inl (fun _ => 0))))]) (c1 := 0) (s1 := 0) [0, 2] [1, 3, 4, 5, 6, 7, 8, 9, 10, 11, 12, 13, 14, 15, 16, 17, 18] (hc_V [.int (-2)] [] [0, 2] Sx hl.1 ws_X_63 md_X11_refuse (c_refuse_2 l D cy q) ⟨Nat.le_of_ble_eq_true rfl, Nat.le_of_ble_eq_true rfl⟩ hP hD rfl (by decide) hK nx_b (nx_w hX) (va_recv hK hP (ci := 11) (q0 := 0) rfl rfl) rfl rfl (Nat.le_of_ble_eq_true rfl) dd_X11_copy_17 ⟨Nat.le_of_ble_eq_true rfl, Nat.le_of_ble_eq_true rfl⟩) hS hA hP hD rfl rfl (by decide) (by decide) rfl rfl (fun r23 u24 H locs hw25 hP hD hS => ?_)
    have hP : va_P D cls [(q 1, .inl (cy 4, 8, .inr (.inr (.inr (.inr (shv q)))))), (q 97, .inr (7, fShelf (fun k => q (97 + k)))), (q 98, .inl (cy 2, 40, .inr (.inl (fun _ => 0)))), (q 99, .inr (7, fShelf (fun k => q (99 + k)))), (q 100, .inl (cy 2, 40, .inr (.inl (fun _ => 0)))), (q 101, .inr (7, fShelf (fun k => q (101 + k)))), (q 102, .inl (cy 2, 40, .inr (.inl (fun _ => 0)))), (q 103, .inr (7, fShelf (fun k => q (103 + k)))), (q 104, .inl (cy 2, 40, .inr (.inl (fun _ => 0)))), (q 105, .inr (7, fShelf (fun k => q (105 + k)))), (q 106, .inl (cy 2, 40, .inr (.inl (fun _ => 0)))), (q 107, .inr (7, fShelf (fun k => q (107 + k)))), (q 108, .inl (cy 2, 40, .inr (.inl (fun _ => 0)))), (q 109, .inr (7, fShelf (fun k => q (109 + k)))), (q 110, .inl (cy 2, 40, .inr (.inl (fun _ => 0)))), (q 111, .inr (7, fShelf (fun k => q (111 + k)))), (q 112, .inl (cy 2, 40, .inr (.inl (fun _ => 0))))] H := hP
    have hD : va_D A [(q 1, .inl (cy 4, 8, .inr (.inr (.inr (.inr (shv q)))))), (q 97, .inr (7, fShelf (fun k => q (97 + k)))), (q 98, .inl (cy 2, 40, .inr (.inl (fun _ => 0)))), (q 99, .inr (7, fShelf (fun k => q (99 + k)))), (q 100, .inl (cy 2, 40, .inr (.inl (fun _ => 0)))), (q 101, .inr (7, fShelf (fun k => q (101 + k)))), (q 102, .inl (cy 2, 40, .inr (.inl (fun _ => 0)))), (q 103, .inr (7, fShelf (fun k => q (103 + k)))), (q 104, .inl (cy 2, 40, .inr (.inl (fun _ => 0)))), (q 105, .inr (7, fShelf (fun k => q (105 + k)))), (q 106, .inl (cy 2, 40, .inr (.inl (fun _ => 0)))), (q 107, .inr (7, fShelf (fun k => q (107 + k)))), (q 108, .inl (cy 2, 40, .inr (.inl (fun _ => 0)))), (q 109, .inr (7, fShelf (fun k => q (109 + k)))), (q 110, .inl (cy 2, 40, .inr (.inl (fun _ => 0)))), (q 111, .inr (7, fShelf (fun k => q (111 + k)))), (q 112, .inl (cy 2, 40, .inr (.inl (fun _ => 0))))] := hD
    subst hw25
    exact hc_ret Sx hr hlocks dd_X11_copy_20 hS () (Or.inr ⟨by omega, rfl⟩) p_nil d_nil
set_option maxHeartbeats 4000000 in
set_option maxRecDepth 100000 in
theorem c_X_element (l : Launch) (D : va_G) (cy : Nat → ClassId) (q : Nat → Nat) (sf : Int32) (ix : Int32) : PC l my_X11_element mb_X11_element 3 ((some .long)) (rmD 4 0 0) D (TY cy) [.ref (q 0), .int sf, .int ix] NS [(q 0, .inr (11, fX q)), (q 1, .inl (cy 4, 8, .inr (.inr (.inr (.inr (shv q)))))), (q 97, .inr (7, fShelf (fun k => q (97 + k)))), (q 98, .inl (cy 2, 40, .inr (.inl (fun _ => 0)))), (q 99, .inr (7, fShelf (fun k => q (99 + k)))), (q 100, .inl (cy 2, 40, .inr (.inl (fun _ => 0)))), (q 101, .inr (7, fShelf (fun k => q (101 + k)))), (q 102, .inl (cy 2, 40, .inr (.inl (fun _ => 0)))), (q 103, .inr (7, fShelf (fun k => q (103 + k)))), (q 104, .inl (cy 2, 40, .inr (.inl (fun _ => 0)))), (q 105, .inr (7, fShelf (fun k => q (105 + k)))), (q 106, .inl (cy 2, 40, .inr (.inl (fun _ => 0)))), (q 107, .inr (7, fShelf (fun k => q (107 + k)))), (q 108, .inl (cy 2, 40, .inr (.inl (fun _ => 0)))), (q 109, .inr (7, fShelf (fun k => q (109 + k)))), (q 110, .inl (cy 2, 40, .inr (.inl (fun _ => 0)))), (q 111, .inr (7, fShelf (fun k => q (111 + k)))), (q 112, .inl (cy 2, 40, .inr (.inl (fun _ => 0))))] (vp_Sl (fun r => r = 0)) := by
  refine pc_intro (by decide) (Nat.le_of_ble_eq_true rfl) (fun p e s m below meth c ls Sx hr hlocks hl hP hK hX => ?_)
  have hx := Sx.1
  have hb := Sx.2.1
  have hl : lv_has ls 3 [(0, .ref (q 0)), (1, .int sf), (2, .int ix)] := hl
  refine lv_iload_n hx hb dd_X11_element_0 rfl (lv_at hl 1 rfl) ?_
  refine pk_i (pc_T [.int sf] [] Sx hl.1 ws_X_55 md_X11_isShelf (c_isShelf l D cy sf) ⟨rfl, rfl⟩ ⟨Nat.le_of_ble_eq_true rfl, Nat.le_of_ble_eq_true rfl⟩ p_nil hK ns_b (ns_w hX) rfl rfl (Nat.le_of_ble_eq_true rfl) dd_X11_element_1 ⟨Nat.le_of_ble_eq_true rfl, Nat.le_of_ble_eq_true rfl⟩) (fun r1 hw2 => ?_)
  rcases hw2 with ⟨hw2, ehw2⟩ | ⟨hw2, ehw2⟩
  · subst ehw2
    refine lv_if_eq (tgt := 20) hx hb dd_X11_element_4 (by decide) (fun c => absurd c (by decide)) (fun _ => ?_)
    refine lv_aload_n hx hb dd_X11_element_7 rfl (lv_at hl 0 rfl) ?_
    refine wk_get (v := .ref (q 1)) Sx ef_11 hK hP 0 rfl rfl 0 (by decide) kk_382 rfl dd_X11_element_8 ?_
    refine lv_iload_n hx hb dd_X11_element_11 rfl (lv_at hl 1 rfl) ?_
    have hi3 : vp_in sf 8 := (vi_of (by omega))
    refine va_aldq hx hb hK hP 1 4 rfl rfl hi3 dd_X11_element_12 ?_
    obtain ⟨j4, hjj4, ejj4⟩ : ∃ y, y < 8 ∧ sf.toNatClampNeg = y := ⟨_, vi_lt hi3, rfl⟩
    have hpj4 := sh_p (cy := cy) (q := q) (hP.sub [2, 3, 4, 5, 6, 7, 8, 9, 10, 11, 12, 13, 14, 15, 16, 17] rfl) j4 hjj4
    refine wk_val (v := .ref (q (97 + 2 * j4))) (by rw [ejj4, shv_at _ _ hjj4]; rfl) ?_
    refine lv_iload_n hx hb dd_X11_element_13 rfl (lv_at hl 2 rfl) ?_
    refine pk_l (pc_V [.int ix] [] Sx hl.1 ws_X_109 md_X7_at (c_Shelf_at l D cy (fun k => q (97 + 2 * j4 + k)) ix) ⟨rfl, rfl⟩ ⟨Nat.le_of_ble_eq_true rfl, Nat.le_of_ble_eq_true rfl⟩ (hpj4.sub [0] rfl) hK ns_b (ns_w hX) (va_recv hK hpj4 (ci := 7) (q0 := 0) rfl rfl) rfl rfl (Nat.le_of_ble_eq_true rfl) dd_X11_element_14 ⟨Nat.le_of_ble_eq_true rfl, Nat.le_of_ble_eq_true rfl⟩) (fun r5 hw6 => ?_)
    subst hw6
    refine lv_goto (tgt := 21) hx hb dd_X11_element_17 (by decide) ?_
    exact pc_lret Sx hr hlocks dd_X11_element_21 rfl
  · subst ehw2
    refine lv_if_eq (tgt := 20) hx hb dd_X11_element_4 (by decide) (fun _ => ?_) (fun c => absurd c (by decide))
    refine lv_lconst (v := 0) hx hb dd_X11_element_20 rfl ?_
    exact pc_lret Sx hr hlocks dd_X11_element_21 rfl
set_option maxHeartbeats 4000000 in
set_option maxRecDepth 100000 in
theorem c_X_holds (l : Launch) (D : va_G) (cy : Nat → ClassId) (q : Nat → Nat) (sf : Int32) : PC l my_X11_holds mb_X11_holds 2 ((some .int)) (rmD 3 0 0) D (TY cy) [.ref (q 0), .int sf] NS [(q 0, .inr (11, fX q)), (q 1, .inl (cy 4, 8, .inr (.inr (.inr (.inr (shv q)))))), (q 97, .inr (7, fShelf (fun k => q (97 + k)))), (q 98, .inl (cy 2, 40, .inr (.inl (fun _ => 0)))), (q 99, .inr (7, fShelf (fun k => q (99 + k)))), (q 100, .inl (cy 2, 40, .inr (.inl (fun _ => 0)))), (q 101, .inr (7, fShelf (fun k => q (101 + k)))), (q 102, .inl (cy 2, 40, .inr (.inl (fun _ => 0)))), (q 103, .inr (7, fShelf (fun k => q (103 + k)))), (q 104, .inl (cy 2, 40, .inr (.inl (fun _ => 0)))), (q 105, .inr (7, fShelf (fun k => q (105 + k)))), (q 106, .inl (cy 2, 40, .inr (.inl (fun _ => 0)))), (q 107, .inr (7, fShelf (fun k => q (107 + k)))), (q 108, .inl (cy 2, 40, .inr (.inl (fun _ => 0)))), (q 109, .inr (7, fShelf (fun k => q (109 + k)))), (q 110, .inl (cy 2, 40, .inr (.inl (fun _ => 0)))), (q 111, .inr (7, fShelf (fun k => q (111 + k)))), (q 112, .inl (cy 2, 40, .inr (.inl (fun _ => 0))))] (vp_Si (fun r => r = (-1))) := by
  refine pc_intro (by decide) (Nat.le_of_ble_eq_true rfl) (fun p e s m below meth c ls Sx hr hlocks hl hP hK hX => ?_)
  have hx := Sx.1
  have hb := Sx.2.1
  have hl : lv_has ls 2 [(0, .ref (q 0)), (1, .int sf)] := hl
  refine lv_iload_n hx hb dd_X11_holds_0 rfl (lv_at hl 1 rfl) ?_
  refine pk_i (pc_T [.int sf] [] Sx hl.1 ws_X_55 md_X11_isShelf (c_isShelf l D cy sf) ⟨rfl, rfl⟩ ⟨Nat.le_of_ble_eq_true rfl, Nat.le_of_ble_eq_true rfl⟩ p_nil hK ns_b (ns_w hX) rfl rfl (Nat.le_of_ble_eq_true rfl) dd_X11_holds_1 ⟨Nat.le_of_ble_eq_true rfl, Nat.le_of_ble_eq_true rfl⟩) (fun r1 hw2 => ?_)
  rcases hw2 with ⟨hw2, ehw2⟩ | ⟨hw2, ehw2⟩
  · subst ehw2
    refine lv_if_eq (tgt := 19) hx hb dd_X11_holds_4 (by decide) (fun c => absurd c (by decide)) (fun _ => ?_)
    refine lv_aload_n hx hb dd_X11_holds_7 rfl (lv_at hl 0 rfl) ?_
    refine wk_get (v := .ref (q 1)) Sx ef_11 hK hP 0 rfl rfl 0 (by decide) kk_382 rfl dd_X11_holds_8 ?_
    refine lv_iload_n hx hb dd_X11_holds_11 rfl (lv_at hl 1 rfl) ?_
    have hi3 : vp_in sf 8 := (vi_of (by omega))
    refine va_aldq hx hb hK hP 1 4 rfl rfl hi3 dd_X11_holds_12 ?_
    obtain ⟨j4, hjj4, ejj4⟩ : ∃ y, y < 8 ∧ sf.toNatClampNeg = y := ⟨_, vi_lt hi3, rfl⟩
    have hpj4 := sh_p (cy := cy) (q := q) (hP.sub [2, 3, 4, 5, 6, 7, 8, 9, 10, 11, 12, 13, 14, 15, 16, 17] rfl) j4 hjj4
    refine wk_val (v := .ref (q (97 + 2 * j4))) (by rw [ejj4, shv_at _ _ hjj4]; rfl) ?_
    refine wk_get (v := .int (-1)) Sx ef_7 hK hpj4 0 rfl rfl 1 (by decide) kk_371 rfl dd_X11_holds_13 ?_
    refine lv_goto (tgt := 20) hx hb dd_X11_holds_16 (by decide) ?_
    exact pc_ret Sx hr hlocks rfl dd_X11_holds_20 rfl
  · subst ehw2
    refine lv_if_eq (tgt := 19) hx hb dd_X11_holds_4 (by decide) (fun _ => ?_) (fun c => absurd c (by decide))
    refine lv_iconst (v := (-1)) hx hb dd_X11_holds_19 (by decide) ?_
    exact pc_ret Sx hr hlocks rfl dd_X11_holds_20 rfl
set_option maxHeartbeats 4000000 in
set_option maxRecDepth 100000 in
theorem c_X_show (l : Launch) (D : va_G) (cy : Nat → ClassId) (q : Nat → Nat) (sf : Int32) (th : Int32) : HC l my_X11_show mb_X11_show 3 ((some .int)) (rmD 3 0 0) D (TY cy) [.ref (q 0), .int sf, .int th] NX [(q 0, .inr (11, fX q)), (q 1, .inl (cy 4, 8, .inr (.inr (.inr (.inr (shv q)))))), (q 2, .inl (cy 0, 5, .inl (fun _ => 0))), (q 5, .inr (1, fHall (fun k => q (5 + k)))), (q 6, .inr (10, fThings (fun k => q (6 + k)))), (q 97, .inr (7, fShelf (fun k => q (97 + k)))), (q 98, .inl (cy 2, 40, .inr (.inl (fun _ => 0)))), (q 99, .inr (7, fShelf (fun k => q (99 + k)))), (q 100, .inl (cy 2, 40, .inr (.inl (fun _ => 0)))), (q 101, .inr (7, fShelf (fun k => q (101 + k)))), (q 102, .inl (cy 2, 40, .inr (.inl (fun _ => 0)))), (q 103, .inr (7, fShelf (fun k => q (103 + k)))), (q 104, .inl (cy 2, 40, .inr (.inl (fun _ => 0)))), (q 105, .inr (7, fShelf (fun k => q (105 + k)))), (q 106, .inl (cy 2, 40, .inr (.inl (fun _ => 0)))), (q 107, .inr (7, fShelf (fun k => q (107 + k)))), (q 108, .inl (cy 2, 40, .inr (.inl (fun _ => 0)))), (q 109, .inr (7, fShelf (fun k => q (109 + k)))), (q 110, .inl (cy 2, 40, .inr (.inl (fun _ => 0)))), (q 111, .inr (7, fShelf (fun k => q (111 + k)))), (q 112, .inl (cy 2, 40, .inr (.inl (fun _ => 0))))] (QI (S := Unit) D (fun r _ => if2 (0 ≤ sf.toInt ∧ sf.toInt ≤ 7 ∧ (-1) ≤ th.toInt ∧ th.toInt ≤ (-1)) 1 (-2) r) (fun _ => [])) := by
  refine hc_intro (by decide) (Nat.le_of_ble_eq_true rfl) (fun p e s m below meth c A ls Sx hr hlocks hin hl hP hD hK hS hA hX => ?_)
  have hx := Sx.1
  have hb := Sx.2.1
  have hl : lv_has ls 3 [(0, .ref (q 0)), (1, .int sf), (2, .int th)] := hl
  have hP : va_P D cls [(q 0, .inr (11, fX q)), (q 1, .inl (cy 4, 8, .inr (.inr (.inr (.inr (shv q)))))), (q 2, .inl (cy 0, 5, .inl (fun _ => 0))), (q 5, .inr (1, fHall (fun k => q (5 + k)))), (q 6, .inr (10, fThings (fun k => q (6 + k)))), (q 97, .inr (7, fShelf (fun k => q (97 + k)))), (q 98, .inl (cy 2, 40, .inr (.inl (fun _ => 0)))), (q 99, .inr (7, fShelf (fun k => q (99 + k)))), (q 100, .inl (cy 2, 40, .inr (.inl (fun _ => 0)))), (q 101, .inr (7, fShelf (fun k => q (101 + k)))), (q 102, .inl (cy 2, 40, .inr (.inl (fun _ => 0)))), (q 103, .inr (7, fShelf (fun k => q (103 + k)))), (q 104, .inl (cy 2, 40, .inr (.inl (fun _ => 0)))), (q 105, .inr (7, fShelf (fun k => q (105 + k)))), (q 106, .inl (cy 2, 40, .inr (.inl (fun _ => 0)))), (q 107, .inr (7, fShelf (fun k => q (107 + k)))), (q 108, .inl (cy 2, 40, .inr (.inl (fun _ => 0)))), (q 109, .inr (7, fShelf (fun k => q (109 + k)))), (q 110, .inl (cy 2, 40, .inr (.inl (fun _ => 0)))), (q 111, .inr (7, fShelf (fun k => q (111 + k)))), (q 112, .inl (cy 2, 40, .inr (.inl (fun _ => 0))))] s.heap := hP
  have hD : va_D A [(q 0, .inr (11, fX q)), (q 1, .inl (cy 4, 8, .inr (.inr (.inr (.inr (shv q)))))), (q 2, .inl (cy 0, 5, .inl (fun _ => 0))), (q 5, .inr (1, fHall (fun k => q (5 + k)))), (q 6, .inr (10, fThings (fun k => q (6 + k)))), (q 97, .inr (7, fShelf (fun k => q (97 + k)))), (q 98, .inl (cy 2, 40, .inr (.inl (fun _ => 0)))), (q 99, .inr (7, fShelf (fun k => q (99 + k)))), (q 100, .inl (cy 2, 40, .inr (.inl (fun _ => 0)))), (q 101, .inr (7, fShelf (fun k => q (101 + k)))), (q 102, .inl (cy 2, 40, .inr (.inl (fun _ => 0)))), (q 103, .inr (7, fShelf (fun k => q (103 + k)))), (q 104, .inl (cy 2, 40, .inr (.inl (fun _ => 0)))), (q 105, .inr (7, fShelf (fun k => q (105 + k)))), (q 106, .inl (cy 2, 40, .inr (.inl (fun _ => 0)))), (q 107, .inr (7, fShelf (fun k => q (107 + k)))), (q 108, .inl (cy 2, 40, .inr (.inl (fun _ => 0)))), (q 109, .inr (7, fShelf (fun k => q (109 + k)))), (q 110, .inl (cy 2, 40, .inr (.inl (fun _ => 0)))), (q 111, .inr (7, fShelf (fun k => q (111 + k)))), (q 112, .inl (cy 2, 40, .inr (.inl (fun _ => 0))))] := hD
  refine lv_iload_n hx hb dd_X11_show_0 rfl (lv_at hl 1 rfl) ?_
  refine pk_i (pc_T [.int sf] [] Sx hl.1 ws_X_55 md_X11_isShelf (c_isShelf l D cy sf) ⟨rfl, rfl⟩ ⟨Nat.le_of_ble_eq_true rfl, Nat.le_of_ble_eq_true rfl⟩ p_nil hK ns_b (ns_w hX) rfl rfl (Nat.le_of_ble_eq_true rfl) dd_X11_show_1 ⟨Nat.le_of_ble_eq_true rfl, Nat.le_of_ble_eq_true rfl⟩) (fun r1 hw2 => ?_)
  rcases hw2 with ⟨hw2, ehw2⟩ | ⟨hw2, ehw2⟩
  · subst ehw2
    refine lv_if_eq (tgt := 26) hx hb dd_X11_show_4 (by decide) (fun c => absurd c (by decide)) (fun _ => ?_)
    refine lv_iload_n hx hb dd_X11_show_7 rfl (lv_at hl 2 rfl) ?_
    refine lv_iconst (v := (-1)) hx hb dd_X11_show_8 (by decide) ?_
    refine lv_icmp_eq (tgt := 33) hx hb dd_X11_show_9 (by decide) (fun c3 => ?_) (fun c3 => ?_)
    · have fc3 := ci_eq (a := th.toInt) (b := (-1)) rfl rfl c3
      refine lv_aload_n hx hb dd_X11_show_33 rfl (lv_at hl 0 rfl) ?_
      refine wk_get (v := .ref (q 1)) Sx ef_11 hK hP 0 rfl rfl 0 (by decide) kk_382 rfl dd_X11_show_34 ?_
      refine lv_iload_n hx hb dd_X11_show_37 rfl (lv_at hl 1 rfl) ?_
      have hi4 : vp_in sf 8 := (vi_of (by omega))
      refine va_aldq hx hb hK hP 1 4 rfl rfl hi4 dd_X11_show_38 ?_
      obtain ⟨j5, hjj5, ejj5⟩ : ∃ y, y < 8 ∧ sf.toNatClampNeg = y := ⟨_, vi_lt hi4, rfl⟩
      have hpj5 := sh_p (cy := cy) (q := q) (hP.sub [5, 6, 7, 8, 9, 10, 11, 12, 13, 14, 15, 16, 17, 18, 19, 20] rfl) j5 hjj5
      have hdj5 := sh_d (cy := cy) (q := q) (hD.sub [5, 6, 7, 8, 9, 10, 11, 12, 13, 14, 15, 16, 17, 18, 19, 20] (by decide) rfl) j5 hjj5
      refine wk_val (v := .ref (q (97 + 2 * j5))) (by rw [ejj5, shv_at _ _ hjj5]; rfl) ?_
      refine lv_iload_n hx hb dd_X11_show_39 rfl (lv_at hl 2 rfl) ?_
      refine lv_iconst (v := (-1)) hx hb dd_X11_show_40 (by decide) ?_
      refine lv_icmp_ne (tgt := 48) hx hb dd_X11_show_41 (by decide) (fun c6 => ?_) (fun c6 => ?_)
      · have fc6 := ci_ne (a := th.toInt) (b := (-1)) rfl rfl c6
        exfalso; omega
      · have fc6 := ci_eq (a := th.toInt) (b := (-1)) rfl rfl c6
        refine lv_iconst (v := (-1)) hx hb dd_X11_show_44 (by decide) ?_
        refine lv_goto (tgt := 52) hx hb dd_X11_show_45 (by decide) ?_
        have hP := hpj5
        have hD := hdj5
        refine wk_put (ws' := [(q (97 + 2 * j5), .inr (7, fShelf (fun k => q (97 + 2 * j5 + k)))), (q (97 + 2 * j5 + 1), .inl (cy 2, 40, .inr (.inl (fun _ => 0))))]) Sx ef_7 hK hP hD hS 0 rfl rfl 1 (by decide) kk_371 rfl rfl rfl (Nat.le_of_ble_eq_true rfl) dd_X11_show_52 rfl (fun H locs hP hD hS => ?_)
        refine lv_iconst (v := 1) hx hb dd_X11_show_55 (by decide) ?_
        exact hc_ret Sx hr hlocks dd_X11_show_56 hS () (Or.inl ⟨by omega, rfl⟩) p_nil d_nil
    · have fc3 := ci_ne (a := th.toInt) (b := (-1)) rfl rfl c3
      refine lv_aload_n hx hb dd_X11_show_12 rfl (lv_at hl 0 rfl) ?_
      refine wk_get (v := .ref (q 5)) Sx ef_11 hK hP 0 rfl rfl 3 (by decide) kk_385 rfl dd_X11_show_13 ?_
      refine wk_get (v := .ref (q 6)) Sx ef_1 hK hP 3 rfl rfl 0 (by decide) kk_260 rfl dd_X11_show_16 ?_
      refine lv_iload_n hx hb dd_X11_show_19 rfl (lv_at hl 2 rfl) ?_
      refine pk_i (pc_V [.int th] [] Sx hl.1 ws_X_117 md_X10_has (c_Things_has l D cy (fun k => q (6 + k)) th) ⟨rfl, rfl⟩ ⟨Nat.le_of_ble_eq_true rfl, Nat.le_of_ble_eq_true rfl⟩ (hP.sub [4] rfl) hK ns_b (ns_w hX) (va_recv hK hP (ci := 10) (q0 := 4) rfl rfl) rfl rfl (Nat.le_of_ble_eq_true rfl) dd_X11_show_20 ⟨Nat.le_of_ble_eq_true rfl, Nat.le_of_ble_eq_true rfl⟩) (fun r7 hw8 => ?_)
      subst hw8
      refine lv_if_ne (tgt := 33) hx hb dd_X11_show_23 (by decide) (fun c => absurd c (by decide)) (fun _ => ?_)
      refine lv_aload_n hx hb dd_X11_show_26 rfl (lv_at hl 0 rfl) ?_
      refine lv_bipush (v := (-2)) hx hb dd_X11_show_27 (by decide) ?_
      refine hk_i (wr := [(q 1, .inl (cy 4, 8, .inr (.inr (.inr (.inr (shv q)))))), (q 5, .inr (1, fHall (fun k => q (5 + k)))), (q 6, .inr (10, fThings (fun k => q (6 + k)))), (q 97, .inr (7, fShelf (fun k => q (97 + k)))), (q 98, .inl (cy 2, 40, .inr (.inl (fun _ => 0)))), (q 99, .inr (7, fShelf (fun k => q (99 + k)))), (q 100, .inl (cy 2, 40, .inr (.inl (fun _ => 0)))), (q 101, .inr (7, fShelf (fun k => q (101 + k)))), (q 102, .inl (cy 2, 40, .inr (.inl (fun _ => 0)))), (q 103, .inr (7, fShelf (fun k => q (103 + k)))), (q 104, .inl (cy 2, 40, .inr (.inl (fun _ => 0)))), (q 105, .inr (7, fShelf (fun k => q (105 + k)))), (q 106, .inl (cy 2, 40, .inr (.inl (fun _ => 0)))), (q 107, .inr (7, fShelf (fun k => q (107 + k)))), (q 108, .inl (cy 2, 40, .inr (.inl (fun _ => 0)))), (q 109, .inr (7, fShelf (fun k => q (109 + k)))), (q 110, .inl (cy 2, 40, .inr (.inl (fun _ => 0)))), (q 111, .inr (7, fShelf (fun k => q (111 + k)))), (q 112, .inl (cy 2, 40, .inr (.inl (fun _ => 0))))]) (c1 := 0) (s1 := 0) [0, 2] [1, 3, 4, 5, 6, 7, 8, 9, 10, 11, 12, 13, 14, 15, 16, 17, 18, 19, 20] (hc_V [.int (-2)] [] [0, 2] Sx hl.1 ws_X_63 md_X11_refuse (c_refuse_2 l D cy q) ⟨Nat.le_of_ble_eq_true rfl, Nat.le_of_ble_eq_true rfl⟩ hP hD rfl (by decide) hK nx_b (nx_w hX) (va_recv hK hP (ci := 11) (q0 := 0) rfl rfl) rfl rfl (Nat.le_of_ble_eq_true rfl) dd_X11_show_29 ⟨Nat.le_of_ble_eq_true rfl, Nat.le_of_ble_eq_true rfl⟩) hS hA hP hD rfl rfl (by decide) (by decide) rfl rfl (fun r9 u10 H locs hw11 hP hD hS => ?_)
      have hP : va_P D cls [(q 1, .inl (cy 4, 8, .inr (.inr (.inr (.inr (shv q)))))), (q 5, .inr (1, fHall (fun k => q (5 + k)))), (q 6, .inr (10, fThings (fun k => q (6 + k)))), (q 97, .inr (7, fShelf (fun k => q (97 + k)))), (q 98, .inl (cy 2, 40, .inr (.inl (fun _ => 0)))), (q 99, .inr (7, fShelf (fun k => q (99 + k)))), (q 100, .inl (cy 2, 40, .inr (.inl (fun _ => 0)))), (q 101, .inr (7, fShelf (fun k => q (101 + k)))), (q 102, .inl (cy 2, 40, .inr (.inl (fun _ => 0)))), (q 103, .inr (7, fShelf (fun k => q (103 + k)))), (q 104, .inl (cy 2, 40, .inr (.inl (fun _ => 0)))), (q 105, .inr (7, fShelf (fun k => q (105 + k)))), (q 106, .inl (cy 2, 40, .inr (.inl (fun _ => 0)))), (q 107, .inr (7, fShelf (fun k => q (107 + k)))), (q 108, .inl (cy 2, 40, .inr (.inl (fun _ => 0)))), (q 109, .inr (7, fShelf (fun k => q (109 + k)))), (q 110, .inl (cy 2, 40, .inr (.inl (fun _ => 0)))), (q 111, .inr (7, fShelf (fun k => q (111 + k)))), (q 112, .inl (cy 2, 40, .inr (.inl (fun _ => 0))))] H := hP
      have hD : va_D A [(q 1, .inl (cy 4, 8, .inr (.inr (.inr (.inr (shv q)))))), (q 5, .inr (1, fHall (fun k => q (5 + k)))), (q 6, .inr (10, fThings (fun k => q (6 + k)))), (q 97, .inr (7, fShelf (fun k => q (97 + k)))), (q 98, .inl (cy 2, 40, .inr (.inl (fun _ => 0)))), (q 99, .inr (7, fShelf (fun k => q (99 + k)))), (q 100, .inl (cy 2, 40, .inr (.inl (fun _ => 0)))), (q 101, .inr (7, fShelf (fun k => q (101 + k)))), (q 102, .inl (cy 2, 40, .inr (.inl (fun _ => 0)))), (q 103, .inr (7, fShelf (fun k => q (103 + k)))), (q 104, .inl (cy 2, 40, .inr (.inl (fun _ => 0)))), (q 105, .inr (7, fShelf (fun k => q (105 + k)))), (q 106, .inl (cy 2, 40, .inr (.inl (fun _ => 0)))), (q 107, .inr (7, fShelf (fun k => q (107 + k)))), (q 108, .inl (cy 2, 40, .inr (.inl (fun _ => 0)))), (q 109, .inr (7, fShelf (fun k => q (109 + k)))), (q 110, .inl (cy 2, 40, .inr (.inl (fun _ => 0)))), (q 111, .inr (7, fShelf (fun k => q (111 + k)))), (q 112, .inl (cy 2, 40, .inr (.inl (fun _ => 0))))] := hD
      subst hw11
      exact hc_ret Sx hr hlocks dd_X11_show_32 hS () (Or.inr ⟨by omega, rfl⟩) p_nil d_nil
  · subst ehw2
    refine lv_if_eq (tgt := 26) hx hb dd_X11_show_4 (by decide) (fun _ => ?_) (fun c => absurd c (by decide))
    refine lv_aload_n hx hb dd_X11_show_26 rfl (lv_at hl 0 rfl) ?_
    refine lv_bipush (v := (-2)) hx hb dd_X11_show_27 (by decide) ?_
    refine hk_i (wr := [(q 1, .inl (cy 4, 8, .inr (.inr (.inr (.inr (shv q)))))), (q 5, .inr (1, fHall (fun k => q (5 + k)))), (q 6, .inr (10, fThings (fun k => q (6 + k)))), (q 97, .inr (7, fShelf (fun k => q (97 + k)))), (q 98, .inl (cy 2, 40, .inr (.inl (fun _ => 0)))), (q 99, .inr (7, fShelf (fun k => q (99 + k)))), (q 100, .inl (cy 2, 40, .inr (.inl (fun _ => 0)))), (q 101, .inr (7, fShelf (fun k => q (101 + k)))), (q 102, .inl (cy 2, 40, .inr (.inl (fun _ => 0)))), (q 103, .inr (7, fShelf (fun k => q (103 + k)))), (q 104, .inl (cy 2, 40, .inr (.inl (fun _ => 0)))), (q 105, .inr (7, fShelf (fun k => q (105 + k)))), (q 106, .inl (cy 2, 40, .inr (.inl (fun _ => 0)))), (q 107, .inr (7, fShelf (fun k => q (107 + k)))), (q 108, .inl (cy 2, 40, .inr (.inl (fun _ => 0)))), (q 109, .inr (7, fShelf (fun k => q (109 + k)))), (q 110, .inl (cy 2, 40, .inr (.inl (fun _ => 0)))), (q 111, .inr (7, fShelf (fun k => q (111 + k)))), (q 112, .inl (cy 2, 40, .inr (.inl (fun _ => 0))))]) (c1 := 0) (s1 := 0) [0, 2] [1, 3, 4, 5, 6, 7, 8, 9, 10, 11, 12, 13, 14, 15, 16, 17, 18, 19, 20] (hc_V [.int (-2)] [] [0, 2] Sx hl.1 ws_X_63 md_X11_refuse (c_refuse_2 l D cy q) ⟨Nat.le_of_ble_eq_true rfl, Nat.le_of_ble_eq_true rfl⟩ hP hD rfl (by decide) hK nx_b (nx_w hX) (va_recv hK hP (ci := 11) (q0 := 0) rfl rfl) rfl rfl (Nat.le_of_ble_eq_true rfl) dd_X11_show_29 ⟨Nat.le_of_ble_eq_true rfl, Nat.le_of_ble_eq_true rfl⟩) hS hA hP hD rfl rfl (by decide) (by decide) rfl rfl (fun r12 u13 H locs hw14 hP hD hS => ?_)
    have hP : va_P D cls [(q 1, .inl (cy 4, 8, .inr (.inr (.inr (.inr (shv q)))))), (q 5, .inr (1, fHall (fun k => q (5 + k)))), (q 6, .inr (10, fThings (fun k => q (6 + k)))), (q 97, .inr (7, fShelf (fun k => q (97 + k)))), (q 98, .inl (cy 2, 40, .inr (.inl (fun _ => 0)))), (q 99, .inr (7, fShelf (fun k => q (99 + k)))), (q 100, .inl (cy 2, 40, .inr (.inl (fun _ => 0)))), (q 101, .inr (7, fShelf (fun k => q (101 + k)))), (q 102, .inl (cy 2, 40, .inr (.inl (fun _ => 0)))), (q 103, .inr (7, fShelf (fun k => q (103 + k)))), (q 104, .inl (cy 2, 40, .inr (.inl (fun _ => 0)))), (q 105, .inr (7, fShelf (fun k => q (105 + k)))), (q 106, .inl (cy 2, 40, .inr (.inl (fun _ => 0)))), (q 107, .inr (7, fShelf (fun k => q (107 + k)))), (q 108, .inl (cy 2, 40, .inr (.inl (fun _ => 0)))), (q 109, .inr (7, fShelf (fun k => q (109 + k)))), (q 110, .inl (cy 2, 40, .inr (.inl (fun _ => 0)))), (q 111, .inr (7, fShelf (fun k => q (111 + k)))), (q 112, .inl (cy 2, 40, .inr (.inl (fun _ => 0))))] H := hP
    have hD : va_D A [(q 1, .inl (cy 4, 8, .inr (.inr (.inr (.inr (shv q)))))), (q 5, .inr (1, fHall (fun k => q (5 + k)))), (q 6, .inr (10, fThings (fun k => q (6 + k)))), (q 97, .inr (7, fShelf (fun k => q (97 + k)))), (q 98, .inl (cy 2, 40, .inr (.inl (fun _ => 0)))), (q 99, .inr (7, fShelf (fun k => q (99 + k)))), (q 100, .inl (cy 2, 40, .inr (.inl (fun _ => 0)))), (q 101, .inr (7, fShelf (fun k => q (101 + k)))), (q 102, .inl (cy 2, 40, .inr (.inl (fun _ => 0)))), (q 103, .inr (7, fShelf (fun k => q (103 + k)))), (q 104, .inl (cy 2, 40, .inr (.inl (fun _ => 0)))), (q 105, .inr (7, fShelf (fun k => q (105 + k)))), (q 106, .inl (cy 2, 40, .inr (.inl (fun _ => 0)))), (q 107, .inr (7, fShelf (fun k => q (107 + k)))), (q 108, .inl (cy 2, 40, .inr (.inl (fun _ => 0)))), (q 109, .inr (7, fShelf (fun k => q (109 + k)))), (q 110, .inl (cy 2, 40, .inr (.inl (fun _ => 0)))), (q 111, .inr (7, fShelf (fun k => q (111 + k)))), (q 112, .inl (cy 2, 40, .inr (.inl (fun _ => 0))))] := hD
    subst hw14
    exact hc_ret Sx hr hlocks dd_X11_show_32 hS () (Or.inr ⟨by omega, rfl⟩) p_nil d_nil
set_option maxHeartbeats 4000000 in
set_option maxRecDepth 100000 in
theorem c_X_says (l : Launch) (D : va_G) (cy : Nat → ClassId) (q : Nat → Nat) (sf : Int32) (ki : Int32) : HC l my_X11_says mb_X11_says 5 ((some .int)) (rmD 3 0 0) D (TY cy) [.ref (q 0), .int sf, .int ki] NX [(q 0, .inr (11, fX q)), (q 1, .inl (cy 4, 8, .inr (.inr (.inr (.inr (shv q)))))), (q 2, .inl (cy 0, 5, .inl (fun _ => 0))), (q 97, .inr (7, fShelf (fun k => q (97 + k)))), (q 98, .inl (cy 2, 40, .inr (.inl (fun _ => 0)))), (q 99, .inr (7, fShelf (fun k => q (99 + k)))), (q 100, .inl (cy 2, 40, .inr (.inl (fun _ => 0)))), (q 101, .inr (7, fShelf (fun k => q (101 + k)))), (q 102, .inl (cy 2, 40, .inr (.inl (fun _ => 0)))), (q 103, .inr (7, fShelf (fun k => q (103 + k)))), (q 104, .inl (cy 2, 40, .inr (.inl (fun _ => 0)))), (q 105, .inr (7, fShelf (fun k => q (105 + k)))), (q 106, .inl (cy 2, 40, .inr (.inl (fun _ => 0)))), (q 107, .inr (7, fShelf (fun k => q (107 + k)))), (q 108, .inl (cy 2, 40, .inr (.inl (fun _ => 0)))), (q 109, .inr (7, fShelf (fun k => q (109 + k)))), (q 110, .inl (cy 2, 40, .inr (.inl (fun _ => 0)))), (q 111, .inr (7, fShelf (fun k => q (111 + k)))), (q 112, .inl (cy 2, 40, .inr (.inl (fun _ => 0))))] (QI (S := Unit) D (fun r _ => if2 (0 ≤ sf.toInt ∧ sf.toInt ≤ 7 ∧ 0 ≤ ki.toInt ∧ ki.toInt ≤ 5) (-4) (-2) r) (fun _ => [])) := by
  refine hc_intro (by decide) (Nat.le_of_ble_eq_true rfl) (fun p e s m below meth c A ls Sx hr hlocks hin hl hP hD hK hS hA hX => ?_)
  have hx := Sx.1
  have hb := Sx.2.1
  have hl : lv_has ls 5 [(0, .ref (q 0)), (1, .int sf), (2, .int ki)] := hl
  have hP : va_P D cls [(q 0, .inr (11, fX q)), (q 1, .inl (cy 4, 8, .inr (.inr (.inr (.inr (shv q)))))), (q 2, .inl (cy 0, 5, .inl (fun _ => 0))), (q 97, .inr (7, fShelf (fun k => q (97 + k)))), (q 98, .inl (cy 2, 40, .inr (.inl (fun _ => 0)))), (q 99, .inr (7, fShelf (fun k => q (99 + k)))), (q 100, .inl (cy 2, 40, .inr (.inl (fun _ => 0)))), (q 101, .inr (7, fShelf (fun k => q (101 + k)))), (q 102, .inl (cy 2, 40, .inr (.inl (fun _ => 0)))), (q 103, .inr (7, fShelf (fun k => q (103 + k)))), (q 104, .inl (cy 2, 40, .inr (.inl (fun _ => 0)))), (q 105, .inr (7, fShelf (fun k => q (105 + k)))), (q 106, .inl (cy 2, 40, .inr (.inl (fun _ => 0)))), (q 107, .inr (7, fShelf (fun k => q (107 + k)))), (q 108, .inl (cy 2, 40, .inr (.inl (fun _ => 0)))), (q 109, .inr (7, fShelf (fun k => q (109 + k)))), (q 110, .inl (cy 2, 40, .inr (.inl (fun _ => 0)))), (q 111, .inr (7, fShelf (fun k => q (111 + k)))), (q 112, .inl (cy 2, 40, .inr (.inl (fun _ => 0))))] s.heap := hP
  have hD : va_D A [(q 0, .inr (11, fX q)), (q 1, .inl (cy 4, 8, .inr (.inr (.inr (.inr (shv q)))))), (q 2, .inl (cy 0, 5, .inl (fun _ => 0))), (q 97, .inr (7, fShelf (fun k => q (97 + k)))), (q 98, .inl (cy 2, 40, .inr (.inl (fun _ => 0)))), (q 99, .inr (7, fShelf (fun k => q (99 + k)))), (q 100, .inl (cy 2, 40, .inr (.inl (fun _ => 0)))), (q 101, .inr (7, fShelf (fun k => q (101 + k)))), (q 102, .inl (cy 2, 40, .inr (.inl (fun _ => 0)))), (q 103, .inr (7, fShelf (fun k => q (103 + k)))), (q 104, .inl (cy 2, 40, .inr (.inl (fun _ => 0)))), (q 105, .inr (7, fShelf (fun k => q (105 + k)))), (q 106, .inl (cy 2, 40, .inr (.inl (fun _ => 0)))), (q 107, .inr (7, fShelf (fun k => q (107 + k)))), (q 108, .inl (cy 2, 40, .inr (.inl (fun _ => 0)))), (q 109, .inr (7, fShelf (fun k => q (109 + k)))), (q 110, .inl (cy 2, 40, .inr (.inl (fun _ => 0)))), (q 111, .inr (7, fShelf (fun k => q (111 + k)))), (q 112, .inl (cy 2, 40, .inr (.inl (fun _ => 0))))] := hD
  refine lv_iload_n hx hb dd_X11_says_0 rfl (lv_at hl 1 rfl) ?_
  refine pk_i (pc_T [.int sf] [] Sx hl.1 ws_X_55 md_X11_isShelf (c_isShelf l D cy sf) ⟨rfl, rfl⟩ ⟨Nat.le_of_ble_eq_true rfl, Nat.le_of_ble_eq_true rfl⟩ p_nil hK ns_b (ns_w hX) rfl rfl (Nat.le_of_ble_eq_true rfl) dd_X11_says_1 ⟨Nat.le_of_ble_eq_true rfl, Nat.le_of_ble_eq_true rfl⟩) (fun r1 hw2 => ?_)
  rcases hw2 with ⟨hw2, ehw2⟩ | ⟨hw2, ehw2⟩
  · subst ehw2
    refine lv_if_eq (tgt := 14) hx hb dd_X11_says_4 (by decide) (fun c => absurd c (by decide)) (fun _ => ?_)
    refine lv_iload_n hx hb dd_X11_says_7 rfl (lv_at hl 2 rfl) ?_
    refine pk_i (pc_T [.int ki] [] Sx hl.1 ws_X_122 md_X11_isKind (c_isKind l D cy ki) ⟨rfl, rfl⟩ ⟨Nat.le_of_ble_eq_true rfl, Nat.le_of_ble_eq_true rfl⟩ p_nil hK ns_b (ns_w hX) rfl rfl (Nat.le_of_ble_eq_true rfl) dd_X11_says_8 ⟨Nat.le_of_ble_eq_true rfl, Nat.le_of_ble_eq_true rfl⟩) (fun r3 hw4 => ?_)
    rcases hw4 with ⟨hw4, ehw4⟩ | ⟨hw4, ehw4⟩
    · subst ehw4
      refine lv_if_ne (tgt := 21) hx hb dd_X11_says_11 (by decide) (fun _ => ?_) (fun c => absurd c (by decide))
      refine lv_aload_n hx hb dd_X11_says_21 rfl (lv_at hl 0 rfl) ?_
      refine wk_get (v := .ref (q 1)) Sx ef_11 hK hP 0 rfl rfl 0 (by decide) kk_382 rfl dd_X11_says_22 ?_
      refine lv_iload_n hx hb dd_X11_says_25 rfl (lv_at hl 1 rfl) ?_
      have hi5 : vp_in sf 8 := (vi_of (by omega))
      refine va_aldq hx hb hK hP 1 4 rfl rfl hi5 dd_X11_says_26 ?_
      obtain ⟨j6, hjj6, ejj6⟩ : ∃ y, y < 8 ∧ sf.toNatClampNeg = y := ⟨_, vi_lt hi5, rfl⟩
      have hpj6 := sh_p (cy := cy) (q := q) (hP.sub [3, 4, 5, 6, 7, 8, 9, 10, 11, 12, 13, 14, 15, 16, 17, 18] rfl) j6 hjj6
      have hdj6 := sh_d (cy := cy) (q := q) (hD.sub [3, 4, 5, 6, 7, 8, 9, 10, 11, 12, 13, 14, 15, 16, 17, 18] (by decide) rfl) j6 hjj6
      refine wk_val (v := .ref (q (97 + 2 * j6))) (by rw [ejj6, shv_at _ _ hjj6]; rfl) ?_
      refine lv_astore_n (lv' := [(3, .ref (q (97 + 2 * j6))), (0, .ref (q 0)), (1, .int sf), (2, .int ki)]) hx hb dd_X11_says_27 rfl hl (by decide) rfl (fun ls hl => ?_)
      refine lv_aload_n hx hb dd_X11_says_28 rfl (lv_at hl 0 rfl) ?_
      refine pk_i (pc_V [] [] Sx hl.1 ws_X_92 md_X7_isEmpty (c_Shelf_isEmpty l D cy (fun k => q (97 + 2 * j6 + k))) ⟨rfl, rfl⟩ ⟨Nat.le_of_ble_eq_true rfl, Nat.le_of_ble_eq_true rfl⟩ (hpj6.sub [0] rfl) hK ns_b (ns_w hX) (va_recv hK hpj6 (ci := 7) (q0 := 0) rfl rfl) rfl rfl (Nat.le_of_ble_eq_true rfl) dd_X11_says_29 ⟨Nat.le_of_ble_eq_true rfl, Nat.le_of_ble_eq_true rfl⟩) (fun r7 hw8 => ?_)
      subst hw8
      refine lv_if_eq (tgt := 42) hx hb dd_X11_says_32 (by decide) (fun c => absurd c (by decide)) (fun _ => ?_)
      refine lv_aload_n hx hb dd_X11_says_35 rfl (lv_at hl 1 rfl) ?_
      refine lv_bipush (v := (-4)) hx hb dd_X11_says_36 (by decide) ?_
      refine hk_i (wr := [(q 1, .inl (cy 4, 8, .inr (.inr (.inr (.inr (shv q)))))), (q 97, .inr (7, fShelf (fun k => q (97 + k)))), (q 98, .inl (cy 2, 40, .inr (.inl (fun _ => 0)))), (q 99, .inr (7, fShelf (fun k => q (99 + k)))), (q 100, .inl (cy 2, 40, .inr (.inl (fun _ => 0)))), (q 101, .inr (7, fShelf (fun k => q (101 + k)))), (q 102, .inl (cy 2, 40, .inr (.inl (fun _ => 0)))), (q 103, .inr (7, fShelf (fun k => q (103 + k)))), (q 104, .inl (cy 2, 40, .inr (.inl (fun _ => 0)))), (q 105, .inr (7, fShelf (fun k => q (105 + k)))), (q 106, .inl (cy 2, 40, .inr (.inl (fun _ => 0)))), (q 107, .inr (7, fShelf (fun k => q (107 + k)))), (q 108, .inl (cy 2, 40, .inr (.inl (fun _ => 0)))), (q 109, .inr (7, fShelf (fun k => q (109 + k)))), (q 110, .inl (cy 2, 40, .inr (.inl (fun _ => 0)))), (q 111, .inr (7, fShelf (fun k => q (111 + k)))), (q 112, .inl (cy 2, 40, .inr (.inl (fun _ => 0))))]) (c1 := 0) (s1 := 0) [0, 2] [1, 3, 4, 5, 6, 7, 8, 9, 10, 11, 12, 13, 14, 15, 16, 17, 18] (hc_V [.int (-4)] [] [0, 2] Sx hl.1 ws_X_63 md_X11_refuse (c_refuse_4 l D cy q) ⟨Nat.le_of_ble_eq_true rfl, Nat.le_of_ble_eq_true rfl⟩ hP hD rfl (by decide) hK nx_b (nx_w hX) (va_recv hK hP (ci := 11) (q0 := 0) rfl rfl) rfl rfl (Nat.le_of_ble_eq_true rfl) dd_X11_says_38 ⟨Nat.le_of_ble_eq_true rfl, Nat.le_of_ble_eq_true rfl⟩) hS hA hP hD rfl rfl (by decide) (by decide) rfl rfl (fun r9 u10 H locs hw11 hP hD hS => ?_)
      have hP : va_P D cls [(q 1, .inl (cy 4, 8, .inr (.inr (.inr (.inr (shv q)))))), (q 97, .inr (7, fShelf (fun k => q (97 + k)))), (q 98, .inl (cy 2, 40, .inr (.inl (fun _ => 0)))), (q 99, .inr (7, fShelf (fun k => q (99 + k)))), (q 100, .inl (cy 2, 40, .inr (.inl (fun _ => 0)))), (q 101, .inr (7, fShelf (fun k => q (101 + k)))), (q 102, .inl (cy 2, 40, .inr (.inl (fun _ => 0)))), (q 103, .inr (7, fShelf (fun k => q (103 + k)))), (q 104, .inl (cy 2, 40, .inr (.inl (fun _ => 0)))), (q 105, .inr (7, fShelf (fun k => q (105 + k)))), (q 106, .inl (cy 2, 40, .inr (.inl (fun _ => 0)))), (q 107, .inr (7, fShelf (fun k => q (107 + k)))), (q 108, .inl (cy 2, 40, .inr (.inl (fun _ => 0)))), (q 109, .inr (7, fShelf (fun k => q (109 + k)))), (q 110, .inl (cy 2, 40, .inr (.inl (fun _ => 0)))), (q 111, .inr (7, fShelf (fun k => q (111 + k)))), (q 112, .inl (cy 2, 40, .inr (.inl (fun _ => 0))))] H := hP
      have hD : va_D A [(q 1, .inl (cy 4, 8, .inr (.inr (.inr (.inr (shv q)))))), (q 97, .inr (7, fShelf (fun k => q (97 + k)))), (q 98, .inl (cy 2, 40, .inr (.inl (fun _ => 0)))), (q 99, .inr (7, fShelf (fun k => q (99 + k)))), (q 100, .inl (cy 2, 40, .inr (.inl (fun _ => 0)))), (q 101, .inr (7, fShelf (fun k => q (101 + k)))), (q 102, .inl (cy 2, 40, .inr (.inl (fun _ => 0)))), (q 103, .inr (7, fShelf (fun k => q (103 + k)))), (q 104, .inl (cy 2, 40, .inr (.inl (fun _ => 0)))), (q 105, .inr (7, fShelf (fun k => q (105 + k)))), (q 106, .inl (cy 2, 40, .inr (.inl (fun _ => 0)))), (q 107, .inr (7, fShelf (fun k => q (107 + k)))), (q 108, .inl (cy 2, 40, .inr (.inl (fun _ => 0)))), (q 109, .inr (7, fShelf (fun k => q (109 + k)))), (q 110, .inl (cy 2, 40, .inr (.inl (fun _ => 0)))), (q 111, .inr (7, fShelf (fun k => q (111 + k)))), (q 112, .inl (cy 2, 40, .inr (.inl (fun _ => 0))))] := hD
      subst hw11
      exact hc_ret Sx hr hlocks dd_X11_says_41 hS () (Or.inl ⟨by omega, rfl⟩) p_nil d_nil
    · subst ehw4
      refine lv_if_ne (tgt := 21) hx hb dd_X11_says_11 (by decide) (fun c => absurd c (by decide)) (fun _ => ?_)
      refine lv_aload_n hx hb dd_X11_says_14 rfl (lv_at hl 0 rfl) ?_
      refine lv_bipush (v := (-2)) hx hb dd_X11_says_15 (by decide) ?_
      refine hk_i (wr := [(q 1, .inl (cy 4, 8, .inr (.inr (.inr (.inr (shv q)))))), (q 97, .inr (7, fShelf (fun k => q (97 + k)))), (q 98, .inl (cy 2, 40, .inr (.inl (fun _ => 0)))), (q 99, .inr (7, fShelf (fun k => q (99 + k)))), (q 100, .inl (cy 2, 40, .inr (.inl (fun _ => 0)))), (q 101, .inr (7, fShelf (fun k => q (101 + k)))), (q 102, .inl (cy 2, 40, .inr (.inl (fun _ => 0)))), (q 103, .inr (7, fShelf (fun k => q (103 + k)))), (q 104, .inl (cy 2, 40, .inr (.inl (fun _ => 0)))), (q 105, .inr (7, fShelf (fun k => q (105 + k)))), (q 106, .inl (cy 2, 40, .inr (.inl (fun _ => 0)))), (q 107, .inr (7, fShelf (fun k => q (107 + k)))), (q 108, .inl (cy 2, 40, .inr (.inl (fun _ => 0)))), (q 109, .inr (7, fShelf (fun k => q (109 + k)))), (q 110, .inl (cy 2, 40, .inr (.inl (fun _ => 0)))), (q 111, .inr (7, fShelf (fun k => q (111 + k)))), (q 112, .inl (cy 2, 40, .inr (.inl (fun _ => 0))))]) (c1 := 0) (s1 := 0) [0, 2] [1, 3, 4, 5, 6, 7, 8, 9, 10, 11, 12, 13, 14, 15, 16, 17, 18] (hc_V [.int (-2)] [] [0, 2] Sx hl.1 ws_X_63 md_X11_refuse (c_refuse_2 l D cy q) ⟨Nat.le_of_ble_eq_true rfl, Nat.le_of_ble_eq_true rfl⟩ hP hD rfl (by decide) hK nx_b (nx_w hX) (va_recv hK hP (ci := 11) (q0 := 0) rfl rfl) rfl rfl (Nat.le_of_ble_eq_true rfl) dd_X11_says_17 ⟨Nat.le_of_ble_eq_true rfl, Nat.le_of_ble_eq_true rfl⟩) hS hA hP hD rfl rfl (by decide) (by decide) rfl rfl (fun r12 u13 H locs hw14 hP hD hS => ?_)
      have hP : va_P D cls [(q 1, .inl (cy 4, 8, .inr (.inr (.inr (.inr (shv q)))))), (q 97, .inr (7, fShelf (fun k => q (97 + k)))), (q 98, .inl (cy 2, 40, .inr (.inl (fun _ => 0)))), (q 99, .inr (7, fShelf (fun k => q (99 + k)))), (q 100, .inl (cy 2, 40, .inr (.inl (fun _ => 0)))), (q 101, .inr (7, fShelf (fun k => q (101 + k)))), (q 102, .inl (cy 2, 40, .inr (.inl (fun _ => 0)))), (q 103, .inr (7, fShelf (fun k => q (103 + k)))), (q 104, .inl (cy 2, 40, .inr (.inl (fun _ => 0)))), (q 105, .inr (7, fShelf (fun k => q (105 + k)))), (q 106, .inl (cy 2, 40, .inr (.inl (fun _ => 0)))), (q 107, .inr (7, fShelf (fun k => q (107 + k)))), (q 108, .inl (cy 2, 40, .inr (.inl (fun _ => 0)))), (q 109, .inr (7, fShelf (fun k => q (109 + k)))), (q 110, .inl (cy 2, 40, .inr (.inl (fun _ => 0)))), (q 111, .inr (7, fShelf (fun k => q (111 + k)))), (q 112, .inl (cy 2, 40, .inr (.inl (fun _ => 0))))] H := hP
      have hD : va_D A [(q 1, .inl (cy 4, 8, .inr (.inr (.inr (.inr (shv q)))))), (q 97, .inr (7, fShelf (fun k => q (97 + k)))), (q 98, .inl (cy 2, 40, .inr (.inl (fun _ => 0)))), (q 99, .inr (7, fShelf (fun k => q (99 + k)))), (q 100, .inl (cy 2, 40, .inr (.inl (fun _ => 0)))), (q 101, .inr (7, fShelf (fun k => q (101 + k)))), (q 102, .inl (cy 2, 40, .inr (.inl (fun _ => 0)))), (q 103, .inr (7, fShelf (fun k => q (103 + k)))), (q 104, .inl (cy 2, 40, .inr (.inl (fun _ => 0)))), (q 105, .inr (7, fShelf (fun k => q (105 + k)))), (q 106, .inl (cy 2, 40, .inr (.inl (fun _ => 0)))), (q 107, .inr (7, fShelf (fun k => q (107 + k)))), (q 108, .inl (cy 2, 40, .inr (.inl (fun _ => 0)))), (q 109, .inr (7, fShelf (fun k => q (109 + k)))), (q 110, .inl (cy 2, 40, .inr (.inl (fun _ => 0)))), (q 111, .inr (7, fShelf (fun k => q (111 + k)))), (q 112, .inl (cy 2, 40, .inr (.inl (fun _ => 0))))] := hD
      subst hw14
      exact hc_ret Sx hr hlocks dd_X11_says_20 hS () (Or.inr ⟨by omega, rfl⟩) p_nil d_nil
  · subst ehw2
    refine lv_if_eq (tgt := 14) hx hb dd_X11_says_4 (by decide) (fun _ => ?_) (fun c => absurd c (by decide))
    refine lv_aload_n hx hb dd_X11_says_14 rfl (lv_at hl 0 rfl) ?_
    refine lv_bipush (v := (-2)) hx hb dd_X11_says_15 (by decide) ?_
    refine hk_i (wr := [(q 1, .inl (cy 4, 8, .inr (.inr (.inr (.inr (shv q)))))), (q 97, .inr (7, fShelf (fun k => q (97 + k)))), (q 98, .inl (cy 2, 40, .inr (.inl (fun _ => 0)))), (q 99, .inr (7, fShelf (fun k => q (99 + k)))), (q 100, .inl (cy 2, 40, .inr (.inl (fun _ => 0)))), (q 101, .inr (7, fShelf (fun k => q (101 + k)))), (q 102, .inl (cy 2, 40, .inr (.inl (fun _ => 0)))), (q 103, .inr (7, fShelf (fun k => q (103 + k)))), (q 104, .inl (cy 2, 40, .inr (.inl (fun _ => 0)))), (q 105, .inr (7, fShelf (fun k => q (105 + k)))), (q 106, .inl (cy 2, 40, .inr (.inl (fun _ => 0)))), (q 107, .inr (7, fShelf (fun k => q (107 + k)))), (q 108, .inl (cy 2, 40, .inr (.inl (fun _ => 0)))), (q 109, .inr (7, fShelf (fun k => q (109 + k)))), (q 110, .inl (cy 2, 40, .inr (.inl (fun _ => 0)))), (q 111, .inr (7, fShelf (fun k => q (111 + k)))), (q 112, .inl (cy 2, 40, .inr (.inl (fun _ => 0))))]) (c1 := 0) (s1 := 0) [0, 2] [1, 3, 4, 5, 6, 7, 8, 9, 10, 11, 12, 13, 14, 15, 16, 17, 18] (hc_V [.int (-2)] [] [0, 2] Sx hl.1 ws_X_63 md_X11_refuse (c_refuse_2 l D cy q) ⟨Nat.le_of_ble_eq_true rfl, Nat.le_of_ble_eq_true rfl⟩ hP hD rfl (by decide) hK nx_b (nx_w hX) (va_recv hK hP (ci := 11) (q0 := 0) rfl rfl) rfl rfl (Nat.le_of_ble_eq_true rfl) dd_X11_says_17 ⟨Nat.le_of_ble_eq_true rfl, Nat.le_of_ble_eq_true rfl⟩) hS hA hP hD rfl rfl (by decide) (by decide) rfl rfl (fun r15 u16 H locs hw17 hP hD hS => ?_)
    have hP : va_P D cls [(q 1, .inl (cy 4, 8, .inr (.inr (.inr (.inr (shv q)))))), (q 97, .inr (7, fShelf (fun k => q (97 + k)))), (q 98, .inl (cy 2, 40, .inr (.inl (fun _ => 0)))), (q 99, .inr (7, fShelf (fun k => q (99 + k)))), (q 100, .inl (cy 2, 40, .inr (.inl (fun _ => 0)))), (q 101, .inr (7, fShelf (fun k => q (101 + k)))), (q 102, .inl (cy 2, 40, .inr (.inl (fun _ => 0)))), (q 103, .inr (7, fShelf (fun k => q (103 + k)))), (q 104, .inl (cy 2, 40, .inr (.inl (fun _ => 0)))), (q 105, .inr (7, fShelf (fun k => q (105 + k)))), (q 106, .inl (cy 2, 40, .inr (.inl (fun _ => 0)))), (q 107, .inr (7, fShelf (fun k => q (107 + k)))), (q 108, .inl (cy 2, 40, .inr (.inl (fun _ => 0)))), (q 109, .inr (7, fShelf (fun k => q (109 + k)))), (q 110, .inl (cy 2, 40, .inr (.inl (fun _ => 0)))), (q 111, .inr (7, fShelf (fun k => q (111 + k)))), (q 112, .inl (cy 2, 40, .inr (.inl (fun _ => 0))))] H := hP
    have hD : va_D A [(q 1, .inl (cy 4, 8, .inr (.inr (.inr (.inr (shv q)))))), (q 97, .inr (7, fShelf (fun k => q (97 + k)))), (q 98, .inl (cy 2, 40, .inr (.inl (fun _ => 0)))), (q 99, .inr (7, fShelf (fun k => q (99 + k)))), (q 100, .inl (cy 2, 40, .inr (.inl (fun _ => 0)))), (q 101, .inr (7, fShelf (fun k => q (101 + k)))), (q 102, .inl (cy 2, 40, .inr (.inl (fun _ => 0)))), (q 103, .inr (7, fShelf (fun k => q (103 + k)))), (q 104, .inl (cy 2, 40, .inr (.inl (fun _ => 0)))), (q 105, .inr (7, fShelf (fun k => q (105 + k)))), (q 106, .inl (cy 2, 40, .inr (.inl (fun _ => 0)))), (q 107, .inr (7, fShelf (fun k => q (107 + k)))), (q 108, .inl (cy 2, 40, .inr (.inl (fun _ => 0)))), (q 109, .inr (7, fShelf (fun k => q (109 + k)))), (q 110, .inl (cy 2, 40, .inr (.inl (fun _ => 0)))), (q 111, .inr (7, fShelf (fun k => q (111 + k)))), (q 112, .inl (cy 2, 40, .inr (.inl (fun _ => 0))))] := hD
    subst hw17
    exact hc_ret Sx hr hlocks dd_X11_says_20 hS () (Or.inr ⟨by omega, rfl⟩) p_nil d_nil
set_option maxHeartbeats 4000000 in
set_option maxRecDepth 100000 in
theorem c_X_thing (l : Launch) (D : va_G) (cy : Nat → ClassId) (q : Nat → Nat) (ki : Int32) (wo : Int32) (ch : Int32) : HC l my_X11_thing mb_X11_thing 4 ((some .int)) (rmD 3 0 0) D (TY cy) [.ref (q 0), .int ki, .int wo, .int ch] NX [(q 0, .inr (11, fX q)), (q 2, .inl (cy 0, 5, .inl (fun _ => 0))), (q 5, .inr (1, fHall (fun k => q (5 + k)))), (q 6, .inr (10, fThings (fun k => q (6 + k)))), (q 7, .inl (cy 0, 30, .inl (fun _ => 0))), (q 8, .inl (cy 0, 30, .inl (fun _ => 0))), (q 9, .inl (cy 0, 30, .inl (fun _ => 0))), (q 10, .inl (cy 0, 30, .inl (fun _ => 0))), (q 11, .inl (cy 0, 30, .inl (fun _ => 0))), (q 12, .inl (cy 0, 30, .inl (fun _ => 0))), (q 13, .inl (cy 0, 30, .inl (fun _ => 0)))] (QI (S := Unit) D (fun r _ => if2 (0 ≤ ki.toInt ∧ ki.toInt ≤ 5 ∧ 0 ≤ wo.toInt ∧ wo.toInt ≤ 999 ∧ 0 ≤ ch.toInt ∧ ch.toInt ≤ 255) 0 (-2) r) (fun _ => [])) := by
  refine hc_intro (by decide) (Nat.le_of_ble_eq_true rfl) (fun p e s m below meth c A ls Sx hr hlocks hin hl hP hD hK hS hA hX => ?_)
  have hx := Sx.1
  have hb := Sx.2.1
  have hl : lv_has ls 4 [(0, .ref (q 0)), (1, .int ki), (2, .int wo), (3, .int ch)] := hl
  have hP : va_P D cls [(q 0, .inr (11, fX q)), (q 2, .inl (cy 0, 5, .inl (fun _ => 0))), (q 5, .inr (1, fHall (fun k => q (5 + k)))), (q 6, .inr (10, fThings (fun k => q (6 + k)))), (q 7, .inl (cy 0, 30, .inl (fun _ => 0))), (q 8, .inl (cy 0, 30, .inl (fun _ => 0))), (q 9, .inl (cy 0, 30, .inl (fun _ => 0))), (q 10, .inl (cy 0, 30, .inl (fun _ => 0))), (q 11, .inl (cy 0, 30, .inl (fun _ => 0))), (q 12, .inl (cy 0, 30, .inl (fun _ => 0))), (q 13, .inl (cy 0, 30, .inl (fun _ => 0)))] s.heap := hP
  have hD : va_D A [(q 0, .inr (11, fX q)), (q 2, .inl (cy 0, 5, .inl (fun _ => 0))), (q 5, .inr (1, fHall (fun k => q (5 + k)))), (q 6, .inr (10, fThings (fun k => q (6 + k)))), (q 7, .inl (cy 0, 30, .inl (fun _ => 0))), (q 8, .inl (cy 0, 30, .inl (fun _ => 0))), (q 9, .inl (cy 0, 30, .inl (fun _ => 0))), (q 10, .inl (cy 0, 30, .inl (fun _ => 0))), (q 11, .inl (cy 0, 30, .inl (fun _ => 0))), (q 12, .inl (cy 0, 30, .inl (fun _ => 0))), (q 13, .inl (cy 0, 30, .inl (fun _ => 0)))] := hD
  refine lv_iload_n hx hb dd_X11_thing_0 rfl (lv_at hl 1 rfl) ?_
  refine pk_i (pc_T [.int ki] [] Sx hl.1 ws_X_122 md_X11_isKind (c_isKind l D cy ki) ⟨rfl, rfl⟩ ⟨Nat.le_of_ble_eq_true rfl, Nat.le_of_ble_eq_true rfl⟩ p_nil hK ns_b (ns_w hX) rfl rfl (Nat.le_of_ble_eq_true rfl) dd_X11_thing_1 ⟨Nat.le_of_ble_eq_true rfl, Nat.le_of_ble_eq_true rfl⟩) (fun r1 hw2 => ?_)
  rcases hw2 with ⟨hw2, ehw2⟩ | ⟨hw2, ehw2⟩
  · subst ehw2
    refine lv_if_eq (tgt := 29) hx hb dd_X11_thing_4 (by decide) (fun c => absurd c (by decide)) (fun _ => ?_)
    refine lv_iload_n hx hb dd_X11_thing_7 rfl (lv_at hl 2 rfl) ?_
    refine lv_iconst (v := 0) hx hb dd_X11_thing_8 (by decide) ?_
    refine lv_sipush (v := 999) hx hb dd_X11_thing_9 (by decide) ?_
    refine pk_i (pc_T [.int wo, .int 0, .int 999] [] Sx hl.1 ws_X_59 md_X11_within (c_within l D cy wo 0 999) ⟨rfl, rfl⟩ ⟨Nat.le_of_ble_eq_true rfl, Nat.le_of_ble_eq_true rfl⟩ p_nil hK ns_b (ns_w hX) rfl rfl (Nat.le_of_ble_eq_true rfl) dd_X11_thing_12 ⟨Nat.le_of_ble_eq_true rfl, Nat.le_of_ble_eq_true rfl⟩) (fun r3 hw4 => ?_)
    rcases hw4 with ⟨hw4, ehw4⟩ | ⟨hw4, ehw4⟩
    · have hl5 : Int32.toInt 0 = 0 := rfl
      have hl6 : Int32.toInt 999 = 999 := rfl
      subst ehw4
      refine lv_if_eq (tgt := 29) hx hb dd_X11_thing_15 (by decide) (fun c => absurd c (by decide)) (fun _ => ?_)
      refine lv_iload_n hx hb dd_X11_thing_18 rfl (lv_at hl 3 rfl) ?_
      refine lv_iconst (v := 0) hx hb dd_X11_thing_19 (by decide) ?_
      refine lv_sipush (v := 255) hx hb dd_X11_thing_20 (by decide) ?_
      refine pk_i (pc_T [.int ch, .int 0, .int 255] [] Sx hl.1 ws_X_59 md_X11_within (c_within l D cy ch 0 255) ⟨rfl, rfl⟩ ⟨Nat.le_of_ble_eq_true rfl, Nat.le_of_ble_eq_true rfl⟩ p_nil hK ns_b (ns_w hX) rfl rfl (Nat.le_of_ble_eq_true rfl) dd_X11_thing_23 ⟨Nat.le_of_ble_eq_true rfl, Nat.le_of_ble_eq_true rfl⟩) (fun r7 hw8 => ?_)
      rcases hw8 with ⟨hw8, ehw8⟩ | ⟨hw8, ehw8⟩
      · have hl9 : Int32.toInt 0 = 0 := rfl
        have hl10 : Int32.toInt 255 = 255 := rfl
        subst ehw8
        refine lv_if_ne (tgt := 36) hx hb dd_X11_thing_26 (by decide) (fun _ => ?_) (fun c => absurd c (by decide))
        refine lv_aload_n hx hb dd_X11_thing_36 rfl (lv_at hl 0 rfl) ?_
        refine wk_get (v := .ref (q 5)) Sx ef_11 hK hP 0 rfl rfl 3 (by decide) kk_385 rfl dd_X11_thing_37 ?_
        refine wk_get (v := .ref (q 6)) Sx ef_1 hK hP 2 rfl rfl 0 (by decide) kk_260 rfl dd_X11_thing_40 ?_
        refine wk_get (v := .int 0) Sx ef_10 hK hP 3 rfl rfl 6 (by decide) kk_90 rfl dd_X11_thing_43 ?_
        refine lv_bipush (v := 30) hx hb dd_X11_thing_46 (by decide) ?_
        refine lv_icmp_lt (tgt := 58) hx hb dd_X11_thing_48 (by decide) (fun _ => ?_) (fun c => absurd c (by decide))
        refine lv_aload_n hx hb dd_X11_thing_58 rfl (lv_at hl 0 rfl) ?_
        refine wk_get (v := .ref (q 5)) Sx ef_11 hK hP 0 rfl rfl 3 (by decide) kk_385 rfl dd_X11_thing_59 ?_
        refine wk_get (v := .ref (q 6)) Sx ef_1 hK hP 2 rfl rfl 0 (by decide) kk_260 rfl dd_X11_thing_62 ?_
        refine lv_iload_n hx hb dd_X11_thing_65 rfl (lv_at hl 1 rfl) ?_
        refine lv_iload_n hx hb dd_X11_thing_66 rfl (lv_at hl 2 rfl) ?_
        refine lv_iload_n hx hb dd_X11_thing_67 rfl (lv_at hl 3 rfl) ?_
        refine hk_i (wr := [(q 0, .inr (11, fX q)), (q 2, .inl (cy 0, 5, .inl (fun _ => 0))), (q 5, .inr (1, fHall (fun k => q (5 + k))))]) (c1 := 0) (s1 := 0) [3, 4, 5, 6, 7, 8, 9, 10] [0, 1, 2] (hc_V [.int ki, .int wo, .int ch] [] [3, 4, 5, 6, 7, 8, 9, 10] Sx hl.1 ws_X_135 md_X10_add (c_Things_add l D cy (fun k => q (6 + k)) ki wo ch) ⟨Nat.le_of_ble_eq_true rfl, Nat.le_of_ble_eq_true rfl⟩ hP hD rfl (by decide) hK nx_b (nx_w hX) (va_recv hK hP (ci := 10) (q0 := 3) rfl rfl) rfl rfl (Nat.le_of_ble_eq_true rfl) dd_X11_thing_68 ⟨Nat.le_of_ble_eq_true rfl, Nat.le_of_ble_eq_true rfl⟩) hS hA hP hD rfl rfl (by decide) (by decide) rfl rfl (fun r11 u12 H locs hw13 hP hD hS => ?_)
        have hP : va_P D cls [(q 0, .inr (11, fX q)), (q 2, .inl (cy 0, 5, .inl (fun _ => 0))), (q 5, .inr (1, fHall (fun k => q (5 + k))))] H := hP
        have hD : va_D A [(q 0, .inr (11, fX q)), (q 2, .inl (cy 0, 5, .inl (fun _ => 0))), (q 5, .inr (1, fHall (fun k => q (5 + k))))] := hD
        subst hw13
        exact hc_ret Sx hr hlocks dd_X11_thing_71 hS () (Or.inl ⟨by omega, rfl⟩) p_nil d_nil
      · have hl14 : Int32.toInt 0 = 0 := rfl
        have hl15 : Int32.toInt 255 = 255 := rfl
        subst ehw8
        refine lv_if_ne (tgt := 36) hx hb dd_X11_thing_26 (by decide) (fun c => absurd c (by decide)) (fun _ => ?_)
        refine lv_aload_n hx hb dd_X11_thing_29 rfl (lv_at hl 0 rfl) ?_
        refine lv_bipush (v := (-2)) hx hb dd_X11_thing_30 (by decide) ?_
        refine hk_i (wr := [(q 5, .inr (1, fHall (fun k => q (5 + k)))), (q 6, .inr (10, fThings (fun k => q (6 + k)))), (q 7, .inl (cy 0, 30, .inl (fun _ => 0))), (q 8, .inl (cy 0, 30, .inl (fun _ => 0))), (q 9, .inl (cy 0, 30, .inl (fun _ => 0))), (q 10, .inl (cy 0, 30, .inl (fun _ => 0))), (q 11, .inl (cy 0, 30, .inl (fun _ => 0))), (q 12, .inl (cy 0, 30, .inl (fun _ => 0))), (q 13, .inl (cy 0, 30, .inl (fun _ => 0)))]) (c1 := 0) (s1 := 0) [0, 1] [2, 3, 4, 5, 6, 7, 8, 9, 10] (hc_V [.int (-2)] [] [0, 1] Sx hl.1 ws_X_63 md_X11_refuse (c_refuse_2 l D cy q) ⟨Nat.le_of_ble_eq_true rfl, Nat.le_of_ble_eq_true rfl⟩ hP hD rfl (by decide) hK nx_b (nx_w hX) (va_recv hK hP (ci := 11) (q0 := 0) rfl rfl) rfl rfl (Nat.le_of_ble_eq_true rfl) dd_X11_thing_32 ⟨Nat.le_of_ble_eq_true rfl, Nat.le_of_ble_eq_true rfl⟩) hS hA hP hD rfl rfl (by decide) (by decide) rfl rfl (fun r16 u17 H locs hw18 hP hD hS => ?_)
        have hP : va_P D cls [(q 5, .inr (1, fHall (fun k => q (5 + k)))), (q 6, .inr (10, fThings (fun k => q (6 + k)))), (q 7, .inl (cy 0, 30, .inl (fun _ => 0))), (q 8, .inl (cy 0, 30, .inl (fun _ => 0))), (q 9, .inl (cy 0, 30, .inl (fun _ => 0))), (q 10, .inl (cy 0, 30, .inl (fun _ => 0))), (q 11, .inl (cy 0, 30, .inl (fun _ => 0))), (q 12, .inl (cy 0, 30, .inl (fun _ => 0))), (q 13, .inl (cy 0, 30, .inl (fun _ => 0)))] H := hP
        have hD : va_D A [(q 5, .inr (1, fHall (fun k => q (5 + k)))), (q 6, .inr (10, fThings (fun k => q (6 + k)))), (q 7, .inl (cy 0, 30, .inl (fun _ => 0))), (q 8, .inl (cy 0, 30, .inl (fun _ => 0))), (q 9, .inl (cy 0, 30, .inl (fun _ => 0))), (q 10, .inl (cy 0, 30, .inl (fun _ => 0))), (q 11, .inl (cy 0, 30, .inl (fun _ => 0))), (q 12, .inl (cy 0, 30, .inl (fun _ => 0))), (q 13, .inl (cy 0, 30, .inl (fun _ => 0)))] := hD
        subst hw18
        exact hc_ret Sx hr hlocks dd_X11_thing_35 hS () (Or.inr ⟨by omega, rfl⟩) p_nil d_nil
    · have hl19 : Int32.toInt 0 = 0 := rfl
      have hl20 : Int32.toInt 999 = 999 := rfl
      subst ehw4
      refine lv_if_eq (tgt := 29) hx hb dd_X11_thing_15 (by decide) (fun _ => ?_) (fun c => absurd c (by decide))
      refine lv_aload_n hx hb dd_X11_thing_29 rfl (lv_at hl 0 rfl) ?_
      refine lv_bipush (v := (-2)) hx hb dd_X11_thing_30 (by decide) ?_
      refine hk_i (wr := [(q 5, .inr (1, fHall (fun k => q (5 + k)))), (q 6, .inr (10, fThings (fun k => q (6 + k)))), (q 7, .inl (cy 0, 30, .inl (fun _ => 0))), (q 8, .inl (cy 0, 30, .inl (fun _ => 0))), (q 9, .inl (cy 0, 30, .inl (fun _ => 0))), (q 10, .inl (cy 0, 30, .inl (fun _ => 0))), (q 11, .inl (cy 0, 30, .inl (fun _ => 0))), (q 12, .inl (cy 0, 30, .inl (fun _ => 0))), (q 13, .inl (cy 0, 30, .inl (fun _ => 0)))]) (c1 := 0) (s1 := 0) [0, 1] [2, 3, 4, 5, 6, 7, 8, 9, 10] (hc_V [.int (-2)] [] [0, 1] Sx hl.1 ws_X_63 md_X11_refuse (c_refuse_2 l D cy q) ⟨Nat.le_of_ble_eq_true rfl, Nat.le_of_ble_eq_true rfl⟩ hP hD rfl (by decide) hK nx_b (nx_w hX) (va_recv hK hP (ci := 11) (q0 := 0) rfl rfl) rfl rfl (Nat.le_of_ble_eq_true rfl) dd_X11_thing_32 ⟨Nat.le_of_ble_eq_true rfl, Nat.le_of_ble_eq_true rfl⟩) hS hA hP hD rfl rfl (by decide) (by decide) rfl rfl (fun r21 u22 H locs hw23 hP hD hS => ?_)
      have hP : va_P D cls [(q 5, .inr (1, fHall (fun k => q (5 + k)))), (q 6, .inr (10, fThings (fun k => q (6 + k)))), (q 7, .inl (cy 0, 30, .inl (fun _ => 0))), (q 8, .inl (cy 0, 30, .inl (fun _ => 0))), (q 9, .inl (cy 0, 30, .inl (fun _ => 0))), (q 10, .inl (cy 0, 30, .inl (fun _ => 0))), (q 11, .inl (cy 0, 30, .inl (fun _ => 0))), (q 12, .inl (cy 0, 30, .inl (fun _ => 0))), (q 13, .inl (cy 0, 30, .inl (fun _ => 0)))] H := hP
      have hD : va_D A [(q 5, .inr (1, fHall (fun k => q (5 + k)))), (q 6, .inr (10, fThings (fun k => q (6 + k)))), (q 7, .inl (cy 0, 30, .inl (fun _ => 0))), (q 8, .inl (cy 0, 30, .inl (fun _ => 0))), (q 9, .inl (cy 0, 30, .inl (fun _ => 0))), (q 10, .inl (cy 0, 30, .inl (fun _ => 0))), (q 11, .inl (cy 0, 30, .inl (fun _ => 0))), (q 12, .inl (cy 0, 30, .inl (fun _ => 0))), (q 13, .inl (cy 0, 30, .inl (fun _ => 0)))] := hD
      subst hw23
      exact hc_ret Sx hr hlocks dd_X11_thing_35 hS () (Or.inr ⟨by omega, rfl⟩) p_nil d_nil
  · subst ehw2
    refine lv_if_eq (tgt := 29) hx hb dd_X11_thing_4 (by decide) (fun _ => ?_) (fun c => absurd c (by decide))
    refine lv_aload_n hx hb dd_X11_thing_29 rfl (lv_at hl 0 rfl) ?_
    refine lv_bipush (v := (-2)) hx hb dd_X11_thing_30 (by decide) ?_
    refine hk_i (wr := [(q 5, .inr (1, fHall (fun k => q (5 + k)))), (q 6, .inr (10, fThings (fun k => q (6 + k)))), (q 7, .inl (cy 0, 30, .inl (fun _ => 0))), (q 8, .inl (cy 0, 30, .inl (fun _ => 0))), (q 9, .inl (cy 0, 30, .inl (fun _ => 0))), (q 10, .inl (cy 0, 30, .inl (fun _ => 0))), (q 11, .inl (cy 0, 30, .inl (fun _ => 0))), (q 12, .inl (cy 0, 30, .inl (fun _ => 0))), (q 13, .inl (cy 0, 30, .inl (fun _ => 0)))]) (c1 := 0) (s1 := 0) [0, 1] [2, 3, 4, 5, 6, 7, 8, 9, 10] (hc_V [.int (-2)] [] [0, 1] Sx hl.1 ws_X_63 md_X11_refuse (c_refuse_2 l D cy q) ⟨Nat.le_of_ble_eq_true rfl, Nat.le_of_ble_eq_true rfl⟩ hP hD rfl (by decide) hK nx_b (nx_w hX) (va_recv hK hP (ci := 11) (q0 := 0) rfl rfl) rfl rfl (Nat.le_of_ble_eq_true rfl) dd_X11_thing_32 ⟨Nat.le_of_ble_eq_true rfl, Nat.le_of_ble_eq_true rfl⟩) hS hA hP hD rfl rfl (by decide) (by decide) rfl rfl (fun r24 u25 H locs hw26 hP hD hS => ?_)
    have hP : va_P D cls [(q 5, .inr (1, fHall (fun k => q (5 + k)))), (q 6, .inr (10, fThings (fun k => q (6 + k)))), (q 7, .inl (cy 0, 30, .inl (fun _ => 0))), (q 8, .inl (cy 0, 30, .inl (fun _ => 0))), (q 9, .inl (cy 0, 30, .inl (fun _ => 0))), (q 10, .inl (cy 0, 30, .inl (fun _ => 0))), (q 11, .inl (cy 0, 30, .inl (fun _ => 0))), (q 12, .inl (cy 0, 30, .inl (fun _ => 0))), (q 13, .inl (cy 0, 30, .inl (fun _ => 0)))] H := hP
    have hD : va_D A [(q 5, .inr (1, fHall (fun k => q (5 + k)))), (q 6, .inr (10, fThings (fun k => q (6 + k)))), (q 7, .inl (cy 0, 30, .inl (fun _ => 0))), (q 8, .inl (cy 0, 30, .inl (fun _ => 0))), (q 9, .inl (cy 0, 30, .inl (fun _ => 0))), (q 10, .inl (cy 0, 30, .inl (fun _ => 0))), (q 11, .inl (cy 0, 30, .inl (fun _ => 0))), (q 12, .inl (cy 0, 30, .inl (fun _ => 0))), (q 13, .inl (cy 0, 30, .inl (fun _ => 0)))] := hD
    subst hw26
    exact hc_ret Sx hr hlocks dd_X11_thing_35 hS () (Or.inr ⟨by omega, rfl⟩) p_nil d_nil
set_option maxHeartbeats 4000000 in
set_option maxRecDepth 100000 in
theorem c_X_things (l : Launch) (D : va_G) (cy : Nat → ClassId) (q : Nat → Nat) (sf : Int32) (ki : Int32) (nn : Int32) : HC l my_X11_things mb_X11_things 9 ((some .int)) (rmD 4 0 0) D (TY cy) [.ref (q 0), .int sf, .int ki, .int nn] NX [(q 0, .inr (11, fX q)), (q 1, .inl (cy 4, 8, .inr (.inr (.inr (.inr (shv q)))))), (q 2, .inl (cy 0, 5, .inl (fun _ => 0))), (q 97, .inr (7, fShelf (fun k => q (97 + k)))), (q 98, .inl (cy 2, 40, .inr (.inl (fun _ => 0)))), (q 99, .inr (7, fShelf (fun k => q (99 + k)))), (q 100, .inl (cy 2, 40, .inr (.inl (fun _ => 0)))), (q 101, .inr (7, fShelf (fun k => q (101 + k)))), (q 102, .inl (cy 2, 40, .inr (.inl (fun _ => 0)))), (q 103, .inr (7, fShelf (fun k => q (103 + k)))), (q 104, .inl (cy 2, 40, .inr (.inl (fun _ => 0)))), (q 105, .inr (7, fShelf (fun k => q (105 + k)))), (q 106, .inl (cy 2, 40, .inr (.inl (fun _ => 0)))), (q 107, .inr (7, fShelf (fun k => q (107 + k)))), (q 108, .inl (cy 2, 40, .inr (.inl (fun _ => 0)))), (q 109, .inr (7, fShelf (fun k => q (109 + k)))), (q 110, .inl (cy 2, 40, .inr (.inl (fun _ => 0)))), (q 111, .inr (7, fShelf (fun k => q (111 + k)))), (q 112, .inl (cy 2, 40, .inr (.inl (fun _ => 0))))] (QI (S := Unit) D (fun r _ => if2 (0 ≤ sf.toInt ∧ sf.toInt ≤ 7 ∧ 0 ≤ ki.toInt ∧ ki.toInt ≤ 5) (-4) (-2) r) (fun _ => [])) := by
  refine hc_intro (by decide) (Nat.le_of_ble_eq_true rfl) (fun p e s m below meth c A ls Sx hr hlocks hin hl hP hD hK hS hA hX => ?_)
  have hx := Sx.1
  have hb := Sx.2.1
  have hl : lv_has ls 9 [(0, .ref (q 0)), (1, .int sf), (2, .int ki), (3, .int nn)] := hl
  have hP : va_P D cls [(q 0, .inr (11, fX q)), (q 1, .inl (cy 4, 8, .inr (.inr (.inr (.inr (shv q)))))), (q 2, .inl (cy 0, 5, .inl (fun _ => 0))), (q 97, .inr (7, fShelf (fun k => q (97 + k)))), (q 98, .inl (cy 2, 40, .inr (.inl (fun _ => 0)))), (q 99, .inr (7, fShelf (fun k => q (99 + k)))), (q 100, .inl (cy 2, 40, .inr (.inl (fun _ => 0)))), (q 101, .inr (7, fShelf (fun k => q (101 + k)))), (q 102, .inl (cy 2, 40, .inr (.inl (fun _ => 0)))), (q 103, .inr (7, fShelf (fun k => q (103 + k)))), (q 104, .inl (cy 2, 40, .inr (.inl (fun _ => 0)))), (q 105, .inr (7, fShelf (fun k => q (105 + k)))), (q 106, .inl (cy 2, 40, .inr (.inl (fun _ => 0)))), (q 107, .inr (7, fShelf (fun k => q (107 + k)))), (q 108, .inl (cy 2, 40, .inr (.inl (fun _ => 0)))), (q 109, .inr (7, fShelf (fun k => q (109 + k)))), (q 110, .inl (cy 2, 40, .inr (.inl (fun _ => 0)))), (q 111, .inr (7, fShelf (fun k => q (111 + k)))), (q 112, .inl (cy 2, 40, .inr (.inl (fun _ => 0))))] s.heap := hP
  have hD : va_D A [(q 0, .inr (11, fX q)), (q 1, .inl (cy 4, 8, .inr (.inr (.inr (.inr (shv q)))))), (q 2, .inl (cy 0, 5, .inl (fun _ => 0))), (q 97, .inr (7, fShelf (fun k => q (97 + k)))), (q 98, .inl (cy 2, 40, .inr (.inl (fun _ => 0)))), (q 99, .inr (7, fShelf (fun k => q (99 + k)))), (q 100, .inl (cy 2, 40, .inr (.inl (fun _ => 0)))), (q 101, .inr (7, fShelf (fun k => q (101 + k)))), (q 102, .inl (cy 2, 40, .inr (.inl (fun _ => 0)))), (q 103, .inr (7, fShelf (fun k => q (103 + k)))), (q 104, .inl (cy 2, 40, .inr (.inl (fun _ => 0)))), (q 105, .inr (7, fShelf (fun k => q (105 + k)))), (q 106, .inl (cy 2, 40, .inr (.inl (fun _ => 0)))), (q 107, .inr (7, fShelf (fun k => q (107 + k)))), (q 108, .inl (cy 2, 40, .inr (.inl (fun _ => 0)))), (q 109, .inr (7, fShelf (fun k => q (109 + k)))), (q 110, .inl (cy 2, 40, .inr (.inl (fun _ => 0)))), (q 111, .inr (7, fShelf (fun k => q (111 + k)))), (q 112, .inl (cy 2, 40, .inr (.inl (fun _ => 0))))] := hD
  refine lv_iload_n hx hb dd_X11_things_0 rfl (lv_at hl 1 rfl) ?_
  refine pk_i (pc_T [.int sf] [] Sx hl.1 ws_X_55 md_X11_isShelf (c_isShelf l D cy sf) ⟨rfl, rfl⟩ ⟨Nat.le_of_ble_eq_true rfl, Nat.le_of_ble_eq_true rfl⟩ p_nil hK ns_b (ns_w hX) rfl rfl (Nat.le_of_ble_eq_true rfl) dd_X11_things_1 ⟨Nat.le_of_ble_eq_true rfl, Nat.le_of_ble_eq_true rfl⟩) (fun r1 hw2 => ?_)
  rcases hw2 with ⟨hw2, ehw2⟩ | ⟨hw2, ehw2⟩
  · subst ehw2
    refine lv_if_eq (tgt := 14) hx hb dd_X11_things_4 (by decide) (fun c => absurd c (by decide)) (fun _ => ?_)
    refine lv_iload_n hx hb dd_X11_things_7 rfl (lv_at hl 2 rfl) ?_
    refine pk_i (pc_T [.int ki] [] Sx hl.1 ws_X_122 md_X11_isKind (c_isKind l D cy ki) ⟨rfl, rfl⟩ ⟨Nat.le_of_ble_eq_true rfl, Nat.le_of_ble_eq_true rfl⟩ p_nil hK ns_b (ns_w hX) rfl rfl (Nat.le_of_ble_eq_true rfl) dd_X11_things_8 ⟨Nat.le_of_ble_eq_true rfl, Nat.le_of_ble_eq_true rfl⟩) (fun r3 hw4 => ?_)
    rcases hw4 with ⟨hw4, ehw4⟩ | ⟨hw4, ehw4⟩
    · subst ehw4
      refine lv_if_ne (tgt := 21) hx hb dd_X11_things_11 (by decide) (fun _ => ?_) (fun c => absurd c (by decide))
      refine lv_aload_n hx hb dd_X11_things_21 rfl (lv_at hl 0 rfl) ?_
      refine lv_iload_n hx hb dd_X11_things_22 rfl (lv_at hl 1 rfl) ?_
      refine pk_i (pc_V [.int sf] [] Sx hl.1 ws_X_71 md_X11_refusalOfRow (c_refusalOfRow l D cy q sf) ⟨rfl, rfl⟩ ⟨Nat.le_of_ble_eq_true rfl, Nat.le_of_ble_eq_true rfl⟩ (hP.sub [0, 1, 3, 4, 5, 6, 7, 8, 9, 10, 11, 12, 13, 14, 15, 16, 17, 18] rfl) hK ns_b (ns_w hX) (va_recv hK hP (ci := 11) (q0 := 0) rfl rfl) rfl rfl (Nat.le_of_ble_eq_true rfl) dd_X11_things_23 ⟨Nat.le_of_ble_eq_true rfl, Nat.le_of_ble_eq_true rfl⟩) (fun r5 hw6 => ?_)
      rcases hw6 with ⟨hw6, ehw6⟩ | ⟨hw6, ehw6⟩
      · subst ehw6
        refine lv_istore (lv' := [(4, .int (-4)), (0, .ref (q 0)), (1, .int sf), (2, .int ki), (3, .int nn)]) hx hb dd_X11_things_26 hl (by decide) rfl (fun ls hl => ?_)
        refine lv_iload hx hb dd_X11_things_28 (lv_at hl 0 rfl) ?_
        refine lv_if_eq (tgt := 40) hx hb dd_X11_things_30 (by decide) (fun c => absurd c (by decide)) (fun _ => ?_)
        refine lv_aload_n hx hb dd_X11_things_33 rfl (lv_at hl 1 rfl) ?_
        refine lv_iload hx hb dd_X11_things_34 (lv_at hl 0 rfl) ?_
        refine hk_i (wr := [(q 1, .inl (cy 4, 8, .inr (.inr (.inr (.inr (shv q)))))), (q 97, .inr (7, fShelf (fun k => q (97 + k)))), (q 98, .inl (cy 2, 40, .inr (.inl (fun _ => 0)))), (q 99, .inr (7, fShelf (fun k => q (99 + k)))), (q 100, .inl (cy 2, 40, .inr (.inl (fun _ => 0)))), (q 101, .inr (7, fShelf (fun k => q (101 + k)))), (q 102, .inl (cy 2, 40, .inr (.inl (fun _ => 0)))), (q 103, .inr (7, fShelf (fun k => q (103 + k)))), (q 104, .inl (cy 2, 40, .inr (.inl (fun _ => 0)))), (q 105, .inr (7, fShelf (fun k => q (105 + k)))), (q 106, .inl (cy 2, 40, .inr (.inl (fun _ => 0)))), (q 107, .inr (7, fShelf (fun k => q (107 + k)))), (q 108, .inl (cy 2, 40, .inr (.inl (fun _ => 0)))), (q 109, .inr (7, fShelf (fun k => q (109 + k)))), (q 110, .inl (cy 2, 40, .inr (.inl (fun _ => 0)))), (q 111, .inr (7, fShelf (fun k => q (111 + k)))), (q 112, .inl (cy 2, 40, .inr (.inl (fun _ => 0))))]) (c1 := 0) (s1 := 0) [0, 2] [1, 3, 4, 5, 6, 7, 8, 9, 10, 11, 12, 13, 14, 15, 16, 17, 18] (hc_V [.int (-4)] [] [0, 2] Sx hl.1 ws_X_63 md_X11_refuse (c_refuse_4 l D cy q) ⟨Nat.le_of_ble_eq_true rfl, Nat.le_of_ble_eq_true rfl⟩ hP hD rfl (by decide) hK nx_b (nx_w hX) (va_recv hK hP (ci := 11) (q0 := 0) rfl rfl) rfl rfl (Nat.le_of_ble_eq_true rfl) dd_X11_things_36 ⟨Nat.le_of_ble_eq_true rfl, Nat.le_of_ble_eq_true rfl⟩) hS hA hP hD rfl rfl (by decide) (by decide) rfl rfl (fun r7 u8 H locs hw9 hP hD hS => ?_)
        have hP : va_P D cls [(q 1, .inl (cy 4, 8, .inr (.inr (.inr (.inr (shv q)))))), (q 97, .inr (7, fShelf (fun k => q (97 + k)))), (q 98, .inl (cy 2, 40, .inr (.inl (fun _ => 0)))), (q 99, .inr (7, fShelf (fun k => q (99 + k)))), (q 100, .inl (cy 2, 40, .inr (.inl (fun _ => 0)))), (q 101, .inr (7, fShelf (fun k => q (101 + k)))), (q 102, .inl (cy 2, 40, .inr (.inl (fun _ => 0)))), (q 103, .inr (7, fShelf (fun k => q (103 + k)))), (q 104, .inl (cy 2, 40, .inr (.inl (fun _ => 0)))), (q 105, .inr (7, fShelf (fun k => q (105 + k)))), (q 106, .inl (cy 2, 40, .inr (.inl (fun _ => 0)))), (q 107, .inr (7, fShelf (fun k => q (107 + k)))), (q 108, .inl (cy 2, 40, .inr (.inl (fun _ => 0)))), (q 109, .inr (7, fShelf (fun k => q (109 + k)))), (q 110, .inl (cy 2, 40, .inr (.inl (fun _ => 0)))), (q 111, .inr (7, fShelf (fun k => q (111 + k)))), (q 112, .inl (cy 2, 40, .inr (.inl (fun _ => 0))))] H := hP
        have hD : va_D A [(q 1, .inl (cy 4, 8, .inr (.inr (.inr (.inr (shv q)))))), (q 97, .inr (7, fShelf (fun k => q (97 + k)))), (q 98, .inl (cy 2, 40, .inr (.inl (fun _ => 0)))), (q 99, .inr (7, fShelf (fun k => q (99 + k)))), (q 100, .inl (cy 2, 40, .inr (.inl (fun _ => 0)))), (q 101, .inr (7, fShelf (fun k => q (101 + k)))), (q 102, .inl (cy 2, 40, .inr (.inl (fun _ => 0)))), (q 103, .inr (7, fShelf (fun k => q (103 + k)))), (q 104, .inl (cy 2, 40, .inr (.inl (fun _ => 0)))), (q 105, .inr (7, fShelf (fun k => q (105 + k)))), (q 106, .inl (cy 2, 40, .inr (.inl (fun _ => 0)))), (q 107, .inr (7, fShelf (fun k => q (107 + k)))), (q 108, .inl (cy 2, 40, .inr (.inl (fun _ => 0)))), (q 109, .inr (7, fShelf (fun k => q (109 + k)))), (q 110, .inl (cy 2, 40, .inr (.inl (fun _ => 0)))), (q 111, .inr (7, fShelf (fun k => q (111 + k)))), (q 112, .inl (cy 2, 40, .inr (.inl (fun _ => 0))))] := hD
        subst hw9
        exact hc_ret Sx hr hlocks dd_X11_things_39 hS () (Or.inl ⟨by omega, rfl⟩) p_nil d_nil
      · exfalso; omega
    · subst ehw4
      refine lv_if_ne (tgt := 21) hx hb dd_X11_things_11 (by decide) (fun c => absurd c (by decide)) (fun _ => ?_)
      refine lv_aload_n hx hb dd_X11_things_14 rfl (lv_at hl 0 rfl) ?_
      refine lv_bipush (v := (-2)) hx hb dd_X11_things_15 (by decide) ?_
      refine hk_i (wr := [(q 1, .inl (cy 4, 8, .inr (.inr (.inr (.inr (shv q)))))), (q 97, .inr (7, fShelf (fun k => q (97 + k)))), (q 98, .inl (cy 2, 40, .inr (.inl (fun _ => 0)))), (q 99, .inr (7, fShelf (fun k => q (99 + k)))), (q 100, .inl (cy 2, 40, .inr (.inl (fun _ => 0)))), (q 101, .inr (7, fShelf (fun k => q (101 + k)))), (q 102, .inl (cy 2, 40, .inr (.inl (fun _ => 0)))), (q 103, .inr (7, fShelf (fun k => q (103 + k)))), (q 104, .inl (cy 2, 40, .inr (.inl (fun _ => 0)))), (q 105, .inr (7, fShelf (fun k => q (105 + k)))), (q 106, .inl (cy 2, 40, .inr (.inl (fun _ => 0)))), (q 107, .inr (7, fShelf (fun k => q (107 + k)))), (q 108, .inl (cy 2, 40, .inr (.inl (fun _ => 0)))), (q 109, .inr (7, fShelf (fun k => q (109 + k)))), (q 110, .inl (cy 2, 40, .inr (.inl (fun _ => 0)))), (q 111, .inr (7, fShelf (fun k => q (111 + k)))), (q 112, .inl (cy 2, 40, .inr (.inl (fun _ => 0))))]) (c1 := 0) (s1 := 0) [0, 2] [1, 3, 4, 5, 6, 7, 8, 9, 10, 11, 12, 13, 14, 15, 16, 17, 18] (hc_V [.int (-2)] [] [0, 2] Sx hl.1 ws_X_63 md_X11_refuse (c_refuse_2 l D cy q) ⟨Nat.le_of_ble_eq_true rfl, Nat.le_of_ble_eq_true rfl⟩ hP hD rfl (by decide) hK nx_b (nx_w hX) (va_recv hK hP (ci := 11) (q0 := 0) rfl rfl) rfl rfl (Nat.le_of_ble_eq_true rfl) dd_X11_things_17 ⟨Nat.le_of_ble_eq_true rfl, Nat.le_of_ble_eq_true rfl⟩) hS hA hP hD rfl rfl (by decide) (by decide) rfl rfl (fun r10 u11 H locs hw12 hP hD hS => ?_)
      have hP : va_P D cls [(q 1, .inl (cy 4, 8, .inr (.inr (.inr (.inr (shv q)))))), (q 97, .inr (7, fShelf (fun k => q (97 + k)))), (q 98, .inl (cy 2, 40, .inr (.inl (fun _ => 0)))), (q 99, .inr (7, fShelf (fun k => q (99 + k)))), (q 100, .inl (cy 2, 40, .inr (.inl (fun _ => 0)))), (q 101, .inr (7, fShelf (fun k => q (101 + k)))), (q 102, .inl (cy 2, 40, .inr (.inl (fun _ => 0)))), (q 103, .inr (7, fShelf (fun k => q (103 + k)))), (q 104, .inl (cy 2, 40, .inr (.inl (fun _ => 0)))), (q 105, .inr (7, fShelf (fun k => q (105 + k)))), (q 106, .inl (cy 2, 40, .inr (.inl (fun _ => 0)))), (q 107, .inr (7, fShelf (fun k => q (107 + k)))), (q 108, .inl (cy 2, 40, .inr (.inl (fun _ => 0)))), (q 109, .inr (7, fShelf (fun k => q (109 + k)))), (q 110, .inl (cy 2, 40, .inr (.inl (fun _ => 0)))), (q 111, .inr (7, fShelf (fun k => q (111 + k)))), (q 112, .inl (cy 2, 40, .inr (.inl (fun _ => 0))))] H := hP
      have hD : va_D A [(q 1, .inl (cy 4, 8, .inr (.inr (.inr (.inr (shv q)))))), (q 97, .inr (7, fShelf (fun k => q (97 + k)))), (q 98, .inl (cy 2, 40, .inr (.inl (fun _ => 0)))), (q 99, .inr (7, fShelf (fun k => q (99 + k)))), (q 100, .inl (cy 2, 40, .inr (.inl (fun _ => 0)))), (q 101, .inr (7, fShelf (fun k => q (101 + k)))), (q 102, .inl (cy 2, 40, .inr (.inl (fun _ => 0)))), (q 103, .inr (7, fShelf (fun k => q (103 + k)))), (q 104, .inl (cy 2, 40, .inr (.inl (fun _ => 0)))), (q 105, .inr (7, fShelf (fun k => q (105 + k)))), (q 106, .inl (cy 2, 40, .inr (.inl (fun _ => 0)))), (q 107, .inr (7, fShelf (fun k => q (107 + k)))), (q 108, .inl (cy 2, 40, .inr (.inl (fun _ => 0)))), (q 109, .inr (7, fShelf (fun k => q (109 + k)))), (q 110, .inl (cy 2, 40, .inr (.inl (fun _ => 0)))), (q 111, .inr (7, fShelf (fun k => q (111 + k)))), (q 112, .inl (cy 2, 40, .inr (.inl (fun _ => 0))))] := hD
      subst hw12
      exact hc_ret Sx hr hlocks dd_X11_things_20 hS () (Or.inr ⟨by omega, rfl⟩) p_nil d_nil
  · subst ehw2
    refine lv_if_eq (tgt := 14) hx hb dd_X11_things_4 (by decide) (fun _ => ?_) (fun c => absurd c (by decide))
    refine lv_aload_n hx hb dd_X11_things_14 rfl (lv_at hl 0 rfl) ?_
    refine lv_bipush (v := (-2)) hx hb dd_X11_things_15 (by decide) ?_
    refine hk_i (wr := [(q 1, .inl (cy 4, 8, .inr (.inr (.inr (.inr (shv q)))))), (q 97, .inr (7, fShelf (fun k => q (97 + k)))), (q 98, .inl (cy 2, 40, .inr (.inl (fun _ => 0)))), (q 99, .inr (7, fShelf (fun k => q (99 + k)))), (q 100, .inl (cy 2, 40, .inr (.inl (fun _ => 0)))), (q 101, .inr (7, fShelf (fun k => q (101 + k)))), (q 102, .inl (cy 2, 40, .inr (.inl (fun _ => 0)))), (q 103, .inr (7, fShelf (fun k => q (103 + k)))), (q 104, .inl (cy 2, 40, .inr (.inl (fun _ => 0)))), (q 105, .inr (7, fShelf (fun k => q (105 + k)))), (q 106, .inl (cy 2, 40, .inr (.inl (fun _ => 0)))), (q 107, .inr (7, fShelf (fun k => q (107 + k)))), (q 108, .inl (cy 2, 40, .inr (.inl (fun _ => 0)))), (q 109, .inr (7, fShelf (fun k => q (109 + k)))), (q 110, .inl (cy 2, 40, .inr (.inl (fun _ => 0)))), (q 111, .inr (7, fShelf (fun k => q (111 + k)))), (q 112, .inl (cy 2, 40, .inr (.inl (fun _ => 0))))]) (c1 := 0) (s1 := 0) [0, 2] [1, 3, 4, 5, 6, 7, 8, 9, 10, 11, 12, 13, 14, 15, 16, 17, 18] (hc_V [.int (-2)] [] [0, 2] Sx hl.1 ws_X_63 md_X11_refuse (c_refuse_2 l D cy q) ⟨Nat.le_of_ble_eq_true rfl, Nat.le_of_ble_eq_true rfl⟩ hP hD rfl (by decide) hK nx_b (nx_w hX) (va_recv hK hP (ci := 11) (q0 := 0) rfl rfl) rfl rfl (Nat.le_of_ble_eq_true rfl) dd_X11_things_17 ⟨Nat.le_of_ble_eq_true rfl, Nat.le_of_ble_eq_true rfl⟩) hS hA hP hD rfl rfl (by decide) (by decide) rfl rfl (fun r13 u14 H locs hw15 hP hD hS => ?_)
    have hP : va_P D cls [(q 1, .inl (cy 4, 8, .inr (.inr (.inr (.inr (shv q)))))), (q 97, .inr (7, fShelf (fun k => q (97 + k)))), (q 98, .inl (cy 2, 40, .inr (.inl (fun _ => 0)))), (q 99, .inr (7, fShelf (fun k => q (99 + k)))), (q 100, .inl (cy 2, 40, .inr (.inl (fun _ => 0)))), (q 101, .inr (7, fShelf (fun k => q (101 + k)))), (q 102, .inl (cy 2, 40, .inr (.inl (fun _ => 0)))), (q 103, .inr (7, fShelf (fun k => q (103 + k)))), (q 104, .inl (cy 2, 40, .inr (.inl (fun _ => 0)))), (q 105, .inr (7, fShelf (fun k => q (105 + k)))), (q 106, .inl (cy 2, 40, .inr (.inl (fun _ => 0)))), (q 107, .inr (7, fShelf (fun k => q (107 + k)))), (q 108, .inl (cy 2, 40, .inr (.inl (fun _ => 0)))), (q 109, .inr (7, fShelf (fun k => q (109 + k)))), (q 110, .inl (cy 2, 40, .inr (.inl (fun _ => 0)))), (q 111, .inr (7, fShelf (fun k => q (111 + k)))), (q 112, .inl (cy 2, 40, .inr (.inl (fun _ => 0))))] H := hP
    have hD : va_D A [(q 1, .inl (cy 4, 8, .inr (.inr (.inr (.inr (shv q)))))), (q 97, .inr (7, fShelf (fun k => q (97 + k)))), (q 98, .inl (cy 2, 40, .inr (.inl (fun _ => 0)))), (q 99, .inr (7, fShelf (fun k => q (99 + k)))), (q 100, .inl (cy 2, 40, .inr (.inl (fun _ => 0)))), (q 101, .inr (7, fShelf (fun k => q (101 + k)))), (q 102, .inl (cy 2, 40, .inr (.inl (fun _ => 0)))), (q 103, .inr (7, fShelf (fun k => q (103 + k)))), (q 104, .inl (cy 2, 40, .inr (.inl (fun _ => 0)))), (q 105, .inr (7, fShelf (fun k => q (105 + k)))), (q 106, .inl (cy 2, 40, .inr (.inl (fun _ => 0)))), (q 107, .inr (7, fShelf (fun k => q (107 + k)))), (q 108, .inl (cy 2, 40, .inr (.inl (fun _ => 0)))), (q 109, .inr (7, fShelf (fun k => q (109 + k)))), (q 110, .inl (cy 2, 40, .inr (.inl (fun _ => 0)))), (q 111, .inr (7, fShelf (fun k => q (111 + k)))), (q 112, .inl (cy 2, 40, .inr (.inl (fun _ => 0))))] := hD
    subst hw15
    exact hc_ret Sx hr hlocks dd_X11_things_20 hS () (Or.inr ⟨by omega, rfl⟩) p_nil d_nil
set_option maxHeartbeats 4000000 in
set_option maxRecDepth 100000 in
theorem c_X_thingOf (l : Launch) (D : va_G) (cy : Nat → ClassId) (q : Nat → Nat) (th : Int32) (wh : Int32) : HC l my_X11_thingOf mb_X11_thingOf 3 ((some .int)) (rmD 3 0 0) D (TY cy) [.ref (q 0), .int th, .int wh] NX [(q 0, .inr (11, fX q)), (q 2, .inl (cy 0, 5, .inl (fun _ => 0))), (q 5, .inr (1, fHall (fun k => q (5 + k)))), (q 6, .inr (10, fThings (fun k => q (6 + k))))] (QI (S := Unit) D (fun r _ => r = (-2)) (fun _ => [])) := by
  refine hc_intro (by decide) (Nat.le_of_ble_eq_true rfl) (fun p e s m below meth c A ls Sx hr hlocks hin hl hP hD hK hS hA hX => ?_)
  have hx := Sx.1
  have hb := Sx.2.1
  have hl : lv_has ls 3 [(0, .ref (q 0)), (1, .int th), (2, .int wh)] := hl
  have hP : va_P D cls [(q 0, .inr (11, fX q)), (q 2, .inl (cy 0, 5, .inl (fun _ => 0))), (q 5, .inr (1, fHall (fun k => q (5 + k)))), (q 6, .inr (10, fThings (fun k => q (6 + k))))] s.heap := hP
  have hD : va_D A [(q 0, .inr (11, fX q)), (q 2, .inl (cy 0, 5, .inl (fun _ => 0))), (q 5, .inr (1, fHall (fun k => q (5 + k)))), (q 6, .inr (10, fThings (fun k => q (6 + k))))] := hD
  refine lv_aload_n hx hb dd_X11_thingOf_0 rfl (lv_at hl 0 rfl) ?_
  refine wk_get (v := .ref (q 5)) Sx ef_11 hK hP 0 rfl rfl 3 (by decide) kk_385 rfl dd_X11_thingOf_1 ?_
  refine wk_get (v := .ref (q 6)) Sx ef_1 hK hP 2 rfl rfl 0 (by decide) kk_260 rfl dd_X11_thingOf_4 ?_
  refine lv_iload_n hx hb dd_X11_thingOf_7 rfl (lv_at hl 1 rfl) ?_
  refine pk_i (pc_V [.int th] [] Sx hl.1 ws_X_117 md_X10_has (c_Things_has l D cy (fun k => q (6 + k)) th) ⟨rfl, rfl⟩ ⟨Nat.le_of_ble_eq_true rfl, Nat.le_of_ble_eq_true rfl⟩ (hP.sub [3] rfl) hK ns_b (ns_w hX) (va_recv hK hP (ci := 10) (q0 := 3) rfl rfl) rfl rfl (Nat.le_of_ble_eq_true rfl) dd_X11_thingOf_8 ⟨Nat.le_of_ble_eq_true rfl, Nat.le_of_ble_eq_true rfl⟩) (fun r1 hw2 => ?_)
  subst hw2
  refine lv_if_ne (tgt := 21) hx hb dd_X11_thingOf_11 (by decide) (fun c => absurd c (by decide)) (fun _ => ?_)
  refine lv_aload_n hx hb dd_X11_thingOf_14 rfl (lv_at hl 0 rfl) ?_
  refine lv_bipush (v := (-2)) hx hb dd_X11_thingOf_15 (by decide) ?_
  refine hk_i (wr := [(q 5, .inr (1, fHall (fun k => q (5 + k)))), (q 6, .inr (10, fThings (fun k => q (6 + k))))]) (c1 := 0) (s1 := 0) [0, 1] [2, 3] (hc_V [.int (-2)] [] [0, 1] Sx hl.1 ws_X_63 md_X11_refuse (c_refuse_2 l D cy q) ⟨Nat.le_of_ble_eq_true rfl, Nat.le_of_ble_eq_true rfl⟩ hP hD rfl (by decide) hK nx_b (nx_w hX) (va_recv hK hP (ci := 11) (q0 := 0) rfl rfl) rfl rfl (Nat.le_of_ble_eq_true rfl) dd_X11_thingOf_17 ⟨Nat.le_of_ble_eq_true rfl, Nat.le_of_ble_eq_true rfl⟩) hS hA hP hD rfl rfl (by decide) (by decide) rfl rfl (fun r3 u4 H locs hw5 hP hD hS => ?_)
  have hP : va_P D cls [(q 5, .inr (1, fHall (fun k => q (5 + k)))), (q 6, .inr (10, fThings (fun k => q (6 + k))))] H := hP
  have hD : va_D A [(q 5, .inr (1, fHall (fun k => q (5 + k)))), (q 6, .inr (10, fThings (fun k => q (6 + k))))] := hD
  subst hw5
  exact hc_ret Sx hr hlocks dd_X11_thingOf_20 hS () rfl p_nil d_nil
set_option maxHeartbeats 4000000 in
set_option maxRecDepth 100000 in
theorem c_X_chip (l : Launch) (D : va_G) (cy : Nat → ClassId) (q : Nat → Nat) (th : Int32) (ch : Int32) : HC l my_X11_chip mb_X11_chip 3 ((some .int)) (rmD 3 0 0) D (TY cy) [.ref (q 0), .int th, .int ch] NX [(q 0, .inr (11, fX q)), (q 2, .inl (cy 0, 5, .inl (fun _ => 0))), (q 5, .inr (1, fHall (fun k => q (5 + k)))), (q 6, .inr (10, fThings (fun k => q (6 + k))))] (QI (S := Unit) D (fun r _ => r = (-2)) (fun _ => [])) := by
  refine hc_intro (by decide) (Nat.le_of_ble_eq_true rfl) (fun p e s m below meth c A ls Sx hr hlocks hin hl hP hD hK hS hA hX => ?_)
  have hx := Sx.1
  have hb := Sx.2.1
  have hl : lv_has ls 3 [(0, .ref (q 0)), (1, .int th), (2, .int ch)] := hl
  have hP : va_P D cls [(q 0, .inr (11, fX q)), (q 2, .inl (cy 0, 5, .inl (fun _ => 0))), (q 5, .inr (1, fHall (fun k => q (5 + k)))), (q 6, .inr (10, fThings (fun k => q (6 + k))))] s.heap := hP
  have hD : va_D A [(q 0, .inr (11, fX q)), (q 2, .inl (cy 0, 5, .inl (fun _ => 0))), (q 5, .inr (1, fHall (fun k => q (5 + k)))), (q 6, .inr (10, fThings (fun k => q (6 + k))))] := hD
  refine lv_aload_n hx hb dd_X11_chip_0 rfl (lv_at hl 0 rfl) ?_
  refine wk_get (v := .ref (q 5)) Sx ef_11 hK hP 0 rfl rfl 3 (by decide) kk_385 rfl dd_X11_chip_1 ?_
  refine wk_get (v := .ref (q 6)) Sx ef_1 hK hP 2 rfl rfl 0 (by decide) kk_260 rfl dd_X11_chip_4 ?_
  refine lv_iload_n hx hb dd_X11_chip_7 rfl (lv_at hl 1 rfl) ?_
  refine pk_i (pc_V [.int th] [] Sx hl.1 ws_X_117 md_X10_has (c_Things_has l D cy (fun k => q (6 + k)) th) ⟨rfl, rfl⟩ ⟨Nat.le_of_ble_eq_true rfl, Nat.le_of_ble_eq_true rfl⟩ (hP.sub [3] rfl) hK ns_b (ns_w hX) (va_recv hK hP (ci := 10) (q0 := 3) rfl rfl) rfl rfl (Nat.le_of_ble_eq_true rfl) dd_X11_chip_8 ⟨Nat.le_of_ble_eq_true rfl, Nat.le_of_ble_eq_true rfl⟩) (fun r1 hw2 => ?_)
  subst hw2
  refine lv_if_eq (tgt := 24) hx hb dd_X11_chip_11 (by decide) (fun _ => ?_) (fun c => absurd c (by decide))
  refine lv_aload_n hx hb dd_X11_chip_24 rfl (lv_at hl 0 rfl) ?_
  refine lv_bipush (v := (-2)) hx hb dd_X11_chip_25 (by decide) ?_
  refine hk_i (wr := [(q 5, .inr (1, fHall (fun k => q (5 + k)))), (q 6, .inr (10, fThings (fun k => q (6 + k))))]) (c1 := 0) (s1 := 0) [0, 1] [2, 3] (hc_V [.int (-2)] [] [0, 1] Sx hl.1 ws_X_63 md_X11_refuse (c_refuse_2 l D cy q) ⟨Nat.le_of_ble_eq_true rfl, Nat.le_of_ble_eq_true rfl⟩ hP hD rfl (by decide) hK nx_b (nx_w hX) (va_recv hK hP (ci := 11) (q0 := 0) rfl rfl) rfl rfl (Nat.le_of_ble_eq_true rfl) dd_X11_chip_27 ⟨Nat.le_of_ble_eq_true rfl, Nat.le_of_ble_eq_true rfl⟩) hS hA hP hD rfl rfl (by decide) (by decide) rfl rfl (fun r3 u4 H locs hw5 hP hD hS => ?_)
  have hP : va_P D cls [(q 5, .inr (1, fHall (fun k => q (5 + k)))), (q 6, .inr (10, fThings (fun k => q (6 + k))))] H := hP
  have hD : va_D A [(q 5, .inr (1, fHall (fun k => q (5 + k)))), (q 6, .inr (10, fThings (fun k => q (6 + k))))] := hD
  subst hw5
  exact hc_ret Sx hr hlocks dd_X11_chip_30 hS () rfl p_nil d_nil
set_option maxHeartbeats 4000000 in
set_option maxRecDepth 100000 in
theorem c_X_goes (l : Launch) (D : va_G) (cy : Nat → ClassId) (q : Nat → Nat) (la : Int32) (lw : Int32) : HC l my_X11_goes mb_X11_goes 4 ((some .int)) (rmD 3 0 0) D (TY cy) [.ref (q 0), .int la, .int lw] NX [(q 0, .inr (11, fX q)), (q 2, .inl (cy 0, 5, .inl (fun _ => 0))), (q 5, .inr (1, fHall (fun k => q (5 + k)))), (q 14, .inr (2, fLadies (fun k => q (14 + k))))] (QI (S := Unit) D (fun r _ => r = (-2)) (fun _ => [])) := by
  refine hc_intro (by decide) (Nat.le_of_ble_eq_true rfl) (fun p e s m below meth c A ls Sx hr hlocks hin hl hP hD hK hS hA hX => ?_)
  have hx := Sx.1
  have hb := Sx.2.1
  have hl : lv_has ls 4 [(0, .ref (q 0)), (1, .int la), (2, .int lw)] := hl
  have hP : va_P D cls [(q 0, .inr (11, fX q)), (q 2, .inl (cy 0, 5, .inl (fun _ => 0))), (q 5, .inr (1, fHall (fun k => q (5 + k)))), (q 14, .inr (2, fLadies (fun k => q (14 + k))))] s.heap := hP
  have hD : va_D A [(q 0, .inr (11, fX q)), (q 2, .inl (cy 0, 5, .inl (fun _ => 0))), (q 5, .inr (1, fHall (fun k => q (5 + k)))), (q 14, .inr (2, fLadies (fun k => q (14 + k))))] := hD
  refine lv_aload_n hx hb dd_X11_goes_0 rfl (lv_at hl 0 rfl) ?_
  refine wk_get (v := .ref (q 5)) Sx ef_11 hK hP 0 rfl rfl 3 (by decide) kk_385 rfl dd_X11_goes_1 ?_
  refine wk_get (v := .ref (q 14)) Sx ef_1 hK hP 2 rfl rfl 1 (by decide) kk_262 rfl dd_X11_goes_4 ?_
  refine lv_iload_n hx hb dd_X11_goes_7 rfl (lv_at hl 1 rfl) ?_
  refine pk_i (pc_V [.int la] [] Sx hl.1 ws_X_177 md_X2_has (c_Ladies_has l D cy (fun k => q (14 + k)) la) ⟨rfl, rfl⟩ ⟨Nat.le_of_ble_eq_true rfl, Nat.le_of_ble_eq_true rfl⟩ (hP.sub [3] rfl) hK ns_b (ns_w hX) (va_recv hK hP (ci := 2) (q0 := 3) rfl rfl) rfl rfl (Nat.le_of_ble_eq_true rfl) dd_X11_goes_8 ⟨Nat.le_of_ble_eq_true rfl, Nat.le_of_ble_eq_true rfl⟩) (fun r1 hw2 => ?_)
  subst hw2
  refine lv_if_eq (tgt := 33) hx hb dd_X11_goes_11 (by decide) (fun _ => ?_) (fun c => absurd c (by decide))
  refine lv_aload_n hx hb dd_X11_goes_33 rfl (lv_at hl 0 rfl) ?_
  refine lv_bipush (v := (-2)) hx hb dd_X11_goes_34 (by decide) ?_
  refine hk_i (wr := [(q 5, .inr (1, fHall (fun k => q (5 + k)))), (q 14, .inr (2, fLadies (fun k => q (14 + k))))]) (c1 := 0) (s1 := 0) [0, 1] [2, 3] (hc_V [.int (-2)] [] [0, 1] Sx hl.1 ws_X_63 md_X11_refuse (c_refuse_2 l D cy q) ⟨Nat.le_of_ble_eq_true rfl, Nat.le_of_ble_eq_true rfl⟩ hP hD rfl (by decide) hK nx_b (nx_w hX) (va_recv hK hP (ci := 11) (q0 := 0) rfl rfl) rfl rfl (Nat.le_of_ble_eq_true rfl) dd_X11_goes_36 ⟨Nat.le_of_ble_eq_true rfl, Nat.le_of_ble_eq_true rfl⟩) hS hA hP hD rfl rfl (by decide) (by decide) rfl rfl (fun r3 u4 H locs hw5 hP hD hS => ?_)
  have hP : va_P D cls [(q 5, .inr (1, fHall (fun k => q (5 + k)))), (q 14, .inr (2, fLadies (fun k => q (14 + k))))] H := hP
  have hD : va_D A [(q 5, .inr (1, fHall (fun k => q (5 + k)))), (q 14, .inr (2, fLadies (fun k => q (14 + k))))] := hD
  subst hw5
  exact hc_ret Sx hr hlocks dd_X11_goes_39 hS () rfl p_nil d_nil
set_option maxHeartbeats 4000000 in
set_option maxRecDepth 100000 in
theorem c_X_lawOf (l : Launch) (D : va_G) (cy : Nat → ClassId) (q : Nat → Nat) (lw : Int32) (wh : Int32) : HC l my_X11_lawOf mb_X11_lawOf 3 ((some .int)) (rmD 3 0 0) D (TY cy) [.ref (q 0), .int lw, .int wh] NX [(q 0, .inr (11, fX q)), (q 2, .inl (cy 0, 5, .inl (fun _ => 0))), (q 5, .inr (1, fHall (fun k => q (5 + k)))), (q 18, .inr (3, fLaws (fun k => q (18 + k))))] (QI (S := Unit) D (fun r _ => r = (-2)) (fun _ => [])) := by
  refine hc_intro (by decide) (Nat.le_of_ble_eq_true rfl) (fun p e s m below meth c A ls Sx hr hlocks hin hl hP hD hK hS hA hX => ?_)
  have hx := Sx.1
  have hb := Sx.2.1
  have hl : lv_has ls 3 [(0, .ref (q 0)), (1, .int lw), (2, .int wh)] := hl
  have hP : va_P D cls [(q 0, .inr (11, fX q)), (q 2, .inl (cy 0, 5, .inl (fun _ => 0))), (q 5, .inr (1, fHall (fun k => q (5 + k)))), (q 18, .inr (3, fLaws (fun k => q (18 + k))))] s.heap := hP
  have hD : va_D A [(q 0, .inr (11, fX q)), (q 2, .inl (cy 0, 5, .inl (fun _ => 0))), (q 5, .inr (1, fHall (fun k => q (5 + k)))), (q 18, .inr (3, fLaws (fun k => q (18 + k))))] := hD
  refine lv_aload_n hx hb dd_X11_lawOf_0 rfl (lv_at hl 0 rfl) ?_
  refine wk_get (v := .ref (q 5)) Sx ef_11 hK hP 0 rfl rfl 3 (by decide) kk_385 rfl dd_X11_lawOf_1 ?_
  refine wk_get (v := .ref (q 18)) Sx ef_1 hK hP 2 rfl rfl 2 (by decide) kk_264 rfl dd_X11_lawOf_4 ?_
  refine lv_iload_n hx hb dd_X11_lawOf_7 rfl (lv_at hl 1 rfl) ?_
  refine pk_i (pc_V [.int lw] [] Sx hl.1 ws_X_182 md_X3_has (c_Laws_has l D cy (fun k => q (18 + k)) lw) ⟨rfl, rfl⟩ ⟨Nat.le_of_ble_eq_true rfl, Nat.le_of_ble_eq_true rfl⟩ (hP.sub [3] rfl) hK ns_b (ns_w hX) (va_recv hK hP (ci := 3) (q0 := 3) rfl rfl) rfl rfl (Nat.le_of_ble_eq_true rfl) dd_X11_lawOf_8 ⟨Nat.le_of_ble_eq_true rfl, Nat.le_of_ble_eq_true rfl⟩) (fun r1 hw2 => ?_)
  subst hw2
  refine lv_if_eq (tgt := 23) hx hb dd_X11_lawOf_11 (by decide) (fun _ => ?_) (fun c => absurd c (by decide))
  refine lv_aload_n hx hb dd_X11_lawOf_23 rfl (lv_at hl 0 rfl) ?_
  refine lv_bipush (v := (-2)) hx hb dd_X11_lawOf_24 (by decide) ?_
  refine hk_i (wr := [(q 5, .inr (1, fHall (fun k => q (5 + k)))), (q 18, .inr (3, fLaws (fun k => q (18 + k))))]) (c1 := 0) (s1 := 0) [0, 1] [2, 3] (hc_V [.int (-2)] [] [0, 1] Sx hl.1 ws_X_63 md_X11_refuse (c_refuse_2 l D cy q) ⟨Nat.le_of_ble_eq_true rfl, Nat.le_of_ble_eq_true rfl⟩ hP hD rfl (by decide) hK nx_b (nx_w hX) (va_recv hK hP (ci := 11) (q0 := 0) rfl rfl) rfl rfl (Nat.le_of_ble_eq_true rfl) dd_X11_lawOf_26 ⟨Nat.le_of_ble_eq_true rfl, Nat.le_of_ble_eq_true rfl⟩) hS hA hP hD rfl rfl (by decide) (by decide) rfl rfl (fun r3 u4 H locs hw5 hP hD hS => ?_)
  have hP : va_P D cls [(q 5, .inr (1, fHall (fun k => q (5 + k)))), (q 18, .inr (3, fLaws (fun k => q (18 + k))))] H := hP
  have hD : va_D A [(q 5, .inr (1, fHall (fun k => q (5 + k)))), (q 18, .inr (3, fLaws (fun k => q (18 + k))))] := hD
  subst hw5
  exact hc_ret Sx hr hlocks dd_X11_lawOf_29 hS () rfl p_nil d_nil
set_option maxHeartbeats 4000000 in
set_option maxRecDepth 100000 in
theorem c_X_thinks (l : Launch) (D : va_G) (cy : Nat → ClassId) (q : Nat → Nat) (la : Int32) (th : Int32) (lo : Int32) : HC l my_X11_thinks mb_X11_thinks 4 ((some .int)) (rmD 3 0 0) D (TY cy) [.ref (q 0), .int la, .int th, .int lo] NX [(q 0, .inr (11, fX q)), (q 2, .inl (cy 0, 5, .inl (fun _ => 0))), (q 5, .inr (1, fHall (fun k => q (5 + k)))), (q 14, .inr (2, fLadies (fun k => q (14 + k))))] (QI (S := Unit) D (fun r _ => r = (-2)) (fun _ => [])) := by
  refine hc_intro (by decide) (Nat.le_of_ble_eq_true rfl) (fun p e s m below meth c A ls Sx hr hlocks hin hl hP hD hK hS hA hX => ?_)
  have hx := Sx.1
  have hb := Sx.2.1
  have hl : lv_has ls 4 [(0, .ref (q 0)), (1, .int la), (2, .int th), (3, .int lo)] := hl
  have hP : va_P D cls [(q 0, .inr (11, fX q)), (q 2, .inl (cy 0, 5, .inl (fun _ => 0))), (q 5, .inr (1, fHall (fun k => q (5 + k)))), (q 14, .inr (2, fLadies (fun k => q (14 + k))))] s.heap := hP
  have hD : va_D A [(q 0, .inr (11, fX q)), (q 2, .inl (cy 0, 5, .inl (fun _ => 0))), (q 5, .inr (1, fHall (fun k => q (5 + k)))), (q 14, .inr (2, fLadies (fun k => q (14 + k))))] := hD
  refine lv_aload_n hx hb dd_X11_thinks_0 rfl (lv_at hl 0 rfl) ?_
  refine wk_get (v := .ref (q 5)) Sx ef_11 hK hP 0 rfl rfl 3 (by decide) kk_385 rfl dd_X11_thinks_1 ?_
  refine wk_get (v := .ref (q 14)) Sx ef_1 hK hP 2 rfl rfl 1 (by decide) kk_262 rfl dd_X11_thinks_4 ?_
  refine lv_iload_n hx hb dd_X11_thinks_7 rfl (lv_at hl 1 rfl) ?_
  refine pk_i (pc_V [.int la] [] Sx hl.1 ws_X_177 md_X2_has (c_Ladies_has l D cy (fun k => q (14 + k)) la) ⟨rfl, rfl⟩ ⟨Nat.le_of_ble_eq_true rfl, Nat.le_of_ble_eq_true rfl⟩ (hP.sub [3] rfl) hK ns_b (ns_w hX) (va_recv hK hP (ci := 2) (q0 := 3) rfl rfl) rfl rfl (Nat.le_of_ble_eq_true rfl) dd_X11_thinks_8 ⟨Nat.le_of_ble_eq_true rfl, Nat.le_of_ble_eq_true rfl⟩) (fun r1 hw2 => ?_)
  subst hw2
  refine lv_if_eq (tgt := 28) hx hb dd_X11_thinks_11 (by decide) (fun _ => ?_) (fun c => absurd c (by decide))
  refine lv_aload_n hx hb dd_X11_thinks_28 rfl (lv_at hl 0 rfl) ?_
  refine lv_bipush (v := (-2)) hx hb dd_X11_thinks_29 (by decide) ?_
  refine hk_i (wr := [(q 5, .inr (1, fHall (fun k => q (5 + k)))), (q 14, .inr (2, fLadies (fun k => q (14 + k))))]) (c1 := 0) (s1 := 0) [0, 1] [2, 3] (hc_V [.int (-2)] [] [0, 1] Sx hl.1 ws_X_63 md_X11_refuse (c_refuse_2 l D cy q) ⟨Nat.le_of_ble_eq_true rfl, Nat.le_of_ble_eq_true rfl⟩ hP hD rfl (by decide) hK nx_b (nx_w hX) (va_recv hK hP (ci := 11) (q0 := 0) rfl rfl) rfl rfl (Nat.le_of_ble_eq_true rfl) dd_X11_thinks_31 ⟨Nat.le_of_ble_eq_true rfl, Nat.le_of_ble_eq_true rfl⟩) hS hA hP hD rfl rfl (by decide) (by decide) rfl rfl (fun r3 u4 H locs hw5 hP hD hS => ?_)
  have hP : va_P D cls [(q 5, .inr (1, fHall (fun k => q (5 + k)))), (q 14, .inr (2, fLadies (fun k => q (14 + k))))] H := hP
  have hD : va_D A [(q 5, .inr (1, fHall (fun k => q (5 + k)))), (q 14, .inr (2, fLadies (fun k => q (14 + k))))] := hD
  subst hw5
  exact hc_ret Sx hr hlocks dd_X11_thinks_34 hS () rfl p_nil d_nil
set_option maxHeartbeats 4000000 in
set_option maxRecDepth 100000 in
theorem c_X_price (l : Launch) (D : va_G) (cy : Nat → ClassId) (q : Nat → Nat) (la : Int32) (ki : Int32) : HC l my_X11_price mb_X11_price 3 ((some .int)) (rmD 3 0 0) D (TY cy) [.ref (q 0), .int la, .int ki] NX [(q 0, .inr (11, fX q)), (q 2, .inl (cy 0, 5, .inl (fun _ => 0))), (q 5, .inr (1, fHall (fun k => q (5 + k)))), (q 14, .inr (2, fLadies (fun k => q (14 + k))))] (QI (S := Unit) D (fun r _ => r = (-2)) (fun _ => [])) := by
  refine hc_intro (by decide) (Nat.le_of_ble_eq_true rfl) (fun p e s m below meth c A ls Sx hr hlocks hin hl hP hD hK hS hA hX => ?_)
  have hx := Sx.1
  have hb := Sx.2.1
  have hl : lv_has ls 3 [(0, .ref (q 0)), (1, .int la), (2, .int ki)] := hl
  have hP : va_P D cls [(q 0, .inr (11, fX q)), (q 2, .inl (cy 0, 5, .inl (fun _ => 0))), (q 5, .inr (1, fHall (fun k => q (5 + k)))), (q 14, .inr (2, fLadies (fun k => q (14 + k))))] s.heap := hP
  have hD : va_D A [(q 0, .inr (11, fX q)), (q 2, .inl (cy 0, 5, .inl (fun _ => 0))), (q 5, .inr (1, fHall (fun k => q (5 + k)))), (q 14, .inr (2, fLadies (fun k => q (14 + k))))] := hD
  refine lv_aload_n hx hb dd_X11_price_0 rfl (lv_at hl 0 rfl) ?_
  refine wk_get (v := .ref (q 5)) Sx ef_11 hK hP 0 rfl rfl 3 (by decide) kk_385 rfl dd_X11_price_1 ?_
  refine wk_get (v := .ref (q 14)) Sx ef_1 hK hP 2 rfl rfl 1 (by decide) kk_262 rfl dd_X11_price_4 ?_
  refine lv_iload_n hx hb dd_X11_price_7 rfl (lv_at hl 1 rfl) ?_
  refine pk_i (pc_V [.int la] [] Sx hl.1 ws_X_177 md_X2_has (c_Ladies_has l D cy (fun k => q (14 + k)) la) ⟨rfl, rfl⟩ ⟨Nat.le_of_ble_eq_true rfl, Nat.le_of_ble_eq_true rfl⟩ (hP.sub [3] rfl) hK ns_b (ns_w hX) (va_recv hK hP (ci := 2) (q0 := 3) rfl rfl) rfl rfl (Nat.le_of_ble_eq_true rfl) dd_X11_price_8 ⟨Nat.le_of_ble_eq_true rfl, Nat.le_of_ble_eq_true rfl⟩) (fun r1 hw2 => ?_)
  subst hw2
  refine lv_if_eq (tgt := 21) hx hb dd_X11_price_11 (by decide) (fun _ => ?_) (fun c => absurd c (by decide))
  refine lv_aload_n hx hb dd_X11_price_21 rfl (lv_at hl 0 rfl) ?_
  refine lv_bipush (v := (-2)) hx hb dd_X11_price_22 (by decide) ?_
  refine hk_i (wr := [(q 5, .inr (1, fHall (fun k => q (5 + k)))), (q 14, .inr (2, fLadies (fun k => q (14 + k))))]) (c1 := 0) (s1 := 0) [0, 1] [2, 3] (hc_V [.int (-2)] [] [0, 1] Sx hl.1 ws_X_63 md_X11_refuse (c_refuse_2 l D cy q) ⟨Nat.le_of_ble_eq_true rfl, Nat.le_of_ble_eq_true rfl⟩ hP hD rfl (by decide) hK nx_b (nx_w hX) (va_recv hK hP (ci := 11) (q0 := 0) rfl rfl) rfl rfl (Nat.le_of_ble_eq_true rfl) dd_X11_price_24 ⟨Nat.le_of_ble_eq_true rfl, Nat.le_of_ble_eq_true rfl⟩) hS hA hP hD rfl rfl (by decide) (by decide) rfl rfl (fun r3 u4 H locs hw5 hP hD hS => ?_)
  have hP : va_P D cls [(q 5, .inr (1, fHall (fun k => q (5 + k)))), (q 14, .inr (2, fLadies (fun k => q (14 + k))))] H := hP
  have hD : va_D A [(q 5, .inr (1, fHall (fun k => q (5 + k)))), (q 14, .inr (2, fLadies (fun k => q (14 + k))))] := hD
  subst hw5
  exact hc_ret Sx hr hlocks dd_X11_price_27 hS () rfl p_nil d_nil
set_option maxHeartbeats 4000000 in
set_option maxRecDepth 100000 in
theorem c_X_mark (l : Launch) (D : va_G) (cy : Nat → ClassId) (q : Nat → Nat) (th : Int32) (va : Int32) : HC l my_X11_mark mb_X11_mark 4 ((some .int)) (rmD 3 0 0) D (TY cy) [.ref (q 0), .int th, .int va] NX [(q 0, .inr (11, fX q)), (q 2, .inl (cy 0, 5, .inl (fun _ => 0))), (q 5, .inr (1, fHall (fun k => q (5 + k)))), (q 6, .inr (10, fThings (fun k => q (6 + k))))] (QI (S := Unit) D (fun r _ => r = (-2)) (fun _ => [])) := by
  refine hc_intro (by decide) (Nat.le_of_ble_eq_true rfl) (fun p e s m below meth c A ls Sx hr hlocks hin hl hP hD hK hS hA hX => ?_)
  have hx := Sx.1
  have hb := Sx.2.1
  have hl : lv_has ls 4 [(0, .ref (q 0)), (1, .int th), (2, .int va)] := hl
  have hP : va_P D cls [(q 0, .inr (11, fX q)), (q 2, .inl (cy 0, 5, .inl (fun _ => 0))), (q 5, .inr (1, fHall (fun k => q (5 + k)))), (q 6, .inr (10, fThings (fun k => q (6 + k))))] s.heap := hP
  have hD : va_D A [(q 0, .inr (11, fX q)), (q 2, .inl (cy 0, 5, .inl (fun _ => 0))), (q 5, .inr (1, fHall (fun k => q (5 + k)))), (q 6, .inr (10, fThings (fun k => q (6 + k))))] := hD
  refine lv_aload_n hx hb dd_X11_mark_0 rfl (lv_at hl 0 rfl) ?_
  refine wk_get (v := .ref (q 5)) Sx ef_11 hK hP 0 rfl rfl 3 (by decide) kk_385 rfl dd_X11_mark_1 ?_
  refine wk_get (v := .ref (q 6)) Sx ef_1 hK hP 2 rfl rfl 0 (by decide) kk_260 rfl dd_X11_mark_4 ?_
  refine lv_iload_n hx hb dd_X11_mark_7 rfl (lv_at hl 1 rfl) ?_
  refine pk_i (pc_V [.int th] [] Sx hl.1 ws_X_117 md_X10_has (c_Things_has l D cy (fun k => q (6 + k)) th) ⟨rfl, rfl⟩ ⟨Nat.le_of_ble_eq_true rfl, Nat.le_of_ble_eq_true rfl⟩ (hP.sub [3] rfl) hK ns_b (ns_w hX) (va_recv hK hP (ci := 10) (q0 := 3) rfl rfl) rfl rfl (Nat.le_of_ble_eq_true rfl) dd_X11_mark_8 ⟨Nat.le_of_ble_eq_true rfl, Nat.le_of_ble_eq_true rfl⟩) (fun r1 hw2 => ?_)
  subst hw2
  refine lv_if_eq (tgt := 30) hx hb dd_X11_mark_11 (by decide) (fun _ => ?_) (fun c => absurd c (by decide))
  refine lv_aload_n hx hb dd_X11_mark_30 rfl (lv_at hl 0 rfl) ?_
  refine lv_bipush (v := (-2)) hx hb dd_X11_mark_31 (by decide) ?_
  refine hk_i (wr := [(q 5, .inr (1, fHall (fun k => q (5 + k)))), (q 6, .inr (10, fThings (fun k => q (6 + k))))]) (c1 := 0) (s1 := 0) [0, 1] [2, 3] (hc_V [.int (-2)] [] [0, 1] Sx hl.1 ws_X_63 md_X11_refuse (c_refuse_2 l D cy q) ⟨Nat.le_of_ble_eq_true rfl, Nat.le_of_ble_eq_true rfl⟩ hP hD rfl (by decide) hK nx_b (nx_w hX) (va_recv hK hP (ci := 11) (q0 := 0) rfl rfl) rfl rfl (Nat.le_of_ble_eq_true rfl) dd_X11_mark_33 ⟨Nat.le_of_ble_eq_true rfl, Nat.le_of_ble_eq_true rfl⟩) hS hA hP hD rfl rfl (by decide) (by decide) rfl rfl (fun r3 u4 H locs hw5 hP hD hS => ?_)
  have hP : va_P D cls [(q 5, .inr (1, fHall (fun k => q (5 + k)))), (q 6, .inr (10, fThings (fun k => q (6 + k))))] H := hP
  have hD : va_D A [(q 5, .inr (1, fHall (fun k => q (5 + k)))), (q 6, .inr (10, fThings (fun k => q (6 + k))))] := hD
  subst hw5
  exact hc_ret Sx hr hlocks dd_X11_mark_36 hS () rfl p_nil d_nil
set_option maxHeartbeats 4000000 in
set_option maxRecDepth 100000 in
theorem c_X_buyerOf (l : Launch) (D : va_G) (cy : Nat → ClassId) (q : Nat → Nat) (bu : Int32) (wh : Int32) : HC l my_X11_buyerOf mb_X11_buyerOf 3 ((some .int)) (rmD 3 0 0) D (TY cy) [.ref (q 0), .int bu, .int wh] NX [(q 0, .inr (11, fX q)), (q 2, .inl (cy 0, 5, .inl (fun _ => 0))), (q 5, .inr (1, fHall (fun k => q (5 + k)))), (q 21, .inr (0, fBuyers (fun k => q (21 + k))))] (QI (S := Unit) D (fun r _ => r = (-2)) (fun _ => [])) := by
  refine hc_intro (by decide) (Nat.le_of_ble_eq_true rfl) (fun p e s m below meth c A ls Sx hr hlocks hin hl hP hD hK hS hA hX => ?_)
  have hx := Sx.1
  have hb := Sx.2.1
  have hl : lv_has ls 3 [(0, .ref (q 0)), (1, .int bu), (2, .int wh)] := hl
  have hP : va_P D cls [(q 0, .inr (11, fX q)), (q 2, .inl (cy 0, 5, .inl (fun _ => 0))), (q 5, .inr (1, fHall (fun k => q (5 + k)))), (q 21, .inr (0, fBuyers (fun k => q (21 + k))))] s.heap := hP
  have hD : va_D A [(q 0, .inr (11, fX q)), (q 2, .inl (cy 0, 5, .inl (fun _ => 0))), (q 5, .inr (1, fHall (fun k => q (5 + k)))), (q 21, .inr (0, fBuyers (fun k => q (21 + k))))] := hD
  refine lv_aload_n hx hb dd_X11_buyerOf_0 rfl (lv_at hl 0 rfl) ?_
  refine wk_get (v := .ref (q 5)) Sx ef_11 hK hP 0 rfl rfl 3 (by decide) kk_385 rfl dd_X11_buyerOf_1 ?_
  refine wk_get (v := .ref (q 21)) Sx ef_1 hK hP 2 rfl rfl 3 (by decide) kk_267 rfl dd_X11_buyerOf_4 ?_
  refine lv_iload_n hx hb dd_X11_buyerOf_7 rfl (lv_at hl 1 rfl) ?_
  refine pk_i (pc_V [.int bu] [] Sx hl.1 ws_X_229 md_X0_has (c_Buyers_has l D cy (fun k => q (21 + k)) bu) ⟨rfl, rfl⟩ ⟨Nat.le_of_ble_eq_true rfl, Nat.le_of_ble_eq_true rfl⟩ (hP.sub [3] rfl) hK ns_b (ns_w hX) (va_recv hK hP (ci := 0) (q0 := 3) rfl rfl) rfl rfl (Nat.le_of_ble_eq_true rfl) dd_X11_buyerOf_8 ⟨Nat.le_of_ble_eq_true rfl, Nat.le_of_ble_eq_true rfl⟩) (fun r1 hw2 => ?_)
  subst hw2
  refine lv_if_ne (tgt := 21) hx hb dd_X11_buyerOf_11 (by decide) (fun c => absurd c (by decide)) (fun _ => ?_)
  refine lv_aload_n hx hb dd_X11_buyerOf_14 rfl (lv_at hl 0 rfl) ?_
  refine lv_bipush (v := (-2)) hx hb dd_X11_buyerOf_15 (by decide) ?_
  refine hk_i (wr := [(q 5, .inr (1, fHall (fun k => q (5 + k)))), (q 21, .inr (0, fBuyers (fun k => q (21 + k))))]) (c1 := 0) (s1 := 0) [0, 1] [2, 3] (hc_V [.int (-2)] [] [0, 1] Sx hl.1 ws_X_63 md_X11_refuse (c_refuse_2 l D cy q) ⟨Nat.le_of_ble_eq_true rfl, Nat.le_of_ble_eq_true rfl⟩ hP hD rfl (by decide) hK nx_b (nx_w hX) (va_recv hK hP (ci := 11) (q0 := 0) rfl rfl) rfl rfl (Nat.le_of_ble_eq_true rfl) dd_X11_buyerOf_17 ⟨Nat.le_of_ble_eq_true rfl, Nat.le_of_ble_eq_true rfl⟩) hS hA hP hD rfl rfl (by decide) (by decide) rfl rfl (fun r3 u4 H locs hw5 hP hD hS => ?_)
  have hP : va_P D cls [(q 5, .inr (1, fHall (fun k => q (5 + k)))), (q 21, .inr (0, fBuyers (fun k => q (21 + k))))] H := hP
  have hD : va_D A [(q 5, .inr (1, fHall (fun k => q (5 + k)))), (q 21, .inr (0, fBuyers (fun k => q (21 + k))))] := hD
  subst hw5
  exact hc_ret Sx hr hlocks dd_X11_buyerOf_20 hS () rfl p_nil d_nil
set_option maxHeartbeats 4000000 in
set_option maxRecDepth 100000 in
theorem c_X_costs (l : Launch) (D : va_G) (cy : Nat → ClassId) (q : Nat → Nat) (th : Int32) (ho : Int32) : HC l my_X11_costs mb_X11_costs 3 ((some .int)) (rmD 3 0 0) D (TY cy) [.ref (q 0), .int th, .int ho] NX [(q 0, .inr (11, fX q)), (q 2, .inl (cy 0, 5, .inl (fun _ => 0))), (q 5, .inr (1, fHall (fun k => q (5 + k)))), (q 6, .inr (10, fThings (fun k => q (6 + k))))] (QI (S := Unit) D (fun r _ => r = (-2)) (fun _ => [])) := by
  refine hc_intro (by decide) (Nat.le_of_ble_eq_true rfl) (fun p e s m below meth c A ls Sx hr hlocks hin hl hP hD hK hS hA hX => ?_)
  have hx := Sx.1
  have hb := Sx.2.1
  have hl : lv_has ls 3 [(0, .ref (q 0)), (1, .int th), (2, .int ho)] := hl
  have hP : va_P D cls [(q 0, .inr (11, fX q)), (q 2, .inl (cy 0, 5, .inl (fun _ => 0))), (q 5, .inr (1, fHall (fun k => q (5 + k)))), (q 6, .inr (10, fThings (fun k => q (6 + k))))] s.heap := hP
  have hD : va_D A [(q 0, .inr (11, fX q)), (q 2, .inl (cy 0, 5, .inl (fun _ => 0))), (q 5, .inr (1, fHall (fun k => q (5 + k)))), (q 6, .inr (10, fThings (fun k => q (6 + k))))] := hD
  refine lv_aload_n hx hb dd_X11_costs_0 rfl (lv_at hl 0 rfl) ?_
  refine wk_get (v := .ref (q 5)) Sx ef_11 hK hP 0 rfl rfl 3 (by decide) kk_385 rfl dd_X11_costs_1 ?_
  refine wk_get (v := .ref (q 6)) Sx ef_1 hK hP 2 rfl rfl 0 (by decide) kk_260 rfl dd_X11_costs_4 ?_
  refine lv_iload_n hx hb dd_X11_costs_7 rfl (lv_at hl 1 rfl) ?_
  refine pk_i (pc_V [.int th] [] Sx hl.1 ws_X_117 md_X10_has (c_Things_has l D cy (fun k => q (6 + k)) th) ⟨rfl, rfl⟩ ⟨Nat.le_of_ble_eq_true rfl, Nat.le_of_ble_eq_true rfl⟩ (hP.sub [3] rfl) hK ns_b (ns_w hX) (va_recv hK hP (ci := 10) (q0 := 3) rfl rfl) rfl rfl (Nat.le_of_ble_eq_true rfl) dd_X11_costs_8 ⟨Nat.le_of_ble_eq_true rfl, Nat.le_of_ble_eq_true rfl⟩) (fun r1 hw2 => ?_)
  subst hw2
  refine lv_if_eq (tgt := 21) hx hb dd_X11_costs_11 (by decide) (fun _ => ?_) (fun c => absurd c (by decide))
  refine lv_aload_n hx hb dd_X11_costs_21 rfl (lv_at hl 0 rfl) ?_
  refine lv_bipush (v := (-2)) hx hb dd_X11_costs_22 (by decide) ?_
  refine hk_i (wr := [(q 5, .inr (1, fHall (fun k => q (5 + k)))), (q 6, .inr (10, fThings (fun k => q (6 + k))))]) (c1 := 0) (s1 := 0) [0, 1] [2, 3] (hc_V [.int (-2)] [] [0, 1] Sx hl.1 ws_X_63 md_X11_refuse (c_refuse_2 l D cy q) ⟨Nat.le_of_ble_eq_true rfl, Nat.le_of_ble_eq_true rfl⟩ hP hD rfl (by decide) hK nx_b (nx_w hX) (va_recv hK hP (ci := 11) (q0 := 0) rfl rfl) rfl rfl (Nat.le_of_ble_eq_true rfl) dd_X11_costs_24 ⟨Nat.le_of_ble_eq_true rfl, Nat.le_of_ble_eq_true rfl⟩) hS hA hP hD rfl rfl (by decide) (by decide) rfl rfl (fun r3 u4 H locs hw5 hP hD hS => ?_)
  have hP : va_P D cls [(q 5, .inr (1, fHall (fun k => q (5 + k)))), (q 6, .inr (10, fThings (fun k => q (6 + k))))] H := hP
  have hD : va_D A [(q 5, .inr (1, fHall (fun k => q (5 + k)))), (q 6, .inr (10, fThings (fun k => q (6 + k))))] := hD
  subst hw5
  exact hc_ret Sx hr hlocks dd_X11_costs_27 hS () rfl p_nil d_nil
set_option maxHeartbeats 4000000 in
set_option maxRecDepth 100000 in
theorem c_X_takes (l : Launch) (D : va_G) (cy : Nat → ClassId) (q : Nat → Nat) (bu : Int32) (ho : Int32) : HC l my_X11_takes mb_X11_takes 3 ((some .int)) (rmD 3 0 0) D (TY cy) [.ref (q 0), .int bu, .int ho] NX [(q 0, .inr (11, fX q)), (q 2, .inl (cy 0, 5, .inl (fun _ => 0))), (q 5, .inr (1, fHall (fun k => q (5 + k)))), (q 21, .inr (0, fBuyers (fun k => q (21 + k))))] (QI (S := Unit) D (fun r _ => r = (-2)) (fun _ => [])) := by
  refine hc_intro (by decide) (Nat.le_of_ble_eq_true rfl) (fun p e s m below meth c A ls Sx hr hlocks hin hl hP hD hK hS hA hX => ?_)
  have hx := Sx.1
  have hb := Sx.2.1
  have hl : lv_has ls 3 [(0, .ref (q 0)), (1, .int bu), (2, .int ho)] := hl
  have hP : va_P D cls [(q 0, .inr (11, fX q)), (q 2, .inl (cy 0, 5, .inl (fun _ => 0))), (q 5, .inr (1, fHall (fun k => q (5 + k)))), (q 21, .inr (0, fBuyers (fun k => q (21 + k))))] s.heap := hP
  have hD : va_D A [(q 0, .inr (11, fX q)), (q 2, .inl (cy 0, 5, .inl (fun _ => 0))), (q 5, .inr (1, fHall (fun k => q (5 + k)))), (q 21, .inr (0, fBuyers (fun k => q (21 + k))))] := hD
  refine lv_aload_n hx hb dd_X11_takes_0 rfl (lv_at hl 0 rfl) ?_
  refine wk_get (v := .ref (q 5)) Sx ef_11 hK hP 0 rfl rfl 3 (by decide) kk_385 rfl dd_X11_takes_1 ?_
  refine wk_get (v := .ref (q 21)) Sx ef_1 hK hP 2 rfl rfl 3 (by decide) kk_267 rfl dd_X11_takes_4 ?_
  refine lv_iload_n hx hb dd_X11_takes_7 rfl (lv_at hl 1 rfl) ?_
  refine pk_i (pc_V [.int bu] [] Sx hl.1 ws_X_229 md_X0_has (c_Buyers_has l D cy (fun k => q (21 + k)) bu) ⟨rfl, rfl⟩ ⟨Nat.le_of_ble_eq_true rfl, Nat.le_of_ble_eq_true rfl⟩ (hP.sub [3] rfl) hK ns_b (ns_w hX) (va_recv hK hP (ci := 0) (q0 := 3) rfl rfl) rfl rfl (Nat.le_of_ble_eq_true rfl) dd_X11_takes_8 ⟨Nat.le_of_ble_eq_true rfl, Nat.le_of_ble_eq_true rfl⟩) (fun r1 hw2 => ?_)
  subst hw2
  refine lv_if_eq (tgt := 21) hx hb dd_X11_takes_11 (by decide) (fun _ => ?_) (fun c => absurd c (by decide))
  refine lv_aload_n hx hb dd_X11_takes_21 rfl (lv_at hl 0 rfl) ?_
  refine lv_bipush (v := (-2)) hx hb dd_X11_takes_22 (by decide) ?_
  refine hk_i (wr := [(q 5, .inr (1, fHall (fun k => q (5 + k)))), (q 21, .inr (0, fBuyers (fun k => q (21 + k))))]) (c1 := 0) (s1 := 0) [0, 1] [2, 3] (hc_V [.int (-2)] [] [0, 1] Sx hl.1 ws_X_63 md_X11_refuse (c_refuse_2 l D cy q) ⟨Nat.le_of_ble_eq_true rfl, Nat.le_of_ble_eq_true rfl⟩ hP hD rfl (by decide) hK nx_b (nx_w hX) (va_recv hK hP (ci := 11) (q0 := 0) rfl rfl) rfl rfl (Nat.le_of_ble_eq_true rfl) dd_X11_takes_24 ⟨Nat.le_of_ble_eq_true rfl, Nat.le_of_ble_eq_true rfl⟩) hS hA hP hD rfl rfl (by decide) (by decide) rfl rfl (fun r3 u4 H locs hw5 hP hD hS => ?_)
  have hP : va_P D cls [(q 5, .inr (1, fHall (fun k => q (5 + k)))), (q 21, .inr (0, fBuyers (fun k => q (21 + k))))] H := hP
  have hD : va_D A [(q 5, .inr (1, fHall (fun k => q (5 + k)))), (q 21, .inr (0, fBuyers (fun k => q (21 + k))))] := hD
  subst hw5
  exact hc_ret Sx hr hlocks dd_X11_takes_27 hS () rfl p_nil d_nil
set_option maxHeartbeats 4000000 in
set_option maxRecDepth 100000 in
theorem c_X_loses (l : Launch) (D : va_G) (cy : Nat → ClassId) (q : Nat → Nat) (la : Int32) (ki : Int32) : HC l my_X11_loses mb_X11_loses 3 ((some .int)) (rmD 3 0 0) D (TY cy) [.ref (q 0), .int la, .int ki] NX [(q 0, .inr (11, fX q)), (q 2, .inl (cy 0, 5, .inl (fun _ => 0))), (q 5, .inr (1, fHall (fun k => q (5 + k)))), (q 14, .inr (2, fLadies (fun k => q (14 + k))))] (QI (S := Unit) D (fun r _ => r = (-2)) (fun _ => [])) := by
  refine hc_intro (by decide) (Nat.le_of_ble_eq_true rfl) (fun p e s m below meth c A ls Sx hr hlocks hin hl hP hD hK hS hA hX => ?_)
  have hx := Sx.1
  have hb := Sx.2.1
  have hl : lv_has ls 3 [(0, .ref (q 0)), (1, .int la), (2, .int ki)] := hl
  have hP : va_P D cls [(q 0, .inr (11, fX q)), (q 2, .inl (cy 0, 5, .inl (fun _ => 0))), (q 5, .inr (1, fHall (fun k => q (5 + k)))), (q 14, .inr (2, fLadies (fun k => q (14 + k))))] s.heap := hP
  have hD : va_D A [(q 0, .inr (11, fX q)), (q 2, .inl (cy 0, 5, .inl (fun _ => 0))), (q 5, .inr (1, fHall (fun k => q (5 + k)))), (q 14, .inr (2, fLadies (fun k => q (14 + k))))] := hD
  refine lv_aload_n hx hb dd_X11_loses_0 rfl (lv_at hl 0 rfl) ?_
  refine wk_get (v := .ref (q 5)) Sx ef_11 hK hP 0 rfl rfl 3 (by decide) kk_385 rfl dd_X11_loses_1 ?_
  refine wk_get (v := .ref (q 14)) Sx ef_1 hK hP 2 rfl rfl 1 (by decide) kk_262 rfl dd_X11_loses_4 ?_
  refine lv_iload_n hx hb dd_X11_loses_7 rfl (lv_at hl 1 rfl) ?_
  refine pk_i (pc_V [.int la] [] Sx hl.1 ws_X_177 md_X2_has (c_Ladies_has l D cy (fun k => q (14 + k)) la) ⟨rfl, rfl⟩ ⟨Nat.le_of_ble_eq_true rfl, Nat.le_of_ble_eq_true rfl⟩ (hP.sub [3] rfl) hK ns_b (ns_w hX) (va_recv hK hP (ci := 2) (q0 := 3) rfl rfl) rfl rfl (Nat.le_of_ble_eq_true rfl) dd_X11_loses_8 ⟨Nat.le_of_ble_eq_true rfl, Nat.le_of_ble_eq_true rfl⟩) (fun r1 hw2 => ?_)
  subst hw2
  refine lv_if_eq (tgt := 21) hx hb dd_X11_loses_11 (by decide) (fun _ => ?_) (fun c => absurd c (by decide))
  refine lv_aload_n hx hb dd_X11_loses_21 rfl (lv_at hl 0 rfl) ?_
  refine lv_bipush (v := (-2)) hx hb dd_X11_loses_22 (by decide) ?_
  refine hk_i (wr := [(q 5, .inr (1, fHall (fun k => q (5 + k)))), (q 14, .inr (2, fLadies (fun k => q (14 + k))))]) (c1 := 0) (s1 := 0) [0, 1] [2, 3] (hc_V [.int (-2)] [] [0, 1] Sx hl.1 ws_X_63 md_X11_refuse (c_refuse_2 l D cy q) ⟨Nat.le_of_ble_eq_true rfl, Nat.le_of_ble_eq_true rfl⟩ hP hD rfl (by decide) hK nx_b (nx_w hX) (va_recv hK hP (ci := 11) (q0 := 0) rfl rfl) rfl rfl (Nat.le_of_ble_eq_true rfl) dd_X11_loses_24 ⟨Nat.le_of_ble_eq_true rfl, Nat.le_of_ble_eq_true rfl⟩) hS hA hP hD rfl rfl (by decide) (by decide) rfl rfl (fun r3 u4 H locs hw5 hP hD hS => ?_)
  have hP : va_P D cls [(q 5, .inr (1, fHall (fun k => q (5 + k)))), (q 14, .inr (2, fLadies (fun k => q (14 + k))))] H := hP
  have hD : va_D A [(q 5, .inr (1, fHall (fun k => q (5 + k)))), (q 14, .inr (2, fLadies (fun k => q (14 + k))))] := hD
  subst hw5
  exact hc_ret Sx hr hlocks dd_X11_loses_27 hS () rfl p_nil d_nil
set_option maxHeartbeats 4000000 in
set_option maxRecDepth 100000 in
theorem c_X_same (l : Launch) (D : va_G) (cy : Nat → ClassId) (q : Nat → Nat) (sa : Int32) (sb : Int32) : HC l my_X11_same mb_X11_same 3 ((some .int)) (rmD 3 0 0) D (TY cy) [.ref (q 0), .int sa, .int sb] NX [(q 0, .inr (11, fX q)), (q 2, .inl (cy 0, 5, .inl (fun _ => 0))), (q 5, .inr (1, fHall (fun k => q (5 + k)))), (q 27, .inr (8, fSightings (fun k => q (27 + k))))] (QI (S := Unit) D (fun r _ => r = (-2)) (fun _ => [])) := by
  refine hc_intro (by decide) (Nat.le_of_ble_eq_true rfl) (fun p e s m below meth c A ls Sx hr hlocks hin hl hP hD hK hS hA hX => ?_)
  have hx := Sx.1
  have hb := Sx.2.1
  have hl : lv_has ls 3 [(0, .ref (q 0)), (1, .int sa), (2, .int sb)] := hl
  have hP : va_P D cls [(q 0, .inr (11, fX q)), (q 2, .inl (cy 0, 5, .inl (fun _ => 0))), (q 5, .inr (1, fHall (fun k => q (5 + k)))), (q 27, .inr (8, fSightings (fun k => q (27 + k))))] s.heap := hP
  have hD : va_D A [(q 0, .inr (11, fX q)), (q 2, .inl (cy 0, 5, .inl (fun _ => 0))), (q 5, .inr (1, fHall (fun k => q (5 + k)))), (q 27, .inr (8, fSightings (fun k => q (27 + k))))] := hD
  refine lv_aload_n hx hb dd_X11_same_0 rfl (lv_at hl 0 rfl) ?_
  refine wk_get (v := .ref (q 5)) Sx ef_11 hK hP 0 rfl rfl 3 (by decide) kk_385 rfl dd_X11_same_1 ?_
  refine wk_get (v := .ref (q 27)) Sx ef_1 hK hP 2 rfl rfl 4 (by decide) kk_269 rfl dd_X11_same_4 ?_
  refine lv_iload_n hx hb dd_X11_same_7 rfl (lv_at hl 1 rfl) ?_
  refine pk_i (pc_V [.int sa] [] Sx hl.1 ws_X_329 md_X8_has (c_Sightings_has l D cy (fun k => q (27 + k)) sa) ⟨rfl, rfl⟩ ⟨Nat.le_of_ble_eq_true rfl, Nat.le_of_ble_eq_true rfl⟩ (hP.sub [3] rfl) hK ns_b (ns_w hX) (va_recv hK hP (ci := 8) (q0 := 3) rfl rfl) rfl rfl (Nat.le_of_ble_eq_true rfl) dd_X11_same_8 ⟨Nat.le_of_ble_eq_true rfl, Nat.le_of_ble_eq_true rfl⟩) (fun r1 hw2 => ?_)
  subst hw2
  refine lv_if_eq (tgt := 28) hx hb dd_X11_same_11 (by decide) (fun _ => ?_) (fun c => absurd c (by decide))
  refine lv_aload_n hx hb dd_X11_same_28 rfl (lv_at hl 0 rfl) ?_
  refine lv_bipush (v := (-2)) hx hb dd_X11_same_29 (by decide) ?_
  refine hk_i (wr := [(q 5, .inr (1, fHall (fun k => q (5 + k)))), (q 27, .inr (8, fSightings (fun k => q (27 + k))))]) (c1 := 0) (s1 := 0) [0, 1] [2, 3] (hc_V [.int (-2)] [] [0, 1] Sx hl.1 ws_X_63 md_X11_refuse (c_refuse_2 l D cy q) ⟨Nat.le_of_ble_eq_true rfl, Nat.le_of_ble_eq_true rfl⟩ hP hD rfl (by decide) hK nx_b (nx_w hX) (va_recv hK hP (ci := 11) (q0 := 0) rfl rfl) rfl rfl (Nat.le_of_ble_eq_true rfl) dd_X11_same_31 ⟨Nat.le_of_ble_eq_true rfl, Nat.le_of_ble_eq_true rfl⟩) hS hA hP hD rfl rfl (by decide) (by decide) rfl rfl (fun r3 u4 H locs hw5 hP hD hS => ?_)
  have hP : va_P D cls [(q 5, .inr (1, fHall (fun k => q (5 + k)))), (q 27, .inr (8, fSightings (fun k => q (27 + k))))] H := hP
  have hD : va_D A [(q 5, .inr (1, fHall (fun k => q (5 + k)))), (q 27, .inr (8, fSightings (fun k => q (27 + k))))] := hD
  subst hw5
  exact hc_ret Sx hr hlocks dd_X11_same_34 hS () rfl p_nil d_nil
set_option maxHeartbeats 4000000 in
set_option maxRecDepth 100000 in
theorem c_X_secret (l : Launch) (D : va_G) (cy : Nat → ClassId) (q : Nat → Nat) (th : Int32) (pe : Int32) : HC l my_X11_secret mb_X11_secret 3 ((some .int)) (rmD 3 0 0) D (TY cy) [.ref (q 0), .int th, .int pe] NX [(q 0, .inr (11, fX q)), (q 2, .inl (cy 0, 5, .inl (fun _ => 0))), (q 5, .inr (1, fHall (fun k => q (5 + k)))), (q 6, .inr (10, fThings (fun k => q (6 + k))))] (QI (S := Unit) D (fun r _ => r = (-2)) (fun _ => [])) := by
  refine hc_intro (by decide) (Nat.le_of_ble_eq_true rfl) (fun p e s m below meth c A ls Sx hr hlocks hin hl hP hD hK hS hA hX => ?_)
  have hx := Sx.1
  have hb := Sx.2.1
  have hl : lv_has ls 3 [(0, .ref (q 0)), (1, .int th), (2, .int pe)] := hl
  have hP : va_P D cls [(q 0, .inr (11, fX q)), (q 2, .inl (cy 0, 5, .inl (fun _ => 0))), (q 5, .inr (1, fHall (fun k => q (5 + k)))), (q 6, .inr (10, fThings (fun k => q (6 + k))))] s.heap := hP
  have hD : va_D A [(q 0, .inr (11, fX q)), (q 2, .inl (cy 0, 5, .inl (fun _ => 0))), (q 5, .inr (1, fHall (fun k => q (5 + k)))), (q 6, .inr (10, fThings (fun k => q (6 + k))))] := hD
  refine lv_aload_n hx hb dd_X11_secret_0 rfl (lv_at hl 0 rfl) ?_
  refine wk_get (v := .ref (q 5)) Sx ef_11 hK hP 0 rfl rfl 3 (by decide) kk_385 rfl dd_X11_secret_1 ?_
  refine wk_get (v := .ref (q 6)) Sx ef_1 hK hP 2 rfl rfl 0 (by decide) kk_260 rfl dd_X11_secret_4 ?_
  refine lv_iload_n hx hb dd_X11_secret_7 rfl (lv_at hl 1 rfl) ?_
  refine pk_i (pc_V [.int th] [] Sx hl.1 ws_X_117 md_X10_has (c_Things_has l D cy (fun k => q (6 + k)) th) ⟨rfl, rfl⟩ ⟨Nat.le_of_ble_eq_true rfl, Nat.le_of_ble_eq_true rfl⟩ (hP.sub [3] rfl) hK ns_b (ns_w hX) (va_recv hK hP (ci := 10) (q0 := 3) rfl rfl) rfl rfl (Nat.le_of_ble_eq_true rfl) dd_X11_secret_8 ⟨Nat.le_of_ble_eq_true rfl, Nat.le_of_ble_eq_true rfl⟩) (fun r1 hw2 => ?_)
  subst hw2
  refine lv_if_eq (tgt := 21) hx hb dd_X11_secret_11 (by decide) (fun _ => ?_) (fun c => absurd c (by decide))
  refine lv_aload_n hx hb dd_X11_secret_21 rfl (lv_at hl 0 rfl) ?_
  refine lv_bipush (v := (-2)) hx hb dd_X11_secret_22 (by decide) ?_
  refine hk_i (wr := [(q 5, .inr (1, fHall (fun k => q (5 + k)))), (q 6, .inr (10, fThings (fun k => q (6 + k))))]) (c1 := 0) (s1 := 0) [0, 1] [2, 3] (hc_V [.int (-2)] [] [0, 1] Sx hl.1 ws_X_63 md_X11_refuse (c_refuse_2 l D cy q) ⟨Nat.le_of_ble_eq_true rfl, Nat.le_of_ble_eq_true rfl⟩ hP hD rfl (by decide) hK nx_b (nx_w hX) (va_recv hK hP (ci := 11) (q0 := 0) rfl rfl) rfl rfl (Nat.le_of_ble_eq_true rfl) dd_X11_secret_24 ⟨Nat.le_of_ble_eq_true rfl, Nat.le_of_ble_eq_true rfl⟩) hS hA hP hD rfl rfl (by decide) (by decide) rfl rfl (fun r3 u4 H locs hw5 hP hD hS => ?_)
  have hP : va_P D cls [(q 5, .inr (1, fHall (fun k => q (5 + k)))), (q 6, .inr (10, fThings (fun k => q (6 + k))))] H := hP
  have hD : va_D A [(q 5, .inr (1, fHall (fun k => q (5 + k)))), (q 6, .inr (10, fThings (fun k => q (6 + k))))] := hD
  subst hw5
  exact hc_ret Sx hr hlocks dd_X11_secret_27 hS () rfl p_nil d_nil
set_option maxHeartbeats 4000000 in
set_option maxRecDepth 100000 in
theorem c_X_laid (l : Launch) (D : va_G) (cy : Nat → ClassId) (q : Nat → Nat) (ro : Int32) (th : Int32) : HC l my_X11_laid mb_X11_laid 3 ((some .int)) (rmD 3 0 0) D (TY cy) [.ref (q 0), .int ro, .int th] NX [(q 0, .inr (11, fX q)), (q 2, .inl (cy 0, 5, .inl (fun _ => 0))), (q 5, .inr (1, fHall (fun k => q (5 + k)))), (q 6, .inr (10, fThings (fun k => q (6 + k))))] (QI (S := Unit) D (fun r _ => r = (-2)) (fun _ => [])) := by
  refine hc_intro (by decide) (Nat.le_of_ble_eq_true rfl) (fun p e s m below meth c A ls Sx hr hlocks hin hl hP hD hK hS hA hX => ?_)
  have hx := Sx.1
  have hb := Sx.2.1
  have hl : lv_has ls 3 [(0, .ref (q 0)), (1, .int ro), (2, .int th)] := hl
  have hP : va_P D cls [(q 0, .inr (11, fX q)), (q 2, .inl (cy 0, 5, .inl (fun _ => 0))), (q 5, .inr (1, fHall (fun k => q (5 + k)))), (q 6, .inr (10, fThings (fun k => q (6 + k))))] s.heap := hP
  have hD : va_D A [(q 0, .inr (11, fX q)), (q 2, .inl (cy 0, 5, .inl (fun _ => 0))), (q 5, .inr (1, fHall (fun k => q (5 + k)))), (q 6, .inr (10, fThings (fun k => q (6 + k))))] := hD
  refine lv_iload_n hx hb dd_X11_laid_0 rfl (lv_at hl 1 rfl) ?_
  refine lv_iconst (v := 1) hx hb dd_X11_laid_1 (by decide) ?_
  refine lv_bipush (v := 10) hx hb dd_X11_laid_2 (by decide) ?_
  refine pk_i (pc_T [.int ro, .int 1, .int 10] [] Sx hl.1 ws_X_59 md_X11_within (c_within l D cy ro 1 10) ⟨rfl, rfl⟩ ⟨Nat.le_of_ble_eq_true rfl, Nat.le_of_ble_eq_true rfl⟩ p_nil hK ns_b (ns_w hX) rfl rfl (Nat.le_of_ble_eq_true rfl) dd_X11_laid_4 ⟨Nat.le_of_ble_eq_true rfl, Nat.le_of_ble_eq_true rfl⟩) (fun r1 hw2 => ?_)
  rcases hw2 with ⟨hw2, ehw2⟩ | ⟨hw2, ehw2⟩
  · have hl3 : Int32.toInt 1 = 1 := rfl
    have hl4 : Int32.toInt 10 = 10 := rfl
    subst ehw2
    refine lv_if_eq (tgt := 24) hx hb dd_X11_laid_7 (by decide) (fun c => absurd c (by decide)) (fun _ => ?_)
    refine lv_aload_n hx hb dd_X11_laid_10 rfl (lv_at hl 0 rfl) ?_
    refine wk_get (v := .ref (q 5)) Sx ef_11 hK hP 0 rfl rfl 3 (by decide) kk_385 rfl dd_X11_laid_11 ?_
    refine wk_get (v := .ref (q 6)) Sx ef_1 hK hP 2 rfl rfl 0 (by decide) kk_260 rfl dd_X11_laid_14 ?_
    refine lv_iload_n hx hb dd_X11_laid_17 rfl (lv_at hl 2 rfl) ?_
    refine pk_i (pc_V [.int th] [] Sx hl.1 ws_X_117 md_X10_has (c_Things_has l D cy (fun k => q (6 + k)) th) ⟨rfl, rfl⟩ ⟨Nat.le_of_ble_eq_true rfl, Nat.le_of_ble_eq_true rfl⟩ (hP.sub [3] rfl) hK ns_b (ns_w hX) (va_recv hK hP (ci := 10) (q0 := 3) rfl rfl) rfl rfl (Nat.le_of_ble_eq_true rfl) dd_X11_laid_18 ⟨Nat.le_of_ble_eq_true rfl, Nat.le_of_ble_eq_true rfl⟩) (fun r5 hw6 => ?_)
    subst hw6
    refine lv_if_ne (tgt := 31) hx hb dd_X11_laid_21 (by decide) (fun c => absurd c (by decide)) (fun _ => ?_)
    refine lv_aload_n hx hb dd_X11_laid_24 rfl (lv_at hl 0 rfl) ?_
    refine lv_bipush (v := (-2)) hx hb dd_X11_laid_25 (by decide) ?_
    refine hk_i (wr := [(q 5, .inr (1, fHall (fun k => q (5 + k)))), (q 6, .inr (10, fThings (fun k => q (6 + k))))]) (c1 := 0) (s1 := 0) [0, 1] [2, 3] (hc_V [.int (-2)] [] [0, 1] Sx hl.1 ws_X_63 md_X11_refuse (c_refuse_2 l D cy q) ⟨Nat.le_of_ble_eq_true rfl, Nat.le_of_ble_eq_true rfl⟩ hP hD rfl (by decide) hK nx_b (nx_w hX) (va_recv hK hP (ci := 11) (q0 := 0) rfl rfl) rfl rfl (Nat.le_of_ble_eq_true rfl) dd_X11_laid_27 ⟨Nat.le_of_ble_eq_true rfl, Nat.le_of_ble_eq_true rfl⟩) hS hA hP hD rfl rfl (by decide) (by decide) rfl rfl (fun r7 u8 H locs hw9 hP hD hS => ?_)
    have hP : va_P D cls [(q 5, .inr (1, fHall (fun k => q (5 + k)))), (q 6, .inr (10, fThings (fun k => q (6 + k))))] H := hP
    have hD : va_D A [(q 5, .inr (1, fHall (fun k => q (5 + k)))), (q 6, .inr (10, fThings (fun k => q (6 + k))))] := hD
    subst hw9
    exact hc_ret Sx hr hlocks dd_X11_laid_30 hS () rfl p_nil d_nil
  · have hl10 : Int32.toInt 1 = 1 := rfl
    have hl11 : Int32.toInt 10 = 10 := rfl
    subst ehw2
    refine lv_if_eq (tgt := 24) hx hb dd_X11_laid_7 (by decide) (fun _ => ?_) (fun c => absurd c (by decide))
    refine lv_aload_n hx hb dd_X11_laid_24 rfl (lv_at hl 0 rfl) ?_
    refine lv_bipush (v := (-2)) hx hb dd_X11_laid_25 (by decide) ?_
    refine hk_i (wr := [(q 5, .inr (1, fHall (fun k => q (5 + k)))), (q 6, .inr (10, fThings (fun k => q (6 + k))))]) (c1 := 0) (s1 := 0) [0, 1] [2, 3] (hc_V [.int (-2)] [] [0, 1] Sx hl.1 ws_X_63 md_X11_refuse (c_refuse_2 l D cy q) ⟨Nat.le_of_ble_eq_true rfl, Nat.le_of_ble_eq_true rfl⟩ hP hD rfl (by decide) hK nx_b (nx_w hX) (va_recv hK hP (ci := 11) (q0 := 0) rfl rfl) rfl rfl (Nat.le_of_ble_eq_true rfl) dd_X11_laid_27 ⟨Nat.le_of_ble_eq_true rfl, Nat.le_of_ble_eq_true rfl⟩) hS hA hP hD rfl rfl (by decide) (by decide) rfl rfl (fun r12 u13 H locs hw14 hP hD hS => ?_)
    have hP : va_P D cls [(q 5, .inr (1, fHall (fun k => q (5 + k)))), (q 6, .inr (10, fThings (fun k => q (6 + k))))] H := hP
    have hD : va_D A [(q 5, .inr (1, fHall (fun k => q (5 + k)))), (q 6, .inr (10, fThings (fun k => q (6 + k))))] := hD
    subst hw14
    exact hc_ret Sx hr hlocks dd_X11_laid_30 hS () rfl p_nil d_nil
set_option maxHeartbeats 4000000 in
set_option maxRecDepth 100000 in
theorem c_X_hall (l : Launch) (D : va_G) (cy : Nat → ClassId) (q : Nat → Nat) (fi : Int32) (th : Int32) : HC l my_X11_hall mb_X11_hall 3 ((some .int)) (rmD 3 0 0) D (TY cy) [.ref (q 0), .int fi, .int th] NX [(q 0, .inr (11, fX q)), (q 2, .inl (cy 0, 5, .inl (fun _ => 0))), (q 5, .inr (1, fHall (fun k => q (5 + k)))), (q 6, .inr (10, fThings (fun k => q (6 + k))))] (QI (S := Unit) D (fun r _ => r = (-2)) (fun _ => [])) := by
  refine hc_intro (by decide) (Nat.le_of_ble_eq_true rfl) (fun p e s m below meth c A ls Sx hr hlocks hin hl hP hD hK hS hA hX => ?_)
  have hx := Sx.1
  have hb := Sx.2.1
  have hl : lv_has ls 3 [(0, .ref (q 0)), (1, .int fi), (2, .int th)] := hl
  have hP : va_P D cls [(q 0, .inr (11, fX q)), (q 2, .inl (cy 0, 5, .inl (fun _ => 0))), (q 5, .inr (1, fHall (fun k => q (5 + k)))), (q 6, .inr (10, fThings (fun k => q (6 + k))))] s.heap := hP
  have hD : va_D A [(q 0, .inr (11, fX q)), (q 2, .inl (cy 0, 5, .inl (fun _ => 0))), (q 5, .inr (1, fHall (fun k => q (5 + k)))), (q 6, .inr (10, fThings (fun k => q (6 + k))))] := hD
  refine lv_iload_n hx hb dd_X11_hall_0 rfl (lv_at hl 1 rfl) ?_
  refine lv_iconst (v := 0) hx hb dd_X11_hall_1 (by decide) ?_
  refine lv_iconst (v := 2) hx hb dd_X11_hall_2 (by decide) ?_
  refine pk_i (pc_T [.int fi, .int 0, .int 2] [] Sx hl.1 ws_X_59 md_X11_within (c_within l D cy fi 0 2) ⟨rfl, rfl⟩ ⟨Nat.le_of_ble_eq_true rfl, Nat.le_of_ble_eq_true rfl⟩ p_nil hK ns_b (ns_w hX) rfl rfl (Nat.le_of_ble_eq_true rfl) dd_X11_hall_3 ⟨Nat.le_of_ble_eq_true rfl, Nat.le_of_ble_eq_true rfl⟩) (fun r1 hw2 => ?_)
  rcases hw2 with ⟨hw2, ehw2⟩ | ⟨hw2, ehw2⟩
  · have hl3 : Int32.toInt 0 = 0 := rfl
    have hl4 : Int32.toInt 2 = 2 := rfl
    subst ehw2
    refine lv_if_eq (tgt := 23) hx hb dd_X11_hall_6 (by decide) (fun c => absurd c (by decide)) (fun _ => ?_)
    refine lv_aload_n hx hb dd_X11_hall_9 rfl (lv_at hl 0 rfl) ?_
    refine wk_get (v := .ref (q 5)) Sx ef_11 hK hP 0 rfl rfl 3 (by decide) kk_385 rfl dd_X11_hall_10 ?_
    refine wk_get (v := .ref (q 6)) Sx ef_1 hK hP 2 rfl rfl 0 (by decide) kk_260 rfl dd_X11_hall_13 ?_
    refine lv_iload_n hx hb dd_X11_hall_16 rfl (lv_at hl 2 rfl) ?_
    refine pk_i (pc_V [.int th] [] Sx hl.1 ws_X_117 md_X10_has (c_Things_has l D cy (fun k => q (6 + k)) th) ⟨rfl, rfl⟩ ⟨Nat.le_of_ble_eq_true rfl, Nat.le_of_ble_eq_true rfl⟩ (hP.sub [3] rfl) hK ns_b (ns_w hX) (va_recv hK hP (ci := 10) (q0 := 3) rfl rfl) rfl rfl (Nat.le_of_ble_eq_true rfl) dd_X11_hall_17 ⟨Nat.le_of_ble_eq_true rfl, Nat.le_of_ble_eq_true rfl⟩) (fun r5 hw6 => ?_)
    subst hw6
    refine lv_if_ne (tgt := 30) hx hb dd_X11_hall_20 (by decide) (fun c => absurd c (by decide)) (fun _ => ?_)
    refine lv_aload_n hx hb dd_X11_hall_23 rfl (lv_at hl 0 rfl) ?_
    refine lv_bipush (v := (-2)) hx hb dd_X11_hall_24 (by decide) ?_
    refine hk_i (wr := [(q 5, .inr (1, fHall (fun k => q (5 + k)))), (q 6, .inr (10, fThings (fun k => q (6 + k))))]) (c1 := 0) (s1 := 0) [0, 1] [2, 3] (hc_V [.int (-2)] [] [0, 1] Sx hl.1 ws_X_63 md_X11_refuse (c_refuse_2 l D cy q) ⟨Nat.le_of_ble_eq_true rfl, Nat.le_of_ble_eq_true rfl⟩ hP hD rfl (by decide) hK nx_b (nx_w hX) (va_recv hK hP (ci := 11) (q0 := 0) rfl rfl) rfl rfl (Nat.le_of_ble_eq_true rfl) dd_X11_hall_26 ⟨Nat.le_of_ble_eq_true rfl, Nat.le_of_ble_eq_true rfl⟩) hS hA hP hD rfl rfl (by decide) (by decide) rfl rfl (fun r7 u8 H locs hw9 hP hD hS => ?_)
    have hP : va_P D cls [(q 5, .inr (1, fHall (fun k => q (5 + k)))), (q 6, .inr (10, fThings (fun k => q (6 + k))))] H := hP
    have hD : va_D A [(q 5, .inr (1, fHall (fun k => q (5 + k)))), (q 6, .inr (10, fThings (fun k => q (6 + k))))] := hD
    subst hw9
    exact hc_ret Sx hr hlocks dd_X11_hall_29 hS () rfl p_nil d_nil
  · have hl10 : Int32.toInt 0 = 0 := rfl
    have hl11 : Int32.toInt 2 = 2 := rfl
    subst ehw2
    refine lv_if_eq (tgt := 23) hx hb dd_X11_hall_6 (by decide) (fun _ => ?_) (fun c => absurd c (by decide))
    refine lv_aload_n hx hb dd_X11_hall_23 rfl (lv_at hl 0 rfl) ?_
    refine lv_bipush (v := (-2)) hx hb dd_X11_hall_24 (by decide) ?_
    refine hk_i (wr := [(q 5, .inr (1, fHall (fun k => q (5 + k)))), (q 6, .inr (10, fThings (fun k => q (6 + k))))]) (c1 := 0) (s1 := 0) [0, 1] [2, 3] (hc_V [.int (-2)] [] [0, 1] Sx hl.1 ws_X_63 md_X11_refuse (c_refuse_2 l D cy q) ⟨Nat.le_of_ble_eq_true rfl, Nat.le_of_ble_eq_true rfl⟩ hP hD rfl (by decide) hK nx_b (nx_w hX) (va_recv hK hP (ci := 11) (q0 := 0) rfl rfl) rfl rfl (Nat.le_of_ble_eq_true rfl) dd_X11_hall_26 ⟨Nat.le_of_ble_eq_true rfl, Nat.le_of_ble_eq_true rfl⟩) hS hA hP hD rfl rfl (by decide) (by decide) rfl rfl (fun r12 u13 H locs hw14 hP hD hS => ?_)
    have hP : va_P D cls [(q 5, .inr (1, fHall (fun k => q (5 + k)))), (q 6, .inr (10, fThings (fun k => q (6 + k))))] H := hP
    have hD : va_D A [(q 5, .inr (1, fHall (fun k => q (5 + k)))), (q 6, .inr (10, fThings (fun k => q (6 + k))))] := hD
    subst hw14
    exact hc_ret Sx hr hlocks dd_X11_hall_29 hS () rfl p_nil d_nil
set_option maxHeartbeats 4000000 in
set_option maxRecDepth 100000 in
theorem c_X_lady (l : Launch) (D : va_G) (cy : Nat → ClassId) (q : Nat → Nat) (kn : Int32) (gu : Int32) : HC l my_X11_lady mb_X11_lady 3 ((some .int)) (rmD 3 0 0) D (TY cy) [.ref (q 0), .int kn, .int gu] NX [(q 0, .inr (11, fX q)), (q 2, .inl (cy 0, 5, .inl (fun _ => 0))), (q 5, .inr (1, fHall (fun k => q (5 + k)))), (q 14, .inr (2, fLadies (fun k => q (14 + k)))), (q 15, .inl (cy 0, 5, .inl (fun _ => 0))), (q 16, .inl (cy 0, 5, .inl (fun _ => 0))), (q 17, .inl (cy 0, 5, .inl (fun _ => 0)))] (QI (S := Unit) D (fun r _ => if2 (0 ≤ kn.toInt ∧ kn.toInt ≤ 63 ∧ 0 ≤ gu.toInt ∧ gu.toInt ≤ 999) 0 (-2) r) (fun _ => [])) := by
  refine hc_intro (by decide) (Nat.le_of_ble_eq_true rfl) (fun p e s m below meth c A ls Sx hr hlocks hin hl hP hD hK hS hA hX => ?_)
  have hx := Sx.1
  have hb := Sx.2.1
  have hl : lv_has ls 3 [(0, .ref (q 0)), (1, .int kn), (2, .int gu)] := hl
  have hP : va_P D cls [(q 0, .inr (11, fX q)), (q 2, .inl (cy 0, 5, .inl (fun _ => 0))), (q 5, .inr (1, fHall (fun k => q (5 + k)))), (q 14, .inr (2, fLadies (fun k => q (14 + k)))), (q 15, .inl (cy 0, 5, .inl (fun _ => 0))), (q 16, .inl (cy 0, 5, .inl (fun _ => 0))), (q 17, .inl (cy 0, 5, .inl (fun _ => 0)))] s.heap := hP
  have hD : va_D A [(q 0, .inr (11, fX q)), (q 2, .inl (cy 0, 5, .inl (fun _ => 0))), (q 5, .inr (1, fHall (fun k => q (5 + k)))), (q 14, .inr (2, fLadies (fun k => q (14 + k)))), (q 15, .inl (cy 0, 5, .inl (fun _ => 0))), (q 16, .inl (cy 0, 5, .inl (fun _ => 0))), (q 17, .inl (cy 0, 5, .inl (fun _ => 0)))] := hD
  refine lv_iload_n hx hb dd_X11_lady_0 rfl (lv_at hl 1 rfl) ?_
  refine pk_i (pc_T [.int kn] [] Sx hl.1 ws_X_165 md_X11_isKinds (c_isKinds l D cy kn) ⟨rfl, rfl⟩ ⟨Nat.le_of_ble_eq_true rfl, Nat.le_of_ble_eq_true rfl⟩ p_nil hK ns_b (ns_w hX) rfl rfl (Nat.le_of_ble_eq_true rfl) dd_X11_lady_1 ⟨Nat.le_of_ble_eq_true rfl, Nat.le_of_ble_eq_true rfl⟩) (fun r1 hw2 => ?_)
  rcases hw2 with ⟨hw2, ehw2⟩ | ⟨hw2, ehw2⟩
  · subst ehw2
    refine lv_if_eq (tgt := 18) hx hb dd_X11_lady_4 (by decide) (fun c => absurd c (by decide)) (fun _ => ?_)
    refine lv_iload_n hx hb dd_X11_lady_7 rfl (lv_at hl 2 rfl) ?_
    refine lv_iconst (v := 0) hx hb dd_X11_lady_8 (by decide) ?_
    refine lv_sipush (v := 999) hx hb dd_X11_lady_9 (by decide) ?_
    refine pk_i (pc_T [.int gu, .int 0, .int 999] [] Sx hl.1 ws_X_59 md_X11_within (c_within l D cy gu 0 999) ⟨rfl, rfl⟩ ⟨Nat.le_of_ble_eq_true rfl, Nat.le_of_ble_eq_true rfl⟩ p_nil hK ns_b (ns_w hX) rfl rfl (Nat.le_of_ble_eq_true rfl) dd_X11_lady_12 ⟨Nat.le_of_ble_eq_true rfl, Nat.le_of_ble_eq_true rfl⟩) (fun r3 hw4 => ?_)
    rcases hw4 with ⟨hw4, ehw4⟩ | ⟨hw4, ehw4⟩
    · have hl5 : Int32.toInt 0 = 0 := rfl
      have hl6 : Int32.toInt 999 = 999 := rfl
      subst ehw4
      refine lv_if_ne (tgt := 25) hx hb dd_X11_lady_15 (by decide) (fun _ => ?_) (fun c => absurd c (by decide))
      refine lv_aload_n hx hb dd_X11_lady_25 rfl (lv_at hl 0 rfl) ?_
      refine wk_get (v := .ref (q 5)) Sx ef_11 hK hP 0 rfl rfl 3 (by decide) kk_385 rfl dd_X11_lady_26 ?_
      refine wk_get (v := .ref (q 14)) Sx ef_1 hK hP 2 rfl rfl 1 (by decide) kk_262 rfl dd_X11_lady_29 ?_
      refine wk_get (v := .int 0) Sx ef_2 hK hP 3 rfl rfl 3 (by decide) kk_125 rfl dd_X11_lady_32 ?_
      refine lv_iconst (v := 5) hx hb dd_X11_lady_35 (by decide) ?_
      refine lv_icmp_lt (tgt := 46) hx hb dd_X11_lady_36 (by decide) (fun _ => ?_) (fun c => absurd c (by decide))
      refine lv_aload_n hx hb dd_X11_lady_46 rfl (lv_at hl 0 rfl) ?_
      refine wk_get (v := .ref (q 5)) Sx ef_11 hK hP 0 rfl rfl 3 (by decide) kk_385 rfl dd_X11_lady_47 ?_
      refine wk_get (v := .ref (q 14)) Sx ef_1 hK hP 2 rfl rfl 1 (by decide) kk_262 rfl dd_X11_lady_50 ?_
      refine lv_iload_n hx hb dd_X11_lady_53 rfl (lv_at hl 1 rfl) ?_
      refine lv_iload_n hx hb dd_X11_lady_54 rfl (lv_at hl 2 rfl) ?_
      refine hk_i (wr := [(q 0, .inr (11, fX q)), (q 2, .inl (cy 0, 5, .inl (fun _ => 0))), (q 5, .inr (1, fHall (fun k => q (5 + k))))]) (c1 := 0) (s1 := 0) [3, 4, 5, 6] [0, 1, 2] (hc_V [.int kn, .int gu] [] [3, 4, 5, 6] Sx hl.1 ws_X_175 md_X2_add (c_Ladies_add l D cy (fun k => q (14 + k)) kn gu) ⟨Nat.le_of_ble_eq_true rfl, Nat.le_of_ble_eq_true rfl⟩ hP hD rfl (by decide) hK nx_b (nx_w hX) (va_recv hK hP (ci := 2) (q0 := 3) rfl rfl) rfl rfl (Nat.le_of_ble_eq_true rfl) dd_X11_lady_55 ⟨Nat.le_of_ble_eq_true rfl, Nat.le_of_ble_eq_true rfl⟩) hS hA hP hD rfl rfl (by decide) (by decide) rfl rfl (fun r7 u8 H locs hw9 hP hD hS => ?_)
      have hP : va_P D cls [(q 0, .inr (11, fX q)), (q 2, .inl (cy 0, 5, .inl (fun _ => 0))), (q 5, .inr (1, fHall (fun k => q (5 + k))))] H := hP
      have hD : va_D A [(q 0, .inr (11, fX q)), (q 2, .inl (cy 0, 5, .inl (fun _ => 0))), (q 5, .inr (1, fHall (fun k => q (5 + k))))] := hD
      subst hw9
      exact hc_ret Sx hr hlocks dd_X11_lady_58 hS () (Or.inl ⟨by omega, rfl⟩) p_nil d_nil
    · have hl10 : Int32.toInt 0 = 0 := rfl
      have hl11 : Int32.toInt 999 = 999 := rfl
      subst ehw4
      refine lv_if_ne (tgt := 25) hx hb dd_X11_lady_15 (by decide) (fun c => absurd c (by decide)) (fun _ => ?_)
      refine lv_aload_n hx hb dd_X11_lady_18 rfl (lv_at hl 0 rfl) ?_
      refine lv_bipush (v := (-2)) hx hb dd_X11_lady_19 (by decide) ?_
      refine hk_i (wr := [(q 5, .inr (1, fHall (fun k => q (5 + k)))), (q 14, .inr (2, fLadies (fun k => q (14 + k)))), (q 15, .inl (cy 0, 5, .inl (fun _ => 0))), (q 16, .inl (cy 0, 5, .inl (fun _ => 0))), (q 17, .inl (cy 0, 5, .inl (fun _ => 0)))]) (c1 := 0) (s1 := 0) [0, 1] [2, 3, 4, 5, 6] (hc_V [.int (-2)] [] [0, 1] Sx hl.1 ws_X_63 md_X11_refuse (c_refuse_2 l D cy q) ⟨Nat.le_of_ble_eq_true rfl, Nat.le_of_ble_eq_true rfl⟩ hP hD rfl (by decide) hK nx_b (nx_w hX) (va_recv hK hP (ci := 11) (q0 := 0) rfl rfl) rfl rfl (Nat.le_of_ble_eq_true rfl) dd_X11_lady_21 ⟨Nat.le_of_ble_eq_true rfl, Nat.le_of_ble_eq_true rfl⟩) hS hA hP hD rfl rfl (by decide) (by decide) rfl rfl (fun r12 u13 H locs hw14 hP hD hS => ?_)
      have hP : va_P D cls [(q 5, .inr (1, fHall (fun k => q (5 + k)))), (q 14, .inr (2, fLadies (fun k => q (14 + k)))), (q 15, .inl (cy 0, 5, .inl (fun _ => 0))), (q 16, .inl (cy 0, 5, .inl (fun _ => 0))), (q 17, .inl (cy 0, 5, .inl (fun _ => 0)))] H := hP
      have hD : va_D A [(q 5, .inr (1, fHall (fun k => q (5 + k)))), (q 14, .inr (2, fLadies (fun k => q (14 + k)))), (q 15, .inl (cy 0, 5, .inl (fun _ => 0))), (q 16, .inl (cy 0, 5, .inl (fun _ => 0))), (q 17, .inl (cy 0, 5, .inl (fun _ => 0)))] := hD
      subst hw14
      exact hc_ret Sx hr hlocks dd_X11_lady_24 hS () (Or.inr ⟨by omega, rfl⟩) p_nil d_nil
  · subst ehw2
    refine lv_if_eq (tgt := 18) hx hb dd_X11_lady_4 (by decide) (fun _ => ?_) (fun c => absurd c (by decide))
    refine lv_aload_n hx hb dd_X11_lady_18 rfl (lv_at hl 0 rfl) ?_
    refine lv_bipush (v := (-2)) hx hb dd_X11_lady_19 (by decide) ?_
    refine hk_i (wr := [(q 5, .inr (1, fHall (fun k => q (5 + k)))), (q 14, .inr (2, fLadies (fun k => q (14 + k)))), (q 15, .inl (cy 0, 5, .inl (fun _ => 0))), (q 16, .inl (cy 0, 5, .inl (fun _ => 0))), (q 17, .inl (cy 0, 5, .inl (fun _ => 0)))]) (c1 := 0) (s1 := 0) [0, 1] [2, 3, 4, 5, 6] (hc_V [.int (-2)] [] [0, 1] Sx hl.1 ws_X_63 md_X11_refuse (c_refuse_2 l D cy q) ⟨Nat.le_of_ble_eq_true rfl, Nat.le_of_ble_eq_true rfl⟩ hP hD rfl (by decide) hK nx_b (nx_w hX) (va_recv hK hP (ci := 11) (q0 := 0) rfl rfl) rfl rfl (Nat.le_of_ble_eq_true rfl) dd_X11_lady_21 ⟨Nat.le_of_ble_eq_true rfl, Nat.le_of_ble_eq_true rfl⟩) hS hA hP hD rfl rfl (by decide) (by decide) rfl rfl (fun r15 u16 H locs hw17 hP hD hS => ?_)
    have hP : va_P D cls [(q 5, .inr (1, fHall (fun k => q (5 + k)))), (q 14, .inr (2, fLadies (fun k => q (14 + k)))), (q 15, .inl (cy 0, 5, .inl (fun _ => 0))), (q 16, .inl (cy 0, 5, .inl (fun _ => 0))), (q 17, .inl (cy 0, 5, .inl (fun _ => 0)))] H := hP
    have hD : va_D A [(q 5, .inr (1, fHall (fun k => q (5 + k)))), (q 14, .inr (2, fLadies (fun k => q (14 + k)))), (q 15, .inl (cy 0, 5, .inl (fun _ => 0))), (q 16, .inl (cy 0, 5, .inl (fun _ => 0))), (q 17, .inl (cy 0, 5, .inl (fun _ => 0)))] := hD
    subst hw17
    exact hc_ret Sx hr hlocks dd_X11_lady_24 hS () (Or.inr ⟨by omega, rfl⟩) p_nil d_nil
set_option maxHeartbeats 4000000 in
set_option maxRecDepth 100000 in
theorem c_X_wipe (l : Launch) (D : va_G) (cy : Nat → ClassId) (q : Nat → Nat) : HC l my_X11_wipe mb_X11_wipe 2 ((some .int)) (rmD 1 0 0) D (TY cy) [.ref (q 0)] NX [(q 0, .inr (11, fX q)), (q 3, .inr (9, fTape (fun k => q (3 + k))))] (QI (S := Unit) D (fun r _ => r = 0) (fun _ => [])) := by
  refine hc_intro (by decide) (Nat.le_of_ble_eq_true rfl) (fun p e s m below meth c A ls Sx hr hlocks hin hl hP hD hK hS hA hX => ?_)
  have hx := Sx.1
  have hb := Sx.2.1
  have hl : lv_has ls 2 [(0, .ref (q 0))] := hl
  have hP : va_P D cls [(q 0, .inr (11, fX q)), (q 3, .inr (9, fTape (fun k => q (3 + k))))] s.heap := hP
  have hD : va_D A [(q 0, .inr (11, fX q)), (q 3, .inr (9, fTape (fun k => q (3 + k))))] := hD
  refine lv_aload_n hx hb dd_X11_wipe_0 rfl (lv_at hl 0 rfl) ?_
  refine wk_get (v := .ref (q 3)) Sx ef_11 hK hP 0 rfl rfl 2 (by decide) kk_384 rfl dd_X11_wipe_1 ?_
  refine wk_get (v := .int 0) Sx ef_9 hK hP 1 rfl rfl 1 (by decide) kk_40 rfl dd_X11_wipe_4 ?_
  refine lv_istore_n (lv' := [(1, .int 0), (0, .ref (q 0))]) hx hb dd_X11_wipe_7 rfl hl (by decide) rfl (fun ls hl => ?_)
  refine lv_aload_n hx hb dd_X11_wipe_8 rfl (lv_at hl 1 rfl) ?_
  refine wk_get (v := .ref (q 3)) Sx ef_11 hK hP 0 rfl rfl 2 (by decide) kk_384 rfl dd_X11_wipe_9 ?_
  refine lv_iconst (v := 0) hx hb dd_X11_wipe_12 (by decide) ?_
  refine wk_put (ws' := [(q 0, .inr (11, fX q)), (q 3, .inr (9, fTape (fun k => q (3 + k))))]) Sx ef_9 hK hP hD hS 1 rfl rfl 1 (by decide) kk_40 rfl rfl rfl (Nat.le_of_ble_eq_true rfl) dd_X11_wipe_13 rfl (fun H locs hP hD hS => ?_)
  refine lv_iload_n hx hb dd_X11_wipe_16 rfl (lv_at hl 0 rfl) ?_
  exact hc_ret Sx hr hlocks dd_X11_wipe_17 hS () rfl p_nil d_nil
set_option maxHeartbeats 4000000 in
set_option maxRecDepth 100000 in
theorem c_X_buyer (l : Launch) (D : va_G) (cy : Nat → ClassId) (q : Nat → Nat) (ho : Int32) (pu : Int32) (wi : Int32) (ey : Int32) : HC l my_X11_buyer mb_X11_buyer 5 ((some .int)) (rmD 3 0 0) D (TY cy) [.ref (q 0), .int ho, .int pu, .int wi, .int ey] NX [(q 0, .inr (11, fX q)), (q 2, .inl (cy 0, 5, .inl (fun _ => 0))), (q 5, .inr (1, fHall (fun k => q (5 + k)))), (q 21, .inr (0, fBuyers (fun k => q (21 + k)))), (q 22, .inl (cy 0, 12, .inl (fun _ => 0))), (q 23, .inl (cy 0, 12, .inl (fun _ => 0))), (q 24, .inl (cy 0, 12, .inl (fun _ => 0))), (q 25, .inl (cy 0, 12, .inl (fun _ => 0))), (q 26, .inl (cy 0, 12, .inl (fun _ => 0)))] (QI (S := Unit) D (fun r _ => if2 (0 ≤ ho.toInt ∧ ho.toInt ≤ 11 ∧ 0 ≤ pu.toInt ∧ pu.toInt ≤ 9999 ∧ 0 ≤ wi.toInt ∧ wi.toInt ≤ 63 ∧ 0 ≤ ey.toInt ∧ ey.toInt ≤ 300) 0 (-2) r) (fun _ => [])) := by
  refine hc_intro (by decide) (Nat.le_of_ble_eq_true rfl) (fun p e s m below meth c A ls Sx hr hlocks hin hl hP hD hK hS hA hX => ?_)
  have hx := Sx.1
  have hb := Sx.2.1
  have hl : lv_has ls 5 [(0, .ref (q 0)), (1, .int ho), (2, .int pu), (3, .int wi), (4, .int ey)] := hl
  have hP : va_P D cls [(q 0, .inr (11, fX q)), (q 2, .inl (cy 0, 5, .inl (fun _ => 0))), (q 5, .inr (1, fHall (fun k => q (5 + k)))), (q 21, .inr (0, fBuyers (fun k => q (21 + k)))), (q 22, .inl (cy 0, 12, .inl (fun _ => 0))), (q 23, .inl (cy 0, 12, .inl (fun _ => 0))), (q 24, .inl (cy 0, 12, .inl (fun _ => 0))), (q 25, .inl (cy 0, 12, .inl (fun _ => 0))), (q 26, .inl (cy 0, 12, .inl (fun _ => 0)))] s.heap := hP
  have hD : va_D A [(q 0, .inr (11, fX q)), (q 2, .inl (cy 0, 5, .inl (fun _ => 0))), (q 5, .inr (1, fHall (fun k => q (5 + k)))), (q 21, .inr (0, fBuyers (fun k => q (21 + k)))), (q 22, .inl (cy 0, 12, .inl (fun _ => 0))), (q 23, .inl (cy 0, 12, .inl (fun _ => 0))), (q 24, .inl (cy 0, 12, .inl (fun _ => 0))), (q 25, .inl (cy 0, 12, .inl (fun _ => 0))), (q 26, .inl (cy 0, 12, .inl (fun _ => 0)))] := hD
  refine lv_iload_n hx hb dd_X11_buyer_0 rfl (lv_at hl 1 rfl) ?_
  refine pk_i (pc_T [.int ho] [] Sx hl.1 ws_X_216 md_X11_isHour (c_isHour l D cy ho) ⟨rfl, rfl⟩ ⟨Nat.le_of_ble_eq_true rfl, Nat.le_of_ble_eq_true rfl⟩ p_nil hK ns_b (ns_w hX) rfl rfl (Nat.le_of_ble_eq_true rfl) dd_X11_buyer_1 ⟨Nat.le_of_ble_eq_true rfl, Nat.le_of_ble_eq_true rfl⟩) (fun r1 hw2 => ?_)
  rcases hw2 with ⟨hw2, ehw2⟩ | ⟨hw2, ehw2⟩
  · subst ehw2
    refine lv_if_eq (tgt := 37) hx hb dd_X11_buyer_4 (by decide) (fun c => absurd c (by decide)) (fun _ => ?_)
    refine lv_iload_n hx hb dd_X11_buyer_7 rfl (lv_at hl 2 rfl) ?_
    refine lv_iconst (v := 0) hx hb dd_X11_buyer_8 (by decide) ?_
    refine lv_sipush (v := 9999) hx hb dd_X11_buyer_9 (by decide) ?_
    refine pk_i (pc_T [.int pu, .int 0, .int 9999] [] Sx hl.1 ws_X_59 md_X11_within (c_within l D cy pu 0 9999) ⟨rfl, rfl⟩ ⟨Nat.le_of_ble_eq_true rfl, Nat.le_of_ble_eq_true rfl⟩ p_nil hK ns_b (ns_w hX) rfl rfl (Nat.le_of_ble_eq_true rfl) dd_X11_buyer_12 ⟨Nat.le_of_ble_eq_true rfl, Nat.le_of_ble_eq_true rfl⟩) (fun r3 hw4 => ?_)
    rcases hw4 with ⟨hw4, ehw4⟩ | ⟨hw4, ehw4⟩
    · have hl5 : Int32.toInt 0 = 0 := rfl
      have hl6 : Int32.toInt 9999 = 9999 := rfl
      subst ehw4
      refine lv_if_eq (tgt := 37) hx hb dd_X11_buyer_15 (by decide) (fun c => absurd c (by decide)) (fun _ => ?_)
      refine lv_iload_n hx hb dd_X11_buyer_18 rfl (lv_at hl 3 rfl) ?_
      refine pk_i (pc_T [.int wi] [] Sx hl.1 ws_X_165 md_X11_isKinds (c_isKinds l D cy wi) ⟨rfl, rfl⟩ ⟨Nat.le_of_ble_eq_true rfl, Nat.le_of_ble_eq_true rfl⟩ p_nil hK ns_b (ns_w hX) rfl rfl (Nat.le_of_ble_eq_true rfl) dd_X11_buyer_19 ⟨Nat.le_of_ble_eq_true rfl, Nat.le_of_ble_eq_true rfl⟩) (fun r7 hw8 => ?_)
      rcases hw8 with ⟨hw8, ehw8⟩ | ⟨hw8, ehw8⟩
      · subst ehw8
        refine lv_if_eq (tgt := 37) hx hb dd_X11_buyer_22 (by decide) (fun c => absurd c (by decide)) (fun _ => ?_)
        refine lv_iload hx hb dd_X11_buyer_25 (lv_at hl 4 rfl) ?_
        refine lv_iconst (v := 0) hx hb dd_X11_buyer_27 (by decide) ?_
        refine lv_sipush (v := 300) hx hb dd_X11_buyer_28 (by decide) ?_
        refine pk_i (pc_T [.int ey, .int 0, .int 300] [] Sx hl.1 ws_X_59 md_X11_within (c_within l D cy ey 0 300) ⟨rfl, rfl⟩ ⟨Nat.le_of_ble_eq_true rfl, Nat.le_of_ble_eq_true rfl⟩ p_nil hK ns_b (ns_w hX) rfl rfl (Nat.le_of_ble_eq_true rfl) dd_X11_buyer_31 ⟨Nat.le_of_ble_eq_true rfl, Nat.le_of_ble_eq_true rfl⟩) (fun r9 hw10 => ?_)
        rcases hw10 with ⟨hw10, ehw10⟩ | ⟨hw10, ehw10⟩
        · have hl11 : Int32.toInt 0 = 0 := rfl
          have hl12 : Int32.toInt 300 = 300 := rfl
          subst ehw10
          refine lv_if_ne (tgt := 44) hx hb dd_X11_buyer_34 (by decide) (fun _ => ?_) (fun c => absurd c (by decide))
          refine lv_aload_n hx hb dd_X11_buyer_44 rfl (lv_at hl 0 rfl) ?_
          refine wk_get (v := .ref (q 5)) Sx ef_11 hK hP 0 rfl rfl 3 (by decide) kk_385 rfl dd_X11_buyer_45 ?_
          refine wk_get (v := .ref (q 21)) Sx ef_1 hK hP 2 rfl rfl 3 (by decide) kk_267 rfl dd_X11_buyer_48 ?_
          refine wk_get (v := .int 0) Sx ef_0 hK hP 3 rfl rfl 5 (by decide) kk_176 rfl dd_X11_buyer_51 ?_
          refine lv_bipush (v := 12) hx hb dd_X11_buyer_54 (by decide) ?_
          refine lv_icmp_lt (tgt := 66) hx hb dd_X11_buyer_56 (by decide) (fun _ => ?_) (fun c => absurd c (by decide))
          refine lv_aload_n hx hb dd_X11_buyer_66 rfl (lv_at hl 0 rfl) ?_
          refine wk_get (v := .ref (q 5)) Sx ef_11 hK hP 0 rfl rfl 3 (by decide) kk_385 rfl dd_X11_buyer_67 ?_
          refine wk_get (v := .ref (q 21)) Sx ef_1 hK hP 2 rfl rfl 3 (by decide) kk_267 rfl dd_X11_buyer_70 ?_
          refine lv_iload_n hx hb dd_X11_buyer_73 rfl (lv_at hl 1 rfl) ?_
          refine lv_iload_n hx hb dd_X11_buyer_74 rfl (lv_at hl 2 rfl) ?_
          refine lv_iload_n hx hb dd_X11_buyer_75 rfl (lv_at hl 3 rfl) ?_
          refine lv_iload hx hb dd_X11_buyer_76 (lv_at hl 4 rfl) ?_
          refine hk_i (wr := [(q 0, .inr (11, fX q)), (q 2, .inl (cy 0, 5, .inl (fun _ => 0))), (q 5, .inr (1, fHall (fun k => q (5 + k))))]) (c1 := 0) (s1 := 0) [3, 4, 5, 6, 7, 8] [0, 1, 2] (hc_V [.int ho, .int pu, .int wi, .int ey] [] [3, 4, 5, 6, 7, 8] Sx hl.1 ws_X_226 md_X0_add (c_Buyers_add l D cy (fun k => q (21 + k)) ho pu wi ey) ⟨Nat.le_of_ble_eq_true rfl, Nat.le_of_ble_eq_true rfl⟩ hP hD rfl (by decide) hK nx_b (nx_w hX) (va_recv hK hP (ci := 0) (q0 := 3) rfl rfl) rfl rfl (Nat.le_of_ble_eq_true rfl) dd_X11_buyer_78 ⟨Nat.le_of_ble_eq_true rfl, Nat.le_of_ble_eq_true rfl⟩) hS hA hP hD rfl rfl (by decide) (by decide) rfl rfl (fun r13 u14 H locs hw15 hP hD hS => ?_)
          have hP : va_P D cls [(q 0, .inr (11, fX q)), (q 2, .inl (cy 0, 5, .inl (fun _ => 0))), (q 5, .inr (1, fHall (fun k => q (5 + k))))] H := hP
          have hD : va_D A [(q 0, .inr (11, fX q)), (q 2, .inl (cy 0, 5, .inl (fun _ => 0))), (q 5, .inr (1, fHall (fun k => q (5 + k))))] := hD
          subst hw15
          exact hc_ret Sx hr hlocks dd_X11_buyer_81 hS () (Or.inl ⟨by omega, rfl⟩) p_nil d_nil
        · have hl16 : Int32.toInt 0 = 0 := rfl
          have hl17 : Int32.toInt 300 = 300 := rfl
          subst ehw10
          refine lv_if_ne (tgt := 44) hx hb dd_X11_buyer_34 (by decide) (fun c => absurd c (by decide)) (fun _ => ?_)
          refine lv_aload_n hx hb dd_X11_buyer_37 rfl (lv_at hl 0 rfl) ?_
          refine lv_bipush (v := (-2)) hx hb dd_X11_buyer_38 (by decide) ?_
          refine hk_i (wr := [(q 5, .inr (1, fHall (fun k => q (5 + k)))), (q 21, .inr (0, fBuyers (fun k => q (21 + k)))), (q 22, .inl (cy 0, 12, .inl (fun _ => 0))), (q 23, .inl (cy 0, 12, .inl (fun _ => 0))), (q 24, .inl (cy 0, 12, .inl (fun _ => 0))), (q 25, .inl (cy 0, 12, .inl (fun _ => 0))), (q 26, .inl (cy 0, 12, .inl (fun _ => 0)))]) (c1 := 0) (s1 := 0) [0, 1] [2, 3, 4, 5, 6, 7, 8] (hc_V [.int (-2)] [] [0, 1] Sx hl.1 ws_X_63 md_X11_refuse (c_refuse_2 l D cy q) ⟨Nat.le_of_ble_eq_true rfl, Nat.le_of_ble_eq_true rfl⟩ hP hD rfl (by decide) hK nx_b (nx_w hX) (va_recv hK hP (ci := 11) (q0 := 0) rfl rfl) rfl rfl (Nat.le_of_ble_eq_true rfl) dd_X11_buyer_40 ⟨Nat.le_of_ble_eq_true rfl, Nat.le_of_ble_eq_true rfl⟩) hS hA hP hD rfl rfl (by decide) (by decide) rfl rfl (fun r18 u19 H locs hw20 hP hD hS => ?_)
          have hP : va_P D cls [(q 5, .inr (1, fHall (fun k => q (5 + k)))), (q 21, .inr (0, fBuyers (fun k => q (21 + k)))), (q 22, .inl (cy 0, 12, .inl (fun _ => 0))), (q 23, .inl (cy 0, 12, .inl (fun _ => 0))), (q 24, .inl (cy 0, 12, .inl (fun _ => 0))), (q 25, .inl (cy 0, 12, .inl (fun _ => 0))), (q 26, .inl (cy 0, 12, .inl (fun _ => 0)))] H := hP
          have hD : va_D A [(q 5, .inr (1, fHall (fun k => q (5 + k)))), (q 21, .inr (0, fBuyers (fun k => q (21 + k)))), (q 22, .inl (cy 0, 12, .inl (fun _ => 0))), (q 23, .inl (cy 0, 12, .inl (fun _ => 0))), (q 24, .inl (cy 0, 12, .inl (fun _ => 0))), (q 25, .inl (cy 0, 12, .inl (fun _ => 0))), (q 26, .inl (cy 0, 12, .inl (fun _ => 0)))] := hD
          subst hw20
          exact hc_ret Sx hr hlocks dd_X11_buyer_43 hS () (Or.inr ⟨by omega, rfl⟩) p_nil d_nil
      · subst ehw8
        refine lv_if_eq (tgt := 37) hx hb dd_X11_buyer_22 (by decide) (fun _ => ?_) (fun c => absurd c (by decide))
        refine lv_aload_n hx hb dd_X11_buyer_37 rfl (lv_at hl 0 rfl) ?_
        refine lv_bipush (v := (-2)) hx hb dd_X11_buyer_38 (by decide) ?_
        refine hk_i (wr := [(q 5, .inr (1, fHall (fun k => q (5 + k)))), (q 21, .inr (0, fBuyers (fun k => q (21 + k)))), (q 22, .inl (cy 0, 12, .inl (fun _ => 0))), (q 23, .inl (cy 0, 12, .inl (fun _ => 0))), (q 24, .inl (cy 0, 12, .inl (fun _ => 0))), (q 25, .inl (cy 0, 12, .inl (fun _ => 0))), (q 26, .inl (cy 0, 12, .inl (fun _ => 0)))]) (c1 := 0) (s1 := 0) [0, 1] [2, 3, 4, 5, 6, 7, 8] (hc_V [.int (-2)] [] [0, 1] Sx hl.1 ws_X_63 md_X11_refuse (c_refuse_2 l D cy q) ⟨Nat.le_of_ble_eq_true rfl, Nat.le_of_ble_eq_true rfl⟩ hP hD rfl (by decide) hK nx_b (nx_w hX) (va_recv hK hP (ci := 11) (q0 := 0) rfl rfl) rfl rfl (Nat.le_of_ble_eq_true rfl) dd_X11_buyer_40 ⟨Nat.le_of_ble_eq_true rfl, Nat.le_of_ble_eq_true rfl⟩) hS hA hP hD rfl rfl (by decide) (by decide) rfl rfl (fun r21 u22 H locs hw23 hP hD hS => ?_)
        have hP : va_P D cls [(q 5, .inr (1, fHall (fun k => q (5 + k)))), (q 21, .inr (0, fBuyers (fun k => q (21 + k)))), (q 22, .inl (cy 0, 12, .inl (fun _ => 0))), (q 23, .inl (cy 0, 12, .inl (fun _ => 0))), (q 24, .inl (cy 0, 12, .inl (fun _ => 0))), (q 25, .inl (cy 0, 12, .inl (fun _ => 0))), (q 26, .inl (cy 0, 12, .inl (fun _ => 0)))] H := hP
        have hD : va_D A [(q 5, .inr (1, fHall (fun k => q (5 + k)))), (q 21, .inr (0, fBuyers (fun k => q (21 + k)))), (q 22, .inl (cy 0, 12, .inl (fun _ => 0))), (q 23, .inl (cy 0, 12, .inl (fun _ => 0))), (q 24, .inl (cy 0, 12, .inl (fun _ => 0))), (q 25, .inl (cy 0, 12, .inl (fun _ => 0))), (q 26, .inl (cy 0, 12, .inl (fun _ => 0)))] := hD
        subst hw23
        exact hc_ret Sx hr hlocks dd_X11_buyer_43 hS () (Or.inr ⟨by omega, rfl⟩) p_nil d_nil
    · have hl24 : Int32.toInt 0 = 0 := rfl
      have hl25 : Int32.toInt 9999 = 9999 := rfl
      subst ehw4
      refine lv_if_eq (tgt := 37) hx hb dd_X11_buyer_15 (by decide) (fun _ => ?_) (fun c => absurd c (by decide))
      refine lv_aload_n hx hb dd_X11_buyer_37 rfl (lv_at hl 0 rfl) ?_
      refine lv_bipush (v := (-2)) hx hb dd_X11_buyer_38 (by decide) ?_
      refine hk_i (wr := [(q 5, .inr (1, fHall (fun k => q (5 + k)))), (q 21, .inr (0, fBuyers (fun k => q (21 + k)))), (q 22, .inl (cy 0, 12, .inl (fun _ => 0))), (q 23, .inl (cy 0, 12, .inl (fun _ => 0))), (q 24, .inl (cy 0, 12, .inl (fun _ => 0))), (q 25, .inl (cy 0, 12, .inl (fun _ => 0))), (q 26, .inl (cy 0, 12, .inl (fun _ => 0)))]) (c1 := 0) (s1 := 0) [0, 1] [2, 3, 4, 5, 6, 7, 8] (hc_V [.int (-2)] [] [0, 1] Sx hl.1 ws_X_63 md_X11_refuse (c_refuse_2 l D cy q) ⟨Nat.le_of_ble_eq_true rfl, Nat.le_of_ble_eq_true rfl⟩ hP hD rfl (by decide) hK nx_b (nx_w hX) (va_recv hK hP (ci := 11) (q0 := 0) rfl rfl) rfl rfl (Nat.le_of_ble_eq_true rfl) dd_X11_buyer_40 ⟨Nat.le_of_ble_eq_true rfl, Nat.le_of_ble_eq_true rfl⟩) hS hA hP hD rfl rfl (by decide) (by decide) rfl rfl (fun r26 u27 H locs hw28 hP hD hS => ?_)
      have hP : va_P D cls [(q 5, .inr (1, fHall (fun k => q (5 + k)))), (q 21, .inr (0, fBuyers (fun k => q (21 + k)))), (q 22, .inl (cy 0, 12, .inl (fun _ => 0))), (q 23, .inl (cy 0, 12, .inl (fun _ => 0))), (q 24, .inl (cy 0, 12, .inl (fun _ => 0))), (q 25, .inl (cy 0, 12, .inl (fun _ => 0))), (q 26, .inl (cy 0, 12, .inl (fun _ => 0)))] H := hP
      have hD : va_D A [(q 5, .inr (1, fHall (fun k => q (5 + k)))), (q 21, .inr (0, fBuyers (fun k => q (21 + k)))), (q 22, .inl (cy 0, 12, .inl (fun _ => 0))), (q 23, .inl (cy 0, 12, .inl (fun _ => 0))), (q 24, .inl (cy 0, 12, .inl (fun _ => 0))), (q 25, .inl (cy 0, 12, .inl (fun _ => 0))), (q 26, .inl (cy 0, 12, .inl (fun _ => 0)))] := hD
      subst hw28
      exact hc_ret Sx hr hlocks dd_X11_buyer_43 hS () (Or.inr ⟨by omega, rfl⟩) p_nil d_nil
  · subst ehw2
    refine lv_if_eq (tgt := 37) hx hb dd_X11_buyer_4 (by decide) (fun _ => ?_) (fun c => absurd c (by decide))
    refine lv_aload_n hx hb dd_X11_buyer_37 rfl (lv_at hl 0 rfl) ?_
    refine lv_bipush (v := (-2)) hx hb dd_X11_buyer_38 (by decide) ?_
    refine hk_i (wr := [(q 5, .inr (1, fHall (fun k => q (5 + k)))), (q 21, .inr (0, fBuyers (fun k => q (21 + k)))), (q 22, .inl (cy 0, 12, .inl (fun _ => 0))), (q 23, .inl (cy 0, 12, .inl (fun _ => 0))), (q 24, .inl (cy 0, 12, .inl (fun _ => 0))), (q 25, .inl (cy 0, 12, .inl (fun _ => 0))), (q 26, .inl (cy 0, 12, .inl (fun _ => 0)))]) (c1 := 0) (s1 := 0) [0, 1] [2, 3, 4, 5, 6, 7, 8] (hc_V [.int (-2)] [] [0, 1] Sx hl.1 ws_X_63 md_X11_refuse (c_refuse_2 l D cy q) ⟨Nat.le_of_ble_eq_true rfl, Nat.le_of_ble_eq_true rfl⟩ hP hD rfl (by decide) hK nx_b (nx_w hX) (va_recv hK hP (ci := 11) (q0 := 0) rfl rfl) rfl rfl (Nat.le_of_ble_eq_true rfl) dd_X11_buyer_40 ⟨Nat.le_of_ble_eq_true rfl, Nat.le_of_ble_eq_true rfl⟩) hS hA hP hD rfl rfl (by decide) (by decide) rfl rfl (fun r29 u30 H locs hw31 hP hD hS => ?_)
    have hP : va_P D cls [(q 5, .inr (1, fHall (fun k => q (5 + k)))), (q 21, .inr (0, fBuyers (fun k => q (21 + k)))), (q 22, .inl (cy 0, 12, .inl (fun _ => 0))), (q 23, .inl (cy 0, 12, .inl (fun _ => 0))), (q 24, .inl (cy 0, 12, .inl (fun _ => 0))), (q 25, .inl (cy 0, 12, .inl (fun _ => 0))), (q 26, .inl (cy 0, 12, .inl (fun _ => 0)))] H := hP
    have hD : va_D A [(q 5, .inr (1, fHall (fun k => q (5 + k)))), (q 21, .inr (0, fBuyers (fun k => q (21 + k)))), (q 22, .inl (cy 0, 12, .inl (fun _ => 0))), (q 23, .inl (cy 0, 12, .inl (fun _ => 0))), (q 24, .inl (cy 0, 12, .inl (fun _ => 0))), (q 25, .inl (cy 0, 12, .inl (fun _ => 0))), (q 26, .inl (cy 0, 12, .inl (fun _ => 0)))] := hD
    subst hw31
    exact hc_ret Sx hr hlocks dd_X11_buyer_43 hS () (Or.inr ⟨by omega, rfl⟩) p_nil d_nil
set_option maxHeartbeats 4000000 in
set_option maxRecDepth 100000 in
theorem c_X_turn (l : Launch) (D : va_G) (cy : Nat → ClassId) (q : Nat → Nat) (wh : Int32) (ho : Int32) : HC l my_X11_turn mb_X11_turn 4 ((some .int)) (rmD 3 0 0) D (TY cy) [.ref (q 0), .int wh, .int ho] NX [(q 0, .inr (11, fX q)), (q 2, .inl (cy 0, 5, .inl (fun _ => 0))), (q 5, .inr (1, fHall (fun k => q (5 + k))))] (QI (S := Unit) D (fun r _ => if2 (0 ≤ wh.toInt ∧ wh.toInt ≤ 1 ∧ 0 ≤ ho.toInt ∧ ho.toInt ≤ 12) 12 (-2) r) (fun _ => [])) := by
  refine hc_intro (by decide) (Nat.le_of_ble_eq_true rfl) (fun p e s m below meth c A ls Sx hr hlocks hin hl hP hD hK hS hA hX => ?_)
  have hx := Sx.1
  have hb := Sx.2.1
  have hl : lv_has ls 4 [(0, .ref (q 0)), (1, .int wh), (2, .int ho)] := hl
  have hP : va_P D cls [(q 0, .inr (11, fX q)), (q 2, .inl (cy 0, 5, .inl (fun _ => 0))), (q 5, .inr (1, fHall (fun k => q (5 + k))))] s.heap := hP
  have hD : va_D A [(q 0, .inr (11, fX q)), (q 2, .inl (cy 0, 5, .inl (fun _ => 0))), (q 5, .inr (1, fHall (fun k => q (5 + k))))] := hD
  refine lv_iload_n hx hb dd_X11_turn_0 rfl (lv_at hl 1 rfl) ?_
  refine lv_iconst (v := 0) hx hb dd_X11_turn_1 (by decide) ?_
  refine lv_iconst (v := 1) hx hb dd_X11_turn_2 (by decide) ?_
  refine pk_i (pc_T [.int wh, .int 0, .int 1] [] Sx hl.1 ws_X_59 md_X11_within (c_within l D cy wh 0 1) ⟨rfl, rfl⟩ ⟨Nat.le_of_ble_eq_true rfl, Nat.le_of_ble_eq_true rfl⟩ p_nil hK ns_b (ns_w hX) rfl rfl (Nat.le_of_ble_eq_true rfl) dd_X11_turn_3 ⟨Nat.le_of_ble_eq_true rfl, Nat.le_of_ble_eq_true rfl⟩) (fun r1 hw2 => ?_)
  rcases hw2 with ⟨hw2, ehw2⟩ | ⟨hw2, ehw2⟩
  · have hl3 : Int32.toInt 0 = 0 := rfl
    have hl4 : Int32.toInt 1 = 1 := rfl
    subst ehw2
    refine lv_if_eq (tgt := 19) hx hb dd_X11_turn_6 (by decide) (fun c => absurd c (by decide)) (fun _ => ?_)
    refine lv_iload_n hx hb dd_X11_turn_9 rfl (lv_at hl 2 rfl) ?_
    refine lv_iconst (v := 0) hx hb dd_X11_turn_10 (by decide) ?_
    refine lv_bipush (v := 12) hx hb dd_X11_turn_11 (by decide) ?_
    refine pk_i (pc_T [.int ho, .int 0, .int 12] [] Sx hl.1 ws_X_59 md_X11_within (c_within l D cy ho 0 12) ⟨rfl, rfl⟩ ⟨Nat.le_of_ble_eq_true rfl, Nat.le_of_ble_eq_true rfl⟩ p_nil hK ns_b (ns_w hX) rfl rfl (Nat.le_of_ble_eq_true rfl) dd_X11_turn_13 ⟨Nat.le_of_ble_eq_true rfl, Nat.le_of_ble_eq_true rfl⟩) (fun r5 hw6 => ?_)
    rcases hw6 with ⟨hw6, ehw6⟩ | ⟨hw6, ehw6⟩
    · have hl7 : Int32.toInt 0 = 0 := rfl
      have hl8 : Int32.toInt 12 = 12 := rfl
      subst ehw6
      refine lv_if_ne (tgt := 26) hx hb dd_X11_turn_16 (by decide) (fun _ => ?_) (fun c => absurd c (by decide))
      refine lv_iload_n hx hb dd_X11_turn_26 rfl (lv_at hl 1 rfl) ?_
      refine lv_if_ne (tgt := 40) hx hb dd_X11_turn_27 (by decide) (fun c9 => ?_) (fun c9 => ?_)
      · have fc9 := ci_ne (a := wh.toInt) (b := 0) rfl rfl c9
        refine lv_aload_n hx hb dd_X11_turn_40 rfl (lv_at hl 0 rfl) ?_
        refine wk_get (v := .ref (q 5)) Sx ef_11 hK hP 0 rfl rfl 3 (by decide) kk_385 rfl dd_X11_turn_41 ?_
        refine wk_get (v := .int 12) Sx ef_1 hK hP 2 rfl rfl 9 (by decide) kk_279 rfl dd_X11_turn_44 ?_
        refine lv_istore_n (lv' := [(3, .int 12), (0, .ref (q 0)), (1, .int wh), (2, .int ho)]) hx hb dd_X11_turn_47 rfl hl (by decide) rfl (fun ls hl => ?_)
        refine lv_iload_n hx hb dd_X11_turn_48 rfl (lv_at hl 2 rfl) ?_
        refine lv_if_ne (tgt := 63) hx hb dd_X11_turn_49 (by decide) (fun c10 => ?_) (fun c10 => ?_)
        · have fc10 := ci_ne (a := wh.toInt) (b := 0) rfl rfl c10
          refine lv_aload_n hx hb dd_X11_turn_63 rfl (lv_at hl 1 rfl) ?_
          refine wk_get (v := .ref (q 5)) Sx ef_11 hK hP 0 rfl rfl 3 (by decide) kk_385 rfl dd_X11_turn_64 ?_
          refine lv_iload_n hx hb dd_X11_turn_67 rfl (lv_at hl 3 rfl) ?_
          refine wk_put (ws' := [(q 0, .inr (11, fX q)), (q 2, .inl (cy 0, 5, .inl (fun _ => 0))), (q 5, .inr (1, (fHall (fun k => q (5 + k))).set 9 (.int ho)))]) Sx ef_1 hK hP hD hS 2 rfl rfl 9 (by decide) kk_279 rfl rfl rfl (Nat.le_of_ble_eq_true rfl) dd_X11_turn_68 rfl (fun H locs hP hD hS => ?_)
          refine lv_iload_n hx hb dd_X11_turn_71 rfl (lv_at hl 0 rfl) ?_
          exact hc_ret Sx hr hlocks dd_X11_turn_72 hS () (Or.inl ⟨by omega, rfl⟩) p_nil d_nil
        · have fc10 := ci_eq (a := wh.toInt) (b := 0) rfl rfl c10
          exfalso; omega
      · have fc9 := ci_eq (a := wh.toInt) (b := 0) rfl rfl c9
        refine lv_aload_n hx hb dd_X11_turn_30 rfl (lv_at hl 0 rfl) ?_
        refine wk_get (v := .ref (q 5)) Sx ef_11 hK hP 0 rfl rfl 3 (by decide) kk_385 rfl dd_X11_turn_31 ?_
        refine wk_get (v := .int 12) Sx ef_1 hK hP 2 rfl rfl 8 (by decide) kk_277 rfl dd_X11_turn_34 ?_
        refine lv_goto (tgt := 47) hx hb dd_X11_turn_37 (by decide) ?_
        refine lv_istore_n (lv' := [(3, .int 12), (0, .ref (q 0)), (1, .int wh), (2, .int ho)]) hx hb dd_X11_turn_47 rfl hl (by decide) rfl (fun ls hl => ?_)
        refine lv_iload_n hx hb dd_X11_turn_48 rfl (lv_at hl 2 rfl) ?_
        refine lv_if_ne (tgt := 63) hx hb dd_X11_turn_49 (by decide) (fun c11 => ?_) (fun c11 => ?_)
        · have fc11 := ci_ne (a := wh.toInt) (b := 0) rfl rfl c11
          exfalso; omega
        · have fc11 := ci_eq (a := wh.toInt) (b := 0) rfl rfl c11
          refine lv_aload_n hx hb dd_X11_turn_52 rfl (lv_at hl 1 rfl) ?_
          refine wk_get (v := .ref (q 5)) Sx ef_11 hK hP 0 rfl rfl 3 (by decide) kk_385 rfl dd_X11_turn_53 ?_
          refine lv_iload_n hx hb dd_X11_turn_56 rfl (lv_at hl 3 rfl) ?_
          refine wk_put (ws' := [(q 0, .inr (11, fX q)), (q 2, .inl (cy 0, 5, .inl (fun _ => 0))), (q 5, .inr (1, (fHall (fun k => q (5 + k))).set 8 (.int ho)))]) Sx ef_1 hK hP hD hS 2 rfl rfl 8 (by decide) kk_277 rfl rfl rfl (Nat.le_of_ble_eq_true rfl) dd_X11_turn_57 rfl (fun H locs hP hD hS => ?_)
          refine lv_goto (tgt := 71) hx hb dd_X11_turn_60 (by decide) ?_
          refine lv_iload_n hx hb dd_X11_turn_71 rfl (lv_at hl 0 rfl) ?_
          exact hc_ret Sx hr hlocks dd_X11_turn_72 hS () (Or.inl ⟨by omega, rfl⟩) p_nil d_nil
    · have hl12 : Int32.toInt 0 = 0 := rfl
      have hl13 : Int32.toInt 12 = 12 := rfl
      subst ehw6
      refine lv_if_ne (tgt := 26) hx hb dd_X11_turn_16 (by decide) (fun c => absurd c (by decide)) (fun _ => ?_)
      refine lv_aload_n hx hb dd_X11_turn_19 rfl (lv_at hl 0 rfl) ?_
      refine lv_bipush (v := (-2)) hx hb dd_X11_turn_20 (by decide) ?_
      refine hk_i (wr := [(q 5, .inr (1, fHall (fun k => q (5 + k))))]) (c1 := 0) (s1 := 0) [0, 1] [2] (hc_V [.int (-2)] [] [0, 1] Sx hl.1 ws_X_63 md_X11_refuse (c_refuse_2 l D cy q) ⟨Nat.le_of_ble_eq_true rfl, Nat.le_of_ble_eq_true rfl⟩ hP hD rfl (by decide) hK nx_b (nx_w hX) (va_recv hK hP (ci := 11) (q0 := 0) rfl rfl) rfl rfl (Nat.le_of_ble_eq_true rfl) dd_X11_turn_22 ⟨Nat.le_of_ble_eq_true rfl, Nat.le_of_ble_eq_true rfl⟩) hS hA hP hD rfl rfl (by decide) (by decide) rfl rfl (fun r14 u15 H locs hw16 hP hD hS => ?_)
      have hP : va_P D cls [(q 5, .inr (1, fHall (fun k => q (5 + k))))] H := hP
      have hD : va_D A [(q 5, .inr (1, fHall (fun k => q (5 + k))))] := hD
      subst hw16
      exact hc_ret Sx hr hlocks dd_X11_turn_25 hS () (Or.inr ⟨by omega, rfl⟩) p_nil d_nil
  · have hl17 : Int32.toInt 0 = 0 := rfl
    have hl18 : Int32.toInt 1 = 1 := rfl
    subst ehw2
    refine lv_if_eq (tgt := 19) hx hb dd_X11_turn_6 (by decide) (fun _ => ?_) (fun c => absurd c (by decide))
    refine lv_aload_n hx hb dd_X11_turn_19 rfl (lv_at hl 0 rfl) ?_
    refine lv_bipush (v := (-2)) hx hb dd_X11_turn_20 (by decide) ?_
    refine hk_i (wr := [(q 5, .inr (1, fHall (fun k => q (5 + k))))]) (c1 := 0) (s1 := 0) [0, 1] [2] (hc_V [.int (-2)] [] [0, 1] Sx hl.1 ws_X_63 md_X11_refuse (c_refuse_2 l D cy q) ⟨Nat.le_of_ble_eq_true rfl, Nat.le_of_ble_eq_true rfl⟩ hP hD rfl (by decide) hK nx_b (nx_w hX) (va_recv hK hP (ci := 11) (q0 := 0) rfl rfl) rfl rfl (Nat.le_of_ble_eq_true rfl) dd_X11_turn_22 ⟨Nat.le_of_ble_eq_true rfl, Nat.le_of_ble_eq_true rfl⟩) hS hA hP hD rfl rfl (by decide) (by decide) rfl rfl (fun r19 u20 H locs hw21 hP hD hS => ?_)
    have hP : va_P D cls [(q 5, .inr (1, fHall (fun k => q (5 + k))))] H := hP
    have hD : va_D A [(q 5, .inr (1, fHall (fun k => q (5 + k))))] := hD
    subst hw21
    exact hc_ret Sx hr hlocks dd_X11_turn_25 hS () (Or.inr ⟨by omega, rfl⟩) p_nil d_nil
set_option maxHeartbeats 4000000 in
set_option maxRecDepth 100000 in
theorem c_X_takings (l : Launch) (D : va_G) (cy : Nat → ClassId) (q : Nat → Nat) (ha : Int32) (ba : Int32) : HC l my_X11_takings mb_X11_takings 3 ((some .int)) (rmD 4 0 0) D (TY cy) [.ref (q 0), .int ha, .int ba] NX [(q 0, .inr (11, fX q)), (q 2, .inl (cy 0, 5, .inl (fun _ => 0))), (q 5, .inr (1, fHall (fun k => q (5 + k)))), (q 6, .inr (10, fThings (fun k => q (6 + k)))), (q 21, .inr (0, fBuyers (fun k => q (21 + k)))), (q 87, .inr (5, fSale (fun k => q (87 + k))))] (QI (S := Unit) D (fun r _ => if2 (0 ≤ ha.toInt ∧ ha.toInt ≤ 12 ∧ 0 ≤ ba.toInt ∧ ba.toInt ≤ 12) 0 (-2) r) (fun _ => [])) := by
  refine hc_intro (by decide) (Nat.le_of_ble_eq_true rfl) (fun p e s m below meth c A ls Sx hr hlocks hin hl hP hD hK hS hA hX => ?_)
  have hx := Sx.1
  have hb := Sx.2.1
  have hl : lv_has ls 3 [(0, .ref (q 0)), (1, .int ha), (2, .int ba)] := hl
  have hP : va_P D cls [(q 0, .inr (11, fX q)), (q 2, .inl (cy 0, 5, .inl (fun _ => 0))), (q 5, .inr (1, fHall (fun k => q (5 + k)))), (q 6, .inr (10, fThings (fun k => q (6 + k)))), (q 21, .inr (0, fBuyers (fun k => q (21 + k)))), (q 87, .inr (5, fSale (fun k => q (87 + k))))] s.heap := hP
  have hD : va_D A [(q 0, .inr (11, fX q)), (q 2, .inl (cy 0, 5, .inl (fun _ => 0))), (q 5, .inr (1, fHall (fun k => q (5 + k)))), (q 6, .inr (10, fThings (fun k => q (6 + k)))), (q 21, .inr (0, fBuyers (fun k => q (21 + k)))), (q 87, .inr (5, fSale (fun k => q (87 + k))))] := hD
  refine lv_iload_n hx hb dd_X11_takings_0 rfl (lv_at hl 1 rfl) ?_
  refine lv_iconst (v := 0) hx hb dd_X11_takings_1 (by decide) ?_
  refine lv_bipush (v := 12) hx hb dd_X11_takings_2 (by decide) ?_
  refine pk_i (pc_T [.int ha, .int 0, .int 12] [] Sx hl.1 ws_X_59 md_X11_within (c_within l D cy ha 0 12) ⟨rfl, rfl⟩ ⟨Nat.le_of_ble_eq_true rfl, Nat.le_of_ble_eq_true rfl⟩ p_nil hK ns_b (ns_w hX) rfl rfl (Nat.le_of_ble_eq_true rfl) dd_X11_takings_4 ⟨Nat.le_of_ble_eq_true rfl, Nat.le_of_ble_eq_true rfl⟩) (fun r1 hw2 => ?_)
  rcases hw2 with ⟨hw2, ehw2⟩ | ⟨hw2, ehw2⟩
  · have hl3 : Int32.toInt 0 = 0 := rfl
    have hl4 : Int32.toInt 12 = 12 := rfl
    subst ehw2
    refine lv_if_eq (tgt := 20) hx hb dd_X11_takings_7 (by decide) (fun c => absurd c (by decide)) (fun _ => ?_)
    refine lv_iload_n hx hb dd_X11_takings_10 rfl (lv_at hl 2 rfl) ?_
    refine lv_iconst (v := 0) hx hb dd_X11_takings_11 (by decide) ?_
    refine lv_bipush (v := 12) hx hb dd_X11_takings_12 (by decide) ?_
    refine pk_i (pc_T [.int ba, .int 0, .int 12] [] Sx hl.1 ws_X_59 md_X11_within (c_within l D cy ba 0 12) ⟨rfl, rfl⟩ ⟨Nat.le_of_ble_eq_true rfl, Nat.le_of_ble_eq_true rfl⟩ p_nil hK ns_b (ns_w hX) rfl rfl (Nat.le_of_ble_eq_true rfl) dd_X11_takings_14 ⟨Nat.le_of_ble_eq_true rfl, Nat.le_of_ble_eq_true rfl⟩) (fun r5 hw6 => ?_)
    rcases hw6 with ⟨hw6, ehw6⟩ | ⟨hw6, ehw6⟩
    · have hl7 : Int32.toInt 0 = 0 := rfl
      have hl8 : Int32.toInt 12 = 12 := rfl
      subst ehw6
      refine lv_if_ne (tgt := 27) hx hb dd_X11_takings_17 (by decide) (fun _ => ?_) (fun c => absurd c (by decide))
      refine lv_aload_n hx hb dd_X11_takings_27 rfl (lv_at hl 0 rfl) ?_
      refine wk_get (v := .ref (q 87)) Sx ef_11 hK hP 0 rfl rfl 5 (by decide) kk_387 rfl dd_X11_takings_28 ?_
      refine lv_aload_n hx hb dd_X11_takings_31 rfl (lv_at hl 0 rfl) ?_
      refine wk_get (v := .ref (q 5)) Sx ef_11 hK hP 0 rfl rfl 3 (by decide) kk_385 rfl dd_X11_takings_32 ?_
      refine lv_iload_n hx hb dd_X11_takings_35 rfl (lv_at hl 1 rfl) ?_
      refine lv_iload_n hx hb dd_X11_takings_36 rfl (lv_at hl 2 rfl) ?_
      refine hk_i (wr := [(q 0, .inr (11, fX q)), (q 2, .inl (cy 0, 5, .inl (fun _ => 0)))]) (c1 := 0) (s1 := 0) [5, 2, 3, 4] [0, 1] (hc_V [.ref (q 5), .int ha, .int ba] [] [5, 2, 3, 4] Sx hl.1 ws_X_265 md_X5_wholeDay (c_wholeDay l D cy (fun k => q (87 + k)) (fun k => q (5 + k)) ha ba 12 12) ⟨Nat.le_of_ble_eq_true rfl, Nat.le_of_ble_eq_true rfl⟩ hP hD rfl (by decide) hK nx_b (nx_w hX) (va_recv hK hP (ci := 5) (q0 := 5) rfl rfl) rfl rfl (Nat.le_of_ble_eq_true rfl) dd_X11_takings_37 ⟨Nat.le_of_ble_eq_true rfl, Nat.le_of_ble_eq_true rfl⟩) hS hA hP hD rfl rfl (by decide) (by decide) rfl rfl (fun r9 u10 H locs hw11 hP hD hS => ?_)
      have hP : va_P D cls [(q 0, .inr (11, fX q)), (q 2, .inl (cy 0, 5, .inl (fun _ => 0))), (q 87, .inr (5, ((fSale (fun k => q (87 + k))).set 0 (.int ha)).set 1 (.int ba))), (q 5, .inr (1, fHall (fun k => q (5 + k)))), (q 6, .inr (10, fThings (fun k => (fun k => q (5 + k)) (1 + k)))), (q 21, .inr (0, fBuyers (fun k => (fun k => q (5 + k)) (16 + k))))] H := hP
      have hD : va_D A [(q 0, .inr (11, fX q)), (q 2, .inl (cy 0, 5, .inl (fun _ => 0))), (q 87, .inr (5, ((fSale (fun k => q (87 + k))).set 0 (.int ha)).set 1 (.int ba))), (q 5, .inr (1, fHall (fun k => q (5 + k)))), (q 6, .inr (10, fThings (fun k => (fun k => q (5 + k)) (1 + k)))), (q 21, .inr (0, fBuyers (fun k => (fun k => q (5 + k)) (16 + k))))] := hD
      subst hw11
      exact hc_ret Sx hr hlocks dd_X11_takings_40 hS () (Or.inl ⟨by omega, rfl⟩) p_nil d_nil
    · have hl12 : Int32.toInt 0 = 0 := rfl
      have hl13 : Int32.toInt 12 = 12 := rfl
      subst ehw6
      refine lv_if_ne (tgt := 27) hx hb dd_X11_takings_17 (by decide) (fun c => absurd c (by decide)) (fun _ => ?_)
      refine lv_aload_n hx hb dd_X11_takings_20 rfl (lv_at hl 0 rfl) ?_
      refine lv_bipush (v := (-2)) hx hb dd_X11_takings_21 (by decide) ?_
      refine hk_i (wr := [(q 5, .inr (1, fHall (fun k => q (5 + k)))), (q 6, .inr (10, fThings (fun k => q (6 + k)))), (q 21, .inr (0, fBuyers (fun k => q (21 + k)))), (q 87, .inr (5, fSale (fun k => q (87 + k))))]) (c1 := 0) (s1 := 0) [0, 1] [2, 3, 4, 5] (hc_V [.int (-2)] [] [0, 1] Sx hl.1 ws_X_63 md_X11_refuse (c_refuse_2 l D cy q) ⟨Nat.le_of_ble_eq_true rfl, Nat.le_of_ble_eq_true rfl⟩ hP hD rfl (by decide) hK nx_b (nx_w hX) (va_recv hK hP (ci := 11) (q0 := 0) rfl rfl) rfl rfl (Nat.le_of_ble_eq_true rfl) dd_X11_takings_23 ⟨Nat.le_of_ble_eq_true rfl, Nat.le_of_ble_eq_true rfl⟩) hS hA hP hD rfl rfl (by decide) (by decide) rfl rfl (fun r14 u15 H locs hw16 hP hD hS => ?_)
      have hP : va_P D cls [(q 5, .inr (1, fHall (fun k => q (5 + k)))), (q 6, .inr (10, fThings (fun k => q (6 + k)))), (q 21, .inr (0, fBuyers (fun k => q (21 + k)))), (q 87, .inr (5, fSale (fun k => q (87 + k))))] H := hP
      have hD : va_D A [(q 5, .inr (1, fHall (fun k => q (5 + k)))), (q 6, .inr (10, fThings (fun k => q (6 + k)))), (q 21, .inr (0, fBuyers (fun k => q (21 + k)))), (q 87, .inr (5, fSale (fun k => q (87 + k))))] := hD
      subst hw16
      exact hc_ret Sx hr hlocks dd_X11_takings_26 hS () (Or.inr ⟨by omega, rfl⟩) p_nil d_nil
  · have hl17 : Int32.toInt 0 = 0 := rfl
    have hl18 : Int32.toInt 12 = 12 := rfl
    subst ehw2
    refine lv_if_eq (tgt := 20) hx hb dd_X11_takings_7 (by decide) (fun _ => ?_) (fun c => absurd c (by decide))
    refine lv_aload_n hx hb dd_X11_takings_20 rfl (lv_at hl 0 rfl) ?_
    refine lv_bipush (v := (-2)) hx hb dd_X11_takings_21 (by decide) ?_
    refine hk_i (wr := [(q 5, .inr (1, fHall (fun k => q (5 + k)))), (q 6, .inr (10, fThings (fun k => q (6 + k)))), (q 21, .inr (0, fBuyers (fun k => q (21 + k)))), (q 87, .inr (5, fSale (fun k => q (87 + k))))]) (c1 := 0) (s1 := 0) [0, 1] [2, 3, 4, 5] (hc_V [.int (-2)] [] [0, 1] Sx hl.1 ws_X_63 md_X11_refuse (c_refuse_2 l D cy q) ⟨Nat.le_of_ble_eq_true rfl, Nat.le_of_ble_eq_true rfl⟩ hP hD rfl (by decide) hK nx_b (nx_w hX) (va_recv hK hP (ci := 11) (q0 := 0) rfl rfl) rfl rfl (Nat.le_of_ble_eq_true rfl) dd_X11_takings_23 ⟨Nat.le_of_ble_eq_true rfl, Nat.le_of_ble_eq_true rfl⟩) hS hA hP hD rfl rfl (by decide) (by decide) rfl rfl (fun r19 u20 H locs hw21 hP hD hS => ?_)
    have hP : va_P D cls [(q 5, .inr (1, fHall (fun k => q (5 + k)))), (q 6, .inr (10, fThings (fun k => q (6 + k)))), (q 21, .inr (0, fBuyers (fun k => q (21 + k)))), (q 87, .inr (5, fSale (fun k => q (87 + k))))] H := hP
    have hD : va_D A [(q 5, .inr (1, fHall (fun k => q (5 + k)))), (q 6, .inr (10, fThings (fun k => q (6 + k)))), (q 21, .inr (0, fBuyers (fun k => q (21 + k)))), (q 87, .inr (5, fSale (fun k => q (87 + k))))] := hD
    subst hw21
    exact hc_ret Sx hr hlocks dd_X11_takings_26 hS () (Or.inr ⟨by omega, rfl⟩) p_nil d_nil
set_option maxHeartbeats 4000000 in
set_option maxRecDepth 100000 in
theorem c_X_judge (l : Launch) (D : va_G) (cy : Nat → ClassId) (q : Nat → Nat) (sf : Int32) : HC l my_X11_judge mb_X11_judge 4 ((some .int)) (rmD 4 0 0) D (TY cy) [.ref (q 0), .int sf] NX [(q 0, .inr (11, fX q)), (q 1, .inl (cy 4, 8, .inr (.inr (.inr (.inr (shv q)))))), (q 2, .inl (cy 0, 5, .inl (fun _ => 0))), (q 97, .inr (7, fShelf (fun k => q (97 + k)))), (q 98, .inl (cy 2, 40, .inr (.inl (fun _ => 0)))), (q 99, .inr (7, fShelf (fun k => q (99 + k)))), (q 100, .inl (cy 2, 40, .inr (.inl (fun _ => 0)))), (q 101, .inr (7, fShelf (fun k => q (101 + k)))), (q 102, .inl (cy 2, 40, .inr (.inl (fun _ => 0)))), (q 103, .inr (7, fShelf (fun k => q (103 + k)))), (q 104, .inl (cy 2, 40, .inr (.inl (fun _ => 0)))), (q 105, .inr (7, fShelf (fun k => q (105 + k)))), (q 106, .inl (cy 2, 40, .inr (.inl (fun _ => 0)))), (q 107, .inr (7, fShelf (fun k => q (107 + k)))), (q 108, .inl (cy 2, 40, .inr (.inl (fun _ => 0)))), (q 109, .inr (7, fShelf (fun k => q (109 + k)))), (q 110, .inl (cy 2, 40, .inr (.inl (fun _ => 0)))), (q 111, .inr (7, fShelf (fun k => q (111 + k)))), (q 112, .inl (cy 2, 40, .inr (.inl (fun _ => 0))))] (QI (S := Unit) D (fun r _ => if2 (0 ≤ sf.toInt ∧ sf.toInt ≤ 7) (-4) (-2) r) (fun _ => [])) := by
  refine hc_intro (by decide) (Nat.le_of_ble_eq_true rfl) (fun p e s m below meth c A ls Sx hr hlocks hin hl hP hD hK hS hA hX => ?_)
  have hx := Sx.1
  have hb := Sx.2.1
  have hl : lv_has ls 4 [(0, .ref (q 0)), (1, .int sf)] := hl
  have hP : va_P D cls [(q 0, .inr (11, fX q)), (q 1, .inl (cy 4, 8, .inr (.inr (.inr (.inr (shv q)))))), (q 2, .inl (cy 0, 5, .inl (fun _ => 0))), (q 97, .inr (7, fShelf (fun k => q (97 + k)))), (q 98, .inl (cy 2, 40, .inr (.inl (fun _ => 0)))), (q 99, .inr (7, fShelf (fun k => q (99 + k)))), (q 100, .inl (cy 2, 40, .inr (.inl (fun _ => 0)))), (q 101, .inr (7, fShelf (fun k => q (101 + k)))), (q 102, .inl (cy 2, 40, .inr (.inl (fun _ => 0)))), (q 103, .inr (7, fShelf (fun k => q (103 + k)))), (q 104, .inl (cy 2, 40, .inr (.inl (fun _ => 0)))), (q 105, .inr (7, fShelf (fun k => q (105 + k)))), (q 106, .inl (cy 2, 40, .inr (.inl (fun _ => 0)))), (q 107, .inr (7, fShelf (fun k => q (107 + k)))), (q 108, .inl (cy 2, 40, .inr (.inl (fun _ => 0)))), (q 109, .inr (7, fShelf (fun k => q (109 + k)))), (q 110, .inl (cy 2, 40, .inr (.inl (fun _ => 0)))), (q 111, .inr (7, fShelf (fun k => q (111 + k)))), (q 112, .inl (cy 2, 40, .inr (.inl (fun _ => 0))))] s.heap := hP
  have hD : va_D A [(q 0, .inr (11, fX q)), (q 1, .inl (cy 4, 8, .inr (.inr (.inr (.inr (shv q)))))), (q 2, .inl (cy 0, 5, .inl (fun _ => 0))), (q 97, .inr (7, fShelf (fun k => q (97 + k)))), (q 98, .inl (cy 2, 40, .inr (.inl (fun _ => 0)))), (q 99, .inr (7, fShelf (fun k => q (99 + k)))), (q 100, .inl (cy 2, 40, .inr (.inl (fun _ => 0)))), (q 101, .inr (7, fShelf (fun k => q (101 + k)))), (q 102, .inl (cy 2, 40, .inr (.inl (fun _ => 0)))), (q 103, .inr (7, fShelf (fun k => q (103 + k)))), (q 104, .inl (cy 2, 40, .inr (.inl (fun _ => 0)))), (q 105, .inr (7, fShelf (fun k => q (105 + k)))), (q 106, .inl (cy 2, 40, .inr (.inl (fun _ => 0)))), (q 107, .inr (7, fShelf (fun k => q (107 + k)))), (q 108, .inl (cy 2, 40, .inr (.inl (fun _ => 0)))), (q 109, .inr (7, fShelf (fun k => q (109 + k)))), (q 110, .inl (cy 2, 40, .inr (.inl (fun _ => 0)))), (q 111, .inr (7, fShelf (fun k => q (111 + k)))), (q 112, .inl (cy 2, 40, .inr (.inl (fun _ => 0))))] := hD
  refine lv_aload_n hx hb dd_X11_judge_0 rfl (lv_at hl 0 rfl) ?_
  refine lv_iload_n hx hb dd_X11_judge_1 rfl (lv_at hl 1 rfl) ?_
  refine pk_i (pc_V [.int sf] [] Sx hl.1 ws_X_71 md_X11_refusalOfRow (c_refusalOfRow l D cy q sf) ⟨rfl, rfl⟩ ⟨Nat.le_of_ble_eq_true rfl, Nat.le_of_ble_eq_true rfl⟩ (hP.sub [0, 1, 3, 4, 5, 6, 7, 8, 9, 10, 11, 12, 13, 14, 15, 16, 17, 18] rfl) hK ns_b (ns_w hX) (va_recv hK hP (ci := 11) (q0 := 0) rfl rfl) rfl rfl (Nat.le_of_ble_eq_true rfl) dd_X11_judge_2 ⟨Nat.le_of_ble_eq_true rfl, Nat.le_of_ble_eq_true rfl⟩) (fun r1 hw2 => ?_)
  rcases hw2 with ⟨hw2, ehw2⟩ | ⟨hw2, ehw2⟩
  · subst ehw2
    refine lv_istore_n (lv' := [(2, .int (-4)), (0, .ref (q 0)), (1, .int sf)]) hx hb dd_X11_judge_5 rfl hl (by decide) rfl (fun ls hl => ?_)
    refine lv_iload_n hx hb dd_X11_judge_6 rfl (lv_at hl 0 rfl) ?_
    refine lv_if_eq (tgt := 16) hx hb dd_X11_judge_7 (by decide) (fun c => absurd c (by decide)) (fun _ => ?_)
    refine lv_aload_n hx hb dd_X11_judge_10 rfl (lv_at hl 1 rfl) ?_
    refine lv_iload_n hx hb dd_X11_judge_11 rfl (lv_at hl 0 rfl) ?_
    refine hk_i (wr := [(q 1, .inl (cy 4, 8, .inr (.inr (.inr (.inr (shv q)))))), (q 97, .inr (7, fShelf (fun k => q (97 + k)))), (q 98, .inl (cy 2, 40, .inr (.inl (fun _ => 0)))), (q 99, .inr (7, fShelf (fun k => q (99 + k)))), (q 100, .inl (cy 2, 40, .inr (.inl (fun _ => 0)))), (q 101, .inr (7, fShelf (fun k => q (101 + k)))), (q 102, .inl (cy 2, 40, .inr (.inl (fun _ => 0)))), (q 103, .inr (7, fShelf (fun k => q (103 + k)))), (q 104, .inl (cy 2, 40, .inr (.inl (fun _ => 0)))), (q 105, .inr (7, fShelf (fun k => q (105 + k)))), (q 106, .inl (cy 2, 40, .inr (.inl (fun _ => 0)))), (q 107, .inr (7, fShelf (fun k => q (107 + k)))), (q 108, .inl (cy 2, 40, .inr (.inl (fun _ => 0)))), (q 109, .inr (7, fShelf (fun k => q (109 + k)))), (q 110, .inl (cy 2, 40, .inr (.inl (fun _ => 0)))), (q 111, .inr (7, fShelf (fun k => q (111 + k)))), (q 112, .inl (cy 2, 40, .inr (.inl (fun _ => 0))))]) (c1 := 0) (s1 := 0) [0, 2] [1, 3, 4, 5, 6, 7, 8, 9, 10, 11, 12, 13, 14, 15, 16, 17, 18] (hc_V [.int (-4)] [] [0, 2] Sx hl.1 ws_X_63 md_X11_refuse (c_refuse_4 l D cy q) ⟨Nat.le_of_ble_eq_true rfl, Nat.le_of_ble_eq_true rfl⟩ hP hD rfl (by decide) hK nx_b (nx_w hX) (va_recv hK hP (ci := 11) (q0 := 0) rfl rfl) rfl rfl (Nat.le_of_ble_eq_true rfl) dd_X11_judge_12 ⟨Nat.le_of_ble_eq_true rfl, Nat.le_of_ble_eq_true rfl⟩) hS hA hP hD rfl rfl (by decide) (by decide) rfl rfl (fun r3 u4 H locs hw5 hP hD hS => ?_)
    have hP : va_P D cls [(q 1, .inl (cy 4, 8, .inr (.inr (.inr (.inr (shv q)))))), (q 97, .inr (7, fShelf (fun k => q (97 + k)))), (q 98, .inl (cy 2, 40, .inr (.inl (fun _ => 0)))), (q 99, .inr (7, fShelf (fun k => q (99 + k)))), (q 100, .inl (cy 2, 40, .inr (.inl (fun _ => 0)))), (q 101, .inr (7, fShelf (fun k => q (101 + k)))), (q 102, .inl (cy 2, 40, .inr (.inl (fun _ => 0)))), (q 103, .inr (7, fShelf (fun k => q (103 + k)))), (q 104, .inl (cy 2, 40, .inr (.inl (fun _ => 0)))), (q 105, .inr (7, fShelf (fun k => q (105 + k)))), (q 106, .inl (cy 2, 40, .inr (.inl (fun _ => 0)))), (q 107, .inr (7, fShelf (fun k => q (107 + k)))), (q 108, .inl (cy 2, 40, .inr (.inl (fun _ => 0)))), (q 109, .inr (7, fShelf (fun k => q (109 + k)))), (q 110, .inl (cy 2, 40, .inr (.inl (fun _ => 0)))), (q 111, .inr (7, fShelf (fun k => q (111 + k)))), (q 112, .inl (cy 2, 40, .inr (.inl (fun _ => 0))))] H := hP
    have hD : va_D A [(q 1, .inl (cy 4, 8, .inr (.inr (.inr (.inr (shv q)))))), (q 97, .inr (7, fShelf (fun k => q (97 + k)))), (q 98, .inl (cy 2, 40, .inr (.inl (fun _ => 0)))), (q 99, .inr (7, fShelf (fun k => q (99 + k)))), (q 100, .inl (cy 2, 40, .inr (.inl (fun _ => 0)))), (q 101, .inr (7, fShelf (fun k => q (101 + k)))), (q 102, .inl (cy 2, 40, .inr (.inl (fun _ => 0)))), (q 103, .inr (7, fShelf (fun k => q (103 + k)))), (q 104, .inl (cy 2, 40, .inr (.inl (fun _ => 0)))), (q 105, .inr (7, fShelf (fun k => q (105 + k)))), (q 106, .inl (cy 2, 40, .inr (.inl (fun _ => 0)))), (q 107, .inr (7, fShelf (fun k => q (107 + k)))), (q 108, .inl (cy 2, 40, .inr (.inl (fun _ => 0)))), (q 109, .inr (7, fShelf (fun k => q (109 + k)))), (q 110, .inl (cy 2, 40, .inr (.inl (fun _ => 0)))), (q 111, .inr (7, fShelf (fun k => q (111 + k)))), (q 112, .inl (cy 2, 40, .inr (.inl (fun _ => 0))))] := hD
    subst hw5
    exact hc_ret Sx hr hlocks dd_X11_judge_15 hS () (Or.inl ⟨by omega, rfl⟩) p_nil d_nil
  · subst ehw2
    refine lv_istore_n (lv' := [(2, .int (-2)), (0, .ref (q 0)), (1, .int sf)]) hx hb dd_X11_judge_5 rfl hl (by decide) rfl (fun ls hl => ?_)
    refine lv_iload_n hx hb dd_X11_judge_6 rfl (lv_at hl 0 rfl) ?_
    refine lv_if_eq (tgt := 16) hx hb dd_X11_judge_7 (by decide) (fun c => absurd c (by decide)) (fun _ => ?_)
    refine lv_aload_n hx hb dd_X11_judge_10 rfl (lv_at hl 1 rfl) ?_
    refine lv_iload_n hx hb dd_X11_judge_11 rfl (lv_at hl 0 rfl) ?_
    refine hk_i (wr := [(q 1, .inl (cy 4, 8, .inr (.inr (.inr (.inr (shv q)))))), (q 97, .inr (7, fShelf (fun k => q (97 + k)))), (q 98, .inl (cy 2, 40, .inr (.inl (fun _ => 0)))), (q 99, .inr (7, fShelf (fun k => q (99 + k)))), (q 100, .inl (cy 2, 40, .inr (.inl (fun _ => 0)))), (q 101, .inr (7, fShelf (fun k => q (101 + k)))), (q 102, .inl (cy 2, 40, .inr (.inl (fun _ => 0)))), (q 103, .inr (7, fShelf (fun k => q (103 + k)))), (q 104, .inl (cy 2, 40, .inr (.inl (fun _ => 0)))), (q 105, .inr (7, fShelf (fun k => q (105 + k)))), (q 106, .inl (cy 2, 40, .inr (.inl (fun _ => 0)))), (q 107, .inr (7, fShelf (fun k => q (107 + k)))), (q 108, .inl (cy 2, 40, .inr (.inl (fun _ => 0)))), (q 109, .inr (7, fShelf (fun k => q (109 + k)))), (q 110, .inl (cy 2, 40, .inr (.inl (fun _ => 0)))), (q 111, .inr (7, fShelf (fun k => q (111 + k)))), (q 112, .inl (cy 2, 40, .inr (.inl (fun _ => 0))))]) (c1 := 0) (s1 := 0) [0, 2] [1, 3, 4, 5, 6, 7, 8, 9, 10, 11, 12, 13, 14, 15, 16, 17, 18] (hc_V [.int (-2)] [] [0, 2] Sx hl.1 ws_X_63 md_X11_refuse (c_refuse_2 l D cy q) ⟨Nat.le_of_ble_eq_true rfl, Nat.le_of_ble_eq_true rfl⟩ hP hD rfl (by decide) hK nx_b (nx_w hX) (va_recv hK hP (ci := 11) (q0 := 0) rfl rfl) rfl rfl (Nat.le_of_ble_eq_true rfl) dd_X11_judge_12 ⟨Nat.le_of_ble_eq_true rfl, Nat.le_of_ble_eq_true rfl⟩) hS hA hP hD rfl rfl (by decide) (by decide) rfl rfl (fun r6 u7 H locs hw8 hP hD hS => ?_)
    have hP : va_P D cls [(q 1, .inl (cy 4, 8, .inr (.inr (.inr (.inr (shv q)))))), (q 97, .inr (7, fShelf (fun k => q (97 + k)))), (q 98, .inl (cy 2, 40, .inr (.inl (fun _ => 0)))), (q 99, .inr (7, fShelf (fun k => q (99 + k)))), (q 100, .inl (cy 2, 40, .inr (.inl (fun _ => 0)))), (q 101, .inr (7, fShelf (fun k => q (101 + k)))), (q 102, .inl (cy 2, 40, .inr (.inl (fun _ => 0)))), (q 103, .inr (7, fShelf (fun k => q (103 + k)))), (q 104, .inl (cy 2, 40, .inr (.inl (fun _ => 0)))), (q 105, .inr (7, fShelf (fun k => q (105 + k)))), (q 106, .inl (cy 2, 40, .inr (.inl (fun _ => 0)))), (q 107, .inr (7, fShelf (fun k => q (107 + k)))), (q 108, .inl (cy 2, 40, .inr (.inl (fun _ => 0)))), (q 109, .inr (7, fShelf (fun k => q (109 + k)))), (q 110, .inl (cy 2, 40, .inr (.inl (fun _ => 0)))), (q 111, .inr (7, fShelf (fun k => q (111 + k)))), (q 112, .inl (cy 2, 40, .inr (.inl (fun _ => 0))))] H := hP
    have hD : va_D A [(q 1, .inl (cy 4, 8, .inr (.inr (.inr (.inr (shv q)))))), (q 97, .inr (7, fShelf (fun k => q (97 + k)))), (q 98, .inl (cy 2, 40, .inr (.inl (fun _ => 0)))), (q 99, .inr (7, fShelf (fun k => q (99 + k)))), (q 100, .inl (cy 2, 40, .inr (.inl (fun _ => 0)))), (q 101, .inr (7, fShelf (fun k => q (101 + k)))), (q 102, .inl (cy 2, 40, .inr (.inl (fun _ => 0)))), (q 103, .inr (7, fShelf (fun k => q (103 + k)))), (q 104, .inl (cy 2, 40, .inr (.inl (fun _ => 0)))), (q 105, .inr (7, fShelf (fun k => q (105 + k)))), (q 106, .inl (cy 2, 40, .inr (.inl (fun _ => 0)))), (q 107, .inr (7, fShelf (fun k => q (107 + k)))), (q 108, .inl (cy 2, 40, .inr (.inl (fun _ => 0)))), (q 109, .inr (7, fShelf (fun k => q (109 + k)))), (q 110, .inl (cy 2, 40, .inr (.inl (fun _ => 0)))), (q 111, .inr (7, fShelf (fun k => q (111 + k)))), (q 112, .inl (cy 2, 40, .inr (.inl (fun _ => 0))))] := hD
    subst hw8
    exact hc_ret Sx hr hlocks dd_X11_judge_15 hS () (Or.inr ⟨by omega, rfl⟩) p_nil d_nil
set_option maxHeartbeats 4000000 in
set_option maxRecDepth 100000 in
theorem c_X_rest (l : Launch) (D : va_G) (cy : Nat → ClassId) (q : Nat → Nat) (ki : Int32) : HC l my_X11_rest mb_X11_rest 2 ((some .int)) (rmD 3 0 0) D (TY cy) [.ref (q 0), .int ki] NX [(q 0, .inr (11, fX q)), (q 2, .inl (cy 0, 5, .inl (fun _ => 0))), (q 5, .inr (1, fHall (fun k => q (5 + k)))), (q 6, .inr (10, fThings (fun k => q (6 + k))))] (QI (S := Unit) D (fun r _ => if2 ((-1) ≤ ki.toInt ∧ ki.toInt ≤ 5) 0 (-2) r) (fun _ => [])) := by
  refine hc_intro (by decide) (Nat.le_of_ble_eq_true rfl) (fun p e s m below meth c A ls Sx hr hlocks hin hl hP hD hK hS hA hX => ?_)
  have hx := Sx.1
  have hb := Sx.2.1
  have hl : lv_has ls 2 [(0, .ref (q 0)), (1, .int ki)] := hl
  have hP : va_P D cls [(q 0, .inr (11, fX q)), (q 2, .inl (cy 0, 5, .inl (fun _ => 0))), (q 5, .inr (1, fHall (fun k => q (5 + k)))), (q 6, .inr (10, fThings (fun k => q (6 + k))))] s.heap := hP
  have hD : va_D A [(q 0, .inr (11, fX q)), (q 2, .inl (cy 0, 5, .inl (fun _ => 0))), (q 5, .inr (1, fHall (fun k => q (5 + k)))), (q 6, .inr (10, fThings (fun k => q (6 + k))))] := hD
  refine lv_iload_n hx hb dd_X11_rest_0 rfl (lv_at hl 1 rfl) ?_
  refine lv_iconst (v := (-1)) hx hb dd_X11_rest_1 (by decide) ?_
  refine lv_icmp_eq (tgt := 19) hx hb dd_X11_rest_2 (by decide) (fun c1 => ?_) (fun c1 => ?_)
  · have fc1 := ci_eq (a := ki.toInt) (b := (-1)) rfl rfl c1
    refine lv_aload_n hx hb dd_X11_rest_19 rfl (lv_at hl 0 rfl) ?_
    refine wk_get (v := .ref (q 5)) Sx ef_11 hK hP 0 rfl rfl 3 (by decide) kk_385 rfl dd_X11_rest_20 ?_
    refine wk_get (v := .ref (q 6)) Sx ef_1 hK hP 2 rfl rfl 0 (by decide) kk_260 rfl dd_X11_rest_23 ?_
    refine lv_iload_n hx hb dd_X11_rest_26 rfl (lv_at hl 1 rfl) ?_
    refine lv_iconst (v := (-1)) hx hb dd_X11_rest_27 (by decide) ?_
    refine lv_icmp_ne (tgt := 36) hx hb dd_X11_rest_28 (by decide) (fun c2 => ?_) (fun c2 => ?_)
    · have fc2 := ci_ne (a := ki.toInt) (b := (-1)) rfl rfl c2
      exfalso; omega
    · have fc2 := ci_eq (a := ki.toInt) (b := (-1)) rfl rfl c2
      refine lv_bipush (v := 63) hx hb dd_X11_rest_31 (by decide) ?_
      refine lv_goto (tgt := 39) hx hb dd_X11_rest_33 (by decide) ?_
      refine pk_i (pc_V [.int 63] [] Sx hl.1 ws_X_276 md_X10_worthLeft (c_worthLeft l D cy (fun k => q (6 + k)) 63) ⟨rfl, rfl⟩ ⟨Nat.le_of_ble_eq_true rfl, Nat.le_of_ble_eq_true rfl⟩ (hP.sub [3] rfl) hK ns_b (ns_w hX) (va_recv hK hP (ci := 10) (q0 := 3) rfl rfl) rfl rfl (Nat.le_of_ble_eq_true rfl) dd_X11_rest_39 ⟨Nat.le_of_ble_eq_true rfl, Nat.le_of_ble_eq_true rfl⟩) (fun r3 hw4 => ?_)
      subst hw4
      exact hc_ret Sx hr hlocks dd_X11_rest_42 hS () (Or.inl ⟨by omega, rfl⟩) p_nil d_nil
  · have fc1 := ci_ne (a := ki.toInt) (b := (-1)) rfl rfl c1
    refine lv_iload_n hx hb dd_X11_rest_5 rfl (lv_at hl 1 rfl) ?_
    refine pk_i (pc_T [.int ki] [] Sx hl.1 ws_X_122 md_X11_isKind (c_isKind l D cy ki) ⟨rfl, rfl⟩ ⟨Nat.le_of_ble_eq_true rfl, Nat.le_of_ble_eq_true rfl⟩ p_nil hK ns_b (ns_w hX) rfl rfl (Nat.le_of_ble_eq_true rfl) dd_X11_rest_6 ⟨Nat.le_of_ble_eq_true rfl, Nat.le_of_ble_eq_true rfl⟩) (fun r5 hw6 => ?_)
    rcases hw6 with ⟨hw6, ehw6⟩ | ⟨hw6, ehw6⟩
    · subst ehw6
      refine lv_if_ne (tgt := 19) hx hb dd_X11_rest_9 (by decide) (fun _ => ?_) (fun c => absurd c (by decide))
      refine lv_aload_n hx hb dd_X11_rest_19 rfl (lv_at hl 0 rfl) ?_
      refine wk_get (v := .ref (q 5)) Sx ef_11 hK hP 0 rfl rfl 3 (by decide) kk_385 rfl dd_X11_rest_20 ?_
      refine wk_get (v := .ref (q 6)) Sx ef_1 hK hP 2 rfl rfl 0 (by decide) kk_260 rfl dd_X11_rest_23 ?_
      refine lv_iload_n hx hb dd_X11_rest_26 rfl (lv_at hl 1 rfl) ?_
      refine lv_iconst (v := (-1)) hx hb dd_X11_rest_27 (by decide) ?_
      refine lv_icmp_ne (tgt := 36) hx hb dd_X11_rest_28 (by decide) (fun c7 => ?_) (fun c7 => ?_)
      · have fc7 := ci_ne (a := ki.toInt) (b := (-1)) rfl rfl c7
        refine lv_iconst (v := 1) hx hb dd_X11_rest_36 (by decide) ?_
        refine lv_iload_n hx hb dd_X11_rest_37 rfl (lv_at hl 1 rfl) ?_
        refine lv_ishl hx hb dd_X11_rest_38 ?_
        refine lv_topi (fun z8 ez8 => ?_)
        refine pk_i (pc_V [.int z8] [] Sx hl.1 ws_X_276 md_X10_worthLeft (c_worthLeft l D cy (fun k => q (6 + k)) z8) ⟨rfl, rfl⟩ ⟨Nat.le_of_ble_eq_true rfl, Nat.le_of_ble_eq_true rfl⟩ (hP.sub [3] rfl) hK ns_b (ns_w hX) (va_recv hK hP (ci := 10) (q0 := 3) rfl rfl) rfl rfl (Nat.le_of_ble_eq_true rfl) dd_X11_rest_39 ⟨Nat.le_of_ble_eq_true rfl, Nat.le_of_ble_eq_true rfl⟩) (fun r9 hw10 => ?_)
        subst hw10
        exact hc_ret Sx hr hlocks dd_X11_rest_42 hS () (Or.inl ⟨by omega, rfl⟩) p_nil d_nil
      · have fc7 := ci_eq (a := ki.toInt) (b := (-1)) rfl rfl c7
        exfalso; omega
    · subst ehw6
      refine lv_if_ne (tgt := 19) hx hb dd_X11_rest_9 (by decide) (fun c => absurd c (by decide)) (fun _ => ?_)
      refine lv_aload_n hx hb dd_X11_rest_12 rfl (lv_at hl 0 rfl) ?_
      refine lv_bipush (v := (-2)) hx hb dd_X11_rest_13 (by decide) ?_
      refine hk_i (wr := [(q 5, .inr (1, fHall (fun k => q (5 + k)))), (q 6, .inr (10, fThings (fun k => q (6 + k))))]) (c1 := 0) (s1 := 0) [0, 1] [2, 3] (hc_V [.int (-2)] [] [0, 1] Sx hl.1 ws_X_63 md_X11_refuse (c_refuse_2 l D cy q) ⟨Nat.le_of_ble_eq_true rfl, Nat.le_of_ble_eq_true rfl⟩ hP hD rfl (by decide) hK nx_b (nx_w hX) (va_recv hK hP (ci := 11) (q0 := 0) rfl rfl) rfl rfl (Nat.le_of_ble_eq_true rfl) dd_X11_rest_15 ⟨Nat.le_of_ble_eq_true rfl, Nat.le_of_ble_eq_true rfl⟩) hS hA hP hD rfl rfl (by decide) (by decide) rfl rfl (fun r11 u12 H locs hw13 hP hD hS => ?_)
      have hP : va_P D cls [(q 5, .inr (1, fHall (fun k => q (5 + k)))), (q 6, .inr (10, fThings (fun k => q (6 + k))))] H := hP
      have hD : va_D A [(q 5, .inr (1, fHall (fun k => q (5 + k)))), (q 6, .inr (10, fThings (fun k => q (6 + k))))] := hD
      subst hw13
      exact hc_ret Sx hr hlocks dd_X11_rest_18 hS () (Or.inr ⟨by omega, rfl⟩) p_nil d_nil
set_option maxHeartbeats 4000000 in
set_option maxRecDepth 100000 in
theorem c_X_day (l : Launch) (D : va_G) (cy : Nat → ClassId) (q : Nat → Nat) (wh : Int32) : HC l my_X11_day mb_X11_day 2 ((some .int)) (rmD 3 0 0) D (TY cy) [.ref (q 0), .int wh] NX [(q 0, .inr (11, fX q)), (q 2, .inl (cy 0, 5, .inl (fun _ => 0))), (q 5, .inr (1, fHall (fun k => q (5 + k)))), (q 6, .inr (10, fThings (fun k => q (6 + k))))] (QI (S := Unit) D (fun r _ => if2 (0 ≤ wh.toInt ∧ wh.toInt ≤ 3) 0 (-2) r) (fun _ => [])) := by
  refine hc_intro (by decide) (Nat.le_of_ble_eq_true rfl) (fun p e s m below meth c A ls Sx hr hlocks hin hl hP hD hK hS hA hX => ?_)
  have hx := Sx.1
  have hb := Sx.2.1
  have hl : lv_has ls 2 [(0, .ref (q 0)), (1, .int wh)] := hl
  have hP : va_P D cls [(q 0, .inr (11, fX q)), (q 2, .inl (cy 0, 5, .inl (fun _ => 0))), (q 5, .inr (1, fHall (fun k => q (5 + k)))), (q 6, .inr (10, fThings (fun k => q (6 + k))))] s.heap := hP
  have hD : va_D A [(q 0, .inr (11, fX q)), (q 2, .inl (cy 0, 5, .inl (fun _ => 0))), (q 5, .inr (1, fHall (fun k => q (5 + k)))), (q 6, .inr (10, fThings (fun k => q (6 + k))))] := hD
  refine lv_iload_n hx hb dd_X11_day_0 rfl (lv_at hl 1 rfl) ?_
  by_cases hs1 : wh.toInt < 0 ∨ 3 < wh.toInt
  · refine lv_tableOut (tgt := 81) hx hb dd_X11_day_1 hs1 (by decide) ?_
    refine lv_aload_n hx hb dd_X11_day_81 rfl (lv_at hl 0 rfl) ?_
    refine lv_bipush (v := (-2)) hx hb dd_X11_day_82 (by decide) ?_
    refine hk_i (wr := [(q 5, .inr (1, fHall (fun k => q (5 + k)))), (q 6, .inr (10, fThings (fun k => q (6 + k))))]) (c1 := 0) (s1 := 0) [0, 1] [2, 3] (hc_V [.int (-2)] [] [0, 1] Sx hl.1 ws_X_63 md_X11_refuse (c_refuse_2 l D cy q) ⟨Nat.le_of_ble_eq_true rfl, Nat.le_of_ble_eq_true rfl⟩ hP hD rfl (by decide) hK nx_b (nx_w hX) (va_recv hK hP (ci := 11) (q0 := 0) rfl rfl) rfl rfl (Nat.le_of_ble_eq_true rfl) dd_X11_day_84 ⟨Nat.le_of_ble_eq_true rfl, Nat.le_of_ble_eq_true rfl⟩) hS hA hP hD rfl rfl (by decide) (by decide) rfl rfl (fun r2 u3 H locs hw4 hP hD hS => ?_)
    have hP : va_P D cls [(q 5, .inr (1, fHall (fun k => q (5 + k)))), (q 6, .inr (10, fThings (fun k => q (6 + k))))] H := hP
    have hD : va_D A [(q 5, .inr (1, fHall (fun k => q (5 + k)))), (q 6, .inr (10, fThings (fun k => q (6 + k))))] := hD
    subst hw4
    exact hc_ret Sx hr hlocks dd_X11_day_87 hS () (Or.inr ⟨by omega, rfl⟩) p_nil d_nil
  · rcases (show wh.toInt = 0 ∨ wh.toInt = 1 ∨ wh.toInt = 2 ∨ wh.toInt = 3 by omega) with hv5 | hv5 | hv5 | hv5
    · obtain rfl : wh = 0 := ci_of rfl hv5
      refine lv_tableIn (off := 31) (tgt := 32) hx hb dd_X11_day_1 (by decide) (by decide) rfl (by decide) ?_
      refine lv_aload_n hx hb dd_X11_day_32 rfl (lv_at hl 0 rfl) ?_
      refine wk_get (v := .ref (q 5)) Sx ef_11 hK hP 0 rfl rfl 3 (by decide) kk_385 rfl dd_X11_day_33 ?_
      refine wk_get (v := .int 0) Sx ef_1 hK hP 2 rfl rfl 10 (by decide) kk_281 rfl dd_X11_day_36 ?_
      have htwh : (0 : Int32).toInt = 0 := rfl
      exact hc_ret Sx hr hlocks dd_X11_day_39 hS () (Or.inl ⟨by omega, rfl⟩) p_nil d_nil
    · obtain rfl : wh = 1 := ci_of rfl hv5
      refine lv_tableIn (off := 39) (tgt := 40) hx hb dd_X11_day_1 (by decide) (by decide) rfl (by decide) ?_
      refine lv_aload_n hx hb dd_X11_day_40 rfl (lv_at hl 0 rfl) ?_
      refine wk_get (v := .ref (q 5)) Sx ef_11 hK hP 0 rfl rfl 3 (by decide) kk_385 rfl dd_X11_day_41 ?_
      refine wk_get (v := .int 0) Sx ef_1 hK hP 2 rfl rfl 11 (by decide) kk_283 rfl dd_X11_day_44 ?_
      have htwh : (1 : Int32).toInt = 1 := rfl
      exact hc_ret Sx hr hlocks dd_X11_day_47 hS () (Or.inl ⟨by omega, rfl⟩) p_nil d_nil
    · obtain rfl : wh = 2 := ci_of rfl hv5
      refine lv_tableIn (off := 47) (tgt := 48) hx hb dd_X11_day_1 (by decide) (by decide) rfl (by decide) ?_
      refine lv_aload_n hx hb dd_X11_day_48 rfl (lv_at hl 0 rfl) ?_
      refine wk_get (v := .ref (q 5)) Sx ef_11 hK hP 0 rfl rfl 3 (by decide) kk_385 rfl dd_X11_day_49 ?_
      refine wk_get (v := .ref (q 6)) Sx ef_1 hK hP 2 rfl rfl 0 (by decide) kk_260 rfl dd_X11_day_52 ?_
      refine wk_get (v := .int 0) Sx ef_10 hK hP 3 rfl rfl 6 (by decide) kk_90 rfl dd_X11_day_55 ?_
      refine lv_aload_n hx hb dd_X11_day_58 rfl (lv_at hl 0 rfl) ?_
      refine wk_get (v := .ref (q 5)) Sx ef_11 hK hP 0 rfl rfl 3 (by decide) kk_385 rfl dd_X11_day_59 ?_
      refine wk_get (v := .ref (q 6)) Sx ef_1 hK hP 2 rfl rfl 0 (by decide) kk_260 rfl dd_X11_day_62 ?_
      refine pk_i (pc_V [] [.int 0] Sx hl.1 ws_X_296 md_X10_countLeft (c_countLeft l D cy (fun k => q (6 + k))) ⟨rfl, rfl⟩ ⟨Nat.le_of_ble_eq_true rfl, Nat.le_of_ble_eq_true rfl⟩ (hP.sub [3] rfl) hK ns_b (ns_w hX) (va_recv hK hP (ci := 10) (q0 := 3) rfl rfl) rfl rfl (Nat.le_of_ble_eq_true rfl) dd_X11_day_65 ⟨Nat.le_of_ble_eq_true rfl, Nat.le_of_ble_eq_true rfl⟩) (fun r6 hw7 => ?_)
      subst hw7
      refine lv_isub hx hb dd_X11_day_68 ?_
      refine wk_int (v := 0) (by decide) ?_
      have htwh : (2 : Int32).toInt = 2 := rfl
      exact hc_ret Sx hr hlocks dd_X11_day_69 hS () (Or.inl ⟨by omega, rfl⟩) p_nil d_nil
    · obtain rfl : wh = 3 := ci_of rfl hv5
      refine lv_tableIn (off := 69) (tgt := 70) hx hb dd_X11_day_1 (by decide) (by decide) rfl (by decide) ?_
      refine lv_aload_n hx hb dd_X11_day_70 rfl (lv_at hl 0 rfl) ?_
      refine wk_get (v := .ref (q 5)) Sx ef_11 hK hP 0 rfl rfl 3 (by decide) kk_385 rfl dd_X11_day_71 ?_
      refine wk_get (v := .ref (q 6)) Sx ef_1 hK hP 2 rfl rfl 0 (by decide) kk_260 rfl dd_X11_day_74 ?_
      refine pk_i (pc_V [] [] Sx hl.1 ws_X_296 md_X10_countLeft (c_countLeft l D cy (fun k => q (6 + k))) ⟨rfl, rfl⟩ ⟨Nat.le_of_ble_eq_true rfl, Nat.le_of_ble_eq_true rfl⟩ (hP.sub [3] rfl) hK ns_b (ns_w hX) (va_recv hK hP (ci := 10) (q0 := 3) rfl rfl) rfl rfl (Nat.le_of_ble_eq_true rfl) dd_X11_day_77 ⟨Nat.le_of_ble_eq_true rfl, Nat.le_of_ble_eq_true rfl⟩) (fun r8 hw9 => ?_)
      subst hw9
      have htwh : (3 : Int32).toInt = 3 := rfl
      exact hc_ret Sx hr hlocks dd_X11_day_80 hS () (Or.inl ⟨by omega, rfl⟩) p_nil d_nil
set_option maxHeartbeats 4000000 in
set_option maxRecDepth 100000 in
theorem c_X_morning (l : Launch) (D : va_G) (cy : Nat → ClassId) (q : Nat → Nat) : HC l my_X11_morning mb_X11_morning 2 ((some .int)) (rmD 1 0 0) D (TY cy) [.ref (q 0)] NX [(q 0, .inr (11, fX q)), (q 5, .inr (1, fHall (fun k => q (5 + k))))] (QI (S := Unit) D (fun r _ => r = 0) (fun _ => [])) := by
  refine hc_intro (by decide) (Nat.le_of_ble_eq_true rfl) (fun p e s m below meth c A ls Sx hr hlocks hin hl hP hD hK hS hA hX => ?_)
  have hx := Sx.1
  have hb := Sx.2.1
  have hl : lv_has ls 2 [(0, .ref (q 0))] := hl
  have hP : va_P D cls [(q 0, .inr (11, fX q)), (q 5, .inr (1, fHall (fun k => q (5 + k))))] s.heap := hP
  have hD : va_D A [(q 0, .inr (11, fX q)), (q 5, .inr (1, fHall (fun k => q (5 + k))))] := hD
  refine lv_aload_n hx hb dd_X11_morning_0 rfl (lv_at hl 0 rfl) ?_
  refine wk_get (v := .ref (q 5)) Sx ef_11 hK hP 0 rfl rfl 3 (by decide) kk_385 rfl dd_X11_morning_1 ?_
  refine wk_get (v := .int 0) Sx ef_1 hK hP 1 rfl rfl 10 (by decide) kk_281 rfl dd_X11_morning_4 ?_
  refine lv_istore_n (lv' := [(1, .int 0), (0, .ref (q 0))]) hx hb dd_X11_morning_7 rfl hl (by decide) rfl (fun ls hl => ?_)
  refine lv_aload_n hx hb dd_X11_morning_8 rfl (lv_at hl 1 rfl) ?_
  refine wk_get (v := .ref (q 5)) Sx ef_11 hK hP 0 rfl rfl 3 (by decide) kk_385 rfl dd_X11_morning_9 ?_
  refine lv_iconst (v := 0) hx hb dd_X11_morning_12 (by decide) ?_
  refine wk_put (ws' := [(q 0, .inr (11, fX q)), (q 5, .inr (1, fHall (fun k => q (5 + k))))]) Sx ef_1 hK hP hD hS 1 rfl rfl 10 (by decide) kk_281 rfl rfl rfl (Nat.le_of_ble_eq_true rfl) dd_X11_morning_13 rfl (fun H locs hP hD hS => ?_)
  refine lv_aload_n hx hb dd_X11_morning_16 rfl (lv_at hl 1 rfl) ?_
  refine wk_get (v := .ref (q 5)) Sx ef_11 hK hP 0 rfl rfl 3 (by decide) kk_385 rfl dd_X11_morning_17 ?_
  refine lv_iconst (v := 0) hx hb dd_X11_morning_20 (by decide) ?_
  refine wk_put (ws' := [(q 0, .inr (11, fX q)), (q 5, .inr (1, fHall (fun k => q (5 + k))))]) Sx ef_1 hK hP hD hS 1 rfl rfl 11 (by decide) kk_283 rfl rfl rfl (Nat.le_of_ble_eq_true rfl) dd_X11_morning_21 rfl (fun H locs hP hD hS => ?_)
  refine lv_iload_n hx hb dd_X11_morning_24 rfl (lv_at hl 0 rfl) ?_
  exact hc_ret Sx hr hlocks dd_X11_morning_25 hS () rfl p_nil d_nil
set_option maxHeartbeats 4000000 in
set_option maxRecDepth 100000 in
theorem c_X_table (l : Launch) (D : va_G) (cy : Nat → ClassId) (q : Nat → Nat) (ks : Int32) : HC l my_X11_table mb_X11_table 2 ((some .int)) (rmD 3 0 0) D (TY cy) [.ref (q 0), .int ks] NX [(q 0, .inr (11, fX q)), (q 2, .inl (cy 0, 5, .inl (fun _ => 0))), (q 5, .inr (1, fHall (fun k => q (5 + k)))), (q 43, .inl (cy 0, 5, .inl (fun _ => 0)))] (QI (S := Unit) D (fun r _ => if2 (0 ≤ ks.toInt ∧ ks.toInt ≤ 63) 0 (-2) r) (fun _ => [])) := by
  refine hc_intro (by decide) (Nat.le_of_ble_eq_true rfl) (fun p e s m below meth c A ls Sx hr hlocks hin hl hP hD hK hS hA hX => ?_)
  have hx := Sx.1
  have hb := Sx.2.1
  have hl : lv_has ls 2 [(0, .ref (q 0)), (1, .int ks)] := hl
  have hP : va_P D cls [(q 0, .inr (11, fX q)), (q 2, .inl (cy 0, 5, .inl (fun _ => 0))), (q 5, .inr (1, fHall (fun k => q (5 + k)))), (q 43, .inl (cy 0, 5, .inl (fun _ => 0)))] s.heap := hP
  have hD : va_D A [(q 0, .inr (11, fX q)), (q 2, .inl (cy 0, 5, .inl (fun _ => 0))), (q 5, .inr (1, fHall (fun k => q (5 + k)))), (q 43, .inl (cy 0, 5, .inl (fun _ => 0)))] := hD
  refine lv_iload_n hx hb dd_X11_table_0 rfl (lv_at hl 1 rfl) ?_
  refine pk_i (pc_T [.int ks] [] Sx hl.1 ws_X_165 md_X11_isKinds (c_isKinds l D cy ks) ⟨rfl, rfl⟩ ⟨Nat.le_of_ble_eq_true rfl, Nat.le_of_ble_eq_true rfl⟩ p_nil hK ns_b (ns_w hX) rfl rfl (Nat.le_of_ble_eq_true rfl) dd_X11_table_1 ⟨Nat.le_of_ble_eq_true rfl, Nat.le_of_ble_eq_true rfl⟩) (fun r1 hw2 => ?_)
  rcases hw2 with ⟨hw2, ehw2⟩ | ⟨hw2, ehw2⟩
  · subst ehw2
    refine lv_if_ne (tgt := 14) hx hb dd_X11_table_4 (by decide) (fun _ => ?_) (fun c => absurd c (by decide))
    refine lv_aload_n hx hb dd_X11_table_14 rfl (lv_at hl 0 rfl) ?_
    refine wk_get (v := .ref (q 5)) Sx ef_11 hK hP 0 rfl rfl 3 (by decide) kk_385 rfl dd_X11_table_15 ?_
    refine wk_get (v := .int 0) Sx ef_1 hK hP 2 rfl rfl 7 (by decide) kk_275 rfl dd_X11_table_18 ?_
    refine lv_iconst (v := 5) hx hb dd_X11_table_21 (by decide) ?_
    refine lv_icmp_lt (tgt := 32) hx hb dd_X11_table_22 (by decide) (fun _ => ?_) (fun c => absurd c (by decide))
    refine lv_aload_n hx hb dd_X11_table_32 rfl (lv_at hl 0 rfl) ?_
    refine wk_get (v := .ref (q 5)) Sx ef_11 hK hP 0 rfl rfl 3 (by decide) kk_385 rfl dd_X11_table_33 ?_
    refine wk_get (v := .ref (q 43)) Sx ef_1 hK hP 2 rfl rfl 6 (by decide) kk_273 rfl dd_X11_table_36 ?_
    refine lv_aload_n hx hb dd_X11_table_39 rfl (lv_at hl 0 rfl) ?_
    refine wk_get (v := .ref (q 5)) Sx ef_11 hK hP 0 rfl rfl 3 (by decide) kk_385 rfl dd_X11_table_40 ?_
    refine wk_get (v := .int 0) Sx ef_1 hK hP 2 rfl rfl 7 (by decide) kk_275 rfl dd_X11_table_43 ?_
    refine lv_iload_n hx hb dd_X11_table_46 rfl (lv_at hl 1 rfl) ?_
    refine wk_iast (ws' := [(q 0, .inr (11, fX q)), (q 2, .inl (cy 0, 5, .inl (fun _ => 0))), (q 5, .inr (1, fHall (fun k => q (5 + k)))), (q 43, .inl (cy 0, 5, .inl (upd (fun _ => 0) (0 : Int32).toNatClampNeg ks)))]) Sx hK hP hD hS 3 0 rfl rfl (vi_of (by decide)) dd_X11_table_47 rfl (fun H locs hP hD hS => ?_)
    refine lv_aload_n hx hb dd_X11_table_48 rfl (lv_at hl 0 rfl) ?_
    refine wk_get (v := .ref (q 5)) Sx ef_11 hK hP 0 rfl rfl 3 (by decide) kk_385 rfl dd_X11_table_49 ?_
    refine lv_dup hx hb dd_X11_table_52 rfl ?_
    refine wk_get (v := .int 0) Sx ef_1 hK hP 2 rfl rfl 7 (by decide) kk_275 rfl dd_X11_table_53 ?_
    refine lv_iconst (v := 1) hx hb dd_X11_table_56 (by decide) ?_
    refine lv_iadd hx hb dd_X11_table_57 ?_
    refine wk_int (v := 1) (by decide) ?_
    refine wk_put (ws' := [(q 0, .inr (11, fX q)), (q 2, .inl (cy 0, 5, .inl (fun _ => 0))), (q 5, .inr (1, (fHall (fun k => q (5 + k))).set 7 (.int 1))), (q 43, .inl (cy 0, 5, .inl (upd (fun _ => 0) (0 : Int32).toNatClampNeg ks)))]) Sx ef_1 hK hP hD hS 2 rfl rfl 7 (by decide) kk_275 rfl rfl rfl (Nat.le_of_ble_eq_true rfl) dd_X11_table_58 rfl (fun H locs hP hD hS => ?_)
    refine lv_aload_n hx hb dd_X11_table_61 rfl (lv_at hl 0 rfl) ?_
    refine wk_get (v := .ref (q 5)) Sx ef_11 hK hP 0 rfl rfl 3 (by decide) kk_385 rfl dd_X11_table_62 ?_
    refine wk_get (v := .int 1) Sx ef_1 hK hP 2 rfl rfl 7 (by decide) kk_275 rfl dd_X11_table_65 ?_
    refine lv_iconst (v := 1) hx hb dd_X11_table_68 (by decide) ?_
    refine lv_isub hx hb dd_X11_table_69 ?_
    refine wk_int (v := 0) (by decide) ?_
    exact hc_ret Sx hr hlocks dd_X11_table_70 hS () (Or.inl ⟨by omega, rfl⟩) p_nil d_nil
  · subst ehw2
    refine lv_if_ne (tgt := 14) hx hb dd_X11_table_4 (by decide) (fun c => absurd c (by decide)) (fun _ => ?_)
    refine lv_aload_n hx hb dd_X11_table_7 rfl (lv_at hl 0 rfl) ?_
    refine lv_bipush (v := (-2)) hx hb dd_X11_table_8 (by decide) ?_
    refine hk_i (wr := [(q 5, .inr (1, fHall (fun k => q (5 + k)))), (q 43, .inl (cy 0, 5, .inl (fun _ => 0)))]) (c1 := 0) (s1 := 0) [0, 1] [2, 3] (hc_V [.int (-2)] [] [0, 1] Sx hl.1 ws_X_63 md_X11_refuse (c_refuse_2 l D cy q) ⟨Nat.le_of_ble_eq_true rfl, Nat.le_of_ble_eq_true rfl⟩ hP hD rfl (by decide) hK nx_b (nx_w hX) (va_recv hK hP (ci := 11) (q0 := 0) rfl rfl) rfl rfl (Nat.le_of_ble_eq_true rfl) dd_X11_table_10 ⟨Nat.le_of_ble_eq_true rfl, Nat.le_of_ble_eq_true rfl⟩) hS hA hP hD rfl rfl (by decide) (by decide) rfl rfl (fun r3 u4 H locs hw5 hP hD hS => ?_)
    have hP : va_P D cls [(q 5, .inr (1, fHall (fun k => q (5 + k)))), (q 43, .inl (cy 0, 5, .inl (fun _ => 0)))] H := hP
    have hD : va_D A [(q 5, .inr (1, fHall (fun k => q (5 + k)))), (q 43, .inl (cy 0, 5, .inl (fun _ => 0)))] := hD
    subst hw5
    exact hc_ret Sx hr hlocks dd_X11_table_13 hS () (Or.inr ⟨by omega, rfl⟩) p_nil d_nil
set_option maxHeartbeats 4000000 in
set_option maxRecDepth 100000 in
theorem c_X_who (l : Launch) (D : va_G) (cy : Nat → ClassId) (q : Nat → Nat) (wh : Int32) : HC l my_X11_who mb_X11_who 2 ((some .int)) (rmD 3 0 0) D (TY cy) [.ref (q 0), .int wh] NX [(q 0, .inr (11, fX q)), (q 2, .inl (cy 0, 5, .inl (fun _ => 0))), (q 5, .inr (1, fHall (fun k => q (5 + k)))), (q 14, .inr (2, fLadies (fun k => q (14 + k)))), (q 45, .inl (cy 0, 32, .inl (fun _ => 0)))] (QI (S := Unit) D (fun r _ => if2 ((-1) ≤ wh.toInt ∧ wh.toInt ≤ (-1)) 0 (-2) r) (fun _ => [])) := by
  refine hc_intro (by decide) (Nat.le_of_ble_eq_true rfl) (fun p e s m below meth c A ls Sx hr hlocks hin hl hP hD hK hS hA hX => ?_)
  have hx := Sx.1
  have hb := Sx.2.1
  have hl : lv_has ls 2 [(0, .ref (q 0)), (1, .int wh)] := hl
  have hP : va_P D cls [(q 0, .inr (11, fX q)), (q 2, .inl (cy 0, 5, .inl (fun _ => 0))), (q 5, .inr (1, fHall (fun k => q (5 + k)))), (q 14, .inr (2, fLadies (fun k => q (14 + k)))), (q 45, .inl (cy 0, 32, .inl (fun _ => 0)))] s.heap := hP
  have hD : va_D A [(q 0, .inr (11, fX q)), (q 2, .inl (cy 0, 5, .inl (fun _ => 0))), (q 5, .inr (1, fHall (fun k => q (5 + k)))), (q 14, .inr (2, fLadies (fun k => q (14 + k)))), (q 45, .inl (cy 0, 32, .inl (fun _ => 0)))] := hD
  refine lv_iload_n hx hb dd_X11_who_0 rfl (lv_at hl 1 rfl) ?_
  refine lv_iconst (v := (-1)) hx hb dd_X11_who_1 (by decide) ?_
  refine lv_icmp_eq (tgt := 29) hx hb dd_X11_who_2 (by decide) (fun c1 => ?_) (fun c1 => ?_)
  · have fc1 := ci_eq (a := wh.toInt) (b := (-1)) rfl rfl c1
    refine lv_aload_n hx hb dd_X11_who_29 rfl (lv_at hl 0 rfl) ?_
    refine wk_get (v := .ref (q 5)) Sx ef_11 hK hP 0 rfl rfl 3 (by decide) kk_385 rfl dd_X11_who_30 ?_
    refine wk_get (v := .int 0) Sx ef_1 hK hP 2 rfl rfl 7 (by decide) kk_275 rfl dd_X11_who_33 ?_
    refine lv_aload_n hx hb dd_X11_who_36 rfl (lv_at hl 0 rfl) ?_
    refine wk_get (v := .ref (q 5)) Sx ef_11 hK hP 0 rfl rfl 3 (by decide) kk_385 rfl dd_X11_who_37 ?_
    refine wk_get (v := .ref (q 14)) Sx ef_1 hK hP 2 rfl rfl 1 (by decide) kk_262 rfl dd_X11_who_40 ?_
    refine wk_get (v := .int 0) Sx ef_2 hK hP 3 rfl rfl 3 (by decide) kk_125 rfl dd_X11_who_43 ?_
    refine lv_icmp_le (tgt := 56) hx hb dd_X11_who_46 (by decide) (fun _ => ?_) (fun c => absurd c (by decide))
    refine lv_aload_n hx hb dd_X11_who_56 rfl (lv_at hl 0 rfl) ?_
    refine wk_get (v := .ref (q 5)) Sx ef_11 hK hP 0 rfl rfl 3 (by decide) kk_385 rfl dd_X11_who_57 ?_
    refine hk_v (wr := [(q 0, .inr (11, fX q)), (q 2, .inl (cy 0, 5, .inl (fun _ => 0)))]) (c1 := 0) (s1 := 0) [2, 3, 4] [0, 1] (hc_V [] [] [2, 3, 4] Sx hl.1 ws_X_309 md_X1_planTables (c_planTables l D cy (fun k => q (5 + k))) ⟨Nat.le_of_ble_eq_true rfl, Nat.le_of_ble_eq_true rfl⟩ hP hD rfl (by decide) hK nx_b (nx_w hX) (va_recv hK hP (ci := 1) (q0 := 2) rfl rfl) rfl rfl (Nat.le_of_ble_eq_true rfl) dd_X11_who_60 ⟨Nat.le_of_ble_eq_true rfl, Nat.le_of_ble_eq_true rfl⟩) hS hA hP hD rfl rfl (by decide) (by decide) rfl rfl (fun u3 H locs hw4 hP hD hS => ?_)
    have hP : va_P D cls [(q 0, .inr (11, fX q)), (q 2, .inl (cy 0, 5, .inl (fun _ => 0))), (q 5, .inr (1, fHall (fun k => q (5 + k)))), (q 14, .inr (2, fLadies (fun k => (fun k => q (5 + k)) (9 + k)))), (q 45, .inl (cy 0, 32, .inl (fun _ => 0)))] H := hP
    have hD : va_D A [(q 0, .inr (11, fX q)), (q 2, .inl (cy 0, 5, .inl (fun _ => 0))), (q 5, .inr (1, fHall (fun k => q (5 + k)))), (q 14, .inr (2, fLadies (fun k => (fun k => q (5 + k)) (9 + k)))), (q 45, .inl (cy 0, 32, .inl (fun _ => 0)))] := hD
    refine lv_iload_n hx hb dd_X11_who_63 rfl (lv_at hl 1 rfl) ?_
    refine lv_iconst (v := (-1)) hx hb dd_X11_who_64 (by decide) ?_
    refine lv_icmp_ne (tgt := 80) hx hb dd_X11_who_65 (by decide) (fun c5 => ?_) (fun c5 => ?_)
    · have fc5 := ci_ne (a := wh.toInt) (b := (-1)) rfl rfl c5
      exfalso; omega
    · have fc5 := ci_eq (a := wh.toInt) (b := (-1)) rfl rfl c5
      refine lv_aload_n hx hb dd_X11_who_68 rfl (lv_at hl 0 rfl) ?_
      refine wk_get (v := .ref (q 5)) Sx ef_11 hK hP 0 rfl rfl 3 (by decide) kk_385 rfl dd_X11_who_69 ?_
      refine wk_get (v := .ref (q 45)) Sx ef_1 hK hP 2 rfl rfl 13 (by decide) kk_286 rfl dd_X11_who_72 ?_
      refine lv_iconst (v := 0) hx hb dd_X11_who_75 (by decide) ?_
      have hi6 : vp_in 0 32 := (vi_of (by decide))
      refine va_iald hx hb hK hP 4 0 rfl rfl hi6 dd_X11_who_76 ?_
      refine wk_int (v := 0) rfl ?_
      refine lv_goto (tgt := 88) hx hb dd_X11_who_77 (by decide) ?_
      exact hc_ret Sx hr hlocks dd_X11_who_88 hS () (Or.inl ⟨by omega, rfl⟩) p_nil d_nil
  · have fc1 := ci_ne (a := wh.toInt) (b := (-1)) rfl rfl c1
    refine lv_iload_n hx hb dd_X11_who_5 rfl (lv_at hl 1 rfl) ?_
    refine lv_iconst (v := 0) hx hb dd_X11_who_6 (by decide) ?_
    refine lv_aload_n hx hb dd_X11_who_7 rfl (lv_at hl 0 rfl) ?_
    refine wk_get (v := .ref (q 5)) Sx ef_11 hK hP 0 rfl rfl 3 (by decide) kk_385 rfl dd_X11_who_8 ?_
    refine wk_get (v := .int 0) Sx ef_1 hK hP 2 rfl rfl 7 (by decide) kk_275 rfl dd_X11_who_11 ?_
    refine lv_iconst (v := 1) hx hb dd_X11_who_14 (by decide) ?_
    refine lv_isub hx hb dd_X11_who_15 ?_
    refine wk_int (v := (-1)) (by decide) ?_
    refine pk_i (pc_T [.int wh, .int 0, .int (-1)] [] Sx hl.1 ws_X_59 md_X11_within (c_within l D cy wh 0 (-1)) ⟨rfl, rfl⟩ ⟨Nat.le_of_ble_eq_true rfl, Nat.le_of_ble_eq_true rfl⟩ p_nil hK ns_b (ns_w hX) rfl rfl (Nat.le_of_ble_eq_true rfl) dd_X11_who_16 ⟨Nat.le_of_ble_eq_true rfl, Nat.le_of_ble_eq_true rfl⟩) (fun r7 hw8 => ?_)
    rcases hw8 with ⟨hw8, ehw8⟩ | ⟨hw8, ehw8⟩
    · have hl9 : Int32.toInt (-1) = (-1) := rfl
      have hl10 : Int32.toInt 0 = 0 := rfl
      exfalso; omega
    · have hl11 : Int32.toInt (-1) = (-1) := rfl
      have hl12 : Int32.toInt 0 = 0 := rfl
      subst ehw8
      refine lv_if_ne (tgt := 29) hx hb dd_X11_who_19 (by decide) (fun c => absurd c (by decide)) (fun _ => ?_)
      refine lv_aload_n hx hb dd_X11_who_22 rfl (lv_at hl 0 rfl) ?_
      refine lv_bipush (v := (-2)) hx hb dd_X11_who_23 (by decide) ?_
      refine hk_i (wr := [(q 5, .inr (1, fHall (fun k => q (5 + k)))), (q 14, .inr (2, fLadies (fun k => q (14 + k)))), (q 45, .inl (cy 0, 32, .inl (fun _ => 0)))]) (c1 := 0) (s1 := 0) [0, 1] [2, 3, 4] (hc_V [.int (-2)] [] [0, 1] Sx hl.1 ws_X_63 md_X11_refuse (c_refuse_2 l D cy q) ⟨Nat.le_of_ble_eq_true rfl, Nat.le_of_ble_eq_true rfl⟩ hP hD rfl (by decide) hK nx_b (nx_w hX) (va_recv hK hP (ci := 11) (q0 := 0) rfl rfl) rfl rfl (Nat.le_of_ble_eq_true rfl) dd_X11_who_25 ⟨Nat.le_of_ble_eq_true rfl, Nat.le_of_ble_eq_true rfl⟩) hS hA hP hD rfl rfl (by decide) (by decide) rfl rfl (fun r13 u14 H locs hw15 hP hD hS => ?_)
      have hP : va_P D cls [(q 5, .inr (1, fHall (fun k => q (5 + k)))), (q 14, .inr (2, fLadies (fun k => q (14 + k)))), (q 45, .inl (cy 0, 32, .inl (fun _ => 0)))] H := hP
      have hD : va_D A [(q 5, .inr (1, fHall (fun k => q (5 + k)))), (q 14, .inr (2, fLadies (fun k => q (14 + k)))), (q 45, .inl (cy 0, 32, .inl (fun _ => 0)))] := hD
      subst hw15
      exact hc_ret Sx hr hlocks dd_X11_who_28 hS () (Or.inr ⟨by omega, rfl⟩) p_nil d_nil
set_option maxHeartbeats 4000000 in
set_option maxRecDepth 100000 in
theorem c_X_sight (l : Launch) (D : va_G) (cy : Nat → ClassId) (q : Nat → Nat) (ye : Int32) (ch : Int32) (ga : Int32) (bo : Int32) : HC l my_X11_sight mb_X11_sight 5 ((some .int)) (rmD 4 0 0) D (TY cy) [.ref (q 0), .int ye, .int ch, .int ga, .int bo] NX [(q 0, .inr (11, fX q)), (q 2, .inl (cy 0, 5, .inl (fun _ => 0))), (q 5, .inr (1, fHall (fun k => q (5 + k)))), (q 27, .inr (8, fSightings (fun k => q (27 + k)))), (q 28, .inl (cy 0, 20, .inl (fun _ => 0))), (q 29, .inl (cy 0, 20, .inl (fun _ => 0))), (q 30, .inl (cy 0, 20, .inl (fun _ => 0))), (q 31, .inl (cy 0, 20, .inl (fun _ => 0))), (q 32, .inl (cy 0, 20, .inl (fun _ => 0))), (q 33, .inl (cy 0, 20, .inl (fun _ => 0))), (q 34, .inl (cy 0, 20, .inl (fun _ => 0)))] (QI (S := Unit) D (fun r _ => if2 (0 ≤ ye.toInt ∧ ye.toInt ≤ 99 ∧ 0 ≤ ch.toInt ∧ ch.toInt ≤ 255 ∧ (-1) ≤ ga.toInt ∧ ga.toInt ≤ 15 ∧ (-1) ≤ bo.toInt ∧ bo.toInt ≤ 15) 0 (-2) r) (fun _ => [])) := by
  refine hc_intro (by decide) (Nat.le_of_ble_eq_true rfl) (fun p e s m below meth c A ls Sx hr hlocks hin hl hP hD hK hS hA hX => ?_)
  have hx := Sx.1
  have hb := Sx.2.1
  have hl : lv_has ls 5 [(0, .ref (q 0)), (1, .int ye), (2, .int ch), (3, .int ga), (4, .int bo)] := hl
  have hP : va_P D cls [(q 0, .inr (11, fX q)), (q 2, .inl (cy 0, 5, .inl (fun _ => 0))), (q 5, .inr (1, fHall (fun k => q (5 + k)))), (q 27, .inr (8, fSightings (fun k => q (27 + k)))), (q 28, .inl (cy 0, 20, .inl (fun _ => 0))), (q 29, .inl (cy 0, 20, .inl (fun _ => 0))), (q 30, .inl (cy 0, 20, .inl (fun _ => 0))), (q 31, .inl (cy 0, 20, .inl (fun _ => 0))), (q 32, .inl (cy 0, 20, .inl (fun _ => 0))), (q 33, .inl (cy 0, 20, .inl (fun _ => 0))), (q 34, .inl (cy 0, 20, .inl (fun _ => 0)))] s.heap := hP
  have hD : va_D A [(q 0, .inr (11, fX q)), (q 2, .inl (cy 0, 5, .inl (fun _ => 0))), (q 5, .inr (1, fHall (fun k => q (5 + k)))), (q 27, .inr (8, fSightings (fun k => q (27 + k)))), (q 28, .inl (cy 0, 20, .inl (fun _ => 0))), (q 29, .inl (cy 0, 20, .inl (fun _ => 0))), (q 30, .inl (cy 0, 20, .inl (fun _ => 0))), (q 31, .inl (cy 0, 20, .inl (fun _ => 0))), (q 32, .inl (cy 0, 20, .inl (fun _ => 0))), (q 33, .inl (cy 0, 20, .inl (fun _ => 0))), (q 34, .inl (cy 0, 20, .inl (fun _ => 0)))] := hD
  refine lv_iload_n hx hb dd_X11_sight_0 rfl (lv_at hl 1 rfl) ?_
  refine lv_iconst (v := 0) hx hb dd_X11_sight_1 (by decide) ?_
  refine lv_bipush (v := 99) hx hb dd_X11_sight_2 (by decide) ?_
  refine pk_i (pc_T [.int ye, .int 0, .int 99] [] Sx hl.1 ws_X_59 md_X11_within (c_within l D cy ye 0 99) ⟨rfl, rfl⟩ ⟨Nat.le_of_ble_eq_true rfl, Nat.le_of_ble_eq_true rfl⟩ p_nil hK ns_b (ns_w hX) rfl rfl (Nat.le_of_ble_eq_true rfl) dd_X11_sight_4 ⟨Nat.le_of_ble_eq_true rfl, Nat.le_of_ble_eq_true rfl⟩) (fun r1 hw2 => ?_)
  rcases hw2 with ⟨hw2, ehw2⟩ | ⟨hw2, ehw2⟩
  · have hl3 : Int32.toInt 0 = 0 := rfl
    have hl4 : Int32.toInt 99 = 99 := rfl
    subst ehw2
    refine lv_if_eq (tgt := 36) hx hb dd_X11_sight_7 (by decide) (fun c => absurd c (by decide)) (fun _ => ?_)
    refine lv_iload_n hx hb dd_X11_sight_10 rfl (lv_at hl 2 rfl) ?_
    refine lv_iconst (v := 0) hx hb dd_X11_sight_11 (by decide) ?_
    refine lv_sipush (v := 255) hx hb dd_X11_sight_12 (by decide) ?_
    refine pk_i (pc_T [.int ch, .int 0, .int 255] [] Sx hl.1 ws_X_59 md_X11_within (c_within l D cy ch 0 255) ⟨rfl, rfl⟩ ⟨Nat.le_of_ble_eq_true rfl, Nat.le_of_ble_eq_true rfl⟩ p_nil hK ns_b (ns_w hX) rfl rfl (Nat.le_of_ble_eq_true rfl) dd_X11_sight_15 ⟨Nat.le_of_ble_eq_true rfl, Nat.le_of_ble_eq_true rfl⟩) (fun r5 hw6 => ?_)
    rcases hw6 with ⟨hw6, ehw6⟩ | ⟨hw6, ehw6⟩
    · have hl7 : Int32.toInt 0 = 0 := rfl
      have hl8 : Int32.toInt 255 = 255 := rfl
      subst ehw6
      refine lv_if_eq (tgt := 36) hx hb dd_X11_sight_18 (by decide) (fun c => absurd c (by decide)) (fun _ => ?_)
      refine lv_iload_n hx hb dd_X11_sight_21 rfl (lv_at hl 3 rfl) ?_
      refine pk_i (pc_T [.int ga] [] Sx hl.1 ws_X_318 md_X11_isPersonOrNone (c_isPersonOrNone l D cy ga) ⟨rfl, rfl⟩ ⟨Nat.le_of_ble_eq_true rfl, Nat.le_of_ble_eq_true rfl⟩ p_nil hK ns_b (ns_w hX) rfl rfl (Nat.le_of_ble_eq_true rfl) dd_X11_sight_22 ⟨Nat.le_of_ble_eq_true rfl, Nat.le_of_ble_eq_true rfl⟩) (fun r9 hw10 => ?_)
      rcases hw10 with ⟨hw10, ehw10⟩ | ⟨hw10, ehw10⟩
      · subst ehw10
        refine lv_if_eq (tgt := 36) hx hb dd_X11_sight_25 (by decide) (fun c => absurd c (by decide)) (fun _ => ?_)
        refine lv_iload hx hb dd_X11_sight_28 (lv_at hl 4 rfl) ?_
        refine pk_i (pc_T [.int bo] [] Sx hl.1 ws_X_318 md_X11_isPersonOrNone (c_isPersonOrNone l D cy bo) ⟨rfl, rfl⟩ ⟨Nat.le_of_ble_eq_true rfl, Nat.le_of_ble_eq_true rfl⟩ p_nil hK ns_b (ns_w hX) rfl rfl (Nat.le_of_ble_eq_true rfl) dd_X11_sight_30 ⟨Nat.le_of_ble_eq_true rfl, Nat.le_of_ble_eq_true rfl⟩) (fun r11 hw12 => ?_)
        rcases hw12 with ⟨hw12, ehw12⟩ | ⟨hw12, ehw12⟩
        · subst ehw12
          refine lv_if_ne (tgt := 43) hx hb dd_X11_sight_33 (by decide) (fun _ => ?_) (fun c => absurd c (by decide))
          refine lv_aload_n hx hb dd_X11_sight_43 rfl (lv_at hl 0 rfl) ?_
          refine wk_get (v := .ref (q 5)) Sx ef_11 hK hP 0 rfl rfl 3 (by decide) kk_385 rfl dd_X11_sight_44 ?_
          refine wk_get (v := .ref (q 27)) Sx ef_1 hK hP 2 rfl rfl 4 (by decide) kk_269 rfl dd_X11_sight_47 ?_
          refine wk_get (v := .int 0) Sx ef_8 hK hP 3 rfl rfl 4 (by decide) kk_201 rfl dd_X11_sight_50 ?_
          refine lv_bipush (v := 20) hx hb dd_X11_sight_53 (by decide) ?_
          refine lv_icmp_lt (tgt := 65) hx hb dd_X11_sight_55 (by decide) (fun _ => ?_) (fun c => absurd c (by decide))
          refine lv_aload_n hx hb dd_X11_sight_65 rfl (lv_at hl 0 rfl) ?_
          refine wk_get (v := .ref (q 5)) Sx ef_11 hK hP 0 rfl rfl 3 (by decide) kk_385 rfl dd_X11_sight_66 ?_
          refine wk_get (v := .ref (q 27)) Sx ef_1 hK hP 2 rfl rfl 4 (by decide) kk_269 rfl dd_X11_sight_69 ?_
          refine lv_iload_n hx hb dd_X11_sight_72 rfl (lv_at hl 1 rfl) ?_
          refine lv_iload_n hx hb dd_X11_sight_73 rfl (lv_at hl 2 rfl) ?_
          refine lv_iload_n hx hb dd_X11_sight_74 rfl (lv_at hl 3 rfl) ?_
          refine lv_iload hx hb dd_X11_sight_75 (lv_at hl 4 rfl) ?_
          refine hk_i (wr := [(q 0, .inr (11, fX q)), (q 2, .inl (cy 0, 5, .inl (fun _ => 0))), (q 5, .inr (1, fHall (fun k => q (5 + k))))]) (c1 := 0) (s1 := 0) [3, 4, 5, 6, 7, 8, 9, 10] [0, 1, 2] (hc_V [.int ye, .int ch, .int ga, .int bo] [] [3, 4, 5, 6, 7, 8, 9, 10] Sx hl.1 ws_X_328 md_X8_add (c_Sightings_add l D cy (fun k => q (27 + k)) ye ch ga bo) ⟨Nat.le_of_ble_eq_true rfl, Nat.le_of_ble_eq_true rfl⟩ hP hD rfl (by decide) hK nx_b (nx_w hX) (va_recv hK hP (ci := 8) (q0 := 3) rfl rfl) rfl rfl (Nat.le_of_ble_eq_true rfl) dd_X11_sight_77 ⟨Nat.le_of_ble_eq_true rfl, Nat.le_of_ble_eq_true rfl⟩) hS hA hP hD rfl rfl (by decide) (by decide) rfl rfl (fun r13 u14 H locs hw15 hP hD hS => ?_)
          have hP : va_P D cls [(q 0, .inr (11, fX q)), (q 2, .inl (cy 0, 5, .inl (fun _ => 0))), (q 5, .inr (1, fHall (fun k => q (5 + k))))] H := hP
          have hD : va_D A [(q 0, .inr (11, fX q)), (q 2, .inl (cy 0, 5, .inl (fun _ => 0))), (q 5, .inr (1, fHall (fun k => q (5 + k))))] := hD
          subst hw15
          exact hc_ret Sx hr hlocks dd_X11_sight_80 hS () (Or.inl ⟨by omega, rfl⟩) p_nil d_nil
        · subst ehw12
          refine lv_if_ne (tgt := 43) hx hb dd_X11_sight_33 (by decide) (fun c => absurd c (by decide)) (fun _ => ?_)
          refine lv_aload_n hx hb dd_X11_sight_36 rfl (lv_at hl 0 rfl) ?_
          refine lv_bipush (v := (-2)) hx hb dd_X11_sight_37 (by decide) ?_
          refine hk_i (wr := [(q 5, .inr (1, fHall (fun k => q (5 + k)))), (q 27, .inr (8, fSightings (fun k => q (27 + k)))), (q 28, .inl (cy 0, 20, .inl (fun _ => 0))), (q 29, .inl (cy 0, 20, .inl (fun _ => 0))), (q 30, .inl (cy 0, 20, .inl (fun _ => 0))), (q 31, .inl (cy 0, 20, .inl (fun _ => 0))), (q 32, .inl (cy 0, 20, .inl (fun _ => 0))), (q 33, .inl (cy 0, 20, .inl (fun _ => 0))), (q 34, .inl (cy 0, 20, .inl (fun _ => 0)))]) (c1 := 0) (s1 := 0) [0, 1] [2, 3, 4, 5, 6, 7, 8, 9, 10] (hc_V [.int (-2)] [] [0, 1] Sx hl.1 ws_X_63 md_X11_refuse (c_refuse_2 l D cy q) ⟨Nat.le_of_ble_eq_true rfl, Nat.le_of_ble_eq_true rfl⟩ hP hD rfl (by decide) hK nx_b (nx_w hX) (va_recv hK hP (ci := 11) (q0 := 0) rfl rfl) rfl rfl (Nat.le_of_ble_eq_true rfl) dd_X11_sight_39 ⟨Nat.le_of_ble_eq_true rfl, Nat.le_of_ble_eq_true rfl⟩) hS hA hP hD rfl rfl (by decide) (by decide) rfl rfl (fun r16 u17 H locs hw18 hP hD hS => ?_)
          have hP : va_P D cls [(q 5, .inr (1, fHall (fun k => q (5 + k)))), (q 27, .inr (8, fSightings (fun k => q (27 + k)))), (q 28, .inl (cy 0, 20, .inl (fun _ => 0))), (q 29, .inl (cy 0, 20, .inl (fun _ => 0))), (q 30, .inl (cy 0, 20, .inl (fun _ => 0))), (q 31, .inl (cy 0, 20, .inl (fun _ => 0))), (q 32, .inl (cy 0, 20, .inl (fun _ => 0))), (q 33, .inl (cy 0, 20, .inl (fun _ => 0))), (q 34, .inl (cy 0, 20, .inl (fun _ => 0)))] H := hP
          have hD : va_D A [(q 5, .inr (1, fHall (fun k => q (5 + k)))), (q 27, .inr (8, fSightings (fun k => q (27 + k)))), (q 28, .inl (cy 0, 20, .inl (fun _ => 0))), (q 29, .inl (cy 0, 20, .inl (fun _ => 0))), (q 30, .inl (cy 0, 20, .inl (fun _ => 0))), (q 31, .inl (cy 0, 20, .inl (fun _ => 0))), (q 32, .inl (cy 0, 20, .inl (fun _ => 0))), (q 33, .inl (cy 0, 20, .inl (fun _ => 0))), (q 34, .inl (cy 0, 20, .inl (fun _ => 0)))] := hD
          subst hw18
          exact hc_ret Sx hr hlocks dd_X11_sight_42 hS () (Or.inr ⟨by omega, rfl⟩) p_nil d_nil
      · subst ehw10
        refine lv_if_eq (tgt := 36) hx hb dd_X11_sight_25 (by decide) (fun _ => ?_) (fun c => absurd c (by decide))
        refine lv_aload_n hx hb dd_X11_sight_36 rfl (lv_at hl 0 rfl) ?_
        refine lv_bipush (v := (-2)) hx hb dd_X11_sight_37 (by decide) ?_
        refine hk_i (wr := [(q 5, .inr (1, fHall (fun k => q (5 + k)))), (q 27, .inr (8, fSightings (fun k => q (27 + k)))), (q 28, .inl (cy 0, 20, .inl (fun _ => 0))), (q 29, .inl (cy 0, 20, .inl (fun _ => 0))), (q 30, .inl (cy 0, 20, .inl (fun _ => 0))), (q 31, .inl (cy 0, 20, .inl (fun _ => 0))), (q 32, .inl (cy 0, 20, .inl (fun _ => 0))), (q 33, .inl (cy 0, 20, .inl (fun _ => 0))), (q 34, .inl (cy 0, 20, .inl (fun _ => 0)))]) (c1 := 0) (s1 := 0) [0, 1] [2, 3, 4, 5, 6, 7, 8, 9, 10] (hc_V [.int (-2)] [] [0, 1] Sx hl.1 ws_X_63 md_X11_refuse (c_refuse_2 l D cy q) ⟨Nat.le_of_ble_eq_true rfl, Nat.le_of_ble_eq_true rfl⟩ hP hD rfl (by decide) hK nx_b (nx_w hX) (va_recv hK hP (ci := 11) (q0 := 0) rfl rfl) rfl rfl (Nat.le_of_ble_eq_true rfl) dd_X11_sight_39 ⟨Nat.le_of_ble_eq_true rfl, Nat.le_of_ble_eq_true rfl⟩) hS hA hP hD rfl rfl (by decide) (by decide) rfl rfl (fun r19 u20 H locs hw21 hP hD hS => ?_)
        have hP : va_P D cls [(q 5, .inr (1, fHall (fun k => q (5 + k)))), (q 27, .inr (8, fSightings (fun k => q (27 + k)))), (q 28, .inl (cy 0, 20, .inl (fun _ => 0))), (q 29, .inl (cy 0, 20, .inl (fun _ => 0))), (q 30, .inl (cy 0, 20, .inl (fun _ => 0))), (q 31, .inl (cy 0, 20, .inl (fun _ => 0))), (q 32, .inl (cy 0, 20, .inl (fun _ => 0))), (q 33, .inl (cy 0, 20, .inl (fun _ => 0))), (q 34, .inl (cy 0, 20, .inl (fun _ => 0)))] H := hP
        have hD : va_D A [(q 5, .inr (1, fHall (fun k => q (5 + k)))), (q 27, .inr (8, fSightings (fun k => q (27 + k)))), (q 28, .inl (cy 0, 20, .inl (fun _ => 0))), (q 29, .inl (cy 0, 20, .inl (fun _ => 0))), (q 30, .inl (cy 0, 20, .inl (fun _ => 0))), (q 31, .inl (cy 0, 20, .inl (fun _ => 0))), (q 32, .inl (cy 0, 20, .inl (fun _ => 0))), (q 33, .inl (cy 0, 20, .inl (fun _ => 0))), (q 34, .inl (cy 0, 20, .inl (fun _ => 0)))] := hD
        subst hw21
        exact hc_ret Sx hr hlocks dd_X11_sight_42 hS () (Or.inr ⟨by omega, rfl⟩) p_nil d_nil
    · have hl22 : Int32.toInt 0 = 0 := rfl
      have hl23 : Int32.toInt 255 = 255 := rfl
      subst ehw6
      refine lv_if_eq (tgt := 36) hx hb dd_X11_sight_18 (by decide) (fun _ => ?_) (fun c => absurd c (by decide))
      refine lv_aload_n hx hb dd_X11_sight_36 rfl (lv_at hl 0 rfl) ?_
      refine lv_bipush (v := (-2)) hx hb dd_X11_sight_37 (by decide) ?_
      refine hk_i (wr := [(q 5, .inr (1, fHall (fun k => q (5 + k)))), (q 27, .inr (8, fSightings (fun k => q (27 + k)))), (q 28, .inl (cy 0, 20, .inl (fun _ => 0))), (q 29, .inl (cy 0, 20, .inl (fun _ => 0))), (q 30, .inl (cy 0, 20, .inl (fun _ => 0))), (q 31, .inl (cy 0, 20, .inl (fun _ => 0))), (q 32, .inl (cy 0, 20, .inl (fun _ => 0))), (q 33, .inl (cy 0, 20, .inl (fun _ => 0))), (q 34, .inl (cy 0, 20, .inl (fun _ => 0)))]) (c1 := 0) (s1 := 0) [0, 1] [2, 3, 4, 5, 6, 7, 8, 9, 10] (hc_V [.int (-2)] [] [0, 1] Sx hl.1 ws_X_63 md_X11_refuse (c_refuse_2 l D cy q) ⟨Nat.le_of_ble_eq_true rfl, Nat.le_of_ble_eq_true rfl⟩ hP hD rfl (by decide) hK nx_b (nx_w hX) (va_recv hK hP (ci := 11) (q0 := 0) rfl rfl) rfl rfl (Nat.le_of_ble_eq_true rfl) dd_X11_sight_39 ⟨Nat.le_of_ble_eq_true rfl, Nat.le_of_ble_eq_true rfl⟩) hS hA hP hD rfl rfl (by decide) (by decide) rfl rfl (fun r24 u25 H locs hw26 hP hD hS => ?_)
      have hP : va_P D cls [(q 5, .inr (1, fHall (fun k => q (5 + k)))), (q 27, .inr (8, fSightings (fun k => q (27 + k)))), (q 28, .inl (cy 0, 20, .inl (fun _ => 0))), (q 29, .inl (cy 0, 20, .inl (fun _ => 0))), (q 30, .inl (cy 0, 20, .inl (fun _ => 0))), (q 31, .inl (cy 0, 20, .inl (fun _ => 0))), (q 32, .inl (cy 0, 20, .inl (fun _ => 0))), (q 33, .inl (cy 0, 20, .inl (fun _ => 0))), (q 34, .inl (cy 0, 20, .inl (fun _ => 0)))] H := hP
      have hD : va_D A [(q 5, .inr (1, fHall (fun k => q (5 + k)))), (q 27, .inr (8, fSightings (fun k => q (27 + k)))), (q 28, .inl (cy 0, 20, .inl (fun _ => 0))), (q 29, .inl (cy 0, 20, .inl (fun _ => 0))), (q 30, .inl (cy 0, 20, .inl (fun _ => 0))), (q 31, .inl (cy 0, 20, .inl (fun _ => 0))), (q 32, .inl (cy 0, 20, .inl (fun _ => 0))), (q 33, .inl (cy 0, 20, .inl (fun _ => 0))), (q 34, .inl (cy 0, 20, .inl (fun _ => 0)))] := hD
      subst hw26
      exact hc_ret Sx hr hlocks dd_X11_sight_42 hS () (Or.inr ⟨by omega, rfl⟩) p_nil d_nil
  · have hl27 : Int32.toInt 0 = 0 := rfl
    have hl28 : Int32.toInt 99 = 99 := rfl
    subst ehw2
    refine lv_if_eq (tgt := 36) hx hb dd_X11_sight_7 (by decide) (fun _ => ?_) (fun c => absurd c (by decide))
    refine lv_aload_n hx hb dd_X11_sight_36 rfl (lv_at hl 0 rfl) ?_
    refine lv_bipush (v := (-2)) hx hb dd_X11_sight_37 (by decide) ?_
    refine hk_i (wr := [(q 5, .inr (1, fHall (fun k => q (5 + k)))), (q 27, .inr (8, fSightings (fun k => q (27 + k)))), (q 28, .inl (cy 0, 20, .inl (fun _ => 0))), (q 29, .inl (cy 0, 20, .inl (fun _ => 0))), (q 30, .inl (cy 0, 20, .inl (fun _ => 0))), (q 31, .inl (cy 0, 20, .inl (fun _ => 0))), (q 32, .inl (cy 0, 20, .inl (fun _ => 0))), (q 33, .inl (cy 0, 20, .inl (fun _ => 0))), (q 34, .inl (cy 0, 20, .inl (fun _ => 0)))]) (c1 := 0) (s1 := 0) [0, 1] [2, 3, 4, 5, 6, 7, 8, 9, 10] (hc_V [.int (-2)] [] [0, 1] Sx hl.1 ws_X_63 md_X11_refuse (c_refuse_2 l D cy q) ⟨Nat.le_of_ble_eq_true rfl, Nat.le_of_ble_eq_true rfl⟩ hP hD rfl (by decide) hK nx_b (nx_w hX) (va_recv hK hP (ci := 11) (q0 := 0) rfl rfl) rfl rfl (Nat.le_of_ble_eq_true rfl) dd_X11_sight_39 ⟨Nat.le_of_ble_eq_true rfl, Nat.le_of_ble_eq_true rfl⟩) hS hA hP hD rfl rfl (by decide) (by decide) rfl rfl (fun r29 u30 H locs hw31 hP hD hS => ?_)
    have hP : va_P D cls [(q 5, .inr (1, fHall (fun k => q (5 + k)))), (q 27, .inr (8, fSightings (fun k => q (27 + k)))), (q 28, .inl (cy 0, 20, .inl (fun _ => 0))), (q 29, .inl (cy 0, 20, .inl (fun _ => 0))), (q 30, .inl (cy 0, 20, .inl (fun _ => 0))), (q 31, .inl (cy 0, 20, .inl (fun _ => 0))), (q 32, .inl (cy 0, 20, .inl (fun _ => 0))), (q 33, .inl (cy 0, 20, .inl (fun _ => 0))), (q 34, .inl (cy 0, 20, .inl (fun _ => 0)))] H := hP
    have hD : va_D A [(q 5, .inr (1, fHall (fun k => q (5 + k)))), (q 27, .inr (8, fSightings (fun k => q (27 + k)))), (q 28, .inl (cy 0, 20, .inl (fun _ => 0))), (q 29, .inl (cy 0, 20, .inl (fun _ => 0))), (q 30, .inl (cy 0, 20, .inl (fun _ => 0))), (q 31, .inl (cy 0, 20, .inl (fun _ => 0))), (q 32, .inl (cy 0, 20, .inl (fun _ => 0))), (q 33, .inl (cy 0, 20, .inl (fun _ => 0))), (q 34, .inl (cy 0, 20, .inl (fun _ => 0)))] := hD
    subst hw31
    exact hc_ret Sx hr hlocks dd_X11_sight_42 hS () (Or.inr ⟨by omega, rfl⟩) p_nil d_nil
set_option maxHeartbeats 4000000 in
set_option maxRecDepth 100000 in
theorem c_X_vases (l : Launch) (D : va_G) (cy : Nat → ClassId) (q : Nat → Nat) : HC l my_X11_vases mb_X11_vases 1 ((some .int)) (rmD 3 0 0) D (TY cy) [.ref (q 0)] NX [(q 0, .inr (11, fX q)), (q 5, .inr (1, fHall (fun k => q (5 + k)))), (q 27, .inr (8, fSightings (fun k => q (27 + k)))), (q 28, .inl (cy 0, 20, .inl (fun _ => 0))), (q 29, .inl (cy 0, 20, .inl (fun _ => 0))), (q 30, .inl (cy 0, 20, .inl (fun _ => 0))), (q 31, .inl (cy 0, 20, .inl (fun _ => 0))), (q 32, .inl (cy 0, 20, .inl (fun _ => 0))), (q 33, .inl (cy 0, 20, .inl (fun _ => 0))), (q 34, .inl (cy 0, 20, .inl (fun _ => 0)))] (QI (S := Unit) D (fun r _ => r = 0) (fun _ => [])) := by
  refine hc_intro (by decide) (Nat.le_of_ble_eq_true rfl) (fun p e s m below meth c A ls Sx hr hlocks hin hl hP hD hK hS hA hX => ?_)
  have hx := Sx.1
  have hb := Sx.2.1
  have hl : lv_has ls 1 [(0, .ref (q 0))] := hl
  have hP : va_P D cls [(q 0, .inr (11, fX q)), (q 5, .inr (1, fHall (fun k => q (5 + k)))), (q 27, .inr (8, fSightings (fun k => q (27 + k)))), (q 28, .inl (cy 0, 20, .inl (fun _ => 0))), (q 29, .inl (cy 0, 20, .inl (fun _ => 0))), (q 30, .inl (cy 0, 20, .inl (fun _ => 0))), (q 31, .inl (cy 0, 20, .inl (fun _ => 0))), (q 32, .inl (cy 0, 20, .inl (fun _ => 0))), (q 33, .inl (cy 0, 20, .inl (fun _ => 0))), (q 34, .inl (cy 0, 20, .inl (fun _ => 0)))] s.heap := hP
  have hD : va_D A [(q 0, .inr (11, fX q)), (q 5, .inr (1, fHall (fun k => q (5 + k)))), (q 27, .inr (8, fSightings (fun k => q (27 + k)))), (q 28, .inl (cy 0, 20, .inl (fun _ => 0))), (q 29, .inl (cy 0, 20, .inl (fun _ => 0))), (q 30, .inl (cy 0, 20, .inl (fun _ => 0))), (q 31, .inl (cy 0, 20, .inl (fun _ => 0))), (q 32, .inl (cy 0, 20, .inl (fun _ => 0))), (q 33, .inl (cy 0, 20, .inl (fun _ => 0))), (q 34, .inl (cy 0, 20, .inl (fun _ => 0)))] := hD
  refine lv_aload_n hx hb dd_X11_vases_0 rfl (lv_at hl 0 rfl) ?_
  refine wk_get (v := .ref (q 5)) Sx ef_11 hK hP 0 rfl rfl 3 (by decide) kk_385 rfl dd_X11_vases_1 ?_
  refine wk_get (v := .ref (q 27)) Sx ef_1 hK hP 1 rfl rfl 4 (by decide) kk_269 rfl dd_X11_vases_4 ?_
  refine hk_i (wr := [(q 0, .inr (11, fX q)), (q 5, .inr (1, fHall (fun k => q (5 + k))))]) (c1 := 0) (s1 := 0) [2, 3, 4, 5, 6, 7, 8, 9] [0, 1] (hc_V [] [] [2, 3, 4, 5, 6, 7, 8, 9] Sx hl.1 ws_X_333 md_X8_fewestVases (c_fewestVases l D cy (fun k => q (27 + k))) ⟨Nat.le_of_ble_eq_true rfl, Nat.le_of_ble_eq_true rfl⟩ hP hD rfl (by decide) hK nx_b (nx_w hX) (va_recv hK hP (ci := 8) (q0 := 2) rfl rfl) rfl rfl (Nat.le_of_ble_eq_true rfl) dd_X11_vases_7 ⟨Nat.le_of_ble_eq_true rfl, Nat.le_of_ble_eq_true rfl⟩) hS hA hP hD rfl rfl (by decide) (by decide) rfl rfl (fun r1 u2 H locs hw3 hP hD hS => ?_)
  have hP : va_P D cls [(q 0, .inr (11, fX q)), (q 5, .inr (1, fHall (fun k => q (5 + k))))] H := hP
  have hD : va_D A [(q 0, .inr (11, fX q)), (q 5, .inr (1, fHall (fun k => q (5 + k))))] := hD
  subst hw3
  exact hc_ret Sx hr hlocks dd_X11_vases_10 hS () rfl p_nil d_nil
set_option maxHeartbeats 4000000 in
set_option maxRecDepth 100000 in
theorem c_X_longest (l : Launch) (D : va_G) (cy : Nat → ClassId) (q : Nat → Nat) : PC l my_X11_longest mb_X11_longest 1 ((some .int)) (rmD 2 0 0) D (TY cy) [.ref (q 0)] NS [(q 0, .inr (11, fX q)), (q 5, .inr (1, fHall (fun k => q (5 + k)))), (q 27, .inr (8, fSightings (fun k => q (27 + k))))] (vp_Si (fun r => r = 0)) := by
  refine pc_intro (by decide) (Nat.le_of_ble_eq_true rfl) (fun p e s m below meth c ls Sx hr hlocks hl hP hK hX => ?_)
  have hx := Sx.1
  have hb := Sx.2.1
  have hl : lv_has ls 1 [(0, .ref (q 0))] := hl
  refine lv_aload_n hx hb dd_X11_longest_0 rfl (lv_at hl 0 rfl) ?_
  refine wk_get (v := .ref (q 5)) Sx ef_11 hK hP 0 rfl rfl 3 (by decide) kk_385 rfl dd_X11_longest_1 ?_
  refine wk_get (v := .ref (q 27)) Sx ef_1 hK hP 1 rfl rfl 4 (by decide) kk_269 rfl dd_X11_longest_4 ?_
  refine pk_i (pc_V [] [] Sx hl.1 ws_X_336 md_X8_longestRow (c_longestRow l D cy (fun k => q (27 + k))) ⟨rfl, rfl⟩ ⟨Nat.le_of_ble_eq_true rfl, Nat.le_of_ble_eq_true rfl⟩ (hP.sub [2] rfl) hK ns_b (ns_w hX) (va_recv hK hP (ci := 8) (q0 := 2) rfl rfl) rfl rfl (Nat.le_of_ble_eq_true rfl) dd_X11_longest_7 ⟨Nat.le_of_ble_eq_true rfl, Nat.le_of_ble_eq_true rfl⟩) (fun r1 hw2 => ?_)
  subst hw2
  exact pc_ret Sx hr hlocks rfl dd_X11_longest_10 rfl
set_option maxHeartbeats 4000000 in
set_option maxRecDepth 100000 in
theorem c_X_looks (l : Launch) (D : va_G) (cy : Nat → ClassId) (q : Nat → Nat) (pe : Int32) (ta : Int32) : HC l my_X11_looks mb_X11_looks 4 ((some .int)) (rmD 3 0 0) D (TY cy) [.ref (q 0), .int pe, .int ta] NX [(q 0, .inr (11, fX q)), (q 2, .inl (cy 0, 5, .inl (fun _ => 0))), (q 5, .inr (1, fHall (fun k => q (5 + k)))), (q 35, .inr (6, fSecrets (fun k => q (35 + k)))), (q 38, .inl (cy 0, 16, .inl (fun _ => 0)))] (QI (S := Unit) D (fun r _ => if2 (0 ≤ pe.toInt ∧ pe.toInt ≤ 15 ∧ 0 ≤ ta.toInt ∧ ta.toInt ≤ 31) 0 (-2) r) (fun _ => [])) := by
  refine hc_intro (by decide) (Nat.le_of_ble_eq_true rfl) (fun p e s m below meth c A ls Sx hr hlocks hin hl hP hD hK hS hA hX => ?_)
  have hx := Sx.1
  have hb := Sx.2.1
  have hl : lv_has ls 4 [(0, .ref (q 0)), (1, .int pe), (2, .int ta)] := hl
  have hP : va_P D cls [(q 0, .inr (11, fX q)), (q 2, .inl (cy 0, 5, .inl (fun _ => 0))), (q 5, .inr (1, fHall (fun k => q (5 + k)))), (q 35, .inr (6, fSecrets (fun k => q (35 + k)))), (q 38, .inl (cy 0, 16, .inl (fun _ => 0)))] s.heap := hP
  have hD : va_D A [(q 0, .inr (11, fX q)), (q 2, .inl (cy 0, 5, .inl (fun _ => 0))), (q 5, .inr (1, fHall (fun k => q (5 + k)))), (q 35, .inr (6, fSecrets (fun k => q (35 + k)))), (q 38, .inl (cy 0, 16, .inl (fun _ => 0)))] := hD
  refine lv_iload_n hx hb dd_X11_looks_0 rfl (lv_at hl 1 rfl) ?_
  refine pk_i (pc_T [.int pe] [] Sx hl.1 ws_X_339 md_X11_isPerson (c_isPerson l D cy pe) ⟨rfl, rfl⟩ ⟨Nat.le_of_ble_eq_true rfl, Nat.le_of_ble_eq_true rfl⟩ p_nil hK ns_b (ns_w hX) rfl rfl (Nat.le_of_ble_eq_true rfl) dd_X11_looks_1 ⟨Nat.le_of_ble_eq_true rfl, Nat.le_of_ble_eq_true rfl⟩) (fun r1 hw2 => ?_)
  rcases hw2 with ⟨hw2, ehw2⟩ | ⟨hw2, ehw2⟩
  · subst ehw2
    refine lv_if_eq (tgt := 17) hx hb dd_X11_looks_4 (by decide) (fun c => absurd c (by decide)) (fun _ => ?_)
    refine lv_iload_n hx hb dd_X11_looks_7 rfl (lv_at hl 2 rfl) ?_
    refine lv_iconst (v := 0) hx hb dd_X11_looks_8 (by decide) ?_
    refine lv_bipush (v := 31) hx hb dd_X11_looks_9 (by decide) ?_
    refine pk_i (pc_T [.int ta, .int 0, .int 31] [] Sx hl.1 ws_X_59 md_X11_within (c_within l D cy ta 0 31) ⟨rfl, rfl⟩ ⟨Nat.le_of_ble_eq_true rfl, Nat.le_of_ble_eq_true rfl⟩ p_nil hK ns_b (ns_w hX) rfl rfl (Nat.le_of_ble_eq_true rfl) dd_X11_looks_11 ⟨Nat.le_of_ble_eq_true rfl, Nat.le_of_ble_eq_true rfl⟩) (fun r3 hw4 => ?_)
    rcases hw4 with ⟨hw4, ehw4⟩ | ⟨hw4, ehw4⟩
    · have hl5 : Int32.toInt 0 = 0 := rfl
      have hl6 : Int32.toInt 31 = 31 := rfl
      subst ehw4
      refine lv_if_ne (tgt := 24) hx hb dd_X11_looks_14 (by decide) (fun _ => ?_) (fun c => absurd c (by decide))
      refine lv_aload_n hx hb dd_X11_looks_24 rfl (lv_at hl 0 rfl) ?_
      refine wk_get (v := .ref (q 5)) Sx ef_11 hK hP 0 rfl rfl 3 (by decide) kk_385 rfl dd_X11_looks_25 ?_
      refine wk_get (v := .ref (q 35)) Sx ef_1 hK hP 2 rfl rfl 5 (by decide) kk_271 rfl dd_X11_looks_28 ?_
      refine wk_get (v := .ref (q 38)) Sx ef_6 hK hP 3 rfl rfl 3 (by decide) kk_233 rfl dd_X11_looks_31 ?_
      refine lv_iload_n hx hb dd_X11_looks_34 rfl (lv_at hl 1 rfl) ?_
      have hi7 : vp_in pe 16 := (vi_of (by omega))
      refine va_iald hx hb hK hP 4 0 rfl rfl hi7 dd_X11_looks_35 ?_
      refine wk_int (v := 0) rfl ?_
      refine lv_istore_n (lv' := [(3, .int 0), (0, .ref (q 0)), (1, .int pe), (2, .int ta)]) hx hb dd_X11_looks_36 rfl hl (by decide) rfl (fun ls hl => ?_)
      refine lv_aload_n hx hb dd_X11_looks_37 rfl (lv_at hl 1 rfl) ?_
      refine wk_get (v := .ref (q 5)) Sx ef_11 hK hP 0 rfl rfl 3 (by decide) kk_385 rfl dd_X11_looks_38 ?_
      refine wk_get (v := .ref (q 35)) Sx ef_1 hK hP 2 rfl rfl 5 (by decide) kk_271 rfl dd_X11_looks_41 ?_
      refine wk_get (v := .ref (q 38)) Sx ef_6 hK hP 3 rfl rfl 3 (by decide) kk_233 rfl dd_X11_looks_44 ?_
      refine lv_iload_n hx hb dd_X11_looks_47 rfl (lv_at hl 2 rfl) ?_
      refine lv_iload_n hx hb dd_X11_looks_48 rfl (lv_at hl 3 rfl) ?_
      refine wk_iast (ws' := [(q 0, .inr (11, fX q)), (q 2, .inl (cy 0, 5, .inl (fun _ => 0))), (q 5, .inr (1, fHall (fun k => q (5 + k)))), (q 35, .inr (6, fSecrets (fun k => q (35 + k)))), (q 38, .inl (cy 0, 16, .inl (upd (fun _ => 0) pe.toNatClampNeg ta)))]) Sx hK hP hD hS 4 0 rfl rfl (vi_of (by omega)) dd_X11_looks_49 rfl (fun H locs hP hD hS => ?_)
      refine lv_iload_n hx hb dd_X11_looks_50 rfl (lv_at hl 0 rfl) ?_
      exact hc_ret Sx hr hlocks dd_X11_looks_51 hS () (Or.inl ⟨by omega, rfl⟩) p_nil d_nil
    · have hl8 : Int32.toInt 0 = 0 := rfl
      have hl9 : Int32.toInt 31 = 31 := rfl
      subst ehw4
      refine lv_if_ne (tgt := 24) hx hb dd_X11_looks_14 (by decide) (fun c => absurd c (by decide)) (fun _ => ?_)
      refine lv_aload_n hx hb dd_X11_looks_17 rfl (lv_at hl 0 rfl) ?_
      refine lv_bipush (v := (-2)) hx hb dd_X11_looks_18 (by decide) ?_
      refine hk_i (wr := [(q 5, .inr (1, fHall (fun k => q (5 + k)))), (q 35, .inr (6, fSecrets (fun k => q (35 + k)))), (q 38, .inl (cy 0, 16, .inl (fun _ => 0)))]) (c1 := 0) (s1 := 0) [0, 1] [2, 3, 4] (hc_V [.int (-2)] [] [0, 1] Sx hl.1 ws_X_63 md_X11_refuse (c_refuse_2 l D cy q) ⟨Nat.le_of_ble_eq_true rfl, Nat.le_of_ble_eq_true rfl⟩ hP hD rfl (by decide) hK nx_b (nx_w hX) (va_recv hK hP (ci := 11) (q0 := 0) rfl rfl) rfl rfl (Nat.le_of_ble_eq_true rfl) dd_X11_looks_20 ⟨Nat.le_of_ble_eq_true rfl, Nat.le_of_ble_eq_true rfl⟩) hS hA hP hD rfl rfl (by decide) (by decide) rfl rfl (fun r10 u11 H locs hw12 hP hD hS => ?_)
      have hP : va_P D cls [(q 5, .inr (1, fHall (fun k => q (5 + k)))), (q 35, .inr (6, fSecrets (fun k => q (35 + k)))), (q 38, .inl (cy 0, 16, .inl (fun _ => 0)))] H := hP
      have hD : va_D A [(q 5, .inr (1, fHall (fun k => q (5 + k)))), (q 35, .inr (6, fSecrets (fun k => q (35 + k)))), (q 38, .inl (cy 0, 16, .inl (fun _ => 0)))] := hD
      subst hw12
      exact hc_ret Sx hr hlocks dd_X11_looks_23 hS () (Or.inr ⟨by omega, rfl⟩) p_nil d_nil
  · subst ehw2
    refine lv_if_eq (tgt := 17) hx hb dd_X11_looks_4 (by decide) (fun _ => ?_) (fun c => absurd c (by decide))
    refine lv_aload_n hx hb dd_X11_looks_17 rfl (lv_at hl 0 rfl) ?_
    refine lv_bipush (v := (-2)) hx hb dd_X11_looks_18 (by decide) ?_
    refine hk_i (wr := [(q 5, .inr (1, fHall (fun k => q (5 + k)))), (q 35, .inr (6, fSecrets (fun k => q (35 + k)))), (q 38, .inl (cy 0, 16, .inl (fun _ => 0)))]) (c1 := 0) (s1 := 0) [0, 1] [2, 3, 4] (hc_V [.int (-2)] [] [0, 1] Sx hl.1 ws_X_63 md_X11_refuse (c_refuse_2 l D cy q) ⟨Nat.le_of_ble_eq_true rfl, Nat.le_of_ble_eq_true rfl⟩ hP hD rfl (by decide) hK nx_b (nx_w hX) (va_recv hK hP (ci := 11) (q0 := 0) rfl rfl) rfl rfl (Nat.le_of_ble_eq_true rfl) dd_X11_looks_20 ⟨Nat.le_of_ble_eq_true rfl, Nat.le_of_ble_eq_true rfl⟩) hS hA hP hD rfl rfl (by decide) (by decide) rfl rfl (fun r13 u14 H locs hw15 hP hD hS => ?_)
    have hP : va_P D cls [(q 5, .inr (1, fHall (fun k => q (5 + k)))), (q 35, .inr (6, fSecrets (fun k => q (35 + k)))), (q 38, .inl (cy 0, 16, .inl (fun _ => 0)))] H := hP
    have hD : va_D A [(q 5, .inr (1, fHall (fun k => q (5 + k)))), (q 35, .inr (6, fSecrets (fun k => q (35 + k)))), (q 38, .inl (cy 0, 16, .inl (fun _ => 0)))] := hD
    subst hw15
    exact hc_ret Sx hr hlocks dd_X11_looks_23 hS () (Or.inr ⟨by omega, rfl⟩) p_nil d_nil
set_option maxHeartbeats 4000000 in
set_option maxRecDepth 100000 in
theorem c_X_back (l : Launch) (D : va_G) (cy : Nat → ClassId) (q : Nat → Nat) : HC l my_X11_back mb_X11_back 2 ((some .int)) (rmD 3 0 0) D (TY cy) [.ref (q 0)] NX [(q 0, .inr (11, fX q)), (q 2, .inl (cy 0, 5, .inl (fun _ => 0)))] (QI (S := Unit) D (fun r _ => r = (-5)) (fun _ => [])) := by
  refine hc_intro (by decide) (Nat.le_of_ble_eq_true rfl) (fun p e s m below meth c A ls Sx hr hlocks hin hl hP hD hK hS hA hX => ?_)
  have hx := Sx.1
  have hb := Sx.2.1
  have hl : lv_has ls 2 [(0, .ref (q 0))] := hl
  have hP : va_P D cls [(q 0, .inr (11, fX q)), (q 2, .inl (cy 0, 5, .inl (fun _ => 0)))] s.heap := hP
  have hD : va_D A [(q 0, .inr (11, fX q)), (q 2, .inl (cy 0, 5, .inl (fun _ => 0)))] := hD
  refine lv_aload_n hx hb dd_X11_back_0 rfl (lv_at hl 0 rfl) ?_
  refine wk_get (v := .int 0) Sx ef_11 hK hP 0 rfl rfl 7 (by decide) kk_389 rfl dd_X11_back_1 ?_
  refine lv_if_ne (tgt := 14) hx hb dd_X11_back_4 (by decide) (fun c => absurd c (by decide)) (fun _ => ?_)
  refine lv_aload_n hx hb dd_X11_back_7 rfl (lv_at hl 0 rfl) ?_
  refine lv_bipush (v := (-5)) hx hb dd_X11_back_8 (by decide) ?_
  refine hk_i (wr := []) (c1 := 0) (s1 := 0) [0, 1] [] (hc_V [.int (-5)] [] [0, 1] Sx hl.1 ws_X_63 md_X11_refuse (c_refuse_5 l D cy q) ⟨Nat.le_of_ble_eq_true rfl, Nat.le_of_ble_eq_true rfl⟩ hP hD rfl (by decide) hK nx_b (nx_w hX) (va_recv hK hP (ci := 11) (q0 := 0) rfl rfl) rfl rfl (Nat.le_of_ble_eq_true rfl) dd_X11_back_10 ⟨Nat.le_of_ble_eq_true rfl, Nat.le_of_ble_eq_true rfl⟩) hS hA hP hD rfl rfl (by decide) (by decide) rfl rfl (fun r1 u2 H locs hw3 hP hD hS => ?_)
  have hP : va_P D cls [] H := hP
  have hD : va_D A [] := hD
  subst hw3
  exact hc_ret Sx hr hlocks dd_X11_back_13 hS () rfl p_nil d_nil
set_option maxHeartbeats 4000000 in
set_option maxRecDepth 100000 in
theorem c_X_shown (l : Launch) (D : va_G) (cy : Nat → ClassId) (q : Nat → Nat) (mi : Int32) : HC l my_X11_shown mb_X11_shown 2 ((some .int)) (rmD 3 0 0) D (TY cy) [.ref (q 0), .int mi] NX [(q 0, .inr (11, fX q)), (q 2, .inl (cy 0, 5, .inl (fun _ => 0))), (q 5, .inr (1, fHall (fun k => q (5 + k)))), (q 6, .inr (10, fThings (fun k => q (6 + k)))), (q 94, .inr (4, fPicks (fun k => q (94 + k)))), (q 95, .inl (cy 0, 10000, .inl (fun _ => 0))), (q 96, .inl (cy 0, 201, .inl (fun _ => 0)))] (QI (S := Unit) D (fun r _ => if2 (0 ≤ mi.toInt ∧ mi.toInt ≤ 200) 0 (-2) r) (fun _ => [])) := by
  refine hc_intro (by decide) (Nat.le_of_ble_eq_true rfl) (fun p e s m below meth c A ls Sx hr hlocks hin hl hP hD hK hS hA hX => ?_)
  have hx := Sx.1
  have hb := Sx.2.1
  have hl : lv_has ls 2 [(0, .ref (q 0)), (1, .int mi)] := hl
  have hP : va_P D cls [(q 0, .inr (11, fX q)), (q 2, .inl (cy 0, 5, .inl (fun _ => 0))), (q 5, .inr (1, fHall (fun k => q (5 + k)))), (q 6, .inr (10, fThings (fun k => q (6 + k)))), (q 94, .inr (4, fPicks (fun k => q (94 + k)))), (q 95, .inl (cy 0, 10000, .inl (fun _ => 0))), (q 96, .inl (cy 0, 201, .inl (fun _ => 0)))] s.heap := hP
  have hD : va_D A [(q 0, .inr (11, fX q)), (q 2, .inl (cy 0, 5, .inl (fun _ => 0))), (q 5, .inr (1, fHall (fun k => q (5 + k)))), (q 6, .inr (10, fThings (fun k => q (6 + k)))), (q 94, .inr (4, fPicks (fun k => q (94 + k)))), (q 95, .inl (cy 0, 10000, .inl (fun _ => 0))), (q 96, .inl (cy 0, 201, .inl (fun _ => 0)))] := hD
  refine lv_iload_n hx hb dd_X11_shown_0 rfl (lv_at hl 1 rfl) ?_
  refine lv_iconst (v := 0) hx hb dd_X11_shown_1 (by decide) ?_
  refine lv_sipush (v := 200) hx hb dd_X11_shown_2 (by decide) ?_
  refine pk_i (pc_T [.int mi, .int 0, .int 200] [] Sx hl.1 ws_X_59 md_X11_within (c_within l D cy mi 0 200) ⟨rfl, rfl⟩ ⟨Nat.le_of_ble_eq_true rfl, Nat.le_of_ble_eq_true rfl⟩ p_nil hK ns_b (ns_w hX) rfl rfl (Nat.le_of_ble_eq_true rfl) dd_X11_shown_5 ⟨Nat.le_of_ble_eq_true rfl, Nat.le_of_ble_eq_true rfl⟩) (fun r1 hw2 => ?_)
  rcases hw2 with ⟨hw2, ehw2⟩ | ⟨hw2, ehw2⟩
  · have hl3 : Int32.toInt 0 = 0 := rfl
    have hl4 : Int32.toInt 200 = 200 := rfl
    subst ehw2
    refine lv_if_ne (tgt := 18) hx hb dd_X11_shown_8 (by decide) (fun _ => ?_) (fun c => absurd c (by decide))
    refine lv_aload_n hx hb dd_X11_shown_18 rfl (lv_at hl 0 rfl) ?_
    refine wk_get (v := .ref (q 94)) Sx ef_11 hK hP 0 rfl rfl 6 (by decide) kk_388 rfl dd_X11_shown_19 ?_
    refine lv_aload_n hx hb dd_X11_shown_22 rfl (lv_at hl 0 rfl) ?_
    refine wk_get (v := .ref (q 5)) Sx ef_11 hK hP 0 rfl rfl 3 (by decide) kk_385 rfl dd_X11_shown_23 ?_
    refine wk_get (v := .ref (q 6)) Sx ef_1 hK hP 2 rfl rfl 0 (by decide) kk_260 rfl dd_X11_shown_26 ?_
    refine lv_iload_n hx hb dd_X11_shown_29 rfl (lv_at hl 1 rfl) ?_
    refine hk_i (wr := [(q 0, .inr (11, fX q)), (q 2, .inl (cy 0, 5, .inl (fun _ => 0))), (q 5, .inr (1, fHall (fun k => q (5 + k))))]) (c1 := 0) (s1 := 0) [4, 5, 6, 3] [0, 1, 2] (hc_V [.ref (q 6), .int mi] [] [4, 5, 6, 3] Sx hl.1 ws_X_299 md_X4_bargains (c_bargains l D cy (fun k => q (94 + k)) (fun k => q (6 + k)) mi (by omega)) ⟨Nat.le_of_ble_eq_true rfl, Nat.le_of_ble_eq_true rfl⟩ hP hD rfl (by decide) hK nx_b (nx_w hX) (va_recv hK hP (ci := 4) (q0 := 4) rfl rfl) rfl rfl (Nat.le_of_ble_eq_true rfl) dd_X11_shown_30 ⟨Nat.le_of_ble_eq_true rfl, Nat.le_of_ble_eq_true rfl⟩) hS hA hP hD rfl rfl (by decide) (by decide) rfl rfl (fun r5 u6 H locs hw7 hP hD hS => ?_)
    have hP : va_P D cls [(q 0, .inr (11, fX q)), (q 2, .inl (cy 0, 5, .inl (fun _ => 0))), (q 5, .inr (1, fHall (fun k => q (5 + k))))] H := hP
    have hD : va_D A [(q 0, .inr (11, fX q)), (q 2, .inl (cy 0, 5, .inl (fun _ => 0))), (q 5, .inr (1, fHall (fun k => q (5 + k))))] := hD
    subst hw7
    exact hc_ret Sx hr hlocks dd_X11_shown_33 hS () (Or.inl ⟨by omega, rfl⟩) p_nil d_nil
  · have hl8 : Int32.toInt 0 = 0 := rfl
    have hl9 : Int32.toInt 200 = 200 := rfl
    subst ehw2
    refine lv_if_ne (tgt := 18) hx hb dd_X11_shown_8 (by decide) (fun c => absurd c (by decide)) (fun _ => ?_)
    refine lv_aload_n hx hb dd_X11_shown_11 rfl (lv_at hl 0 rfl) ?_
    refine lv_bipush (v := (-2)) hx hb dd_X11_shown_12 (by decide) ?_
    refine hk_i (wr := [(q 5, .inr (1, fHall (fun k => q (5 + k)))), (q 6, .inr (10, fThings (fun k => q (6 + k)))), (q 94, .inr (4, fPicks (fun k => q (94 + k)))), (q 95, .inl (cy 0, 10000, .inl (fun _ => 0))), (q 96, .inl (cy 0, 201, .inl (fun _ => 0)))]) (c1 := 0) (s1 := 0) [0, 1] [2, 3, 4, 5, 6] (hc_V [.int (-2)] [] [0, 1] Sx hl.1 ws_X_63 md_X11_refuse (c_refuse_2 l D cy q) ⟨Nat.le_of_ble_eq_true rfl, Nat.le_of_ble_eq_true rfl⟩ hP hD rfl (by decide) hK nx_b (nx_w hX) (va_recv hK hP (ci := 11) (q0 := 0) rfl rfl) rfl rfl (Nat.le_of_ble_eq_true rfl) dd_X11_shown_14 ⟨Nat.le_of_ble_eq_true rfl, Nat.le_of_ble_eq_true rfl⟩) hS hA hP hD rfl rfl (by decide) (by decide) rfl rfl (fun r10 u11 H locs hw12 hP hD hS => ?_)
    have hP : va_P D cls [(q 5, .inr (1, fHall (fun k => q (5 + k)))), (q 6, .inr (10, fThings (fun k => q (6 + k)))), (q 94, .inr (4, fPicks (fun k => q (94 + k)))), (q 95, .inl (cy 0, 10000, .inl (fun _ => 0))), (q 96, .inl (cy 0, 201, .inl (fun _ => 0)))] H := hP
    have hD : va_D A [(q 5, .inr (1, fHall (fun k => q (5 + k)))), (q 6, .inr (10, fThings (fun k => q (6 + k)))), (q 94, .inr (4, fPicks (fun k => q (94 + k)))), (q 95, .inl (cy 0, 10000, .inl (fun _ => 0))), (q 96, .inl (cy 0, 201, .inl (fun _ => 0)))] := hD
    subst hw12
    exact hc_ret Sx hr hlocks dd_X11_shown_17 hS () (Or.inr ⟨by omega, rfl⟩) p_nil d_nil
set_option maxHeartbeats 4000000 in
set_option maxRecDepth 100000 in
theorem c_X_shortBy (l : Launch) (D : va_G) (cy : Nat → ClassId) (q : Nat → Nat) (su : Int32) : HC l my_X11_shortBy mb_X11_shortBy 2 ((some .int)) (rmD 3 0 0) D (TY cy) [.ref (q 0), .int su] NX [(q 0, .inr (11, fX q)), (q 2, .inl (cy 0, 5, .inl (fun _ => 0))), (q 5, .inr (1, fHall (fun k => q (5 + k)))), (q 6, .inr (10, fThings (fun k => q (6 + k)))), (q 94, .inr (4, fPicks (fun k => q (94 + k)))), (q 95, .inl (cy 0, 10000, .inl (fun _ => 0)))] (QI (S := Unit) D (fun r _ => if2 (1 ≤ su.toInt ∧ su.toInt ≤ 9999) (-1) (-2) r) (fun _ => [])) := by
  refine hc_intro (by decide) (Nat.le_of_ble_eq_true rfl) (fun p e s m below meth c A ls Sx hr hlocks hin hl hP hD hK hS hA hX => ?_)
  have hx := Sx.1
  have hb := Sx.2.1
  have hl : lv_has ls 2 [(0, .ref (q 0)), (1, .int su)] := hl
  have hP : va_P D cls [(q 0, .inr (11, fX q)), (q 2, .inl (cy 0, 5, .inl (fun _ => 0))), (q 5, .inr (1, fHall (fun k => q (5 + k)))), (q 6, .inr (10, fThings (fun k => q (6 + k)))), (q 94, .inr (4, fPicks (fun k => q (94 + k)))), (q 95, .inl (cy 0, 10000, .inl (fun _ => 0)))] s.heap := hP
  have hD : va_D A [(q 0, .inr (11, fX q)), (q 2, .inl (cy 0, 5, .inl (fun _ => 0))), (q 5, .inr (1, fHall (fun k => q (5 + k)))), (q 6, .inr (10, fThings (fun k => q (6 + k)))), (q 94, .inr (4, fPicks (fun k => q (94 + k)))), (q 95, .inl (cy 0, 10000, .inl (fun _ => 0)))] := hD
  refine lv_iload_n hx hb dd_X11_shortBy_0 rfl (lv_at hl 1 rfl) ?_
  refine lv_iconst (v := 1) hx hb dd_X11_shortBy_1 (by decide) ?_
  refine lv_sipush (v := 9999) hx hb dd_X11_shortBy_2 (by decide) ?_
  refine pk_i (pc_T [.int su, .int 1, .int 9999] [] Sx hl.1 ws_X_59 md_X11_within (c_within l D cy su 1 9999) ⟨rfl, rfl⟩ ⟨Nat.le_of_ble_eq_true rfl, Nat.le_of_ble_eq_true rfl⟩ p_nil hK ns_b (ns_w hX) rfl rfl (Nat.le_of_ble_eq_true rfl) dd_X11_shortBy_5 ⟨Nat.le_of_ble_eq_true rfl, Nat.le_of_ble_eq_true rfl⟩) (fun r1 hw2 => ?_)
  rcases hw2 with ⟨hw2, ehw2⟩ | ⟨hw2, ehw2⟩
  · have hl3 : Int32.toInt 1 = 1 := rfl
    have hl4 : Int32.toInt 9999 = 9999 := rfl
    subst ehw2
    refine lv_if_ne (tgt := 18) hx hb dd_X11_shortBy_8 (by decide) (fun _ => ?_) (fun c => absurd c (by decide))
    refine lv_aload_n hx hb dd_X11_shortBy_18 rfl (lv_at hl 0 rfl) ?_
    refine wk_get (v := .ref (q 94)) Sx ef_11 hK hP 0 rfl rfl 6 (by decide) kk_388 rfl dd_X11_shortBy_19 ?_
    refine lv_aload_n hx hb dd_X11_shortBy_22 rfl (lv_at hl 0 rfl) ?_
    refine wk_get (v := .ref (q 5)) Sx ef_11 hK hP 0 rfl rfl 3 (by decide) kk_385 rfl dd_X11_shortBy_23 ?_
    refine wk_get (v := .ref (q 6)) Sx ef_1 hK hP 2 rfl rfl 0 (by decide) kk_260 rfl dd_X11_shortBy_26 ?_
    refine lv_iload_n hx hb dd_X11_shortBy_29 rfl (lv_at hl 1 rfl) ?_
    refine hk_i (wr := [(q 0, .inr (11, fX q)), (q 2, .inl (cy 0, 5, .inl (fun _ => 0))), (q 5, .inr (1, fHall (fun k => q (5 + k))))]) (c1 := 0) (s1 := 0) [4, 5, 3] [0, 1, 2] (hc_V [.ref (q 6), .int su] [] [4, 5, 3] Sx hl.1 ws_X_359 md_X4_fewestPaid (c_fewestPaid l D cy (fun k => q (94 + k)) (fun k => q (6 + k)) su (by omega)) ⟨Nat.le_of_ble_eq_true rfl, Nat.le_of_ble_eq_true rfl⟩ hP hD rfl (by decide) hK nx_b (nx_w hX) (va_recv hK hP (ci := 4) (q0 := 4) rfl rfl) rfl rfl (Nat.le_of_ble_eq_true rfl) dd_X11_shortBy_30 ⟨Nat.le_of_ble_eq_true rfl, Nat.le_of_ble_eq_true rfl⟩) hS hA hP hD rfl rfl (by decide) (by decide) rfl rfl (fun r5 u6 H locs hw7 hP hD hS => ?_)
    have hP : va_P D cls [(q 0, .inr (11, fX q)), (q 2, .inl (cy 0, 5, .inl (fun _ => 0))), (q 5, .inr (1, fHall (fun k => q (5 + k))))] H := hP
    have hD : va_D A [(q 0, .inr (11, fX q)), (q 2, .inl (cy 0, 5, .inl (fun _ => 0))), (q 5, .inr (1, fHall (fun k => q (5 + k))))] := hD
    subst hw7
    exact hc_ret Sx hr hlocks dd_X11_shortBy_33 hS () (Or.inl ⟨by omega, rfl⟩) p_nil d_nil
  · have hl8 : Int32.toInt 1 = 1 := rfl
    have hl9 : Int32.toInt 9999 = 9999 := rfl
    subst ehw2
    refine lv_if_ne (tgt := 18) hx hb dd_X11_shortBy_8 (by decide) (fun c => absurd c (by decide)) (fun _ => ?_)
    refine lv_aload_n hx hb dd_X11_shortBy_11 rfl (lv_at hl 0 rfl) ?_
    refine lv_bipush (v := (-2)) hx hb dd_X11_shortBy_12 (by decide) ?_
    refine hk_i (wr := [(q 5, .inr (1, fHall (fun k => q (5 + k)))), (q 6, .inr (10, fThings (fun k => q (6 + k)))), (q 94, .inr (4, fPicks (fun k => q (94 + k)))), (q 95, .inl (cy 0, 10000, .inl (fun _ => 0)))]) (c1 := 0) (s1 := 0) [0, 1] [2, 3, 4, 5] (hc_V [.int (-2)] [] [0, 1] Sx hl.1 ws_X_63 md_X11_refuse (c_refuse_2 l D cy q) ⟨Nat.le_of_ble_eq_true rfl, Nat.le_of_ble_eq_true rfl⟩ hP hD rfl (by decide) hK nx_b (nx_w hX) (va_recv hK hP (ci := 11) (q0 := 0) rfl rfl) rfl rfl (Nat.le_of_ble_eq_true rfl) dd_X11_shortBy_14 ⟨Nat.le_of_ble_eq_true rfl, Nat.le_of_ble_eq_true rfl⟩) hS hA hP hD rfl rfl (by decide) (by decide) rfl rfl (fun r10 u11 H locs hw12 hP hD hS => ?_)
    have hP : va_P D cls [(q 5, .inr (1, fHall (fun k => q (5 + k)))), (q 6, .inr (10, fThings (fun k => q (6 + k)))), (q 94, .inr (4, fPicks (fun k => q (94 + k)))), (q 95, .inl (cy 0, 10000, .inl (fun _ => 0)))] H := hP
    have hD : va_D A [(q 5, .inr (1, fHall (fun k => q (5 + k)))), (q 6, .inr (10, fThings (fun k => q (6 + k)))), (q 94, .inr (4, fPicks (fun k => q (94 + k)))), (q 95, .inl (cy 0, 10000, .inl (fun _ => 0)))] := hD
    subst hw12
    exact hc_ret Sx hr hlocks dd_X11_shortBy_17 hS () (Or.inr ⟨by omega, rfl⟩) p_nil d_nil
set_option maxHeartbeats 4000000 in
set_option maxRecDepth 100000 in
theorem c_X_status (l : Launch) (D : va_G) (cy : Nat → ClassId) (q : Nat → Nat) (wh : Int32) : PC l my_X11_status mb_X11_status 2 ((some .int)) (rmD 3 0 0) D (TY cy) [.ref (q 0), .int wh] NS [(q 0, .inr (11, fX q)), (q 1, .inl (cy 4, 8, .inr (.inr (.inr (.inr (shv q)))))), (q 2, .inl (cy 0, 5, .inl (fun _ => 0))), (q 3, .inr (9, fTape (fun k => q (3 + k)))), (q 5, .inr (1, fHall (fun k => q (5 + k)))), (q 6, .inr (10, fThings (fun k => q (6 + k)))), (q 14, .inr (2, fLadies (fun k => q (14 + k)))), (q 18, .inr (3, fLaws (fun k => q (18 + k)))), (q 21, .inr (0, fBuyers (fun k => q (21 + k)))), (q 27, .inr (8, fSightings (fun k => q (27 + k)))), (q 35, .inr (6, fSecrets (fun k => q (35 + k)))), (q 97, .inr (7, fShelf (fun k => q (97 + k)))), (q 98, .inl (cy 2, 40, .inr (.inl (fun _ => 0)))), (q 99, .inr (7, fShelf (fun k => q (99 + k)))), (q 100, .inl (cy 2, 40, .inr (.inl (fun _ => 0)))), (q 101, .inr (7, fShelf (fun k => q (101 + k)))), (q 102, .inl (cy 2, 40, .inr (.inl (fun _ => 0)))), (q 103, .inr (7, fShelf (fun k => q (103 + k)))), (q 104, .inl (cy 2, 40, .inr (.inl (fun _ => 0)))), (q 105, .inr (7, fShelf (fun k => q (105 + k)))), (q 106, .inl (cy 2, 40, .inr (.inl (fun _ => 0)))), (q 107, .inr (7, fShelf (fun k => q (107 + k)))), (q 108, .inl (cy 2, 40, .inr (.inl (fun _ => 0)))), (q 109, .inr (7, fShelf (fun k => q (109 + k)))), (q 110, .inl (cy 2, 40, .inr (.inl (fun _ => 0)))), (q 111, .inr (7, fShelf (fun k => q (111 + k)))), (q 112, .inl (cy 2, 40, .inr (.inl (fun _ => 0))))] (vp_Si (fun r => if2 ((0 ≤ wh.toInt ∧ wh.toInt ≤ 8) ∨ (12 ≤ wh.toInt ∧ wh.toInt ≤ 16)) 0 (-1) r)) := by
  refine pc_intro (by decide) (Nat.le_of_ble_eq_true rfl) (fun p e s m below meth c ls Sx hr hlocks hl hP hK hX => ?_)
  have hx := Sx.1
  have hb := Sx.2.1
  have hl : lv_has ls 2 [(0, .ref (q 0)), (1, .int wh)] := hl
  refine lv_iload_n hx hb dd_X11_status_0 rfl (lv_at hl 1 rfl) ?_
  by_cases hs1 : wh.toInt < 0 ∨ 8 < wh.toInt
  · refine lv_tableOut (tgt := 139) hx hb dd_X11_status_1 hs1 (by decide) ?_
    refine lv_iload_n hx hb dd_X11_status_139 rfl (lv_at hl 1 rfl) ?_
    refine lv_bipush (v := 12) hx hb dd_X11_status_140 (by decide) ?_
    refine lv_bipush (v := 16) hx hb dd_X11_status_142 (by decide) ?_
    refine pk_i (pc_T [.int wh, .int 12, .int 16] [] Sx hl.1 ws_X_59 md_X11_within (c_within l D cy wh 12 16) ⟨rfl, rfl⟩ ⟨Nat.le_of_ble_eq_true rfl, Nat.le_of_ble_eq_true rfl⟩ p_nil hK ns_b (ns_w hX) rfl rfl (Nat.le_of_ble_eq_true rfl) dd_X11_status_144 ⟨Nat.le_of_ble_eq_true rfl, Nat.le_of_ble_eq_true rfl⟩) (fun r2 hw3 => ?_)
    rcases hw3 with ⟨hw3, ehw3⟩ | ⟨hw3, ehw3⟩
    · have hl4 : Int32.toInt 12 = 12 := rfl
      have hl5 : Int32.toInt 16 = 16 := rfl
      subst ehw3
      refine lv_if_eq (tgt := 162) hx hb dd_X11_status_147 (by decide) (fun c => absurd c (by decide)) (fun _ => ?_)
      refine lv_aload_n hx hb dd_X11_status_150 rfl (lv_at hl 0 rfl) ?_
      refine wk_get (v := .ref (q 2)) Sx ef_11 hK hP 0 rfl rfl 1 (by decide) kk_383 rfl dd_X11_status_151 ?_
      refine lv_iload_n hx hb dd_X11_status_154 rfl (lv_at hl 1 rfl) ?_
      refine lv_bipush (v := 12) hx hb dd_X11_status_155 (by decide) ?_
      refine lv_isub hx hb dd_X11_status_157 ?_
      refine lv_topi (fun z6 ez6 => ?_)
      have fz6 : z6.toInt = wh.toInt - 12 := by rw [ez6]; exact ti_sub rfl rfl (by omega) (by omega)
      have hi7 : vp_in z6 5 := (vi_of (by omega))
      refine va_iald hx hb hK hP 2 0 rfl rfl hi7 dd_X11_status_158 ?_
      refine wk_int (v := 0) rfl ?_
      refine lv_goto (tgt := 163) hx hb dd_X11_status_159 (by decide) ?_
      exact pc_ret Sx hr hlocks rfl dd_X11_status_163 (Or.inl ⟨by omega, rfl⟩)
    · have hl8 : Int32.toInt 12 = 12 := rfl
      have hl9 : Int32.toInt 16 = 16 := rfl
      subst ehw3
      refine lv_if_eq (tgt := 162) hx hb dd_X11_status_147 (by decide) (fun _ => ?_) (fun c => absurd c (by decide))
      refine lv_iconst (v := (-1)) hx hb dd_X11_status_162 (by decide) ?_
      exact pc_ret Sx hr hlocks rfl dd_X11_status_163 (Or.inr ⟨by omega, rfl⟩)
  · rcases (show wh.toInt = 0 ∨ wh.toInt = 1 ∨ wh.toInt = 2 ∨ wh.toInt = 3 ∨ wh.toInt = 4 ∨ wh.toInt = 5 ∨ wh.toInt = 6 ∨ wh.toInt = 7 ∨ wh.toInt = 8 by omega) with hv10 | hv10 | hv10 | hv10 | hv10 | hv10 | hv10 | hv10 | hv10
    · obtain rfl : wh = 0 := ci_of rfl hv10
      refine lv_tableIn (off := 51) (tgt := 52) hx hb dd_X11_status_1 (by decide) (by decide) rfl (by decide) ?_
      refine lv_aload_n hx hb dd_X11_status_52 rfl (lv_at hl 0 rfl) ?_
      refine wk_get (v := .ref (q 5)) Sx ef_11 hK hP 0 rfl rfl 3 (by decide) kk_385 rfl dd_X11_status_53 ?_
      refine wk_get (v := .ref (q 6)) Sx ef_1 hK hP 4 rfl rfl 0 (by decide) kk_260 rfl dd_X11_status_56 ?_
      refine wk_get (v := .int 0) Sx ef_10 hK hP 5 rfl rfl 6 (by decide) kk_90 rfl dd_X11_status_59 ?_
      have htwh : (0 : Int32).toInt = 0 := rfl
      exact pc_ret Sx hr hlocks rfl dd_X11_status_62 (Or.inl ⟨by omega, rfl⟩)
    · obtain rfl : wh = 1 := ci_of rfl hv10
      refine lv_tableIn (off := 62) (tgt := 63) hx hb dd_X11_status_1 (by decide) (by decide) rfl (by decide) ?_
      refine lv_aload_n hx hb dd_X11_status_63 rfl (lv_at hl 0 rfl) ?_
      refine wk_get (v := .ref (q 5)) Sx ef_11 hK hP 0 rfl rfl 3 (by decide) kk_385 rfl dd_X11_status_64 ?_
      refine wk_get (v := .ref (q 14)) Sx ef_1 hK hP 4 rfl rfl 1 (by decide) kk_262 rfl dd_X11_status_67 ?_
      refine wk_get (v := .int 0) Sx ef_2 hK hP 6 rfl rfl 3 (by decide) kk_125 rfl dd_X11_status_70 ?_
      have htwh : (1 : Int32).toInt = 1 := rfl
      exact pc_ret Sx hr hlocks rfl dd_X11_status_73 (Or.inl ⟨by omega, rfl⟩)
    · obtain rfl : wh = 2 := ci_of rfl hv10
      refine lv_tableIn (off := 73) (tgt := 74) hx hb dd_X11_status_1 (by decide) (by decide) rfl (by decide) ?_
      refine lv_aload_n hx hb dd_X11_status_74 rfl (lv_at hl 0 rfl) ?_
      refine wk_get (v := .ref (q 5)) Sx ef_11 hK hP 0 rfl rfl 3 (by decide) kk_385 rfl dd_X11_status_75 ?_
      refine wk_get (v := .ref (q 18)) Sx ef_1 hK hP 4 rfl rfl 2 (by decide) kk_264 rfl dd_X11_status_78 ?_
      refine wk_get (v := .int 0) Sx ef_3 hK hP 7 rfl rfl 2 (by decide) kk_145 rfl dd_X11_status_81 ?_
      have htwh : (2 : Int32).toInt = 2 := rfl
      exact pc_ret Sx hr hlocks rfl dd_X11_status_84 (Or.inl ⟨by omega, rfl⟩)
    · obtain rfl : wh = 3 := ci_of rfl hv10
      refine lv_tableIn (off := 84) (tgt := 85) hx hb dd_X11_status_1 (by decide) (by decide) rfl (by decide) ?_
      refine lv_aload_n hx hb dd_X11_status_85 rfl (lv_at hl 0 rfl) ?_
      refine wk_get (v := .ref (q 5)) Sx ef_11 hK hP 0 rfl rfl 3 (by decide) kk_385 rfl dd_X11_status_86 ?_
      refine wk_get (v := .ref (q 21)) Sx ef_1 hK hP 4 rfl rfl 3 (by decide) kk_267 rfl dd_X11_status_89 ?_
      refine wk_get (v := .int 0) Sx ef_0 hK hP 8 rfl rfl 5 (by decide) kk_176 rfl dd_X11_status_92 ?_
      have htwh : (3 : Int32).toInt = 3 := rfl
      exact pc_ret Sx hr hlocks rfl dd_X11_status_95 (Or.inl ⟨by omega, rfl⟩)
    · obtain rfl : wh = 4 := ci_of rfl hv10
      refine lv_tableIn (off := 95) (tgt := 96) hx hb dd_X11_status_1 (by decide) (by decide) rfl (by decide) ?_
      refine lv_aload_n hx hb dd_X11_status_96 rfl (lv_at hl 0 rfl) ?_
      refine wk_get (v := .ref (q 5)) Sx ef_11 hK hP 0 rfl rfl 3 (by decide) kk_385 rfl dd_X11_status_97 ?_
      refine wk_get (v := .int 0) Sx ef_1 hK hP 4 rfl rfl 7 (by decide) kk_275 rfl dd_X11_status_100 ?_
      have htwh : (4 : Int32).toInt = 4 := rfl
      exact pc_ret Sx hr hlocks rfl dd_X11_status_103 (Or.inl ⟨by omega, rfl⟩)
    · obtain rfl : wh = 5 := ci_of rfl hv10
      refine lv_tableIn (off := 103) (tgt := 104) hx hb dd_X11_status_1 (by decide) (by decide) rfl (by decide) ?_
      refine lv_aload_n hx hb dd_X11_status_104 rfl (lv_at hl 0 rfl) ?_
      refine wk_get (v := .ref (q 5)) Sx ef_11 hK hP 0 rfl rfl 3 (by decide) kk_385 rfl dd_X11_status_105 ?_
      refine wk_get (v := .ref (q 27)) Sx ef_1 hK hP 4 rfl rfl 4 (by decide) kk_269 rfl dd_X11_status_108 ?_
      refine wk_get (v := .int 0) Sx ef_8 hK hP 9 rfl rfl 4 (by decide) kk_201 rfl dd_X11_status_111 ?_
      have htwh : (5 : Int32).toInt = 5 := rfl
      exact pc_ret Sx hr hlocks rfl dd_X11_status_114 (Or.inl ⟨by omega, rfl⟩)
    · obtain rfl : wh = 6 := ci_of rfl hv10
      refine lv_tableIn (off := 114) (tgt := 115) hx hb dd_X11_status_1 (by decide) (by decide) rfl (by decide) ?_
      refine lv_aload_n hx hb dd_X11_status_115 rfl (lv_at hl 0 rfl) ?_
      refine wk_get (v := .ref (q 5)) Sx ef_11 hK hP 0 rfl rfl 3 (by decide) kk_385 rfl dd_X11_status_116 ?_
      refine wk_get (v := .ref (q 35)) Sx ef_1 hK hP 4 rfl rfl 5 (by decide) kk_271 rfl dd_X11_status_119 ?_
      refine wk_get (v := .int 0) Sx ef_6 hK hP 10 rfl rfl 2 (by decide) kk_231 rfl dd_X11_status_122 ?_
      have htwh : (6 : Int32).toInt = 6 := rfl
      exact pc_ret Sx hr hlocks rfl dd_X11_status_125 (Or.inl ⟨by omega, rfl⟩)
    · obtain rfl : wh = 7 := ci_of rfl hv10
      refine lv_tableIn (off := 125) (tgt := 126) hx hb dd_X11_status_1 (by decide) (by decide) rfl (by decide) ?_
      refine lv_aload_n hx hb dd_X11_status_126 rfl (lv_at hl 0 rfl) ?_
      refine wk_get (v := .ref (q 3)) Sx ef_11 hK hP 0 rfl rfl 2 (by decide) kk_384 rfl dd_X11_status_127 ?_
      refine wk_get (v := .int 0) Sx ef_9 hK hP 3 rfl rfl 1 (by decide) kk_40 rfl dd_X11_status_130 ?_
      have htwh : (7 : Int32).toInt = 7 := rfl
      exact pc_ret Sx hr hlocks rfl dd_X11_status_133 (Or.inl ⟨by omega, rfl⟩)
    · obtain rfl : wh = 8 := ci_of rfl hv10
      refine lv_tableIn (off := 133) (tgt := 134) hx hb dd_X11_status_1 (by decide) (by decide) rfl (by decide) ?_
      refine lv_aload_n hx hb dd_X11_status_134 rfl (lv_at hl 0 rfl) ?_
      refine pk_i (pc_V [] [] Sx hl.1 ws_X_372 md_X11_shelvesInUse (c_shelvesInUse l D cy q) ⟨rfl, rfl⟩ ⟨Nat.le_of_ble_eq_true rfl, Nat.le_of_ble_eq_true rfl⟩ (hP.sub [0, 1, 11, 12, 13, 14, 15, 16, 17, 18, 19, 20, 21, 22, 23, 24, 25, 26] rfl) hK ns_b (ns_w hX) (va_recv hK hP (ci := 11) (q0 := 0) rfl rfl) rfl rfl (Nat.le_of_ble_eq_true rfl) dd_X11_status_135 ⟨Nat.le_of_ble_eq_true rfl, Nat.le_of_ble_eq_true rfl⟩) (fun r11 hw12 => ?_)
      subst hw12
      have htwh : (8 : Int32).toInt = 8 := rfl
      exact pc_ret Sx hr hlocks rfl dd_X11_status_138 (Or.inl ⟨by omega, rfl⟩)
set_option maxHeartbeats 4000000 in
set_option maxRecDepth 100000 in
theorem c_X_feed (l : Launch) (D : va_G) (cy : Nat → ClassId) (q : Nat → Nat) (vv : Int32) (nn : Int32) : HC l my_X11_feed mb_X11_feed 3 ((some .int)) (rmD 3 0 0) D (TY cy) [.ref (q 0), .int vv, .int nn] NX [(q 0, .inr (11, fX q)), (q 2, .inl (cy 0, 5, .inl (fun _ => 0))), (q 3, .inr (9, fTape (fun k => q (3 + k)))), (q 4, .inl (cy 1, 120, .inl (fun _ => 0)))] (QI (S := Unit) D (fun r _ => if2 (1 ≤ nn.toInt ∧ nn.toInt ≤ 4) nn (-2) r) (fun _ => [])) := by
  refine hc_intro (by decide) (Nat.le_of_ble_eq_true rfl) (fun p e s m below meth c A ls Sx hr hlocks hin hl hP hD hK hS hA hX => ?_)
  have hx := Sx.1
  have hb := Sx.2.1
  have hl : lv_has ls 3 [(0, .ref (q 0)), (1, .int vv), (2, .int nn)] := hl
  have hP : va_P D cls [(q 0, .inr (11, fX q)), (q 2, .inl (cy 0, 5, .inl (fun _ => 0))), (q 3, .inr (9, fTape (fun k => q (3 + k)))), (q 4, .inl (cy 1, 120, .inl (fun _ => 0)))] s.heap := hP
  have hD : va_D A [(q 0, .inr (11, fX q)), (q 2, .inl (cy 0, 5, .inl (fun _ => 0))), (q 3, .inr (9, fTape (fun k => q (3 + k)))), (q 4, .inl (cy 1, 120, .inl (fun _ => 0)))] := hD
  refine lv_iload_n hx hb dd_X11_feed_0 rfl (lv_at hl 2 rfl) ?_
  refine lv_iconst (v := 1) hx hb dd_X11_feed_1 (by decide) ?_
  refine lv_iconst (v := 4) hx hb dd_X11_feed_2 (by decide) ?_
  refine pk_i (pc_T [.int nn, .int 1, .int 4] [] Sx hl.1 ws_X_59 md_X11_within (c_within l D cy nn 1 4) ⟨rfl, rfl⟩ ⟨Nat.le_of_ble_eq_true rfl, Nat.le_of_ble_eq_true rfl⟩ p_nil hK ns_b (ns_w hX) rfl rfl (Nat.le_of_ble_eq_true rfl) dd_X11_feed_3 ⟨Nat.le_of_ble_eq_true rfl, Nat.le_of_ble_eq_true rfl⟩) (fun r1 hw2 => ?_)
  rcases hw2 with ⟨hw2, ehw2⟩ | ⟨hw2, ehw2⟩
  · have hl3 : Int32.toInt 1 = 1 := rfl
    have hl4 : Int32.toInt 4 = 4 := rfl
    subst ehw2
    refine lv_if_ne (tgt := 16) hx hb dd_X11_feed_6 (by decide) (fun _ => ?_) (fun c => absurd c (by decide))
    rcases (show nn.toInt = 1 ∨ nn.toInt = 2 ∨ nn.toInt = 3 ∨ nn.toInt = 4 by omega) with hv5 | hv5 | hv5 | hv5
    · obtain rfl : nn = 1 := ci_of rfl hv5
      refine lv_aload_n hx hb dd_X11_feed_16 rfl (lv_at hl 0 rfl) ?_
      refine wk_get (v := .ref (q 3)) Sx ef_11 hK hP 0 rfl rfl 2 (by decide) kk_384 rfl dd_X11_feed_17 ?_
      refine wk_get (v := .int 0) Sx ef_9 hK hP 2 rfl rfl 1 (by decide) kk_40 rfl dd_X11_feed_20 ?_
      refine lv_iload_n hx hb dd_X11_feed_23 rfl (lv_at hl 2 rfl) ?_
      refine lv_iadd hx hb dd_X11_feed_24 ?_
      refine wk_int (v := 1) (by decide) ?_
      refine lv_bipush (v := 120) hx hb dd_X11_feed_25 (by decide) ?_
      refine lv_icmp_le (tgt := 37) hx hb dd_X11_feed_27 (by decide) (fun _ => ?_) (fun c => absurd c (by decide))
      refine lv_aload_n hx hb dd_X11_feed_37 rfl (lv_at hl 0 rfl) ?_
      refine wk_get (v := .ref (q 3)) Sx ef_11 hK hP 0 rfl rfl 2 (by decide) kk_384 rfl dd_X11_feed_38 ?_
      refine lv_iload_n hx hb dd_X11_feed_41 rfl (lv_at hl 1 rfl) ?_
      refine lv_iload_n hx hb dd_X11_feed_42 rfl (lv_at hl 2 rfl) ?_
      refine hk_v (wr := [(q 0, .inr (11, fX q)), (q 2, .inl (cy 0, 5, .inl (fun _ => 0)))]) (c1 := 0) (s1 := 0) [2, 3] [0, 1] (hc_V [.int vv, .int 1] [] [2, 3] Sx hl.1 ws_X_189 md_X9_append (c_append_1 l D cy (fun k => q (3 + k)) vv) ⟨Nat.le_of_ble_eq_true rfl, Nat.le_of_ble_eq_true rfl⟩ hP hD rfl (by decide) hK nx_b (nx_w hX) (va_recv hK hP (ci := 9) (q0 := 2) rfl rfl) rfl rfl (Nat.le_of_ble_eq_true rfl) dd_X11_feed_43 ⟨Nat.le_of_ble_eq_true rfl, Nat.le_of_ble_eq_true rfl⟩) hS hA hP hD rfl rfl (by decide) (by decide) rfl rfl (fun u7 H locs hw8 hP hD hS => ?_)
      have hP : va_P D cls [(q 0, .inr (11, fX q)), (q 2, .inl (cy 0, 5, .inl (fun _ => 0))), (q 3, .inr (9, (fTape (fun k => q (3 + k))).set 1 (.int 1)))] H := hP
      have hD : va_D A [(q 0, .inr (11, fX q)), (q 2, .inl (cy 0, 5, .inl (fun _ => 0))), (q 3, .inr (9, (fTape (fun k => q (3 + k))).set 1 (.int 1)))] := hD
      refine lv_aload_n hx hb dd_X11_feed_46 rfl (lv_at hl 0 rfl) ?_
      refine wk_get (v := .ref (q 3)) Sx ef_11 hK hP 0 rfl rfl 2 (by decide) kk_384 rfl dd_X11_feed_47 ?_
      refine wk_get (v := .int 1) Sx ef_9 hK hP 2 rfl rfl 1 (by decide) kk_40 rfl dd_X11_feed_50 ?_
      have htnn : (1 : Int32).toInt = 1 := rfl
      exact hc_ret Sx hr hlocks dd_X11_feed_53 hS () (Or.inl ⟨by omega, rfl⟩) p_nil d_nil
    · obtain rfl : nn = 2 := ci_of rfl hv5
      refine lv_aload_n hx hb dd_X11_feed_16 rfl (lv_at hl 0 rfl) ?_
      refine wk_get (v := .ref (q 3)) Sx ef_11 hK hP 0 rfl rfl 2 (by decide) kk_384 rfl dd_X11_feed_17 ?_
      refine wk_get (v := .int 0) Sx ef_9 hK hP 2 rfl rfl 1 (by decide) kk_40 rfl dd_X11_feed_20 ?_
      refine lv_iload_n hx hb dd_X11_feed_23 rfl (lv_at hl 2 rfl) ?_
      refine lv_iadd hx hb dd_X11_feed_24 ?_
      refine wk_int (v := 2) (by decide) ?_
      refine lv_bipush (v := 120) hx hb dd_X11_feed_25 (by decide) ?_
      refine lv_icmp_le (tgt := 37) hx hb dd_X11_feed_27 (by decide) (fun _ => ?_) (fun c => absurd c (by decide))
      refine lv_aload_n hx hb dd_X11_feed_37 rfl (lv_at hl 0 rfl) ?_
      refine wk_get (v := .ref (q 3)) Sx ef_11 hK hP 0 rfl rfl 2 (by decide) kk_384 rfl dd_X11_feed_38 ?_
      refine lv_iload_n hx hb dd_X11_feed_41 rfl (lv_at hl 1 rfl) ?_
      refine lv_iload_n hx hb dd_X11_feed_42 rfl (lv_at hl 2 rfl) ?_
      refine hk_v (wr := [(q 0, .inr (11, fX q)), (q 2, .inl (cy 0, 5, .inl (fun _ => 0)))]) (c1 := 0) (s1 := 0) [2, 3] [0, 1] (hc_V [.int vv, .int 2] [] [2, 3] Sx hl.1 ws_X_189 md_X9_append (c_append_2 l D cy (fun k => q (3 + k)) vv) ⟨Nat.le_of_ble_eq_true rfl, Nat.le_of_ble_eq_true rfl⟩ hP hD rfl (by decide) hK nx_b (nx_w hX) (va_recv hK hP (ci := 9) (q0 := 2) rfl rfl) rfl rfl (Nat.le_of_ble_eq_true rfl) dd_X11_feed_43 ⟨Nat.le_of_ble_eq_true rfl, Nat.le_of_ble_eq_true rfl⟩) hS hA hP hD rfl rfl (by decide) (by decide) rfl rfl (fun u10 H locs hw11 hP hD hS => ?_)
      have hP : va_P D cls [(q 0, .inr (11, fX q)), (q 2, .inl (cy 0, 5, .inl (fun _ => 0))), (q 3, .inr (9, (fTape (fun k => q (3 + k))).set 1 (.int 2)))] H := hP
      have hD : va_D A [(q 0, .inr (11, fX q)), (q 2, .inl (cy 0, 5, .inl (fun _ => 0))), (q 3, .inr (9, (fTape (fun k => q (3 + k))).set 1 (.int 2)))] := hD
      refine lv_aload_n hx hb dd_X11_feed_46 rfl (lv_at hl 0 rfl) ?_
      refine wk_get (v := .ref (q 3)) Sx ef_11 hK hP 0 rfl rfl 2 (by decide) kk_384 rfl dd_X11_feed_47 ?_
      refine wk_get (v := .int 2) Sx ef_9 hK hP 2 rfl rfl 1 (by decide) kk_40 rfl dd_X11_feed_50 ?_
      have htnn : (2 : Int32).toInt = 2 := rfl
      exact hc_ret Sx hr hlocks dd_X11_feed_53 hS () (Or.inl ⟨by omega, rfl⟩) p_nil d_nil
    · obtain rfl : nn = 3 := ci_of rfl hv5
      refine lv_aload_n hx hb dd_X11_feed_16 rfl (lv_at hl 0 rfl) ?_
      refine wk_get (v := .ref (q 3)) Sx ef_11 hK hP 0 rfl rfl 2 (by decide) kk_384 rfl dd_X11_feed_17 ?_
      refine wk_get (v := .int 0) Sx ef_9 hK hP 2 rfl rfl 1 (by decide) kk_40 rfl dd_X11_feed_20 ?_
      refine lv_iload_n hx hb dd_X11_feed_23 rfl (lv_at hl 2 rfl) ?_
      refine lv_iadd hx hb dd_X11_feed_24 ?_
      refine wk_int (v := 3) (by decide) ?_
      refine lv_bipush (v := 120) hx hb dd_X11_feed_25 (by decide) ?_
      refine lv_icmp_le (tgt := 37) hx hb dd_X11_feed_27 (by decide) (fun _ => ?_) (fun c => absurd c (by decide))
      refine lv_aload_n hx hb dd_X11_feed_37 rfl (lv_at hl 0 rfl) ?_
      refine wk_get (v := .ref (q 3)) Sx ef_11 hK hP 0 rfl rfl 2 (by decide) kk_384 rfl dd_X11_feed_38 ?_
      refine lv_iload_n hx hb dd_X11_feed_41 rfl (lv_at hl 1 rfl) ?_
      refine lv_iload_n hx hb dd_X11_feed_42 rfl (lv_at hl 2 rfl) ?_
      refine hk_v (wr := [(q 0, .inr (11, fX q)), (q 2, .inl (cy 0, 5, .inl (fun _ => 0)))]) (c1 := 0) (s1 := 0) [2, 3] [0, 1] (hc_V [.int vv, .int 3] [] [2, 3] Sx hl.1 ws_X_189 md_X9_append (c_append_3 l D cy (fun k => q (3 + k)) vv) ⟨Nat.le_of_ble_eq_true rfl, Nat.le_of_ble_eq_true rfl⟩ hP hD rfl (by decide) hK nx_b (nx_w hX) (va_recv hK hP (ci := 9) (q0 := 2) rfl rfl) rfl rfl (Nat.le_of_ble_eq_true rfl) dd_X11_feed_43 ⟨Nat.le_of_ble_eq_true rfl, Nat.le_of_ble_eq_true rfl⟩) hS hA hP hD rfl rfl (by decide) (by decide) rfl rfl (fun u13 H locs hw14 hP hD hS => ?_)
      have hP : va_P D cls [(q 0, .inr (11, fX q)), (q 2, .inl (cy 0, 5, .inl (fun _ => 0))), (q 3, .inr (9, (fTape (fun k => q (3 + k))).set 1 (.int 3)))] H := hP
      have hD : va_D A [(q 0, .inr (11, fX q)), (q 2, .inl (cy 0, 5, .inl (fun _ => 0))), (q 3, .inr (9, (fTape (fun k => q (3 + k))).set 1 (.int 3)))] := hD
      refine lv_aload_n hx hb dd_X11_feed_46 rfl (lv_at hl 0 rfl) ?_
      refine wk_get (v := .ref (q 3)) Sx ef_11 hK hP 0 rfl rfl 2 (by decide) kk_384 rfl dd_X11_feed_47 ?_
      refine wk_get (v := .int 3) Sx ef_9 hK hP 2 rfl rfl 1 (by decide) kk_40 rfl dd_X11_feed_50 ?_
      have htnn : (3 : Int32).toInt = 3 := rfl
      exact hc_ret Sx hr hlocks dd_X11_feed_53 hS () (Or.inl ⟨by omega, rfl⟩) p_nil d_nil
    · obtain rfl : nn = 4 := ci_of rfl hv5
      refine lv_aload_n hx hb dd_X11_feed_16 rfl (lv_at hl 0 rfl) ?_
      refine wk_get (v := .ref (q 3)) Sx ef_11 hK hP 0 rfl rfl 2 (by decide) kk_384 rfl dd_X11_feed_17 ?_
      refine wk_get (v := .int 0) Sx ef_9 hK hP 2 rfl rfl 1 (by decide) kk_40 rfl dd_X11_feed_20 ?_
      refine lv_iload_n hx hb dd_X11_feed_23 rfl (lv_at hl 2 rfl) ?_
      refine lv_iadd hx hb dd_X11_feed_24 ?_
      refine wk_int (v := 4) (by decide) ?_
      refine lv_bipush (v := 120) hx hb dd_X11_feed_25 (by decide) ?_
      refine lv_icmp_le (tgt := 37) hx hb dd_X11_feed_27 (by decide) (fun _ => ?_) (fun c => absurd c (by decide))
      refine lv_aload_n hx hb dd_X11_feed_37 rfl (lv_at hl 0 rfl) ?_
      refine wk_get (v := .ref (q 3)) Sx ef_11 hK hP 0 rfl rfl 2 (by decide) kk_384 rfl dd_X11_feed_38 ?_
      refine lv_iload_n hx hb dd_X11_feed_41 rfl (lv_at hl 1 rfl) ?_
      refine lv_iload_n hx hb dd_X11_feed_42 rfl (lv_at hl 2 rfl) ?_
      refine hk_v (wr := [(q 0, .inr (11, fX q)), (q 2, .inl (cy 0, 5, .inl (fun _ => 0)))]) (c1 := 0) (s1 := 0) [2, 3] [0, 1] (hc_V [.int vv, .int 4] [] [2, 3] Sx hl.1 ws_X_189 md_X9_append (c_append_4 l D cy (fun k => q (3 + k)) vv) ⟨Nat.le_of_ble_eq_true rfl, Nat.le_of_ble_eq_true rfl⟩ hP hD rfl (by decide) hK nx_b (nx_w hX) (va_recv hK hP (ci := 9) (q0 := 2) rfl rfl) rfl rfl (Nat.le_of_ble_eq_true rfl) dd_X11_feed_43 ⟨Nat.le_of_ble_eq_true rfl, Nat.le_of_ble_eq_true rfl⟩) hS hA hP hD rfl rfl (by decide) (by decide) rfl rfl (fun u16 H locs hw17 hP hD hS => ?_)
      have hP : va_P D cls [(q 0, .inr (11, fX q)), (q 2, .inl (cy 0, 5, .inl (fun _ => 0))), (q 3, .inr (9, (fTape (fun k => q (3 + k))).set 1 (.int 4)))] H := hP
      have hD : va_D A [(q 0, .inr (11, fX q)), (q 2, .inl (cy 0, 5, .inl (fun _ => 0))), (q 3, .inr (9, (fTape (fun k => q (3 + k))).set 1 (.int 4)))] := hD
      refine lv_aload_n hx hb dd_X11_feed_46 rfl (lv_at hl 0 rfl) ?_
      refine wk_get (v := .ref (q 3)) Sx ef_11 hK hP 0 rfl rfl 2 (by decide) kk_384 rfl dd_X11_feed_47 ?_
      refine wk_get (v := .int 4) Sx ef_9 hK hP 2 rfl rfl 1 (by decide) kk_40 rfl dd_X11_feed_50 ?_
      have htnn : (4 : Int32).toInt = 4 := rfl
      exact hc_ret Sx hr hlocks dd_X11_feed_53 hS () (Or.inl ⟨by omega, rfl⟩) p_nil d_nil
  · have hl18 : Int32.toInt 1 = 1 := rfl
    have hl19 : Int32.toInt 4 = 4 := rfl
    subst ehw2
    refine lv_if_ne (tgt := 16) hx hb dd_X11_feed_6 (by decide) (fun c => absurd c (by decide)) (fun _ => ?_)
    refine lv_aload_n hx hb dd_X11_feed_9 rfl (lv_at hl 0 rfl) ?_
    refine lv_bipush (v := (-2)) hx hb dd_X11_feed_10 (by decide) ?_
    refine hk_i (wr := [(q 3, .inr (9, fTape (fun k => q (3 + k)))), (q 4, .inl (cy 1, 120, .inl (fun _ => 0)))]) (c1 := 0) (s1 := 0) [0, 1] [2, 3] (hc_V [.int (-2)] [] [0, 1] Sx hl.1 ws_X_63 md_X11_refuse (c_refuse_2 l D cy q) ⟨Nat.le_of_ble_eq_true rfl, Nat.le_of_ble_eq_true rfl⟩ hP hD rfl (by decide) hK nx_b (nx_w hX) (va_recv hK hP (ci := 11) (q0 := 0) rfl rfl) rfl rfl (Nat.le_of_ble_eq_true rfl) dd_X11_feed_12 ⟨Nat.le_of_ble_eq_true rfl, Nat.le_of_ble_eq_true rfl⟩) hS hA hP hD rfl rfl (by decide) (by decide) rfl rfl (fun r20 u21 H locs hw22 hP hD hS => ?_)
    have hP : va_P D cls [(q 3, .inr (9, fTape (fun k => q (3 + k)))), (q 4, .inl (cy 1, 120, .inl (fun _ => 0)))] H := hP
    have hD : va_D A [(q 3, .inr (9, fTape (fun k => q (3 + k)))), (q 4, .inl (cy 1, 120, .inl (fun _ => 0)))] := hD
    subst hw22
    exact hc_ret Sx hr hlocks dd_X11_feed_15 hS () (Or.inr ⟨by omega, rfl⟩) p_nil d_nil
set_option maxHeartbeats 4000000 in
set_option maxRecDepth 100000 in
theorem c_X_best (l : Launch) (D : va_G) (cy : Nat → ClassId) (q : Nat → Nat) : HC l my_X11_best mb_X11_best 1 ((some .int)) (rmD 5 0 0) D (TY cy) [.ref (q 0)] NX [(q 0, .inr (11, fX q)), (q 5, .inr (1, fHall (fun k => q (5 + k)))), (q 6, .inr (10, fThings (fun k => q (6 + k)))), (q 21, .inr (0, fBuyers (fun k => q (21 + k)))), (q 87, .inr (5, fSale (fun k => q (87 + k))))] (QI (S := Unit) D (fun r _ => r = 1212) (fun _ => [])) := by
  refine hc_intro (by decide) (Nat.le_of_ble_eq_true rfl) (fun p e s m below meth c A ls Sx hr hlocks hin hl hP hD hK hS hA hX => ?_)
  have hx := Sx.1
  have hb := Sx.2.1
  have hl : lv_has ls 1 [(0, .ref (q 0))] := hl
  have hP : va_P D cls [(q 0, .inr (11, fX q)), (q 5, .inr (1, fHall (fun k => q (5 + k)))), (q 6, .inr (10, fThings (fun k => q (6 + k)))), (q 21, .inr (0, fBuyers (fun k => q (21 + k)))), (q 87, .inr (5, fSale (fun k => q (87 + k))))] s.heap := hP
  have hD : va_D A [(q 0, .inr (11, fX q)), (q 5, .inr (1, fHall (fun k => q (5 + k)))), (q 6, .inr (10, fThings (fun k => q (6 + k)))), (q 21, .inr (0, fBuyers (fun k => q (21 + k)))), (q 87, .inr (5, fSale (fun k => q (87 + k))))] := hD
  refine lv_aload_n hx hb dd_X11_best_0 rfl (lv_at hl 0 rfl) ?_
  refine wk_get (v := .ref (q 87)) Sx ef_11 hK hP 0 rfl rfl 5 (by decide) kk_387 rfl dd_X11_best_1 ?_
  refine lv_aload_n hx hb dd_X11_best_4 rfl (lv_at hl 0 rfl) ?_
  refine wk_get (v := .ref (q 5)) Sx ef_11 hK hP 0 rfl rfl 3 (by decide) kk_385 rfl dd_X11_best_5 ?_
  refine hk_i (wr := [(q 0, .inr (11, fX q))]) (c1 := 0) (s1 := 0) [4, 1, 2, 3] [0] (hc_V [.ref (q 5)] [] [4, 1, 2, 3] Sx hl.1 ws_X_268 md_X5_bestTurns (c_bestTurns l D cy (fun k => q (87 + k)) (fun k => q (5 + k)) 12 12) ⟨Nat.le_of_ble_eq_true rfl, Nat.le_of_ble_eq_true rfl⟩ hP hD rfl (by decide) hK nx_b (nx_w hX) (va_recv hK hP (ci := 5) (q0 := 4) rfl rfl) rfl rfl (Nat.le_of_ble_eq_true rfl) dd_X11_best_8 ⟨Nat.le_of_ble_eq_true rfl, Nat.le_of_ble_eq_true rfl⟩) hS hA hP hD rfl rfl (by decide) (by decide) rfl rfl (fun r1 u2 H locs hw3 hP hD hS => ?_)
  have hP : va_P D cls [(q 0, .inr (11, fX q))] H := hP
  have hD : va_D A [(q 0, .inr (11, fX q))] := hD
  subst hw3
  exact hc_ret Sx hr hlocks dd_X11_best_11 hS () rfl p_nil d_nil
set_option maxHeartbeats 4000000 in
set_option maxRecDepth 100000 in
theorem c_X_image (l : Launch) (D : va_G) (cy : Nat → ClassId) (q : Nat → Nat) : HC l my_X11_image mb_X11_image 1 ((some .int)) (rmD 3 0 0) D (TY cy) [.ref (q 0)] NX [(q 0, .inr (11, fX q)), (q 5, .inr (1, fHall (fun k => q (5 + k)))), (q 6, .inr (10, fThings (fun k => q (6 + k)))), (q 7, .inl (cy 0, 30, .inl (fun _ => 0))), (q 8, .inl (cy 0, 30, .inl (fun _ => 0))), (q 9, .inl (cy 0, 30, .inl (fun _ => 0))), (q 10, .inl (cy 0, 30, .inl (fun _ => 0))), (q 11, .inl (cy 0, 30, .inl (fun _ => 0))), (q 12, .inl (cy 0, 30, .inl (fun _ => 0))), (q 13, .inl (cy 0, 30, .inl (fun _ => 0))), (q 14, .inr (2, fLadies (fun k => q (14 + k)))), (q 15, .inl (cy 0, 5, .inl (fun _ => 0))), (q 16, .inl (cy 0, 5, .inl (fun _ => 0))), (q 17, .inl (cy 0, 5, .inl (fun _ => 0))), (q 18, .inr (3, fLaws (fun k => q (18 + k)))), (q 19, .inl (cy 0, 30, .inl (fun _ => 0))), (q 20, .inl (cy 0, 5, .inl (fun _ => 0))), (q 21, .inr (0, fBuyers (fun k => q (21 + k)))), (q 22, .inl (cy 0, 12, .inl (fun _ => 0))), (q 23, .inl (cy 0, 12, .inl (fun _ => 0))), (q 24, .inl (cy 0, 12, .inl (fun _ => 0))), (q 25, .inl (cy 0, 12, .inl (fun _ => 0))), (q 26, .inl (cy 0, 12, .inl (fun _ => 0))), (q 27, .inr (8, fSightings (fun k => q (27 + k)))), (q 28, .inl (cy 0, 20, .inl (fun _ => 0))), (q 29, .inl (cy 0, 20, .inl (fun _ => 0))), (q 30, .inl (cy 0, 20, .inl (fun _ => 0))), (q 31, .inl (cy 0, 20, .inl (fun _ => 0))), (q 32, .inl (cy 0, 20, .inl (fun _ => 0))), (q 33, .inl (cy 0, 20, .inl (fun _ => 0))), (q 34, .inl (cy 0, 20, .inl (fun _ => 0))), (q 35, .inr (6, fSecrets (fun k => q (35 + k)))), (q 36, .inl (cy 0, 10, .inl (fun _ => 0))), (q 37, .inl (cy 0, 10, .inl (fun _ => 0))), (q 38, .inl (cy 0, 16, .inl (fun _ => 0))), (q 39, .inl (cy 0, 10, .inl (fun _ => 0))), (q 40, .inl (cy 0, 10, .inl (fun _ => 0))), (q 41, .inl (cy 0, 10, .inl (fun _ => 0))), (q 42, .inl (cy 0, 5, .inl (fun _ => 0))), (q 43, .inl (cy 0, 5, .inl (fun _ => 0))), (q 44, .inl (cy 0, 25, .inl (fun _ => 0))), (q 45, .inl (cy 0, 32, .inl (fun _ => 0))), (q 46, .inr (1, fHall (fun k => q (46 + k)))), (q 47, .inr (10, fThings (fun k => q (47 + k)))), (q 48, .inl (cy 0, 30, .inl (fun _ => 0))), (q 49, .inl (cy 0, 30, .inl (fun _ => 0))), (q 50, .inl (cy 0, 30, .inl (fun _ => 0))), (q 51, .inl (cy 0, 30, .inl (fun _ => 0))), (q 52, .inl (cy 0, 30, .inl (fun _ => 0))), (q 53, .inl (cy 0, 30, .inl (fun _ => 0))), (q 54, .inl (cy 0, 30, .inl (fun _ => 0))), (q 55, .inr (2, fLadies (fun k => q (55 + k)))), (q 56, .inl (cy 0, 5, .inl (fun _ => 0))), (q 57, .inl (cy 0, 5, .inl (fun _ => 0))), (q 58, .inl (cy 0, 5, .inl (fun _ => 0))), (q 59, .inr (3, fLaws (fun k => q (59 + k)))), (q 60, .inl (cy 0, 30, .inl (fun _ => 0))), (q 61, .inl (cy 0, 5, .inl (fun _ => 0))), (q 62, .inr (0, fBuyers (fun k => q (62 + k)))), (q 63, .inl (cy 0, 12, .inl (fun _ => 0))), (q 64, .inl (cy 0, 12, .inl (fun _ => 0))), (q 65, .inl (cy 0, 12, .inl (fun _ => 0))), (q 66, .inl (cy 0, 12, .inl (fun _ => 0))), (q 67, .inl (cy 0, 12, .inl (fun _ => 0))), (q 68, .inr (8, fSightings (fun k => q (68 + k)))), (q 69, .inl (cy 0, 20, .inl (fun _ => 0))), (q 70, .inl (cy 0, 20, .inl (fun _ => 0))), (q 71, .inl (cy 0, 20, .inl (fun _ => 0))), (q 72, .inl (cy 0, 20, .inl (fun _ => 0))), (q 73, .inl (cy 0, 20, .inl (fun _ => 0))), (q 74, .inl (cy 0, 20, .inl (fun _ => 0))), (q 75, .inl (cy 0, 20, .inl (fun _ => 0))), (q 76, .inr (6, fSecrets (fun k => q (76 + k)))), (q 77, .inl (cy 0, 10, .inl (fun _ => 0))), (q 78, .inl (cy 0, 10, .inl (fun _ => 0))), (q 79, .inl (cy 0, 16, .inl (fun _ => 0))), (q 80, .inl (cy 0, 10, .inl (fun _ => 0))), (q 81, .inl (cy 0, 10, .inl (fun _ => 0))), (q 82, .inl (cy 0, 10, .inl (fun _ => 0))), (q 83, .inl (cy 0, 5, .inl (fun _ => 0))), (q 84, .inl (cy 0, 5, .inl (fun _ => 0))), (q 85, .inl (cy 0, 25, .inl (fun _ => 0))), (q 86, .inl (cy 0, 32, .inl (fun _ => 0)))] (QI (S := Unit) D (fun r _ => r = 1) (fun _ => [])) := by
  refine hc_intro (by decide) (Nat.le_of_ble_eq_true rfl) (fun p e s m below meth c A ls Sx hr hlocks hin hl hP hD hK hS hA hX => ?_)
  have hx := Sx.1
  have hb := Sx.2.1
  have hl : lv_has ls 1 [(0, .ref (q 0))] := hl
  have hP : va_P D cls [(q 0, .inr (11, fX q)), (q 5, .inr (1, fHall (fun k => q (5 + k)))), (q 6, .inr (10, fThings (fun k => q (6 + k)))), (q 7, .inl (cy 0, 30, .inl (fun _ => 0))), (q 8, .inl (cy 0, 30, .inl (fun _ => 0))), (q 9, .inl (cy 0, 30, .inl (fun _ => 0))), (q 10, .inl (cy 0, 30, .inl (fun _ => 0))), (q 11, .inl (cy 0, 30, .inl (fun _ => 0))), (q 12, .inl (cy 0, 30, .inl (fun _ => 0))), (q 13, .inl (cy 0, 30, .inl (fun _ => 0))), (q 14, .inr (2, fLadies (fun k => q (14 + k)))), (q 15, .inl (cy 0, 5, .inl (fun _ => 0))), (q 16, .inl (cy 0, 5, .inl (fun _ => 0))), (q 17, .inl (cy 0, 5, .inl (fun _ => 0))), (q 18, .inr (3, fLaws (fun k => q (18 + k)))), (q 19, .inl (cy 0, 30, .inl (fun _ => 0))), (q 20, .inl (cy 0, 5, .inl (fun _ => 0))), (q 21, .inr (0, fBuyers (fun k => q (21 + k)))), (q 22, .inl (cy 0, 12, .inl (fun _ => 0))), (q 23, .inl (cy 0, 12, .inl (fun _ => 0))), (q 24, .inl (cy 0, 12, .inl (fun _ => 0))), (q 25, .inl (cy 0, 12, .inl (fun _ => 0))), (q 26, .inl (cy 0, 12, .inl (fun _ => 0))), (q 27, .inr (8, fSightings (fun k => q (27 + k)))), (q 28, .inl (cy 0, 20, .inl (fun _ => 0))), (q 29, .inl (cy 0, 20, .inl (fun _ => 0))), (q 30, .inl (cy 0, 20, .inl (fun _ => 0))), (q 31, .inl (cy 0, 20, .inl (fun _ => 0))), (q 32, .inl (cy 0, 20, .inl (fun _ => 0))), (q 33, .inl (cy 0, 20, .inl (fun _ => 0))), (q 34, .inl (cy 0, 20, .inl (fun _ => 0))), (q 35, .inr (6, fSecrets (fun k => q (35 + k)))), (q 36, .inl (cy 0, 10, .inl (fun _ => 0))), (q 37, .inl (cy 0, 10, .inl (fun _ => 0))), (q 38, .inl (cy 0, 16, .inl (fun _ => 0))), (q 39, .inl (cy 0, 10, .inl (fun _ => 0))), (q 40, .inl (cy 0, 10, .inl (fun _ => 0))), (q 41, .inl (cy 0, 10, .inl (fun _ => 0))), (q 42, .inl (cy 0, 5, .inl (fun _ => 0))), (q 43, .inl (cy 0, 5, .inl (fun _ => 0))), (q 44, .inl (cy 0, 25, .inl (fun _ => 0))), (q 45, .inl (cy 0, 32, .inl (fun _ => 0))), (q 46, .inr (1, fHall (fun k => q (46 + k)))), (q 47, .inr (10, fThings (fun k => q (47 + k)))), (q 48, .inl (cy 0, 30, .inl (fun _ => 0))), (q 49, .inl (cy 0, 30, .inl (fun _ => 0))), (q 50, .inl (cy 0, 30, .inl (fun _ => 0))), (q 51, .inl (cy 0, 30, .inl (fun _ => 0))), (q 52, .inl (cy 0, 30, .inl (fun _ => 0))), (q 53, .inl (cy 0, 30, .inl (fun _ => 0))), (q 54, .inl (cy 0, 30, .inl (fun _ => 0))), (q 55, .inr (2, fLadies (fun k => q (55 + k)))), (q 56, .inl (cy 0, 5, .inl (fun _ => 0))), (q 57, .inl (cy 0, 5, .inl (fun _ => 0))), (q 58, .inl (cy 0, 5, .inl (fun _ => 0))), (q 59, .inr (3, fLaws (fun k => q (59 + k)))), (q 60, .inl (cy 0, 30, .inl (fun _ => 0))), (q 61, .inl (cy 0, 5, .inl (fun _ => 0))), (q 62, .inr (0, fBuyers (fun k => q (62 + k)))), (q 63, .inl (cy 0, 12, .inl (fun _ => 0))), (q 64, .inl (cy 0, 12, .inl (fun _ => 0))), (q 65, .inl (cy 0, 12, .inl (fun _ => 0))), (q 66, .inl (cy 0, 12, .inl (fun _ => 0))), (q 67, .inl (cy 0, 12, .inl (fun _ => 0))), (q 68, .inr (8, fSightings (fun k => q (68 + k)))), (q 69, .inl (cy 0, 20, .inl (fun _ => 0))), (q 70, .inl (cy 0, 20, .inl (fun _ => 0))), (q 71, .inl (cy 0, 20, .inl (fun _ => 0))), (q 72, .inl (cy 0, 20, .inl (fun _ => 0))), (q 73, .inl (cy 0, 20, .inl (fun _ => 0))), (q 74, .inl (cy 0, 20, .inl (fun _ => 0))), (q 75, .inl (cy 0, 20, .inl (fun _ => 0))), (q 76, .inr (6, fSecrets (fun k => q (76 + k)))), (q 77, .inl (cy 0, 10, .inl (fun _ => 0))), (q 78, .inl (cy 0, 10, .inl (fun _ => 0))), (q 79, .inl (cy 0, 16, .inl (fun _ => 0))), (q 80, .inl (cy 0, 10, .inl (fun _ => 0))), (q 81, .inl (cy 0, 10, .inl (fun _ => 0))), (q 82, .inl (cy 0, 10, .inl (fun _ => 0))), (q 83, .inl (cy 0, 5, .inl (fun _ => 0))), (q 84, .inl (cy 0, 5, .inl (fun _ => 0))), (q 85, .inl (cy 0, 25, .inl (fun _ => 0))), (q 86, .inl (cy 0, 32, .inl (fun _ => 0)))] s.heap := hP
  have hD : va_D A [(q 0, .inr (11, fX q)), (q 5, .inr (1, fHall (fun k => q (5 + k)))), (q 6, .inr (10, fThings (fun k => q (6 + k)))), (q 7, .inl (cy 0, 30, .inl (fun _ => 0))), (q 8, .inl (cy 0, 30, .inl (fun _ => 0))), (q 9, .inl (cy 0, 30, .inl (fun _ => 0))), (q 10, .inl (cy 0, 30, .inl (fun _ => 0))), (q 11, .inl (cy 0, 30, .inl (fun _ => 0))), (q 12, .inl (cy 0, 30, .inl (fun _ => 0))), (q 13, .inl (cy 0, 30, .inl (fun _ => 0))), (q 14, .inr (2, fLadies (fun k => q (14 + k)))), (q 15, .inl (cy 0, 5, .inl (fun _ => 0))), (q 16, .inl (cy 0, 5, .inl (fun _ => 0))), (q 17, .inl (cy 0, 5, .inl (fun _ => 0))), (q 18, .inr (3, fLaws (fun k => q (18 + k)))), (q 19, .inl (cy 0, 30, .inl (fun _ => 0))), (q 20, .inl (cy 0, 5, .inl (fun _ => 0))), (q 21, .inr (0, fBuyers (fun k => q (21 + k)))), (q 22, .inl (cy 0, 12, .inl (fun _ => 0))), (q 23, .inl (cy 0, 12, .inl (fun _ => 0))), (q 24, .inl (cy 0, 12, .inl (fun _ => 0))), (q 25, .inl (cy 0, 12, .inl (fun _ => 0))), (q 26, .inl (cy 0, 12, .inl (fun _ => 0))), (q 27, .inr (8, fSightings (fun k => q (27 + k)))), (q 28, .inl (cy 0, 20, .inl (fun _ => 0))), (q 29, .inl (cy 0, 20, .inl (fun _ => 0))), (q 30, .inl (cy 0, 20, .inl (fun _ => 0))), (q 31, .inl (cy 0, 20, .inl (fun _ => 0))), (q 32, .inl (cy 0, 20, .inl (fun _ => 0))), (q 33, .inl (cy 0, 20, .inl (fun _ => 0))), (q 34, .inl (cy 0, 20, .inl (fun _ => 0))), (q 35, .inr (6, fSecrets (fun k => q (35 + k)))), (q 36, .inl (cy 0, 10, .inl (fun _ => 0))), (q 37, .inl (cy 0, 10, .inl (fun _ => 0))), (q 38, .inl (cy 0, 16, .inl (fun _ => 0))), (q 39, .inl (cy 0, 10, .inl (fun _ => 0))), (q 40, .inl (cy 0, 10, .inl (fun _ => 0))), (q 41, .inl (cy 0, 10, .inl (fun _ => 0))), (q 42, .inl (cy 0, 5, .inl (fun _ => 0))), (q 43, .inl (cy 0, 5, .inl (fun _ => 0))), (q 44, .inl (cy 0, 25, .inl (fun _ => 0))), (q 45, .inl (cy 0, 32, .inl (fun _ => 0))), (q 46, .inr (1, fHall (fun k => q (46 + k)))), (q 47, .inr (10, fThings (fun k => q (47 + k)))), (q 48, .inl (cy 0, 30, .inl (fun _ => 0))), (q 49, .inl (cy 0, 30, .inl (fun _ => 0))), (q 50, .inl (cy 0, 30, .inl (fun _ => 0))), (q 51, .inl (cy 0, 30, .inl (fun _ => 0))), (q 52, .inl (cy 0, 30, .inl (fun _ => 0))), (q 53, .inl (cy 0, 30, .inl (fun _ => 0))), (q 54, .inl (cy 0, 30, .inl (fun _ => 0))), (q 55, .inr (2, fLadies (fun k => q (55 + k)))), (q 56, .inl (cy 0, 5, .inl (fun _ => 0))), (q 57, .inl (cy 0, 5, .inl (fun _ => 0))), (q 58, .inl (cy 0, 5, .inl (fun _ => 0))), (q 59, .inr (3, fLaws (fun k => q (59 + k)))), (q 60, .inl (cy 0, 30, .inl (fun _ => 0))), (q 61, .inl (cy 0, 5, .inl (fun _ => 0))), (q 62, .inr (0, fBuyers (fun k => q (62 + k)))), (q 63, .inl (cy 0, 12, .inl (fun _ => 0))), (q 64, .inl (cy 0, 12, .inl (fun _ => 0))), (q 65, .inl (cy 0, 12, .inl (fun _ => 0))), (q 66, .inl (cy 0, 12, .inl (fun _ => 0))), (q 67, .inl (cy 0, 12, .inl (fun _ => 0))), (q 68, .inr (8, fSightings (fun k => q (68 + k)))), (q 69, .inl (cy 0, 20, .inl (fun _ => 0))), (q 70, .inl (cy 0, 20, .inl (fun _ => 0))), (q 71, .inl (cy 0, 20, .inl (fun _ => 0))), (q 72, .inl (cy 0, 20, .inl (fun _ => 0))), (q 73, .inl (cy 0, 20, .inl (fun _ => 0))), (q 74, .inl (cy 0, 20, .inl (fun _ => 0))), (q 75, .inl (cy 0, 20, .inl (fun _ => 0))), (q 76, .inr (6, fSecrets (fun k => q (76 + k)))), (q 77, .inl (cy 0, 10, .inl (fun _ => 0))), (q 78, .inl (cy 0, 10, .inl (fun _ => 0))), (q 79, .inl (cy 0, 16, .inl (fun _ => 0))), (q 80, .inl (cy 0, 10, .inl (fun _ => 0))), (q 81, .inl (cy 0, 10, .inl (fun _ => 0))), (q 82, .inl (cy 0, 10, .inl (fun _ => 0))), (q 83, .inl (cy 0, 5, .inl (fun _ => 0))), (q 84, .inl (cy 0, 5, .inl (fun _ => 0))), (q 85, .inl (cy 0, 25, .inl (fun _ => 0))), (q 86, .inl (cy 0, 32, .inl (fun _ => 0)))] := hD
  refine lv_aload_n hx hb dd_X11_image_0 rfl (lv_at hl 0 rfl) ?_
  refine wk_get (v := .ref (q 46)) Sx ef_11 hK hP 0 rfl rfl 4 (by decide) kk_386 rfl dd_X11_image_1 ?_
  refine lv_aload_n hx hb dd_X11_image_4 rfl (lv_at hl 0 rfl) ?_
  refine wk_get (v := .ref (q 5)) Sx ef_11 hK hP 0 rfl rfl 3 (by decide) kk_385 rfl dd_X11_image_5 ?_
  refine hk_v (wr := [(q 0, .inr (11, fX q))]) (c1 := 0) (s1 := 0) [42, 43, 44, 45, 46, 47, 48, 49, 50, 51, 52, 53, 54, 55, 56, 57, 58, 59, 60, 61, 62, 63, 64, 65, 66, 67, 68, 69, 70, 71, 72, 73, 74, 75, 76, 77, 78, 79, 80, 81, 82, 1, 2, 3, 4, 5, 6, 7, 8, 9, 10, 11, 12, 13, 14, 15, 16, 17, 18, 19, 20, 21, 22, 23, 24, 25, 26, 27, 28, 29, 30, 31, 32, 33, 34, 35, 36, 37, 38, 39, 40, 41] [0] (hc_V [.ref (q 5)] [] [42, 43, 44, 45, 46, 47, 48, 49, 50, 51, 52, 53, 54, 55, 56, 57, 58, 59, 60, 61, 62, 63, 64, 65, 66, 67, 68, 69, 70, 71, 72, 73, 74, 75, 76, 77, 78, 79, 80, 81, 82, 1, 2, 3, 4, 5, 6, 7, 8, 9, 10, 11, 12, 13, 14, 15, 16, 17, 18, 19, 20, 21, 22, 23, 24, 25, 26, 27, 28, 29, 30, 31, 32, 33, 34, 35, 36, 37, 38, 39, 40, 41] Sx hl.1 ws_X_369 md_X1_become (c_Hall_become l D cy (fun k => q (46 + k)) (fun k => q (5 + k))) ⟨Nat.le_of_ble_eq_true rfl, Nat.le_of_ble_eq_true rfl⟩ hP hD rfl (by decide) hK nx_b (nx_w hX) (va_recv hK hP (ci := 1) (q0 := 42) rfl rfl) rfl rfl (Nat.le_of_ble_eq_true rfl) dd_X11_image_8 ⟨Nat.le_of_ble_eq_true rfl, Nat.le_of_ble_eq_true rfl⟩) hS hA hP hD rfl rfl (by decide) (by decide) rfl rfl (fun u2 H locs hw3 hP hD hS => ?_)
  have hP : va_P D cls [(q 0, .inr (11, fX q))] H := hP
  have hD : va_D A [(q 0, .inr (11, fX q))] := hD
  refine lv_aload_n hx hb dd_X11_image_11 rfl (lv_at hl 0 rfl) ?_
  refine lv_iconst (v := 1) hx hb dd_X11_image_12 (by decide) ?_
  refine wk_put (ws' := [(q 0, .inr (11, (fX q).set 7 (.int 1)))]) Sx ef_11 hK hP hD hS 0 rfl rfl 7 (by decide) kk_389 rfl rfl rfl (Nat.le_of_ble_eq_true rfl) dd_X11_image_13 rfl (fun H locs hP hD hS => ?_)
  refine lv_iconst (v := 1) hx hb dd_X11_image_16 (by decide) ?_
  exact hc_ret Sx hr hlocks dd_X11_image_17 hS () rfl p_nil d_nil
set_option maxHeartbeats 4000000 in
set_option maxRecDepth 100000 in
theorem c_X_go (l : Launch) (D : va_G) (cy : Nat → ClassId) (q : Nat → Nat) (nn : Int32) : HC l my_X11_go mb_X11_go 5 ((some .int)) (rmD 3 0 0) D (TY cy) [.ref (q 0), .int nn] NX [(q 0, .inr (11, fX q)), (q 2, .inl (cy 0, 5, .inl (fun _ => 0))), (q 5, .inr (1, fHall (fun k => q (5 + k)))), (q 6, .inr (10, fThings (fun k => q (6 + k)))), (q 21, .inr (0, fBuyers (fun k => q (21 + k)))), (q 87, .inr (5, fSale (fun k => q (87 + k))))] (QI (S := Unit) D (fun r _ => if2 (1 ≤ nn.toInt ∧ nn.toInt ≤ 12) 0 (-2) r) (fun _ => [])) := by
  refine hc_intro (by decide) (Nat.le_of_ble_eq_true rfl) (fun p e s m below meth c A ls Sx hr hlocks hin hl hP hD hK hS hA hX => ?_)
  have hx := Sx.1
  have hb := Sx.2.1
  have hl : lv_has ls 5 [(0, .ref (q 0)), (1, .int nn)] := hl
  have hP : va_P D cls [(q 0, .inr (11, fX q)), (q 2, .inl (cy 0, 5, .inl (fun _ => 0))), (q 5, .inr (1, fHall (fun k => q (5 + k)))), (q 6, .inr (10, fThings (fun k => q (6 + k)))), (q 21, .inr (0, fBuyers (fun k => q (21 + k)))), (q 87, .inr (5, fSale (fun k => q (87 + k))))] s.heap := hP
  have hD : va_D A [(q 0, .inr (11, fX q)), (q 2, .inl (cy 0, 5, .inl (fun _ => 0))), (q 5, .inr (1, fHall (fun k => q (5 + k)))), (q 6, .inr (10, fThings (fun k => q (6 + k)))), (q 21, .inr (0, fBuyers (fun k => q (21 + k)))), (q 87, .inr (5, fSale (fun k => q (87 + k))))] := hD
  refine lv_iload_n hx hb dd_X11_go_0 rfl (lv_at hl 1 rfl) ?_
  refine lv_iconst (v := 1) hx hb dd_X11_go_1 (by decide) ?_
  refine lv_bipush (v := 12) hx hb dd_X11_go_2 (by decide) ?_
  refine pk_i (pc_T [.int nn, .int 1, .int 12] [] Sx hl.1 ws_X_59 md_X11_within (c_within l D cy nn 1 12) ⟨rfl, rfl⟩ ⟨Nat.le_of_ble_eq_true rfl, Nat.le_of_ble_eq_true rfl⟩ p_nil hK ns_b (ns_w hX) rfl rfl (Nat.le_of_ble_eq_true rfl) dd_X11_go_4 ⟨Nat.le_of_ble_eq_true rfl, Nat.le_of_ble_eq_true rfl⟩) (fun r1 hw2 => ?_)
  rcases hw2 with ⟨hw2, ehw2⟩ | ⟨hw2, ehw2⟩
  · have hl3 : Int32.toInt 1 = 1 := rfl
    have hl4 : Int32.toInt 12 = 12 := rfl
    subst ehw2
    refine lv_if_ne (tgt := 17) hx hb dd_X11_go_7 (by decide) (fun _ => ?_) (fun c => absurd c (by decide))
    refine lv_aload_n hx hb dd_X11_go_17 rfl (lv_at hl 0 rfl) ?_
    refine wk_get (v := .ref (q 5)) Sx ef_11 hK hP 0 rfl rfl 3 (by decide) kk_385 rfl dd_X11_go_18 ?_
    refine wk_get (v := .int 0) Sx ef_1 hK hP 2 rfl rfl 10 (by decide) kk_281 rfl dd_X11_go_21 ?_
    refine lv_bipush (v := 12) hx hb dd_X11_go_24 (by decide) ?_
    refine lv_icmp_lt (tgt := 36) hx hb dd_X11_go_26 (by decide) (fun _ => ?_) (fun c => absurd c (by decide))
    refine lv_bipush (v := 12) hx hb dd_X11_go_36 (by decide) ?_
    refine lv_aload_n hx hb dd_X11_go_38 rfl (lv_at hl 0 rfl) ?_
    refine wk_get (v := .ref (q 5)) Sx ef_11 hK hP 0 rfl rfl 3 (by decide) kk_385 rfl dd_X11_go_39 ?_
    refine wk_get (v := .int 0) Sx ef_1 hK hP 2 rfl rfl 10 (by decide) kk_281 rfl dd_X11_go_42 ?_
    refine lv_iload_n hx hb dd_X11_go_45 rfl (lv_at hl 1 rfl) ?_
    refine lv_iadd hx hb dd_X11_go_46 ?_
    refine lv_topi (fun z5 ez5 => ?_)
    have fz5 : z5.toInt = 0 + nn.toInt := by rw [ez5]; exact ti_add rfl rfl (by omega) (by omega)
    refine va_mmin hx hb (Sx.2.2.1.trans hl.1.symm) Sx.2.2.2.1 (Sx.2.2.2.2 _ kk_863) (Sx.2.2.2.2 _ kk_536) (Sx.2.2.2.2 _ kk_17) (Sx.2.2.2.2 _ kk_537) (Nat.le_of_ble_eq_true rfl) (Nat.le_of_ble_eq_true rfl) (Nat.le_of_ble_eq_true rfl) (Nat.le_of_ble_eq_true rfl) dd_X11_go_47 ?_
    refine wk_int (v := z5) (mn_at rfl (by omega)) ?_
    refine lv_istore_n (lv' := [(2, .int z5), (0, .ref (q 0)), (1, .int nn)]) hx hb dd_X11_go_50 rfl hl (by decide) rfl (fun ls hl => ?_)
    refine lv_iconst (v := 0) hx hb dd_X11_go_51 (by decide) ?_
    refine lv_istore_n (lv' := [(3, .int 0), (2, .int z5), (0, .ref (q 0)), (1, .int nn)]) hx hb dd_X11_go_52 rfl hl (by decide) rfl (fun ls hl => ?_)
    refine lv_aload_n hx hb dd_X11_go_53 rfl (lv_at hl 2 rfl) ?_
    refine wk_get (v := .ref (q 87)) Sx ef_11 hK hP 0 rfl rfl 5 (by decide) kk_387 rfl dd_X11_go_54 ?_
    refine lv_aload_n hx hb dd_X11_go_57 rfl (lv_at hl 2 rfl) ?_
    refine wk_get (v := .ref (q 5)) Sx ef_11 hK hP 0 rfl rfl 3 (by decide) kk_385 rfl dd_X11_go_58 ?_
    refine lv_aload_n hx hb dd_X11_go_61 rfl (lv_at hl 2 rfl) ?_
    refine wk_get (v := .ref (q 5)) Sx ef_11 hK hP 0 rfl rfl 3 (by decide) kk_385 rfl dd_X11_go_62 ?_
    refine wk_get (v := .int 12) Sx ef_1 hK hP 2 rfl rfl 8 (by decide) kk_277 rfl dd_X11_go_65 ?_
    refine lv_aload_n hx hb dd_X11_go_68 rfl (lv_at hl 2 rfl) ?_
    refine wk_get (v := .ref (q 5)) Sx ef_11 hK hP 0 rfl rfl 3 (by decide) kk_385 rfl dd_X11_go_69 ?_
    refine wk_get (v := .int 12) Sx ef_1 hK hP 2 rfl rfl 9 (by decide) kk_279 rfl dd_X11_go_72 ?_
    refine hk_v (wr := [(q 0, .inr (11, fX q)), (q 2, .inl (cy 0, 5, .inl (fun _ => 0)))]) (c1 := 0) (s1 := 0) [5, 2, 3, 4] [0, 1] (hc_V [.ref (q 5), .int 12, .int 12] [] [5, 2, 3, 4] Sx hl.1 ws_X_257 md_X5_open (c_open l D cy (fun k => q (87 + k)) (fun k => q (5 + k)) 12 12 12 12) ⟨Nat.le_of_ble_eq_true rfl, Nat.le_of_ble_eq_true rfl⟩ hP hD rfl (by decide) hK nx_b (nx_w hX) (va_recv hK hP (ci := 5) (q0 := 5) rfl rfl) rfl rfl (Nat.le_of_ble_eq_true rfl) dd_X11_go_75 ⟨Nat.le_of_ble_eq_true rfl, Nat.le_of_ble_eq_true rfl⟩) hS hA hP hD rfl rfl (by decide) (by decide) rfl rfl (fun u7 H locs hw8 hP hD hS => ?_)
    have hP : va_P D cls [(q 0, .inr (11, fX q)), (q 2, .inl (cy 0, 5, .inl (fun _ => 0))), (q 87, .inr (5, fSale (fun k => q (87 + k)))), (q 5, .inr (1, fHall (fun k => q (5 + k)))), (q 6, .inr (10, fThings (fun k => (fun k => q (5 + k)) (1 + k)))), (q 21, .inr (0, fBuyers (fun k => (fun k => q (5 + k)) (16 + k))))] H := hP
    have hD : va_D A [(q 0, .inr (11, fX q)), (q 2, .inl (cy 0, 5, .inl (fun _ => 0))), (q 87, .inr (5, fSale (fun k => q (87 + k)))), (q 5, .inr (1, fHall (fun k => q (5 + k)))), (q 6, .inr (10, fThings (fun k => (fun k => q (5 + k)) (1 + k)))), (q 21, .inr (0, fBuyers (fun k => (fun k => q (5 + k)) (16 + k))))] := hD
    refine lv_aload_n hx hb dd_X11_go_78 rfl (lv_at hl 2 rfl) ?_
    refine wk_get (v := .ref (q 5)) Sx ef_11 hK hP 0 rfl rfl 3 (by decide) kk_385 rfl dd_X11_go_79 ?_
    refine wk_get (v := .int 0) Sx ef_1 hK hP 3 rfl rfl 10 (by decide) kk_281 rfl dd_X11_go_82 ?_
    refine lv_istore (lv' := [(4, .int 0), (3, .int 0), (2, .int z5), (0, .ref (q 0)), (1, .int nn)]) hx hb dd_X11_go_85 hl (by decide) rfl (fun ls hl => ?_)
    have hlz10 : Int32.toInt 0 = 0 := rfl
    have hI13 : 0 ≤ (0 : Int32).toInt ∧ (0 : Int32).toInt ≤ nn.toInt := ⟨by omega, by omega⟩
    refine pl1 87 5 (fun (u : Int32) => [(4, .int u), (3, .int 0), (2, .int z5), (0, .ref (q 0)), (1, .int nn)]) (fun (u : Int32) => 0 ≤ u.toInt ∧ u.toInt ≤ nn.toInt) (fun (u : Int32) => (nn.toInt - u.toInt).toNat) (fun u ls hI12 hl ih11 => ?_) 0 hI13 (lv_sub hl [0, 1, 2, 3, 4] rfl)
    obtain ⟨x9, ex9⟩ : ∃ y, y = u := ⟨_, rfl⟩
    subst ex9
    have hl : lv_has ls 5 [(4, .int x9), (3, .int 0), (2, .int z5), (0, .ref (q 0)), (1, .int nn)] := hl
    have hI12 : 0 ≤ x9.toInt ∧ x9.toInt ≤ nn.toInt := hI12
    obtain ⟨iv14, iv15⟩ := hI12
    refine lv_iload hx hb dd_X11_go_87 (lv_at hl 0 rfl) ?_
    refine lv_iload_n hx hb dd_X11_go_89 rfl (lv_at hl 2 rfl) ?_
    refine lv_icmp_ge (tgt := 115) hx hb dd_X11_go_90 (by decide) (fun c16 => ?_) (fun c16 => ?_)
    · have fc16 := ci_le (a := z5.toInt) (b := x9.toInt) rfl rfl c16
      refine lv_aload_n hx hb dd_X11_go_115 rfl (lv_at hl 3 rfl) ?_
      refine wk_get (v := .ref (q 87)) Sx ef_11 hK hP 0 rfl rfl 5 (by decide) kk_387 rfl dd_X11_go_116 ?_
      refine lv_aload_n hx hb dd_X11_go_119 rfl (lv_at hl 3 rfl) ?_
      refine wk_get (v := .ref (q 5)) Sx ef_11 hK hP 0 rfl rfl 3 (by decide) kk_385 rfl dd_X11_go_120 ?_
      refine pk_v (pc_V [.ref (q 5)] [] Sx hl.1 ws_X_289 md_X5_settle (c_settle l D cy (fun k => q (87 + k)) (fun k => q (5 + k)) 12 12) ⟨rfl, rfl⟩ ⟨Nat.le_of_ble_eq_true rfl, Nat.le_of_ble_eq_true rfl⟩ (hP.sub [2, 3, 4, 5] rfl) hK ns_b (ns_w hX) (va_recv hK hP (ci := 5) (q0 := 2) rfl rfl) rfl rfl (Nat.le_of_ble_eq_true rfl) dd_X11_go_123 ⟨Nat.le_of_ble_eq_true rfl, Nat.le_of_ble_eq_true rfl⟩) (fun _ => ?_)
      refine lv_aload_n hx hb dd_X11_go_126 rfl (lv_at hl 3 rfl) ?_
      refine wk_get (v := .ref (q 5)) Sx ef_11 hK hP 0 rfl rfl 3 (by decide) kk_385 rfl dd_X11_go_127 ?_
      refine lv_iload_n hx hb dd_X11_go_130 rfl (lv_at hl 2 rfl) ?_
      refine wk_put (ws' := [(q 0, .inr (11, fX q)), (q 2, .inl (cy 0, 5, .inl (fun _ => 0))), (q 87, .inr (5, fSale (fun k => q (87 + k)))), (q 5, .inr (1, (fHall (fun k => q (5 + k))).set 10 (.int z5))), (q 6, .inr (10, fThings (fun k => (fun k => q (5 + k)) (1 + k)))), (q 21, .inr (0, fBuyers (fun k => (fun k => q (5 + k)) (16 + k))))]) Sx ef_1 hK hP hD hS 3 rfl rfl 10 (by decide) kk_281 rfl rfl rfl (Nat.le_of_ble_eq_true rfl) dd_X11_go_131 rfl (fun H locs hP hD hS => ?_)
      refine lv_aload_n hx hb dd_X11_go_134 rfl (lv_at hl 3 rfl) ?_
      refine wk_get (v := .ref (q 5)) Sx ef_11 hK hP 0 rfl rfl 3 (by decide) kk_385 rfl dd_X11_go_135 ?_
      refine lv_dup hx hb dd_X11_go_138 rfl ?_
      refine wk_get (v := .int 0) Sx ef_1 hK hP 3 rfl rfl 11 (by decide) kk_283 rfl dd_X11_go_139 ?_
      refine lv_iload_n hx hb dd_X11_go_142 rfl (lv_at hl 1 rfl) ?_
      refine lv_iadd hx hb dd_X11_go_143 ?_
      refine wk_int (v := 0) (by decide) ?_
      refine wk_put (ws' := [(q 0, .inr (11, fX q)), (q 2, .inl (cy 0, 5, .inl (fun _ => 0))), (q 87, .inr (5, fSale (fun k => q (87 + k)))), (q 5, .inr (1, (fHall (fun k => q (5 + k))).set 10 (.int z5))), (q 6, .inr (10, fThings (fun k => (fun k => q (5 + k)) (1 + k)))), (q 21, .inr (0, fBuyers (fun k => (fun k => q (5 + k)) (16 + k))))]) Sx ef_1 hK hP hD hS 3 rfl rfl 11 (by decide) kk_283 rfl rfl rfl (Nat.le_of_ble_eq_true rfl) dd_X11_go_144 rfl (fun H locs hP hD hS => ?_)
      refine lv_iload_n hx hb dd_X11_go_147 rfl (lv_at hl 1 rfl) ?_
      exact hc_ret Sx hr hlocks dd_X11_go_148 hS () (Or.inl ⟨by omega, rfl⟩) p_nil d_nil
    · have fc16 := ci_nle (a := z5.toInt) (b := x9.toInt) rfl rfl c16
      refine lv_iload_n hx hb dd_X11_go_93 rfl (lv_at hl 1 rfl) ?_
      refine lv_aload_n hx hb dd_X11_go_94 rfl (lv_at hl 3 rfl) ?_
      refine wk_get (v := .ref (q 87)) Sx ef_11 hK hP 0 rfl rfl 5 (by decide) kk_387 rfl dd_X11_go_95 ?_
      refine lv_aload_n hx hb dd_X11_go_98 rfl (lv_at hl 3 rfl) ?_
      refine wk_get (v := .ref (q 5)) Sx ef_11 hK hP 0 rfl rfl 3 (by decide) kk_385 rfl dd_X11_go_99 ?_
      refine lv_iload hx hb dd_X11_go_102 (lv_at hl 0 rfl) ?_
      refine pk_i (pc_V [.ref (q 5), .int x9] [.int 0] Sx hl.1 ws_X_272 md_X5_playHour (c_playHour l D cy (fun k => q (87 + k)) (fun k => q (5 + k)) x9 12 12) ⟨rfl, rfl⟩ ⟨Nat.le_of_ble_eq_true rfl, Nat.le_of_ble_eq_true rfl⟩ (hP.sub [2, 3, 4, 5] rfl) hK ns_b (ns_w hX) (va_recv hK hP (ci := 5) (q0 := 2) rfl rfl) rfl rfl (Nat.le_of_ble_eq_true rfl) dd_X11_go_104 ⟨Nat.le_of_ble_eq_true rfl, Nat.le_of_ble_eq_true rfl⟩) (fun r17 hw18 => ?_)
      subst hw18
      refine lv_iadd hx hb dd_X11_go_107 ?_
      refine wk_int (v := 0) (by decide) ?_
      refine lv_istore_n (lv' := [(3, .int 0), (4, .int x9), (2, .int z5), (0, .ref (q 0)), (1, .int nn)]) hx hb dd_X11_go_108 rfl hl (by decide) rfl (fun ls hl => ?_)
      obtain ⟨z19, ez19⟩ : ∃ y : Int32, y = x9 + Int32.ofInt 1 := ⟨_, rfl⟩
      have fz19 : z19.toInt = x9.toInt + 1 := by rw [ez19]; exact ti_add rfl (show (Int32.ofInt 1).toInt = 1 by decide) (by omega) (by omega)
      refine lv_iinc (v := z19) (lv' := [(4, .int z19), (3, .int 0), (2, .int z5), (0, .ref (q 0)), (1, .int nn)]) hx hb dd_X11_go_109 hl (k := 1) rfl ez19.symm (by decide) rfl (fun ls hl => ?_)
      refine lv_goto (tgt := 87) hx hb dd_X11_go_112 (by decide) ?_
      have hI20 : 0 ≤ z19.toInt ∧ z19.toInt ≤ nn.toInt := ⟨by omega, by omega⟩
      have hm21 : (nn.toInt - z19.toInt).toNat < (nn.toInt - x9.toInt).toNat := by omega
      exact ih11 z19 ls hI20 hm21 (lv_sub hl [0, 1, 2, 3, 4] rfl)
  · have hl22 : Int32.toInt 1 = 1 := rfl
    have hl23 : Int32.toInt 12 = 12 := rfl
    subst ehw2
    refine lv_if_ne (tgt := 17) hx hb dd_X11_go_7 (by decide) (fun c => absurd c (by decide)) (fun _ => ?_)
    refine lv_aload_n hx hb dd_X11_go_10 rfl (lv_at hl 0 rfl) ?_
    refine lv_bipush (v := (-2)) hx hb dd_X11_go_11 (by decide) ?_
    refine hk_i (wr := [(q 5, .inr (1, fHall (fun k => q (5 + k)))), (q 6, .inr (10, fThings (fun k => q (6 + k)))), (q 21, .inr (0, fBuyers (fun k => q (21 + k)))), (q 87, .inr (5, fSale (fun k => q (87 + k))))]) (c1 := 0) (s1 := 0) [0, 1] [2, 3, 4, 5] (hc_V [.int (-2)] [] [0, 1] Sx hl.1 ws_X_63 md_X11_refuse (c_refuse_2 l D cy q) ⟨Nat.le_of_ble_eq_true rfl, Nat.le_of_ble_eq_true rfl⟩ hP hD rfl (by decide) hK nx_b (nx_w hX) (va_recv hK hP (ci := 11) (q0 := 0) rfl rfl) rfl rfl (Nat.le_of_ble_eq_true rfl) dd_X11_go_13 ⟨Nat.le_of_ble_eq_true rfl, Nat.le_of_ble_eq_true rfl⟩) hS hA hP hD rfl rfl (by decide) (by decide) rfl rfl (fun r24 u25 H locs hw26 hP hD hS => ?_)
    have hP : va_P D cls [(q 5, .inr (1, fHall (fun k => q (5 + k)))), (q 6, .inr (10, fThings (fun k => q (6 + k)))), (q 21, .inr (0, fBuyers (fun k => q (21 + k)))), (q 87, .inr (5, fSale (fun k => q (87 + k))))] H := hP
    have hD : va_D A [(q 5, .inr (1, fHall (fun k => q (5 + k)))), (q 6, .inr (10, fThings (fun k => q (6 + k)))), (q 21, .inr (0, fBuyers (fun k => q (21 + k)))), (q 87, .inr (5, fSale (fun k => q (87 + k))))] := hD
    subst hw26
    exact hc_ret Sx hr hlocks dd_X11_go_16 hS () (Or.inr ⟨by omega, rfl⟩) p_nil d_nil
