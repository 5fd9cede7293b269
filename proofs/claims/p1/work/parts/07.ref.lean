set_option maxHeartbeats 4000000 in
set_option maxRecDepth 100000 in
theorem c_M_no_2 (l : Launch) (D : va_G) (cy : Nat → ClassId) (q : Nat → Nat) : HC l my_X12_no mb_X12_no 2 ((some .int)) (rmD 1 0 0) D (TY cy) [.ref (q 60), .int (-2)] NX [(q 60, .inr (12, fM q)), (q 36, .inl (cy 0, 7, .inl (fun _ => 0)))] (QI (S := Unit) D (fun r _ => r = (-2)) (fun _ => [])) := by
  refine hc_intro (by decide) (Nat.le_of_ble_eq_true rfl) (fun p e s m below meth c A ls Sx hr hlocks hin hl hP hD hK hS hA hX => ?_)
  have hx := Sx.1
  have hb := Sx.2.1
  have hl : lv_has ls 2 [(0, .ref (q 60)), (1, .int (-2))] := hl
  have hP : va_P D cls [(q 60, .inr (12, fM q)), (q 36, .inl (cy 0, 7, .inl (fun _ => 0)))] s.heap := hP
  have hD : va_D A [(q 60, .inr (12, fM q)), (q 36, .inl (cy 0, 7, .inl (fun _ => 0)))] := hD
  refine lv_aload_n hx hb dd_X12_no_0 rfl (lv_at hl 0 rfl) ?_
  refine wk_get (v := .ref (q 36)) Sx ef_12 hK hP 0 rfl rfl 36 (by decide) kk_1137 rfl dd_X12_no_1 ?_
  refine lv_iload_n hx hb dd_X12_no_4 rfl (lv_at hl 1 rfl) ?_
  refine lv_ineg hx hb dd_X12_no_5 ?_
  refine wk_int (v := 2) (by decide) ?_
  refine lv_dup2_11 hx hb dd_X12_no_6 rfl rfl ?_
  have hi1 : vp_in 2 7 := (vi_of (by decide))
  refine va_iald hx hb hK hP 1 0 rfl rfl hi1 dd_X12_no_7 ?_
  refine wk_int (v := 0) rfl ?_
  refine lv_iconst (v := 1) hx hb dd_X12_no_8 (by decide) ?_
  refine lv_iadd hx hb dd_X12_no_9 ?_
  refine wk_int (v := 1) (by decide) ?_
  refine wk_iast (ws' := [(q 60, .inr (12, fM q)), (q 36, .inl (cy 0, 7, .inl (upd (fun _ => 0) (2 : Int32).toNatClampNeg 1)))]) Sx hK hP hD hS 1 0 rfl rfl (vi_of (by decide)) dd_X12_no_10 rfl (fun H locs hP hD hS => ?_)
  refine lv_iload_n hx hb dd_X12_no_11 rfl (lv_at hl 1 rfl) ?_
  exact hc_ret Sx hr hlocks dd_X12_no_12 hS () rfl p_nil d_nil
set_option maxHeartbeats 4000000 in
set_option maxRecDepth 100000 in
theorem c_M_no_4 (l : Launch) (D : va_G) (cy : Nat → ClassId) (q : Nat → Nat) : HC l my_X12_no mb_X12_no 2 ((some .int)) (rmD 1 0 0) D (TY cy) [.ref (q 60), .int (-4)] NX [(q 60, .inr (12, fM q)), (q 36, .inl (cy 0, 7, .inl (fun _ => 0)))] (QI (S := Unit) D (fun r _ => r = (-4)) (fun _ => [])) := by
  refine hc_intro (by decide) (Nat.le_of_ble_eq_true rfl) (fun p e s m below meth c A ls Sx hr hlocks hin hl hP hD hK hS hA hX => ?_)
  have hx := Sx.1
  have hb := Sx.2.1
  have hl : lv_has ls 2 [(0, .ref (q 60)), (1, .int (-4))] := hl
  have hP : va_P D cls [(q 60, .inr (12, fM q)), (q 36, .inl (cy 0, 7, .inl (fun _ => 0)))] s.heap := hP
  have hD : va_D A [(q 60, .inr (12, fM q)), (q 36, .inl (cy 0, 7, .inl (fun _ => 0)))] := hD
  refine lv_aload_n hx hb dd_X12_no_0 rfl (lv_at hl 0 rfl) ?_
  refine wk_get (v := .ref (q 36)) Sx ef_12 hK hP 0 rfl rfl 36 (by decide) kk_1137 rfl dd_X12_no_1 ?_
  refine lv_iload_n hx hb dd_X12_no_4 rfl (lv_at hl 1 rfl) ?_
  refine lv_ineg hx hb dd_X12_no_5 ?_
  refine wk_int (v := 4) (by decide) ?_
  refine lv_dup2_11 hx hb dd_X12_no_6 rfl rfl ?_
  have hi1 : vp_in 4 7 := (vi_of (by decide))
  refine va_iald hx hb hK hP 1 0 rfl rfl hi1 dd_X12_no_7 ?_
  refine wk_int (v := 0) rfl ?_
  refine lv_iconst (v := 1) hx hb dd_X12_no_8 (by decide) ?_
  refine lv_iadd hx hb dd_X12_no_9 ?_
  refine wk_int (v := 1) (by decide) ?_
  refine wk_iast (ws' := [(q 60, .inr (12, fM q)), (q 36, .inl (cy 0, 7, .inl (upd (fun _ => 0) (4 : Int32).toNatClampNeg 1)))]) Sx hK hP hD hS 1 0 rfl rfl (vi_of (by decide)) dd_X12_no_10 rfl (fun H locs hP hD hS => ?_)
  refine lv_iload_n hx hb dd_X12_no_11 rfl (lv_at hl 1 rfl) ?_
  exact hc_ret Sx hr hlocks dd_X12_no_12 hS () rfl p_nil d_nil
set_option maxHeartbeats 4000000 in
set_option maxRecDepth 100000 in
theorem c_M_no_5 (l : Launch) (D : va_G) (cy : Nat → ClassId) (q : Nat → Nat) : HC l my_X12_no mb_X12_no 2 ((some .int)) (rmD 1 0 0) D (TY cy) [.ref (q 60), .int (-5)] NX [(q 60, .inr (12, fM q)), (q 36, .inl (cy 0, 7, .inl (fun _ => 0)))] (QI (S := Unit) D (fun r _ => r = (-5)) (fun _ => [])) := by
  refine hc_intro (by decide) (Nat.le_of_ble_eq_true rfl) (fun p e s m below meth c A ls Sx hr hlocks hin hl hP hD hK hS hA hX => ?_)
  have hx := Sx.1
  have hb := Sx.2.1
  have hl : lv_has ls 2 [(0, .ref (q 60)), (1, .int (-5))] := hl
  have hP : va_P D cls [(q 60, .inr (12, fM q)), (q 36, .inl (cy 0, 7, .inl (fun _ => 0)))] s.heap := hP
  have hD : va_D A [(q 60, .inr (12, fM q)), (q 36, .inl (cy 0, 7, .inl (fun _ => 0)))] := hD
  refine lv_aload_n hx hb dd_X12_no_0 rfl (lv_at hl 0 rfl) ?_
  refine wk_get (v := .ref (q 36)) Sx ef_12 hK hP 0 rfl rfl 36 (by decide) kk_1137 rfl dd_X12_no_1 ?_
  refine lv_iload_n hx hb dd_X12_no_4 rfl (lv_at hl 1 rfl) ?_
  refine lv_ineg hx hb dd_X12_no_5 ?_
  refine wk_int (v := 5) (by decide) ?_
  refine lv_dup2_11 hx hb dd_X12_no_6 rfl rfl ?_
  have hi1 : vp_in 5 7 := (vi_of (by decide))
  refine va_iald hx hb hK hP 1 0 rfl rfl hi1 dd_X12_no_7 ?_
  refine wk_int (v := 0) rfl ?_
  refine lv_iconst (v := 1) hx hb dd_X12_no_8 (by decide) ?_
  refine lv_iadd hx hb dd_X12_no_9 ?_
  refine wk_int (v := 1) (by decide) ?_
  refine wk_iast (ws' := [(q 60, .inr (12, fM q)), (q 36, .inl (cy 0, 7, .inl (upd (fun _ => 0) (5 : Int32).toNatClampNeg 1)))]) Sx hK hP hD hS 1 0 rfl rfl (vi_of (by decide)) dd_X12_no_10 rfl (fun H locs hP hD hS => ?_)
  refine lv_iload_n hx hb dd_X12_no_11 rfl (lv_at hl 1 rfl) ?_
  exact hc_ret Sx hr hlocks dd_X12_no_12 hS () rfl p_nil d_nil
set_option maxHeartbeats 4000000 in
set_option maxRecDepth 100000 in
theorem c_M_isShelf (l : Launch) (D : va_G) (cy : Nat → ClassId) (q : Nat → Nat) (v : Int32) : PC l my_X12_isShelf mb_X12_isShelf 2 ((some .boolean)) (rmD 1 0 0) D (TY cy) [.ref (q 60), .int v] NS [] (vp_Si (fun r => if2 (0 ≤ v.toInt ∧ v.toInt ≤ 7) 1 0 r)) := by
  refine pc_intro (by decide) (Nat.le_of_ble_eq_true rfl) (fun p e s m below meth c ls Sx hr hlocks hl hP hK hX => ?_)
  have hx := Sx.1
  have hb := Sx.2.1
  have hl : lv_has ls 2 [(0, .ref (q 60)), (1, .int v)] := hl
  refine lv_iload_n hx hb dd_X12_isShelf_0 rfl (lv_at hl 1 rfl) ?_
  refine lv_if_lt (tgt := 14) hx hb dd_X12_isShelf_1 (by decide) (fun c1 => ?_) (fun c1 => ?_)
  · have fc1 := ci_lt (a := v.toInt) (b := 0) rfl rfl c1
    refine lv_iconst (v := 0) hx hb dd_X12_isShelf_14 (by decide) ?_
    exact pc_ret Sx hr hlocks rfl dd_X12_isShelf_15 (Or.inr ⟨by omega, rfl⟩)
  · have fc1 := ci_nlt (a := v.toInt) (b := 0) rfl rfl c1
    refine lv_iload_n hx hb dd_X12_isShelf_4 rfl (lv_at hl 1 rfl) ?_
    refine lv_bipush (v := 8) hx hb dd_X12_isShelf_5 (by decide) ?_
    refine lv_icmp_ge (tgt := 14) hx hb dd_X12_isShelf_7 (by decide) (fun c2 => ?_) (fun c2 => ?_)
    · have fc2 := ci_le (a := 8) (b := v.toInt) rfl rfl c2
      refine lv_iconst (v := 0) hx hb dd_X12_isShelf_14 (by decide) ?_
      exact pc_ret Sx hr hlocks rfl dd_X12_isShelf_15 (Or.inr ⟨by omega, rfl⟩)
    · have fc2 := ci_nle (a := 8) (b := v.toInt) rfl rfl c2
      refine lv_iconst (v := 1) hx hb dd_X12_isShelf_10 (by decide) ?_
      refine lv_goto (tgt := 15) hx hb dd_X12_isShelf_11 (by decide) ?_
      exact pc_ret Sx hr hlocks rfl dd_X12_isShelf_15 (Or.inl ⟨by omega, rfl⟩)
set_option maxHeartbeats 4000000 in
set_option maxRecDepth 100000 in
theorem c_M_isHour (l : Launch) (D : va_G) (cy : Nat → ClassId) (q : Nat → Nat) (v : Int32) : PC l my_X12_isHour mb_X12_isHour 2 ((some .boolean)) (rmD 1 0 0) D (TY cy) [.ref (q 60), .int v] NS [] (vp_Si (fun r => if2 (0 ≤ v.toInt ∧ v.toInt ≤ 11) 1 0 r)) := by
  refine pc_intro (by decide) (Nat.le_of_ble_eq_true rfl) (fun p e s m below meth c ls Sx hr hlocks hl hP hK hX => ?_)
  have hx := Sx.1
  have hb := Sx.2.1
  have hl : lv_has ls 2 [(0, .ref (q 60)), (1, .int v)] := hl
  refine lv_iload_n hx hb dd_X12_isHour_0 rfl (lv_at hl 1 rfl) ?_
  refine lv_if_lt (tgt := 14) hx hb dd_X12_isHour_1 (by decide) (fun c1 => ?_) (fun c1 => ?_)
  · have fc1 := ci_lt (a := v.toInt) (b := 0) rfl rfl c1
    refine lv_iconst (v := 0) hx hb dd_X12_isHour_14 (by decide) ?_
    exact pc_ret Sx hr hlocks rfl dd_X12_isHour_15 (Or.inr ⟨by omega, rfl⟩)
  · have fc1 := ci_nlt (a := v.toInt) (b := 0) rfl rfl c1
    refine lv_iload_n hx hb dd_X12_isHour_4 rfl (lv_at hl 1 rfl) ?_
    refine lv_bipush (v := 12) hx hb dd_X12_isHour_5 (by decide) ?_
    refine lv_icmp_ge (tgt := 14) hx hb dd_X12_isHour_7 (by decide) (fun c2 => ?_) (fun c2 => ?_)
    · have fc2 := ci_le (a := 12) (b := v.toInt) rfl rfl c2
      refine lv_iconst (v := 0) hx hb dd_X12_isHour_14 (by decide) ?_
      exact pc_ret Sx hr hlocks rfl dd_X12_isHour_15 (Or.inr ⟨by omega, rfl⟩)
    · have fc2 := ci_nle (a := 12) (b := v.toInt) rfl rfl c2
      refine lv_iconst (v := 1) hx hb dd_X12_isHour_10 (by decide) ?_
      refine lv_goto (tgt := 15) hx hb dd_X12_isHour_11 (by decide) ?_
      exact pc_ret Sx hr hlocks rfl dd_X12_isHour_15 (Or.inl ⟨by omega, rfl⟩)
set_option maxHeartbeats 4000000 in
set_option maxRecDepth 100000 in
theorem c_M_isKind (l : Launch) (D : va_G) (cy : Nat → ClassId) (q : Nat → Nat) (v : Int32) : PC l my_X12_isKind mb_X12_isKind 2 ((some .boolean)) (rmD 1 0 0) D (TY cy) [.ref (q 60), .int v] NS [] (vp_Si (fun r => if2 (0 ≤ v.toInt ∧ v.toInt ≤ 5) 1 0 r)) := by
  refine pc_intro (by decide) (Nat.le_of_ble_eq_true rfl) (fun p e s m below meth c ls Sx hr hlocks hl hP hK hX => ?_)
  have hx := Sx.1
  have hb := Sx.2.1
  have hl : lv_has ls 2 [(0, .ref (q 60)), (1, .int v)] := hl
  refine lv_iload_n hx hb dd_X12_isKind_0 rfl (lv_at hl 1 rfl) ?_
  refine lv_if_lt (tgt := 14) hx hb dd_X12_isKind_1 (by decide) (fun c1 => ?_) (fun c1 => ?_)
  · have fc1 := ci_lt (a := v.toInt) (b := 0) rfl rfl c1
    refine lv_iconst (v := 0) hx hb dd_X12_isKind_14 (by decide) ?_
    exact pc_ret Sx hr hlocks rfl dd_X12_isKind_15 (Or.inr ⟨by omega, rfl⟩)
  · have fc1 := ci_nlt (a := v.toInt) (b := 0) rfl rfl c1
    refine lv_iload_n hx hb dd_X12_isKind_4 rfl (lv_at hl 1 rfl) ?_
    refine lv_bipush (v := 6) hx hb dd_X12_isKind_5 (by decide) ?_
    refine lv_icmp_ge (tgt := 14) hx hb dd_X12_isKind_7 (by decide) (fun c2 => ?_) (fun c2 => ?_)
    · have fc2 := ci_le (a := 6) (b := v.toInt) rfl rfl c2
      refine lv_iconst (v := 0) hx hb dd_X12_isKind_14 (by decide) ?_
      exact pc_ret Sx hr hlocks rfl dd_X12_isKind_15 (Or.inr ⟨by omega, rfl⟩)
    · have fc2 := ci_nle (a := 6) (b := v.toInt) rfl rfl c2
      refine lv_iconst (v := 1) hx hb dd_X12_isKind_10 (by decide) ?_
      refine lv_goto (tgt := 15) hx hb dd_X12_isKind_11 (by decide) ?_
      exact pc_ret Sx hr hlocks rfl dd_X12_isKind_15 (Or.inl ⟨by omega, rfl⟩)
set_option maxHeartbeats 4000000 in
set_option maxRecDepth 100000 in
theorem c_M_areKinds (l : Launch) (D : va_G) (cy : Nat → ClassId) (q : Nat → Nat) (v : Int32) : PC l my_X12_areKinds mb_X12_areKinds 2 ((some .boolean)) (rmD 1 0 0) D (TY cy) [.ref (q 60), .int v] NS [] (vp_Si (fun r => if2 (0 ≤ v.toInt ∧ v.toInt ≤ 63) 1 0 r)) := by
  refine pc_intro (by decide) (Nat.le_of_ble_eq_true rfl) (fun p e s m below meth c ls Sx hr hlocks hl hP hK hX => ?_)
  have hx := Sx.1
  have hb := Sx.2.1
  have hl : lv_has ls 2 [(0, .ref (q 60)), (1, .int v)] := hl
  refine lv_iload_n hx hb dd_X12_areKinds_0 rfl (lv_at hl 1 rfl) ?_
  refine lv_if_lt (tgt := 14) hx hb dd_X12_areKinds_1 (by decide) (fun c1 => ?_) (fun c1 => ?_)
  · have fc1 := ci_lt (a := v.toInt) (b := 0) rfl rfl c1
    refine lv_iconst (v := 0) hx hb dd_X12_areKinds_14 (by decide) ?_
    exact pc_ret Sx hr hlocks rfl dd_X12_areKinds_15 (Or.inr ⟨by omega, rfl⟩)
  · have fc1 := ci_nlt (a := v.toInt) (b := 0) rfl rfl c1
    refine lv_iload_n hx hb dd_X12_areKinds_4 rfl (lv_at hl 1 rfl) ?_
    refine lv_bipush (v := 64) hx hb dd_X12_areKinds_5 (by decide) ?_
    refine lv_icmp_ge (tgt := 14) hx hb dd_X12_areKinds_7 (by decide) (fun c2 => ?_) (fun c2 => ?_)
    · have fc2 := ci_le (a := 64) (b := v.toInt) rfl rfl c2
      refine lv_iconst (v := 0) hx hb dd_X12_areKinds_14 (by decide) ?_
      exact pc_ret Sx hr hlocks rfl dd_X12_areKinds_15 (Or.inr ⟨by omega, rfl⟩)
    · have fc2 := ci_nle (a := 64) (b := v.toInt) rfl rfl c2
      refine lv_iconst (v := 1) hx hb dd_X12_areKinds_10 (by decide) ?_
      refine lv_goto (tgt := 15) hx hb dd_X12_areKinds_11 (by decide) ?_
      exact pc_ret Sx hr hlocks rfl dd_X12_areKinds_15 (Or.inl ⟨by omega, rfl⟩)
set_option maxHeartbeats 4000000 in
set_option maxRecDepth 100000 in
theorem c_M_isPerson (l : Launch) (D : va_G) (cy : Nat → ClassId) (q : Nat → Nat) (v : Int32) : PC l my_X12_isPerson mb_X12_isPerson 2 ((some .boolean)) (rmD 1 0 0) D (TY cy) [.ref (q 60), .int v] NS [] (vp_Si (fun r => if2 (0 ≤ v.toInt ∧ v.toInt ≤ 15) 1 0 r)) := by
  refine pc_intro (by decide) (Nat.le_of_ble_eq_true rfl) (fun p e s m below meth c ls Sx hr hlocks hl hP hK hX => ?_)
  have hx := Sx.1
  have hb := Sx.2.1
  have hl : lv_has ls 2 [(0, .ref (q 60)), (1, .int v)] := hl
  refine lv_iload_n hx hb dd_X12_isPerson_0 rfl (lv_at hl 1 rfl) ?_
  refine lv_if_lt (tgt := 14) hx hb dd_X12_isPerson_1 (by decide) (fun c1 => ?_) (fun c1 => ?_)
  · have fc1 := ci_lt (a := v.toInt) (b := 0) rfl rfl c1
    refine lv_iconst (v := 0) hx hb dd_X12_isPerson_14 (by decide) ?_
    exact pc_ret Sx hr hlocks rfl dd_X12_isPerson_15 (Or.inr ⟨by omega, rfl⟩)
  · have fc1 := ci_nlt (a := v.toInt) (b := 0) rfl rfl c1
    refine lv_iload_n hx hb dd_X12_isPerson_4 rfl (lv_at hl 1 rfl) ?_
    refine lv_bipush (v := 16) hx hb dd_X12_isPerson_5 (by decide) ?_
    refine lv_icmp_ge (tgt := 14) hx hb dd_X12_isPerson_7 (by decide) (fun c2 => ?_) (fun c2 => ?_)
    · have fc2 := ci_le (a := 16) (b := v.toInt) rfl rfl c2
      refine lv_iconst (v := 0) hx hb dd_X12_isPerson_14 (by decide) ?_
      exact pc_ret Sx hr hlocks rfl dd_X12_isPerson_15 (Or.inr ⟨by omega, rfl⟩)
    · have fc2 := ci_nle (a := 16) (b := v.toInt) rfl rfl c2
      refine lv_iconst (v := 1) hx hb dd_X12_isPerson_10 (by decide) ?_
      refine lv_goto (tgt := 15) hx hb dd_X12_isPerson_11 (by decide) ?_
      exact pc_ret Sx hr hlocks rfl dd_X12_isPerson_15 (Or.inl ⟨by omega, rfl⟩)
set_option maxHeartbeats 4000000 in
set_option maxRecDepth 100000 in
theorem c_M_isThing (l : Launch) (D : va_G) (cy : Nat → ClassId) (q : Nat → Nat) (v : Int32) : PC l my_X12_isThing mb_X12_isThing 2 ((some .boolean)) (rmD 1 0 0) D (TY cy) [.ref (q 60), .int v] NS [(q 60, .inr (12, fM q))] (vp_Si (fun r => r = 0)) := by
  refine pc_intro (by decide) (Nat.le_of_ble_eq_true rfl) (fun p e s m below meth c ls Sx hr hlocks hl hP hK hX => ?_)
  have hx := Sx.1
  have hb := Sx.2.1
  have hl : lv_has ls 2 [(0, .ref (q 60)), (1, .int v)] := hl
  refine lv_iload_n hx hb dd_X12_isThing_0 rfl (lv_at hl 1 rfl) ?_
  refine lv_if_lt (tgt := 16) hx hb dd_X12_isThing_1 (by decide) (fun c1 => ?_) (fun c1 => ?_)
  · have fc1 := ci_lt (a := v.toInt) (b := 0) rfl rfl c1
    refine lv_iconst (v := 0) hx hb dd_X12_isThing_16 (by decide) ?_
    exact pc_ret Sx hr hlocks rfl dd_X12_isThing_17 rfl
  · have fc1 := ci_nlt (a := v.toInt) (b := 0) rfl rfl c1
    refine lv_iload_n hx hb dd_X12_isThing_4 rfl (lv_at hl 1 rfl) ?_
    refine lv_aload_n hx hb dd_X12_isThing_5 rfl (lv_at hl 0 rfl) ?_
    refine wk_get (v := .int 0) Sx ef_12 hK hP 0 rfl rfl 3 (by decide) kk_1104 rfl dd_X12_isThing_6 ?_
    refine lv_icmp_ge (tgt := 16) hx hb dd_X12_isThing_9 (by decide) (fun c2 => ?_) (fun c2 => ?_)
    · have fc2 := ci_le (a := 0) (b := v.toInt) rfl rfl c2
      refine lv_iconst (v := 0) hx hb dd_X12_isThing_16 (by decide) ?_
      exact pc_ret Sx hr hlocks rfl dd_X12_isThing_17 rfl
    · have fc2 := ci_nle (a := 0) (b := v.toInt) rfl rfl c2
      exfalso; omega
set_option maxHeartbeats 4000000 in
set_option maxRecDepth 100000 in
theorem c_M_isLady (l : Launch) (D : va_G) (cy : Nat → ClassId) (q : Nat → Nat) (v : Int32) : PC l my_X12_isLady mb_X12_isLady 2 ((some .boolean)) (rmD 1 0 0) D (TY cy) [.ref (q 60), .int v] NS [(q 60, .inr (12, fM q))] (vp_Si (fun r => r = 0)) := by
  refine pc_intro (by decide) (Nat.le_of_ble_eq_true rfl) (fun p e s m below meth c ls Sx hr hlocks hl hP hK hX => ?_)
  have hx := Sx.1
  have hb := Sx.2.1
  have hl : lv_has ls 2 [(0, .ref (q 60)), (1, .int v)] := hl
  refine lv_iload_n hx hb dd_X12_isLady_0 rfl (lv_at hl 1 rfl) ?_
  refine lv_if_lt (tgt := 16) hx hb dd_X12_isLady_1 (by decide) (fun c1 => ?_) (fun c1 => ?_)
  · have fc1 := ci_lt (a := v.toInt) (b := 0) rfl rfl c1
    refine lv_iconst (v := 0) hx hb dd_X12_isLady_16 (by decide) ?_
    exact pc_ret Sx hr hlocks rfl dd_X12_isLady_17 rfl
  · have fc1 := ci_nlt (a := v.toInt) (b := 0) rfl rfl c1
    refine lv_iload_n hx hb dd_X12_isLady_4 rfl (lv_at hl 1 rfl) ?_
    refine lv_aload_n hx hb dd_X12_isLady_5 rfl (lv_at hl 0 rfl) ?_
    refine wk_get (v := .int 0) Sx ef_12 hK hP 0 rfl rfl 10 (by decide) kk_1111 rfl dd_X12_isLady_6 ?_
    refine lv_icmp_ge (tgt := 16) hx hb dd_X12_isLady_9 (by decide) (fun c2 => ?_) (fun c2 => ?_)
    · have fc2 := ci_le (a := 0) (b := v.toInt) rfl rfl c2
      refine lv_iconst (v := 0) hx hb dd_X12_isLady_16 (by decide) ?_
      exact pc_ret Sx hr hlocks rfl dd_X12_isLady_17 rfl
    · have fc2 := ci_nle (a := 0) (b := v.toInt) rfl rfl c2
      exfalso; omega
set_option maxHeartbeats 4000000 in
set_option maxRecDepth 100000 in
theorem c_M_isLaw (l : Launch) (D : va_G) (cy : Nat → ClassId) (q : Nat → Nat) (v : Int32) : PC l my_X12_isLaw mb_X12_isLaw 2 ((some .boolean)) (rmD 1 0 0) D (TY cy) [.ref (q 60), .int v] NS [(q 60, .inr (12, fM q))] (vp_Si (fun r => r = 0)) := by
  refine pc_intro (by decide) (Nat.le_of_ble_eq_true rfl) (fun p e s m below meth c ls Sx hr hlocks hl hP hK hX => ?_)
  have hx := Sx.1
  have hb := Sx.2.1
  have hl : lv_has ls 2 [(0, .ref (q 60)), (1, .int v)] := hl
  refine lv_iload_n hx hb dd_X12_isLaw_0 rfl (lv_at hl 1 rfl) ?_
  refine lv_if_lt (tgt := 16) hx hb dd_X12_isLaw_1 (by decide) (fun c1 => ?_) (fun c1 => ?_)
  · have fc1 := ci_lt (a := v.toInt) (b := 0) rfl rfl c1
    refine lv_iconst (v := 0) hx hb dd_X12_isLaw_16 (by decide) ?_
    exact pc_ret Sx hr hlocks rfl dd_X12_isLaw_17 rfl
  · have fc1 := ci_nlt (a := v.toInt) (b := 0) rfl rfl c1
    refine lv_iload_n hx hb dd_X12_isLaw_4 rfl (lv_at hl 1 rfl) ?_
    refine lv_aload_n hx hb dd_X12_isLaw_5 rfl (lv_at hl 0 rfl) ?_
    refine wk_get (v := .int 0) Sx ef_12 hK hP 0 rfl rfl 14 (by decide) kk_1115 rfl dd_X12_isLaw_6 ?_
    refine lv_icmp_ge (tgt := 16) hx hb dd_X12_isLaw_9 (by decide) (fun c2 => ?_) (fun c2 => ?_)
    · have fc2 := ci_le (a := 0) (b := v.toInt) rfl rfl c2
      refine lv_iconst (v := 0) hx hb dd_X12_isLaw_16 (by decide) ?_
      exact pc_ret Sx hr hlocks rfl dd_X12_isLaw_17 rfl
    · have fc2 := ci_nle (a := 0) (b := v.toInt) rfl rfl c2
      exfalso; omega
set_option maxHeartbeats 4000000 in
set_option maxRecDepth 100000 in
theorem c_M_isBuyer (l : Launch) (D : va_G) (cy : Nat → ClassId) (q : Nat → Nat) (v : Int32) : PC l my_X12_isBuyer mb_X12_isBuyer 2 ((some .boolean)) (rmD 1 0 0) D (TY cy) [.ref (q 60), .int v] NS [(q 60, .inr (12, fM q))] (vp_Si (fun r => r = 0)) := by
  refine pc_intro (by decide) (Nat.le_of_ble_eq_true rfl) (fun p e s m below meth c ls Sx hr hlocks hl hP hK hX => ?_)
  have hx := Sx.1
  have hb := Sx.2.1
  have hl : lv_has ls 2 [(0, .ref (q 60)), (1, .int v)] := hl
  refine lv_iload_n hx hb dd_X12_isBuyer_0 rfl (lv_at hl 1 rfl) ?_
  refine lv_if_lt (tgt := 16) hx hb dd_X12_isBuyer_1 (by decide) (fun c1 => ?_) (fun c1 => ?_)
  · have fc1 := ci_lt (a := v.toInt) (b := 0) rfl rfl c1
    refine lv_iconst (v := 0) hx hb dd_X12_isBuyer_16 (by decide) ?_
    exact pc_ret Sx hr hlocks rfl dd_X12_isBuyer_17 rfl
  · have fc1 := ci_nlt (a := v.toInt) (b := 0) rfl rfl c1
    refine lv_iload_n hx hb dd_X12_isBuyer_4 rfl (lv_at hl 1 rfl) ?_
    refine lv_aload_n hx hb dd_X12_isBuyer_5 rfl (lv_at hl 0 rfl) ?_
    refine wk_get (v := .int 0) Sx ef_12 hK hP 0 rfl rfl 18 (by decide) kk_1119 rfl dd_X12_isBuyer_6 ?_
    refine lv_icmp_ge (tgt := 16) hx hb dd_X12_isBuyer_9 (by decide) (fun c2 => ?_) (fun c2 => ?_)
    · have fc2 := ci_le (a := 0) (b := v.toInt) rfl rfl c2
      refine lv_iconst (v := 0) hx hb dd_X12_isBuyer_16 (by decide) ?_
      exact pc_ret Sx hr hlocks rfl dd_X12_isBuyer_17 rfl
    · have fc2 := ci_nle (a := 0) (b := v.toInt) rfl rfl c2
      exfalso; omega
set_option maxHeartbeats 4000000 in
set_option maxRecDepth 100000 in
theorem c_M_isRow (l : Launch) (D : va_G) (cy : Nat → ClassId) (q : Nat → Nat) (sf : Int32) (hsf : 0 ≤ sf.toInt ∧ sf.toInt ≤ 7) : PC l my_X12_isRow mb_X12_isRow 2 ((some .boolean)) (rmD 1 0 0) D (TY cy) [.ref (q 60), .int sf] NS [(q 60, .inr (12, fM q)), (q 0, .inl (cy 0, 8, .inl (hold0)))] (vp_Si (fun r => r = 0)) := by
  refine pc_intro (by decide) (Nat.le_of_ble_eq_true rfl) (fun p e s m below meth c ls Sx hr hlocks hl hP hK hX => ?_)
  have hx := Sx.1
  have hb := Sx.2.1
  have hl : lv_has ls 2 [(0, .ref (q 60)), (1, .int sf)] := hl
  refine lv_aload_n hx hb dd_X12_isRow_0 rfl (lv_at hl 0 rfl) ?_
  refine wk_get (v := .ref (q 0)) Sx ef_12 hK hP 0 rfl rfl 0 (by decide) kk_1101 rfl dd_X12_isRow_1 ?_
  refine lv_iload_n hx hb dd_X12_isRow_4 rfl (lv_at hl 1 rfl) ?_
  have hi1 : vp_in sf 8 := (vi_of (by omega))
  refine va_iald hx hb hK hP 1 0 rfl rfl hi1 dd_X12_isRow_5 ?_
  refine wk_int (v := (-1)) (hold0_at _ (vi_lt hi1)) ?_
  refine lv_bipush (v := 100) hx hb dd_X12_isRow_6 (by decide) ?_
  refine lv_icmp_lt (tgt := 15) hx hb dd_X12_isRow_8 (by decide) (fun _ => ?_) (fun c => absurd c (by decide))
  refine lv_iconst (v := 0) hx hb dd_X12_isRow_15 (by decide) ?_
  exact pc_ret Sx hr hlocks rfl dd_X12_isRow_16 rfl
set_option maxHeartbeats 4000000 in
set_option maxRecDepth 100000 in
theorem c_M_holdsThing (l : Launch) (D : va_G) (cy : Nat → ClassId) (q : Nat → Nat) (sf : Int32) (hsf : 0 ≤ sf.toInt ∧ sf.toInt ≤ 7) : PC l my_X12_holdsThing mb_X12_holdsThing 2 ((some .boolean)) (rmD 1 0 0) D (TY cy) [.ref (q 60), .int sf] NS [(q 60, .inr (12, fM q)), (q 0, .inl (cy 0, 8, .inl (hold0)))] (vp_Si (fun r => r = 0)) := by
  refine pc_intro (by decide) (Nat.le_of_ble_eq_true rfl) (fun p e s m below meth c ls Sx hr hlocks hl hP hK hX => ?_)
  have hx := Sx.1
  have hb := Sx.2.1
  have hl : lv_has ls 2 [(0, .ref (q 60)), (1, .int sf)] := hl
  refine lv_aload_n hx hb dd_X12_holdsThing_0 rfl (lv_at hl 0 rfl) ?_
  refine wk_get (v := .ref (q 0)) Sx ef_12 hK hP 0 rfl rfl 0 (by decide) kk_1101 rfl dd_X12_holdsThing_1 ?_
  refine lv_iload_n hx hb dd_X12_holdsThing_4 rfl (lv_at hl 1 rfl) ?_
  have hi1 : vp_in sf 8 := (vi_of (by omega))
  refine va_iald hx hb hK hP 1 0 rfl rfl hi1 dd_X12_holdsThing_5 ?_
  refine wk_int (v := (-1)) (hold0_at _ (vi_lt hi1)) ?_
  refine lv_if_lt (tgt := 24) hx hb dd_X12_holdsThing_6 (by decide) (fun _ => ?_) (fun c => absurd c (by decide))
  refine lv_iconst (v := 0) hx hb dd_X12_holdsThing_24 (by decide) ?_
  exact pc_ret Sx hr hlocks rfl dd_X12_holdsThing_25 rfl
set_option maxHeartbeats 4000000 in
set_option maxRecDepth 100000 in
theorem c_M_noRow (l : Launch) (D : va_G) (cy : Nat → ClassId) (q : Nat → Nat) (sf : Int32) : PC l my_X12_noRow mb_X12_noRow 2 ((some .int)) (rmD 2 0 0) D (TY cy) [.ref (q 60), .int sf] NS [(q 60, .inr (12, fM q)), (q 0, .inl (cy 0, 8, .inl (hold0)))] (vp_Si (fun r => if2 (0 ≤ sf.toInt ∧ sf.toInt ≤ 7) (-4) (-2) r)) := by
  refine pc_intro (by decide) (Nat.le_of_ble_eq_true rfl) (fun p e s m below meth c ls Sx hr hlocks hl hP hK hX => ?_)
  have hx := Sx.1
  have hb := Sx.2.1
  have hl : lv_has ls 2 [(0, .ref (q 60)), (1, .int sf)] := hl
  refine lv_aload_n hx hb dd_X12_noRow_0 rfl (lv_at hl 0 rfl) ?_
  refine lv_iload_n hx hb dd_X12_noRow_1 rfl (lv_at hl 1 rfl) ?_
  refine pk_i (pc_V [.int sf] [] Sx hl.1 ws_M_148 md_X12_isShelf (c_M_isShelf l D cy q sf) ⟨rfl, rfl⟩ ⟨Nat.le_of_ble_eq_true rfl, Nat.le_of_ble_eq_true rfl⟩ p_nil hK ns_b (ns_w hX) (va_recv hK hP (ci := 12) (q0 := 0) rfl rfl) rfl rfl (Nat.le_of_ble_eq_true rfl) dd_X12_noRow_2 ⟨Nat.le_of_ble_eq_true rfl, Nat.le_of_ble_eq_true rfl⟩) (fun r1 hw2 => ?_)
  rcases hw2 with ⟨hw2, ehw2⟩ | ⟨hw2, ehw2⟩
  · subst ehw2
    refine lv_if_ne (tgt := 11) hx hb dd_X12_noRow_5 (by decide) (fun _ => ?_) (fun c => absurd c (by decide))
    refine lv_aload_n hx hb dd_X12_noRow_11 rfl (lv_at hl 0 rfl) ?_
    refine lv_iload_n hx hb dd_X12_noRow_12 rfl (lv_at hl 1 rfl) ?_
    refine pk_i (pc_V [.int sf] [] Sx hl.1 ws_M_156 md_X12_holdsThing (c_M_holdsThing l D cy q sf (by omega)) ⟨rfl, rfl⟩ ⟨Nat.le_of_ble_eq_true rfl, Nat.le_of_ble_eq_true rfl⟩ (hP.sub [0, 1] rfl) hK ns_b (ns_w hX) (va_recv hK hP (ci := 12) (q0 := 0) rfl rfl) rfl rfl (Nat.le_of_ble_eq_true rfl) dd_X12_noRow_13 ⟨Nat.le_of_ble_eq_true rfl, Nat.le_of_ble_eq_true rfl⟩) (fun r3 hw4 => ?_)
    subst hw4
    refine lv_if_eq (tgt := 22) hx hb dd_X12_noRow_16 (by decide) (fun _ => ?_) (fun c => absurd c (by decide))
    refine lv_aload_n hx hb dd_X12_noRow_22 rfl (lv_at hl 0 rfl) ?_
    refine wk_get (v := .ref (q 0)) Sx ef_12 hK hP 0 rfl rfl 0 (by decide) kk_1101 rfl dd_X12_noRow_23 ?_
    refine lv_iload_n hx hb dd_X12_noRow_26 rfl (lv_at hl 1 rfl) ?_
    have hi5 : vp_in sf 8 := (vi_of (by omega))
    refine va_iald hx hb hK hP 1 0 rfl rfl hi5 dd_X12_noRow_27 ?_
    refine wk_int (v := (-1)) (hold0_at _ (vi_lt hi5)) ?_
    refine lv_if_ge (tgt := 36) hx hb dd_X12_noRow_28 (by decide) (fun c => absurd c (by decide)) (fun _ => ?_)
    refine lv_bipush (v := (-4)) hx hb dd_X12_noRow_31 (by decide) ?_
    refine lv_goto (tgt := 37) hx hb dd_X12_noRow_33 (by decide) ?_
    exact pc_ret Sx hr hlocks rfl dd_X12_noRow_37 (Or.inl ⟨by omega, rfl⟩)
  · subst ehw2
    refine lv_if_ne (tgt := 11) hx hb dd_X12_noRow_5 (by decide) (fun c => absurd c (by decide)) (fun _ => ?_)
    refine lv_bipush (v := (-2)) hx hb dd_X12_noRow_8 (by decide) ?_
    exact pc_ret Sx hr hlocks rfl dd_X12_noRow_10 (Or.inr ⟨by omega, rfl⟩)
set_option maxHeartbeats 4000000 in
set_option maxRecDepth 100000 in
theorem c_M_asNow (l : Launch) (D : va_G) (cy : Nat → ClassId) (q : Nat → Nat) : PC l my_X12_asNow mb_X12_asNow 2 ((none : Option Jvm.ClassFile.FieldType)) (rmD 1 0 0) D (TY cy) [.ref (q 60)] NS [(q 60, .inr (12, fM q))] (va_Sv (fun _ => True)) := by
  refine pc_intro (by decide) (Nat.le_of_ble_eq_true rfl) (fun p e s m below meth c ls Sx hr hlocks hl hP hK hX => ?_)
  have hx := Sx.1
  have hb := Sx.2.1
  have hl : lv_has ls 2 [(0, .ref (q 60))] := hl
  refine lv_iconst (v := 0) hx hb dd_X12_asNow_0 (by decide) ?_
  refine lv_istore_n (lv' := [(1, .int 0), (0, .ref (q 60))]) hx hb dd_X12_asNow_1 rfl hl (by decide) rfl (fun ls hl => ?_)
  refine lv_iload_n hx hb dd_X12_asNow_2 rfl (lv_at hl 0 rfl) ?_
  refine lv_aload_n hx hb dd_X12_asNow_3 rfl (lv_at hl 1 rfl) ?_
  refine wk_get (v := .int 0) Sx ef_12 hK hP 0 rfl rfl 3 (by decide) kk_1104 rfl dd_X12_asNow_4 ?_
  refine lv_icmp_ge (tgt := 36) hx hb dd_X12_asNow_7 (by decide) (fun _ => ?_) (fun c => absurd c (by decide))
  refine lv_iconst (v := 0) hx hb dd_X12_asNow_36 (by decide) ?_
  refine lv_istore_n (lv' := [(1, .int 0), (0, .ref (q 60))]) hx hb dd_X12_asNow_37 rfl hl (by decide) rfl (fun ls hl => ?_)
  refine lv_iload_n hx hb dd_X12_asNow_38 rfl (lv_at hl 0 rfl) ?_
  refine lv_aload_n hx hb dd_X12_asNow_39 rfl (lv_at hl 1 rfl) ?_
  refine wk_get (v := .int 0) Sx ef_12 hK hP 0 rfl rfl 18 (by decide) kk_1119 rfl dd_X12_asNow_40 ?_
  refine lv_icmp_ge (tgt := 64) hx hb dd_X12_asNow_43 (by decide) (fun _ => ?_) (fun c => absurd c (by decide))
  exact pc_vret Sx hr hlocks dd_X12_asNow_64 trivial
set_option maxHeartbeats 4000000 in
set_option maxRecDepth 100000 in
theorem c_M_wholeDay (l : Launch) (D : va_G) (cy : Nat → ClassId) (q : Nat → Nat) (ha : Int32) (ba : Int32) : PC l my_X12_wholeDay mb_X12_wholeDay 8 ((some .int)) (rmD 2 0 0) D (TY cy) [.ref (q 60), .int ha, .int ba] NS [(q 60, .inr (12, fM q))] (vp_Si (fun r => r = 0)) := by
  refine pc_intro (by decide) (Nat.le_of_ble_eq_true rfl) (fun p e s m below meth c ls Sx hr hlocks hl hP hK hX => ?_)
  have hx := Sx.1
  have hb := Sx.2.1
  have hl : lv_has ls 8 [(0, .ref (q 60)), (1, .int ha), (2, .int ba)] := hl
  refine lv_aload_n hx hb dd_X12_wholeDay_0 rfl (lv_at hl 0 rfl) ?_
  refine pk_v (pc_V [] [] Sx hl.1 ws_M_258 md_X12_asNow (c_M_asNow l D cy q) ⟨rfl, rfl⟩ ⟨Nat.le_of_ble_eq_true rfl, Nat.le_of_ble_eq_true rfl⟩ (hP.sub [0] rfl) hK ns_b (ns_w hX) (va_recv hK hP (ci := 12) (q0 := 0) rfl rfl) rfl rfl (Nat.le_of_ble_eq_true rfl) dd_X12_wholeDay_1 ⟨Nat.le_of_ble_eq_true rfl, Nat.le_of_ble_eq_true rfl⟩) (fun _ => ?_)
  refine lv_iconst (v := 0) hx hb dd_X12_wholeDay_4 (by decide) ?_
  refine lv_istore_n (lv' := [(3, .int 0), (0, .ref (q 60)), (1, .int ha), (2, .int ba)]) hx hb dd_X12_wholeDay_5 rfl hl (by decide) rfl (fun ls hl => ?_)
  refine lv_iconst (v := 0) hx hb dd_X12_wholeDay_6 (by decide) ?_
  refine lv_istore (lv' := [(4, .int 0), (3, .int 0), (0, .ref (q 60)), (1, .int ha), (2, .int ba)]) hx hb dd_X12_wholeDay_7 hl (by decide) rfl (fun ls hl => ?_)
  refine lv_iload hx hb dd_X12_wholeDay_9 (lv_at hl 0 rfl) ?_
  refine lv_bipush (v := 12) hx hb dd_X12_wholeDay_11 (by decide) ?_
  refine lv_icmp_ge (tgt := 97) hx hb dd_X12_wholeDay_13 (by decide) (fun c => absurd c (by decide)) (fun _ => ?_)
  refine lv_iconst (v := 0) hx hb dd_X12_wholeDay_16 (by decide) ?_
  refine lv_istore (lv' := [(5, .int 0), (4, .int 0), (3, .int 0), (0, .ref (q 60)), (1, .int ha), (2, .int ba)]) hx hb dd_X12_wholeDay_17 hl (by decide) rfl (fun ls hl => ?_)
  refine lv_iload hx hb dd_X12_wholeDay_19 (lv_at hl 0 rfl) ?_
  refine lv_aload_n hx hb dd_X12_wholeDay_21 rfl (lv_at hl 3 rfl) ?_
  refine wk_get (v := .int 0) Sx ef_12 hK hP 0 rfl rfl 18 (by decide) kk_1119 rfl dd_X12_wholeDay_22 ?_
  refine lv_icmp_ge (tgt := 91) hx hb dd_X12_wholeDay_25 (by decide) (fun _ => ?_) (fun c => absurd c (by decide))
  refine lv_iinc (v := 1) (lv' := [(4, .int 1), (5, .int 0), (3, .int 0), (0, .ref (q 60)), (1, .int ha), (2, .int ba)]) hx hb dd_X12_wholeDay_91 hl (k := 1) rfl (by decide) (by decide) rfl (fun ls hl => ?_)
  refine lv_goto (tgt := 9) hx hb dd_X12_wholeDay_94 (by decide) ?_
  refine lv_iload hx hb dd_X12_wholeDay_9 (lv_at hl 0 rfl) ?_
  refine lv_bipush (v := 12) hx hb dd_X12_wholeDay_11 (by decide) ?_
  refine lv_icmp_ge (tgt := 97) hx hb dd_X12_wholeDay_13 (by decide) (fun c => absurd c (by decide)) (fun _ => ?_)
  refine lv_iconst (v := 0) hx hb dd_X12_wholeDay_16 (by decide) ?_
  refine lv_istore (lv' := [(5, .int 0), (4, .int 1), (3, .int 0), (0, .ref (q 60)), (1, .int ha), (2, .int ba)]) hx hb dd_X12_wholeDay_17 hl (by decide) rfl (fun ls hl => ?_)
  refine lv_iload hx hb dd_X12_wholeDay_19 (lv_at hl 0 rfl) ?_
  refine lv_aload_n hx hb dd_X12_wholeDay_21 rfl (lv_at hl 3 rfl) ?_
  refine wk_get (v := .int 0) Sx ef_12 hK hP 0 rfl rfl 18 (by decide) kk_1119 rfl dd_X12_wholeDay_22 ?_
  refine lv_icmp_ge (tgt := 91) hx hb dd_X12_wholeDay_25 (by decide) (fun _ => ?_) (fun c => absurd c (by decide))
  refine lv_iinc (v := 2) (lv' := [(4, .int 2), (5, .int 0), (3, .int 0), (0, .ref (q 60)), (1, .int ha), (2, .int ba)]) hx hb dd_X12_wholeDay_91 hl (k := 1) rfl (by decide) (by decide) rfl (fun ls hl => ?_)
  refine lv_goto (tgt := 9) hx hb dd_X12_wholeDay_94 (by decide) ?_
  refine lv_iload hx hb dd_X12_wholeDay_9 (lv_at hl 0 rfl) ?_
  refine lv_bipush (v := 12) hx hb dd_X12_wholeDay_11 (by decide) ?_
  refine lv_icmp_ge (tgt := 97) hx hb dd_X12_wholeDay_13 (by decide) (fun c => absurd c (by decide)) (fun _ => ?_)
  refine lv_iconst (v := 0) hx hb dd_X12_wholeDay_16 (by decide) ?_
  refine lv_istore (lv' := [(5, .int 0), (4, .int 2), (3, .int 0), (0, .ref (q 60)), (1, .int ha), (2, .int ba)]) hx hb dd_X12_wholeDay_17 hl (by decide) rfl (fun ls hl => ?_)
  refine lv_iload hx hb dd_X12_wholeDay_19 (lv_at hl 0 rfl) ?_
  refine lv_aload_n hx hb dd_X12_wholeDay_21 rfl (lv_at hl 3 rfl) ?_
  refine wk_get (v := .int 0) Sx ef_12 hK hP 0 rfl rfl 18 (by decide) kk_1119 rfl dd_X12_wholeDay_22 ?_
  refine lv_icmp_ge (tgt := 91) hx hb dd_X12_wholeDay_25 (by decide) (fun _ => ?_) (fun c => absurd c (by decide))
  refine lv_iinc (v := 3) (lv' := [(4, .int 3), (5, .int 0), (3, .int 0), (0, .ref (q 60)), (1, .int ha), (2, .int ba)]) hx hb dd_X12_wholeDay_91 hl (k := 1) rfl (by decide) (by decide) rfl (fun ls hl => ?_)
  refine lv_goto (tgt := 9) hx hb dd_X12_wholeDay_94 (by decide) ?_
  refine lv_iload hx hb dd_X12_wholeDay_9 (lv_at hl 0 rfl) ?_
  refine lv_bipush (v := 12) hx hb dd_X12_wholeDay_11 (by decide) ?_
  refine lv_icmp_ge (tgt := 97) hx hb dd_X12_wholeDay_13 (by decide) (fun c => absurd c (by decide)) (fun _ => ?_)
  refine lv_iconst (v := 0) hx hb dd_X12_wholeDay_16 (by decide) ?_
  refine lv_istore (lv' := [(5, .int 0), (4, .int 3), (3, .int 0), (0, .ref (q 60)), (1, .int ha), (2, .int ba)]) hx hb dd_X12_wholeDay_17 hl (by decide) rfl (fun ls hl => ?_)
  refine lv_iload hx hb dd_X12_wholeDay_19 (lv_at hl 0 rfl) ?_
  refine lv_aload_n hx hb dd_X12_wholeDay_21 rfl (lv_at hl 3 rfl) ?_
  refine wk_get (v := .int 0) Sx ef_12 hK hP 0 rfl rfl 18 (by decide) kk_1119 rfl dd_X12_wholeDay_22 ?_
  refine lv_icmp_ge (tgt := 91) hx hb dd_X12_wholeDay_25 (by decide) (fun _ => ?_) (fun c => absurd c (by decide))
  refine lv_iinc (v := 4) (lv' := [(4, .int 4), (5, .int 0), (3, .int 0), (0, .ref (q 60)), (1, .int ha), (2, .int ba)]) hx hb dd_X12_wholeDay_91 hl (k := 1) rfl (by decide) (by decide) rfl (fun ls hl => ?_)
  refine lv_goto (tgt := 9) hx hb dd_X12_wholeDay_94 (by decide) ?_
  refine lv_iload hx hb dd_X12_wholeDay_9 (lv_at hl 0 rfl) ?_
  refine lv_bipush (v := 12) hx hb dd_X12_wholeDay_11 (by decide) ?_
  refine lv_icmp_ge (tgt := 97) hx hb dd_X12_wholeDay_13 (by decide) (fun c => absurd c (by decide)) (fun _ => ?_)
  refine lv_iconst (v := 0) hx hb dd_X12_wholeDay_16 (by decide) ?_
  refine lv_istore (lv' := [(5, .int 0), (4, .int 4), (3, .int 0), (0, .ref (q 60)), (1, .int ha), (2, .int ba)]) hx hb dd_X12_wholeDay_17 hl (by decide) rfl (fun ls hl => ?_)
  refine lv_iload hx hb dd_X12_wholeDay_19 (lv_at hl 0 rfl) ?_
  refine lv_aload_n hx hb dd_X12_wholeDay_21 rfl (lv_at hl 3 rfl) ?_
  refine wk_get (v := .int 0) Sx ef_12 hK hP 0 rfl rfl 18 (by decide) kk_1119 rfl dd_X12_wholeDay_22 ?_
  refine lv_icmp_ge (tgt := 91) hx hb dd_X12_wholeDay_25 (by decide) (fun _ => ?_) (fun c => absurd c (by decide))
  refine lv_iinc (v := 5) (lv' := [(4, .int 5), (5, .int 0), (3, .int 0), (0, .ref (q 60)), (1, .int ha), (2, .int ba)]) hx hb dd_X12_wholeDay_91 hl (k := 1) rfl (by decide) (by decide) rfl (fun ls hl => ?_)
  refine lv_goto (tgt := 9) hx hb dd_X12_wholeDay_94 (by decide) ?_
  refine lv_iload hx hb dd_X12_wholeDay_9 (lv_at hl 0 rfl) ?_
  refine lv_bipush (v := 12) hx hb dd_X12_wholeDay_11 (by decide) ?_
  refine lv_icmp_ge (tgt := 97) hx hb dd_X12_wholeDay_13 (by decide) (fun c => absurd c (by decide)) (fun _ => ?_)
  refine lv_iconst (v := 0) hx hb dd_X12_wholeDay_16 (by decide) ?_
  refine lv_istore (lv' := [(5, .int 0), (4, .int 5), (3, .int 0), (0, .ref (q 60)), (1, .int ha), (2, .int ba)]) hx hb dd_X12_wholeDay_17 hl (by decide) rfl (fun ls hl => ?_)
  refine lv_iload hx hb dd_X12_wholeDay_19 (lv_at hl 0 rfl) ?_
  refine lv_aload_n hx hb dd_X12_wholeDay_21 rfl (lv_at hl 3 rfl) ?_
  refine wk_get (v := .int 0) Sx ef_12 hK hP 0 rfl rfl 18 (by decide) kk_1119 rfl dd_X12_wholeDay_22 ?_
  refine lv_icmp_ge (tgt := 91) hx hb dd_X12_wholeDay_25 (by decide) (fun _ => ?_) (fun c => absurd c (by decide))
  refine lv_iinc (v := 6) (lv' := [(4, .int 6), (5, .int 0), (3, .int 0), (0, .ref (q 60)), (1, .int ha), (2, .int ba)]) hx hb dd_X12_wholeDay_91 hl (k := 1) rfl (by decide) (by decide) rfl (fun ls hl => ?_)
  refine lv_goto (tgt := 9) hx hb dd_X12_wholeDay_94 (by decide) ?_
  refine lv_iload hx hb dd_X12_wholeDay_9 (lv_at hl 0 rfl) ?_
  refine lv_bipush (v := 12) hx hb dd_X12_wholeDay_11 (by decide) ?_
  refine lv_icmp_ge (tgt := 97) hx hb dd_X12_wholeDay_13 (by decide) (fun c => absurd c (by decide)) (fun _ => ?_)
  refine lv_iconst (v := 0) hx hb dd_X12_wholeDay_16 (by decide) ?_
  refine lv_istore (lv' := [(5, .int 0), (4, .int 6), (3, .int 0), (0, .ref (q 60)), (1, .int ha), (2, .int ba)]) hx hb dd_X12_wholeDay_17 hl (by decide) rfl (fun ls hl => ?_)
  refine lv_iload hx hb dd_X12_wholeDay_19 (lv_at hl 0 rfl) ?_
  refine lv_aload_n hx hb dd_X12_wholeDay_21 rfl (lv_at hl 3 rfl) ?_
  refine wk_get (v := .int 0) Sx ef_12 hK hP 0 rfl rfl 18 (by decide) kk_1119 rfl dd_X12_wholeDay_22 ?_
  refine lv_icmp_ge (tgt := 91) hx hb dd_X12_wholeDay_25 (by decide) (fun _ => ?_) (fun c => absurd c (by decide))
  refine lv_iinc (v := 7) (lv' := [(4, .int 7), (5, .int 0), (3, .int 0), (0, .ref (q 60)), (1, .int ha), (2, .int ba)]) hx hb dd_X12_wholeDay_91 hl (k := 1) rfl (by decide) (by decide) rfl (fun ls hl => ?_)
  refine lv_goto (tgt := 9) hx hb dd_X12_wholeDay_94 (by decide) ?_
  refine lv_iload hx hb dd_X12_wholeDay_9 (lv_at hl 0 rfl) ?_
  refine lv_bipush (v := 12) hx hb dd_X12_wholeDay_11 (by decide) ?_
  refine lv_icmp_ge (tgt := 97) hx hb dd_X12_wholeDay_13 (by decide) (fun c => absurd c (by decide)) (fun _ => ?_)
  refine lv_iconst (v := 0) hx hb dd_X12_wholeDay_16 (by decide) ?_
  refine lv_istore (lv' := [(5, .int 0), (4, .int 7), (3, .int 0), (0, .ref (q 60)), (1, .int ha), (2, .int ba)]) hx hb dd_X12_wholeDay_17 hl (by decide) rfl (fun ls hl => ?_)
  refine lv_iload hx hb dd_X12_wholeDay_19 (lv_at hl 0 rfl) ?_
  refine lv_aload_n hx hb dd_X12_wholeDay_21 rfl (lv_at hl 3 rfl) ?_
  refine wk_get (v := .int 0) Sx ef_12 hK hP 0 rfl rfl 18 (by decide) kk_1119 rfl dd_X12_wholeDay_22 ?_
  refine lv_icmp_ge (tgt := 91) hx hb dd_X12_wholeDay_25 (by decide) (fun _ => ?_) (fun c => absurd c (by decide))
  refine lv_iinc (v := 8) (lv' := [(4, .int 8), (5, .int 0), (3, .int 0), (0, .ref (q 60)), (1, .int ha), (2, .int ba)]) hx hb dd_X12_wholeDay_91 hl (k := 1) rfl (by decide) (by decide) rfl (fun ls hl => ?_)
  refine lv_goto (tgt := 9) hx hb dd_X12_wholeDay_94 (by decide) ?_
  refine lv_iload hx hb dd_X12_wholeDay_9 (lv_at hl 0 rfl) ?_
  refine lv_bipush (v := 12) hx hb dd_X12_wholeDay_11 (by decide) ?_
  refine lv_icmp_ge (tgt := 97) hx hb dd_X12_wholeDay_13 (by decide) (fun c => absurd c (by decide)) (fun _ => ?_)
  refine lv_iconst (v := 0) hx hb dd_X12_wholeDay_16 (by decide) ?_
  refine lv_istore (lv' := [(5, .int 0), (4, .int 8), (3, .int 0), (0, .ref (q 60)), (1, .int ha), (2, .int ba)]) hx hb dd_X12_wholeDay_17 hl (by decide) rfl (fun ls hl => ?_)
  refine lv_iload hx hb dd_X12_wholeDay_19 (lv_at hl 0 rfl) ?_
  refine lv_aload_n hx hb dd_X12_wholeDay_21 rfl (lv_at hl 3 rfl) ?_
  refine wk_get (v := .int 0) Sx ef_12 hK hP 0 rfl rfl 18 (by decide) kk_1119 rfl dd_X12_wholeDay_22 ?_
  refine lv_icmp_ge (tgt := 91) hx hb dd_X12_wholeDay_25 (by decide) (fun _ => ?_) (fun c => absurd c (by decide))
  refine lv_iinc (v := 9) (lv' := [(4, .int 9), (5, .int 0), (3, .int 0), (0, .ref (q 60)), (1, .int ha), (2, .int ba)]) hx hb dd_X12_wholeDay_91 hl (k := 1) rfl (by decide) (by decide) rfl (fun ls hl => ?_)
  refine lv_goto (tgt := 9) hx hb dd_X12_wholeDay_94 (by decide) ?_
  refine lv_iload hx hb dd_X12_wholeDay_9 (lv_at hl 0 rfl) ?_
  refine lv_bipush (v := 12) hx hb dd_X12_wholeDay_11 (by decide) ?_
  refine lv_icmp_ge (tgt := 97) hx hb dd_X12_wholeDay_13 (by decide) (fun c => absurd c (by decide)) (fun _ => ?_)
  refine lv_iconst (v := 0) hx hb dd_X12_wholeDay_16 (by decide) ?_
  refine lv_istore (lv' := [(5, .int 0), (4, .int 9), (3, .int 0), (0, .ref (q 60)), (1, .int ha), (2, .int ba)]) hx hb dd_X12_wholeDay_17 hl (by decide) rfl (fun ls hl => ?_)
  refine lv_iload hx hb dd_X12_wholeDay_19 (lv_at hl 0 rfl) ?_
  refine lv_aload_n hx hb dd_X12_wholeDay_21 rfl (lv_at hl 3 rfl) ?_
  refine wk_get (v := .int 0) Sx ef_12 hK hP 0 rfl rfl 18 (by decide) kk_1119 rfl dd_X12_wholeDay_22 ?_
  refine lv_icmp_ge (tgt := 91) hx hb dd_X12_wholeDay_25 (by decide) (fun _ => ?_) (fun c => absurd c (by decide))
  refine lv_iinc (v := 10) (lv' := [(4, .int 10), (5, .int 0), (3, .int 0), (0, .ref (q 60)), (1, .int ha), (2, .int ba)]) hx hb dd_X12_wholeDay_91 hl (k := 1) rfl (by decide) (by decide) rfl (fun ls hl => ?_)
  refine lv_goto (tgt := 9) hx hb dd_X12_wholeDay_94 (by decide) ?_
  refine lv_iload hx hb dd_X12_wholeDay_9 (lv_at hl 0 rfl) ?_
  refine lv_bipush (v := 12) hx hb dd_X12_wholeDay_11 (by decide) ?_
  refine lv_icmp_ge (tgt := 97) hx hb dd_X12_wholeDay_13 (by decide) (fun c => absurd c (by decide)) (fun _ => ?_)
  refine lv_iconst (v := 0) hx hb dd_X12_wholeDay_16 (by decide) ?_
  refine lv_istore (lv' := [(5, .int 0), (4, .int 10), (3, .int 0), (0, .ref (q 60)), (1, .int ha), (2, .int ba)]) hx hb dd_X12_wholeDay_17 hl (by decide) rfl (fun ls hl => ?_)
  refine lv_iload hx hb dd_X12_wholeDay_19 (lv_at hl 0 rfl) ?_
  refine lv_aload_n hx hb dd_X12_wholeDay_21 rfl (lv_at hl 3 rfl) ?_
  refine wk_get (v := .int 0) Sx ef_12 hK hP 0 rfl rfl 18 (by decide) kk_1119 rfl dd_X12_wholeDay_22 ?_
  refine lv_icmp_ge (tgt := 91) hx hb dd_X12_wholeDay_25 (by decide) (fun _ => ?_) (fun c => absurd c (by decide))
  refine lv_iinc (v := 11) (lv' := [(4, .int 11), (5, .int 0), (3, .int 0), (0, .ref (q 60)), (1, .int ha), (2, .int ba)]) hx hb dd_X12_wholeDay_91 hl (k := 1) rfl (by decide) (by decide) rfl (fun ls hl => ?_)
  refine lv_goto (tgt := 9) hx hb dd_X12_wholeDay_94 (by decide) ?_
  refine lv_iload hx hb dd_X12_wholeDay_9 (lv_at hl 0 rfl) ?_
  refine lv_bipush (v := 12) hx hb dd_X12_wholeDay_11 (by decide) ?_
  refine lv_icmp_ge (tgt := 97) hx hb dd_X12_wholeDay_13 (by decide) (fun c => absurd c (by decide)) (fun _ => ?_)
  refine lv_iconst (v := 0) hx hb dd_X12_wholeDay_16 (by decide) ?_
  refine lv_istore (lv' := [(5, .int 0), (4, .int 11), (3, .int 0), (0, .ref (q 60)), (1, .int ha), (2, .int ba)]) hx hb dd_X12_wholeDay_17 hl (by decide) rfl (fun ls hl => ?_)
  refine lv_iload hx hb dd_X12_wholeDay_19 (lv_at hl 0 rfl) ?_
  refine lv_aload_n hx hb dd_X12_wholeDay_21 rfl (lv_at hl 3 rfl) ?_
  refine wk_get (v := .int 0) Sx ef_12 hK hP 0 rfl rfl 18 (by decide) kk_1119 rfl dd_X12_wholeDay_22 ?_
  refine lv_icmp_ge (tgt := 91) hx hb dd_X12_wholeDay_25 (by decide) (fun _ => ?_) (fun c => absurd c (by decide))
  refine lv_iinc (v := 12) (lv' := [(4, .int 12), (5, .int 0), (3, .int 0), (0, .ref (q 60)), (1, .int ha), (2, .int ba)]) hx hb dd_X12_wholeDay_91 hl (k := 1) rfl (by decide) (by decide) rfl (fun ls hl => ?_)
  refine lv_goto (tgt := 9) hx hb dd_X12_wholeDay_94 (by decide) ?_
  refine lv_iload hx hb dd_X12_wholeDay_9 (lv_at hl 0 rfl) ?_
  refine lv_bipush (v := 12) hx hb dd_X12_wholeDay_11 (by decide) ?_
  refine lv_icmp_ge (tgt := 97) hx hb dd_X12_wholeDay_13 (by decide) (fun _ => ?_) (fun c => absurd c (by decide))
  refine lv_iload_n hx hb dd_X12_wholeDay_97 rfl (lv_at hl 2 rfl) ?_
  exact pc_ret Sx hr hlocks rfl dd_X12_wholeDay_98 rfl
set_option maxHeartbeats 4000000 in
set_option maxRecDepth 100000 in
theorem c_M_sold (l : Launch) (D : va_G) (cy : Nat → ClassId) (q : Nat → Nat) : PC l my_X12_sold mb_X12_sold 3 ((some .int)) (rmD 1 0 0) D (TY cy) [.ref (q 60)] NS [(q 60, .inr (12, fM q))] (vp_Si (fun r => r = 0)) := by
  refine pc_intro (by decide) (Nat.le_of_ble_eq_true rfl) (fun p e s m below meth c ls Sx hr hlocks hl hP hK hX => ?_)
  have hx := Sx.1
  have hb := Sx.2.1
  have hl : lv_has ls 3 [(0, .ref (q 60))] := hl
  refine lv_iconst (v := 0) hx hb dd_X12_sold_0 (by decide) ?_
  refine lv_istore_n (lv' := [(1, .int 0), (0, .ref (q 60))]) hx hb dd_X12_sold_1 rfl hl (by decide) rfl (fun ls hl => ?_)
  refine lv_iconst (v := 0) hx hb dd_X12_sold_2 (by decide) ?_
  refine lv_istore_n (lv' := [(2, .int 0), (1, .int 0), (0, .ref (q 60))]) hx hb dd_X12_sold_3 rfl hl (by decide) rfl (fun ls hl => ?_)
  refine lv_iload_n hx hb dd_X12_sold_4 rfl (lv_at hl 0 rfl) ?_
  refine lv_aload_n hx hb dd_X12_sold_5 rfl (lv_at hl 2 rfl) ?_
  refine wk_get (v := .int 0) Sx ef_12 hK hP 0 rfl rfl 3 (by decide) kk_1104 rfl dd_X12_sold_6 ?_
  refine lv_icmp_ge (tgt := 30) hx hb dd_X12_sold_9 (by decide) (fun _ => ?_) (fun c => absurd c (by decide))
  refine lv_iload_n hx hb dd_X12_sold_30 rfl (lv_at hl 1 rfl) ?_
  exact pc_ret Sx hr hlocks rfl dd_X12_sold_31 rfl
set_option maxHeartbeats 4000000 in
set_option maxRecDepth 100000 in
theorem c_M_move (l : Launch) (D : va_G) (cy : Nat → ClassId) (q : Nat → Nat) (ar : Nat) (pp : Int32) (n : Nat) (fa : Nat → Int32) (fk : Nat → Int32) (hpp : 0 ≤ pp.toInt ∧ pp.toInt + (n : Int) ≤ 460) : HC l my_X12_move mb_X12_move 5 ((some .int)) (rmD 1 0 0) D (TY cy) [.ref (q 60), .ref ar, .int pp, .int 1] NX [(q 60, .inr (12, fM q)), (ar, .inl (cy 0, n, .inl (fa))), (q 38, .inl (cy 0, 460, .inl (fk)))] (QI (S := Nat → Int32) D (fun r _ => r.toInt = pp.toInt + (n : Int)) (fun u => [(q 60, .inr (12, fM q)), (ar, .inl (cy 0, n, .inl (fa))), (q 38, .inl (cy 0, 460, .inl (u)))])) := by
  refine hc_intro (by decide) (Nat.le_of_ble_eq_true rfl) (fun p e s m below meth c A ls Sx hr hlocks hin hl hP hD hK hS hA hX => ?_)
  have hx := Sx.1
  have hb := Sx.2.1
  have hl : lv_has ls 5 [(0, .ref (q 60)), (1, .ref ar), (2, .int pp), (3, .int 1)] := hl
  have hP : va_P D cls [(q 60, .inr (12, fM q)), (ar, .inl (cy 0, n, .inl (fa))), (q 38, .inl (cy 0, 460, .inl (fk)))] s.heap := hP
  have hD : va_D A [(q 60, .inr (12, fM q)), (ar, .inl (cy 0, n, .inl (fa))), (q 38, .inl (cy 0, 460, .inl (fk)))] := hD
  refine lv_iconst (v := 0) hx hb dd_X12_move_0 (by decide) ?_
  refine lv_istore (lv' := [(4, .int 0), (0, .ref (q 60)), (1, .ref ar), (2, .int pp), (3, .int 1)]) hx hb dd_X12_move_1 hl (by decide) rfl (fun ls hl => ?_)
  have hlz3 : Int32.toInt 0 = 0 := rfl
  have hI6 : 0 ≤ (0 : Int32).toInt ∧ (0 : Int32).toInt ≤ (n : Int) := ⟨by omega, by omega⟩
  refine gl1 3 5 (fun (u : Int32 × (Nat → Int32)) => [(q 60, .inr (12, fM q)), (ar, .inl (cy 0, n, .inl (fa))), (q 38, .inl (cy 0, 460, .inl (u.2)))]) (fun (u : Int32 × (Nat → Int32)) => [(4, .int u.1), (0, .ref (q 60)), (1, .ref ar), (2, .int pp), (3, .int 1)]) (fun (u : Int32 × (Nat → Int32)) => 0 ≤ u.1.toInt ∧ u.1.toInt ≤ (n : Int)) (fun (u : Int32 × (Nat → Int32)) => ((n : Int) - u.1.toInt).toNat) (fun u H locs ls hI5 hl hP hD hS ih4 => ?_) (0, fk) hI6 (lv_sub hl [0, 1, 2, 3, 4] rfl) hP hD hS
  obtain ⟨i2, f1⟩ := u
  have hl : lv_has ls 5 [(4, .int i2), (0, .ref (q 60)), (1, .ref ar), (2, .int pp), (3, .int 1)] := hl
  have hP : va_P D cls [(q 60, .inr (12, fM q)), (ar, .inl (cy 0, n, .inl (fa))), (q 38, .inl (cy 0, 460, .inl (f1)))] H := hP
  have hD : va_D A [(q 60, .inr (12, fM q)), (ar, .inl (cy 0, n, .inl (fa))), (q 38, .inl (cy 0, 460, .inl (f1)))] := hD
  have hI5 : 0 ≤ i2.toInt ∧ i2.toInt ≤ (n : Int) := hI5
  obtain ⟨iv7, iv8⟩ := hI5
  refine lv_iload hx hb dd_X12_move_3 (lv_at hl 0 rfl) ?_
  refine lv_aload_n hx hb dd_X12_move_5 rfl (lv_at hl 2 rfl) ?_
  refine va_alen (v := nI n) hx hb hK hP 1 0 rfl rfl rfl dd_X12_move_6 ?_
  refine lv_icmp_ge (tgt := 49) hx hb dd_X12_move_7 (by decide) (fun c9 => ?_) (fun c9 => ?_)
  · have fc9 := ci_le (a := ((n : Nat) : Int)) (b := i2.toInt) (nI_toInt (by omega)) rfl c9
    refine lv_iload_n hx hb dd_X12_move_49 rfl (lv_at hl 3 rfl) ?_
    refine lv_aload_n hx hb dd_X12_move_50 rfl (lv_at hl 2 rfl) ?_
    refine va_alen (v := nI n) hx hb hK hP 1 0 rfl rfl rfl dd_X12_move_51 ?_
    refine lv_iadd hx hb dd_X12_move_52 ?_
    refine lv_topi (fun z10 ez10 => ?_)
    have fz10 : z10.toInt = pp.toInt + ((n : Nat) : Int) := by rw [ez10]; exact ti_add rfl (nI_toInt (by omega)) (by omega) (by omega)
    exact hc_ret Sx hr hlocks dd_X12_move_53 hS (f1) (by omega) hP hD
  · have fc9 := ci_nle (a := ((n : Nat) : Int)) (b := i2.toInt) (nI_toInt (by omega)) rfl c9
    refine lv_iload_n hx hb dd_X12_move_10 rfl (lv_at hl 4 rfl) ?_
    refine lv_if_eq (tgt := 30) hx hb dd_X12_move_11 (by decide) (fun c => absurd c (by decide)) (fun _ => ?_)
    refine lv_aload_n hx hb dd_X12_move_14 rfl (lv_at hl 1 rfl) ?_
    refine wk_get (v := .ref (q 38)) Sx ef_12 hK hP 0 rfl rfl 38 (by decide) kk_1139 rfl dd_X12_move_15 ?_
    refine lv_iload_n hx hb dd_X12_move_18 rfl (lv_at hl 3 rfl) ?_
    refine lv_iload hx hb dd_X12_move_19 (lv_at hl 0 rfl) ?_
    refine lv_iadd hx hb dd_X12_move_21 ?_
    refine lv_topi (fun z11 ez11 => ?_)
    have fz11 : z11.toInt = pp.toInt + i2.toInt := by rw [ez11]; exact ti_add rfl rfl (by omega) (by omega)
    refine lv_aload_n hx hb dd_X12_move_22 rfl (lv_at hl 2 rfl) ?_
    refine lv_iload hx hb dd_X12_move_23 (lv_at hl 0 rfl) ?_
    have hi12 : vp_in i2 n := (vi_of (by omega))
    refine va_iald hx hb hK hP 1 0 rfl rfl hi12 dd_X12_move_25 ?_
    refine lv_topi (fun z13 ez13 => ?_)
    refine wk_iast (ws' := [(q 60, .inr (12, fM q)), (ar, .inl (cy 0, n, .inl (fa))), (q 38, .inl (cy 0, 460, .inl (upd f1 z11.toNatClampNeg z13)))]) Sx hK hP hD hS 2 0 rfl rfl (vi_of (by omega)) dd_X12_move_26 rfl (fun H locs hP hD hS => ?_)
    refine lv_goto (tgt := 43) hx hb dd_X12_move_27 (by decide) ?_
    obtain ⟨z14, ez14⟩ : ∃ y : Int32, y = i2 + Int32.ofInt 1 := ⟨_, rfl⟩
    have fz14 : z14.toInt = i2.toInt + 1 := by rw [ez14]; exact ti_add rfl (show (Int32.ofInt 1).toInt = 1 by decide) (by omega) (by omega)
    refine lv_iinc (v := z14) (lv' := [(4, .int z14), (0, .ref (q 60)), (1, .ref ar), (2, .int pp), (3, .int 1)]) hx hb dd_X12_move_43 hl (k := 0) rfl ez14.symm (by decide) rfl (fun ls hl => ?_)
    refine lv_goto (tgt := 3) hx hb dd_X12_move_46 (by decide) ?_
    have hI15 : 0 ≤ z14.toInt ∧ z14.toInt ≤ (n : Int) := ⟨by omega, by omega⟩
    have hm16 : ((n : Int) - z14.toInt).toNat < ((n : Int) - i2.toInt).toNat := by omega
    exact ih4 (z14, (upd f1 z11.toNatClampNeg z13)) H locs ls hI15 hm16 (lv_sub hl [0, 1, 2, 3, 4] rfl) hP hD hS
set_option maxHeartbeats 4000000 in
set_option maxRecDepth 100000 in
theorem c_M_moveAll (l : Launch) (D : va_G) (cy : Nat → ClassId) (q : Nat → Nat) : HC l my_X12_moveAll mb_X12_moveAll 3 ((none : Option Jvm.ClassFile.FieldType)) (rmD 2 0 0) D (TY cy) [.ref (q 60), .int 1] NX [(q 60, .inr (12, fM q)), (q 39, .inl (cy 0, 7, .inl (fun _ => 0))), (q 4, .inl (cy 0, 30, .inl (fun _ => 0))), (q 5, .inl (cy 0, 30, .inl (fun _ => 0))), (q 6, .inl (cy 0, 30, .inl (fun _ => 0))), (q 7, .inl (cy 0, 30, .inl (fun _ => 0))), (q 8, .inl (cy 0, 30, .inl (fun _ => 0))), (q 9, .inl (cy 0, 30, .inl (fun _ => 0))), (q 11, .inl (cy 0, 5, .inl (fun _ => 0))), (q 12, .inl (cy 0, 5, .inl (fun _ => 0))), (q 13, .inl (cy 0, 5, .inl (fun _ => 0))), (q 15, .inl (cy 0, 30, .inl (fun _ => 0))), (q 19, .inl (cy 0, 12, .inl (fun _ => 0))), (q 20, .inl (cy 0, 12, .inl (fun _ => 0))), (q 21, .inl (cy 0, 12, .inl (fun _ => 0))), (q 22, .inl (cy 0, 12, .inl (fun _ => 0))), (q 23, .inl (cy 0, 12, .inl (fun _ => 0))), (q 25, .inl (cy 0, 5, .inl (fun _ => 0))), (q 27, .inl (cy 0, 20, .inl (fun _ => 0))), (q 28, .inl (cy 0, 20, .inl (fun _ => 0))), (q 29, .inl (cy 0, 20, .inl (fun _ => 0))), (q 30, .inl (cy 0, 20, .inl (fun _ => 0))), (q 32, .inl (cy 0, 10, .inl (fun _ => 0))), (q 33, .inl (cy 0, 10, .inl (fun _ => 0))), (q 34, .inl (cy 0, 16, .inl (fun _ => 0))), (q 35, .inl (cy 0, 4, .inl (hours0))), (q 38, .inl (cy 0, 460, .inl (fun _ => 0)))] (QV (S := Unit) D (fun _ => True) (fun _ => [(q 60, .inr (12, fM q))])) := by
  refine hc_intro (by decide) (Nat.le_of_ble_eq_true rfl) (fun p e s m below meth c A ls Sx hr hlocks hin hl hP hD hK hS hA hX => ?_)
  have hx := Sx.1
  have hb := Sx.2.1
  have hl : lv_has ls 3 [(0, .ref (q 60)), (1, .int 1)] := hl
  have hP : va_P D cls [(q 60, .inr (12, fM q)), (q 39, .inl (cy 0, 7, .inl (fun _ => 0))), (q 4, .inl (cy 0, 30, .inl (fun _ => 0))), (q 5, .inl (cy 0, 30, .inl (fun _ => 0))), (q 6, .inl (cy 0, 30, .inl (fun _ => 0))), (q 7, .inl (cy 0, 30, .inl (fun _ => 0))), (q 8, .inl (cy 0, 30, .inl (fun _ => 0))), (q 9, .inl (cy 0, 30, .inl (fun _ => 0))), (q 11, .inl (cy 0, 5, .inl (fun _ => 0))), (q 12, .inl (cy 0, 5, .inl (fun _ => 0))), (q 13, .inl (cy 0, 5, .inl (fun _ => 0))), (q 15, .inl (cy 0, 30, .inl (fun _ => 0))), (q 19, .inl (cy 0, 12, .inl (fun _ => 0))), (q 20, .inl (cy 0, 12, .inl (fun _ => 0))), (q 21, .inl (cy 0, 12, .inl (fun _ => 0))), (q 22, .inl (cy 0, 12, .inl (fun _ => 0))), (q 23, .inl (cy 0, 12, .inl (fun _ => 0))), (q 25, .inl (cy 0, 5, .inl (fun _ => 0))), (q 27, .inl (cy 0, 20, .inl (fun _ => 0))), (q 28, .inl (cy 0, 20, .inl (fun _ => 0))), (q 29, .inl (cy 0, 20, .inl (fun _ => 0))), (q 30, .inl (cy 0, 20, .inl (fun _ => 0))), (q 32, .inl (cy 0, 10, .inl (fun _ => 0))), (q 33, .inl (cy 0, 10, .inl (fun _ => 0))), (q 34, .inl (cy 0, 16, .inl (fun _ => 0))), (q 35, .inl (cy 0, 4, .inl (hours0))), (q 38, .inl (cy 0, 460, .inl (fun _ => 0)))] s.heap := hP
  have hD : va_D A [(q 60, .inr (12, fM q)), (q 39, .inl (cy 0, 7, .inl (fun _ => 0))), (q 4, .inl (cy 0, 30, .inl (fun _ => 0))), (q 5, .inl (cy 0, 30, .inl (fun _ => 0))), (q 6, .inl (cy 0, 30, .inl (fun _ => 0))), (q 7, .inl (cy 0, 30, .inl (fun _ => 0))), (q 8, .inl (cy 0, 30, .inl (fun _ => 0))), (q 9, .inl (cy 0, 30, .inl (fun _ => 0))), (q 11, .inl (cy 0, 5, .inl (fun _ => 0))), (q 12, .inl (cy 0, 5, .inl (fun _ => 0))), (q 13, .inl (cy 0, 5, .inl (fun _ => 0))), (q 15, .inl (cy 0, 30, .inl (fun _ => 0))), (q 19, .inl (cy 0, 12, .inl (fun _ => 0))), (q 20, .inl (cy 0, 12, .inl (fun _ => 0))), (q 21, .inl (cy 0, 12, .inl (fun _ => 0))), (q 22, .inl (cy 0, 12, .inl (fun _ => 0))), (q 23, .inl (cy 0, 12, .inl (fun _ => 0))), (q 25, .inl (cy 0, 5, .inl (fun _ => 0))), (q 27, .inl (cy 0, 20, .inl (fun _ => 0))), (q 28, .inl (cy 0, 20, .inl (fun _ => 0))), (q 29, .inl (cy 0, 20, .inl (fun _ => 0))), (q 30, .inl (cy 0, 20, .inl (fun _ => 0))), (q 32, .inl (cy 0, 10, .inl (fun _ => 0))), (q 33, .inl (cy 0, 10, .inl (fun _ => 0))), (q 34, .inl (cy 0, 16, .inl (fun _ => 0))), (q 35, .inl (cy 0, 4, .inl (hours0))), (q 38, .inl (cy 0, 460, .inl (fun _ => 0)))] := hD
  refine lv_aload_n hx hb dd_X12_moveAll_0 rfl (lv_at hl 0 rfl) ?_
  refine lv_aload_n hx hb dd_X12_moveAll_1 rfl (lv_at hl 0 rfl) ?_
  refine wk_get (v := .ref (q 39)) Sx ef_12 hK hP 0 rfl rfl 39 (by decide) kk_1140 rfl dd_X12_moveAll_2 ?_
  refine lv_iconst (v := 0) hx hb dd_X12_moveAll_5 (by decide) ?_
  refine lv_iload_n hx hb dd_X12_moveAll_6 rfl (lv_at hl 1 rfl) ?_
  refine hk_i (wr := [(q 4, .inl (cy 0, 30, .inl (fun _ => 0))), (q 5, .inl (cy 0, 30, .inl (fun _ => 0))), (q 6, .inl (cy 0, 30, .inl (fun _ => 0))), (q 7, .inl (cy 0, 30, .inl (fun _ => 0))), (q 8, .inl (cy 0, 30, .inl (fun _ => 0))), (q 9, .inl (cy 0, 30, .inl (fun _ => 0))), (q 11, .inl (cy 0, 5, .inl (fun _ => 0))), (q 12, .inl (cy 0, 5, .inl (fun _ => 0))), (q 13, .inl (cy 0, 5, .inl (fun _ => 0))), (q 15, .inl (cy 0, 30, .inl (fun _ => 0))), (q 19, .inl (cy 0, 12, .inl (fun _ => 0))), (q 20, .inl (cy 0, 12, .inl (fun _ => 0))), (q 21, .inl (cy 0, 12, .inl (fun _ => 0))), (q 22, .inl (cy 0, 12, .inl (fun _ => 0))), (q 23, .inl (cy 0, 12, .inl (fun _ => 0))), (q 25, .inl (cy 0, 5, .inl (fun _ => 0))), (q 27, .inl (cy 0, 20, .inl (fun _ => 0))), (q 28, .inl (cy 0, 20, .inl (fun _ => 0))), (q 29, .inl (cy 0, 20, .inl (fun _ => 0))), (q 30, .inl (cy 0, 20, .inl (fun _ => 0))), (q 32, .inl (cy 0, 10, .inl (fun _ => 0))), (q 33, .inl (cy 0, 10, .inl (fun _ => 0))), (q 34, .inl (cy 0, 16, .inl (fun _ => 0))), (q 35, .inl (cy 0, 4, .inl (hours0)))]) (c1 := 0) (s1 := 0) [0, 1, 26] [2, 3, 4, 5, 6, 7, 8, 9, 10, 11, 12, 13, 14, 15, 16, 17, 18, 19, 20, 21, 22, 23, 24, 25] (hc_V [.ref (q 39), .int 0, .int 1] [] [0, 1, 26] Sx hl.1 ws_M_302 md_X12_move (c_M_move l D cy q (q 39) 0 7 (fun _ => 0) (fun _ => 0) (by decide)) ⟨Nat.le_of_ble_eq_true rfl, Nat.le_of_ble_eq_true rfl⟩ hP hD rfl (by decide) hK nx_b (nx_w hX) (va_recv hK hP (ci := 12) (q0 := 0) rfl rfl) rfl rfl (Nat.le_of_ble_eq_true rfl) dd_X12_moveAll_7 ⟨Nat.le_of_ble_eq_true rfl, Nat.le_of_ble_eq_true rfl⟩) hS hA hP hD rfl rfl (by decide) (by decide) rfl rfl (fun r1 u2 H locs hw3 hP hD hS => ?_)
  have hP : va_P D cls [(q 4, .inl (cy 0, 30, .inl (fun _ => 0))), (q 5, .inl (cy 0, 30, .inl (fun _ => 0))), (q 6, .inl (cy 0, 30, .inl (fun _ => 0))), (q 7, .inl (cy 0, 30, .inl (fun _ => 0))), (q 8, .inl (cy 0, 30, .inl (fun _ => 0))), (q 9, .inl (cy 0, 30, .inl (fun _ => 0))), (q 11, .inl (cy 0, 5, .inl (fun _ => 0))), (q 12, .inl (cy 0, 5, .inl (fun _ => 0))), (q 13, .inl (cy 0, 5, .inl (fun _ => 0))), (q 15, .inl (cy 0, 30, .inl (fun _ => 0))), (q 19, .inl (cy 0, 12, .inl (fun _ => 0))), (q 20, .inl (cy 0, 12, .inl (fun _ => 0))), (q 21, .inl (cy 0, 12, .inl (fun _ => 0))), (q 22, .inl (cy 0, 12, .inl (fun _ => 0))), (q 23, .inl (cy 0, 12, .inl (fun _ => 0))), (q 25, .inl (cy 0, 5, .inl (fun _ => 0))), (q 27, .inl (cy 0, 20, .inl (fun _ => 0))), (q 28, .inl (cy 0, 20, .inl (fun _ => 0))), (q 29, .inl (cy 0, 20, .inl (fun _ => 0))), (q 30, .inl (cy 0, 20, .inl (fun _ => 0))), (q 32, .inl (cy 0, 10, .inl (fun _ => 0))), (q 33, .inl (cy 0, 10, .inl (fun _ => 0))), (q 34, .inl (cy 0, 16, .inl (fun _ => 0))), (q 35, .inl (cy 0, 4, .inl (hours0))), (q 60, .inr (12, fM q)), (q 39, .inl (cy 0, 7, .inl (fun _ => 0))), (q 38, .inl (cy 0, 460, .inl (u2)))] H := hP
  have hD : va_D A [(q 4, .inl (cy 0, 30, .inl (fun _ => 0))), (q 5, .inl (cy 0, 30, .inl (fun _ => 0))), (q 6, .inl (cy 0, 30, .inl (fun _ => 0))), (q 7, .inl (cy 0, 30, .inl (fun _ => 0))), (q 8, .inl (cy 0, 30, .inl (fun _ => 0))), (q 9, .inl (cy 0, 30, .inl (fun _ => 0))), (q 11, .inl (cy 0, 5, .inl (fun _ => 0))), (q 12, .inl (cy 0, 5, .inl (fun _ => 0))), (q 13, .inl (cy 0, 5, .inl (fun _ => 0))), (q 15, .inl (cy 0, 30, .inl (fun _ => 0))), (q 19, .inl (cy 0, 12, .inl (fun _ => 0))), (q 20, .inl (cy 0, 12, .inl (fun _ => 0))), (q 21, .inl (cy 0, 12, .inl (fun _ => 0))), (q 22, .inl (cy 0, 12, .inl (fun _ => 0))), (q 23, .inl (cy 0, 12, .inl (fun _ => 0))), (q 25, .inl (cy 0, 5, .inl (fun _ => 0))), (q 27, .inl (cy 0, 20, .inl (fun _ => 0))), (q 28, .inl (cy 0, 20, .inl (fun _ => 0))), (q 29, .inl (cy 0, 20, .inl (fun _ => 0))), (q 30, .inl (cy 0, 20, .inl (fun _ => 0))), (q 32, .inl (cy 0, 10, .inl (fun _ => 0))), (q 33, .inl (cy 0, 10, .inl (fun _ => 0))), (q 34, .inl (cy 0, 16, .inl (fun _ => 0))), (q 35, .inl (cy 0, 4, .inl (hours0))), (q 60, .inr (12, fM q)), (q 39, .inl (cy 0, 7, .inl (fun _ => 0))), (q 38, .inl (cy 0, 460, .inl (u2)))] := hD
  have hl4 : Int32.toInt 0 = 0 := rfl
  obtain rfl : r1 = 7 := ci_of (b := 7) rfl (by omega)
  refine lv_istore_n (lv' := [(2, .int 7), (0, .ref (q 60)), (1, .int 1)]) hx hb dd_X12_moveAll_10 rfl hl (by decide) rfl (fun ls hl => ?_)
  refine lv_aload_n hx hb dd_X12_moveAll_11 rfl (lv_at hl 1 rfl) ?_
  refine lv_aload_n hx hb dd_X12_moveAll_12 rfl (lv_at hl 1 rfl) ?_
  refine wk_get (v := .ref (q 4)) Sx ef_12 hK hP 24 rfl rfl 4 (by decide) kk_1105 rfl dd_X12_moveAll_13 ?_
  refine lv_iload_n hx hb dd_X12_moveAll_16 rfl (lv_at hl 0 rfl) ?_
  refine lv_iload_n hx hb dd_X12_moveAll_17 rfl (lv_at hl 2 rfl) ?_
  refine hk_i (wr := [(q 5, .inl (cy 0, 30, .inl (fun _ => 0))), (q 6, .inl (cy 0, 30, .inl (fun _ => 0))), (q 7, .inl (cy 0, 30, .inl (fun _ => 0))), (q 8, .inl (cy 0, 30, .inl (fun _ => 0))), (q 9, .inl (cy 0, 30, .inl (fun _ => 0))), (q 11, .inl (cy 0, 5, .inl (fun _ => 0))), (q 12, .inl (cy 0, 5, .inl (fun _ => 0))), (q 13, .inl (cy 0, 5, .inl (fun _ => 0))), (q 15, .inl (cy 0, 30, .inl (fun _ => 0))), (q 19, .inl (cy 0, 12, .inl (fun _ => 0))), (q 20, .inl (cy 0, 12, .inl (fun _ => 0))), (q 21, .inl (cy 0, 12, .inl (fun _ => 0))), (q 22, .inl (cy 0, 12, .inl (fun _ => 0))), (q 23, .inl (cy 0, 12, .inl (fun _ => 0))), (q 25, .inl (cy 0, 5, .inl (fun _ => 0))), (q 27, .inl (cy 0, 20, .inl (fun _ => 0))), (q 28, .inl (cy 0, 20, .inl (fun _ => 0))), (q 29, .inl (cy 0, 20, .inl (fun _ => 0))), (q 30, .inl (cy 0, 20, .inl (fun _ => 0))), (q 32, .inl (cy 0, 10, .inl (fun _ => 0))), (q 33, .inl (cy 0, 10, .inl (fun _ => 0))), (q 34, .inl (cy 0, 16, .inl (fun _ => 0))), (q 35, .inl (cy 0, 4, .inl (hours0))), (q 39, .inl (cy 0, 7, .inl (fun _ => 0)))]) (c1 := 0) (s1 := 0) [24, 0, 26] [1, 2, 3, 4, 5, 6, 7, 8, 9, 10, 11, 12, 13, 14, 15, 16, 17, 18, 19, 20, 21, 22, 23, 25] (hc_V [.ref (q 4), .int 7, .int 1] [] [24, 0, 26] Sx hl.1 ws_M_302 md_X12_move (c_M_move l D cy q (q 4) 7 30 (fun _ => 0) u2 (by decide)) ⟨Nat.le_of_ble_eq_true rfl, Nat.le_of_ble_eq_true rfl⟩ hP hD rfl (by decide) hK nx_b (nx_w hX) (va_recv hK hP (ci := 12) (q0 := 24) rfl rfl) rfl rfl (Nat.le_of_ble_eq_true rfl) dd_X12_moveAll_18 ⟨Nat.le_of_ble_eq_true rfl, Nat.le_of_ble_eq_true rfl⟩) hS hA hP hD rfl rfl (by decide) (by decide) rfl rfl (fun r5 u6 H locs hw7 hP hD hS => ?_)
  have hP : va_P D cls [(q 5, .inl (cy 0, 30, .inl (fun _ => 0))), (q 6, .inl (cy 0, 30, .inl (fun _ => 0))), (q 7, .inl (cy 0, 30, .inl (fun _ => 0))), (q 8, .inl (cy 0, 30, .inl (fun _ => 0))), (q 9, .inl (cy 0, 30, .inl (fun _ => 0))), (q 11, .inl (cy 0, 5, .inl (fun _ => 0))), (q 12, .inl (cy 0, 5, .inl (fun _ => 0))), (q 13, .inl (cy 0, 5, .inl (fun _ => 0))), (q 15, .inl (cy 0, 30, .inl (fun _ => 0))), (q 19, .inl (cy 0, 12, .inl (fun _ => 0))), (q 20, .inl (cy 0, 12, .inl (fun _ => 0))), (q 21, .inl (cy 0, 12, .inl (fun _ => 0))), (q 22, .inl (cy 0, 12, .inl (fun _ => 0))), (q 23, .inl (cy 0, 12, .inl (fun _ => 0))), (q 25, .inl (cy 0, 5, .inl (fun _ => 0))), (q 27, .inl (cy 0, 20, .inl (fun _ => 0))), (q 28, .inl (cy 0, 20, .inl (fun _ => 0))), (q 29, .inl (cy 0, 20, .inl (fun _ => 0))), (q 30, .inl (cy 0, 20, .inl (fun _ => 0))), (q 32, .inl (cy 0, 10, .inl (fun _ => 0))), (q 33, .inl (cy 0, 10, .inl (fun _ => 0))), (q 34, .inl (cy 0, 16, .inl (fun _ => 0))), (q 35, .inl (cy 0, 4, .inl (hours0))), (q 39, .inl (cy 0, 7, .inl (fun _ => 0))), (q 60, .inr (12, fM q)), (q 4, .inl (cy 0, 30, .inl (fun _ => 0))), (q 38, .inl (cy 0, 460, .inl (u6)))] H := hP
  have hD : va_D A [(q 5, .inl (cy 0, 30, .inl (fun _ => 0))), (q 6, .inl (cy 0, 30, .inl (fun _ => 0))), (q 7, .inl (cy 0, 30, .inl (fun _ => 0))), (q 8, .inl (cy 0, 30, .inl (fun _ => 0))), (q 9, .inl (cy 0, 30, .inl (fun _ => 0))), (q 11, .inl (cy 0, 5, .inl (fun _ => 0))), (q 12, .inl (cy 0, 5, .inl (fun _ => 0))), (q 13, .inl (cy 0, 5, .inl (fun _ => 0))), (q 15, .inl (cy 0, 30, .inl (fun _ => 0))), (q 19, .inl (cy 0, 12, .inl (fun _ => 0))), (q 20, .inl (cy 0, 12, .inl (fun _ => 0))), (q 21, .inl (cy 0, 12, .inl (fun _ => 0))), (q 22, .inl (cy 0, 12, .inl (fun _ => 0))), (q 23, .inl (cy 0, 12, .inl (fun _ => 0))), (q 25, .inl (cy 0, 5, .inl (fun _ => 0))), (q 27, .inl (cy 0, 20, .inl (fun _ => 0))), (q 28, .inl (cy 0, 20, .inl (fun _ => 0))), (q 29, .inl (cy 0, 20, .inl (fun _ => 0))), (q 30, .inl (cy 0, 20, .inl (fun _ => 0))), (q 32, .inl (cy 0, 10, .inl (fun _ => 0))), (q 33, .inl (cy 0, 10, .inl (fun _ => 0))), (q 34, .inl (cy 0, 16, .inl (fun _ => 0))), (q 35, .inl (cy 0, 4, .inl (hours0))), (q 39, .inl (cy 0, 7, .inl (fun _ => 0))), (q 60, .inr (12, fM q)), (q 4, .inl (cy 0, 30, .inl (fun _ => 0))), (q 38, .inl (cy 0, 460, .inl (u6)))] := hD
  have hl8 : Int32.toInt 7 = 7 := rfl
  obtain rfl : r5 = 37 := ci_of (b := 37) rfl (by omega)
  refine lv_istore_n (lv' := [(2, .int 37), (0, .ref (q 60)), (1, .int 1)]) hx hb dd_X12_moveAll_21 rfl hl (by decide) rfl (fun ls hl => ?_)
  refine lv_aload_n hx hb dd_X12_moveAll_22 rfl (lv_at hl 1 rfl) ?_
  refine lv_aload_n hx hb dd_X12_moveAll_23 rfl (lv_at hl 1 rfl) ?_
  refine wk_get (v := .ref (q 5)) Sx ef_12 hK hP 24 rfl rfl 5 (by decide) kk_1106 rfl dd_X12_moveAll_24 ?_
  refine lv_iload_n hx hb dd_X12_moveAll_27 rfl (lv_at hl 0 rfl) ?_
  refine lv_iload_n hx hb dd_X12_moveAll_28 rfl (lv_at hl 2 rfl) ?_
  refine hk_i (wr := [(q 6, .inl (cy 0, 30, .inl (fun _ => 0))), (q 7, .inl (cy 0, 30, .inl (fun _ => 0))), (q 8, .inl (cy 0, 30, .inl (fun _ => 0))), (q 9, .inl (cy 0, 30, .inl (fun _ => 0))), (q 11, .inl (cy 0, 5, .inl (fun _ => 0))), (q 12, .inl (cy 0, 5, .inl (fun _ => 0))), (q 13, .inl (cy 0, 5, .inl (fun _ => 0))), (q 15, .inl (cy 0, 30, .inl (fun _ => 0))), (q 19, .inl (cy 0, 12, .inl (fun _ => 0))), (q 20, .inl (cy 0, 12, .inl (fun _ => 0))), (q 21, .inl (cy 0, 12, .inl (fun _ => 0))), (q 22, .inl (cy 0, 12, .inl (fun _ => 0))), (q 23, .inl (cy 0, 12, .inl (fun _ => 0))), (q 25, .inl (cy 0, 5, .inl (fun _ => 0))), (q 27, .inl (cy 0, 20, .inl (fun _ => 0))), (q 28, .inl (cy 0, 20, .inl (fun _ => 0))), (q 29, .inl (cy 0, 20, .inl (fun _ => 0))), (q 30, .inl (cy 0, 20, .inl (fun _ => 0))), (q 32, .inl (cy 0, 10, .inl (fun _ => 0))), (q 33, .inl (cy 0, 10, .inl (fun _ => 0))), (q 34, .inl (cy 0, 16, .inl (fun _ => 0))), (q 35, .inl (cy 0, 4, .inl (hours0))), (q 39, .inl (cy 0, 7, .inl (fun _ => 0))), (q 4, .inl (cy 0, 30, .inl (fun _ => 0)))]) (c1 := 0) (s1 := 0) [24, 0, 26] [1, 2, 3, 4, 5, 6, 7, 8, 9, 10, 11, 12, 13, 14, 15, 16, 17, 18, 19, 20, 21, 22, 23, 25] (hc_V [.ref (q 5), .int 37, .int 1] [] [24, 0, 26] Sx hl.1 ws_M_302 md_X12_move (c_M_move l D cy q (q 5) 37 30 (fun _ => 0) u6 (by decide)) ⟨Nat.le_of_ble_eq_true rfl, Nat.le_of_ble_eq_true rfl⟩ hP hD rfl (by decide) hK nx_b (nx_w hX) (va_recv hK hP (ci := 12) (q0 := 24) rfl rfl) rfl rfl (Nat.le_of_ble_eq_true rfl) dd_X12_moveAll_29 ⟨Nat.le_of_ble_eq_true rfl, Nat.le_of_ble_eq_true rfl⟩) hS hA hP hD rfl rfl (by decide) (by decide) rfl rfl (fun r9 u10 H locs hw11 hP hD hS => ?_)
  have hP : va_P D cls [(q 6, .inl (cy 0, 30, .inl (fun _ => 0))), (q 7, .inl (cy 0, 30, .inl (fun _ => 0))), (q 8, .inl (cy 0, 30, .inl (fun _ => 0))), (q 9, .inl (cy 0, 30, .inl (fun _ => 0))), (q 11, .inl (cy 0, 5, .inl (fun _ => 0))), (q 12, .inl (cy 0, 5, .inl (fun _ => 0))), (q 13, .inl (cy 0, 5, .inl (fun _ => 0))), (q 15, .inl (cy 0, 30, .inl (fun _ => 0))), (q 19, .inl (cy 0, 12, .inl (fun _ => 0))), (q 20, .inl (cy 0, 12, .inl (fun _ => 0))), (q 21, .inl (cy 0, 12, .inl (fun _ => 0))), (q 22, .inl (cy 0, 12, .inl (fun _ => 0))), (q 23, .inl (cy 0, 12, .inl (fun _ => 0))), (q 25, .inl (cy 0, 5, .inl (fun _ => 0))), (q 27, .inl (cy 0, 20, .inl (fun _ => 0))), (q 28, .inl (cy 0, 20, .inl (fun _ => 0))), (q 29, .inl (cy 0, 20, .inl (fun _ => 0))), (q 30, .inl (cy 0, 20, .inl (fun _ => 0))), (q 32, .inl (cy 0, 10, .inl (fun _ => 0))), (q 33, .inl (cy 0, 10, .inl (fun _ => 0))), (q 34, .inl (cy 0, 16, .inl (fun _ => 0))), (q 35, .inl (cy 0, 4, .inl (hours0))), (q 39, .inl (cy 0, 7, .inl (fun _ => 0))), (q 4, .inl (cy 0, 30, .inl (fun _ => 0))), (q 60, .inr (12, fM q)), (q 5, .inl (cy 0, 30, .inl (fun _ => 0))), (q 38, .inl (cy 0, 460, .inl (u10)))] H := hP
  have hD : va_D A [(q 6, .inl (cy 0, 30, .inl (fun _ => 0))), (q 7, .inl (cy 0, 30, .inl (fun _ => 0))), (q 8, .inl (cy 0, 30, .inl (fun _ => 0))), (q 9, .inl (cy 0, 30, .inl (fun _ => 0))), (q 11, .inl (cy 0, 5, .inl (fun _ => 0))), (q 12, .inl (cy 0, 5, .inl (fun _ => 0))), (q 13, .inl (cy 0, 5, .inl (fun _ => 0))), (q 15, .inl (cy 0, 30, .inl (fun _ => 0))), (q 19, .inl (cy 0, 12, .inl (fun _ => 0))), (q 20, .inl (cy 0, 12, .inl (fun _ => 0))), (q 21, .inl (cy 0, 12, .inl (fun _ => 0))), (q 22, .inl (cy 0, 12, .inl (fun _ => 0))), (q 23, .inl (cy 0, 12, .inl (fun _ => 0))), (q 25, .inl (cy 0, 5, .inl (fun _ => 0))), (q 27, .inl (cy 0, 20, .inl (fun _ => 0))), (q 28, .inl (cy 0, 20, .inl (fun _ => 0))), (q 29, .inl (cy 0, 20, .inl (fun _ => 0))), (q 30, .inl (cy 0, 20, .inl (fun _ => 0))), (q 32, .inl (cy 0, 10, .inl (fun _ => 0))), (q 33, .inl (cy 0, 10, .inl (fun _ => 0))), (q 34, .inl (cy 0, 16, .inl (fun _ => 0))), (q 35, .inl (cy 0, 4, .inl (hours0))), (q 39, .inl (cy 0, 7, .inl (fun _ => 0))), (q 4, .inl (cy 0, 30, .inl (fun _ => 0))), (q 60, .inr (12, fM q)), (q 5, .inl (cy 0, 30, .inl (fun _ => 0))), (q 38, .inl (cy 0, 460, .inl (u10)))] := hD
  have hl12 : Int32.toInt 37 = 37 := rfl
  obtain rfl : r9 = 67 := ci_of (b := 67) rfl (by omega)
  refine lv_istore_n (lv' := [(2, .int 67), (0, .ref (q 60)), (1, .int 1)]) hx hb dd_X12_moveAll_32 rfl hl (by decide) rfl (fun ls hl => ?_)
  refine lv_aload_n hx hb dd_X12_moveAll_33 rfl (lv_at hl 1 rfl) ?_
  refine lv_aload_n hx hb dd_X12_moveAll_34 rfl (lv_at hl 1 rfl) ?_
  refine wk_get (v := .ref (q 6)) Sx ef_12 hK hP 24 rfl rfl 6 (by decide) kk_1107 rfl dd_X12_moveAll_35 ?_
  refine lv_iload_n hx hb dd_X12_moveAll_38 rfl (lv_at hl 0 rfl) ?_
  refine lv_iload_n hx hb dd_X12_moveAll_39 rfl (lv_at hl 2 rfl) ?_
  refine hk_i (wr := [(q 7, .inl (cy 0, 30, .inl (fun _ => 0))), (q 8, .inl (cy 0, 30, .inl (fun _ => 0))), (q 9, .inl (cy 0, 30, .inl (fun _ => 0))), (q 11, .inl (cy 0, 5, .inl (fun _ => 0))), (q 12, .inl (cy 0, 5, .inl (fun _ => 0))), (q 13, .inl (cy 0, 5, .inl (fun _ => 0))), (q 15, .inl (cy 0, 30, .inl (fun _ => 0))), (q 19, .inl (cy 0, 12, .inl (fun _ => 0))), (q 20, .inl (cy 0, 12, .inl (fun _ => 0))), (q 21, .inl (cy 0, 12, .inl (fun _ => 0))), (q 22, .inl (cy 0, 12, .inl (fun _ => 0))), (q 23, .inl (cy 0, 12, .inl (fun _ => 0))), (q 25, .inl (cy 0, 5, .inl (fun _ => 0))), (q 27, .inl (cy 0, 20, .inl (fun _ => 0))), (q 28, .inl (cy 0, 20, .inl (fun _ => 0))), (q 29, .inl (cy 0, 20, .inl (fun _ => 0))), (q 30, .inl (cy 0, 20, .inl (fun _ => 0))), (q 32, .inl (cy 0, 10, .inl (fun _ => 0))), (q 33, .inl (cy 0, 10, .inl (fun _ => 0))), (q 34, .inl (cy 0, 16, .inl (fun _ => 0))), (q 35, .inl (cy 0, 4, .inl (hours0))), (q 39, .inl (cy 0, 7, .inl (fun _ => 0))), (q 4, .inl (cy 0, 30, .inl (fun _ => 0))), (q 5, .inl (cy 0, 30, .inl (fun _ => 0)))]) (c1 := 0) (s1 := 0) [24, 0, 26] [1, 2, 3, 4, 5, 6, 7, 8, 9, 10, 11, 12, 13, 14, 15, 16, 17, 18, 19, 20, 21, 22, 23, 25] (hc_V [.ref (q 6), .int 67, .int 1] [] [24, 0, 26] Sx hl.1 ws_M_302 md_X12_move (c_M_move l D cy q (q 6) 67 30 (fun _ => 0) u10 (by decide)) ⟨Nat.le_of_ble_eq_true rfl, Nat.le_of_ble_eq_true rfl⟩ hP hD rfl (by decide) hK nx_b (nx_w hX) (va_recv hK hP (ci := 12) (q0 := 24) rfl rfl) rfl rfl (Nat.le_of_ble_eq_true rfl) dd_X12_moveAll_40 ⟨Nat.le_of_ble_eq_true rfl, Nat.le_of_ble_eq_true rfl⟩) hS hA hP hD rfl rfl (by decide) (by decide) rfl rfl (fun r13 u14 H locs hw15 hP hD hS => ?_)
  have hP : va_P D cls [(q 7, .inl (cy 0, 30, .inl (fun _ => 0))), (q 8, .inl (cy 0, 30, .inl (fun _ => 0))), (q 9, .inl (cy 0, 30, .inl (fun _ => 0))), (q 11, .inl (cy 0, 5, .inl (fun _ => 0))), (q 12, .inl (cy 0, 5, .inl (fun _ => 0))), (q 13, .inl (cy 0, 5, .inl (fun _ => 0))), (q 15, .inl (cy 0, 30, .inl (fun _ => 0))), (q 19, .inl (cy 0, 12, .inl (fun _ => 0))), (q 20, .inl (cy 0, 12, .inl (fun _ => 0))), (q 21, .inl (cy 0, 12, .inl (fun _ => 0))), (q 22, .inl (cy 0, 12, .inl (fun _ => 0))), (q 23, .inl (cy 0, 12, .inl (fun _ => 0))), (q 25, .inl (cy 0, 5, .inl (fun _ => 0))), (q 27, .inl (cy 0, 20, .inl (fun _ => 0))), (q 28, .inl (cy 0, 20, .inl (fun _ => 0))), (q 29, .inl (cy 0, 20, .inl (fun _ => 0))), (q 30, .inl (cy 0, 20, .inl (fun _ => 0))), (q 32, .inl (cy 0, 10, .inl (fun _ => 0))), (q 33, .inl (cy 0, 10, .inl (fun _ => 0))), (q 34, .inl (cy 0, 16, .inl (fun _ => 0))), (q 35, .inl (cy 0, 4, .inl (hours0))), (q 39, .inl (cy 0, 7, .inl (fun _ => 0))), (q 4, .inl (cy 0, 30, .inl (fun _ => 0))), (q 5, .inl (cy 0, 30, .inl (fun _ => 0))), (q 60, .inr (12, fM q)), (q 6, .inl (cy 0, 30, .inl (fun _ => 0))), (q 38, .inl (cy 0, 460, .inl (u14)))] H := hP
  have hD : va_D A [(q 7, .inl (cy 0, 30, .inl (fun _ => 0))), (q 8, .inl (cy 0, 30, .inl (fun _ => 0))), (q 9, .inl (cy 0, 30, .inl (fun _ => 0))), (q 11, .inl (cy 0, 5, .inl (fun _ => 0))), (q 12, .inl (cy 0, 5, .inl (fun _ => 0))), (q 13, .inl (cy 0, 5, .inl (fun _ => 0))), (q 15, .inl (cy 0, 30, .inl (fun _ => 0))), (q 19, .inl (cy 0, 12, .inl (fun _ => 0))), (q 20, .inl (cy 0, 12, .inl (fun _ => 0))), (q 21, .inl (cy 0, 12, .inl (fun _ => 0))), (q 22, .inl (cy 0, 12, .inl (fun _ => 0))), (q 23, .inl (cy 0, 12, .inl (fun _ => 0))), (q 25, .inl (cy 0, 5, .inl (fun _ => 0))), (q 27, .inl (cy 0, 20, .inl (fun _ => 0))), (q 28, .inl (cy 0, 20, .inl (fun _ => 0))), (q 29, .inl (cy 0, 20, .inl (fun _ => 0))), (q 30, .inl (cy 0, 20, .inl (fun _ => 0))), (q 32, .inl (cy 0, 10, .inl (fun _ => 0))), (q 33, .inl (cy 0, 10, .inl (fun _ => 0))), (q 34, .inl (cy 0, 16, .inl (fun _ => 0))), (q 35, .inl (cy 0, 4, .inl (hours0))), (q 39, .inl (cy 0, 7, .inl (fun _ => 0))), (q 4, .inl (cy 0, 30, .inl (fun _ => 0))), (q 5, .inl (cy 0, 30, .inl (fun _ => 0))), (q 60, .inr (12, fM q)), (q 6, .inl (cy 0, 30, .inl (fun _ => 0))), (q 38, .inl (cy 0, 460, .inl (u14)))] := hD
  have hl16 : Int32.toInt 67 = 67 := rfl
  obtain rfl : r13 = 97 := ci_of (b := 97) rfl (by omega)
  refine lv_istore_n (lv' := [(2, .int 97), (0, .ref (q 60)), (1, .int 1)]) hx hb dd_X12_moveAll_43 rfl hl (by decide) rfl (fun ls hl => ?_)
  refine lv_aload_n hx hb dd_X12_moveAll_44 rfl (lv_at hl 1 rfl) ?_
  refine lv_aload_n hx hb dd_X12_moveAll_45 rfl (lv_at hl 1 rfl) ?_
  refine wk_get (v := .ref (q 7)) Sx ef_12 hK hP 24 rfl rfl 7 (by decide) kk_1108 rfl dd_X12_moveAll_46 ?_
  refine lv_iload_n hx hb dd_X12_moveAll_49 rfl (lv_at hl 0 rfl) ?_
  refine lv_iload_n hx hb dd_X12_moveAll_50 rfl (lv_at hl 2 rfl) ?_
  refine hk_i (wr := [(q 8, .inl (cy 0, 30, .inl (fun _ => 0))), (q 9, .inl (cy 0, 30, .inl (fun _ => 0))), (q 11, .inl (cy 0, 5, .inl (fun _ => 0))), (q 12, .inl (cy 0, 5, .inl (fun _ => 0))), (q 13, .inl (cy 0, 5, .inl (fun _ => 0))), (q 15, .inl (cy 0, 30, .inl (fun _ => 0))), (q 19, .inl (cy 0, 12, .inl (fun _ => 0))), (q 20, .inl (cy 0, 12, .inl (fun _ => 0))), (q 21, .inl (cy 0, 12, .inl (fun _ => 0))), (q 22, .inl (cy 0, 12, .inl (fun _ => 0))), (q 23, .inl (cy 0, 12, .inl (fun _ => 0))), (q 25, .inl (cy 0, 5, .inl (fun _ => 0))), (q 27, .inl (cy 0, 20, .inl (fun _ => 0))), (q 28, .inl (cy 0, 20, .inl (fun _ => 0))), (q 29, .inl (cy 0, 20, .inl (fun _ => 0))), (q 30, .inl (cy 0, 20, .inl (fun _ => 0))), (q 32, .inl (cy 0, 10, .inl (fun _ => 0))), (q 33, .inl (cy 0, 10, .inl (fun _ => 0))), (q 34, .inl (cy 0, 16, .inl (fun _ => 0))), (q 35, .inl (cy 0, 4, .inl (hours0))), (q 39, .inl (cy 0, 7, .inl (fun _ => 0))), (q 4, .inl (cy 0, 30, .inl (fun _ => 0))), (q 5, .inl (cy 0, 30, .inl (fun _ => 0))), (q 6, .inl (cy 0, 30, .inl (fun _ => 0)))]) (c1 := 0) (s1 := 0) [24, 0, 26] [1, 2, 3, 4, 5, 6, 7, 8, 9, 10, 11, 12, 13, 14, 15, 16, 17, 18, 19, 20, 21, 22, 23, 25] (hc_V [.ref (q 7), .int 97, .int 1] [] [24, 0, 26] Sx hl.1 ws_M_302 md_X12_move (c_M_move l D cy q (q 7) 97 30 (fun _ => 0) u14 (by decide)) ⟨Nat.le_of_ble_eq_true rfl, Nat.le_of_ble_eq_true rfl⟩ hP hD rfl (by decide) hK nx_b (nx_w hX) (va_recv hK hP (ci := 12) (q0 := 24) rfl rfl) rfl rfl (Nat.le_of_ble_eq_true rfl) dd_X12_moveAll_51 ⟨Nat.le_of_ble_eq_true rfl, Nat.le_of_ble_eq_true rfl⟩) hS hA hP hD rfl rfl (by decide) (by decide) rfl rfl (fun r17 u18 H locs hw19 hP hD hS => ?_)
  have hP : va_P D cls [(q 8, .inl (cy 0, 30, .inl (fun _ => 0))), (q 9, .inl (cy 0, 30, .inl (fun _ => 0))), (q 11, .inl (cy 0, 5, .inl (fun _ => 0))), (q 12, .inl (cy 0, 5, .inl (fun _ => 0))), (q 13, .inl (cy 0, 5, .inl (fun _ => 0))), (q 15, .inl (cy 0, 30, .inl (fun _ => 0))), (q 19, .inl (cy 0, 12, .inl (fun _ => 0))), (q 20, .inl (cy 0, 12, .inl (fun _ => 0))), (q 21, .inl (cy 0, 12, .inl (fun _ => 0))), (q 22, .inl (cy 0, 12, .inl (fun _ => 0))), (q 23, .inl (cy 0, 12, .inl (fun _ => 0))), (q 25, .inl (cy 0, 5, .inl (fun _ => 0))), (q 27, .inl (cy 0, 20, .inl (fun _ => 0))), (q 28, .inl (cy 0, 20, .inl (fun _ => 0))), (q 29, .inl (cy 0, 20, .inl (fun _ => 0))), (q 30, .inl (cy 0, 20, .inl (fun _ => 0))), (q 32, .inl (cy 0, 10, .inl (fun _ => 0))), (q 33, .inl (cy 0, 10, .inl (fun _ => 0))), (q 34, .inl (cy 0, 16, .inl (fun _ => 0))), (q 35, .inl (cy 0, 4, .inl (hours0))), (q 39, .inl (cy 0, 7, .inl (fun _ => 0))), (q 4, .inl (cy 0, 30, .inl (fun _ => 0))), (q 5, .inl (cy 0, 30, .inl (fun _ => 0))), (q 6, .inl (cy 0, 30, .inl (fun _ => 0))), (q 60, .inr (12, fM q)), (q 7, .inl (cy 0, 30, .inl (fun _ => 0))), (q 38, .inl (cy 0, 460, .inl (u18)))] H := hP
  have hD : va_D A [(q 8, .inl (cy 0, 30, .inl (fun _ => 0))), (q 9, .inl (cy 0, 30, .inl (fun _ => 0))), (q 11, .inl (cy 0, 5, .inl (fun _ => 0))), (q 12, .inl (cy 0, 5, .inl (fun _ => 0))), (q 13, .inl (cy 0, 5, .inl (fun _ => 0))), (q 15, .inl (cy 0, 30, .inl (fun _ => 0))), (q 19, .inl (cy 0, 12, .inl (fun _ => 0))), (q 20, .inl (cy 0, 12, .inl (fun _ => 0))), (q 21, .inl (cy 0, 12, .inl (fun _ => 0))), (q 22, .inl (cy 0, 12, .inl (fun _ => 0))), (q 23, .inl (cy 0, 12, .inl (fun _ => 0))), (q 25, .inl (cy 0, 5, .inl (fun _ => 0))), (q 27, .inl (cy 0, 20, .inl (fun _ => 0))), (q 28, .inl (cy 0, 20, .inl (fun _ => 0))), (q 29, .inl (cy 0, 20, .inl (fun _ => 0))), (q 30, .inl (cy 0, 20, .inl (fun _ => 0))), (q 32, .inl (cy 0, 10, .inl (fun _ => 0))), (q 33, .inl (cy 0, 10, .inl (fun _ => 0))), (q 34, .inl (cy 0, 16, .inl (fun _ => 0))), (q 35, .inl (cy 0, 4, .inl (hours0))), (q 39, .inl (cy 0, 7, .inl (fun _ => 0))), (q 4, .inl (cy 0, 30, .inl (fun _ => 0))), (q 5, .inl (cy 0, 30, .inl (fun _ => 0))), (q 6, .inl (cy 0, 30, .inl (fun _ => 0))), (q 60, .inr (12, fM q)), (q 7, .inl (cy 0, 30, .inl (fun _ => 0))), (q 38, .inl (cy 0, 460, .inl (u18)))] := hD
  have hl20 : Int32.toInt 97 = 97 := rfl
  obtain rfl : r17 = 127 := ci_of (b := 127) rfl (by omega)
  refine lv_istore_n (lv' := [(2, .int 127), (0, .ref (q 60)), (1, .int 1)]) hx hb dd_X12_moveAll_54 rfl hl (by decide) rfl (fun ls hl => ?_)
  refine lv_aload_n hx hb dd_X12_moveAll_55 rfl (lv_at hl 1 rfl) ?_
  refine lv_aload_n hx hb dd_X12_moveAll_56 rfl (lv_at hl 1 rfl) ?_
  refine wk_get (v := .ref (q 8)) Sx ef_12 hK hP 24 rfl rfl 8 (by decide) kk_1109 rfl dd_X12_moveAll_57 ?_
  refine lv_iload_n hx hb dd_X12_moveAll_60 rfl (lv_at hl 0 rfl) ?_
  refine lv_iload_n hx hb dd_X12_moveAll_61 rfl (lv_at hl 2 rfl) ?_
  refine hk_i (wr := [(q 9, .inl (cy 0, 30, .inl (fun _ => 0))), (q 11, .inl (cy 0, 5, .inl (fun _ => 0))), (q 12, .inl (cy 0, 5, .inl (fun _ => 0))), (q 13, .inl (cy 0, 5, .inl (fun _ => 0))), (q 15, .inl (cy 0, 30, .inl (fun _ => 0))), (q 19, .inl (cy 0, 12, .inl (fun _ => 0))), (q 20, .inl (cy 0, 12, .inl (fun _ => 0))), (q 21, .inl (cy 0, 12, .inl (fun _ => 0))), (q 22, .inl (cy 0, 12, .inl (fun _ => 0))), (q 23, .inl (cy 0, 12, .inl (fun _ => 0))), (q 25, .inl (cy 0, 5, .inl (fun _ => 0))), (q 27, .inl (cy 0, 20, .inl (fun _ => 0))), (q 28, .inl (cy 0, 20, .inl (fun _ => 0))), (q 29, .inl (cy 0, 20, .inl (fun _ => 0))), (q 30, .inl (cy 0, 20, .inl (fun _ => 0))), (q 32, .inl (cy 0, 10, .inl (fun _ => 0))), (q 33, .inl (cy 0, 10, .inl (fun _ => 0))), (q 34, .inl (cy 0, 16, .inl (fun _ => 0))), (q 35, .inl (cy 0, 4, .inl (hours0))), (q 39, .inl (cy 0, 7, .inl (fun _ => 0))), (q 4, .inl (cy 0, 30, .inl (fun _ => 0))), (q 5, .inl (cy 0, 30, .inl (fun _ => 0))), (q 6, .inl (cy 0, 30, .inl (fun _ => 0))), (q 7, .inl (cy 0, 30, .inl (fun _ => 0)))]) (c1 := 0) (s1 := 0) [24, 0, 26] [1, 2, 3, 4, 5, 6, 7, 8, 9, 10, 11, 12, 13, 14, 15, 16, 17, 18, 19, 20, 21, 22, 23, 25] (hc_V [.ref (q 8), .int 127, .int 1] [] [24, 0, 26] Sx hl.1 ws_M_302 md_X12_move (c_M_move l D cy q (q 8) 127 30 (fun _ => 0) u18 (by decide)) ⟨Nat.le_of_ble_eq_true rfl, Nat.le_of_ble_eq_true rfl⟩ hP hD rfl (by decide) hK nx_b (nx_w hX) (va_recv hK hP (ci := 12) (q0 := 24) rfl rfl) rfl rfl (Nat.le_of_ble_eq_true rfl) dd_X12_moveAll_62 ⟨Nat.le_of_ble_eq_true rfl, Nat.le_of_ble_eq_true rfl⟩) hS hA hP hD rfl rfl (by decide) (by decide) rfl rfl (fun r21 u22 H locs hw23 hP hD hS => ?_)
  have hP : va_P D cls [(q 9, .inl (cy 0, 30, .inl (fun _ => 0))), (q 11, .inl (cy 0, 5, .inl (fun _ => 0))), (q 12, .inl (cy 0, 5, .inl (fun _ => 0))), (q 13, .inl (cy 0, 5, .inl (fun _ => 0))), (q 15, .inl (cy 0, 30, .inl (fun _ => 0))), (q 19, .inl (cy 0, 12, .inl (fun _ => 0))), (q 20, .inl (cy 0, 12, .inl (fun _ => 0))), (q 21, .inl (cy 0, 12, .inl (fun _ => 0))), (q 22, .inl (cy 0, 12, .inl (fun _ => 0))), (q 23, .inl (cy 0, 12, .inl (fun _ => 0))), (q 25, .inl (cy 0, 5, .inl (fun _ => 0))), (q 27, .inl (cy 0, 20, .inl (fun _ => 0))), (q 28, .inl (cy 0, 20, .inl (fun _ => 0))), (q 29, .inl (cy 0, 20, .inl (fun _ => 0))), (q 30, .inl (cy 0, 20, .inl (fun _ => 0))), (q 32, .inl (cy 0, 10, .inl (fun _ => 0))), (q 33, .inl (cy 0, 10, .inl (fun _ => 0))), (q 34, .inl (cy 0, 16, .inl (fun _ => 0))), (q 35, .inl (cy 0, 4, .inl (hours0))), (q 39, .inl (cy 0, 7, .inl (fun _ => 0))), (q 4, .inl (cy 0, 30, .inl (fun _ => 0))), (q 5, .inl (cy 0, 30, .inl (fun _ => 0))), (q 6, .inl (cy 0, 30, .inl (fun _ => 0))), (q 7, .inl (cy 0, 30, .inl (fun _ => 0))), (q 60, .inr (12, fM q)), (q 8, .inl (cy 0, 30, .inl (fun _ => 0))), (q 38, .inl (cy 0, 460, .inl (u22)))] H := hP
  have hD : va_D A [(q 9, .inl (cy 0, 30, .inl (fun _ => 0))), (q 11, .inl (cy 0, 5, .inl (fun _ => 0))), (q 12, .inl (cy 0, 5, .inl (fun _ => 0))), (q 13, .inl (cy 0, 5, .inl (fun _ => 0))), (q 15, .inl (cy 0, 30, .inl (fun _ => 0))), (q 19, .inl (cy 0, 12, .inl (fun _ => 0))), (q 20, .inl (cy 0, 12, .inl (fun _ => 0))), (q 21, .inl (cy 0, 12, .inl (fun _ => 0))), (q 22, .inl (cy 0, 12, .inl (fun _ => 0))), (q 23, .inl (cy 0, 12, .inl (fun _ => 0))), (q 25, .inl (cy 0, 5, .inl (fun _ => 0))), (q 27, .inl (cy 0, 20, .inl (fun _ => 0))), (q 28, .inl (cy 0, 20, .inl (fun _ => 0))), (q 29, .inl (cy 0, 20, .inl (fun _ => 0))), (q 30, .inl (cy 0, 20, .inl (fun _ => 0))), (q 32, .inl (cy 0, 10, .inl (fun _ => 0))), (q 33, .inl (cy 0, 10, .inl (fun _ => 0))), (q 34, .inl (cy 0, 16, .inl (fun _ => 0))), (q 35, .inl (cy 0, 4, .inl (hours0))), (q 39, .inl (cy 0, 7, .inl (fun _ => 0))), (q 4, .inl (cy 0, 30, .inl (fun _ => 0))), (q 5, .inl (cy 0, 30, .inl (fun _ => 0))), (q 6, .inl (cy 0, 30, .inl (fun _ => 0))), (q 7, .inl (cy 0, 30, .inl (fun _ => 0))), (q 60, .inr (12, fM q)), (q 8, .inl (cy 0, 30, .inl (fun _ => 0))), (q 38, .inl (cy 0, 460, .inl (u22)))] := hD
  have hl24 : Int32.toInt 127 = 127 := rfl
  obtain rfl : r21 = 157 := ci_of (b := 157) rfl (by omega)
  refine lv_istore_n (lv' := [(2, .int 157), (0, .ref (q 60)), (1, .int 1)]) hx hb dd_X12_moveAll_65 rfl hl (by decide) rfl (fun ls hl => ?_)
  refine lv_aload_n hx hb dd_X12_moveAll_66 rfl (lv_at hl 1 rfl) ?_
  refine lv_aload_n hx hb dd_X12_moveAll_67 rfl (lv_at hl 1 rfl) ?_
  refine wk_get (v := .ref (q 9)) Sx ef_12 hK hP 24 rfl rfl 9 (by decide) kk_1110 rfl dd_X12_moveAll_68 ?_
  refine lv_iload_n hx hb dd_X12_moveAll_71 rfl (lv_at hl 0 rfl) ?_
  refine lv_iload_n hx hb dd_X12_moveAll_72 rfl (lv_at hl 2 rfl) ?_
  refine hk_i (wr := [(q 11, .inl (cy 0, 5, .inl (fun _ => 0))), (q 12, .inl (cy 0, 5, .inl (fun _ => 0))), (q 13, .inl (cy 0, 5, .inl (fun _ => 0))), (q 15, .inl (cy 0, 30, .inl (fun _ => 0))), (q 19, .inl (cy 0, 12, .inl (fun _ => 0))), (q 20, .inl (cy 0, 12, .inl (fun _ => 0))), (q 21, .inl (cy 0, 12, .inl (fun _ => 0))), (q 22, .inl (cy 0, 12, .inl (fun _ => 0))), (q 23, .inl (cy 0, 12, .inl (fun _ => 0))), (q 25, .inl (cy 0, 5, .inl (fun _ => 0))), (q 27, .inl (cy 0, 20, .inl (fun _ => 0))), (q 28, .inl (cy 0, 20, .inl (fun _ => 0))), (q 29, .inl (cy 0, 20, .inl (fun _ => 0))), (q 30, .inl (cy 0, 20, .inl (fun _ => 0))), (q 32, .inl (cy 0, 10, .inl (fun _ => 0))), (q 33, .inl (cy 0, 10, .inl (fun _ => 0))), (q 34, .inl (cy 0, 16, .inl (fun _ => 0))), (q 35, .inl (cy 0, 4, .inl (hours0))), (q 39, .inl (cy 0, 7, .inl (fun _ => 0))), (q 4, .inl (cy 0, 30, .inl (fun _ => 0))), (q 5, .inl (cy 0, 30, .inl (fun _ => 0))), (q 6, .inl (cy 0, 30, .inl (fun _ => 0))), (q 7, .inl (cy 0, 30, .inl (fun _ => 0))), (q 8, .inl (cy 0, 30, .inl (fun _ => 0)))]) (c1 := 0) (s1 := 0) [24, 0, 26] [1, 2, 3, 4, 5, 6, 7, 8, 9, 10, 11, 12, 13, 14, 15, 16, 17, 18, 19, 20, 21, 22, 23, 25] (hc_V [.ref (q 9), .int 157, .int 1] [] [24, 0, 26] Sx hl.1 ws_M_302 md_X12_move (c_M_move l D cy q (q 9) 157 30 (fun _ => 0) u22 (by decide)) ⟨Nat.le_of_ble_eq_true rfl, Nat.le_of_ble_eq_true rfl⟩ hP hD rfl (by decide) hK nx_b (nx_w hX) (va_recv hK hP (ci := 12) (q0 := 24) rfl rfl) rfl rfl (Nat.le_of_ble_eq_true rfl) dd_X12_moveAll_73 ⟨Nat.le_of_ble_eq_true rfl, Nat.le_of_ble_eq_true rfl⟩) hS hA hP hD rfl rfl (by decide) (by decide) rfl rfl (fun r25 u26 H locs hw27 hP hD hS => ?_)
  have hP : va_P D cls [(q 11, .inl (cy 0, 5, .inl (fun _ => 0))), (q 12, .inl (cy 0, 5, .inl (fun _ => 0))), (q 13, .inl (cy 0, 5, .inl (fun _ => 0))), (q 15, .inl (cy 0, 30, .inl (fun _ => 0))), (q 19, .inl (cy 0, 12, .inl (fun _ => 0))), (q 20, .inl (cy 0, 12, .inl (fun _ => 0))), (q 21, .inl (cy 0, 12, .inl (fun _ => 0))), (q 22, .inl (cy 0, 12, .inl (fun _ => 0))), (q 23, .inl (cy 0, 12, .inl (fun _ => 0))), (q 25, .inl (cy 0, 5, .inl (fun _ => 0))), (q 27, .inl (cy 0, 20, .inl (fun _ => 0))), (q 28, .inl (cy 0, 20, .inl (fun _ => 0))), (q 29, .inl (cy 0, 20, .inl (fun _ => 0))), (q 30, .inl (cy 0, 20, .inl (fun _ => 0))), (q 32, .inl (cy 0, 10, .inl (fun _ => 0))), (q 33, .inl (cy 0, 10, .inl (fun _ => 0))), (q 34, .inl (cy 0, 16, .inl (fun _ => 0))), (q 35, .inl (cy 0, 4, .inl (hours0))), (q 39, .inl (cy 0, 7, .inl (fun _ => 0))), (q 4, .inl (cy 0, 30, .inl (fun _ => 0))), (q 5, .inl (cy 0, 30, .inl (fun _ => 0))), (q 6, .inl (cy 0, 30, .inl (fun _ => 0))), (q 7, .inl (cy 0, 30, .inl (fun _ => 0))), (q 8, .inl (cy 0, 30, .inl (fun _ => 0))), (q 60, .inr (12, fM q)), (q 9, .inl (cy 0, 30, .inl (fun _ => 0))), (q 38, .inl (cy 0, 460, .inl (u26)))] H := hP
  have hD : va_D A [(q 11, .inl (cy 0, 5, .inl (fun _ => 0))), (q 12, .inl (cy 0, 5, .inl (fun _ => 0))), (q 13, .inl (cy 0, 5, .inl (fun _ => 0))), (q 15, .inl (cy 0, 30, .inl (fun _ => 0))), (q 19, .inl (cy 0, 12, .inl (fun _ => 0))), (q 20, .inl (cy 0, 12, .inl (fun _ => 0))), (q 21, .inl (cy 0, 12, .inl (fun _ => 0))), (q 22, .inl (cy 0, 12, .inl (fun _ => 0))), (q 23, .inl (cy 0, 12, .inl (fun _ => 0))), (q 25, .inl (cy 0, 5, .inl (fun _ => 0))), (q 27, .inl (cy 0, 20, .inl (fun _ => 0))), (q 28, .inl (cy 0, 20, .inl (fun _ => 0))), (q 29, .inl (cy 0, 20, .inl (fun _ => 0))), (q 30, .inl (cy 0, 20, .inl (fun _ => 0))), (q 32, .inl (cy 0, 10, .inl (fun _ => 0))), (q 33, .inl (cy 0, 10, .inl (fun _ => 0))), (q 34, .inl (cy 0, 16, .inl (fun _ => 0))), (q 35, .inl (cy 0, 4, .inl (hours0))), (q 39, .inl (cy 0, 7, .inl (fun _ => 0))), (q 4, .inl (cy 0, 30, .inl (fun _ => 0))), (q 5, .inl (cy 0, 30, .inl (fun _ => 0))), (q 6, .inl (cy 0, 30, .inl (fun _ => 0))), (q 7, .inl (cy 0, 30, .inl (fun _ => 0))), (q 8, .inl (cy 0, 30, .inl (fun _ => 0))), (q 60, .inr (12, fM q)), (q 9, .inl (cy 0, 30, .inl (fun _ => 0))), (q 38, .inl (cy 0, 460, .inl (u26)))] := hD
  have hl28 : Int32.toInt 157 = 157 := rfl
  obtain rfl : r25 = 187 := ci_of (b := 187) rfl (by omega)
  refine lv_istore_n (lv' := [(2, .int 187), (0, .ref (q 60)), (1, .int 1)]) hx hb dd_X12_moveAll_76 rfl hl (by decide) rfl (fun ls hl => ?_)
  refine lv_aload_n hx hb dd_X12_moveAll_77 rfl (lv_at hl 1 rfl) ?_
  refine lv_aload_n hx hb dd_X12_moveAll_78 rfl (lv_at hl 1 rfl) ?_
  refine wk_get (v := .ref (q 11)) Sx ef_12 hK hP 24 rfl rfl 11 (by decide) kk_1112 rfl dd_X12_moveAll_79 ?_
  refine lv_iload_n hx hb dd_X12_moveAll_82 rfl (lv_at hl 0 rfl) ?_
  refine lv_iload_n hx hb dd_X12_moveAll_83 rfl (lv_at hl 2 rfl) ?_
  refine hk_i (wr := [(q 12, .inl (cy 0, 5, .inl (fun _ => 0))), (q 13, .inl (cy 0, 5, .inl (fun _ => 0))), (q 15, .inl (cy 0, 30, .inl (fun _ => 0))), (q 19, .inl (cy 0, 12, .inl (fun _ => 0))), (q 20, .inl (cy 0, 12, .inl (fun _ => 0))), (q 21, .inl (cy 0, 12, .inl (fun _ => 0))), (q 22, .inl (cy 0, 12, .inl (fun _ => 0))), (q 23, .inl (cy 0, 12, .inl (fun _ => 0))), (q 25, .inl (cy 0, 5, .inl (fun _ => 0))), (q 27, .inl (cy 0, 20, .inl (fun _ => 0))), (q 28, .inl (cy 0, 20, .inl (fun _ => 0))), (q 29, .inl (cy 0, 20, .inl (fun _ => 0))), (q 30, .inl (cy 0, 20, .inl (fun _ => 0))), (q 32, .inl (cy 0, 10, .inl (fun _ => 0))), (q 33, .inl (cy 0, 10, .inl (fun _ => 0))), (q 34, .inl (cy 0, 16, .inl (fun _ => 0))), (q 35, .inl (cy 0, 4, .inl (hours0))), (q 39, .inl (cy 0, 7, .inl (fun _ => 0))), (q 4, .inl (cy 0, 30, .inl (fun _ => 0))), (q 5, .inl (cy 0, 30, .inl (fun _ => 0))), (q 6, .inl (cy 0, 30, .inl (fun _ => 0))), (q 7, .inl (cy 0, 30, .inl (fun _ => 0))), (q 8, .inl (cy 0, 30, .inl (fun _ => 0))), (q 9, .inl (cy 0, 30, .inl (fun _ => 0)))]) (c1 := 0) (s1 := 0) [24, 0, 26] [1, 2, 3, 4, 5, 6, 7, 8, 9, 10, 11, 12, 13, 14, 15, 16, 17, 18, 19, 20, 21, 22, 23, 25] (hc_V [.ref (q 11), .int 187, .int 1] [] [24, 0, 26] Sx hl.1 ws_M_302 md_X12_move (c_M_move l D cy q (q 11) 187 5 (fun _ => 0) u26 (by decide)) ⟨Nat.le_of_ble_eq_true rfl, Nat.le_of_ble_eq_true rfl⟩ hP hD rfl (by decide) hK nx_b (nx_w hX) (va_recv hK hP (ci := 12) (q0 := 24) rfl rfl) rfl rfl (Nat.le_of_ble_eq_true rfl) dd_X12_moveAll_84 ⟨Nat.le_of_ble_eq_true rfl, Nat.le_of_ble_eq_true rfl⟩) hS hA hP hD rfl rfl (by decide) (by decide) rfl rfl (fun r29 u30 H locs hw31 hP hD hS => ?_)
  have hP : va_P D cls [(q 12, .inl (cy 0, 5, .inl (fun _ => 0))), (q 13, .inl (cy 0, 5, .inl (fun _ => 0))), (q 15, .inl (cy 0, 30, .inl (fun _ => 0))), (q 19, .inl (cy 0, 12, .inl (fun _ => 0))), (q 20, .inl (cy 0, 12, .inl (fun _ => 0))), (q 21, .inl (cy 0, 12, .inl (fun _ => 0))), (q 22, .inl (cy 0, 12, .inl (fun _ => 0))), (q 23, .inl (cy 0, 12, .inl (fun _ => 0))), (q 25, .inl (cy 0, 5, .inl (fun _ => 0))), (q 27, .inl (cy 0, 20, .inl (fun _ => 0))), (q 28, .inl (cy 0, 20, .inl (fun _ => 0))), (q 29, .inl (cy 0, 20, .inl (fun _ => 0))), (q 30, .inl (cy 0, 20, .inl (fun _ => 0))), (q 32, .inl (cy 0, 10, .inl (fun _ => 0))), (q 33, .inl (cy 0, 10, .inl (fun _ => 0))), (q 34, .inl (cy 0, 16, .inl (fun _ => 0))), (q 35, .inl (cy 0, 4, .inl (hours0))), (q 39, .inl (cy 0, 7, .inl (fun _ => 0))), (q 4, .inl (cy 0, 30, .inl (fun _ => 0))), (q 5, .inl (cy 0, 30, .inl (fun _ => 0))), (q 6, .inl (cy 0, 30, .inl (fun _ => 0))), (q 7, .inl (cy 0, 30, .inl (fun _ => 0))), (q 8, .inl (cy 0, 30, .inl (fun _ => 0))), (q 9, .inl (cy 0, 30, .inl (fun _ => 0))), (q 60, .inr (12, fM q)), (q 11, .inl (cy 0, 5, .inl (fun _ => 0))), (q 38, .inl (cy 0, 460, .inl (u30)))] H := hP
  have hD : va_D A [(q 12, .inl (cy 0, 5, .inl (fun _ => 0))), (q 13, .inl (cy 0, 5, .inl (fun _ => 0))), (q 15, .inl (cy 0, 30, .inl (fun _ => 0))), (q 19, .inl (cy 0, 12, .inl (fun _ => 0))), (q 20, .inl (cy 0, 12, .inl (fun _ => 0))), (q 21, .inl (cy 0, 12, .inl (fun _ => 0))), (q 22, .inl (cy 0, 12, .inl (fun _ => 0))), (q 23, .inl (cy 0, 12, .inl (fun _ => 0))), (q 25, .inl (cy 0, 5, .inl (fun _ => 0))), (q 27, .inl (cy 0, 20, .inl (fun _ => 0))), (q 28, .inl (cy 0, 20, .inl (fun _ => 0))), (q 29, .inl (cy 0, 20, .inl (fun _ => 0))), (q 30, .inl (cy 0, 20, .inl (fun _ => 0))), (q 32, .inl (cy 0, 10, .inl (fun _ => 0))), (q 33, .inl (cy 0, 10, .inl (fun _ => 0))), (q 34, .inl (cy 0, 16, .inl (fun _ => 0))), (q 35, .inl (cy 0, 4, .inl (hours0))), (q 39, .inl (cy 0, 7, .inl (fun _ => 0))), (q 4, .inl (cy 0, 30, .inl (fun _ => 0))), (q 5, .inl (cy 0, 30, .inl (fun _ => 0))), (q 6, .inl (cy 0, 30, .inl (fun _ => 0))), (q 7, .inl (cy 0, 30, .inl (fun _ => 0))), (q 8, .inl (cy 0, 30, .inl (fun _ => 0))), (q 9, .inl (cy 0, 30, .inl (fun _ => 0))), (q 60, .inr (12, fM q)), (q 11, .inl (cy 0, 5, .inl (fun _ => 0))), (q 38, .inl (cy 0, 460, .inl (u30)))] := hD
  have hl32 : Int32.toInt 187 = 187 := rfl
  obtain rfl : r29 = 192 := ci_of (b := 192) rfl (by omega)
  refine lv_istore_n (lv' := [(2, .int 192), (0, .ref (q 60)), (1, .int 1)]) hx hb dd_X12_moveAll_87 rfl hl (by decide) rfl (fun ls hl => ?_)
  refine lv_aload_n hx hb dd_X12_moveAll_88 rfl (lv_at hl 1 rfl) ?_
  refine lv_aload_n hx hb dd_X12_moveAll_89 rfl (lv_at hl 1 rfl) ?_
  refine wk_get (v := .ref (q 12)) Sx ef_12 hK hP 24 rfl rfl 12 (by decide) kk_1113 rfl dd_X12_moveAll_90 ?_
  refine lv_iload_n hx hb dd_X12_moveAll_93 rfl (lv_at hl 0 rfl) ?_
  refine lv_iload_n hx hb dd_X12_moveAll_94 rfl (lv_at hl 2 rfl) ?_
  refine hk_i (wr := [(q 13, .inl (cy 0, 5, .inl (fun _ => 0))), (q 15, .inl (cy 0, 30, .inl (fun _ => 0))), (q 19, .inl (cy 0, 12, .inl (fun _ => 0))), (q 20, .inl (cy 0, 12, .inl (fun _ => 0))), (q 21, .inl (cy 0, 12, .inl (fun _ => 0))), (q 22, .inl (cy 0, 12, .inl (fun _ => 0))), (q 23, .inl (cy 0, 12, .inl (fun _ => 0))), (q 25, .inl (cy 0, 5, .inl (fun _ => 0))), (q 27, .inl (cy 0, 20, .inl (fun _ => 0))), (q 28, .inl (cy 0, 20, .inl (fun _ => 0))), (q 29, .inl (cy 0, 20, .inl (fun _ => 0))), (q 30, .inl (cy 0, 20, .inl (fun _ => 0))), (q 32, .inl (cy 0, 10, .inl (fun _ => 0))), (q 33, .inl (cy 0, 10, .inl (fun _ => 0))), (q 34, .inl (cy 0, 16, .inl (fun _ => 0))), (q 35, .inl (cy 0, 4, .inl (hours0))), (q 39, .inl (cy 0, 7, .inl (fun _ => 0))), (q 4, .inl (cy 0, 30, .inl (fun _ => 0))), (q 5, .inl (cy 0, 30, .inl (fun _ => 0))), (q 6, .inl (cy 0, 30, .inl (fun _ => 0))), (q 7, .inl (cy 0, 30, .inl (fun _ => 0))), (q 8, .inl (cy 0, 30, .inl (fun _ => 0))), (q 9, .inl (cy 0, 30, .inl (fun _ => 0))), (q 11, .inl (cy 0, 5, .inl (fun _ => 0)))]) (c1 := 0) (s1 := 0) [24, 0, 26] [1, 2, 3, 4, 5, 6, 7, 8, 9, 10, 11, 12, 13, 14, 15, 16, 17, 18, 19, 20, 21, 22, 23, 25] (hc_V [.ref (q 12), .int 192, .int 1] [] [24, 0, 26] Sx hl.1 ws_M_302 md_X12_move (c_M_move l D cy q (q 12) 192 5 (fun _ => 0) u30 (by decide)) ⟨Nat.le_of_ble_eq_true rfl, Nat.le_of_ble_eq_true rfl⟩ hP hD rfl (by decide) hK nx_b (nx_w hX) (va_recv hK hP (ci := 12) (q0 := 24) rfl rfl) rfl rfl (Nat.le_of_ble_eq_true rfl) dd_X12_moveAll_95 ⟨Nat.le_of_ble_eq_true rfl, Nat.le_of_ble_eq_true rfl⟩) hS hA hP hD rfl rfl (by decide) (by decide) rfl rfl (fun r33 u34 H locs hw35 hP hD hS => ?_)
  have hP : va_P D cls [(q 13, .inl (cy 0, 5, .inl (fun _ => 0))), (q 15, .inl (cy 0, 30, .inl (fun _ => 0))), (q 19, .inl (cy 0, 12, .inl (fun _ => 0))), (q 20, .inl (cy 0, 12, .inl (fun _ => 0))), (q 21, .inl (cy 0, 12, .inl (fun _ => 0))), (q 22, .inl (cy 0, 12, .inl (fun _ => 0))), (q 23, .inl (cy 0, 12, .inl (fun _ => 0))), (q 25, .inl (cy 0, 5, .inl (fun _ => 0))), (q 27, .inl (cy 0, 20, .inl (fun _ => 0))), (q 28, .inl (cy 0, 20, .inl (fun _ => 0))), (q 29, .inl (cy 0, 20, .inl (fun _ => 0))), (q 30, .inl (cy 0, 20, .inl (fun _ => 0))), (q 32, .inl (cy 0, 10, .inl (fun _ => 0))), (q 33, .inl (cy 0, 10, .inl (fun _ => 0))), (q 34, .inl (cy 0, 16, .inl (fun _ => 0))), (q 35, .inl (cy 0, 4, .inl (hours0))), (q 39, .inl (cy 0, 7, .inl (fun _ => 0))), (q 4, .inl (cy 0, 30, .inl (fun _ => 0))), (q 5, .inl (cy 0, 30, .inl (fun _ => 0))), (q 6, .inl (cy 0, 30, .inl (fun _ => 0))), (q 7, .inl (cy 0, 30, .inl (fun _ => 0))), (q 8, .inl (cy 0, 30, .inl (fun _ => 0))), (q 9, .inl (cy 0, 30, .inl (fun _ => 0))), (q 11, .inl (cy 0, 5, .inl (fun _ => 0))), (q 60, .inr (12, fM q)), (q 12, .inl (cy 0, 5, .inl (fun _ => 0))), (q 38, .inl (cy 0, 460, .inl (u34)))] H := hP
  have hD : va_D A [(q 13, .inl (cy 0, 5, .inl (fun _ => 0))), (q 15, .inl (cy 0, 30, .inl (fun _ => 0))), (q 19, .inl (cy 0, 12, .inl (fun _ => 0))), (q 20, .inl (cy 0, 12, .inl (fun _ => 0))), (q 21, .inl (cy 0, 12, .inl (fun _ => 0))), (q 22, .inl (cy 0, 12, .inl (fun _ => 0))), (q 23, .inl (cy 0, 12, .inl (fun _ => 0))), (q 25, .inl (cy 0, 5, .inl (fun _ => 0))), (q 27, .inl (cy 0, 20, .inl (fun _ => 0))), (q 28, .inl (cy 0, 20, .inl (fun _ => 0))), (q 29, .inl (cy 0, 20, .inl (fun _ => 0))), (q 30, .inl (cy 0, 20, .inl (fun _ => 0))), (q 32, .inl (cy 0, 10, .inl (fun _ => 0))), (q 33, .inl (cy 0, 10, .inl (fun _ => 0))), (q 34, .inl (cy 0, 16, .inl (fun _ => 0))), (q 35, .inl (cy 0, 4, .inl (hours0))), (q 39, .inl (cy 0, 7, .inl (fun _ => 0))), (q 4, .inl (cy 0, 30, .inl (fun _ => 0))), (q 5, .inl (cy 0, 30, .inl (fun _ => 0))), (q 6, .inl (cy 0, 30, .inl (fun _ => 0))), (q 7, .inl (cy 0, 30, .inl (fun _ => 0))), (q 8, .inl (cy 0, 30, .inl (fun _ => 0))), (q 9, .inl (cy 0, 30, .inl (fun _ => 0))), (q 11, .inl (cy 0, 5, .inl (fun _ => 0))), (q 60, .inr (12, fM q)), (q 12, .inl (cy 0, 5, .inl (fun _ => 0))), (q 38, .inl (cy 0, 460, .inl (u34)))] := hD
  have hl36 : Int32.toInt 192 = 192 := rfl
  obtain rfl : r33 = 197 := ci_of (b := 197) rfl (by omega)
  refine lv_istore_n (lv' := [(2, .int 197), (0, .ref (q 60)), (1, .int 1)]) hx hb dd_X12_moveAll_98 rfl hl (by decide) rfl (fun ls hl => ?_)
  refine lv_aload_n hx hb dd_X12_moveAll_99 rfl (lv_at hl 1 rfl) ?_
  refine lv_aload_n hx hb dd_X12_moveAll_100 rfl (lv_at hl 1 rfl) ?_
  refine wk_get (v := .ref (q 13)) Sx ef_12 hK hP 24 rfl rfl 13 (by decide) kk_1114 rfl dd_X12_moveAll_101 ?_
  refine lv_iload_n hx hb dd_X12_moveAll_104 rfl (lv_at hl 0 rfl) ?_
  refine lv_iload_n hx hb dd_X12_moveAll_105 rfl (lv_at hl 2 rfl) ?_
  refine hk_i (wr := [(q 15, .inl (cy 0, 30, .inl (fun _ => 0))), (q 19, .inl (cy 0, 12, .inl (fun _ => 0))), (q 20, .inl (cy 0, 12, .inl (fun _ => 0))), (q 21, .inl (cy 0, 12, .inl (fun _ => 0))), (q 22, .inl (cy 0, 12, .inl (fun _ => 0))), (q 23, .inl (cy 0, 12, .inl (fun _ => 0))), (q 25, .inl (cy 0, 5, .inl (fun _ => 0))), (q 27, .inl (cy 0, 20, .inl (fun _ => 0))), (q 28, .inl (cy 0, 20, .inl (fun _ => 0))), (q 29, .inl (cy 0, 20, .inl (fun _ => 0))), (q 30, .inl (cy 0, 20, .inl (fun _ => 0))), (q 32, .inl (cy 0, 10, .inl (fun _ => 0))), (q 33, .inl (cy 0, 10, .inl (fun _ => 0))), (q 34, .inl (cy 0, 16, .inl (fun _ => 0))), (q 35, .inl (cy 0, 4, .inl (hours0))), (q 39, .inl (cy 0, 7, .inl (fun _ => 0))), (q 4, .inl (cy 0, 30, .inl (fun _ => 0))), (q 5, .inl (cy 0, 30, .inl (fun _ => 0))), (q 6, .inl (cy 0, 30, .inl (fun _ => 0))), (q 7, .inl (cy 0, 30, .inl (fun _ => 0))), (q 8, .inl (cy 0, 30, .inl (fun _ => 0))), (q 9, .inl (cy 0, 30, .inl (fun _ => 0))), (q 11, .inl (cy 0, 5, .inl (fun _ => 0))), (q 12, .inl (cy 0, 5, .inl (fun _ => 0)))]) (c1 := 0) (s1 := 0) [24, 0, 26] [1, 2, 3, 4, 5, 6, 7, 8, 9, 10, 11, 12, 13, 14, 15, 16, 17, 18, 19, 20, 21, 22, 23, 25] (hc_V [.ref (q 13), .int 197, .int 1] [] [24, 0, 26] Sx hl.1 ws_M_302 md_X12_move (c_M_move l D cy q (q 13) 197 5 (fun _ => 0) u34 (by decide)) ⟨Nat.le_of_ble_eq_true rfl, Nat.le_of_ble_eq_true rfl⟩ hP hD rfl (by decide) hK nx_b (nx_w hX) (va_recv hK hP (ci := 12) (q0 := 24) rfl rfl) rfl rfl (Nat.le_of_ble_eq_true rfl) dd_X12_moveAll_106 ⟨Nat.le_of_ble_eq_true rfl, Nat.le_of_ble_eq_true rfl⟩) hS hA hP hD rfl rfl (by decide) (by decide) rfl rfl (fun r37 u38 H locs hw39 hP hD hS => ?_)
  have hP : va_P D cls [(q 15, .inl (cy 0, 30, .inl (fun _ => 0))), (q 19, .inl (cy 0, 12, .inl (fun _ => 0))), (q 20, .inl (cy 0, 12, .inl (fun _ => 0))), (q 21, .inl (cy 0, 12, .inl (fun _ => 0))), (q 22, .inl (cy 0, 12, .inl (fun _ => 0))), (q 23, .inl (cy 0, 12, .inl (fun _ => 0))), (q 25, .inl (cy 0, 5, .inl (fun _ => 0))), (q 27, .inl (cy 0, 20, .inl (fun _ => 0))), (q 28, .inl (cy 0, 20, .inl (fun _ => 0))), (q 29, .inl (cy 0, 20, .inl (fun _ => 0))), (q 30, .inl (cy 0, 20, .inl (fun _ => 0))), (q 32, .inl (cy 0, 10, .inl (fun _ => 0))), (q 33, .inl (cy 0, 10, .inl (fun _ => 0))), (q 34, .inl (cy 0, 16, .inl (fun _ => 0))), (q 35, .inl (cy 0, 4, .inl (hours0))), (q 39, .inl (cy 0, 7, .inl (fun _ => 0))), (q 4, .inl (cy 0, 30, .inl (fun _ => 0))), (q 5, .inl (cy 0, 30, .inl (fun _ => 0))), (q 6, .inl (cy 0, 30, .inl (fun _ => 0))), (q 7, .inl (cy 0, 30, .inl (fun _ => 0))), (q 8, .inl (cy 0, 30, .inl (fun _ => 0))), (q 9, .inl (cy 0, 30, .inl (fun _ => 0))), (q 11, .inl (cy 0, 5, .inl (fun _ => 0))), (q 12, .inl (cy 0, 5, .inl (fun _ => 0))), (q 60, .inr (12, fM q)), (q 13, .inl (cy 0, 5, .inl (fun _ => 0))), (q 38, .inl (cy 0, 460, .inl (u38)))] H := hP
  have hD : va_D A [(q 15, .inl (cy 0, 30, .inl (fun _ => 0))), (q 19, .inl (cy 0, 12, .inl (fun _ => 0))), (q 20, .inl (cy 0, 12, .inl (fun _ => 0))), (q 21, .inl (cy 0, 12, .inl (fun _ => 0))), (q 22, .inl (cy 0, 12, .inl (fun _ => 0))), (q 23, .inl (cy 0, 12, .inl (fun _ => 0))), (q 25, .inl (cy 0, 5, .inl (fun _ => 0))), (q 27, .inl (cy 0, 20, .inl (fun _ => 0))), (q 28, .inl (cy 0, 20, .inl (fun _ => 0))), (q 29, .inl (cy 0, 20, .inl (fun _ => 0))), (q 30, .inl (cy 0, 20, .inl (fun _ => 0))), (q 32, .inl (cy 0, 10, .inl (fun _ => 0))), (q 33, .inl (cy 0, 10, .inl (fun _ => 0))), (q 34, .inl (cy 0, 16, .inl (fun _ => 0))), (q 35, .inl (cy 0, 4, .inl (hours0))), (q 39, .inl (cy 0, 7, .inl (fun _ => 0))), (q 4, .inl (cy 0, 30, .inl (fun _ => 0))), (q 5, .inl (cy 0, 30, .inl (fun _ => 0))), (q 6, .inl (cy 0, 30, .inl (fun _ => 0))), (q 7, .inl (cy 0, 30, .inl (fun _ => 0))), (q 8, .inl (cy 0, 30, .inl (fun _ => 0))), (q 9, .inl (cy 0, 30, .inl (fun _ => 0))), (q 11, .inl (cy 0, 5, .inl (fun _ => 0))), (q 12, .inl (cy 0, 5, .inl (fun _ => 0))), (q 60, .inr (12, fM q)), (q 13, .inl (cy 0, 5, .inl (fun _ => 0))), (q 38, .inl (cy 0, 460, .inl (u38)))] := hD
  have hl40 : Int32.toInt 197 = 197 := rfl
  obtain rfl : r37 = 202 := ci_of (b := 202) rfl (by omega)
  refine lv_istore_n (lv' := [(2, .int 202), (0, .ref (q 60)), (1, .int 1)]) hx hb dd_X12_moveAll_109 rfl hl (by decide) rfl (fun ls hl => ?_)
  refine lv_aload_n hx hb dd_X12_moveAll_110 rfl (lv_at hl 1 rfl) ?_
  refine lv_aload_n hx hb dd_X12_moveAll_111 rfl (lv_at hl 1 rfl) ?_
  refine wk_get (v := .ref (q 15)) Sx ef_12 hK hP 24 rfl rfl 15 (by decide) kk_1116 rfl dd_X12_moveAll_112 ?_
  refine lv_iload_n hx hb dd_X12_moveAll_115 rfl (lv_at hl 0 rfl) ?_
  refine lv_iload_n hx hb dd_X12_moveAll_116 rfl (lv_at hl 2 rfl) ?_
  refine hk_i (wr := [(q 19, .inl (cy 0, 12, .inl (fun _ => 0))), (q 20, .inl (cy 0, 12, .inl (fun _ => 0))), (q 21, .inl (cy 0, 12, .inl (fun _ => 0))), (q 22, .inl (cy 0, 12, .inl (fun _ => 0))), (q 23, .inl (cy 0, 12, .inl (fun _ => 0))), (q 25, .inl (cy 0, 5, .inl (fun _ => 0))), (q 27, .inl (cy 0, 20, .inl (fun _ => 0))), (q 28, .inl (cy 0, 20, .inl (fun _ => 0))), (q 29, .inl (cy 0, 20, .inl (fun _ => 0))), (q 30, .inl (cy 0, 20, .inl (fun _ => 0))), (q 32, .inl (cy 0, 10, .inl (fun _ => 0))), (q 33, .inl (cy 0, 10, .inl (fun _ => 0))), (q 34, .inl (cy 0, 16, .inl (fun _ => 0))), (q 35, .inl (cy 0, 4, .inl (hours0))), (q 39, .inl (cy 0, 7, .inl (fun _ => 0))), (q 4, .inl (cy 0, 30, .inl (fun _ => 0))), (q 5, .inl (cy 0, 30, .inl (fun _ => 0))), (q 6, .inl (cy 0, 30, .inl (fun _ => 0))), (q 7, .inl (cy 0, 30, .inl (fun _ => 0))), (q 8, .inl (cy 0, 30, .inl (fun _ => 0))), (q 9, .inl (cy 0, 30, .inl (fun _ => 0))), (q 11, .inl (cy 0, 5, .inl (fun _ => 0))), (q 12, .inl (cy 0, 5, .inl (fun _ => 0))), (q 13, .inl (cy 0, 5, .inl (fun _ => 0)))]) (c1 := 0) (s1 := 0) [24, 0, 26] [1, 2, 3, 4, 5, 6, 7, 8, 9, 10, 11, 12, 13, 14, 15, 16, 17, 18, 19, 20, 21, 22, 23, 25] (hc_V [.ref (q 15), .int 202, .int 1] [] [24, 0, 26] Sx hl.1 ws_M_302 md_X12_move (c_M_move l D cy q (q 15) 202 30 (fun _ => 0) u38 (by decide)) ⟨Nat.le_of_ble_eq_true rfl, Nat.le_of_ble_eq_true rfl⟩ hP hD rfl (by decide) hK nx_b (nx_w hX) (va_recv hK hP (ci := 12) (q0 := 24) rfl rfl) rfl rfl (Nat.le_of_ble_eq_true rfl) dd_X12_moveAll_117 ⟨Nat.le_of_ble_eq_true rfl, Nat.le_of_ble_eq_true rfl⟩) hS hA hP hD rfl rfl (by decide) (by decide) rfl rfl (fun r41 u42 H locs hw43 hP hD hS => ?_)
  have hP : va_P D cls [(q 19, .inl (cy 0, 12, .inl (fun _ => 0))), (q 20, .inl (cy 0, 12, .inl (fun _ => 0))), (q 21, .inl (cy 0, 12, .inl (fun _ => 0))), (q 22, .inl (cy 0, 12, .inl (fun _ => 0))), (q 23, .inl (cy 0, 12, .inl (fun _ => 0))), (q 25, .inl (cy 0, 5, .inl (fun _ => 0))), (q 27, .inl (cy 0, 20, .inl (fun _ => 0))), (q 28, .inl (cy 0, 20, .inl (fun _ => 0))), (q 29, .inl (cy 0, 20, .inl (fun _ => 0))), (q 30, .inl (cy 0, 20, .inl (fun _ => 0))), (q 32, .inl (cy 0, 10, .inl (fun _ => 0))), (q 33, .inl (cy 0, 10, .inl (fun _ => 0))), (q 34, .inl (cy 0, 16, .inl (fun _ => 0))), (q 35, .inl (cy 0, 4, .inl (hours0))), (q 39, .inl (cy 0, 7, .inl (fun _ => 0))), (q 4, .inl (cy 0, 30, .inl (fun _ => 0))), (q 5, .inl (cy 0, 30, .inl (fun _ => 0))), (q 6, .inl (cy 0, 30, .inl (fun _ => 0))), (q 7, .inl (cy 0, 30, .inl (fun _ => 0))), (q 8, .inl (cy 0, 30, .inl (fun _ => 0))), (q 9, .inl (cy 0, 30, .inl (fun _ => 0))), (q 11, .inl (cy 0, 5, .inl (fun _ => 0))), (q 12, .inl (cy 0, 5, .inl (fun _ => 0))), (q 13, .inl (cy 0, 5, .inl (fun _ => 0))), (q 60, .inr (12, fM q)), (q 15, .inl (cy 0, 30, .inl (fun _ => 0))), (q 38, .inl (cy 0, 460, .inl (u42)))] H := hP
  have hD : va_D A [(q 19, .inl (cy 0, 12, .inl (fun _ => 0))), (q 20, .inl (cy 0, 12, .inl (fun _ => 0))), (q 21, .inl (cy 0, 12, .inl (fun _ => 0))), (q 22, .inl (cy 0, 12, .inl (fun _ => 0))), (q 23, .inl (cy 0, 12, .inl (fun _ => 0))), (q 25, .inl (cy 0, 5, .inl (fun _ => 0))), (q 27, .inl (cy 0, 20, .inl (fun _ => 0))), (q 28, .inl (cy 0, 20, .inl (fun _ => 0))), (q 29, .inl (cy 0, 20, .inl (fun _ => 0))), (q 30, .inl (cy 0, 20, .inl (fun _ => 0))), (q 32, .inl (cy 0, 10, .inl (fun _ => 0))), (q 33, .inl (cy 0, 10, .inl (fun _ => 0))), (q 34, .inl (cy 0, 16, .inl (fun _ => 0))), (q 35, .inl (cy 0, 4, .inl (hours0))), (q 39, .inl (cy 0, 7, .inl (fun _ => 0))), (q 4, .inl (cy 0, 30, .inl (fun _ => 0))), (q 5, .inl (cy 0, 30, .inl (fun _ => 0))), (q 6, .inl (cy 0, 30, .inl (fun _ => 0))), (q 7, .inl (cy 0, 30, .inl (fun _ => 0))), (q 8, .inl (cy 0, 30, .inl (fun _ => 0))), (q 9, .inl (cy 0, 30, .inl (fun _ => 0))), (q 11, .inl (cy 0, 5, .inl (fun _ => 0))), (q 12, .inl (cy 0, 5, .inl (fun _ => 0))), (q 13, .inl (cy 0, 5, .inl (fun _ => 0))), (q 60, .inr (12, fM q)), (q 15, .inl (cy 0, 30, .inl (fun _ => 0))), (q 38, .inl (cy 0, 460, .inl (u42)))] := hD
  have hl44 : Int32.toInt 202 = 202 := rfl
  obtain rfl : r41 = 232 := ci_of (b := 232) rfl (by omega)
  refine lv_istore_n (lv' := [(2, .int 232), (0, .ref (q 60)), (1, .int 1)]) hx hb dd_X12_moveAll_120 rfl hl (by decide) rfl (fun ls hl => ?_)
  refine lv_aload_n hx hb dd_X12_moveAll_121 rfl (lv_at hl 1 rfl) ?_
  refine lv_aload_n hx hb dd_X12_moveAll_122 rfl (lv_at hl 1 rfl) ?_
  refine wk_get (v := .ref (q 19)) Sx ef_12 hK hP 24 rfl rfl 19 (by decide) kk_1120 rfl dd_X12_moveAll_123 ?_
  refine lv_iload_n hx hb dd_X12_moveAll_126 rfl (lv_at hl 0 rfl) ?_
  refine lv_iload_n hx hb dd_X12_moveAll_127 rfl (lv_at hl 2 rfl) ?_
  refine hk_i (wr := [(q 20, .inl (cy 0, 12, .inl (fun _ => 0))), (q 21, .inl (cy 0, 12, .inl (fun _ => 0))), (q 22, .inl (cy 0, 12, .inl (fun _ => 0))), (q 23, .inl (cy 0, 12, .inl (fun _ => 0))), (q 25, .inl (cy 0, 5, .inl (fun _ => 0))), (q 27, .inl (cy 0, 20, .inl (fun _ => 0))), (q 28, .inl (cy 0, 20, .inl (fun _ => 0))), (q 29, .inl (cy 0, 20, .inl (fun _ => 0))), (q 30, .inl (cy 0, 20, .inl (fun _ => 0))), (q 32, .inl (cy 0, 10, .inl (fun _ => 0))), (q 33, .inl (cy 0, 10, .inl (fun _ => 0))), (q 34, .inl (cy 0, 16, .inl (fun _ => 0))), (q 35, .inl (cy 0, 4, .inl (hours0))), (q 39, .inl (cy 0, 7, .inl (fun _ => 0))), (q 4, .inl (cy 0, 30, .inl (fun _ => 0))), (q 5, .inl (cy 0, 30, .inl (fun _ => 0))), (q 6, .inl (cy 0, 30, .inl (fun _ => 0))), (q 7, .inl (cy 0, 30, .inl (fun _ => 0))), (q 8, .inl (cy 0, 30, .inl (fun _ => 0))), (q 9, .inl (cy 0, 30, .inl (fun _ => 0))), (q 11, .inl (cy 0, 5, .inl (fun _ => 0))), (q 12, .inl (cy 0, 5, .inl (fun _ => 0))), (q 13, .inl (cy 0, 5, .inl (fun _ => 0))), (q 15, .inl (cy 0, 30, .inl (fun _ => 0)))]) (c1 := 0) (s1 := 0) [24, 0, 26] [1, 2, 3, 4, 5, 6, 7, 8, 9, 10, 11, 12, 13, 14, 15, 16, 17, 18, 19, 20, 21, 22, 23, 25] (hc_V [.ref (q 19), .int 232, .int 1] [] [24, 0, 26] Sx hl.1 ws_M_302 md_X12_move (c_M_move l D cy q (q 19) 232 12 (fun _ => 0) u42 (by decide)) ⟨Nat.le_of_ble_eq_true rfl, Nat.le_of_ble_eq_true rfl⟩ hP hD rfl (by decide) hK nx_b (nx_w hX) (va_recv hK hP (ci := 12) (q0 := 24) rfl rfl) rfl rfl (Nat.le_of_ble_eq_true rfl) dd_X12_moveAll_128 ⟨Nat.le_of_ble_eq_true rfl, Nat.le_of_ble_eq_true rfl⟩) hS hA hP hD rfl rfl (by decide) (by decide) rfl rfl (fun r45 u46 H locs hw47 hP hD hS => ?_)
  have hP : va_P D cls [(q 20, .inl (cy 0, 12, .inl (fun _ => 0))), (q 21, .inl (cy 0, 12, .inl (fun _ => 0))), (q 22, .inl (cy 0, 12, .inl (fun _ => 0))), (q 23, .inl (cy 0, 12, .inl (fun _ => 0))), (q 25, .inl (cy 0, 5, .inl (fun _ => 0))), (q 27, .inl (cy 0, 20, .inl (fun _ => 0))), (q 28, .inl (cy 0, 20, .inl (fun _ => 0))), (q 29, .inl (cy 0, 20, .inl (fun _ => 0))), (q 30, .inl (cy 0, 20, .inl (fun _ => 0))), (q 32, .inl (cy 0, 10, .inl (fun _ => 0))), (q 33, .inl (cy 0, 10, .inl (fun _ => 0))), (q 34, .inl (cy 0, 16, .inl (fun _ => 0))), (q 35, .inl (cy 0, 4, .inl (hours0))), (q 39, .inl (cy 0, 7, .inl (fun _ => 0))), (q 4, .inl (cy 0, 30, .inl (fun _ => 0))), (q 5, .inl (cy 0, 30, .inl (fun _ => 0))), (q 6, .inl (cy 0, 30, .inl (fun _ => 0))), (q 7, .inl (cy 0, 30, .inl (fun _ => 0))), (q 8, .inl (cy 0, 30, .inl (fun _ => 0))), (q 9, .inl (cy 0, 30, .inl (fun _ => 0))), (q 11, .inl (cy 0, 5, .inl (fun _ => 0))), (q 12, .inl (cy 0, 5, .inl (fun _ => 0))), (q 13, .inl (cy 0, 5, .inl (fun _ => 0))), (q 15, .inl (cy 0, 30, .inl (fun _ => 0))), (q 60, .inr (12, fM q)), (q 19, .inl (cy 0, 12, .inl (fun _ => 0))), (q 38, .inl (cy 0, 460, .inl (u46)))] H := hP
  have hD : va_D A [(q 20, .inl (cy 0, 12, .inl (fun _ => 0))), (q 21, .inl (cy 0, 12, .inl (fun _ => 0))), (q 22, .inl (cy 0, 12, .inl (fun _ => 0))), (q 23, .inl (cy 0, 12, .inl (fun _ => 0))), (q 25, .inl (cy 0, 5, .inl (fun _ => 0))), (q 27, .inl (cy 0, 20, .inl (fun _ => 0))), (q 28, .inl (cy 0, 20, .inl (fun _ => 0))), (q 29, .inl (cy 0, 20, .inl (fun _ => 0))), (q 30, .inl (cy 0, 20, .inl (fun _ => 0))), (q 32, .inl (cy 0, 10, .inl (fun _ => 0))), (q 33, .inl (cy 0, 10, .inl (fun _ => 0))), (q 34, .inl (cy 0, 16, .inl (fun _ => 0))), (q 35, .inl (cy 0, 4, .inl (hours0))), (q 39, .inl (cy 0, 7, .inl (fun _ => 0))), (q 4, .inl (cy 0, 30, .inl (fun _ => 0))), (q 5, .inl (cy 0, 30, .inl (fun _ => 0))), (q 6, .inl (cy 0, 30, .inl (fun _ => 0))), (q 7, .inl (cy 0, 30, .inl (fun _ => 0))), (q 8, .inl (cy 0, 30, .inl (fun _ => 0))), (q 9, .inl (cy 0, 30, .inl (fun _ => 0))), (q 11, .inl (cy 0, 5, .inl (fun _ => 0))), (q 12, .inl (cy 0, 5, .inl (fun _ => 0))), (q 13, .inl (cy 0, 5, .inl (fun _ => 0))), (q 15, .inl (cy 0, 30, .inl (fun _ => 0))), (q 60, .inr (12, fM q)), (q 19, .inl (cy 0, 12, .inl (fun _ => 0))), (q 38, .inl (cy 0, 460, .inl (u46)))] := hD
  have hl48 : Int32.toInt 232 = 232 := rfl
  obtain rfl : r45 = 244 := ci_of (b := 244) rfl (by omega)
  refine lv_istore_n (lv' := [(2, .int 244), (0, .ref (q 60)), (1, .int 1)]) hx hb dd_X12_moveAll_131 rfl hl (by decide) rfl (fun ls hl => ?_)
  refine lv_aload_n hx hb dd_X12_moveAll_132 rfl (lv_at hl 1 rfl) ?_
  refine lv_aload_n hx hb dd_X12_moveAll_133 rfl (lv_at hl 1 rfl) ?_
  refine wk_get (v := .ref (q 20)) Sx ef_12 hK hP 24 rfl rfl 20 (by decide) kk_1121 rfl dd_X12_moveAll_134 ?_
  refine lv_iload_n hx hb dd_X12_moveAll_137 rfl (lv_at hl 0 rfl) ?_
  refine lv_iload_n hx hb dd_X12_moveAll_138 rfl (lv_at hl 2 rfl) ?_
  refine hk_i (wr := [(q 21, .inl (cy 0, 12, .inl (fun _ => 0))), (q 22, .inl (cy 0, 12, .inl (fun _ => 0))), (q 23, .inl (cy 0, 12, .inl (fun _ => 0))), (q 25, .inl (cy 0, 5, .inl (fun _ => 0))), (q 27, .inl (cy 0, 20, .inl (fun _ => 0))), (q 28, .inl (cy 0, 20, .inl (fun _ => 0))), (q 29, .inl (cy 0, 20, .inl (fun _ => 0))), (q 30, .inl (cy 0, 20, .inl (fun _ => 0))), (q 32, .inl (cy 0, 10, .inl (fun _ => 0))), (q 33, .inl (cy 0, 10, .inl (fun _ => 0))), (q 34, .inl (cy 0, 16, .inl (fun _ => 0))), (q 35, .inl (cy 0, 4, .inl (hours0))), (q 39, .inl (cy 0, 7, .inl (fun _ => 0))), (q 4, .inl (cy 0, 30, .inl (fun _ => 0))), (q 5, .inl (cy 0, 30, .inl (fun _ => 0))), (q 6, .inl (cy 0, 30, .inl (fun _ => 0))), (q 7, .inl (cy 0, 30, .inl (fun _ => 0))), (q 8, .inl (cy 0, 30, .inl (fun _ => 0))), (q 9, .inl (cy 0, 30, .inl (fun _ => 0))), (q 11, .inl (cy 0, 5, .inl (fun _ => 0))), (q 12, .inl (cy 0, 5, .inl (fun _ => 0))), (q 13, .inl (cy 0, 5, .inl (fun _ => 0))), (q 15, .inl (cy 0, 30, .inl (fun _ => 0))), (q 19, .inl (cy 0, 12, .inl (fun _ => 0)))]) (c1 := 0) (s1 := 0) [24, 0, 26] [1, 2, 3, 4, 5, 6, 7, 8, 9, 10, 11, 12, 13, 14, 15, 16, 17, 18, 19, 20, 21, 22, 23, 25] (hc_V [.ref (q 20), .int 244, .int 1] [] [24, 0, 26] Sx hl.1 ws_M_302 md_X12_move (c_M_move l D cy q (q 20) 244 12 (fun _ => 0) u46 (by decide)) ⟨Nat.le_of_ble_eq_true rfl, Nat.le_of_ble_eq_true rfl⟩ hP hD rfl (by decide) hK nx_b (nx_w hX) (va_recv hK hP (ci := 12) (q0 := 24) rfl rfl) rfl rfl (Nat.le_of_ble_eq_true rfl) dd_X12_moveAll_139 ⟨Nat.le_of_ble_eq_true rfl, Nat.le_of_ble_eq_true rfl⟩) hS hA hP hD rfl rfl (by decide) (by decide) rfl rfl (fun r49 u50 H locs hw51 hP hD hS => ?_)
  have hP : va_P D cls [(q 21, .inl (cy 0, 12, .inl (fun _ => 0))), (q 22, .inl (cy 0, 12, .inl (fun _ => 0))), (q 23, .inl (cy 0, 12, .inl (fun _ => 0))), (q 25, .inl (cy 0, 5, .inl (fun _ => 0))), (q 27, .inl (cy 0, 20, .inl (fun _ => 0))), (q 28, .inl (cy 0, 20, .inl (fun _ => 0))), (q 29, .inl (cy 0, 20, .inl (fun _ => 0))), (q 30, .inl (cy 0, 20, .inl (fun _ => 0))), (q 32, .inl (cy 0, 10, .inl (fun _ => 0))), (q 33, .inl (cy 0, 10, .inl (fun _ => 0))), (q 34, .inl (cy 0, 16, .inl (fun _ => 0))), (q 35, .inl (cy 0, 4, .inl (hours0))), (q 39, .inl (cy 0, 7, .inl (fun _ => 0))), (q 4, .inl (cy 0, 30, .inl (fun _ => 0))), (q 5, .inl (cy 0, 30, .inl (fun _ => 0))), (q 6, .inl (cy 0, 30, .inl (fun _ => 0))), (q 7, .inl (cy 0, 30, .inl (fun _ => 0))), (q 8, .inl (cy 0, 30, .inl (fun _ => 0))), (q 9, .inl (cy 0, 30, .inl (fun _ => 0))), (q 11, .inl (cy 0, 5, .inl (fun _ => 0))), (q 12, .inl (cy 0, 5, .inl (fun _ => 0))), (q 13, .inl (cy 0, 5, .inl (fun _ => 0))), (q 15, .inl (cy 0, 30, .inl (fun _ => 0))), (q 19, .inl (cy 0, 12, .inl (fun _ => 0))), (q 60, .inr (12, fM q)), (q 20, .inl (cy 0, 12, .inl (fun _ => 0))), (q 38, .inl (cy 0, 460, .inl (u50)))] H := hP
  have hD : va_D A [(q 21, .inl (cy 0, 12, .inl (fun _ => 0))), (q 22, .inl (cy 0, 12, .inl (fun _ => 0))), (q 23, .inl (cy 0, 12, .inl (fun _ => 0))), (q 25, .inl (cy 0, 5, .inl (fun _ => 0))), (q 27, .inl (cy 0, 20, .inl (fun _ => 0))), (q 28, .inl (cy 0, 20, .inl (fun _ => 0))), (q 29, .inl (cy 0, 20, .inl (fun _ => 0))), (q 30, .inl (cy 0, 20, .inl (fun _ => 0))), (q 32, .inl (cy 0, 10, .inl (fun _ => 0))), (q 33, .inl (cy 0, 10, .inl (fun _ => 0))), (q 34, .inl (cy 0, 16, .inl (fun _ => 0))), (q 35, .inl (cy 0, 4, .inl (hours0))), (q 39, .inl (cy 0, 7, .inl (fun _ => 0))), (q 4, .inl (cy 0, 30, .inl (fun _ => 0))), (q 5, .inl (cy 0, 30, .inl (fun _ => 0))), (q 6, .inl (cy 0, 30, .inl (fun _ => 0))), (q 7, .inl (cy 0, 30, .inl (fun _ => 0))), (q 8, .inl (cy 0, 30, .inl (fun _ => 0))), (q 9, .inl (cy 0, 30, .inl (fun _ => 0))), (q 11, .inl (cy 0, 5, .inl (fun _ => 0))), (q 12, .inl (cy 0, 5, .inl (fun _ => 0))), (q 13, .inl (cy 0, 5, .inl (fun _ => 0))), (q 15, .inl (cy 0, 30, .inl (fun _ => 0))), (q 19, .inl (cy 0, 12, .inl (fun _ => 0))), (q 60, .inr (12, fM q)), (q 20, .inl (cy 0, 12, .inl (fun _ => 0))), (q 38, .inl (cy 0, 460, .inl (u50)))] := hD
  have hl52 : Int32.toInt 244 = 244 := rfl
  obtain rfl : r49 = 256 := ci_of (b := 256) rfl (by omega)
  refine lv_istore_n (lv' := [(2, .int 256), (0, .ref (q 60)), (1, .int 1)]) hx hb dd_X12_moveAll_142 rfl hl (by decide) rfl (fun ls hl => ?_)
  refine lv_aload_n hx hb dd_X12_moveAll_143 rfl (lv_at hl 1 rfl) ?_
  refine lv_aload_n hx hb dd_X12_moveAll_144 rfl (lv_at hl 1 rfl) ?_
  refine wk_get (v := .ref (q 21)) Sx ef_12 hK hP 24 rfl rfl 21 (by decide) kk_1122 rfl dd_X12_moveAll_145 ?_
  refine lv_iload_n hx hb dd_X12_moveAll_148 rfl (lv_at hl 0 rfl) ?_
  refine lv_iload_n hx hb dd_X12_moveAll_149 rfl (lv_at hl 2 rfl) ?_
  refine hk_i (wr := [(q 22, .inl (cy 0, 12, .inl (fun _ => 0))), (q 23, .inl (cy 0, 12, .inl (fun _ => 0))), (q 25, .inl (cy 0, 5, .inl (fun _ => 0))), (q 27, .inl (cy 0, 20, .inl (fun _ => 0))), (q 28, .inl (cy 0, 20, .inl (fun _ => 0))), (q 29, .inl (cy 0, 20, .inl (fun _ => 0))), (q 30, .inl (cy 0, 20, .inl (fun _ => 0))), (q 32, .inl (cy 0, 10, .inl (fun _ => 0))), (q 33, .inl (cy 0, 10, .inl (fun _ => 0))), (q 34, .inl (cy 0, 16, .inl (fun _ => 0))), (q 35, .inl (cy 0, 4, .inl (hours0))), (q 39, .inl (cy 0, 7, .inl (fun _ => 0))), (q 4, .inl (cy 0, 30, .inl (fun _ => 0))), (q 5, .inl (cy 0, 30, .inl (fun _ => 0))), (q 6, .inl (cy 0, 30, .inl (fun _ => 0))), (q 7, .inl (cy 0, 30, .inl (fun _ => 0))), (q 8, .inl (cy 0, 30, .inl (fun _ => 0))), (q 9, .inl (cy 0, 30, .inl (fun _ => 0))), (q 11, .inl (cy 0, 5, .inl (fun _ => 0))), (q 12, .inl (cy 0, 5, .inl (fun _ => 0))), (q 13, .inl (cy 0, 5, .inl (fun _ => 0))), (q 15, .inl (cy 0, 30, .inl (fun _ => 0))), (q 19, .inl (cy 0, 12, .inl (fun _ => 0))), (q 20, .inl (cy 0, 12, .inl (fun _ => 0)))]) (c1 := 0) (s1 := 0) [24, 0, 26] [1, 2, 3, 4, 5, 6, 7, 8, 9, 10, 11, 12, 13, 14, 15, 16, 17, 18, 19, 20, 21, 22, 23, 25] (hc_V [.ref (q 21), .int 256, .int 1] [] [24, 0, 26] Sx hl.1 ws_M_302 md_X12_move (c_M_move l D cy q (q 21) 256 12 (fun _ => 0) u50 (by decide)) ⟨Nat.le_of_ble_eq_true rfl, Nat.le_of_ble_eq_true rfl⟩ hP hD rfl (by decide) hK nx_b (nx_w hX) (va_recv hK hP (ci := 12) (q0 := 24) rfl rfl) rfl rfl (Nat.le_of_ble_eq_true rfl) dd_X12_moveAll_150 ⟨Nat.le_of_ble_eq_true rfl, Nat.le_of_ble_eq_true rfl⟩) hS hA hP hD rfl rfl (by decide) (by decide) rfl rfl (fun r53 u54 H locs hw55 hP hD hS => ?_)
  have hP : va_P D cls [(q 22, .inl (cy 0, 12, .inl (fun _ => 0))), (q 23, .inl (cy 0, 12, .inl (fun _ => 0))), (q 25, .inl (cy 0, 5, .inl (fun _ => 0))), (q 27, .inl (cy 0, 20, .inl (fun _ => 0))), (q 28, .inl (cy 0, 20, .inl (fun _ => 0))), (q 29, .inl (cy 0, 20, .inl (fun _ => 0))), (q 30, .inl (cy 0, 20, .inl (fun _ => 0))), (q 32, .inl (cy 0, 10, .inl (fun _ => 0))), (q 33, .inl (cy 0, 10, .inl (fun _ => 0))), (q 34, .inl (cy 0, 16, .inl (fun _ => 0))), (q 35, .inl (cy 0, 4, .inl (hours0))), (q 39, .inl (cy 0, 7, .inl (fun _ => 0))), (q 4, .inl (cy 0, 30, .inl (fun _ => 0))), (q 5, .inl (cy 0, 30, .inl (fun _ => 0))), (q 6, .inl (cy 0, 30, .inl (fun _ => 0))), (q 7, .inl (cy 0, 30, .inl (fun _ => 0))), (q 8, .inl (cy 0, 30, .inl (fun _ => 0))), (q 9, .inl (cy 0, 30, .inl (fun _ => 0))), (q 11, .inl (cy 0, 5, .inl (fun _ => 0))), (q 12, .inl (cy 0, 5, .inl (fun _ => 0))), (q 13, .inl (cy 0, 5, .inl (fun _ => 0))), (q 15, .inl (cy 0, 30, .inl (fun _ => 0))), (q 19, .inl (cy 0, 12, .inl (fun _ => 0))), (q 20, .inl (cy 0, 12, .inl (fun _ => 0))), (q 60, .inr (12, fM q)), (q 21, .inl (cy 0, 12, .inl (fun _ => 0))), (q 38, .inl (cy 0, 460, .inl (u54)))] H := hP
  have hD : va_D A [(q 22, .inl (cy 0, 12, .inl (fun _ => 0))), (q 23, .inl (cy 0, 12, .inl (fun _ => 0))), (q 25, .inl (cy 0, 5, .inl (fun _ => 0))), (q 27, .inl (cy 0, 20, .inl (fun _ => 0))), (q 28, .inl (cy 0, 20, .inl (fun _ => 0))), (q 29, .inl (cy 0, 20, .inl (fun _ => 0))), (q 30, .inl (cy 0, 20, .inl (fun _ => 0))), (q 32, .inl (cy 0, 10, .inl (fun _ => 0))), (q 33, .inl (cy 0, 10, .inl (fun _ => 0))), (q 34, .inl (cy 0, 16, .inl (fun _ => 0))), (q 35, .inl (cy 0, 4, .inl (hours0))), (q 39, .inl (cy 0, 7, .inl (fun _ => 0))), (q 4, .inl (cy 0, 30, .inl (fun _ => 0))), (q 5, .inl (cy 0, 30, .inl (fun _ => 0))), (q 6, .inl (cy 0, 30, .inl (fun _ => 0))), (q 7, .inl (cy 0, 30, .inl (fun _ => 0))), (q 8, .inl (cy 0, 30, .inl (fun _ => 0))), (q 9, .inl (cy 0, 30, .inl (fun _ => 0))), (q 11, .inl (cy 0, 5, .inl (fun _ => 0))), (q 12, .inl (cy 0, 5, .inl (fun _ => 0))), (q 13, .inl (cy 0, 5, .inl (fun _ => 0))), (q 15, .inl (cy 0, 30, .inl (fun _ => 0))), (q 19, .inl (cy 0, 12, .inl (fun _ => 0))), (q 20, .inl (cy 0, 12, .inl (fun _ => 0))), (q 60, .inr (12, fM q)), (q 21, .inl (cy 0, 12, .inl (fun _ => 0))), (q 38, .inl (cy 0, 460, .inl (u54)))] := hD
  have hl56 : Int32.toInt 256 = 256 := rfl
  obtain rfl : r53 = 268 := ci_of (b := 268) rfl (by omega)
  refine lv_istore_n (lv' := [(2, .int 268), (0, .ref (q 60)), (1, .int 1)]) hx hb dd_X12_moveAll_153 rfl hl (by decide) rfl (fun ls hl => ?_)
  refine lv_aload_n hx hb dd_X12_moveAll_154 rfl (lv_at hl 1 rfl) ?_
  refine lv_aload_n hx hb dd_X12_moveAll_155 rfl (lv_at hl 1 rfl) ?_
  refine wk_get (v := .ref (q 22)) Sx ef_12 hK hP 24 rfl rfl 22 (by decide) kk_1123 rfl dd_X12_moveAll_156 ?_
  refine lv_iload_n hx hb dd_X12_moveAll_159 rfl (lv_at hl 0 rfl) ?_
  refine lv_iload_n hx hb dd_X12_moveAll_160 rfl (lv_at hl 2 rfl) ?_
  refine hk_i (wr := [(q 23, .inl (cy 0, 12, .inl (fun _ => 0))), (q 25, .inl (cy 0, 5, .inl (fun _ => 0))), (q 27, .inl (cy 0, 20, .inl (fun _ => 0))), (q 28, .inl (cy 0, 20, .inl (fun _ => 0))), (q 29, .inl (cy 0, 20, .inl (fun _ => 0))), (q 30, .inl (cy 0, 20, .inl (fun _ => 0))), (q 32, .inl (cy 0, 10, .inl (fun _ => 0))), (q 33, .inl (cy 0, 10, .inl (fun _ => 0))), (q 34, .inl (cy 0, 16, .inl (fun _ => 0))), (q 35, .inl (cy 0, 4, .inl (hours0))), (q 39, .inl (cy 0, 7, .inl (fun _ => 0))), (q 4, .inl (cy 0, 30, .inl (fun _ => 0))), (q 5, .inl (cy 0, 30, .inl (fun _ => 0))), (q 6, .inl (cy 0, 30, .inl (fun _ => 0))), (q 7, .inl (cy 0, 30, .inl (fun _ => 0))), (q 8, .inl (cy 0, 30, .inl (fun _ => 0))), (q 9, .inl (cy 0, 30, .inl (fun _ => 0))), (q 11, .inl (cy 0, 5, .inl (fun _ => 0))), (q 12, .inl (cy 0, 5, .inl (fun _ => 0))), (q 13, .inl (cy 0, 5, .inl (fun _ => 0))), (q 15, .inl (cy 0, 30, .inl (fun _ => 0))), (q 19, .inl (cy 0, 12, .inl (fun _ => 0))), (q 20, .inl (cy 0, 12, .inl (fun _ => 0))), (q 21, .inl (cy 0, 12, .inl (fun _ => 0)))]) (c1 := 0) (s1 := 0) [24, 0, 26] [1, 2, 3, 4, 5, 6, 7, 8, 9, 10, 11, 12, 13, 14, 15, 16, 17, 18, 19, 20, 21, 22, 23, 25] (hc_V [.ref (q 22), .int 268, .int 1] [] [24, 0, 26] Sx hl.1 ws_M_302 md_X12_move (c_M_move l D cy q (q 22) 268 12 (fun _ => 0) u54 (by decide)) ⟨Nat.le_of_ble_eq_true rfl, Nat.le_of_ble_eq_true rfl⟩ hP hD rfl (by decide) hK nx_b (nx_w hX) (va_recv hK hP (ci := 12) (q0 := 24) rfl rfl) rfl rfl (Nat.le_of_ble_eq_true rfl) dd_X12_moveAll_161 ⟨Nat.le_of_ble_eq_true rfl, Nat.le_of_ble_eq_true rfl⟩) hS hA hP hD rfl rfl (by decide) (by decide) rfl rfl (fun r57 u58 H locs hw59 hP hD hS => ?_)
  have hP : va_P D cls [(q 23, .inl (cy 0, 12, .inl (fun _ => 0))), (q 25, .inl (cy 0, 5, .inl (fun _ => 0))), (q 27, .inl (cy 0, 20, .inl (fun _ => 0))), (q 28, .inl (cy 0, 20, .inl (fun _ => 0))), (q 29, .inl (cy 0, 20, .inl (fun _ => 0))), (q 30, .inl (cy 0, 20, .inl (fun _ => 0))), (q 32, .inl (cy 0, 10, .inl (fun _ => 0))), (q 33, .inl (cy 0, 10, .inl (fun _ => 0))), (q 34, .inl (cy 0, 16, .inl (fun _ => 0))), (q 35, .inl (cy 0, 4, .inl (hours0))), (q 39, .inl (cy 0, 7, .inl (fun _ => 0))), (q 4, .inl (cy 0, 30, .inl (fun _ => 0))), (q 5, .inl (cy 0, 30, .inl (fun _ => 0))), (q 6, .inl (cy 0, 30, .inl (fun _ => 0))), (q 7, .inl (cy 0, 30, .inl (fun _ => 0))), (q 8, .inl (cy 0, 30, .inl (fun _ => 0))), (q 9, .inl (cy 0, 30, .inl (fun _ => 0))), (q 11, .inl (cy 0, 5, .inl (fun _ => 0))), (q 12, .inl (cy 0, 5, .inl (fun _ => 0))), (q 13, .inl (cy 0, 5, .inl (fun _ => 0))), (q 15, .inl (cy 0, 30, .inl (fun _ => 0))), (q 19, .inl (cy 0, 12, .inl (fun _ => 0))), (q 20, .inl (cy 0, 12, .inl (fun _ => 0))), (q 21, .inl (cy 0, 12, .inl (fun _ => 0))), (q 60, .inr (12, fM q)), (q 22, .inl (cy 0, 12, .inl (fun _ => 0))), (q 38, .inl (cy 0, 460, .inl (u58)))] H := hP
  have hD : va_D A [(q 23, .inl (cy 0, 12, .inl (fun _ => 0))), (q 25, .inl (cy 0, 5, .inl (fun _ => 0))), (q 27, .inl (cy 0, 20, .inl (fun _ => 0))), (q 28, .inl (cy 0, 20, .inl (fun _ => 0))), (q 29, .inl (cy 0, 20, .inl (fun _ => 0))), (q 30, .inl (cy 0, 20, .inl (fun _ => 0))), (q 32, .inl (cy 0, 10, .inl (fun _ => 0))), (q 33, .inl (cy 0, 10, .inl (fun _ => 0))), (q 34, .inl (cy 0, 16, .inl (fun _ => 0))), (q 35, .inl (cy 0, 4, .inl (hours0))), (q 39, .inl (cy 0, 7, .inl (fun _ => 0))), (q 4, .inl (cy 0, 30, .inl (fun _ => 0))), (q 5, .inl (cy 0, 30, .inl (fun _ => 0))), (q 6, .inl (cy 0, 30, .inl (fun _ => 0))), (q 7, .inl (cy 0, 30, .inl (fun _ => 0))), (q 8, .inl (cy 0, 30, .inl (fun _ => 0))), (q 9, .inl (cy 0, 30, .inl (fun _ => 0))), (q 11, .inl (cy 0, 5, .inl (fun _ => 0))), (q 12, .inl (cy 0, 5, .inl (fun _ => 0))), (q 13, .inl (cy 0, 5, .inl (fun _ => 0))), (q 15, .inl (cy 0, 30, .inl (fun _ => 0))), (q 19, .inl (cy 0, 12, .inl (fun _ => 0))), (q 20, .inl (cy 0, 12, .inl (fun _ => 0))), (q 21, .inl (cy 0, 12, .inl (fun _ => 0))), (q 60, .inr (12, fM q)), (q 22, .inl (cy 0, 12, .inl (fun _ => 0))), (q 38, .inl (cy 0, 460, .inl (u58)))] := hD
  have hl60 : Int32.toInt 268 = 268 := rfl
  obtain rfl : r57 = 280 := ci_of (b := 280) rfl (by omega)
  refine lv_istore_n (lv' := [(2, .int 280), (0, .ref (q 60)), (1, .int 1)]) hx hb dd_X12_moveAll_164 rfl hl (by decide) rfl (fun ls hl => ?_)
  refine lv_aload_n hx hb dd_X12_moveAll_165 rfl (lv_at hl 1 rfl) ?_
  refine lv_aload_n hx hb dd_X12_moveAll_166 rfl (lv_at hl 1 rfl) ?_
  refine wk_get (v := .ref (q 23)) Sx ef_12 hK hP 24 rfl rfl 23 (by decide) kk_1124 rfl dd_X12_moveAll_167 ?_
  refine lv_iload_n hx hb dd_X12_moveAll_170 rfl (lv_at hl 0 rfl) ?_
  refine lv_iload_n hx hb dd_X12_moveAll_171 rfl (lv_at hl 2 rfl) ?_
  refine hk_i (wr := [(q 25, .inl (cy 0, 5, .inl (fun _ => 0))), (q 27, .inl (cy 0, 20, .inl (fun _ => 0))), (q 28, .inl (cy 0, 20, .inl (fun _ => 0))), (q 29, .inl (cy 0, 20, .inl (fun _ => 0))), (q 30, .inl (cy 0, 20, .inl (fun _ => 0))), (q 32, .inl (cy 0, 10, .inl (fun _ => 0))), (q 33, .inl (cy 0, 10, .inl (fun _ => 0))), (q 34, .inl (cy 0, 16, .inl (fun _ => 0))), (q 35, .inl (cy 0, 4, .inl (hours0))), (q 39, .inl (cy 0, 7, .inl (fun _ => 0))), (q 4, .inl (cy 0, 30, .inl (fun _ => 0))), (q 5, .inl (cy 0, 30, .inl (fun _ => 0))), (q 6, .inl (cy 0, 30, .inl (fun _ => 0))), (q 7, .inl (cy 0, 30, .inl (fun _ => 0))), (q 8, .inl (cy 0, 30, .inl (fun _ => 0))), (q 9, .inl (cy 0, 30, .inl (fun _ => 0))), (q 11, .inl (cy 0, 5, .inl (fun _ => 0))), (q 12, .inl (cy 0, 5, .inl (fun _ => 0))), (q 13, .inl (cy 0, 5, .inl (fun _ => 0))), (q 15, .inl (cy 0, 30, .inl (fun _ => 0))), (q 19, .inl (cy 0, 12, .inl (fun _ => 0))), (q 20, .inl (cy 0, 12, .inl (fun _ => 0))), (q 21, .inl (cy 0, 12, .inl (fun _ => 0))), (q 22, .inl (cy 0, 12, .inl (fun _ => 0)))]) (c1 := 0) (s1 := 0) [24, 0, 26] [1, 2, 3, 4, 5, 6, 7, 8, 9, 10, 11, 12, 13, 14, 15, 16, 17, 18, 19, 20, 21, 22, 23, 25] (hc_V [.ref (q 23), .int 280, .int 1] [] [24, 0, 26] Sx hl.1 ws_M_302 md_X12_move (c_M_move l D cy q (q 23) 280 12 (fun _ => 0) u58 (by decide)) ⟨Nat.le_of_ble_eq_true rfl, Nat.le_of_ble_eq_true rfl⟩ hP hD rfl (by decide) hK nx_b (nx_w hX) (va_recv hK hP (ci := 12) (q0 := 24) rfl rfl) rfl rfl (Nat.le_of_ble_eq_true rfl) dd_X12_moveAll_172 ⟨Nat.le_of_ble_eq_true rfl, Nat.le_of_ble_eq_true rfl⟩) hS hA hP hD rfl rfl (by decide) (by decide) rfl rfl (fun r61 u62 H locs hw63 hP hD hS => ?_)
  have hP : va_P D cls [(q 25, .inl (cy 0, 5, .inl (fun _ => 0))), (q 27, .inl (cy 0, 20, .inl (fun _ => 0))), (q 28, .inl (cy 0, 20, .inl (fun _ => 0))), (q 29, .inl (cy 0, 20, .inl (fun _ => 0))), (q 30, .inl (cy 0, 20, .inl (fun _ => 0))), (q 32, .inl (cy 0, 10, .inl (fun _ => 0))), (q 33, .inl (cy 0, 10, .inl (fun _ => 0))), (q 34, .inl (cy 0, 16, .inl (fun _ => 0))), (q 35, .inl (cy 0, 4, .inl (hours0))), (q 39, .inl (cy 0, 7, .inl (fun _ => 0))), (q 4, .inl (cy 0, 30, .inl (fun _ => 0))), (q 5, .inl (cy 0, 30, .inl (fun _ => 0))), (q 6, .inl (cy 0, 30, .inl (fun _ => 0))), (q 7, .inl (cy 0, 30, .inl (fun _ => 0))), (q 8, .inl (cy 0, 30, .inl (fun _ => 0))), (q 9, .inl (cy 0, 30, .inl (fun _ => 0))), (q 11, .inl (cy 0, 5, .inl (fun _ => 0))), (q 12, .inl (cy 0, 5, .inl (fun _ => 0))), (q 13, .inl (cy 0, 5, .inl (fun _ => 0))), (q 15, .inl (cy 0, 30, .inl (fun _ => 0))), (q 19, .inl (cy 0, 12, .inl (fun _ => 0))), (q 20, .inl (cy 0, 12, .inl (fun _ => 0))), (q 21, .inl (cy 0, 12, .inl (fun _ => 0))), (q 22, .inl (cy 0, 12, .inl (fun _ => 0))), (q 60, .inr (12, fM q)), (q 23, .inl (cy 0, 12, .inl (fun _ => 0))), (q 38, .inl (cy 0, 460, .inl (u62)))] H := hP
  have hD : va_D A [(q 25, .inl (cy 0, 5, .inl (fun _ => 0))), (q 27, .inl (cy 0, 20, .inl (fun _ => 0))), (q 28, .inl (cy 0, 20, .inl (fun _ => 0))), (q 29, .inl (cy 0, 20, .inl (fun _ => 0))), (q 30, .inl (cy 0, 20, .inl (fun _ => 0))), (q 32, .inl (cy 0, 10, .inl (fun _ => 0))), (q 33, .inl (cy 0, 10, .inl (fun _ => 0))), (q 34, .inl (cy 0, 16, .inl (fun _ => 0))), (q 35, .inl (cy 0, 4, .inl (hours0))), (q 39, .inl (cy 0, 7, .inl (fun _ => 0))), (q 4, .inl (cy 0, 30, .inl (fun _ => 0))), (q 5, .inl (cy 0, 30, .inl (fun _ => 0))), (q 6, .inl (cy 0, 30, .inl (fun _ => 0))), (q 7, .inl (cy 0, 30, .inl (fun _ => 0))), (q 8, .inl (cy 0, 30, .inl (fun _ => 0))), (q 9, .inl (cy 0, 30, .inl (fun _ => 0))), (q 11, .inl (cy 0, 5, .inl (fun _ => 0))), (q 12, .inl (cy 0, 5, .inl (fun _ => 0))), (q 13, .inl (cy 0, 5, .inl (fun _ => 0))), (q 15, .inl (cy 0, 30, .inl (fun _ => 0))), (q 19, .inl (cy 0, 12, .inl (fun _ => 0))), (q 20, .inl (cy 0, 12, .inl (fun _ => 0))), (q 21, .inl (cy 0, 12, .inl (fun _ => 0))), (q 22, .inl (cy 0, 12, .inl (fun _ => 0))), (q 60, .inr (12, fM q)), (q 23, .inl (cy 0, 12, .inl (fun _ => 0))), (q 38, .inl (cy 0, 460, .inl (u62)))] := hD
  have hl64 : Int32.toInt 280 = 280 := rfl
  obtain rfl : r61 = 292 := ci_of (b := 292) rfl (by omega)
  refine lv_istore_n (lv' := [(2, .int 292), (0, .ref (q 60)), (1, .int 1)]) hx hb dd_X12_moveAll_175 rfl hl (by decide) rfl (fun ls hl => ?_)
  refine lv_aload_n hx hb dd_X12_moveAll_176 rfl (lv_at hl 1 rfl) ?_
  refine lv_aload_n hx hb dd_X12_moveAll_177 rfl (lv_at hl 1 rfl) ?_
  refine wk_get (v := .ref (q 25)) Sx ef_12 hK hP 24 rfl rfl 25 (by decide) kk_1126 rfl dd_X12_moveAll_178 ?_
  refine lv_iload_n hx hb dd_X12_moveAll_181 rfl (lv_at hl 0 rfl) ?_
  refine lv_iload_n hx hb dd_X12_moveAll_182 rfl (lv_at hl 2 rfl) ?_
  refine hk_i (wr := [(q 27, .inl (cy 0, 20, .inl (fun _ => 0))), (q 28, .inl (cy 0, 20, .inl (fun _ => 0))), (q 29, .inl (cy 0, 20, .inl (fun _ => 0))), (q 30, .inl (cy 0, 20, .inl (fun _ => 0))), (q 32, .inl (cy 0, 10, .inl (fun _ => 0))), (q 33, .inl (cy 0, 10, .inl (fun _ => 0))), (q 34, .inl (cy 0, 16, .inl (fun _ => 0))), (q 35, .inl (cy 0, 4, .inl (hours0))), (q 39, .inl (cy 0, 7, .inl (fun _ => 0))), (q 4, .inl (cy 0, 30, .inl (fun _ => 0))), (q 5, .inl (cy 0, 30, .inl (fun _ => 0))), (q 6, .inl (cy 0, 30, .inl (fun _ => 0))), (q 7, .inl (cy 0, 30, .inl (fun _ => 0))), (q 8, .inl (cy 0, 30, .inl (fun _ => 0))), (q 9, .inl (cy 0, 30, .inl (fun _ => 0))), (q 11, .inl (cy 0, 5, .inl (fun _ => 0))), (q 12, .inl (cy 0, 5, .inl (fun _ => 0))), (q 13, .inl (cy 0, 5, .inl (fun _ => 0))), (q 15, .inl (cy 0, 30, .inl (fun _ => 0))), (q 19, .inl (cy 0, 12, .inl (fun _ => 0))), (q 20, .inl (cy 0, 12, .inl (fun _ => 0))), (q 21, .inl (cy 0, 12, .inl (fun _ => 0))), (q 22, .inl (cy 0, 12, .inl (fun _ => 0))), (q 23, .inl (cy 0, 12, .inl (fun _ => 0)))]) (c1 := 0) (s1 := 0) [24, 0, 26] [1, 2, 3, 4, 5, 6, 7, 8, 9, 10, 11, 12, 13, 14, 15, 16, 17, 18, 19, 20, 21, 22, 23, 25] (hc_V [.ref (q 25), .int 292, .int 1] [] [24, 0, 26] Sx hl.1 ws_M_302 md_X12_move (c_M_move l D cy q (q 25) 292 5 (fun _ => 0) u62 (by decide)) ⟨Nat.le_of_ble_eq_true rfl, Nat.le_of_ble_eq_true rfl⟩ hP hD rfl (by decide) hK nx_b (nx_w hX) (va_recv hK hP (ci := 12) (q0 := 24) rfl rfl) rfl rfl (Nat.le_of_ble_eq_true rfl) dd_X12_moveAll_183 ⟨Nat.le_of_ble_eq_true rfl, Nat.le_of_ble_eq_true rfl⟩) hS hA hP hD rfl rfl (by decide) (by decide) rfl rfl (fun r65 u66 H locs hw67 hP hD hS => ?_)
  have hP : va_P D cls [(q 27, .inl (cy 0, 20, .inl (fun _ => 0))), (q 28, .inl (cy 0, 20, .inl (fun _ => 0))), (q 29, .inl (cy 0, 20, .inl (fun _ => 0))), (q 30, .inl (cy 0, 20, .inl (fun _ => 0))), (q 32, .inl (cy 0, 10, .inl (fun _ => 0))), (q 33, .inl (cy 0, 10, .inl (fun _ => 0))), (q 34, .inl (cy 0, 16, .inl (fun _ => 0))), (q 35, .inl (cy 0, 4, .inl (hours0))), (q 39, .inl (cy 0, 7, .inl (fun _ => 0))), (q 4, .inl (cy 0, 30, .inl (fun _ => 0))), (q 5, .inl (cy 0, 30, .inl (fun _ => 0))), (q 6, .inl (cy 0, 30, .inl (fun _ => 0))), (q 7, .inl (cy 0, 30, .inl (fun _ => 0))), (q 8, .inl (cy 0, 30, .inl (fun _ => 0))), (q 9, .inl (cy 0, 30, .inl (fun _ => 0))), (q 11, .inl (cy 0, 5, .inl (fun _ => 0))), (q 12, .inl (cy 0, 5, .inl (fun _ => 0))), (q 13, .inl (cy 0, 5, .inl (fun _ => 0))), (q 15, .inl (cy 0, 30, .inl (fun _ => 0))), (q 19, .inl (cy 0, 12, .inl (fun _ => 0))), (q 20, .inl (cy 0, 12, .inl (fun _ => 0))), (q 21, .inl (cy 0, 12, .inl (fun _ => 0))), (q 22, .inl (cy 0, 12, .inl (fun _ => 0))), (q 23, .inl (cy 0, 12, .inl (fun _ => 0))), (q 60, .inr (12, fM q)), (q 25, .inl (cy 0, 5, .inl (fun _ => 0))), (q 38, .inl (cy 0, 460, .inl (u66)))] H := hP
  have hD : va_D A [(q 27, .inl (cy 0, 20, .inl (fun _ => 0))), (q 28, .inl (cy 0, 20, .inl (fun _ => 0))), (q 29, .inl (cy 0, 20, .inl (fun _ => 0))), (q 30, .inl (cy 0, 20, .inl (fun _ => 0))), (q 32, .inl (cy 0, 10, .inl (fun _ => 0))), (q 33, .inl (cy 0, 10, .inl (fun _ => 0))), (q 34, .inl (cy 0, 16, .inl (fun _ => 0))), (q 35, .inl (cy 0, 4, .inl (hours0))), (q 39, .inl (cy 0, 7, .inl (fun _ => 0))), (q 4, .inl (cy 0, 30, .inl (fun _ => 0))), (q 5, .inl (cy 0, 30, .inl (fun _ => 0))), (q 6, .inl (cy 0, 30, .inl (fun _ => 0))), (q 7, .inl (cy 0, 30, .inl (fun _ => 0))), (q 8, .inl (cy 0, 30, .inl (fun _ => 0))), (q 9, .inl (cy 0, 30, .inl (fun _ => 0))), (q 11, .inl (cy 0, 5, .inl (fun _ => 0))), (q 12, .inl (cy 0, 5, .inl (fun _ => 0))), (q 13, .inl (cy 0, 5, .inl (fun _ => 0))), (q 15, .inl (cy 0, 30, .inl (fun _ => 0))), (q 19, .inl (cy 0, 12, .inl (fun _ => 0))), (q 20, .inl (cy 0, 12, .inl (fun _ => 0))), (q 21, .inl (cy 0, 12, .inl (fun _ => 0))), (q 22, .inl (cy 0, 12, .inl (fun _ => 0))), (q 23, .inl (cy 0, 12, .inl (fun _ => 0))), (q 60, .inr (12, fM q)), (q 25, .inl (cy 0, 5, .inl (fun _ => 0))), (q 38, .inl (cy 0, 460, .inl (u66)))] := hD
  have hl68 : Int32.toInt 292 = 292 := rfl
  obtain rfl : r65 = 297 := ci_of (b := 297) rfl (by omega)
  refine lv_istore_n (lv' := [(2, .int 297), (0, .ref (q 60)), (1, .int 1)]) hx hb dd_X12_moveAll_186 rfl hl (by decide) rfl (fun ls hl => ?_)
  refine lv_aload_n hx hb dd_X12_moveAll_187 rfl (lv_at hl 1 rfl) ?_
  refine lv_aload_n hx hb dd_X12_moveAll_188 rfl (lv_at hl 1 rfl) ?_
  refine wk_get (v := .ref (q 27)) Sx ef_12 hK hP 24 rfl rfl 27 (by decide) kk_1128 rfl dd_X12_moveAll_189 ?_
  refine lv_iload_n hx hb dd_X12_moveAll_192 rfl (lv_at hl 0 rfl) ?_
  refine lv_iload_n hx hb dd_X12_moveAll_193 rfl (lv_at hl 2 rfl) ?_
  refine hk_i (wr := [(q 28, .inl (cy 0, 20, .inl (fun _ => 0))), (q 29, .inl (cy 0, 20, .inl (fun _ => 0))), (q 30, .inl (cy 0, 20, .inl (fun _ => 0))), (q 32, .inl (cy 0, 10, .inl (fun _ => 0))), (q 33, .inl (cy 0, 10, .inl (fun _ => 0))), (q 34, .inl (cy 0, 16, .inl (fun _ => 0))), (q 35, .inl (cy 0, 4, .inl (hours0))), (q 39, .inl (cy 0, 7, .inl (fun _ => 0))), (q 4, .inl (cy 0, 30, .inl (fun _ => 0))), (q 5, .inl (cy 0, 30, .inl (fun _ => 0))), (q 6, .inl (cy 0, 30, .inl (fun _ => 0))), (q 7, .inl (cy 0, 30, .inl (fun _ => 0))), (q 8, .inl (cy 0, 30, .inl (fun _ => 0))), (q 9, .inl (cy 0, 30, .inl (fun _ => 0))), (q 11, .inl (cy 0, 5, .inl (fun _ => 0))), (q 12, .inl (cy 0, 5, .inl (fun _ => 0))), (q 13, .inl (cy 0, 5, .inl (fun _ => 0))), (q 15, .inl (cy 0, 30, .inl (fun _ => 0))), (q 19, .inl (cy 0, 12, .inl (fun _ => 0))), (q 20, .inl (cy 0, 12, .inl (fun _ => 0))), (q 21, .inl (cy 0, 12, .inl (fun _ => 0))), (q 22, .inl (cy 0, 12, .inl (fun _ => 0))), (q 23, .inl (cy 0, 12, .inl (fun _ => 0))), (q 25, .inl (cy 0, 5, .inl (fun _ => 0)))]) (c1 := 0) (s1 := 0) [24, 0, 26] [1, 2, 3, 4, 5, 6, 7, 8, 9, 10, 11, 12, 13, 14, 15, 16, 17, 18, 19, 20, 21, 22, 23, 25] (hc_V [.ref (q 27), .int 297, .int 1] [] [24, 0, 26] Sx hl.1 ws_M_302 md_X12_move (c_M_move l D cy q (q 27) 297 20 (fun _ => 0) u66 (by decide)) ⟨Nat.le_of_ble_eq_true rfl, Nat.le_of_ble_eq_true rfl⟩ hP hD rfl (by decide) hK nx_b (nx_w hX) (va_recv hK hP (ci := 12) (q0 := 24) rfl rfl) rfl rfl (Nat.le_of_ble_eq_true rfl) dd_X12_moveAll_194 ⟨Nat.le_of_ble_eq_true rfl, Nat.le_of_ble_eq_true rfl⟩) hS hA hP hD rfl rfl (by decide) (by decide) rfl rfl (fun r69 u70 H locs hw71 hP hD hS => ?_)
  have hP : va_P D cls [(q 28, .inl (cy 0, 20, .inl (fun _ => 0))), (q 29, .inl (cy 0, 20, .inl (fun _ => 0))), (q 30, .inl (cy 0, 20, .inl (fun _ => 0))), (q 32, .inl (cy 0, 10, .inl (fun _ => 0))), (q 33, .inl (cy 0, 10, .inl (fun _ => 0))), (q 34, .inl (cy 0, 16, .inl (fun _ => 0))), (q 35, .inl (cy 0, 4, .inl (hours0))), (q 39, .inl (cy 0, 7, .inl (fun _ => 0))), (q 4, .inl (cy 0, 30, .inl (fun _ => 0))), (q 5, .inl (cy 0, 30, .inl (fun _ => 0))), (q 6, .inl (cy 0, 30, .inl (fun _ => 0))), (q 7, .inl (cy 0, 30, .inl (fun _ => 0))), (q 8, .inl (cy 0, 30, .inl (fun _ => 0))), (q 9, .inl (cy 0, 30, .inl (fun _ => 0))), (q 11, .inl (cy 0, 5, .inl (fun _ => 0))), (q 12, .inl (cy 0, 5, .inl (fun _ => 0))), (q 13, .inl (cy 0, 5, .inl (fun _ => 0))), (q 15, .inl (cy 0, 30, .inl (fun _ => 0))), (q 19, .inl (cy 0, 12, .inl (fun _ => 0))), (q 20, .inl (cy 0, 12, .inl (fun _ => 0))), (q 21, .inl (cy 0, 12, .inl (fun _ => 0))), (q 22, .inl (cy 0, 12, .inl (fun _ => 0))), (q 23, .inl (cy 0, 12, .inl (fun _ => 0))), (q 25, .inl (cy 0, 5, .inl (fun _ => 0))), (q 60, .inr (12, fM q)), (q 27, .inl (cy 0, 20, .inl (fun _ => 0))), (q 38, .inl (cy 0, 460, .inl (u70)))] H := hP
  have hD : va_D A [(q 28, .inl (cy 0, 20, .inl (fun _ => 0))), (q 29, .inl (cy 0, 20, .inl (fun _ => 0))), (q 30, .inl (cy 0, 20, .inl (fun _ => 0))), (q 32, .inl (cy 0, 10, .inl (fun _ => 0))), (q 33, .inl (cy 0, 10, .inl (fun _ => 0))), (q 34, .inl (cy 0, 16, .inl (fun _ => 0))), (q 35, .inl (cy 0, 4, .inl (hours0))), (q 39, .inl (cy 0, 7, .inl (fun _ => 0))), (q 4, .inl (cy 0, 30, .inl (fun _ => 0))), (q 5, .inl (cy 0, 30, .inl (fun _ => 0))), (q 6, .inl (cy 0, 30, .inl (fun _ => 0))), (q 7, .inl (cy 0, 30, .inl (fun _ => 0))), (q 8, .inl (cy 0, 30, .inl (fun _ => 0))), (q 9, .inl (cy 0, 30, .inl (fun _ => 0))), (q 11, .inl (cy 0, 5, .inl (fun _ => 0))), (q 12, .inl (cy 0, 5, .inl (fun _ => 0))), (q 13, .inl (cy 0, 5, .inl (fun _ => 0))), (q 15, .inl (cy 0, 30, .inl (fun _ => 0))), (q 19, .inl (cy 0, 12, .inl (fun _ => 0))), (q 20, .inl (cy 0, 12, .inl (fun _ => 0))), (q 21, .inl (cy 0, 12, .inl (fun _ => 0))), (q 22, .inl (cy 0, 12, .inl (fun _ => 0))), (q 23, .inl (cy 0, 12, .inl (fun _ => 0))), (q 25, .inl (cy 0, 5, .inl (fun _ => 0))), (q 60, .inr (12, fM q)), (q 27, .inl (cy 0, 20, .inl (fun _ => 0))), (q 38, .inl (cy 0, 460, .inl (u70)))] := hD
  have hl72 : Int32.toInt 297 = 297 := rfl
  obtain rfl : r69 = 317 := ci_of (b := 317) rfl (by omega)
  refine lv_istore_n (lv' := [(2, .int 317), (0, .ref (q 60)), (1, .int 1)]) hx hb dd_X12_moveAll_197 rfl hl (by decide) rfl (fun ls hl => ?_)
  refine lv_aload_n hx hb dd_X12_moveAll_198 rfl (lv_at hl 1 rfl) ?_
  refine lv_aload_n hx hb dd_X12_moveAll_199 rfl (lv_at hl 1 rfl) ?_
  refine wk_get (v := .ref (q 28)) Sx ef_12 hK hP 24 rfl rfl 28 (by decide) kk_1129 rfl dd_X12_moveAll_200 ?_
  refine lv_iload_n hx hb dd_X12_moveAll_203 rfl (lv_at hl 0 rfl) ?_
  refine lv_iload_n hx hb dd_X12_moveAll_204 rfl (lv_at hl 2 rfl) ?_
  refine hk_i (wr := [(q 29, .inl (cy 0, 20, .inl (fun _ => 0))), (q 30, .inl (cy 0, 20, .inl (fun _ => 0))), (q 32, .inl (cy 0, 10, .inl (fun _ => 0))), (q 33, .inl (cy 0, 10, .inl (fun _ => 0))), (q 34, .inl (cy 0, 16, .inl (fun _ => 0))), (q 35, .inl (cy 0, 4, .inl (hours0))), (q 39, .inl (cy 0, 7, .inl (fun _ => 0))), (q 4, .inl (cy 0, 30, .inl (fun _ => 0))), (q 5, .inl (cy 0, 30, .inl (fun _ => 0))), (q 6, .inl (cy 0, 30, .inl (fun _ => 0))), (q 7, .inl (cy 0, 30, .inl (fun _ => 0))), (q 8, .inl (cy 0, 30, .inl (fun _ => 0))), (q 9, .inl (cy 0, 30, .inl (fun _ => 0))), (q 11, .inl (cy 0, 5, .inl (fun _ => 0))), (q 12, .inl (cy 0, 5, .inl (fun _ => 0))), (q 13, .inl (cy 0, 5, .inl (fun _ => 0))), (q 15, .inl (cy 0, 30, .inl (fun _ => 0))), (q 19, .inl (cy 0, 12, .inl (fun _ => 0))), (q 20, .inl (cy 0, 12, .inl (fun _ => 0))), (q 21, .inl (cy 0, 12, .inl (fun _ => 0))), (q 22, .inl (cy 0, 12, .inl (fun _ => 0))), (q 23, .inl (cy 0, 12, .inl (fun _ => 0))), (q 25, .inl (cy 0, 5, .inl (fun _ => 0))), (q 27, .inl (cy 0, 20, .inl (fun _ => 0)))]) (c1 := 0) (s1 := 0) [24, 0, 26] [1, 2, 3, 4, 5, 6, 7, 8, 9, 10, 11, 12, 13, 14, 15, 16, 17, 18, 19, 20, 21, 22, 23, 25] (hc_V [.ref (q 28), .int 317, .int 1] [] [24, 0, 26] Sx hl.1 ws_M_302 md_X12_move (c_M_move l D cy q (q 28) 317 20 (fun _ => 0) u70 (by decide)) ⟨Nat.le_of_ble_eq_true rfl, Nat.le_of_ble_eq_true rfl⟩ hP hD rfl (by decide) hK nx_b (nx_w hX) (va_recv hK hP (ci := 12) (q0 := 24) rfl rfl) rfl rfl (Nat.le_of_ble_eq_true rfl) dd_X12_moveAll_205 ⟨Nat.le_of_ble_eq_true rfl, Nat.le_of_ble_eq_true rfl⟩) hS hA hP hD rfl rfl (by decide) (by decide) rfl rfl (fun r73 u74 H locs hw75 hP hD hS => ?_)
  have hP : va_P D cls [(q 29, .inl (cy 0, 20, .inl (fun _ => 0))), (q 30, .inl (cy 0, 20, .inl (fun _ => 0))), (q 32, .inl (cy 0, 10, .inl (fun _ => 0))), (q 33, .inl (cy 0, 10, .inl (fun _ => 0))), (q 34, .inl (cy 0, 16, .inl (fun _ => 0))), (q 35, .inl (cy 0, 4, .inl (hours0))), (q 39, .inl (cy 0, 7, .inl (fun _ => 0))), (q 4, .inl (cy 0, 30, .inl (fun _ => 0))), (q 5, .inl (cy 0, 30, .inl (fun _ => 0))), (q 6, .inl (cy 0, 30, .inl (fun _ => 0))), (q 7, .inl (cy 0, 30, .inl (fun _ => 0))), (q 8, .inl (cy 0, 30, .inl (fun _ => 0))), (q 9, .inl (cy 0, 30, .inl (fun _ => 0))), (q 11, .inl (cy 0, 5, .inl (fun _ => 0))), (q 12, .inl (cy 0, 5, .inl (fun _ => 0))), (q 13, .inl (cy 0, 5, .inl (fun _ => 0))), (q 15, .inl (cy 0, 30, .inl (fun _ => 0))), (q 19, .inl (cy 0, 12, .inl (fun _ => 0))), (q 20, .inl (cy 0, 12, .inl (fun _ => 0))), (q 21, .inl (cy 0, 12, .inl (fun _ => 0))), (q 22, .inl (cy 0, 12, .inl (fun _ => 0))), (q 23, .inl (cy 0, 12, .inl (fun _ => 0))), (q 25, .inl (cy 0, 5, .inl (fun _ => 0))), (q 27, .inl (cy 0, 20, .inl (fun _ => 0))), (q 60, .inr (12, fM q)), (q 28, .inl (cy 0, 20, .inl (fun _ => 0))), (q 38, .inl (cy 0, 460, .inl (u74)))] H := hP
  have hD : va_D A [(q 29, .inl (cy 0, 20, .inl (fun _ => 0))), (q 30, .inl (cy 0, 20, .inl (fun _ => 0))), (q 32, .inl (cy 0, 10, .inl (fun _ => 0))), (q 33, .inl (cy 0, 10, .inl (fun _ => 0))), (q 34, .inl (cy 0, 16, .inl (fun _ => 0))), (q 35, .inl (cy 0, 4, .inl (hours0))), (q 39, .inl (cy 0, 7, .inl (fun _ => 0))), (q 4, .inl (cy 0, 30, .inl (fun _ => 0))), (q 5, .inl (cy 0, 30, .inl (fun _ => 0))), (q 6, .inl (cy 0, 30, .inl (fun _ => 0))), (q 7, .inl (cy 0, 30, .inl (fun _ => 0))), (q 8, .inl (cy 0, 30, .inl (fun _ => 0))), (q 9, .inl (cy 0, 30, .inl (fun _ => 0))), (q 11, .inl (cy 0, 5, .inl (fun _ => 0))), (q 12, .inl (cy 0, 5, .inl (fun _ => 0))), (q 13, .inl (cy 0, 5, .inl (fun _ => 0))), (q 15, .inl (cy 0, 30, .inl (fun _ => 0))), (q 19, .inl (cy 0, 12, .inl (fun _ => 0))), (q 20, .inl (cy 0, 12, .inl (fun _ => 0))), (q 21, .inl (cy 0, 12, .inl (fun _ => 0))), (q 22, .inl (cy 0, 12, .inl (fun _ => 0))), (q 23, .inl (cy 0, 12, .inl (fun _ => 0))), (q 25, .inl (cy 0, 5, .inl (fun _ => 0))), (q 27, .inl (cy 0, 20, .inl (fun _ => 0))), (q 60, .inr (12, fM q)), (q 28, .inl (cy 0, 20, .inl (fun _ => 0))), (q 38, .inl (cy 0, 460, .inl (u74)))] := hD
  have hl76 : Int32.toInt 317 = 317 := rfl
  obtain rfl : r73 = 337 := ci_of (b := 337) rfl (by omega)
  refine lv_istore_n (lv' := [(2, .int 337), (0, .ref (q 60)), (1, .int 1)]) hx hb dd_X12_moveAll_208 rfl hl (by decide) rfl (fun ls hl => ?_)
  refine lv_aload_n hx hb dd_X12_moveAll_209 rfl (lv_at hl 1 rfl) ?_
  refine lv_aload_n hx hb dd_X12_moveAll_210 rfl (lv_at hl 1 rfl) ?_
  refine wk_get (v := .ref (q 29)) Sx ef_12 hK hP 24 rfl rfl 29 (by decide) kk_1130 rfl dd_X12_moveAll_211 ?_
  refine lv_iload_n hx hb dd_X12_moveAll_214 rfl (lv_at hl 0 rfl) ?_
  refine lv_iload_n hx hb dd_X12_moveAll_215 rfl (lv_at hl 2 rfl) ?_
  refine hk_i (wr := [(q 30, .inl (cy 0, 20, .inl (fun _ => 0))), (q 32, .inl (cy 0, 10, .inl (fun _ => 0))), (q 33, .inl (cy 0, 10, .inl (fun _ => 0))), (q 34, .inl (cy 0, 16, .inl (fun _ => 0))), (q 35, .inl (cy 0, 4, .inl (hours0))), (q 39, .inl (cy 0, 7, .inl (fun _ => 0))), (q 4, .inl (cy 0, 30, .inl (fun _ => 0))), (q 5, .inl (cy 0, 30, .inl (fun _ => 0))), (q 6, .inl (cy 0, 30, .inl (fun _ => 0))), (q 7, .inl (cy 0, 30, .inl (fun _ => 0))), (q 8, .inl (cy 0, 30, .inl (fun _ => 0))), (q 9, .inl (cy 0, 30, .inl (fun _ => 0))), (q 11, .inl (cy 0, 5, .inl (fun _ => 0))), (q 12, .inl (cy 0, 5, .inl (fun _ => 0))), (q 13, .inl (cy 0, 5, .inl (fun _ => 0))), (q 15, .inl (cy 0, 30, .inl (fun _ => 0))), (q 19, .inl (cy 0, 12, .inl (fun _ => 0))), (q 20, .inl (cy 0, 12, .inl (fun _ => 0))), (q 21, .inl (cy 0, 12, .inl (fun _ => 0))), (q 22, .inl (cy 0, 12, .inl (fun _ => 0))), (q 23, .inl (cy 0, 12, .inl (fun _ => 0))), (q 25, .inl (cy 0, 5, .inl (fun _ => 0))), (q 27, .inl (cy 0, 20, .inl (fun _ => 0))), (q 28, .inl (cy 0, 20, .inl (fun _ => 0)))]) (c1 := 0) (s1 := 0) [24, 0, 26] [1, 2, 3, 4, 5, 6, 7, 8, 9, 10, 11, 12, 13, 14, 15, 16, 17, 18, 19, 20, 21, 22, 23, 25] (hc_V [.ref (q 29), .int 337, .int 1] [] [24, 0, 26] Sx hl.1 ws_M_302 md_X12_move (c_M_move l D cy q (q 29) 337 20 (fun _ => 0) u74 (by decide)) ⟨Nat.le_of_ble_eq_true rfl, Nat.le_of_ble_eq_true rfl⟩ hP hD rfl (by decide) hK nx_b (nx_w hX) (va_recv hK hP (ci := 12) (q0 := 24) rfl rfl) rfl rfl (Nat.le_of_ble_eq_true rfl) dd_X12_moveAll_216 ⟨Nat.le_of_ble_eq_true rfl, Nat.le_of_ble_eq_true rfl⟩) hS hA hP hD rfl rfl (by decide) (by decide) rfl rfl (fun r77 u78 H locs hw79 hP hD hS => ?_)
  have hP : va_P D cls [(q 30, .inl (cy 0, 20, .inl (fun _ => 0))), (q 32, .inl (cy 0, 10, .inl (fun _ => 0))), (q 33, .inl (cy 0, 10, .inl (fun _ => 0))), (q 34, .inl (cy 0, 16, .inl (fun _ => 0))), (q 35, .inl (cy 0, 4, .inl (hours0))), (q 39, .inl (cy 0, 7, .inl (fun _ => 0))), (q 4, .inl (cy 0, 30, .inl (fun _ => 0))), (q 5, .inl (cy 0, 30, .inl (fun _ => 0))), (q 6, .inl (cy 0, 30, .inl (fun _ => 0))), (q 7, .inl (cy 0, 30, .inl (fun _ => 0))), (q 8, .inl (cy 0, 30, .inl (fun _ => 0))), (q 9, .inl (cy 0, 30, .inl (fun _ => 0))), (q 11, .inl (cy 0, 5, .inl (fun _ => 0))), (q 12, .inl (cy 0, 5, .inl (fun _ => 0))), (q 13, .inl (cy 0, 5, .inl (fun _ => 0))), (q 15, .inl (cy 0, 30, .inl (fun _ => 0))), (q 19, .inl (cy 0, 12, .inl (fun _ => 0))), (q 20, .inl (cy 0, 12, .inl (fun _ => 0))), (q 21, .inl (cy 0, 12, .inl (fun _ => 0))), (q 22, .inl (cy 0, 12, .inl (fun _ => 0))), (q 23, .inl (cy 0, 12, .inl (fun _ => 0))), (q 25, .inl (cy 0, 5, .inl (fun _ => 0))), (q 27, .inl (cy 0, 20, .inl (fun _ => 0))), (q 28, .inl (cy 0, 20, .inl (fun _ => 0))), (q 60, .inr (12, fM q)), (q 29, .inl (cy 0, 20, .inl (fun _ => 0))), (q 38, .inl (cy 0, 460, .inl (u78)))] H := hP
  have hD : va_D A [(q 30, .inl (cy 0, 20, .inl (fun _ => 0))), (q 32, .inl (cy 0, 10, .inl (fun _ => 0))), (q 33, .inl (cy 0, 10, .inl (fun _ => 0))), (q 34, .inl (cy 0, 16, .inl (fun _ => 0))), (q 35, .inl (cy 0, 4, .inl (hours0))), (q 39, .inl (cy 0, 7, .inl (fun _ => 0))), (q 4, .inl (cy 0, 30, .inl (fun _ => 0))), (q 5, .inl (cy 0, 30, .inl (fun _ => 0))), (q 6, .inl (cy 0, 30, .inl (fun _ => 0))), (q 7, .inl (cy 0, 30, .inl (fun _ => 0))), (q 8, .inl (cy 0, 30, .inl (fun _ => 0))), (q 9, .inl (cy 0, 30, .inl (fun _ => 0))), (q 11, .inl (cy 0, 5, .inl (fun _ => 0))), (q 12, .inl (cy 0, 5, .inl (fun _ => 0))), (q 13, .inl (cy 0, 5, .inl (fun _ => 0))), (q 15, .inl (cy 0, 30, .inl (fun _ => 0))), (q 19, .inl (cy 0, 12, .inl (fun _ => 0))), (q 20, .inl (cy 0, 12, .inl (fun _ => 0))), (q 21, .inl (cy 0, 12, .inl (fun _ => 0))), (q 22, .inl (cy 0, 12, .inl (fun _ => 0))), (q 23, .inl (cy 0, 12, .inl (fun _ => 0))), (q 25, .inl (cy 0, 5, .inl (fun _ => 0))), (q 27, .inl (cy 0, 20, .inl (fun _ => 0))), (q 28, .inl (cy 0, 20, .inl (fun _ => 0))), (q 60, .inr (12, fM q)), (q 29, .inl (cy 0, 20, .inl (fun _ => 0))), (q 38, .inl (cy 0, 460, .inl (u78)))] := hD
  have hl80 : Int32.toInt 337 = 337 := rfl
  obtain rfl : r77 = 357 := ci_of (b := 357) rfl (by omega)
  refine lv_istore_n (lv' := [(2, .int 357), (0, .ref (q 60)), (1, .int 1)]) hx hb dd_X12_moveAll_219 rfl hl (by decide) rfl (fun ls hl => ?_)
  refine lv_aload_n hx hb dd_X12_moveAll_220 rfl (lv_at hl 1 rfl) ?_
  refine lv_aload_n hx hb dd_X12_moveAll_221 rfl (lv_at hl 1 rfl) ?_
  refine wk_get (v := .ref (q 30)) Sx ef_12 hK hP 24 rfl rfl 30 (by decide) kk_1131 rfl dd_X12_moveAll_222 ?_
  refine lv_iload_n hx hb dd_X12_moveAll_225 rfl (lv_at hl 0 rfl) ?_
  refine lv_iload_n hx hb dd_X12_moveAll_226 rfl (lv_at hl 2 rfl) ?_
  refine hk_i (wr := [(q 32, .inl (cy 0, 10, .inl (fun _ => 0))), (q 33, .inl (cy 0, 10, .inl (fun _ => 0))), (q 34, .inl (cy 0, 16, .inl (fun _ => 0))), (q 35, .inl (cy 0, 4, .inl (hours0))), (q 39, .inl (cy 0, 7, .inl (fun _ => 0))), (q 4, .inl (cy 0, 30, .inl (fun _ => 0))), (q 5, .inl (cy 0, 30, .inl (fun _ => 0))), (q 6, .inl (cy 0, 30, .inl (fun _ => 0))), (q 7, .inl (cy 0, 30, .inl (fun _ => 0))), (q 8, .inl (cy 0, 30, .inl (fun _ => 0))), (q 9, .inl (cy 0, 30, .inl (fun _ => 0))), (q 11, .inl (cy 0, 5, .inl (fun _ => 0))), (q 12, .inl (cy 0, 5, .inl (fun _ => 0))), (q 13, .inl (cy 0, 5, .inl (fun _ => 0))), (q 15, .inl (cy 0, 30, .inl (fun _ => 0))), (q 19, .inl (cy 0, 12, .inl (fun _ => 0))), (q 20, .inl (cy 0, 12, .inl (fun _ => 0))), (q 21, .inl (cy 0, 12, .inl (fun _ => 0))), (q 22, .inl (cy 0, 12, .inl (fun _ => 0))), (q 23, .inl (cy 0, 12, .inl (fun _ => 0))), (q 25, .inl (cy 0, 5, .inl (fun _ => 0))), (q 27, .inl (cy 0, 20, .inl (fun _ => 0))), (q 28, .inl (cy 0, 20, .inl (fun _ => 0))), (q 29, .inl (cy 0, 20, .inl (fun _ => 0)))]) (c1 := 0) (s1 := 0) [24, 0, 26] [1, 2, 3, 4, 5, 6, 7, 8, 9, 10, 11, 12, 13, 14, 15, 16, 17, 18, 19, 20, 21, 22, 23, 25] (hc_V [.ref (q 30), .int 357, .int 1] [] [24, 0, 26] Sx hl.1 ws_M_302 md_X12_move (c_M_move l D cy q (q 30) 357 20 (fun _ => 0) u78 (by decide)) ⟨Nat.le_of_ble_eq_true rfl, Nat.le_of_ble_eq_true rfl⟩ hP hD rfl (by decide) hK nx_b (nx_w hX) (va_recv hK hP (ci := 12) (q0 := 24) rfl rfl) rfl rfl (Nat.le_of_ble_eq_true rfl) dd_X12_moveAll_227 ⟨Nat.le_of_ble_eq_true rfl, Nat.le_of_ble_eq_true rfl⟩) hS hA hP hD rfl rfl (by decide) (by decide) rfl rfl (fun r81 u82 H locs hw83 hP hD hS => ?_)
  have hP : va_P D cls [(q 32, .inl (cy 0, 10, .inl (fun _ => 0))), (q 33, .inl (cy 0, 10, .inl (fun _ => 0))), (q 34, .inl (cy 0, 16, .inl (fun _ => 0))), (q 35, .inl (cy 0, 4, .inl (hours0))), (q 39, .inl (cy 0, 7, .inl (fun _ => 0))), (q 4, .inl (cy 0, 30, .inl (fun _ => 0))), (q 5, .inl (cy 0, 30, .inl (fun _ => 0))), (q 6, .inl (cy 0, 30, .inl (fun _ => 0))), (q 7, .inl (cy 0, 30, .inl (fun _ => 0))), (q 8, .inl (cy 0, 30, .inl (fun _ => 0))), (q 9, .inl (cy 0, 30, .inl (fun _ => 0))), (q 11, .inl (cy 0, 5, .inl (fun _ => 0))), (q 12, .inl (cy 0, 5, .inl (fun _ => 0))), (q 13, .inl (cy 0, 5, .inl (fun _ => 0))), (q 15, .inl (cy 0, 30, .inl (fun _ => 0))), (q 19, .inl (cy 0, 12, .inl (fun _ => 0))), (q 20, .inl (cy 0, 12, .inl (fun _ => 0))), (q 21, .inl (cy 0, 12, .inl (fun _ => 0))), (q 22, .inl (cy 0, 12, .inl (fun _ => 0))), (q 23, .inl (cy 0, 12, .inl (fun _ => 0))), (q 25, .inl (cy 0, 5, .inl (fun _ => 0))), (q 27, .inl (cy 0, 20, .inl (fun _ => 0))), (q 28, .inl (cy 0, 20, .inl (fun _ => 0))), (q 29, .inl (cy 0, 20, .inl (fun _ => 0))), (q 60, .inr (12, fM q)), (q 30, .inl (cy 0, 20, .inl (fun _ => 0))), (q 38, .inl (cy 0, 460, .inl (u82)))] H := hP
  have hD : va_D A [(q 32, .inl (cy 0, 10, .inl (fun _ => 0))), (q 33, .inl (cy 0, 10, .inl (fun _ => 0))), (q 34, .inl (cy 0, 16, .inl (fun _ => 0))), (q 35, .inl (cy 0, 4, .inl (hours0))), (q 39, .inl (cy 0, 7, .inl (fun _ => 0))), (q 4, .inl (cy 0, 30, .inl (fun _ => 0))), (q 5, .inl (cy 0, 30, .inl (fun _ => 0))), (q 6, .inl (cy 0, 30, .inl (fun _ => 0))), (q 7, .inl (cy 0, 30, .inl (fun _ => 0))), (q 8, .inl (cy 0, 30, .inl (fun _ => 0))), (q 9, .inl (cy 0, 30, .inl (fun _ => 0))), (q 11, .inl (cy 0, 5, .inl (fun _ => 0))), (q 12, .inl (cy 0, 5, .inl (fun _ => 0))), (q 13, .inl (cy 0, 5, .inl (fun _ => 0))), (q 15, .inl (cy 0, 30, .inl (fun _ => 0))), (q 19, .inl (cy 0, 12, .inl (fun _ => 0))), (q 20, .inl (cy 0, 12, .inl (fun _ => 0))), (q 21, .inl (cy 0, 12, .inl (fun _ => 0))), (q 22, .inl (cy 0, 12, .inl (fun _ => 0))), (q 23, .inl (cy 0, 12, .inl (fun _ => 0))), (q 25, .inl (cy 0, 5, .inl (fun _ => 0))), (q 27, .inl (cy 0, 20, .inl (fun _ => 0))), (q 28, .inl (cy 0, 20, .inl (fun _ => 0))), (q 29, .inl (cy 0, 20, .inl (fun _ => 0))), (q 60, .inr (12, fM q)), (q 30, .inl (cy 0, 20, .inl (fun _ => 0))), (q 38, .inl (cy 0, 460, .inl (u82)))] := hD
  have hl84 : Int32.toInt 357 = 357 := rfl
  obtain rfl : r81 = 377 := ci_of (b := 377) rfl (by omega)
  refine lv_istore_n (lv' := [(2, .int 377), (0, .ref (q 60)), (1, .int 1)]) hx hb dd_X12_moveAll_230 rfl hl (by decide) rfl (fun ls hl => ?_)
  refine lv_aload_n hx hb dd_X12_moveAll_231 rfl (lv_at hl 1 rfl) ?_
  refine lv_aload_n hx hb dd_X12_moveAll_232 rfl (lv_at hl 1 rfl) ?_
  refine wk_get (v := .ref (q 32)) Sx ef_12 hK hP 24 rfl rfl 32 (by decide) kk_1133 rfl dd_X12_moveAll_233 ?_
  refine lv_iload_n hx hb dd_X12_moveAll_236 rfl (lv_at hl 0 rfl) ?_
  refine lv_iload_n hx hb dd_X12_moveAll_237 rfl (lv_at hl 2 rfl) ?_
  refine hk_i (wr := [(q 33, .inl (cy 0, 10, .inl (fun _ => 0))), (q 34, .inl (cy 0, 16, .inl (fun _ => 0))), (q 35, .inl (cy 0, 4, .inl (hours0))), (q 39, .inl (cy 0, 7, .inl (fun _ => 0))), (q 4, .inl (cy 0, 30, .inl (fun _ => 0))), (q 5, .inl (cy 0, 30, .inl (fun _ => 0))), (q 6, .inl (cy 0, 30, .inl (fun _ => 0))), (q 7, .inl (cy 0, 30, .inl (fun _ => 0))), (q 8, .inl (cy 0, 30, .inl (fun _ => 0))), (q 9, .inl (cy 0, 30, .inl (fun _ => 0))), (q 11, .inl (cy 0, 5, .inl (fun _ => 0))), (q 12, .inl (cy 0, 5, .inl (fun _ => 0))), (q 13, .inl (cy 0, 5, .inl (fun _ => 0))), (q 15, .inl (cy 0, 30, .inl (fun _ => 0))), (q 19, .inl (cy 0, 12, .inl (fun _ => 0))), (q 20, .inl (cy 0, 12, .inl (fun _ => 0))), (q 21, .inl (cy 0, 12, .inl (fun _ => 0))), (q 22, .inl (cy 0, 12, .inl (fun _ => 0))), (q 23, .inl (cy 0, 12, .inl (fun _ => 0))), (q 25, .inl (cy 0, 5, .inl (fun _ => 0))), (q 27, .inl (cy 0, 20, .inl (fun _ => 0))), (q 28, .inl (cy 0, 20, .inl (fun _ => 0))), (q 29, .inl (cy 0, 20, .inl (fun _ => 0))), (q 30, .inl (cy 0, 20, .inl (fun _ => 0)))]) (c1 := 0) (s1 := 0) [24, 0, 26] [1, 2, 3, 4, 5, 6, 7, 8, 9, 10, 11, 12, 13, 14, 15, 16, 17, 18, 19, 20, 21, 22, 23, 25] (hc_V [.ref (q 32), .int 377, .int 1] [] [24, 0, 26] Sx hl.1 ws_M_302 md_X12_move (c_M_move l D cy q (q 32) 377 10 (fun _ => 0) u82 (by decide)) ⟨Nat.le_of_ble_eq_true rfl, Nat.le_of_ble_eq_true rfl⟩ hP hD rfl (by decide) hK nx_b (nx_w hX) (va_recv hK hP (ci := 12) (q0 := 24) rfl rfl) rfl rfl (Nat.le_of_ble_eq_true rfl) dd_X12_moveAll_238 ⟨Nat.le_of_ble_eq_true rfl, Nat.le_of_ble_eq_true rfl⟩) hS hA hP hD rfl rfl (by decide) (by decide) rfl rfl (fun r85 u86 H locs hw87 hP hD hS => ?_)
  have hP : va_P D cls [(q 33, .inl (cy 0, 10, .inl (fun _ => 0))), (q 34, .inl (cy 0, 16, .inl (fun _ => 0))), (q 35, .inl (cy 0, 4, .inl (hours0))), (q 39, .inl (cy 0, 7, .inl (fun _ => 0))), (q 4, .inl (cy 0, 30, .inl (fun _ => 0))), (q 5, .inl (cy 0, 30, .inl (fun _ => 0))), (q 6, .inl (cy 0, 30, .inl (fun _ => 0))), (q 7, .inl (cy 0, 30, .inl (fun _ => 0))), (q 8, .inl (cy 0, 30, .inl (fun _ => 0))), (q 9, .inl (cy 0, 30, .inl (fun _ => 0))), (q 11, .inl (cy 0, 5, .inl (fun _ => 0))), (q 12, .inl (cy 0, 5, .inl (fun _ => 0))), (q 13, .inl (cy 0, 5, .inl (fun _ => 0))), (q 15, .inl (cy 0, 30, .inl (fun _ => 0))), (q 19, .inl (cy 0, 12, .inl (fun _ => 0))), (q 20, .inl (cy 0, 12, .inl (fun _ => 0))), (q 21, .inl (cy 0, 12, .inl (fun _ => 0))), (q 22, .inl (cy 0, 12, .inl (fun _ => 0))), (q 23, .inl (cy 0, 12, .inl (fun _ => 0))), (q 25, .inl (cy 0, 5, .inl (fun _ => 0))), (q 27, .inl (cy 0, 20, .inl (fun _ => 0))), (q 28, .inl (cy 0, 20, .inl (fun _ => 0))), (q 29, .inl (cy 0, 20, .inl (fun _ => 0))), (q 30, .inl (cy 0, 20, .inl (fun _ => 0))), (q 60, .inr (12, fM q)), (q 32, .inl (cy 0, 10, .inl (fun _ => 0))), (q 38, .inl (cy 0, 460, .inl (u86)))] H := hP
  have hD : va_D A [(q 33, .inl (cy 0, 10, .inl (fun _ => 0))), (q 34, .inl (cy 0, 16, .inl (fun _ => 0))), (q 35, .inl (cy 0, 4, .inl (hours0))), (q 39, .inl (cy 0, 7, .inl (fun _ => 0))), (q 4, .inl (cy 0, 30, .inl (fun _ => 0))), (q 5, .inl (cy 0, 30, .inl (fun _ => 0))), (q 6, .inl (cy 0, 30, .inl (fun _ => 0))), (q 7, .inl (cy 0, 30, .inl (fun _ => 0))), (q 8, .inl (cy 0, 30, .inl (fun _ => 0))), (q 9, .inl (cy 0, 30, .inl (fun _ => 0))), (q 11, .inl (cy 0, 5, .inl (fun _ => 0))), (q 12, .inl (cy 0, 5, .inl (fun _ => 0))), (q 13, .inl (cy 0, 5, .inl (fun _ => 0))), (q 15, .inl (cy 0, 30, .inl (fun _ => 0))), (q 19, .inl (cy 0, 12, .inl (fun _ => 0))), (q 20, .inl (cy 0, 12, .inl (fun _ => 0))), (q 21, .inl (cy 0, 12, .inl (fun _ => 0))), (q 22, .inl (cy 0, 12, .inl (fun _ => 0))), (q 23, .inl (cy 0, 12, .inl (fun _ => 0))), (q 25, .inl (cy 0, 5, .inl (fun _ => 0))), (q 27, .inl (cy 0, 20, .inl (fun _ => 0))), (q 28, .inl (cy 0, 20, .inl (fun _ => 0))), (q 29, .inl (cy 0, 20, .inl (fun _ => 0))), (q 30, .inl (cy 0, 20, .inl (fun _ => 0))), (q 60, .inr (12, fM q)), (q 32, .inl (cy 0, 10, .inl (fun _ => 0))), (q 38, .inl (cy 0, 460, .inl (u86)))] := hD
  have hl88 : Int32.toInt 377 = 377 := rfl
  obtain rfl : r85 = 387 := ci_of (b := 387) rfl (by omega)
  refine lv_istore_n (lv' := [(2, .int 387), (0, .ref (q 60)), (1, .int 1)]) hx hb dd_X12_moveAll_241 rfl hl (by decide) rfl (fun ls hl => ?_)
  refine lv_aload_n hx hb dd_X12_moveAll_242 rfl (lv_at hl 1 rfl) ?_
  refine lv_aload_n hx hb dd_X12_moveAll_243 rfl (lv_at hl 1 rfl) ?_
  refine wk_get (v := .ref (q 33)) Sx ef_12 hK hP 24 rfl rfl 33 (by decide) kk_1134 rfl dd_X12_moveAll_244 ?_
  refine lv_iload_n hx hb dd_X12_moveAll_247 rfl (lv_at hl 0 rfl) ?_
  refine lv_iload_n hx hb dd_X12_moveAll_248 rfl (lv_at hl 2 rfl) ?_
  refine hk_i (wr := [(q 34, .inl (cy 0, 16, .inl (fun _ => 0))), (q 35, .inl (cy 0, 4, .inl (hours0))), (q 39, .inl (cy 0, 7, .inl (fun _ => 0))), (q 4, .inl (cy 0, 30, .inl (fun _ => 0))), (q 5, .inl (cy 0, 30, .inl (fun _ => 0))), (q 6, .inl (cy 0, 30, .inl (fun _ => 0))), (q 7, .inl (cy 0, 30, .inl (fun _ => 0))), (q 8, .inl (cy 0, 30, .inl (fun _ => 0))), (q 9, .inl (cy 0, 30, .inl (fun _ => 0))), (q 11, .inl (cy 0, 5, .inl (fun _ => 0))), (q 12, .inl (cy 0, 5, .inl (fun _ => 0))), (q 13, .inl (cy 0, 5, .inl (fun _ => 0))), (q 15, .inl (cy 0, 30, .inl (fun _ => 0))), (q 19, .inl (cy 0, 12, .inl (fun _ => 0))), (q 20, .inl (cy 0, 12, .inl (fun _ => 0))), (q 21, .inl (cy 0, 12, .inl (fun _ => 0))), (q 22, .inl (cy 0, 12, .inl (fun _ => 0))), (q 23, .inl (cy 0, 12, .inl (fun _ => 0))), (q 25, .inl (cy 0, 5, .inl (fun _ => 0))), (q 27, .inl (cy 0, 20, .inl (fun _ => 0))), (q 28, .inl (cy 0, 20, .inl (fun _ => 0))), (q 29, .inl (cy 0, 20, .inl (fun _ => 0))), (q 30, .inl (cy 0, 20, .inl (fun _ => 0))), (q 32, .inl (cy 0, 10, .inl (fun _ => 0)))]) (c1 := 0) (s1 := 0) [24, 0, 26] [1, 2, 3, 4, 5, 6, 7, 8, 9, 10, 11, 12, 13, 14, 15, 16, 17, 18, 19, 20, 21, 22, 23, 25] (hc_V [.ref (q 33), .int 387, .int 1] [] [24, 0, 26] Sx hl.1 ws_M_302 md_X12_move (c_M_move l D cy q (q 33) 387 10 (fun _ => 0) u86 (by decide)) ⟨Nat.le_of_ble_eq_true rfl, Nat.le_of_ble_eq_true rfl⟩ hP hD rfl (by decide) hK nx_b (nx_w hX) (va_recv hK hP (ci := 12) (q0 := 24) rfl rfl) rfl rfl (Nat.le_of_ble_eq_true rfl) dd_X12_moveAll_249 ⟨Nat.le_of_ble_eq_true rfl, Nat.le_of_ble_eq_true rfl⟩) hS hA hP hD rfl rfl (by decide) (by decide) rfl rfl (fun r89 u90 H locs hw91 hP hD hS => ?_)
  have hP : va_P D cls [(q 34, .inl (cy 0, 16, .inl (fun _ => 0))), (q 35, .inl (cy 0, 4, .inl (hours0))), (q 39, .inl (cy 0, 7, .inl (fun _ => 0))), (q 4, .inl (cy 0, 30, .inl (fun _ => 0))), (q 5, .inl (cy 0, 30, .inl (fun _ => 0))), (q 6, .inl (cy 0, 30, .inl (fun _ => 0))), (q 7, .inl (cy 0, 30, .inl (fun _ => 0))), (q 8, .inl (cy 0, 30, .inl (fun _ => 0))), (q 9, .inl (cy 0, 30, .inl (fun _ => 0))), (q 11, .inl (cy 0, 5, .inl (fun _ => 0))), (q 12, .inl (cy 0, 5, .inl (fun _ => 0))), (q 13, .inl (cy 0, 5, .inl (fun _ => 0))), (q 15, .inl (cy 0, 30, .inl (fun _ => 0))), (q 19, .inl (cy 0, 12, .inl (fun _ => 0))), (q 20, .inl (cy 0, 12, .inl (fun _ => 0))), (q 21, .inl (cy 0, 12, .inl (fun _ => 0))), (q 22, .inl (cy 0, 12, .inl (fun _ => 0))), (q 23, .inl (cy 0, 12, .inl (fun _ => 0))), (q 25, .inl (cy 0, 5, .inl (fun _ => 0))), (q 27, .inl (cy 0, 20, .inl (fun _ => 0))), (q 28, .inl (cy 0, 20, .inl (fun _ => 0))), (q 29, .inl (cy 0, 20, .inl (fun _ => 0))), (q 30, .inl (cy 0, 20, .inl (fun _ => 0))), (q 32, .inl (cy 0, 10, .inl (fun _ => 0))), (q 60, .inr (12, fM q)), (q 33, .inl (cy 0, 10, .inl (fun _ => 0))), (q 38, .inl (cy 0, 460, .inl (u90)))] H := hP
  have hD : va_D A [(q 34, .inl (cy 0, 16, .inl (fun _ => 0))), (q 35, .inl (cy 0, 4, .inl (hours0))), (q 39, .inl (cy 0, 7, .inl (fun _ => 0))), (q 4, .inl (cy 0, 30, .inl (fun _ => 0))), (q 5, .inl (cy 0, 30, .inl (fun _ => 0))), (q 6, .inl (cy 0, 30, .inl (fun _ => 0))), (q 7, .inl (cy 0, 30, .inl (fun _ => 0))), (q 8, .inl (cy 0, 30, .inl (fun _ => 0))), (q 9, .inl (cy 0, 30, .inl (fun _ => 0))), (q 11, .inl (cy 0, 5, .inl (fun _ => 0))), (q 12, .inl (cy 0, 5, .inl (fun _ => 0))), (q 13, .inl (cy 0, 5, .inl (fun _ => 0))), (q 15, .inl (cy 0, 30, .inl (fun _ => 0))), (q 19, .inl (cy 0, 12, .inl (fun _ => 0))), (q 20, .inl (cy 0, 12, .inl (fun _ => 0))), (q 21, .inl (cy 0, 12, .inl (fun _ => 0))), (q 22, .inl (cy 0, 12, .inl (fun _ => 0))), (q 23, .inl (cy 0, 12, .inl (fun _ => 0))), (q 25, .inl (cy 0, 5, .inl (fun _ => 0))), (q 27, .inl (cy 0, 20, .inl (fun _ => 0))), (q 28, .inl (cy 0, 20, .inl (fun _ => 0))), (q 29, .inl (cy 0, 20, .inl (fun _ => 0))), (q 30, .inl (cy 0, 20, .inl (fun _ => 0))), (q 32, .inl (cy 0, 10, .inl (fun _ => 0))), (q 60, .inr (12, fM q)), (q 33, .inl (cy 0, 10, .inl (fun _ => 0))), (q 38, .inl (cy 0, 460, .inl (u90)))] := hD
  have hl92 : Int32.toInt 387 = 387 := rfl
  obtain rfl : r89 = 397 := ci_of (b := 397) rfl (by omega)
  refine lv_istore_n (lv' := [(2, .int 397), (0, .ref (q 60)), (1, .int 1)]) hx hb dd_X12_moveAll_252 rfl hl (by decide) rfl (fun ls hl => ?_)
  refine lv_aload_n hx hb dd_X12_moveAll_253 rfl (lv_at hl 1 rfl) ?_
  refine lv_aload_n hx hb dd_X12_moveAll_254 rfl (lv_at hl 1 rfl) ?_
  refine wk_get (v := .ref (q 34)) Sx ef_12 hK hP 24 rfl rfl 34 (by decide) kk_1135 rfl dd_X12_moveAll_255 ?_
  refine lv_iload_n hx hb dd_X12_moveAll_258 rfl (lv_at hl 0 rfl) ?_
  refine lv_iload_n hx hb dd_X12_moveAll_259 rfl (lv_at hl 2 rfl) ?_
  refine hk_i (wr := [(q 35, .inl (cy 0, 4, .inl (hours0))), (q 39, .inl (cy 0, 7, .inl (fun _ => 0))), (q 4, .inl (cy 0, 30, .inl (fun _ => 0))), (q 5, .inl (cy 0, 30, .inl (fun _ => 0))), (q 6, .inl (cy 0, 30, .inl (fun _ => 0))), (q 7, .inl (cy 0, 30, .inl (fun _ => 0))), (q 8, .inl (cy 0, 30, .inl (fun _ => 0))), (q 9, .inl (cy 0, 30, .inl (fun _ => 0))), (q 11, .inl (cy 0, 5, .inl (fun _ => 0))), (q 12, .inl (cy 0, 5, .inl (fun _ => 0))), (q 13, .inl (cy 0, 5, .inl (fun _ => 0))), (q 15, .inl (cy 0, 30, .inl (fun _ => 0))), (q 19, .inl (cy 0, 12, .inl (fun _ => 0))), (q 20, .inl (cy 0, 12, .inl (fun _ => 0))), (q 21, .inl (cy 0, 12, .inl (fun _ => 0))), (q 22, .inl (cy 0, 12, .inl (fun _ => 0))), (q 23, .inl (cy 0, 12, .inl (fun _ => 0))), (q 25, .inl (cy 0, 5, .inl (fun _ => 0))), (q 27, .inl (cy 0, 20, .inl (fun _ => 0))), (q 28, .inl (cy 0, 20, .inl (fun _ => 0))), (q 29, .inl (cy 0, 20, .inl (fun _ => 0))), (q 30, .inl (cy 0, 20, .inl (fun _ => 0))), (q 32, .inl (cy 0, 10, .inl (fun _ => 0))), (q 33, .inl (cy 0, 10, .inl (fun _ => 0)))]) (c1 := 0) (s1 := 0) [24, 0, 26] [1, 2, 3, 4, 5, 6, 7, 8, 9, 10, 11, 12, 13, 14, 15, 16, 17, 18, 19, 20, 21, 22, 23, 25] (hc_V [.ref (q 34), .int 397, .int 1] [] [24, 0, 26] Sx hl.1 ws_M_302 md_X12_move (c_M_move l D cy q (q 34) 397 16 (fun _ => 0) u90 (by decide)) ⟨Nat.le_of_ble_eq_true rfl, Nat.le_of_ble_eq_true rfl⟩ hP hD rfl (by decide) hK nx_b (nx_w hX) (va_recv hK hP (ci := 12) (q0 := 24) rfl rfl) rfl rfl (Nat.le_of_ble_eq_true rfl) dd_X12_moveAll_260 ⟨Nat.le_of_ble_eq_true rfl, Nat.le_of_ble_eq_true rfl⟩) hS hA hP hD rfl rfl (by decide) (by decide) rfl rfl (fun r93 u94 H locs hw95 hP hD hS => ?_)
  have hP : va_P D cls [(q 35, .inl (cy 0, 4, .inl (hours0))), (q 39, .inl (cy 0, 7, .inl (fun _ => 0))), (q 4, .inl (cy 0, 30, .inl (fun _ => 0))), (q 5, .inl (cy 0, 30, .inl (fun _ => 0))), (q 6, .inl (cy 0, 30, .inl (fun _ => 0))), (q 7, .inl (cy 0, 30, .inl (fun _ => 0))), (q 8, .inl (cy 0, 30, .inl (fun _ => 0))), (q 9, .inl (cy 0, 30, .inl (fun _ => 0))), (q 11, .inl (cy 0, 5, .inl (fun _ => 0))), (q 12, .inl (cy 0, 5, .inl (fun _ => 0))), (q 13, .inl (cy 0, 5, .inl (fun _ => 0))), (q 15, .inl (cy 0, 30, .inl (fun _ => 0))), (q 19, .inl (cy 0, 12, .inl (fun _ => 0))), (q 20, .inl (cy 0, 12, .inl (fun _ => 0))), (q 21, .inl (cy 0, 12, .inl (fun _ => 0))), (q 22, .inl (cy 0, 12, .inl (fun _ => 0))), (q 23, .inl (cy 0, 12, .inl (fun _ => 0))), (q 25, .inl (cy 0, 5, .inl (fun _ => 0))), (q 27, .inl (cy 0, 20, .inl (fun _ => 0))), (q 28, .inl (cy 0, 20, .inl (fun _ => 0))), (q 29, .inl (cy 0, 20, .inl (fun _ => 0))), (q 30, .inl (cy 0, 20, .inl (fun _ => 0))), (q 32, .inl (cy 0, 10, .inl (fun _ => 0))), (q 33, .inl (cy 0, 10, .inl (fun _ => 0))), (q 60, .inr (12, fM q)), (q 34, .inl (cy 0, 16, .inl (fun _ => 0))), (q 38, .inl (cy 0, 460, .inl (u94)))] H := hP
  have hD : va_D A [(q 35, .inl (cy 0, 4, .inl (hours0))), (q 39, .inl (cy 0, 7, .inl (fun _ => 0))), (q 4, .inl (cy 0, 30, .inl (fun _ => 0))), (q 5, .inl (cy 0, 30, .inl (fun _ => 0))), (q 6, .inl (cy 0, 30, .inl (fun _ => 0))), (q 7, .inl (cy 0, 30, .inl (fun _ => 0))), (q 8, .inl (cy 0, 30, .inl (fun _ => 0))), (q 9, .inl (cy 0, 30, .inl (fun _ => 0))), (q 11, .inl (cy 0, 5, .inl (fun _ => 0))), (q 12, .inl (cy 0, 5, .inl (fun _ => 0))), (q 13, .inl (cy 0, 5, .inl (fun _ => 0))), (q 15, .inl (cy 0, 30, .inl (fun _ => 0))), (q 19, .inl (cy 0, 12, .inl (fun _ => 0))), (q 20, .inl (cy 0, 12, .inl (fun _ => 0))), (q 21, .inl (cy 0, 12, .inl (fun _ => 0))), (q 22, .inl (cy 0, 12, .inl (fun _ => 0))), (q 23, .inl (cy 0, 12, .inl (fun _ => 0))), (q 25, .inl (cy 0, 5, .inl (fun _ => 0))), (q 27, .inl (cy 0, 20, .inl (fun _ => 0))), (q 28, .inl (cy 0, 20, .inl (fun _ => 0))), (q 29, .inl (cy 0, 20, .inl (fun _ => 0))), (q 30, .inl (cy 0, 20, .inl (fun _ => 0))), (q 32, .inl (cy 0, 10, .inl (fun _ => 0))), (q 33, .inl (cy 0, 10, .inl (fun _ => 0))), (q 60, .inr (12, fM q)), (q 34, .inl (cy 0, 16, .inl (fun _ => 0))), (q 38, .inl (cy 0, 460, .inl (u94)))] := hD
  have hl96 : Int32.toInt 397 = 397 := rfl
  obtain rfl : r93 = 413 := ci_of (b := 413) rfl (by omega)
  refine lv_istore_n (lv' := [(2, .int 413), (0, .ref (q 60)), (1, .int 1)]) hx hb dd_X12_moveAll_263 rfl hl (by decide) rfl (fun ls hl => ?_)
  refine lv_aload_n hx hb dd_X12_moveAll_264 rfl (lv_at hl 1 rfl) ?_
  refine lv_aload_n hx hb dd_X12_moveAll_265 rfl (lv_at hl 1 rfl) ?_
  refine wk_get (v := .ref (q 35)) Sx ef_12 hK hP 24 rfl rfl 35 (by decide) kk_1136 rfl dd_X12_moveAll_266 ?_
  refine lv_iload_n hx hb dd_X12_moveAll_269 rfl (lv_at hl 0 rfl) ?_
  refine lv_iload_n hx hb dd_X12_moveAll_270 rfl (lv_at hl 2 rfl) ?_
  refine hk_i (wr := [(q 39, .inl (cy 0, 7, .inl (fun _ => 0))), (q 4, .inl (cy 0, 30, .inl (fun _ => 0))), (q 5, .inl (cy 0, 30, .inl (fun _ => 0))), (q 6, .inl (cy 0, 30, .inl (fun _ => 0))), (q 7, .inl (cy 0, 30, .inl (fun _ => 0))), (q 8, .inl (cy 0, 30, .inl (fun _ => 0))), (q 9, .inl (cy 0, 30, .inl (fun _ => 0))), (q 11, .inl (cy 0, 5, .inl (fun _ => 0))), (q 12, .inl (cy 0, 5, .inl (fun _ => 0))), (q 13, .inl (cy 0, 5, .inl (fun _ => 0))), (q 15, .inl (cy 0, 30, .inl (fun _ => 0))), (q 19, .inl (cy 0, 12, .inl (fun _ => 0))), (q 20, .inl (cy 0, 12, .inl (fun _ => 0))), (q 21, .inl (cy 0, 12, .inl (fun _ => 0))), (q 22, .inl (cy 0, 12, .inl (fun _ => 0))), (q 23, .inl (cy 0, 12, .inl (fun _ => 0))), (q 25, .inl (cy 0, 5, .inl (fun _ => 0))), (q 27, .inl (cy 0, 20, .inl (fun _ => 0))), (q 28, .inl (cy 0, 20, .inl (fun _ => 0))), (q 29, .inl (cy 0, 20, .inl (fun _ => 0))), (q 30, .inl (cy 0, 20, .inl (fun _ => 0))), (q 32, .inl (cy 0, 10, .inl (fun _ => 0))), (q 33, .inl (cy 0, 10, .inl (fun _ => 0))), (q 34, .inl (cy 0, 16, .inl (fun _ => 0)))]) (c1 := 0) (s1 := 0) [24, 0, 26] [1, 2, 3, 4, 5, 6, 7, 8, 9, 10, 11, 12, 13, 14, 15, 16, 17, 18, 19, 20, 21, 22, 23, 25] (hc_V [.ref (q 35), .int 413, .int 1] [] [24, 0, 26] Sx hl.1 ws_M_302 md_X12_move (c_M_move l D cy q (q 35) 413 4 hours0 u94 (by decide)) ⟨Nat.le_of_ble_eq_true rfl, Nat.le_of_ble_eq_true rfl⟩ hP hD rfl (by decide) hK nx_b (nx_w hX) (va_recv hK hP (ci := 12) (q0 := 24) rfl rfl) rfl rfl (Nat.le_of_ble_eq_true rfl) dd_X12_moveAll_271 ⟨Nat.le_of_ble_eq_true rfl, Nat.le_of_ble_eq_true rfl⟩) hS hA hP hD rfl rfl (by decide) (by decide) rfl rfl (fun r97 u98 H locs hw99 hP hD hS => ?_)
  have hP : va_P D cls [(q 39, .inl (cy 0, 7, .inl (fun _ => 0))), (q 4, .inl (cy 0, 30, .inl (fun _ => 0))), (q 5, .inl (cy 0, 30, .inl (fun _ => 0))), (q 6, .inl (cy 0, 30, .inl (fun _ => 0))), (q 7, .inl (cy 0, 30, .inl (fun _ => 0))), (q 8, .inl (cy 0, 30, .inl (fun _ => 0))), (q 9, .inl (cy 0, 30, .inl (fun _ => 0))), (q 11, .inl (cy 0, 5, .inl (fun _ => 0))), (q 12, .inl (cy 0, 5, .inl (fun _ => 0))), (q 13, .inl (cy 0, 5, .inl (fun _ => 0))), (q 15, .inl (cy 0, 30, .inl (fun _ => 0))), (q 19, .inl (cy 0, 12, .inl (fun _ => 0))), (q 20, .inl (cy 0, 12, .inl (fun _ => 0))), (q 21, .inl (cy 0, 12, .inl (fun _ => 0))), (q 22, .inl (cy 0, 12, .inl (fun _ => 0))), (q 23, .inl (cy 0, 12, .inl (fun _ => 0))), (q 25, .inl (cy 0, 5, .inl (fun _ => 0))), (q 27, .inl (cy 0, 20, .inl (fun _ => 0))), (q 28, .inl (cy 0, 20, .inl (fun _ => 0))), (q 29, .inl (cy 0, 20, .inl (fun _ => 0))), (q 30, .inl (cy 0, 20, .inl (fun _ => 0))), (q 32, .inl (cy 0, 10, .inl (fun _ => 0))), (q 33, .inl (cy 0, 10, .inl (fun _ => 0))), (q 34, .inl (cy 0, 16, .inl (fun _ => 0))), (q 60, .inr (12, fM q)), (q 35, .inl (cy 0, 4, .inl (hours0))), (q 38, .inl (cy 0, 460, .inl (u98)))] H := hP
  have hD : va_D A [(q 39, .inl (cy 0, 7, .inl (fun _ => 0))), (q 4, .inl (cy 0, 30, .inl (fun _ => 0))), (q 5, .inl (cy 0, 30, .inl (fun _ => 0))), (q 6, .inl (cy 0, 30, .inl (fun _ => 0))), (q 7, .inl (cy 0, 30, .inl (fun _ => 0))), (q 8, .inl (cy 0, 30, .inl (fun _ => 0))), (q 9, .inl (cy 0, 30, .inl (fun _ => 0))), (q 11, .inl (cy 0, 5, .inl (fun _ => 0))), (q 12, .inl (cy 0, 5, .inl (fun _ => 0))), (q 13, .inl (cy 0, 5, .inl (fun _ => 0))), (q 15, .inl (cy 0, 30, .inl (fun _ => 0))), (q 19, .inl (cy 0, 12, .inl (fun _ => 0))), (q 20, .inl (cy 0, 12, .inl (fun _ => 0))), (q 21, .inl (cy 0, 12, .inl (fun _ => 0))), (q 22, .inl (cy 0, 12, .inl (fun _ => 0))), (q 23, .inl (cy 0, 12, .inl (fun _ => 0))), (q 25, .inl (cy 0, 5, .inl (fun _ => 0))), (q 27, .inl (cy 0, 20, .inl (fun _ => 0))), (q 28, .inl (cy 0, 20, .inl (fun _ => 0))), (q 29, .inl (cy 0, 20, .inl (fun _ => 0))), (q 30, .inl (cy 0, 20, .inl (fun _ => 0))), (q 32, .inl (cy 0, 10, .inl (fun _ => 0))), (q 33, .inl (cy 0, 10, .inl (fun _ => 0))), (q 34, .inl (cy 0, 16, .inl (fun _ => 0))), (q 60, .inr (12, fM q)), (q 35, .inl (cy 0, 4, .inl (hours0))), (q 38, .inl (cy 0, 460, .inl (u98)))] := hD
  have hl100 : Int32.toInt 413 = 413 := rfl
  obtain rfl : r97 = 417 := ci_of (b := 417) rfl (by omega)
  refine lv_pop hx hb dd_X12_moveAll_274 rfl ?_
  exact hc_vret Sx hr hlocks dd_X12_moveAll_275 hS () trivial (hP.sub [24] rfl) (hD.sub [24] (by decide) rfl)
set_option maxHeartbeats 4000000 in
set_option maxRecDepth 100000 in
theorem c_M_pub_row (l : Launch) (D : va_G) (cy : Nat → ClassId) (q : Nat → Nat) (sf : Int32) (so : Int32) (nn : Int32) : HC l my_X12_row mb_X12_row 5 ((some .int)) (rmD 2 0 0) D (TY cy) [.ref (q 60), .int sf, .int so, .int nn] NX [(q 60, .inr (12, fM q)), (q 0, .inl (cy 0, 8, .inl (hold0))), (q 1, .inl (cy 0, 8, .inl (fun _ => 0))), (q 2, .inl (cy 2, 320, .inr (.inl (fun _ => 0)))), (q 36, .inl (cy 0, 7, .inl (fun _ => 0)))] (QI (S := Unit) D (fun r _ => if2 (0 ≤ sf.toInt ∧ sf.toInt ≤ 7 ∧ 0 ≤ so.toInt ∧ so.toInt ≤ 4 ∧ 0 ≤ nn.toInt ∧ nn.toInt ≤ 40) 1 (-2) r) (fun _ => [])) := by
  refine hc_intro (by decide) (Nat.le_of_ble_eq_true rfl) (fun p e s m below meth c A ls Sx hr hlocks hin hl hP hD hK hS hA hX => ?_)
  have hx := Sx.1
  have hb := Sx.2.1
  have hl : lv_has ls 5 [(0, .ref (q 60)), (1, .int sf), (2, .int so), (3, .int nn)] := hl
  have hP : va_P D cls [(q 60, .inr (12, fM q)), (q 0, .inl (cy 0, 8, .inl (hold0))), (q 1, .inl (cy 0, 8, .inl (fun _ => 0))), (q 2, .inl (cy 2, 320, .inr (.inl (fun _ => 0)))), (q 36, .inl (cy 0, 7, .inl (fun _ => 0)))] s.heap := hP
  have hD : va_D A [(q 60, .inr (12, fM q)), (q 0, .inl (cy 0, 8, .inl (hold0))), (q 1, .inl (cy 0, 8, .inl (fun _ => 0))), (q 2, .inl (cy 2, 320, .inr (.inl (fun _ => 0)))), (q 36, .inl (cy 0, 7, .inl (fun _ => 0)))] := hD
  refine lv_aload_n hx hb dd_X12_row_0 rfl (lv_at hl 0 rfl) ?_
  refine lv_iload_n hx hb dd_X12_row_1 rfl (lv_at hl 1 rfl) ?_
  refine pk_i (pc_V [.int sf] [] Sx hl.1 ws_M_148 md_X12_isShelf (c_M_isShelf l D cy q sf) ⟨rfl, rfl⟩ ⟨Nat.le_of_ble_eq_true rfl, Nat.le_of_ble_eq_true rfl⟩ p_nil hK ns_b (ns_w hX) (va_recv hK hP (ci := 12) (q0 := 0) rfl rfl) rfl rfl (Nat.le_of_ble_eq_true rfl) dd_X12_row_2 ⟨Nat.le_of_ble_eq_true rfl, Nat.le_of_ble_eq_true rfl⟩) (fun r1 hw2 => ?_)
  rcases hw2 with ⟨hw2, ehw2⟩ | ⟨hw2, ehw2⟩
  · subst ehw2
    refine lv_if_eq (tgt := 27) hx hb dd_X12_row_5 (by decide) (fun c => absurd c (by decide)) (fun _ => ?_)
    refine lv_iload_n hx hb dd_X12_row_8 rfl (lv_at hl 2 rfl) ?_
    refine lv_if_lt (tgt := 27) hx hb dd_X12_row_9 (by decide) (fun c3 => ?_) (fun c3 => ?_)
    · have fc3 := ci_lt (a := so.toInt) (b := 0) rfl rfl c3
      refine lv_aload_n hx hb dd_X12_row_27 rfl (lv_at hl 0 rfl) ?_
      refine lv_bipush (v := (-2)) hx hb dd_X12_row_28 (by decide) ?_
      refine hk_i (wr := [(q 0, .inl (cy 0, 8, .inl (hold0))), (q 1, .inl (cy 0, 8, .inl (fun _ => 0))), (q 2, .inl (cy 2, 320, .inr (.inl (fun _ => 0))))]) (c1 := 0) (s1 := 0) [0, 4] [1, 2, 3] (hc_V [.int (-2)] [] [0, 4] Sx hl.1 ws_M_152 md_X12_no (c_M_no_2 l D cy q) ⟨Nat.le_of_ble_eq_true rfl, Nat.le_of_ble_eq_true rfl⟩ hP hD rfl (by decide) hK nx_b (nx_w hX) (va_recv hK hP (ci := 12) (q0 := 0) rfl rfl) rfl rfl (Nat.le_of_ble_eq_true rfl) dd_X12_row_30 ⟨Nat.le_of_ble_eq_true rfl, Nat.le_of_ble_eq_true rfl⟩) hS hA hP hD rfl rfl (by decide) (by decide) rfl rfl (fun r4 u5 H locs hw6 hP hD hS => ?_)
      have hP : va_P D cls [(q 0, .inl (cy 0, 8, .inl (hold0))), (q 1, .inl (cy 0, 8, .inl (fun _ => 0))), (q 2, .inl (cy 2, 320, .inr (.inl (fun _ => 0))))] H := hP
      have hD : va_D A [(q 0, .inl (cy 0, 8, .inl (hold0))), (q 1, .inl (cy 0, 8, .inl (fun _ => 0))), (q 2, .inl (cy 2, 320, .inr (.inl (fun _ => 0))))] := hD
      subst hw6
      exact hc_ret Sx hr hlocks dd_X12_row_33 hS () (Or.inr ⟨by omega, rfl⟩) p_nil d_nil
    · have fc3 := ci_nlt (a := so.toInt) (b := 0) rfl rfl c3
      refine lv_iload_n hx hb dd_X12_row_12 rfl (lv_at hl 2 rfl) ?_
      refine lv_iconst (v := 4) hx hb dd_X12_row_13 (by decide) ?_
      refine lv_icmp_gt (tgt := 27) hx hb dd_X12_row_14 (by decide) (fun c7 => ?_) (fun c7 => ?_)
      · have fc7 := ci_lt (a := 4) (b := so.toInt) rfl rfl c7
        refine lv_aload_n hx hb dd_X12_row_27 rfl (lv_at hl 0 rfl) ?_
        refine lv_bipush (v := (-2)) hx hb dd_X12_row_28 (by decide) ?_
        refine hk_i (wr := [(q 0, .inl (cy 0, 8, .inl (hold0))), (q 1, .inl (cy 0, 8, .inl (fun _ => 0))), (q 2, .inl (cy 2, 320, .inr (.inl (fun _ => 0))))]) (c1 := 0) (s1 := 0) [0, 4] [1, 2, 3] (hc_V [.int (-2)] [] [0, 4] Sx hl.1 ws_M_152 md_X12_no (c_M_no_2 l D cy q) ⟨Nat.le_of_ble_eq_true rfl, Nat.le_of_ble_eq_true rfl⟩ hP hD rfl (by decide) hK nx_b (nx_w hX) (va_recv hK hP (ci := 12) (q0 := 0) rfl rfl) rfl rfl (Nat.le_of_ble_eq_true rfl) dd_X12_row_30 ⟨Nat.le_of_ble_eq_true rfl, Nat.le_of_ble_eq_true rfl⟩) hS hA hP hD rfl rfl (by decide) (by decide) rfl rfl (fun r8 u9 H locs hw10 hP hD hS => ?_)
        have hP : va_P D cls [(q 0, .inl (cy 0, 8, .inl (hold0))), (q 1, .inl (cy 0, 8, .inl (fun _ => 0))), (q 2, .inl (cy 2, 320, .inr (.inl (fun _ => 0))))] H := hP
        have hD : va_D A [(q 0, .inl (cy 0, 8, .inl (hold0))), (q 1, .inl (cy 0, 8, .inl (fun _ => 0))), (q 2, .inl (cy 2, 320, .inr (.inl (fun _ => 0))))] := hD
        subst hw10
        exact hc_ret Sx hr hlocks dd_X12_row_33 hS () (Or.inr ⟨by omega, rfl⟩) p_nil d_nil
      · have fc7 := ci_nlt (a := 4) (b := so.toInt) rfl rfl c7
        refine lv_iload_n hx hb dd_X12_row_17 rfl (lv_at hl 3 rfl) ?_
        refine lv_if_lt (tgt := 27) hx hb dd_X12_row_18 (by decide) (fun c11 => ?_) (fun c11 => ?_)
        · have fc11 := ci_lt (a := nn.toInt) (b := 0) rfl rfl c11
          refine lv_aload_n hx hb dd_X12_row_27 rfl (lv_at hl 0 rfl) ?_
          refine lv_bipush (v := (-2)) hx hb dd_X12_row_28 (by decide) ?_
          refine hk_i (wr := [(q 0, .inl (cy 0, 8, .inl (hold0))), (q 1, .inl (cy 0, 8, .inl (fun _ => 0))), (q 2, .inl (cy 2, 320, .inr (.inl (fun _ => 0))))]) (c1 := 0) (s1 := 0) [0, 4] [1, 2, 3] (hc_V [.int (-2)] [] [0, 4] Sx hl.1 ws_M_152 md_X12_no (c_M_no_2 l D cy q) ⟨Nat.le_of_ble_eq_true rfl, Nat.le_of_ble_eq_true rfl⟩ hP hD rfl (by decide) hK nx_b (nx_w hX) (va_recv hK hP (ci := 12) (q0 := 0) rfl rfl) rfl rfl (Nat.le_of_ble_eq_true rfl) dd_X12_row_30 ⟨Nat.le_of_ble_eq_true rfl, Nat.le_of_ble_eq_true rfl⟩) hS hA hP hD rfl rfl (by decide) (by decide) rfl rfl (fun r12 u13 H locs hw14 hP hD hS => ?_)
          have hP : va_P D cls [(q 0, .inl (cy 0, 8, .inl (hold0))), (q 1, .inl (cy 0, 8, .inl (fun _ => 0))), (q 2, .inl (cy 2, 320, .inr (.inl (fun _ => 0))))] H := hP
          have hD : va_D A [(q 0, .inl (cy 0, 8, .inl (hold0))), (q 1, .inl (cy 0, 8, .inl (fun _ => 0))), (q 2, .inl (cy 2, 320, .inr (.inl (fun _ => 0))))] := hD
          subst hw14
          exact hc_ret Sx hr hlocks dd_X12_row_33 hS () (Or.inr ⟨by omega, rfl⟩) p_nil d_nil
        · have fc11 := ci_nlt (a := nn.toInt) (b := 0) rfl rfl c11
          refine lv_iload_n hx hb dd_X12_row_21 rfl (lv_at hl 3 rfl) ?_
          refine lv_bipush (v := 40) hx hb dd_X12_row_22 (by decide) ?_
          refine lv_icmp_le (tgt := 34) hx hb dd_X12_row_24 (by decide) (fun c15 => ?_) (fun c15 => ?_)
          · have fc15 := ci_le (a := nn.toInt) (b := 40) rfl rfl c15
            refine lv_aload_n hx hb dd_X12_row_34 rfl (lv_at hl 0 rfl) ?_
            refine wk_get (v := .ref (q 0)) Sx ef_12 hK hP 0 rfl rfl 0 (by decide) kk_1101 rfl dd_X12_row_35 ?_
            refine lv_iload_n hx hb dd_X12_row_38 rfl (lv_at hl 1 rfl) ?_
            refine lv_bipush (v := 100) hx hb dd_X12_row_39 (by decide) ?_
            refine lv_iload_n hx hb dd_X12_row_41 rfl (lv_at hl 2 rfl) ?_
            refine lv_iadd hx hb dd_X12_row_42 ?_
            refine lv_topi (fun z16 ez16 => ?_)
            have fz16 : z16.toInt = 100 + so.toInt := by rw [ez16]; exact ti_add rfl rfl (by omega) (by omega)
            refine wk_iast (ws' := [(q 60, .inr (12, fM q)), (q 0, .inl (cy 0, 8, .inl (upd hold0 sf.toNatClampNeg z16))), (q 1, .inl (cy 0, 8, .inl (fun _ => 0))), (q 2, .inl (cy 2, 320, .inr (.inl (fun _ => 0)))), (q 36, .inl (cy 0, 7, .inl (fun _ => 0)))]) Sx hK hP hD hS 1 0 rfl rfl (vi_of (by omega)) dd_X12_row_43 rfl (fun H locs hP hD hS => ?_)
            refine lv_aload_n hx hb dd_X12_row_44 rfl (lv_at hl 0 rfl) ?_
            refine wk_get (v := .ref (q 1)) Sx ef_12 hK hP 0 rfl rfl 1 (by decide) kk_1102 rfl dd_X12_row_45 ?_
            refine lv_iload_n hx hb dd_X12_row_48 rfl (lv_at hl 1 rfl) ?_
            refine lv_iload_n hx hb dd_X12_row_49 rfl (lv_at hl 3 rfl) ?_
            refine wk_iast (ws' := [(q 60, .inr (12, fM q)), (q 0, .inl (cy 0, 8, .inl (upd hold0 sf.toNatClampNeg z16))), (q 1, .inl (cy 0, 8, .inl (upd (fun _ => 0) sf.toNatClampNeg nn))), (q 2, .inl (cy 2, 320, .inr (.inl (fun _ => 0)))), (q 36, .inl (cy 0, 7, .inl (fun _ => 0)))]) Sx hK hP hD hS 2 0 rfl rfl (vi_of (by omega)) dd_X12_row_50 rfl (fun H locs hP hD hS => ?_)
            refine lv_iconst (v := 0) hx hb dd_X12_row_51 (by decide) ?_
            refine lv_istore (lv' := [(4, .int 0), (0, .ref (q 60)), (1, .int sf), (2, .int so), (3, .int nn)]) hx hb dd_X12_row_52 hl (by decide) rfl (fun ls hl => ?_)
            have hlz18 : Int32.toInt 0 = 0 := rfl
            have hI21 : 0 ≤ (0 : Int32).toInt ∧ (0 : Int32).toInt ≤ 40 := ⟨by omega, by omega⟩
            refine gl1 54 5 (fun (u : Int32) => [(q 60, .inr (12, fM q)), (q 0, .inl (cy 0, 8, .inl (upd hold0 sf.toNatClampNeg z16))), (q 1, .inl (cy 0, 8, .inl (upd (fun _ => 0) sf.toNatClampNeg nn))), (q 2, .inl (cy 2, 320, .inr (.inl (fun _ => 0)))), (q 36, .inl (cy 0, 7, .inl (fun _ => 0)))]) (fun (u : Int32) => [(4, .int u), (0, .ref (q 60)), (1, .int sf), (2, .int so), (3, .int nn)]) (fun (u : Int32) => 0 ≤ u.toInt ∧ u.toInt ≤ 40) (fun (u : Int32) => (40 - u.toInt).toNat) (fun u H locs ls hI20 hl hP hD hS ih19 => ?_) 0 hI21 (lv_sub hl [0, 1, 2, 3, 4] rfl) hP hD hS
            obtain ⟨i17, ei17⟩ : ∃ y, y = u := ⟨_, rfl⟩
            subst ei17
            have hl : lv_has ls 5 [(4, .int i17), (0, .ref (q 60)), (1, .int sf), (2, .int so), (3, .int nn)] := hl
            have hP : va_P D cls [(q 60, .inr (12, fM q)), (q 0, .inl (cy 0, 8, .inl (upd hold0 sf.toNatClampNeg z16))), (q 1, .inl (cy 0, 8, .inl (upd (fun _ => 0) sf.toNatClampNeg nn))), (q 2, .inl (cy 2, 320, .inr (.inl (fun _ => 0)))), (q 36, .inl (cy 0, 7, .inl (fun _ => 0)))] H := hP
            have hD : va_D A [(q 60, .inr (12, fM q)), (q 0, .inl (cy 0, 8, .inl (upd hold0 sf.toNatClampNeg z16))), (q 1, .inl (cy 0, 8, .inl (upd (fun _ => 0) sf.toNatClampNeg nn))), (q 2, .inl (cy 2, 320, .inr (.inl (fun _ => 0)))), (q 36, .inl (cy 0, 7, .inl (fun _ => 0)))] := hD
            have hI20 : 0 ≤ i17.toInt ∧ i17.toInt ≤ 40 := hI20
            obtain ⟨iv22, iv23⟩ := hI20
            refine lv_iload hx hb dd_X12_row_54 (lv_at hl 0 rfl) ?_
            refine lv_bipush (v := 40) hx hb dd_X12_row_56 (by decide) ?_
            refine lv_icmp_ge (tgt := 80) hx hb dd_X12_row_58 (by decide) (fun c24 => ?_) (fun c24 => ?_)
            · have fc24 := ci_le (a := 40) (b := i17.toInt) rfl rfl c24
              refine lv_iconst (v := 1) hx hb dd_X12_row_80 (by decide) ?_
              exact hc_ret Sx hr hlocks dd_X12_row_81 hS () (Or.inl ⟨by omega, rfl⟩) p_nil d_nil
            · have fc24 := ci_nle (a := 40) (b := i17.toInt) rfl rfl c24
              refine lv_aload_n hx hb dd_X12_row_61 rfl (lv_at hl 1 rfl) ?_
              refine wk_get (v := .ref (q 2)) Sx ef_12 hK hP 0 rfl rfl 2 (by decide) kk_1103 rfl dd_X12_row_62 ?_
              refine lv_bipush (v := 40) hx hb dd_X12_row_65 (by decide) ?_
              refine lv_iload_n hx hb dd_X12_row_67 rfl (lv_at hl 2 rfl) ?_
              refine lv_imul hx hb dd_X12_row_68 ?_
              refine lv_topi (fun z25 ez25 => ?_)
              have fz25 : z25.toInt = 40 * sf.toInt := by rw [ez25]; exact ti_mul rfl rfl (by omega) (by omega)
              refine lv_iload hx hb dd_X12_row_69 (lv_at hl 0 rfl) ?_
              refine lv_iadd hx hb dd_X12_row_71 ?_
              refine lv_topi (fun z26 ez26 => ?_)
              have fz26 : z26.toInt = z25.toInt + i17.toInt := by rw [ez26]; exact ti_add rfl rfl (by omega) (by omega)
              refine lv_lconst (v := 0) hx hb dd_X12_row_72 rfl ?_
              refine wk_last (ws' := [(q 60, .inr (12, fM q)), (q 0, .inl (cy 0, 8, .inl (upd hold0 sf.toNatClampNeg z16))), (q 1, .inl (cy 0, 8, .inl (upd (fun _ => 0) sf.toNatClampNeg nn))), (q 2, .inl (cy 2, 320, .inr (.inl (fun _ => 0)))), (q 36, .inl (cy 0, 7, .inl (fun _ => 0)))]) Sx hK hP hD hS 3 2 rfl rfl (vi_of (by omega)) dd_X12_row_73 (by rw [updL_c]; rfl) (fun H locs hP hD hS => ?_)
              obtain ⟨z27, ez27⟩ : ∃ y : Int32, y = i17 + Int32.ofInt 1 := ⟨_, rfl⟩
              have fz27 : z27.toInt = i17.toInt + 1 := by rw [ez27]; exact ti_add rfl (show (Int32.ofInt 1).toInt = 1 by decide) (by omega) (by omega)
              refine lv_iinc (v := z27) (lv' := [(4, .int z27), (0, .ref (q 60)), (1, .int sf), (2, .int so), (3, .int nn)]) hx hb dd_X12_row_74 hl (k := 0) rfl ez27.symm (by decide) rfl (fun ls hl => ?_)
              refine lv_goto (tgt := 54) hx hb dd_X12_row_77 (by decide) ?_
              have hI28 : 0 ≤ z27.toInt ∧ z27.toInt ≤ 40 := ⟨by omega, by omega⟩
              have hm29 : (40 - z27.toInt).toNat < (40 - i17.toInt).toNat := by omega
              exact ih19 z27 H locs ls hI28 hm29 (lv_sub hl [0, 1, 2, 3, 4] rfl) hP hD hS
          · have fc15 := ci_nle (a := nn.toInt) (b := 40) rfl rfl c15
            refine lv_aload_n hx hb dd_X12_row_27 rfl (lv_at hl 0 rfl) ?_
            refine lv_bipush (v := (-2)) hx hb dd_X12_row_28 (by decide) ?_
            refine hk_i (wr := [(q 0, .inl (cy 0, 8, .inl (hold0))), (q 1, .inl (cy 0, 8, .inl (fun _ => 0))), (q 2, .inl (cy 2, 320, .inr (.inl (fun _ => 0))))]) (c1 := 0) (s1 := 0) [0, 4] [1, 2, 3] (hc_V [.int (-2)] [] [0, 4] Sx hl.1 ws_M_152 md_X12_no (c_M_no_2 l D cy q) ⟨Nat.le_of_ble_eq_true rfl, Nat.le_of_ble_eq_true rfl⟩ hP hD rfl (by decide) hK nx_b (nx_w hX) (va_recv hK hP (ci := 12) (q0 := 0) rfl rfl) rfl rfl (Nat.le_of_ble_eq_true rfl) dd_X12_row_30 ⟨Nat.le_of_ble_eq_true rfl, Nat.le_of_ble_eq_true rfl⟩) hS hA hP hD rfl rfl (by decide) (by decide) rfl rfl (fun r30 u31 H locs hw32 hP hD hS => ?_)
            have hP : va_P D cls [(q 0, .inl (cy 0, 8, .inl (hold0))), (q 1, .inl (cy 0, 8, .inl (fun _ => 0))), (q 2, .inl (cy 2, 320, .inr (.inl (fun _ => 0))))] H := hP
            have hD : va_D A [(q 0, .inl (cy 0, 8, .inl (hold0))), (q 1, .inl (cy 0, 8, .inl (fun _ => 0))), (q 2, .inl (cy 2, 320, .inr (.inl (fun _ => 0))))] := hD
            subst hw32
            exact hc_ret Sx hr hlocks dd_X12_row_33 hS () (Or.inr ⟨by omega, rfl⟩) p_nil d_nil
  · subst ehw2
    refine lv_if_eq (tgt := 27) hx hb dd_X12_row_5 (by decide) (fun _ => ?_) (fun c => absurd c (by decide))
    refine lv_aload_n hx hb dd_X12_row_27 rfl (lv_at hl 0 rfl) ?_
    refine lv_bipush (v := (-2)) hx hb dd_X12_row_28 (by decide) ?_
    refine hk_i (wr := [(q 0, .inl (cy 0, 8, .inl (hold0))), (q 1, .inl (cy 0, 8, .inl (fun _ => 0))), (q 2, .inl (cy 2, 320, .inr (.inl (fun _ => 0))))]) (c1 := 0) (s1 := 0) [0, 4] [1, 2, 3] (hc_V [.int (-2)] [] [0, 4] Sx hl.1 ws_M_152 md_X12_no (c_M_no_2 l D cy q) ⟨Nat.le_of_ble_eq_true rfl, Nat.le_of_ble_eq_true rfl⟩ hP hD rfl (by decide) hK nx_b (nx_w hX) (va_recv hK hP (ci := 12) (q0 := 0) rfl rfl) rfl rfl (Nat.le_of_ble_eq_true rfl) dd_X12_row_30 ⟨Nat.le_of_ble_eq_true rfl, Nat.le_of_ble_eq_true rfl⟩) hS hA hP hD rfl rfl (by decide) (by decide) rfl rfl (fun r33 u34 H locs hw35 hP hD hS => ?_)
    have hP : va_P D cls [(q 0, .inl (cy 0, 8, .inl (hold0))), (q 1, .inl (cy 0, 8, .inl (fun _ => 0))), (q 2, .inl (cy 2, 320, .inr (.inl (fun _ => 0))))] H := hP
    have hD : va_D A [(q 0, .inl (cy 0, 8, .inl (hold0))), (q 1, .inl (cy 0, 8, .inl (fun _ => 0))), (q 2, .inl (cy 2, 320, .inr (.inl (fun _ => 0))))] := hD
    subst hw35
    exact hc_ret Sx hr hlocks dd_X12_row_33 hS () (Or.inr ⟨by omega, rfl⟩) p_nil d_nil
set_option maxHeartbeats 4000000 in
set_option maxRecDepth 100000 in
theorem c_M_pub_set (l : Launch) (D : va_G) (cy : Nat → ClassId) (q : Nat → Nat) (sf : Int32) (ix : Int32) (lv : Int64) : HC l my_X12_set mb_X12_set 9 ((some .int)) (rmD 3 0 0) D (TY cy) [.ref (q 60), .int sf, .int ix, .long lv] NX [(q 60, .inr (12, fM q)), (q 0, .inl (cy 0, 8, .inl (hold0))), (q 36, .inl (cy 0, 7, .inl (fun _ => 0)))] (QI (S := Unit) D (fun r _ => if2 (0 ≤ sf.toInt ∧ sf.toInt ≤ 7) (-4) (-2) r) (fun _ => [])) := by
  refine hc_intro (by decide) (Nat.le_of_ble_eq_true rfl) (fun p e s m below meth c A ls Sx hr hlocks hin hl hP hD hK hS hA hX => ?_)
  have hx := Sx.1
  have hb := Sx.2.1
  have hl : lv_has ls 9 [(0, .ref (q 60)), (1, .int sf), (2, .int ix), (3, .long lv)] := hl
  have hP : va_P D cls [(q 60, .inr (12, fM q)), (q 0, .inl (cy 0, 8, .inl (hold0))), (q 36, .inl (cy 0, 7, .inl (fun _ => 0)))] s.heap := hP
  have hD : va_D A [(q 60, .inr (12, fM q)), (q 0, .inl (cy 0, 8, .inl (hold0))), (q 36, .inl (cy 0, 7, .inl (fun _ => 0)))] := hD
  refine lv_aload_n hx hb dd_X12_set_0 rfl (lv_at hl 0 rfl) ?_
  refine lv_iload_n hx hb dd_X12_set_1 rfl (lv_at hl 1 rfl) ?_
  refine pk_i (pc_V [.int sf] [] Sx hl.1 ws_M_159 md_X12_noRow (c_M_noRow l D cy q sf) ⟨rfl, rfl⟩ ⟨Nat.le_of_ble_eq_true rfl, Nat.le_of_ble_eq_true rfl⟩ (hP.sub [0, 1] rfl) hK ns_b (ns_w hX) (va_recv hK hP (ci := 12) (q0 := 0) rfl rfl) rfl rfl (Nat.le_of_ble_eq_true rfl) dd_X12_set_2 ⟨Nat.le_of_ble_eq_true rfl, Nat.le_of_ble_eq_true rfl⟩) (fun r1 hw2 => ?_)
  rcases hw2 with ⟨hw2, ehw2⟩ | ⟨hw2, ehw2⟩
  · subst ehw2
    refine lv_istore (lv' := [(5, .int (-4)), (0, .ref (q 60)), (1, .int sf), (2, .int ix), (3, .long lv)]) hx hb dd_X12_set_5 hl (by decide) rfl (fun ls hl => ?_)
    refine lv_iload hx hb dd_X12_set_7 (lv_at hl 0 rfl) ?_
    refine lv_if_ge (tgt := 19) hx hb dd_X12_set_9 (by decide) (fun c => absurd c (by decide)) (fun _ => ?_)
    refine lv_aload_n hx hb dd_X12_set_12 rfl (lv_at hl 1 rfl) ?_
    refine lv_iload hx hb dd_X12_set_13 (lv_at hl 0 rfl) ?_
    refine hk_i (wr := [(q 0, .inl (cy 0, 8, .inl (hold0)))]) (c1 := 0) (s1 := 0) [0, 2] [1] (hc_V [.int (-4)] [] [0, 2] Sx hl.1 ws_M_152 md_X12_no (c_M_no_4 l D cy q) ⟨Nat.le_of_ble_eq_true rfl, Nat.le_of_ble_eq_true rfl⟩ hP hD rfl (by decide) hK nx_b (nx_w hX) (va_recv hK hP (ci := 12) (q0 := 0) rfl rfl) rfl rfl (Nat.le_of_ble_eq_true rfl) dd_X12_set_15 ⟨Nat.le_of_ble_eq_true rfl, Nat.le_of_ble_eq_true rfl⟩) hS hA hP hD rfl rfl (by decide) (by decide) rfl rfl (fun r3 u4 H locs hw5 hP hD hS => ?_)
    have hP : va_P D cls [(q 0, .inl (cy 0, 8, .inl (hold0)))] H := hP
    have hD : va_D A [(q 0, .inl (cy 0, 8, .inl (hold0)))] := hD
    subst hw5
    exact hc_ret Sx hr hlocks dd_X12_set_18 hS () (Or.inl ⟨by omega, rfl⟩) p_nil d_nil
  · subst ehw2
    refine lv_istore (lv' := [(5, .int (-2)), (0, .ref (q 60)), (1, .int sf), (2, .int ix), (3, .long lv)]) hx hb dd_X12_set_5 hl (by decide) rfl (fun ls hl => ?_)
    refine lv_iload hx hb dd_X12_set_7 (lv_at hl 0 rfl) ?_
    refine lv_if_ge (tgt := 19) hx hb dd_X12_set_9 (by decide) (fun c => absurd c (by decide)) (fun _ => ?_)
    refine lv_aload_n hx hb dd_X12_set_12 rfl (lv_at hl 1 rfl) ?_
    refine lv_iload hx hb dd_X12_set_13 (lv_at hl 0 rfl) ?_
    refine hk_i (wr := [(q 0, .inl (cy 0, 8, .inl (hold0)))]) (c1 := 0) (s1 := 0) [0, 2] [1] (hc_V [.int (-2)] [] [0, 2] Sx hl.1 ws_M_152 md_X12_no (c_M_no_2 l D cy q) ⟨Nat.le_of_ble_eq_true rfl, Nat.le_of_ble_eq_true rfl⟩ hP hD rfl (by decide) hK nx_b (nx_w hX) (va_recv hK hP (ci := 12) (q0 := 0) rfl rfl) rfl rfl (Nat.le_of_ble_eq_true rfl) dd_X12_set_15 ⟨Nat.le_of_ble_eq_true rfl, Nat.le_of_ble_eq_true rfl⟩) hS hA hP hD rfl rfl (by decide) (by decide) rfl rfl (fun r6 u7 H locs hw8 hP hD hS => ?_)
    have hP : va_P D cls [(q 0, .inl (cy 0, 8, .inl (hold0)))] H := hP
    have hD : va_D A [(q 0, .inl (cy 0, 8, .inl (hold0)))] := hD
    subst hw8
    exact hc_ret Sx hr hlocks dd_X12_set_18 hS () (Or.inr ⟨by omega, rfl⟩) p_nil d_nil
set_option maxHeartbeats 4000000 in
set_option maxRecDepth 100000 in
theorem c_M_pub_copy (l : Launch) (D : va_G) (cy : Nat → ClassId) (q : Nat → Nat) (pp : Int32) (qq : Int32) (ia : Int32) (ib : Int32) (nn : Int32) : HC l my_X12_copy mb_X12_copy 7 ((some .int)) (rmD 2 0 0) D (TY cy) [.ref (q 60), .int pp, .int qq, .int ia, .int ib, .int nn] NX [(q 60, .inr (12, fM q)), (q 0, .inl (cy 0, 8, .inl (hold0))), (q 36, .inl (cy 0, 7, .inl (fun _ => 0)))] (QI (S := Unit) D (fun r _ => if2 (0 ≤ pp.toInt ∧ pp.toInt ≤ 7 ∧ 0 ≤ qq.toInt ∧ qq.toInt ≤ 7) (-4) (-2) r) (fun _ => [])) := by
  refine hc_intro (by decide) (Nat.le_of_ble_eq_true rfl) (fun p e s m below meth c A ls Sx hr hlocks hin hl hP hD hK hS hA hX => ?_)
  have hx := Sx.1
  have hb := Sx.2.1
  have hl : lv_has ls 7 [(0, .ref (q 60)), (1, .int pp), (2, .int qq), (3, .int ia), (4, .int ib), (5, .int nn)] := hl
  have hP : va_P D cls [(q 60, .inr (12, fM q)), (q 0, .inl (cy 0, 8, .inl (hold0))), (q 36, .inl (cy 0, 7, .inl (fun _ => 0)))] s.heap := hP
  have hD : va_D A [(q 60, .inr (12, fM q)), (q 0, .inl (cy 0, 8, .inl (hold0))), (q 36, .inl (cy 0, 7, .inl (fun _ => 0)))] := hD
  refine lv_aload_n hx hb dd_X12_copy_0 rfl (lv_at hl 0 rfl) ?_
  refine lv_iload_n hx hb dd_X12_copy_1 rfl (lv_at hl 1 rfl) ?_
  refine pk_i (pc_V [.int pp] [] Sx hl.1 ws_M_148 md_X12_isShelf (c_M_isShelf l D cy q pp) ⟨rfl, rfl⟩ ⟨Nat.le_of_ble_eq_true rfl, Nat.le_of_ble_eq_true rfl⟩ p_nil hK ns_b (ns_w hX) (va_recv hK hP (ci := 12) (q0 := 0) rfl rfl) rfl rfl (Nat.le_of_ble_eq_true rfl) dd_X12_copy_2 ⟨Nat.le_of_ble_eq_true rfl, Nat.le_of_ble_eq_true rfl⟩) (fun r1 hw2 => ?_)
  rcases hw2 with ⟨hw2, ehw2⟩ | ⟨hw2, ehw2⟩
  · subst ehw2
    refine lv_if_eq (tgt := 16) hx hb dd_X12_copy_5 (by decide) (fun c => absurd c (by decide)) (fun _ => ?_)
    refine lv_aload_n hx hb dd_X12_copy_8 rfl (lv_at hl 0 rfl) ?_
    refine lv_iload_n hx hb dd_X12_copy_9 rfl (lv_at hl 2 rfl) ?_
    refine pk_i (pc_V [.int qq] [] Sx hl.1 ws_M_148 md_X12_isShelf (c_M_isShelf l D cy q qq) ⟨rfl, rfl⟩ ⟨Nat.le_of_ble_eq_true rfl, Nat.le_of_ble_eq_true rfl⟩ p_nil hK ns_b (ns_w hX) (va_recv hK hP (ci := 12) (q0 := 0) rfl rfl) rfl rfl (Nat.le_of_ble_eq_true rfl) dd_X12_copy_10 ⟨Nat.le_of_ble_eq_true rfl, Nat.le_of_ble_eq_true rfl⟩) (fun r3 hw4 => ?_)
    rcases hw4 with ⟨hw4, ehw4⟩ | ⟨hw4, ehw4⟩
    · subst ehw4
      refine lv_if_ne (tgt := 23) hx hb dd_X12_copy_13 (by decide) (fun _ => ?_) (fun c => absurd c (by decide))
      refine lv_aload_n hx hb dd_X12_copy_23 rfl (lv_at hl 0 rfl) ?_
      refine lv_iload_n hx hb dd_X12_copy_24 rfl (lv_at hl 1 rfl) ?_
      refine pk_i (pc_V [.int pp] [] Sx hl.1 ws_M_156 md_X12_holdsThing (c_M_holdsThing l D cy q pp (by omega)) ⟨rfl, rfl⟩ ⟨Nat.le_of_ble_eq_true rfl, Nat.le_of_ble_eq_true rfl⟩ (hP.sub [0, 1] rfl) hK ns_b (ns_w hX) (va_recv hK hP (ci := 12) (q0 := 0) rfl rfl) rfl rfl (Nat.le_of_ble_eq_true rfl) dd_X12_copy_25 ⟨Nat.le_of_ble_eq_true rfl, Nat.le_of_ble_eq_true rfl⟩) (fun r5 hw6 => ?_)
      subst hw6
      refine lv_if_ne (tgt := 70) hx hb dd_X12_copy_28 (by decide) (fun c => absurd c (by decide)) (fun _ => ?_)
      refine lv_aload_n hx hb dd_X12_copy_31 rfl (lv_at hl 0 rfl) ?_
      refine lv_iload_n hx hb dd_X12_copy_32 rfl (lv_at hl 2 rfl) ?_
      refine pk_i (pc_V [.int qq] [] Sx hl.1 ws_M_156 md_X12_holdsThing (c_M_holdsThing l D cy q qq (by omega)) ⟨rfl, rfl⟩ ⟨Nat.le_of_ble_eq_true rfl, Nat.le_of_ble_eq_true rfl⟩ (hP.sub [0, 1] rfl) hK ns_b (ns_w hX) (va_recv hK hP (ci := 12) (q0 := 0) rfl rfl) rfl rfl (Nat.le_of_ble_eq_true rfl) dd_X12_copy_33 ⟨Nat.le_of_ble_eq_true rfl, Nat.le_of_ble_eq_true rfl⟩) (fun r7 hw8 => ?_)
      subst hw8
      refine lv_if_ne (tgt := 70) hx hb dd_X12_copy_36 (by decide) (fun c => absurd c (by decide)) (fun _ => ?_)
      refine lv_aload_n hx hb dd_X12_copy_39 rfl (lv_at hl 0 rfl) ?_
      refine lv_iload_n hx hb dd_X12_copy_40 rfl (lv_at hl 1 rfl) ?_
      refine pk_i (pc_V [.int pp] [] Sx hl.1 ws_M_162 md_X12_isRow (c_M_isRow l D cy q pp (by omega)) ⟨rfl, rfl⟩ ⟨Nat.le_of_ble_eq_true rfl, Nat.le_of_ble_eq_true rfl⟩ (hP.sub [0, 1] rfl) hK ns_b (ns_w hX) (va_recv hK hP (ci := 12) (q0 := 0) rfl rfl) rfl rfl (Nat.le_of_ble_eq_true rfl) dd_X12_copy_41 ⟨Nat.le_of_ble_eq_true rfl, Nat.le_of_ble_eq_true rfl⟩) (fun r9 hw10 => ?_)
      subst hw10
      refine lv_if_eq (tgt := 77) hx hb dd_X12_copy_44 (by decide) (fun _ => ?_) (fun c => absurd c (by decide))
      refine lv_aload_n hx hb dd_X12_copy_77 rfl (lv_at hl 0 rfl) ?_
      refine wk_get (v := .ref (q 0)) Sx ef_12 hK hP 0 rfl rfl 0 (by decide) kk_1101 rfl dd_X12_copy_78 ?_
      refine lv_iload_n hx hb dd_X12_copy_81 rfl (lv_at hl 1 rfl) ?_
      have hi11 : vp_in pp 8 := (vi_of (by omega))
      refine va_iald hx hb hK hP 1 0 rfl rfl hi11 dd_X12_copy_82 ?_
      refine wk_int (v := (-1)) (hold0_at _ (vi_lt hi11)) ?_
      refine lv_if_lt (tgt := 95) hx hb dd_X12_copy_83 (by decide) (fun _ => ?_) (fun c => absurd c (by decide))
      refine lv_aload_n hx hb dd_X12_copy_95 rfl (lv_at hl 0 rfl) ?_
      refine lv_bipush (v := (-4)) hx hb dd_X12_copy_96 (by decide) ?_
      refine hk_i (wr := [(q 0, .inl (cy 0, 8, .inl (hold0)))]) (c1 := 0) (s1 := 0) [0, 2] [1] (hc_V [.int (-4)] [] [0, 2] Sx hl.1 ws_M_152 md_X12_no (c_M_no_4 l D cy q) ⟨Nat.le_of_ble_eq_true rfl, Nat.le_of_ble_eq_true rfl⟩ hP hD rfl (by decide) hK nx_b (nx_w hX) (va_recv hK hP (ci := 12) (q0 := 0) rfl rfl) rfl rfl (Nat.le_of_ble_eq_true rfl) dd_X12_copy_98 ⟨Nat.le_of_ble_eq_true rfl, Nat.le_of_ble_eq_true rfl⟩) hS hA hP hD rfl rfl (by decide) (by decide) rfl rfl (fun r12 u13 H locs hw14 hP hD hS => ?_)
      have hP : va_P D cls [(q 0, .inl (cy 0, 8, .inl (hold0)))] H := hP
      have hD : va_D A [(q 0, .inl (cy 0, 8, .inl (hold0)))] := hD
      subst hw14
      exact hc_ret Sx hr hlocks dd_X12_copy_101 hS () (Or.inl ⟨by omega, rfl⟩) p_nil d_nil
    · subst ehw4
      refine lv_if_ne (tgt := 23) hx hb dd_X12_copy_13 (by decide) (fun c => absurd c (by decide)) (fun _ => ?_)
      refine lv_aload_n hx hb dd_X12_copy_16 rfl (lv_at hl 0 rfl) ?_
      refine lv_bipush (v := (-2)) hx hb dd_X12_copy_17 (by decide) ?_
      refine hk_i (wr := [(q 0, .inl (cy 0, 8, .inl (hold0)))]) (c1 := 0) (s1 := 0) [0, 2] [1] (hc_V [.int (-2)] [] [0, 2] Sx hl.1 ws_M_152 md_X12_no (c_M_no_2 l D cy q) ⟨Nat.le_of_ble_eq_true rfl, Nat.le_of_ble_eq_true rfl⟩ hP hD rfl (by decide) hK nx_b (nx_w hX) (va_recv hK hP (ci := 12) (q0 := 0) rfl rfl) rfl rfl (Nat.le_of_ble_eq_true rfl) dd_X12_copy_19 ⟨Nat.le_of_ble_eq_true rfl, Nat.le_of_ble_eq_true rfl⟩) hS hA hP hD rfl rfl (by decide) (by decide) rfl rfl (fun r15 u16 H locs hw17 hP hD hS => ?_)
      have hP : va_P D cls [(q 0, .inl (cy 0, 8, .inl (hold0)))] H := hP
      have hD : va_D A [(q 0, .inl (cy 0, 8, .inl (hold0)))] := hD
      subst hw17
      exact hc_ret Sx hr hlocks dd_X12_copy_22 hS () (Or.inr ⟨by omega, rfl⟩) p_nil d_nil
  · subst ehw2
    refine lv_if_eq (tgt := 16) hx hb dd_X12_copy_5 (by decide) (fun _ => ?_) (fun c => absurd c (by decide))
    refine lv_aload_n hx hb dd_X12_copy_16 rfl (lv_at hl 0 rfl) ?_
    refine lv_bipush (v := (-2)) hx hb dd_X12_copy_17 (by decide) ?_
    refine hk_i (wr := [(q 0, .inl (cy 0, 8, .inl (hold0)))]) (c1 := 0) (s1 := 0) [0, 2] [1] (hc_V [.int (-2)] [] [0, 2] Sx hl.1 ws_M_152 md_X12_no (c_M_no_2 l D cy q) ⟨Nat.le_of_ble_eq_true rfl, Nat.le_of_ble_eq_true rfl⟩ hP hD rfl (by decide) hK nx_b (nx_w hX) (va_recv hK hP (ci := 12) (q0 := 0) rfl rfl) rfl rfl (Nat.le_of_ble_eq_true rfl) dd_X12_copy_19 ⟨Nat.le_of_ble_eq_true rfl, Nat.le_of_ble_eq_true rfl⟩) hS hA hP hD rfl rfl (by decide) (by decide) rfl rfl (fun r18 u19 H locs hw20 hP hD hS => ?_)
    have hP : va_P D cls [(q 0, .inl (cy 0, 8, .inl (hold0)))] H := hP
    have hD : va_D A [(q 0, .inl (cy 0, 8, .inl (hold0)))] := hD
    subst hw20
    exact hc_ret Sx hr hlocks dd_X12_copy_22 hS () (Or.inr ⟨by omega, rfl⟩) p_nil d_nil
set_option maxHeartbeats 4000000 in
set_option maxRecDepth 100000 in
theorem c_M_pub_element (l : Launch) (D : va_G) (cy : Nat → ClassId) (q : Nat → Nat) (sf : Int32) (ix : Int32) : PC l my_X12_element mb_X12_element 3 ((some .long)) (rmD 2 0 0) D (TY cy) [.ref (q 60), .int sf, .int ix] NS [(q 60, .inr (12, fM q)), (q 0, .inl (cy 0, 8, .inl (hold0)))] (vp_Sl (fun r => r = 0)) := by
  refine pc_intro (by decide) (Nat.le_of_ble_eq_true rfl) (fun p e s m below meth c ls Sx hr hlocks hl hP hK hX => ?_)
  have hx := Sx.1
  have hb := Sx.2.1
  have hl : lv_has ls 3 [(0, .ref (q 60)), (1, .int sf), (2, .int ix)] := hl
  refine lv_aload_n hx hb dd_X12_element_0 rfl (lv_at hl 0 rfl) ?_
  refine lv_iload_n hx hb dd_X12_element_1 rfl (lv_at hl 1 rfl) ?_
  refine pk_i (pc_V [.int sf] [] Sx hl.1 ws_M_148 md_X12_isShelf (c_M_isShelf l D cy q sf) ⟨rfl, rfl⟩ ⟨Nat.le_of_ble_eq_true rfl, Nat.le_of_ble_eq_true rfl⟩ p_nil hK ns_b (ns_w hX) (va_recv hK hP (ci := 12) (q0 := 0) rfl rfl) rfl rfl (Nat.le_of_ble_eq_true rfl) dd_X12_element_2 ⟨Nat.le_of_ble_eq_true rfl, Nat.le_of_ble_eq_true rfl⟩) (fun r1 hw2 => ?_)
  rcases hw2 with ⟨hw2, ehw2⟩ | ⟨hw2, ehw2⟩
  · subst ehw2
    refine lv_if_eq (tgt := 30) hx hb dd_X12_element_5 (by decide) (fun c => absurd c (by decide)) (fun _ => ?_)
    refine lv_aload_n hx hb dd_X12_element_8 rfl (lv_at hl 0 rfl) ?_
    refine lv_iload_n hx hb dd_X12_element_9 rfl (lv_at hl 1 rfl) ?_
    refine pk_i (pc_V [.int sf] [] Sx hl.1 ws_M_162 md_X12_isRow (c_M_isRow l D cy q sf (by omega)) ⟨rfl, rfl⟩ ⟨Nat.le_of_ble_eq_true rfl, Nat.le_of_ble_eq_true rfl⟩ (hP.sub [0, 1] rfl) hK ns_b (ns_w hX) (va_recv hK hP (ci := 12) (q0 := 0) rfl rfl) rfl rfl (Nat.le_of_ble_eq_true rfl) dd_X12_element_10 ⟨Nat.le_of_ble_eq_true rfl, Nat.le_of_ble_eq_true rfl⟩) (fun r3 hw4 => ?_)
    subst hw4
    refine lv_if_eq (tgt := 30) hx hb dd_X12_element_13 (by decide) (fun _ => ?_) (fun c => absurd c (by decide))
    refine lv_lconst (v := 0) hx hb dd_X12_element_30 rfl ?_
    exact pc_lret Sx hr hlocks dd_X12_element_31 rfl
  · subst ehw2
    refine lv_if_eq (tgt := 30) hx hb dd_X12_element_5 (by decide) (fun _ => ?_) (fun c => absurd c (by decide))
    refine lv_lconst (v := 0) hx hb dd_X12_element_30 rfl ?_
    exact pc_lret Sx hr hlocks dd_X12_element_31 rfl
set_option maxHeartbeats 4000000 in
set_option maxRecDepth 100000 in
theorem c_M_pub_holds (l : Launch) (D : va_G) (cy : Nat → ClassId) (q : Nat → Nat) (sf : Int32) : PC l my_X12_holds mb_X12_holds 2 ((some .int)) (rmD 2 0 0) D (TY cy) [.ref (q 60), .int sf] NS [(q 60, .inr (12, fM q)), (q 0, .inl (cy 0, 8, .inl (hold0)))] (vp_Si (fun r => r = (-1))) := by
  refine pc_intro (by decide) (Nat.le_of_ble_eq_true rfl) (fun p e s m below meth c ls Sx hr hlocks hl hP hK hX => ?_)
  have hx := Sx.1
  have hb := Sx.2.1
  have hl : lv_has ls 2 [(0, .ref (q 60)), (1, .int sf)] := hl
  refine lv_aload_n hx hb dd_X12_holds_0 rfl (lv_at hl 0 rfl) ?_
  refine lv_iload_n hx hb dd_X12_holds_1 rfl (lv_at hl 1 rfl) ?_
  refine pk_i (pc_V [.int sf] [] Sx hl.1 ws_M_148 md_X12_isShelf (c_M_isShelf l D cy q sf) ⟨rfl, rfl⟩ ⟨Nat.le_of_ble_eq_true rfl, Nat.le_of_ble_eq_true rfl⟩ p_nil hK ns_b (ns_w hX) (va_recv hK hP (ci := 12) (q0 := 0) rfl rfl) rfl rfl (Nat.le_of_ble_eq_true rfl) dd_X12_holds_2 ⟨Nat.le_of_ble_eq_true rfl, Nat.le_of_ble_eq_true rfl⟩) (fun r1 hw2 => ?_)
  rcases hw2 with ⟨hw2, ehw2⟩ | ⟨hw2, ehw2⟩
  · subst ehw2
    refine lv_if_eq (tgt := 17) hx hb dd_X12_holds_5 (by decide) (fun c => absurd c (by decide)) (fun _ => ?_)
    refine lv_aload_n hx hb dd_X12_holds_8 rfl (lv_at hl 0 rfl) ?_
    refine wk_get (v := .ref (q 0)) Sx ef_12 hK hP 0 rfl rfl 0 (by decide) kk_1101 rfl dd_X12_holds_9 ?_
    refine lv_iload_n hx hb dd_X12_holds_12 rfl (lv_at hl 1 rfl) ?_
    have hi3 : vp_in sf 8 := (vi_of (by omega))
    refine va_iald hx hb hK hP 1 0 rfl rfl hi3 dd_X12_holds_13 ?_
    refine wk_int (v := (-1)) (hold0_at _ (vi_lt hi3)) ?_
    refine lv_if_ge (tgt := 19) hx hb dd_X12_holds_14 (by decide) (fun c => absurd c (by decide)) (fun _ => ?_)
    refine lv_iconst (v := (-1)) hx hb dd_X12_holds_17 (by decide) ?_
    exact pc_ret Sx hr hlocks rfl dd_X12_holds_18 rfl
  · subst ehw2
    refine lv_if_eq (tgt := 17) hx hb dd_X12_holds_5 (by decide) (fun _ => ?_) (fun c => absurd c (by decide))
    refine lv_iconst (v := (-1)) hx hb dd_X12_holds_17 (by decide) ?_
    exact pc_ret Sx hr hlocks rfl dd_X12_holds_18 rfl
set_option maxHeartbeats 4000000 in
set_option maxRecDepth 100000 in
theorem c_M_pub_show (l : Launch) (D : va_G) (cy : Nat → ClassId) (q : Nat → Nat) (sf : Int32) (th : Int32) : HC l my_X12_show mb_X12_show 3 ((some .int)) (rmD 2 0 0) D (TY cy) [.ref (q 60), .int sf, .int th] NX [(q 60, .inr (12, fM q)), (q 0, .inl (cy 0, 8, .inl (hold0))), (q 36, .inl (cy 0, 7, .inl (fun _ => 0)))] (QI (S := Unit) D (fun r _ => if2 (0 ≤ sf.toInt ∧ sf.toInt ≤ 7 ∧ (-1) ≤ th.toInt ∧ th.toInt ≤ (-1)) 1 (-2) r) (fun _ => [])) := by
  refine hc_intro (by decide) (Nat.le_of_ble_eq_true rfl) (fun p e s m below meth c A ls Sx hr hlocks hin hl hP hD hK hS hA hX => ?_)
  have hx := Sx.1
  have hb := Sx.2.1
  have hl : lv_has ls 3 [(0, .ref (q 60)), (1, .int sf), (2, .int th)] := hl
  have hP : va_P D cls [(q 60, .inr (12, fM q)), (q 0, .inl (cy 0, 8, .inl (hold0))), (q 36, .inl (cy 0, 7, .inl (fun _ => 0)))] s.heap := hP
  have hD : va_D A [(q 60, .inr (12, fM q)), (q 0, .inl (cy 0, 8, .inl (hold0))), (q 36, .inl (cy 0, 7, .inl (fun _ => 0)))] := hD
  refine lv_aload_n hx hb dd_X12_show_0 rfl (lv_at hl 0 rfl) ?_
  refine lv_iload_n hx hb dd_X12_show_1 rfl (lv_at hl 1 rfl) ?_
  refine pk_i (pc_V [.int sf] [] Sx hl.1 ws_M_148 md_X12_isShelf (c_M_isShelf l D cy q sf) ⟨rfl, rfl⟩ ⟨Nat.le_of_ble_eq_true rfl, Nat.le_of_ble_eq_true rfl⟩ p_nil hK ns_b (ns_w hX) (va_recv hK hP (ci := 12) (q0 := 0) rfl rfl) rfl rfl (Nat.le_of_ble_eq_true rfl) dd_X12_show_2 ⟨Nat.le_of_ble_eq_true rfl, Nat.le_of_ble_eq_true rfl⟩) (fun r1 hw2 => ?_)
  rcases hw2 with ⟨hw2, ehw2⟩ | ⟨hw2, ehw2⟩
  · subst ehw2
    refine lv_if_eq (tgt := 21) hx hb dd_X12_show_5 (by decide) (fun c => absurd c (by decide)) (fun _ => ?_)
    refine lv_iload_n hx hb dd_X12_show_8 rfl (lv_at hl 2 rfl) ?_
    refine lv_iconst (v := (-1)) hx hb dd_X12_show_9 (by decide) ?_
    refine lv_icmp_eq (tgt := 28) hx hb dd_X12_show_10 (by decide) (fun c3 => ?_) (fun c3 => ?_)
    · have fc3 := ci_eq (a := th.toInt) (b := (-1)) rfl rfl c3
      refine lv_aload_n hx hb dd_X12_show_28 rfl (lv_at hl 0 rfl) ?_
      refine wk_get (v := .ref (q 0)) Sx ef_12 hK hP 0 rfl rfl 0 (by decide) kk_1101 rfl dd_X12_show_29 ?_
      refine lv_iload_n hx hb dd_X12_show_32 rfl (lv_at hl 1 rfl) ?_
      refine lv_iload_n hx hb dd_X12_show_33 rfl (lv_at hl 2 rfl) ?_
      refine wk_iast (ws' := [(q 60, .inr (12, fM q)), (q 0, .inl (cy 0, 8, .inl (upd hold0 sf.toNatClampNeg th))), (q 36, .inl (cy 0, 7, .inl (fun _ => 0)))]) Sx hK hP hD hS 1 0 rfl rfl (vi_of (by omega)) dd_X12_show_34 rfl (fun H locs hP hD hS => ?_)
      refine lv_iconst (v := 1) hx hb dd_X12_show_35 (by decide) ?_
      exact hc_ret Sx hr hlocks dd_X12_show_36 hS () (Or.inl ⟨by omega, rfl⟩) p_nil d_nil
    · have fc3 := ci_ne (a := th.toInt) (b := (-1)) rfl rfl c3
      refine lv_aload_n hx hb dd_X12_show_13 rfl (lv_at hl 0 rfl) ?_
      refine lv_iload_n hx hb dd_X12_show_14 rfl (lv_at hl 2 rfl) ?_
      refine pk_i (pc_V [.int th] [] Sx hl.1 ws_M_165 md_X12_isThing (c_M_isThing l D cy q th) ⟨rfl, rfl⟩ ⟨Nat.le_of_ble_eq_true rfl, Nat.le_of_ble_eq_true rfl⟩ (hP.sub [0] rfl) hK ns_b (ns_w hX) (va_recv hK hP (ci := 12) (q0 := 0) rfl rfl) rfl rfl (Nat.le_of_ble_eq_true rfl) dd_X12_show_15 ⟨Nat.le_of_ble_eq_true rfl, Nat.le_of_ble_eq_true rfl⟩) (fun r4 hw5 => ?_)
      subst hw5
      refine lv_if_ne (tgt := 28) hx hb dd_X12_show_18 (by decide) (fun c => absurd c (by decide)) (fun _ => ?_)
      refine lv_aload_n hx hb dd_X12_show_21 rfl (lv_at hl 0 rfl) ?_
      refine lv_bipush (v := (-2)) hx hb dd_X12_show_22 (by decide) ?_
      refine hk_i (wr := [(q 0, .inl (cy 0, 8, .inl (hold0)))]) (c1 := 0) (s1 := 0) [0, 2] [1] (hc_V [.int (-2)] [] [0, 2] Sx hl.1 ws_M_152 md_X12_no (c_M_no_2 l D cy q) ⟨Nat.le_of_ble_eq_true rfl, Nat.le_of_ble_eq_true rfl⟩ hP hD rfl (by decide) hK nx_b (nx_w hX) (va_recv hK hP (ci := 12) (q0 := 0) rfl rfl) rfl rfl (Nat.le_of_ble_eq_true rfl) dd_X12_show_24 ⟨Nat.le_of_ble_eq_true rfl, Nat.le_of_ble_eq_true rfl⟩) hS hA hP hD rfl rfl (by decide) (by decide) rfl rfl (fun r6 u7 H locs hw8 hP hD hS => ?_)
      have hP : va_P D cls [(q 0, .inl (cy 0, 8, .inl (hold0)))] H := hP
      have hD : va_D A [(q 0, .inl (cy 0, 8, .inl (hold0)))] := hD
      subst hw8
      exact hc_ret Sx hr hlocks dd_X12_show_27 hS () (Or.inr ⟨by omega, rfl⟩) p_nil d_nil
  · subst ehw2
    refine lv_if_eq (tgt := 21) hx hb dd_X12_show_5 (by decide) (fun _ => ?_) (fun c => absurd c (by decide))
    refine lv_aload_n hx hb dd_X12_show_21 rfl (lv_at hl 0 rfl) ?_
    refine lv_bipush (v := (-2)) hx hb dd_X12_show_22 (by decide) ?_
    refine hk_i (wr := [(q 0, .inl (cy 0, 8, .inl (hold0)))]) (c1 := 0) (s1 := 0) [0, 2] [1] (hc_V [.int (-2)] [] [0, 2] Sx hl.1 ws_M_152 md_X12_no (c_M_no_2 l D cy q) ⟨Nat.le_of_ble_eq_true rfl, Nat.le_of_ble_eq_true rfl⟩ hP hD rfl (by decide) hK nx_b (nx_w hX) (va_recv hK hP (ci := 12) (q0 := 0) rfl rfl) rfl rfl (Nat.le_of_ble_eq_true rfl) dd_X12_show_24 ⟨Nat.le_of_ble_eq_true rfl, Nat.le_of_ble_eq_true rfl⟩) hS hA hP hD rfl rfl (by decide) (by decide) rfl rfl (fun r9 u10 H locs hw11 hP hD hS => ?_)
    have hP : va_P D cls [(q 0, .inl (cy 0, 8, .inl (hold0)))] H := hP
    have hD : va_D A [(q 0, .inl (cy 0, 8, .inl (hold0)))] := hD
    subst hw11
    exact hc_ret Sx hr hlocks dd_X12_show_27 hS () (Or.inr ⟨by omega, rfl⟩) p_nil d_nil
set_option maxHeartbeats 4000000 in
set_option maxRecDepth 100000 in
theorem c_M_pub_says (l : Launch) (D : va_G) (cy : Nat → ClassId) (q : Nat → Nat) (sf : Int32) (ki : Int32) : HC l my_X12_says mb_X12_says 4 ((some .int)) (rmD 2 0 0) D (TY cy) [.ref (q 60), .int sf, .int ki] NX [(q 60, .inr (12, fM q)), (q 0, .inl (cy 0, 8, .inl (hold0))), (q 36, .inl (cy 0, 7, .inl (fun _ => 0)))] (QI (S := Unit) D (fun r _ => if2 (0 ≤ sf.toInt ∧ sf.toInt ≤ 7 ∧ 0 ≤ ki.toInt ∧ ki.toInt ≤ 5) (-4) (-2) r) (fun _ => [])) := by
  refine hc_intro (by decide) (Nat.le_of_ble_eq_true rfl) (fun p e s m below meth c A ls Sx hr hlocks hin hl hP hD hK hS hA hX => ?_)
  have hx := Sx.1
  have hb := Sx.2.1
  have hl : lv_has ls 4 [(0, .ref (q 60)), (1, .int sf), (2, .int ki)] := hl
  have hP : va_P D cls [(q 60, .inr (12, fM q)), (q 0, .inl (cy 0, 8, .inl (hold0))), (q 36, .inl (cy 0, 7, .inl (fun _ => 0)))] s.heap := hP
  have hD : va_D A [(q 60, .inr (12, fM q)), (q 0, .inl (cy 0, 8, .inl (hold0))), (q 36, .inl (cy 0, 7, .inl (fun _ => 0)))] := hD
  refine lv_aload_n hx hb dd_X12_says_0 rfl (lv_at hl 0 rfl) ?_
  refine lv_iload_n hx hb dd_X12_says_1 rfl (lv_at hl 1 rfl) ?_
  refine pk_i (pc_V [.int sf] [] Sx hl.1 ws_M_148 md_X12_isShelf (c_M_isShelf l D cy q sf) ⟨rfl, rfl⟩ ⟨Nat.le_of_ble_eq_true rfl, Nat.le_of_ble_eq_true rfl⟩ p_nil hK ns_b (ns_w hX) (va_recv hK hP (ci := 12) (q0 := 0) rfl rfl) rfl rfl (Nat.le_of_ble_eq_true rfl) dd_X12_says_2 ⟨Nat.le_of_ble_eq_true rfl, Nat.le_of_ble_eq_true rfl⟩) (fun r1 hw2 => ?_)
  rcases hw2 with ⟨hw2, ehw2⟩ | ⟨hw2, ehw2⟩
  · subst ehw2
    refine lv_if_eq (tgt := 16) hx hb dd_X12_says_5 (by decide) (fun c => absurd c (by decide)) (fun _ => ?_)
    refine lv_aload_n hx hb dd_X12_says_8 rfl (lv_at hl 0 rfl) ?_
    refine lv_iload_n hx hb dd_X12_says_9 rfl (lv_at hl 2 rfl) ?_
    refine pk_i (pc_V [.int ki] [] Sx hl.1 ws_M_168 md_X12_isKind (c_M_isKind l D cy q ki) ⟨rfl, rfl⟩ ⟨Nat.le_of_ble_eq_true rfl, Nat.le_of_ble_eq_true rfl⟩ p_nil hK ns_b (ns_w hX) (va_recv hK hP (ci := 12) (q0 := 0) rfl rfl) rfl rfl (Nat.le_of_ble_eq_true rfl) dd_X12_says_10 ⟨Nat.le_of_ble_eq_true rfl, Nat.le_of_ble_eq_true rfl⟩) (fun r3 hw4 => ?_)
    rcases hw4 with ⟨hw4, ehw4⟩ | ⟨hw4, ehw4⟩
    · subst ehw4
      refine lv_if_ne (tgt := 23) hx hb dd_X12_says_13 (by decide) (fun _ => ?_) (fun c => absurd c (by decide))
      refine lv_aload_n hx hb dd_X12_says_23 rfl (lv_at hl 0 rfl) ?_
      refine lv_iload_n hx hb dd_X12_says_24 rfl (lv_at hl 1 rfl) ?_
      refine pk_i (pc_V [.int sf] [] Sx hl.1 ws_M_162 md_X12_isRow (c_M_isRow l D cy q sf (by omega)) ⟨rfl, rfl⟩ ⟨Nat.le_of_ble_eq_true rfl, Nat.le_of_ble_eq_true rfl⟩ (hP.sub [0, 1] rfl) hK ns_b (ns_w hX) (va_recv hK hP (ci := 12) (q0 := 0) rfl rfl) rfl rfl (Nat.le_of_ble_eq_true rfl) dd_X12_says_25 ⟨Nat.le_of_ble_eq_true rfl, Nat.le_of_ble_eq_true rfl⟩) (fun r5 hw6 => ?_)
      subst hw6
      refine lv_if_eq (tgt := 38) hx hb dd_X12_says_28 (by decide) (fun _ => ?_) (fun c => absurd c (by decide))
      refine lv_aload_n hx hb dd_X12_says_38 rfl (lv_at hl 0 rfl) ?_
      refine wk_get (v := .ref (q 0)) Sx ef_12 hK hP 0 rfl rfl 0 (by decide) kk_1101 rfl dd_X12_says_39 ?_
      refine lv_iload_n hx hb dd_X12_says_42 rfl (lv_at hl 1 rfl) ?_
      have hi7 : vp_in sf 8 := (vi_of (by omega))
      refine va_iald hx hb hK hP 1 0 rfl rfl hi7 dd_X12_says_43 ?_
      refine wk_int (v := (-1)) (hold0_at _ (vi_lt hi7)) ?_
      refine lv_if_ge (tgt := 54) hx hb dd_X12_says_44 (by decide) (fun c => absurd c (by decide)) (fun _ => ?_)
      refine lv_aload_n hx hb dd_X12_says_47 rfl (lv_at hl 0 rfl) ?_
      refine lv_bipush (v := (-4)) hx hb dd_X12_says_48 (by decide) ?_
      refine hk_i (wr := [(q 0, .inl (cy 0, 8, .inl (hold0)))]) (c1 := 0) (s1 := 0) [0, 2] [1] (hc_V [.int (-4)] [] [0, 2] Sx hl.1 ws_M_152 md_X12_no (c_M_no_4 l D cy q) ⟨Nat.le_of_ble_eq_true rfl, Nat.le_of_ble_eq_true rfl⟩ hP hD rfl (by decide) hK nx_b (nx_w hX) (va_recv hK hP (ci := 12) (q0 := 0) rfl rfl) rfl rfl (Nat.le_of_ble_eq_true rfl) dd_X12_says_50 ⟨Nat.le_of_ble_eq_true rfl, Nat.le_of_ble_eq_true rfl⟩) hS hA hP hD rfl rfl (by decide) (by decide) rfl rfl (fun r8 u9 H locs hw10 hP hD hS => ?_)
      have hP : va_P D cls [(q 0, .inl (cy 0, 8, .inl (hold0)))] H := hP
      have hD : va_D A [(q 0, .inl (cy 0, 8, .inl (hold0)))] := hD
      subst hw10
      exact hc_ret Sx hr hlocks dd_X12_says_53 hS () (Or.inl ⟨by omega, rfl⟩) p_nil d_nil
    · subst ehw4
      refine lv_if_ne (tgt := 23) hx hb dd_X12_says_13 (by decide) (fun c => absurd c (by decide)) (fun _ => ?_)
      refine lv_aload_n hx hb dd_X12_says_16 rfl (lv_at hl 0 rfl) ?_
      refine lv_bipush (v := (-2)) hx hb dd_X12_says_17 (by decide) ?_
      refine hk_i (wr := [(q 0, .inl (cy 0, 8, .inl (hold0)))]) (c1 := 0) (s1 := 0) [0, 2] [1] (hc_V [.int (-2)] [] [0, 2] Sx hl.1 ws_M_152 md_X12_no (c_M_no_2 l D cy q) ⟨Nat.le_of_ble_eq_true rfl, Nat.le_of_ble_eq_true rfl⟩ hP hD rfl (by decide) hK nx_b (nx_w hX) (va_recv hK hP (ci := 12) (q0 := 0) rfl rfl) rfl rfl (Nat.le_of_ble_eq_true rfl) dd_X12_says_19 ⟨Nat.le_of_ble_eq_true rfl, Nat.le_of_ble_eq_true rfl⟩) hS hA hP hD rfl rfl (by decide) (by decide) rfl rfl (fun r11 u12 H locs hw13 hP hD hS => ?_)
      have hP : va_P D cls [(q 0, .inl (cy 0, 8, .inl (hold0)))] H := hP
      have hD : va_D A [(q 0, .inl (cy 0, 8, .inl (hold0)))] := hD
      subst hw13
      exact hc_ret Sx hr hlocks dd_X12_says_22 hS () (Or.inr ⟨by omega, rfl⟩) p_nil d_nil
  · subst ehw2
    refine lv_if_eq (tgt := 16) hx hb dd_X12_says_5 (by decide) (fun _ => ?_) (fun c => absurd c (by decide))
    refine lv_aload_n hx hb dd_X12_says_16 rfl (lv_at hl 0 rfl) ?_
    refine lv_bipush (v := (-2)) hx hb dd_X12_says_17 (by decide) ?_
    refine hk_i (wr := [(q 0, .inl (cy 0, 8, .inl (hold0)))]) (c1 := 0) (s1 := 0) [0, 2] [1] (hc_V [.int (-2)] [] [0, 2] Sx hl.1 ws_M_152 md_X12_no (c_M_no_2 l D cy q) ⟨Nat.le_of_ble_eq_true rfl, Nat.le_of_ble_eq_true rfl⟩ hP hD rfl (by decide) hK nx_b (nx_w hX) (va_recv hK hP (ci := 12) (q0 := 0) rfl rfl) rfl rfl (Nat.le_of_ble_eq_true rfl) dd_X12_says_19 ⟨Nat.le_of_ble_eq_true rfl, Nat.le_of_ble_eq_true rfl⟩) hS hA hP hD rfl rfl (by decide) (by decide) rfl rfl (fun r14 u15 H locs hw16 hP hD hS => ?_)
    have hP : va_P D cls [(q 0, .inl (cy 0, 8, .inl (hold0)))] H := hP
    have hD : va_D A [(q 0, .inl (cy 0, 8, .inl (hold0)))] := hD
    subst hw16
    exact hc_ret Sx hr hlocks dd_X12_says_22 hS () (Or.inr ⟨by omega, rfl⟩) p_nil d_nil
set_option maxHeartbeats 4000000 in
set_option maxRecDepth 100000 in
theorem c_M_pub_thing (l : Launch) (D : va_G) (cy : Nat → ClassId) (q : Nat → Nat) (ki : Int32) (wo : Int32) (ch : Int32) : HC l my_X12_thing mb_X12_thing 5 ((some .int)) (rmD 2 0 0) D (TY cy) [.ref (q 60), .int ki, .int wo, .int ch] NX [(q 60, .inr (12, fM q)), (q 4, .inl (cy 0, 30, .inl (fun _ => 0))), (q 5, .inl (cy 0, 30, .inl (fun _ => 0))), (q 6, .inl (cy 0, 30, .inl (fun _ => 0))), (q 7, .inl (cy 0, 30, .inl (fun _ => 0))), (q 8, .inl (cy 0, 30, .inl (fun _ => 0))), (q 9, .inl (cy 0, 30, .inl (fun _ => 0))), (q 36, .inl (cy 0, 7, .inl (fun _ => 0)))] (QI (S := Unit) D (fun r _ => if2 (0 ≤ ki.toInt ∧ ki.toInt ≤ 5 ∧ 0 ≤ wo.toInt ∧ wo.toInt ≤ 999 ∧ 0 ≤ ch.toInt ∧ ch.toInt ≤ 255) 0 (-2) r) (fun _ => [])) := by
  refine hc_intro (by decide) (Nat.le_of_ble_eq_true rfl) (fun p e s m below meth c A ls Sx hr hlocks hin hl hP hD hK hS hA hX => ?_)
  have hx := Sx.1
  have hb := Sx.2.1
  have hl : lv_has ls 5 [(0, .ref (q 60)), (1, .int ki), (2, .int wo), (3, .int ch)] := hl
  have hP : va_P D cls [(q 60, .inr (12, fM q)), (q 4, .inl (cy 0, 30, .inl (fun _ => 0))), (q 5, .inl (cy 0, 30, .inl (fun _ => 0))), (q 6, .inl (cy 0, 30, .inl (fun _ => 0))), (q 7, .inl (cy 0, 30, .inl (fun _ => 0))), (q 8, .inl (cy 0, 30, .inl (fun _ => 0))), (q 9, .inl (cy 0, 30, .inl (fun _ => 0))), (q 36, .inl (cy 0, 7, .inl (fun _ => 0)))] s.heap := hP
  have hD : va_D A [(q 60, .inr (12, fM q)), (q 4, .inl (cy 0, 30, .inl (fun _ => 0))), (q 5, .inl (cy 0, 30, .inl (fun _ => 0))), (q 6, .inl (cy 0, 30, .inl (fun _ => 0))), (q 7, .inl (cy 0, 30, .inl (fun _ => 0))), (q 8, .inl (cy 0, 30, .inl (fun _ => 0))), (q 9, .inl (cy 0, 30, .inl (fun _ => 0))), (q 36, .inl (cy 0, 7, .inl (fun _ => 0)))] := hD
  refine lv_aload_n hx hb dd_X12_thing_0 rfl (lv_at hl 0 rfl) ?_
  refine lv_iload_n hx hb dd_X12_thing_1 rfl (lv_at hl 1 rfl) ?_
  refine pk_i (pc_V [.int ki] [] Sx hl.1 ws_M_168 md_X12_isKind (c_M_isKind l D cy q ki) ⟨rfl, rfl⟩ ⟨Nat.le_of_ble_eq_true rfl, Nat.le_of_ble_eq_true rfl⟩ p_nil hK ns_b (ns_w hX) (va_recv hK hP (ci := 12) (q0 := 0) rfl rfl) rfl rfl (Nat.le_of_ble_eq_true rfl) dd_X12_thing_2 ⟨Nat.le_of_ble_eq_true rfl, Nat.le_of_ble_eq_true rfl⟩) (fun r1 hw2 => ?_)
  rcases hw2 with ⟨hw2, ehw2⟩ | ⟨hw2, ehw2⟩
  · subst ehw2
    refine lv_if_eq (tgt := 30) hx hb dd_X12_thing_5 (by decide) (fun c => absurd c (by decide)) (fun _ => ?_)
    refine lv_iload_n hx hb dd_X12_thing_8 rfl (lv_at hl 2 rfl) ?_
    refine lv_if_lt (tgt := 30) hx hb dd_X12_thing_9 (by decide) (fun c3 => ?_) (fun c3 => ?_)
    · have fc3 := ci_lt (a := wo.toInt) (b := 0) rfl rfl c3
      refine lv_aload_n hx hb dd_X12_thing_30 rfl (lv_at hl 0 rfl) ?_
      refine lv_bipush (v := (-2)) hx hb dd_X12_thing_31 (by decide) ?_
      refine hk_i (wr := [(q 4, .inl (cy 0, 30, .inl (fun _ => 0))), (q 5, .inl (cy 0, 30, .inl (fun _ => 0))), (q 6, .inl (cy 0, 30, .inl (fun _ => 0))), (q 7, .inl (cy 0, 30, .inl (fun _ => 0))), (q 8, .inl (cy 0, 30, .inl (fun _ => 0))), (q 9, .inl (cy 0, 30, .inl (fun _ => 0)))]) (c1 := 0) (s1 := 0) [0, 7] [1, 2, 3, 4, 5, 6] (hc_V [.int (-2)] [] [0, 7] Sx hl.1 ws_M_152 md_X12_no (c_M_no_2 l D cy q) ⟨Nat.le_of_ble_eq_true rfl, Nat.le_of_ble_eq_true rfl⟩ hP hD rfl (by decide) hK nx_b (nx_w hX) (va_recv hK hP (ci := 12) (q0 := 0) rfl rfl) rfl rfl (Nat.le_of_ble_eq_true rfl) dd_X12_thing_33 ⟨Nat.le_of_ble_eq_true rfl, Nat.le_of_ble_eq_true rfl⟩) hS hA hP hD rfl rfl (by decide) (by decide) rfl rfl (fun r4 u5 H locs hw6 hP hD hS => ?_)
      have hP : va_P D cls [(q 4, .inl (cy 0, 30, .inl (fun _ => 0))), (q 5, .inl (cy 0, 30, .inl (fun _ => 0))), (q 6, .inl (cy 0, 30, .inl (fun _ => 0))), (q 7, .inl (cy 0, 30, .inl (fun _ => 0))), (q 8, .inl (cy 0, 30, .inl (fun _ => 0))), (q 9, .inl (cy 0, 30, .inl (fun _ => 0)))] H := hP
      have hD : va_D A [(q 4, .inl (cy 0, 30, .inl (fun _ => 0))), (q 5, .inl (cy 0, 30, .inl (fun _ => 0))), (q 6, .inl (cy 0, 30, .inl (fun _ => 0))), (q 7, .inl (cy 0, 30, .inl (fun _ => 0))), (q 8, .inl (cy 0, 30, .inl (fun _ => 0))), (q 9, .inl (cy 0, 30, .inl (fun _ => 0)))] := hD
      subst hw6
      exact hc_ret Sx hr hlocks dd_X12_thing_36 hS () (Or.inr ⟨by omega, rfl⟩) p_nil d_nil
    · have fc3 := ci_nlt (a := wo.toInt) (b := 0) rfl rfl c3
      refine lv_iload_n hx hb dd_X12_thing_12 rfl (lv_at hl 2 rfl) ?_
      refine lv_sipush (v := 999) hx hb dd_X12_thing_13 (by decide) ?_
      refine lv_icmp_gt (tgt := 30) hx hb dd_X12_thing_16 (by decide) (fun c7 => ?_) (fun c7 => ?_)
      · have fc7 := ci_lt (a := 999) (b := wo.toInt) rfl rfl c7
        refine lv_aload_n hx hb dd_X12_thing_30 rfl (lv_at hl 0 rfl) ?_
        refine lv_bipush (v := (-2)) hx hb dd_X12_thing_31 (by decide) ?_
        refine hk_i (wr := [(q 4, .inl (cy 0, 30, .inl (fun _ => 0))), (q 5, .inl (cy 0, 30, .inl (fun _ => 0))), (q 6, .inl (cy 0, 30, .inl (fun _ => 0))), (q 7, .inl (cy 0, 30, .inl (fun _ => 0))), (q 8, .inl (cy 0, 30, .inl (fun _ => 0))), (q 9, .inl (cy 0, 30, .inl (fun _ => 0)))]) (c1 := 0) (s1 := 0) [0, 7] [1, 2, 3, 4, 5, 6] (hc_V [.int (-2)] [] [0, 7] Sx hl.1 ws_M_152 md_X12_no (c_M_no_2 l D cy q) ⟨Nat.le_of_ble_eq_true rfl, Nat.le_of_ble_eq_true rfl⟩ hP hD rfl (by decide) hK nx_b (nx_w hX) (va_recv hK hP (ci := 12) (q0 := 0) rfl rfl) rfl rfl (Nat.le_of_ble_eq_true rfl) dd_X12_thing_33 ⟨Nat.le_of_ble_eq_true rfl, Nat.le_of_ble_eq_true rfl⟩) hS hA hP hD rfl rfl (by decide) (by decide) rfl rfl (fun r8 u9 H locs hw10 hP hD hS => ?_)
        have hP : va_P D cls [(q 4, .inl (cy 0, 30, .inl (fun _ => 0))), (q 5, .inl (cy 0, 30, .inl (fun _ => 0))), (q 6, .inl (cy 0, 30, .inl (fun _ => 0))), (q 7, .inl (cy 0, 30, .inl (fun _ => 0))), (q 8, .inl (cy 0, 30, .inl (fun _ => 0))), (q 9, .inl (cy 0, 30, .inl (fun _ => 0)))] H := hP
        have hD : va_D A [(q 4, .inl (cy 0, 30, .inl (fun _ => 0))), (q 5, .inl (cy 0, 30, .inl (fun _ => 0))), (q 6, .inl (cy 0, 30, .inl (fun _ => 0))), (q 7, .inl (cy 0, 30, .inl (fun _ => 0))), (q 8, .inl (cy 0, 30, .inl (fun _ => 0))), (q 9, .inl (cy 0, 30, .inl (fun _ => 0)))] := hD
        subst hw10
        exact hc_ret Sx hr hlocks dd_X12_thing_36 hS () (Or.inr ⟨by omega, rfl⟩) p_nil d_nil
      · have fc7 := ci_nlt (a := 999) (b := wo.toInt) rfl rfl c7
        refine lv_iload_n hx hb dd_X12_thing_19 rfl (lv_at hl 3 rfl) ?_
        refine lv_if_lt (tgt := 30) hx hb dd_X12_thing_20 (by decide) (fun c11 => ?_) (fun c11 => ?_)
        · have fc11 := ci_lt (a := ch.toInt) (b := 0) rfl rfl c11
          refine lv_aload_n hx hb dd_X12_thing_30 rfl (lv_at hl 0 rfl) ?_
          refine lv_bipush (v := (-2)) hx hb dd_X12_thing_31 (by decide) ?_
          refine hk_i (wr := [(q 4, .inl (cy 0, 30, .inl (fun _ => 0))), (q 5, .inl (cy 0, 30, .inl (fun _ => 0))), (q 6, .inl (cy 0, 30, .inl (fun _ => 0))), (q 7, .inl (cy 0, 30, .inl (fun _ => 0))), (q 8, .inl (cy 0, 30, .inl (fun _ => 0))), (q 9, .inl (cy 0, 30, .inl (fun _ => 0)))]) (c1 := 0) (s1 := 0) [0, 7] [1, 2, 3, 4, 5, 6] (hc_V [.int (-2)] [] [0, 7] Sx hl.1 ws_M_152 md_X12_no (c_M_no_2 l D cy q) ⟨Nat.le_of_ble_eq_true rfl, Nat.le_of_ble_eq_true rfl⟩ hP hD rfl (by decide) hK nx_b (nx_w hX) (va_recv hK hP (ci := 12) (q0 := 0) rfl rfl) rfl rfl (Nat.le_of_ble_eq_true rfl) dd_X12_thing_33 ⟨Nat.le_of_ble_eq_true rfl, Nat.le_of_ble_eq_true rfl⟩) hS hA hP hD rfl rfl (by decide) (by decide) rfl rfl (fun r12 u13 H locs hw14 hP hD hS => ?_)
          have hP : va_P D cls [(q 4, .inl (cy 0, 30, .inl (fun _ => 0))), (q 5, .inl (cy 0, 30, .inl (fun _ => 0))), (q 6, .inl (cy 0, 30, .inl (fun _ => 0))), (q 7, .inl (cy 0, 30, .inl (fun _ => 0))), (q 8, .inl (cy 0, 30, .inl (fun _ => 0))), (q 9, .inl (cy 0, 30, .inl (fun _ => 0)))] H := hP
          have hD : va_D A [(q 4, .inl (cy 0, 30, .inl (fun _ => 0))), (q 5, .inl (cy 0, 30, .inl (fun _ => 0))), (q 6, .inl (cy 0, 30, .inl (fun _ => 0))), (q 7, .inl (cy 0, 30, .inl (fun _ => 0))), (q 8, .inl (cy 0, 30, .inl (fun _ => 0))), (q 9, .inl (cy 0, 30, .inl (fun _ => 0)))] := hD
          subst hw14
          exact hc_ret Sx hr hlocks dd_X12_thing_36 hS () (Or.inr ⟨by omega, rfl⟩) p_nil d_nil
        · have fc11 := ci_nlt (a := ch.toInt) (b := 0) rfl rfl c11
          refine lv_iload_n hx hb dd_X12_thing_23 rfl (lv_at hl 3 rfl) ?_
          refine lv_sipush (v := 255) hx hb dd_X12_thing_24 (by decide) ?_
          refine lv_icmp_le (tgt := 37) hx hb dd_X12_thing_27 (by decide) (fun c15 => ?_) (fun c15 => ?_)
          · have fc15 := ci_le (a := ch.toInt) (b := 255) rfl rfl c15
            refine lv_aload_n hx hb dd_X12_thing_37 rfl (lv_at hl 0 rfl) ?_
            refine wk_get (v := .int 0) Sx ef_12 hK hP 0 rfl rfl 3 (by decide) kk_1104 rfl dd_X12_thing_38 ?_
            refine lv_bipush (v := 30) hx hb dd_X12_thing_41 (by decide) ?_
            refine lv_icmp_ne (tgt := 53) hx hb dd_X12_thing_43 (by decide) (fun _ => ?_) (fun c => absurd c (by decide))
            refine lv_aload_n hx hb dd_X12_thing_53 rfl (lv_at hl 0 rfl) ?_
            refine lv_dup hx hb dd_X12_thing_54 rfl ?_
            refine wk_get (v := .int 0) Sx ef_12 hK hP 0 rfl rfl 3 (by decide) kk_1104 rfl dd_X12_thing_55 ?_
            refine lv_dup_x1 hx hb dd_X12_thing_58 rfl rfl ?_
            refine lv_iconst (v := 1) hx hb dd_X12_thing_59 (by decide) ?_
            refine lv_iadd hx hb dd_X12_thing_60 ?_
            refine wk_int (v := 1) (by decide) ?_
            refine wk_put (ws' := [(q 60, .inr (12, (fM q).set 3 (.int 1))), (q 4, .inl (cy 0, 30, .inl (fun _ => 0))), (q 5, .inl (cy 0, 30, .inl (fun _ => 0))), (q 6, .inl (cy 0, 30, .inl (fun _ => 0))), (q 7, .inl (cy 0, 30, .inl (fun _ => 0))), (q 8, .inl (cy 0, 30, .inl (fun _ => 0))), (q 9, .inl (cy 0, 30, .inl (fun _ => 0))), (q 36, .inl (cy 0, 7, .inl (fun _ => 0)))]) Sx ef_12 hK hP hD hS 0 rfl rfl 3 (by decide) kk_1104 rfl rfl rfl (Nat.le_of_ble_eq_true rfl) dd_X12_thing_61 rfl (fun H locs hP hD hS => ?_)
            refine lv_istore (lv' := [(4, .int 0), (0, .ref (q 60)), (1, .int ki), (2, .int wo), (3, .int ch)]) hx hb dd_X12_thing_64 hl (by decide) rfl (fun ls hl => ?_)
            refine lv_aload_n hx hb dd_X12_thing_66 rfl (lv_at hl 1 rfl) ?_
            refine wk_get (v := .ref (q 4)) Sx ef_12 hK hP 0 rfl rfl 4 (by decide) kk_1105 rfl dd_X12_thing_67 ?_
            refine lv_iload hx hb dd_X12_thing_70 (lv_at hl 0 rfl) ?_
            refine lv_iload_n hx hb dd_X12_thing_72 rfl (lv_at hl 2 rfl) ?_
            refine wk_iast (ws' := [(q 60, .inr (12, (fM q).set 3 (.int 1))), (q 4, .inl (cy 0, 30, .inl (upd (fun _ => 0) (0 : Int32).toNatClampNeg ki))), (q 5, .inl (cy 0, 30, .inl (fun _ => 0))), (q 6, .inl (cy 0, 30, .inl (fun _ => 0))), (q 7, .inl (cy 0, 30, .inl (fun _ => 0))), (q 8, .inl (cy 0, 30, .inl (fun _ => 0))), (q 9, .inl (cy 0, 30, .inl (fun _ => 0))), (q 36, .inl (cy 0, 7, .inl (fun _ => 0)))]) Sx hK hP hD hS 1 0 rfl rfl (vi_of (by decide)) dd_X12_thing_73 rfl (fun H locs hP hD hS => ?_)
            refine lv_aload_n hx hb dd_X12_thing_74 rfl (lv_at hl 1 rfl) ?_
            refine wk_get (v := .ref (q 5)) Sx ef_12 hK hP 0 rfl rfl 5 (by decide) kk_1106 rfl dd_X12_thing_75 ?_
            refine lv_iload hx hb dd_X12_thing_78 (lv_at hl 0 rfl) ?_
            refine lv_iload_n hx hb dd_X12_thing_80 rfl (lv_at hl 3 rfl) ?_
            refine wk_iast (ws' := [(q 60, .inr (12, (fM q).set 3 (.int 1))), (q 4, .inl (cy 0, 30, .inl (upd (fun _ => 0) (0 : Int32).toNatClampNeg ki))), (q 5, .inl (cy 0, 30, .inl (upd (fun _ => 0) (0 : Int32).toNatClampNeg wo))), (q 6, .inl (cy 0, 30, .inl (fun _ => 0))), (q 7, .inl (cy 0, 30, .inl (fun _ => 0))), (q 8, .inl (cy 0, 30, .inl (fun _ => 0))), (q 9, .inl (cy 0, 30, .inl (fun _ => 0))), (q 36, .inl (cy 0, 7, .inl (fun _ => 0)))]) Sx hK hP hD hS 2 0 rfl rfl (vi_of (by decide)) dd_X12_thing_81 rfl (fun H locs hP hD hS => ?_)
            refine lv_aload_n hx hb dd_X12_thing_82 rfl (lv_at hl 1 rfl) ?_
            refine wk_get (v := .ref (q 6)) Sx ef_12 hK hP 0 rfl rfl 6 (by decide) kk_1107 rfl dd_X12_thing_83 ?_
            refine lv_iload hx hb dd_X12_thing_86 (lv_at hl 0 rfl) ?_
            refine lv_iload_n hx hb dd_X12_thing_88 rfl (lv_at hl 4 rfl) ?_
            refine wk_iast (ws' := [(q 60, .inr (12, (fM q).set 3 (.int 1))), (q 4, .inl (cy 0, 30, .inl (upd (fun _ => 0) (0 : Int32).toNatClampNeg ki))), (q 5, .inl (cy 0, 30, .inl (upd (fun _ => 0) (0 : Int32).toNatClampNeg wo))), (q 6, .inl (cy 0, 30, .inl (upd (fun _ => 0) (0 : Int32).toNatClampNeg ch))), (q 7, .inl (cy 0, 30, .inl (fun _ => 0))), (q 8, .inl (cy 0, 30, .inl (fun _ => 0))), (q 9, .inl (cy 0, 30, .inl (fun _ => 0))), (q 36, .inl (cy 0, 7, .inl (fun _ => 0)))]) Sx hK hP hD hS 3 0 rfl rfl (vi_of (by decide)) dd_X12_thing_89 rfl (fun H locs hP hD hS => ?_)
            refine lv_aload_n hx hb dd_X12_thing_90 rfl (lv_at hl 1 rfl) ?_
            refine wk_get (v := .ref (q 7)) Sx ef_12 hK hP 0 rfl rfl 7 (by decide) kk_1108 rfl dd_X12_thing_91 ?_
            refine lv_iload hx hb dd_X12_thing_94 (lv_at hl 0 rfl) ?_
            refine lv_iconst (v := (-1)) hx hb dd_X12_thing_96 (by decide) ?_
            refine wk_iast (ws' := [(q 60, .inr (12, (fM q).set 3 (.int 1))), (q 4, .inl (cy 0, 30, .inl (upd (fun _ => 0) (0 : Int32).toNatClampNeg ki))), (q 5, .inl (cy 0, 30, .inl (upd (fun _ => 0) (0 : Int32).toNatClampNeg wo))), (q 6, .inl (cy 0, 30, .inl (upd (fun _ => 0) (0 : Int32).toNatClampNeg ch))), (q 7, .inl (cy 0, 30, .inl (upd (fun _ => 0) (0 : Int32).toNatClampNeg (-1)))), (q 8, .inl (cy 0, 30, .inl (fun _ => 0))), (q 9, .inl (cy 0, 30, .inl (fun _ => 0))), (q 36, .inl (cy 0, 7, .inl (fun _ => 0)))]) Sx hK hP hD hS 4 0 rfl rfl (vi_of (by decide)) dd_X12_thing_97 rfl (fun H locs hP hD hS => ?_)
            refine lv_aload_n hx hb dd_X12_thing_98 rfl (lv_at hl 1 rfl) ?_
            refine wk_get (v := .ref (q 8)) Sx ef_12 hK hP 0 rfl rfl 8 (by decide) kk_1109 rfl dd_X12_thing_99 ?_
            refine lv_iload hx hb dd_X12_thing_102 (lv_at hl 0 rfl) ?_
            refine lv_iconst (v := (-1)) hx hb dd_X12_thing_104 (by decide) ?_
            refine wk_iast (ws' := [(q 60, .inr (12, (fM q).set 3 (.int 1))), (q 4, .inl (cy 0, 30, .inl (upd (fun _ => 0) (0 : Int32).toNatClampNeg ki))), (q 5, .inl (cy 0, 30, .inl (upd (fun _ => 0) (0 : Int32).toNatClampNeg wo))), (q 6, .inl (cy 0, 30, .inl (upd (fun _ => 0) (0 : Int32).toNatClampNeg ch))), (q 7, .inl (cy 0, 30, .inl (upd (fun _ => 0) (0 : Int32).toNatClampNeg (-1)))), (q 8, .inl (cy 0, 30, .inl (upd (fun _ => 0) (0 : Int32).toNatClampNeg (-1)))), (q 9, .inl (cy 0, 30, .inl (fun _ => 0))), (q 36, .inl (cy 0, 7, .inl (fun _ => 0)))]) Sx hK hP hD hS 5 0 rfl rfl (vi_of (by decide)) dd_X12_thing_105 rfl (fun H locs hP hD hS => ?_)
            refine lv_aload_n hx hb dd_X12_thing_106 rfl (lv_at hl 1 rfl) ?_
            refine wk_get (v := .ref (q 9)) Sx ef_12 hK hP 0 rfl rfl 9 (by decide) kk_1110 rfl dd_X12_thing_107 ?_
            refine lv_iload hx hb dd_X12_thing_110 (lv_at hl 0 rfl) ?_
            refine lv_iconst (v := (-1)) hx hb dd_X12_thing_112 (by decide) ?_
            refine wk_iast (ws' := [(q 60, .inr (12, (fM q).set 3 (.int 1))), (q 4, .inl (cy 0, 30, .inl (upd (fun _ => 0) (0 : Int32).toNatClampNeg ki))), (q 5, .inl (cy 0, 30, .inl (upd (fun _ => 0) (0 : Int32).toNatClampNeg wo))), (q 6, .inl (cy 0, 30, .inl (upd (fun _ => 0) (0 : Int32).toNatClampNeg ch))), (q 7, .inl (cy 0, 30, .inl (upd (fun _ => 0) (0 : Int32).toNatClampNeg (-1)))), (q 8, .inl (cy 0, 30, .inl (upd (fun _ => 0) (0 : Int32).toNatClampNeg (-1)))), (q 9, .inl (cy 0, 30, .inl (upd (fun _ => 0) (0 : Int32).toNatClampNeg (-1)))), (q 36, .inl (cy 0, 7, .inl (fun _ => 0)))]) Sx hK hP hD hS 6 0 rfl rfl (vi_of (by decide)) dd_X12_thing_113 rfl (fun H locs hP hD hS => ?_)
            refine lv_iload hx hb dd_X12_thing_114 (lv_at hl 0 rfl) ?_
            exact hc_ret Sx hr hlocks dd_X12_thing_116 hS () (Or.inl ⟨by omega, rfl⟩) p_nil d_nil
          · have fc15 := ci_nle (a := ch.toInt) (b := 255) rfl rfl c15
            refine lv_aload_n hx hb dd_X12_thing_30 rfl (lv_at hl 0 rfl) ?_
            refine lv_bipush (v := (-2)) hx hb dd_X12_thing_31 (by decide) ?_
            refine hk_i (wr := [(q 4, .inl (cy 0, 30, .inl (fun _ => 0))), (q 5, .inl (cy 0, 30, .inl (fun _ => 0))), (q 6, .inl (cy 0, 30, .inl (fun _ => 0))), (q 7, .inl (cy 0, 30, .inl (fun _ => 0))), (q 8, .inl (cy 0, 30, .inl (fun _ => 0))), (q 9, .inl (cy 0, 30, .inl (fun _ => 0)))]) (c1 := 0) (s1 := 0) [0, 7] [1, 2, 3, 4, 5, 6] (hc_V [.int (-2)] [] [0, 7] Sx hl.1 ws_M_152 md_X12_no (c_M_no_2 l D cy q) ⟨Nat.le_of_ble_eq_true rfl, Nat.le_of_ble_eq_true rfl⟩ hP hD rfl (by decide) hK nx_b (nx_w hX) (va_recv hK hP (ci := 12) (q0 := 0) rfl rfl) rfl rfl (Nat.le_of_ble_eq_true rfl) dd_X12_thing_33 ⟨Nat.le_of_ble_eq_true rfl, Nat.le_of_ble_eq_true rfl⟩) hS hA hP hD rfl rfl (by decide) (by decide) rfl rfl (fun r16 u17 H locs hw18 hP hD hS => ?_)
            have hP : va_P D cls [(q 4, .inl (cy 0, 30, .inl (fun _ => 0))), (q 5, .inl (cy 0, 30, .inl (fun _ => 0))), (q 6, .inl (cy 0, 30, .inl (fun _ => 0))), (q 7, .inl (cy 0, 30, .inl (fun _ => 0))), (q 8, .inl (cy 0, 30, .inl (fun _ => 0))), (q 9, .inl (cy 0, 30, .inl (fun _ => 0)))] H := hP
            have hD : va_D A [(q 4, .inl (cy 0, 30, .inl (fun _ => 0))), (q 5, .inl (cy 0, 30, .inl (fun _ => 0))), (q 6, .inl (cy 0, 30, .inl (fun _ => 0))), (q 7, .inl (cy 0, 30, .inl (fun _ => 0))), (q 8, .inl (cy 0, 30, .inl (fun _ => 0))), (q 9, .inl (cy 0, 30, .inl (fun _ => 0)))] := hD
            subst hw18
            exact hc_ret Sx hr hlocks dd_X12_thing_36 hS () (Or.inr ⟨by omega, rfl⟩) p_nil d_nil
  · subst ehw2
    refine lv_if_eq (tgt := 30) hx hb dd_X12_thing_5 (by decide) (fun _ => ?_) (fun c => absurd c (by decide))
    refine lv_aload_n hx hb dd_X12_thing_30 rfl (lv_at hl 0 rfl) ?_
    refine lv_bipush (v := (-2)) hx hb dd_X12_thing_31 (by decide) ?_
    refine hk_i (wr := [(q 4, .inl (cy 0, 30, .inl (fun _ => 0))), (q 5, .inl (cy 0, 30, .inl (fun _ => 0))), (q 6, .inl (cy 0, 30, .inl (fun _ => 0))), (q 7, .inl (cy 0, 30, .inl (fun _ => 0))), (q 8, .inl (cy 0, 30, .inl (fun _ => 0))), (q 9, .inl (cy 0, 30, .inl (fun _ => 0)))]) (c1 := 0) (s1 := 0) [0, 7] [1, 2, 3, 4, 5, 6] (hc_V [.int (-2)] [] [0, 7] Sx hl.1 ws_M_152 md_X12_no (c_M_no_2 l D cy q) ⟨Nat.le_of_ble_eq_true rfl, Nat.le_of_ble_eq_true rfl⟩ hP hD rfl (by decide) hK nx_b (nx_w hX) (va_recv hK hP (ci := 12) (q0 := 0) rfl rfl) rfl rfl (Nat.le_of_ble_eq_true rfl) dd_X12_thing_33 ⟨Nat.le_of_ble_eq_true rfl, Nat.le_of_ble_eq_true rfl⟩) hS hA hP hD rfl rfl (by decide) (by decide) rfl rfl (fun r19 u20 H locs hw21 hP hD hS => ?_)
    have hP : va_P D cls [(q 4, .inl (cy 0, 30, .inl (fun _ => 0))), (q 5, .inl (cy 0, 30, .inl (fun _ => 0))), (q 6, .inl (cy 0, 30, .inl (fun _ => 0))), (q 7, .inl (cy 0, 30, .inl (fun _ => 0))), (q 8, .inl (cy 0, 30, .inl (fun _ => 0))), (q 9, .inl (cy 0, 30, .inl (fun _ => 0)))] H := hP
    have hD : va_D A [(q 4, .inl (cy 0, 30, .inl (fun _ => 0))), (q 5, .inl (cy 0, 30, .inl (fun _ => 0))), (q 6, .inl (cy 0, 30, .inl (fun _ => 0))), (q 7, .inl (cy 0, 30, .inl (fun _ => 0))), (q 8, .inl (cy 0, 30, .inl (fun _ => 0))), (q 9, .inl (cy 0, 30, .inl (fun _ => 0)))] := hD
    subst hw21
    exact hc_ret Sx hr hlocks dd_X12_thing_36 hS () (Or.inr ⟨by omega, rfl⟩) p_nil d_nil
set_option maxHeartbeats 4000000 in
set_option maxRecDepth 100000 in
theorem c_M_pub_things (l : Launch) (D : va_G) (cy : Nat → ClassId) (q : Nat → Nat) (sf : Int32) (ki : Int32) (nn : Int32) : HC l my_X12_things mb_X12_things 8 ((some .int)) (rmD 3 0 0) D (TY cy) [.ref (q 60), .int sf, .int ki, .int nn] NX [(q 60, .inr (12, fM q)), (q 0, .inl (cy 0, 8, .inl (hold0))), (q 36, .inl (cy 0, 7, .inl (fun _ => 0)))] (QI (S := Unit) D (fun r _ => if2 (0 ≤ sf.toInt ∧ sf.toInt ≤ 7 ∧ 0 ≤ ki.toInt ∧ ki.toInt ≤ 5) (-4) (-2) r) (fun _ => [])) := by
  refine hc_intro (by decide) (Nat.le_of_ble_eq_true rfl) (fun p e s m below meth c A ls Sx hr hlocks hin hl hP hD hK hS hA hX => ?_)
  have hx := Sx.1
  have hb := Sx.2.1
  have hl : lv_has ls 8 [(0, .ref (q 60)), (1, .int sf), (2, .int ki), (3, .int nn)] := hl
  have hP : va_P D cls [(q 60, .inr (12, fM q)), (q 0, .inl (cy 0, 8, .inl (hold0))), (q 36, .inl (cy 0, 7, .inl (fun _ => 0)))] s.heap := hP
  have hD : va_D A [(q 60, .inr (12, fM q)), (q 0, .inl (cy 0, 8, .inl (hold0))), (q 36, .inl (cy 0, 7, .inl (fun _ => 0)))] := hD
  refine lv_aload_n hx hb dd_X12_things_0 rfl (lv_at hl 0 rfl) ?_
  refine lv_iload_n hx hb dd_X12_things_1 rfl (lv_at hl 1 rfl) ?_
  refine pk_i (pc_V [.int sf] [] Sx hl.1 ws_M_148 md_X12_isShelf (c_M_isShelf l D cy q sf) ⟨rfl, rfl⟩ ⟨Nat.le_of_ble_eq_true rfl, Nat.le_of_ble_eq_true rfl⟩ p_nil hK ns_b (ns_w hX) (va_recv hK hP (ci := 12) (q0 := 0) rfl rfl) rfl rfl (Nat.le_of_ble_eq_true rfl) dd_X12_things_2 ⟨Nat.le_of_ble_eq_true rfl, Nat.le_of_ble_eq_true rfl⟩) (fun r1 hw2 => ?_)
  rcases hw2 with ⟨hw2, ehw2⟩ | ⟨hw2, ehw2⟩
  · subst ehw2
    refine lv_if_eq (tgt := 16) hx hb dd_X12_things_5 (by decide) (fun c => absurd c (by decide)) (fun _ => ?_)
    refine lv_aload_n hx hb dd_X12_things_8 rfl (lv_at hl 0 rfl) ?_
    refine lv_iload_n hx hb dd_X12_things_9 rfl (lv_at hl 2 rfl) ?_
    refine pk_i (pc_V [.int ki] [] Sx hl.1 ws_M_168 md_X12_isKind (c_M_isKind l D cy q ki) ⟨rfl, rfl⟩ ⟨Nat.le_of_ble_eq_true rfl, Nat.le_of_ble_eq_true rfl⟩ p_nil hK ns_b (ns_w hX) (va_recv hK hP (ci := 12) (q0 := 0) rfl rfl) rfl rfl (Nat.le_of_ble_eq_true rfl) dd_X12_things_10 ⟨Nat.le_of_ble_eq_true rfl, Nat.le_of_ble_eq_true rfl⟩) (fun r3 hw4 => ?_)
    rcases hw4 with ⟨hw4, ehw4⟩ | ⟨hw4, ehw4⟩
    · subst ehw4
      refine lv_if_ne (tgt := 23) hx hb dd_X12_things_13 (by decide) (fun _ => ?_) (fun c => absurd c (by decide))
      refine lv_aload_n hx hb dd_X12_things_23 rfl (lv_at hl 0 rfl) ?_
      refine lv_iload_n hx hb dd_X12_things_24 rfl (lv_at hl 1 rfl) ?_
      refine pk_i (pc_V [.int sf] [] Sx hl.1 ws_M_159 md_X12_noRow (c_M_noRow l D cy q sf) ⟨rfl, rfl⟩ ⟨Nat.le_of_ble_eq_true rfl, Nat.le_of_ble_eq_true rfl⟩ (hP.sub [0, 1] rfl) hK ns_b (ns_w hX) (va_recv hK hP (ci := 12) (q0 := 0) rfl rfl) rfl rfl (Nat.le_of_ble_eq_true rfl) dd_X12_things_25 ⟨Nat.le_of_ble_eq_true rfl, Nat.le_of_ble_eq_true rfl⟩) (fun r5 hw6 => ?_)
      rcases hw6 with ⟨hw6, ehw6⟩ | ⟨hw6, ehw6⟩
      · subst ehw6
        refine lv_istore (lv' := [(4, .int (-4)), (0, .ref (q 60)), (1, .int sf), (2, .int ki), (3, .int nn)]) hx hb dd_X12_things_28 hl (by decide) rfl (fun ls hl => ?_)
        refine lv_iload hx hb dd_X12_things_30 (lv_at hl 0 rfl) ?_
        refine lv_if_ge (tgt := 42) hx hb dd_X12_things_32 (by decide) (fun c => absurd c (by decide)) (fun _ => ?_)
        refine lv_aload_n hx hb dd_X12_things_35 rfl (lv_at hl 1 rfl) ?_
        refine lv_iload hx hb dd_X12_things_36 (lv_at hl 0 rfl) ?_
        refine hk_i (wr := [(q 0, .inl (cy 0, 8, .inl (hold0)))]) (c1 := 0) (s1 := 0) [0, 2] [1] (hc_V [.int (-4)] [] [0, 2] Sx hl.1 ws_M_152 md_X12_no (c_M_no_4 l D cy q) ⟨Nat.le_of_ble_eq_true rfl, Nat.le_of_ble_eq_true rfl⟩ hP hD rfl (by decide) hK nx_b (nx_w hX) (va_recv hK hP (ci := 12) (q0 := 0) rfl rfl) rfl rfl (Nat.le_of_ble_eq_true rfl) dd_X12_things_38 ⟨Nat.le_of_ble_eq_true rfl, Nat.le_of_ble_eq_true rfl⟩) hS hA hP hD rfl rfl (by decide) (by decide) rfl rfl (fun r7 u8 H locs hw9 hP hD hS => ?_)
        have hP : va_P D cls [(q 0, .inl (cy 0, 8, .inl (hold0)))] H := hP
        have hD : va_D A [(q 0, .inl (cy 0, 8, .inl (hold0)))] := hD
        subst hw9
        exact hc_ret Sx hr hlocks dd_X12_things_41 hS () (Or.inl ⟨by omega, rfl⟩) p_nil d_nil
      · exfalso; omega
    · subst ehw4
      refine lv_if_ne (tgt := 23) hx hb dd_X12_things_13 (by decide) (fun c => absurd c (by decide)) (fun _ => ?_)
      refine lv_aload_n hx hb dd_X12_things_16 rfl (lv_at hl 0 rfl) ?_
      refine lv_bipush (v := (-2)) hx hb dd_X12_things_17 (by decide) ?_
      refine hk_i (wr := [(q 0, .inl (cy 0, 8, .inl (hold0)))]) (c1 := 0) (s1 := 0) [0, 2] [1] (hc_V [.int (-2)] [] [0, 2] Sx hl.1 ws_M_152 md_X12_no (c_M_no_2 l D cy q) ⟨Nat.le_of_ble_eq_true rfl, Nat.le_of_ble_eq_true rfl⟩ hP hD rfl (by decide) hK nx_b (nx_w hX) (va_recv hK hP (ci := 12) (q0 := 0) rfl rfl) rfl rfl (Nat.le_of_ble_eq_true rfl) dd_X12_things_19 ⟨Nat.le_of_ble_eq_true rfl, Nat.le_of_ble_eq_true rfl⟩) hS hA hP hD rfl rfl (by decide) (by decide) rfl rfl (fun r10 u11 H locs hw12 hP hD hS => ?_)
      have hP : va_P D cls [(q 0, .inl (cy 0, 8, .inl (hold0)))] H := hP
      have hD : va_D A [(q 0, .inl (cy 0, 8, .inl (hold0)))] := hD
      subst hw12
      exact hc_ret Sx hr hlocks dd_X12_things_22 hS () (Or.inr ⟨by omega, rfl⟩) p_nil d_nil
  · subst ehw2
    refine lv_if_eq (tgt := 16) hx hb dd_X12_things_5 (by decide) (fun _ => ?_) (fun c => absurd c (by decide))
    refine lv_aload_n hx hb dd_X12_things_16 rfl (lv_at hl 0 rfl) ?_
    refine lv_bipush (v := (-2)) hx hb dd_X12_things_17 (by decide) ?_
    refine hk_i (wr := [(q 0, .inl (cy 0, 8, .inl (hold0)))]) (c1 := 0) (s1 := 0) [0, 2] [1] (hc_V [.int (-2)] [] [0, 2] Sx hl.1 ws_M_152 md_X12_no (c_M_no_2 l D cy q) ⟨Nat.le_of_ble_eq_true rfl, Nat.le_of_ble_eq_true rfl⟩ hP hD rfl (by decide) hK nx_b (nx_w hX) (va_recv hK hP (ci := 12) (q0 := 0) rfl rfl) rfl rfl (Nat.le_of_ble_eq_true rfl) dd_X12_things_19 ⟨Nat.le_of_ble_eq_true rfl, Nat.le_of_ble_eq_true rfl⟩) hS hA hP hD rfl rfl (by decide) (by decide) rfl rfl (fun r13 u14 H locs hw15 hP hD hS => ?_)
    have hP : va_P D cls [(q 0, .inl (cy 0, 8, .inl (hold0)))] H := hP
    have hD : va_D A [(q 0, .inl (cy 0, 8, .inl (hold0)))] := hD
    subst hw15
    exact hc_ret Sx hr hlocks dd_X12_things_22 hS () (Or.inr ⟨by omega, rfl⟩) p_nil d_nil
set_option maxHeartbeats 4000000 in
set_option maxRecDepth 100000 in
theorem c_M_pub_thingOf (l : Launch) (D : va_G) (cy : Nat → ClassId) (q : Nat → Nat) (th : Int32) (wh : Int32) : HC l my_X12_thingOf mb_X12_thingOf 3 ((some .int)) (rmD 2 0 0) D (TY cy) [.ref (q 60), .int th, .int wh] NX [(q 60, .inr (12, fM q)), (q 36, .inl (cy 0, 7, .inl (fun _ => 0)))] (QI (S := Unit) D (fun r _ => r = (-2)) (fun _ => [])) := by
  refine hc_intro (by decide) (Nat.le_of_ble_eq_true rfl) (fun p e s m below meth c A ls Sx hr hlocks hin hl hP hD hK hS hA hX => ?_)
  have hx := Sx.1
  have hb := Sx.2.1
  have hl : lv_has ls 3 [(0, .ref (q 60)), (1, .int th), (2, .int wh)] := hl
  have hP : va_P D cls [(q 60, .inr (12, fM q)), (q 36, .inl (cy 0, 7, .inl (fun _ => 0)))] s.heap := hP
  have hD : va_D A [(q 60, .inr (12, fM q)), (q 36, .inl (cy 0, 7, .inl (fun _ => 0)))] := hD
  refine lv_aload_n hx hb dd_X12_thingOf_0 rfl (lv_at hl 0 rfl) ?_
  refine lv_iload_n hx hb dd_X12_thingOf_1 rfl (lv_at hl 1 rfl) ?_
  refine pk_i (pc_V [.int th] [] Sx hl.1 ws_M_165 md_X12_isThing (c_M_isThing l D cy q th) ⟨rfl, rfl⟩ ⟨Nat.le_of_ble_eq_true rfl, Nat.le_of_ble_eq_true rfl⟩ (hP.sub [0] rfl) hK ns_b (ns_w hX) (va_recv hK hP (ci := 12) (q0 := 0) rfl rfl) rfl rfl (Nat.le_of_ble_eq_true rfl) dd_X12_thingOf_2 ⟨Nat.le_of_ble_eq_true rfl, Nat.le_of_ble_eq_true rfl⟩) (fun r1 hw2 => ?_)
  subst hw2
  refine lv_if_eq (tgt := 18) hx hb dd_X12_thingOf_5 (by decide) (fun _ => ?_) (fun c => absurd c (by decide))
  refine lv_aload_n hx hb dd_X12_thingOf_18 rfl (lv_at hl 0 rfl) ?_
  refine lv_bipush (v := (-2)) hx hb dd_X12_thingOf_19 (by decide) ?_
  refine hk_i (wr := []) (c1 := 0) (s1 := 0) [0, 1] [] (hc_V [.int (-2)] [] [0, 1] Sx hl.1 ws_M_152 md_X12_no (c_M_no_2 l D cy q) ⟨Nat.le_of_ble_eq_true rfl, Nat.le_of_ble_eq_true rfl⟩ hP hD rfl (by decide) hK nx_b (nx_w hX) (va_recv hK hP (ci := 12) (q0 := 0) rfl rfl) rfl rfl (Nat.le_of_ble_eq_true rfl) dd_X12_thingOf_21 ⟨Nat.le_of_ble_eq_true rfl, Nat.le_of_ble_eq_true rfl⟩) hS hA hP hD rfl rfl (by decide) (by decide) rfl rfl (fun r3 u4 H locs hw5 hP hD hS => ?_)
  have hP : va_P D cls [] H := hP
  have hD : va_D A [] := hD
  subst hw5
  exact hc_ret Sx hr hlocks dd_X12_thingOf_24 hS () rfl p_nil d_nil
set_option maxHeartbeats 4000000 in
set_option maxRecDepth 100000 in
theorem c_M_pub_chip (l : Launch) (D : va_G) (cy : Nat → ClassId) (q : Nat → Nat) (th : Int32) (ch : Int32) : HC l my_X12_chip mb_X12_chip 3 ((some .int)) (rmD 2 0 0) D (TY cy) [.ref (q 60), .int th, .int ch] NX [(q 60, .inr (12, fM q)), (q 36, .inl (cy 0, 7, .inl (fun _ => 0)))] (QI (S := Unit) D (fun r _ => r = (-2)) (fun _ => [])) := by
  refine hc_intro (by decide) (Nat.le_of_ble_eq_true rfl) (fun p e s m below meth c A ls Sx hr hlocks hin hl hP hD hK hS hA hX => ?_)
  have hx := Sx.1
  have hb := Sx.2.1
  have hl : lv_has ls 3 [(0, .ref (q 60)), (1, .int th), (2, .int ch)] := hl
  have hP : va_P D cls [(q 60, .inr (12, fM q)), (q 36, .inl (cy 0, 7, .inl (fun _ => 0)))] s.heap := hP
  have hD : va_D A [(q 60, .inr (12, fM q)), (q 36, .inl (cy 0, 7, .inl (fun _ => 0)))] := hD
  refine lv_aload_n hx hb dd_X12_chip_0 rfl (lv_at hl 0 rfl) ?_
  refine lv_iload_n hx hb dd_X12_chip_1 rfl (lv_at hl 1 rfl) ?_
  refine pk_i (pc_V [.int th] [] Sx hl.1 ws_M_165 md_X12_isThing (c_M_isThing l D cy q th) ⟨rfl, rfl⟩ ⟨Nat.le_of_ble_eq_true rfl, Nat.le_of_ble_eq_true rfl⟩ (hP.sub [0] rfl) hK ns_b (ns_w hX) (va_recv hK hP (ci := 12) (q0 := 0) rfl rfl) rfl rfl (Nat.le_of_ble_eq_true rfl) dd_X12_chip_2 ⟨Nat.le_of_ble_eq_true rfl, Nat.le_of_ble_eq_true rfl⟩) (fun r1 hw2 => ?_)
  subst hw2
  refine lv_if_eq (tgt := 18) hx hb dd_X12_chip_5 (by decide) (fun _ => ?_) (fun c => absurd c (by decide))
  refine lv_aload_n hx hb dd_X12_chip_18 rfl (lv_at hl 0 rfl) ?_
  refine lv_bipush (v := (-2)) hx hb dd_X12_chip_19 (by decide) ?_
  refine hk_i (wr := []) (c1 := 0) (s1 := 0) [0, 1] [] (hc_V [.int (-2)] [] [0, 1] Sx hl.1 ws_M_152 md_X12_no (c_M_no_2 l D cy q) ⟨Nat.le_of_ble_eq_true rfl, Nat.le_of_ble_eq_true rfl⟩ hP hD rfl (by decide) hK nx_b (nx_w hX) (va_recv hK hP (ci := 12) (q0 := 0) rfl rfl) rfl rfl (Nat.le_of_ble_eq_true rfl) dd_X12_chip_21 ⟨Nat.le_of_ble_eq_true rfl, Nat.le_of_ble_eq_true rfl⟩) hS hA hP hD rfl rfl (by decide) (by decide) rfl rfl (fun r3 u4 H locs hw5 hP hD hS => ?_)
  have hP : va_P D cls [] H := hP
  have hD : va_D A [] := hD
  subst hw5
  exact hc_ret Sx hr hlocks dd_X12_chip_24 hS () rfl p_nil d_nil
set_option maxHeartbeats 4000000 in
set_option maxRecDepth 100000 in
theorem c_M_pub_goes (l : Launch) (D : va_G) (cy : Nat → ClassId) (q : Nat → Nat) (la : Int32) (lw : Int32) : HC l my_X12_goes mb_X12_goes 4 ((some .int)) (rmD 2 0 0) D (TY cy) [.ref (q 60), .int la, .int lw] NX [(q 60, .inr (12, fM q)), (q 36, .inl (cy 0, 7, .inl (fun _ => 0)))] (QI (S := Unit) D (fun r _ => r = (-2)) (fun _ => [])) := by
  refine hc_intro (by decide) (Nat.le_of_ble_eq_true rfl) (fun p e s m below meth c A ls Sx hr hlocks hin hl hP hD hK hS hA hX => ?_)
  have hx := Sx.1
  have hb := Sx.2.1
  have hl : lv_has ls 4 [(0, .ref (q 60)), (1, .int la), (2, .int lw)] := hl
  have hP : va_P D cls [(q 60, .inr (12, fM q)), (q 36, .inl (cy 0, 7, .inl (fun _ => 0)))] s.heap := hP
  have hD : va_D A [(q 60, .inr (12, fM q)), (q 36, .inl (cy 0, 7, .inl (fun _ => 0)))] := hD
  refine lv_aload_n hx hb dd_X12_goes_0 rfl (lv_at hl 0 rfl) ?_
  refine lv_iload_n hx hb dd_X12_goes_1 rfl (lv_at hl 1 rfl) ?_
  refine pk_i (pc_V [.int la] [] Sx hl.1 ws_M_193 md_X12_isLady (c_M_isLady l D cy q la) ⟨rfl, rfl⟩ ⟨Nat.le_of_ble_eq_true rfl, Nat.le_of_ble_eq_true rfl⟩ (hP.sub [0] rfl) hK ns_b (ns_w hX) (va_recv hK hP (ci := 12) (q0 := 0) rfl rfl) rfl rfl (Nat.le_of_ble_eq_true rfl) dd_X12_goes_2 ⟨Nat.le_of_ble_eq_true rfl, Nat.le_of_ble_eq_true rfl⟩) (fun r1 hw2 => ?_)
  subst hw2
  refine lv_if_eq (tgt := 21) hx hb dd_X12_goes_5 (by decide) (fun _ => ?_) (fun c => absurd c (by decide))
  refine lv_aload_n hx hb dd_X12_goes_21 rfl (lv_at hl 0 rfl) ?_
  refine lv_bipush (v := (-2)) hx hb dd_X12_goes_22 (by decide) ?_
  refine hk_i (wr := []) (c1 := 0) (s1 := 0) [0, 1] [] (hc_V [.int (-2)] [] [0, 1] Sx hl.1 ws_M_152 md_X12_no (c_M_no_2 l D cy q) ⟨Nat.le_of_ble_eq_true rfl, Nat.le_of_ble_eq_true rfl⟩ hP hD rfl (by decide) hK nx_b (nx_w hX) (va_recv hK hP (ci := 12) (q0 := 0) rfl rfl) rfl rfl (Nat.le_of_ble_eq_true rfl) dd_X12_goes_24 ⟨Nat.le_of_ble_eq_true rfl, Nat.le_of_ble_eq_true rfl⟩) hS hA hP hD rfl rfl (by decide) (by decide) rfl rfl (fun r3 u4 H locs hw5 hP hD hS => ?_)
  have hP : va_P D cls [] H := hP
  have hD : va_D A [] := hD
  subst hw5
  exact hc_ret Sx hr hlocks dd_X12_goes_27 hS () rfl p_nil d_nil
set_option maxHeartbeats 4000000 in
set_option maxRecDepth 100000 in
theorem c_M_pub_lawOf (l : Launch) (D : va_G) (cy : Nat → ClassId) (q : Nat → Nat) (lw : Int32) (wh : Int32) : HC l my_X12_lawOf mb_X12_lawOf 3 ((some .int)) (rmD 2 0 0) D (TY cy) [.ref (q 60), .int lw, .int wh] NX [(q 60, .inr (12, fM q)), (q 36, .inl (cy 0, 7, .inl (fun _ => 0)))] (QI (S := Unit) D (fun r _ => r = (-2)) (fun _ => [])) := by
  refine hc_intro (by decide) (Nat.le_of_ble_eq_true rfl) (fun p e s m below meth c A ls Sx hr hlocks hin hl hP hD hK hS hA hX => ?_)
  have hx := Sx.1
  have hb := Sx.2.1
  have hl : lv_has ls 3 [(0, .ref (q 60)), (1, .int lw), (2, .int wh)] := hl
  have hP : va_P D cls [(q 60, .inr (12, fM q)), (q 36, .inl (cy 0, 7, .inl (fun _ => 0)))] s.heap := hP
  have hD : va_D A [(q 60, .inr (12, fM q)), (q 36, .inl (cy 0, 7, .inl (fun _ => 0)))] := hD
  refine lv_aload_n hx hb dd_X12_lawOf_0 rfl (lv_at hl 0 rfl) ?_
  refine lv_iload_n hx hb dd_X12_lawOf_1 rfl (lv_at hl 1 rfl) ?_
  refine pk_i (pc_V [.int lw] [] Sx hl.1 ws_M_196 md_X12_isLaw (c_M_isLaw l D cy q lw) ⟨rfl, rfl⟩ ⟨Nat.le_of_ble_eq_true rfl, Nat.le_of_ble_eq_true rfl⟩ (hP.sub [0] rfl) hK ns_b (ns_w hX) (va_recv hK hP (ci := 12) (q0 := 0) rfl rfl) rfl rfl (Nat.le_of_ble_eq_true rfl) dd_X12_lawOf_2 ⟨Nat.le_of_ble_eq_true rfl, Nat.le_of_ble_eq_true rfl⟩) (fun r1 hw2 => ?_)
  subst hw2
  refine lv_if_eq (tgt := 17) hx hb dd_X12_lawOf_5 (by decide) (fun _ => ?_) (fun c => absurd c (by decide))
  refine lv_aload_n hx hb dd_X12_lawOf_17 rfl (lv_at hl 0 rfl) ?_
  refine lv_bipush (v := (-2)) hx hb dd_X12_lawOf_18 (by decide) ?_
  refine hk_i (wr := []) (c1 := 0) (s1 := 0) [0, 1] [] (hc_V [.int (-2)] [] [0, 1] Sx hl.1 ws_M_152 md_X12_no (c_M_no_2 l D cy q) ⟨Nat.le_of_ble_eq_true rfl, Nat.le_of_ble_eq_true rfl⟩ hP hD rfl (by decide) hK nx_b (nx_w hX) (va_recv hK hP (ci := 12) (q0 := 0) rfl rfl) rfl rfl (Nat.le_of_ble_eq_true rfl) dd_X12_lawOf_20 ⟨Nat.le_of_ble_eq_true rfl, Nat.le_of_ble_eq_true rfl⟩) hS hA hP hD rfl rfl (by decide) (by decide) rfl rfl (fun r3 u4 H locs hw5 hP hD hS => ?_)
  have hP : va_P D cls [] H := hP
  have hD : va_D A [] := hD
  subst hw5
  exact hc_ret Sx hr hlocks dd_X12_lawOf_23 hS () rfl p_nil d_nil
set_option maxHeartbeats 4000000 in
set_option maxRecDepth 100000 in
theorem c_M_pub_thinks (l : Launch) (D : va_G) (cy : Nat → ClassId) (q : Nat → Nat) (la : Int32) (th : Int32) (lo : Int32) : HC l my_X12_thinks mb_X12_thinks 4 ((some .int)) (rmD 2 0 0) D (TY cy) [.ref (q 60), .int la, .int th, .int lo] NX [(q 60, .inr (12, fM q)), (q 36, .inl (cy 0, 7, .inl (fun _ => 0)))] (QI (S := Unit) D (fun r _ => r = (-2)) (fun _ => [])) := by
  refine hc_intro (by decide) (Nat.le_of_ble_eq_true rfl) (fun p e s m below meth c A ls Sx hr hlocks hin hl hP hD hK hS hA hX => ?_)
  have hx := Sx.1
  have hb := Sx.2.1
  have hl : lv_has ls 4 [(0, .ref (q 60)), (1, .int la), (2, .int th), (3, .int lo)] := hl
  have hP : va_P D cls [(q 60, .inr (12, fM q)), (q 36, .inl (cy 0, 7, .inl (fun _ => 0)))] s.heap := hP
  have hD : va_D A [(q 60, .inr (12, fM q)), (q 36, .inl (cy 0, 7, .inl (fun _ => 0)))] := hD
  refine lv_aload_n hx hb dd_X12_thinks_0 rfl (lv_at hl 0 rfl) ?_
  refine lv_iload_n hx hb dd_X12_thinks_1 rfl (lv_at hl 1 rfl) ?_
  refine pk_i (pc_V [.int la] [] Sx hl.1 ws_M_193 md_X12_isLady (c_M_isLady l D cy q la) ⟨rfl, rfl⟩ ⟨Nat.le_of_ble_eq_true rfl, Nat.le_of_ble_eq_true rfl⟩ (hP.sub [0] rfl) hK ns_b (ns_w hX) (va_recv hK hP (ci := 12) (q0 := 0) rfl rfl) rfl rfl (Nat.le_of_ble_eq_true rfl) dd_X12_thinks_2 ⟨Nat.le_of_ble_eq_true rfl, Nat.le_of_ble_eq_true rfl⟩) (fun r1 hw2 => ?_)
  subst hw2
  refine lv_if_eq (tgt := 16) hx hb dd_X12_thinks_5 (by decide) (fun _ => ?_) (fun c => absurd c (by decide))
  refine lv_aload_n hx hb dd_X12_thinks_16 rfl (lv_at hl 0 rfl) ?_
  refine lv_bipush (v := (-2)) hx hb dd_X12_thinks_17 (by decide) ?_
  refine hk_i (wr := []) (c1 := 0) (s1 := 0) [0, 1] [] (hc_V [.int (-2)] [] [0, 1] Sx hl.1 ws_M_152 md_X12_no (c_M_no_2 l D cy q) ⟨Nat.le_of_ble_eq_true rfl, Nat.le_of_ble_eq_true rfl⟩ hP hD rfl (by decide) hK nx_b (nx_w hX) (va_recv hK hP (ci := 12) (q0 := 0) rfl rfl) rfl rfl (Nat.le_of_ble_eq_true rfl) dd_X12_thinks_19 ⟨Nat.le_of_ble_eq_true rfl, Nat.le_of_ble_eq_true rfl⟩) hS hA hP hD rfl rfl (by decide) (by decide) rfl rfl (fun r3 u4 H locs hw5 hP hD hS => ?_)
  have hP : va_P D cls [] H := hP
  have hD : va_D A [] := hD
  subst hw5
  exact hc_ret Sx hr hlocks dd_X12_thinks_22 hS () rfl p_nil d_nil
set_option maxHeartbeats 4000000 in
set_option maxRecDepth 100000 in
theorem c_M_pub_price (l : Launch) (D : va_G) (cy : Nat → ClassId) (q : Nat → Nat) (la : Int32) (ki : Int32) : HC l my_X12_price mb_X12_price 5 ((some .int)) (rmD 2 0 0) D (TY cy) [.ref (q 60), .int la, .int ki] NX [(q 60, .inr (12, fM q)), (q 36, .inl (cy 0, 7, .inl (fun _ => 0)))] (QI (S := Unit) D (fun r _ => r = (-2)) (fun _ => [])) := by
  refine hc_intro (by decide) (Nat.le_of_ble_eq_true rfl) (fun p e s m below meth c A ls Sx hr hlocks hin hl hP hD hK hS hA hX => ?_)
  have hx := Sx.1
  have hb := Sx.2.1
  have hl : lv_has ls 5 [(0, .ref (q 60)), (1, .int la), (2, .int ki)] := hl
  have hP : va_P D cls [(q 60, .inr (12, fM q)), (q 36, .inl (cy 0, 7, .inl (fun _ => 0)))] s.heap := hP
  have hD : va_D A [(q 60, .inr (12, fM q)), (q 36, .inl (cy 0, 7, .inl (fun _ => 0)))] := hD
  refine lv_aload_n hx hb dd_X12_price_0 rfl (lv_at hl 0 rfl) ?_
  refine lv_iload_n hx hb dd_X12_price_1 rfl (lv_at hl 1 rfl) ?_
  refine pk_i (pc_V [.int la] [] Sx hl.1 ws_M_193 md_X12_isLady (c_M_isLady l D cy q la) ⟨rfl, rfl⟩ ⟨Nat.le_of_ble_eq_true rfl, Nat.le_of_ble_eq_true rfl⟩ (hP.sub [0] rfl) hK ns_b (ns_w hX) (va_recv hK hP (ci := 12) (q0 := 0) rfl rfl) rfl rfl (Nat.le_of_ble_eq_true rfl) dd_X12_price_2 ⟨Nat.le_of_ble_eq_true rfl, Nat.le_of_ble_eq_true rfl⟩) (fun r1 hw2 => ?_)
  subst hw2
  refine lv_if_eq (tgt := 16) hx hb dd_X12_price_5 (by decide) (fun _ => ?_) (fun c => absurd c (by decide))
  refine lv_aload_n hx hb dd_X12_price_16 rfl (lv_at hl 0 rfl) ?_
  refine lv_bipush (v := (-2)) hx hb dd_X12_price_17 (by decide) ?_
  refine hk_i (wr := []) (c1 := 0) (s1 := 0) [0, 1] [] (hc_V [.int (-2)] [] [0, 1] Sx hl.1 ws_M_152 md_X12_no (c_M_no_2 l D cy q) ⟨Nat.le_of_ble_eq_true rfl, Nat.le_of_ble_eq_true rfl⟩ hP hD rfl (by decide) hK nx_b (nx_w hX) (va_recv hK hP (ci := 12) (q0 := 0) rfl rfl) rfl rfl (Nat.le_of_ble_eq_true rfl) dd_X12_price_19 ⟨Nat.le_of_ble_eq_true rfl, Nat.le_of_ble_eq_true rfl⟩) hS hA hP hD rfl rfl (by decide) (by decide) rfl rfl (fun r3 u4 H locs hw5 hP hD hS => ?_)
  have hP : va_P D cls [] H := hP
  have hD : va_D A [] := hD
  subst hw5
  exact hc_ret Sx hr hlocks dd_X12_price_22 hS () rfl p_nil d_nil
set_option maxHeartbeats 4000000 in
set_option maxRecDepth 100000 in
theorem c_M_pub_mark (l : Launch) (D : va_G) (cy : Nat → ClassId) (q : Nat → Nat) (th : Int32) (va : Int32) : HC l my_X12_mark mb_X12_mark 4 ((some .int)) (rmD 2 0 0) D (TY cy) [.ref (q 60), .int th, .int va] NX [(q 60, .inr (12, fM q)), (q 36, .inl (cy 0, 7, .inl (fun _ => 0)))] (QI (S := Unit) D (fun r _ => r = (-2)) (fun _ => [])) := by
  refine hc_intro (by decide) (Nat.le_of_ble_eq_true rfl) (fun p e s m below meth c A ls Sx hr hlocks hin hl hP hD hK hS hA hX => ?_)
  have hx := Sx.1
  have hb := Sx.2.1
  have hl : lv_has ls 4 [(0, .ref (q 60)), (1, .int th), (2, .int va)] := hl
  have hP : va_P D cls [(q 60, .inr (12, fM q)), (q 36, .inl (cy 0, 7, .inl (fun _ => 0)))] s.heap := hP
  have hD : va_D A [(q 60, .inr (12, fM q)), (q 36, .inl (cy 0, 7, .inl (fun _ => 0)))] := hD
  refine lv_aload_n hx hb dd_X12_mark_0 rfl (lv_at hl 0 rfl) ?_
  refine lv_iload_n hx hb dd_X12_mark_1 rfl (lv_at hl 1 rfl) ?_
  refine pk_i (pc_V [.int th] [] Sx hl.1 ws_M_165 md_X12_isThing (c_M_isThing l D cy q th) ⟨rfl, rfl⟩ ⟨Nat.le_of_ble_eq_true rfl, Nat.le_of_ble_eq_true rfl⟩ (hP.sub [0] rfl) hK ns_b (ns_w hX) (va_recv hK hP (ci := 12) (q0 := 0) rfl rfl) rfl rfl (Nat.le_of_ble_eq_true rfl) dd_X12_mark_2 ⟨Nat.le_of_ble_eq_true rfl, Nat.le_of_ble_eq_true rfl⟩) (fun r1 hw2 => ?_)
  subst hw2
  refine lv_if_eq (tgt := 20) hx hb dd_X12_mark_5 (by decide) (fun _ => ?_) (fun c => absurd c (by decide))
  refine lv_aload_n hx hb dd_X12_mark_20 rfl (lv_at hl 0 rfl) ?_
  refine lv_bipush (v := (-2)) hx hb dd_X12_mark_21 (by decide) ?_
  refine hk_i (wr := []) (c1 := 0) (s1 := 0) [0, 1] [] (hc_V [.int (-2)] [] [0, 1] Sx hl.1 ws_M_152 md_X12_no (c_M_no_2 l D cy q) ⟨Nat.le_of_ble_eq_true rfl, Nat.le_of_ble_eq_true rfl⟩ hP hD rfl (by decide) hK nx_b (nx_w hX) (va_recv hK hP (ci := 12) (q0 := 0) rfl rfl) rfl rfl (Nat.le_of_ble_eq_true rfl) dd_X12_mark_23 ⟨Nat.le_of_ble_eq_true rfl, Nat.le_of_ble_eq_true rfl⟩) hS hA hP hD rfl rfl (by decide) (by decide) rfl rfl (fun r3 u4 H locs hw5 hP hD hS => ?_)
  have hP : va_P D cls [] H := hP
  have hD : va_D A [] := hD
  subst hw5
  exact hc_ret Sx hr hlocks dd_X12_mark_26 hS () rfl p_nil d_nil
set_option maxHeartbeats 4000000 in
set_option maxRecDepth 100000 in
theorem c_M_pub_buyerOf (l : Launch) (D : va_G) (cy : Nat → ClassId) (q : Nat → Nat) (bu : Int32) (wh : Int32) : HC l my_X12_buyerOf mb_X12_buyerOf 3 ((some .int)) (rmD 2 0 0) D (TY cy) [.ref (q 60), .int bu, .int wh] NX [(q 60, .inr (12, fM q)), (q 36, .inl (cy 0, 7, .inl (fun _ => 0)))] (QI (S := Unit) D (fun r _ => r = (-2)) (fun _ => [])) := by
  refine hc_intro (by decide) (Nat.le_of_ble_eq_true rfl) (fun p e s m below meth c A ls Sx hr hlocks hin hl hP hD hK hS hA hX => ?_)
  have hx := Sx.1
  have hb := Sx.2.1
  have hl : lv_has ls 3 [(0, .ref (q 60)), (1, .int bu), (2, .int wh)] := hl
  have hP : va_P D cls [(q 60, .inr (12, fM q)), (q 36, .inl (cy 0, 7, .inl (fun _ => 0)))] s.heap := hP
  have hD : va_D A [(q 60, .inr (12, fM q)), (q 36, .inl (cy 0, 7, .inl (fun _ => 0)))] := hD
  refine lv_aload_n hx hb dd_X12_buyerOf_0 rfl (lv_at hl 0 rfl) ?_
  refine lv_iload_n hx hb dd_X12_buyerOf_1 rfl (lv_at hl 1 rfl) ?_
  refine pk_i (pc_V [.int bu] [] Sx hl.1 ws_M_251 md_X12_isBuyer (c_M_isBuyer l D cy q bu) ⟨rfl, rfl⟩ ⟨Nat.le_of_ble_eq_true rfl, Nat.le_of_ble_eq_true rfl⟩ (hP.sub [0] rfl) hK ns_b (ns_w hX) (va_recv hK hP (ci := 12) (q0 := 0) rfl rfl) rfl rfl (Nat.le_of_ble_eq_true rfl) dd_X12_buyerOf_2 ⟨Nat.le_of_ble_eq_true rfl, Nat.le_of_ble_eq_true rfl⟩) (fun r1 hw2 => ?_)
  subst hw2
  refine lv_if_eq (tgt := 17) hx hb dd_X12_buyerOf_5 (by decide) (fun _ => ?_) (fun c => absurd c (by decide))
  refine lv_aload_n hx hb dd_X12_buyerOf_17 rfl (lv_at hl 0 rfl) ?_
  refine lv_bipush (v := (-2)) hx hb dd_X12_buyerOf_18 (by decide) ?_
  refine hk_i (wr := []) (c1 := 0) (s1 := 0) [0, 1] [] (hc_V [.int (-2)] [] [0, 1] Sx hl.1 ws_M_152 md_X12_no (c_M_no_2 l D cy q) ⟨Nat.le_of_ble_eq_true rfl, Nat.le_of_ble_eq_true rfl⟩ hP hD rfl (by decide) hK nx_b (nx_w hX) (va_recv hK hP (ci := 12) (q0 := 0) rfl rfl) rfl rfl (Nat.le_of_ble_eq_true rfl) dd_X12_buyerOf_20 ⟨Nat.le_of_ble_eq_true rfl, Nat.le_of_ble_eq_true rfl⟩) hS hA hP hD rfl rfl (by decide) (by decide) rfl rfl (fun r3 u4 H locs hw5 hP hD hS => ?_)
  have hP : va_P D cls [] H := hP
  have hD : va_D A [] := hD
  subst hw5
  exact hc_ret Sx hr hlocks dd_X12_buyerOf_23 hS () rfl p_nil d_nil
set_option maxHeartbeats 4000000 in
set_option maxRecDepth 100000 in
theorem c_M_pub_costs (l : Launch) (D : va_G) (cy : Nat → ClassId) (q : Nat → Nat) (th : Int32) (ho : Int32) : HC l my_X12_costs mb_X12_costs 3 ((some .int)) (rmD 2 0 0) D (TY cy) [.ref (q 60), .int th, .int ho] NX [(q 60, .inr (12, fM q)), (q 36, .inl (cy 0, 7, .inl (fun _ => 0)))] (QI (S := Unit) D (fun r _ => r = (-2)) (fun _ => [])) := by
  refine hc_intro (by decide) (Nat.le_of_ble_eq_true rfl) (fun p e s m below meth c A ls Sx hr hlocks hin hl hP hD hK hS hA hX => ?_)
  have hx := Sx.1
  have hb := Sx.2.1
  have hl : lv_has ls 3 [(0, .ref (q 60)), (1, .int th), (2, .int ho)] := hl
  have hP : va_P D cls [(q 60, .inr (12, fM q)), (q 36, .inl (cy 0, 7, .inl (fun _ => 0)))] s.heap := hP
  have hD : va_D A [(q 60, .inr (12, fM q)), (q 36, .inl (cy 0, 7, .inl (fun _ => 0)))] := hD
  refine lv_aload_n hx hb dd_X12_costs_0 rfl (lv_at hl 0 rfl) ?_
  refine lv_iload_n hx hb dd_X12_costs_1 rfl (lv_at hl 1 rfl) ?_
  refine pk_i (pc_V [.int th] [] Sx hl.1 ws_M_165 md_X12_isThing (c_M_isThing l D cy q th) ⟨rfl, rfl⟩ ⟨Nat.le_of_ble_eq_true rfl, Nat.le_of_ble_eq_true rfl⟩ (hP.sub [0] rfl) hK ns_b (ns_w hX) (va_recv hK hP (ci := 12) (q0 := 0) rfl rfl) rfl rfl (Nat.le_of_ble_eq_true rfl) dd_X12_costs_2 ⟨Nat.le_of_ble_eq_true rfl, Nat.le_of_ble_eq_true rfl⟩) (fun r1 hw2 => ?_)
  subst hw2
  refine lv_if_eq (tgt := 16) hx hb dd_X12_costs_5 (by decide) (fun _ => ?_) (fun c => absurd c (by decide))
  refine lv_aload_n hx hb dd_X12_costs_16 rfl (lv_at hl 0 rfl) ?_
  refine lv_bipush (v := (-2)) hx hb dd_X12_costs_17 (by decide) ?_
  refine hk_i (wr := []) (c1 := 0) (s1 := 0) [0, 1] [] (hc_V [.int (-2)] [] [0, 1] Sx hl.1 ws_M_152 md_X12_no (c_M_no_2 l D cy q) ⟨Nat.le_of_ble_eq_true rfl, Nat.le_of_ble_eq_true rfl⟩ hP hD rfl (by decide) hK nx_b (nx_w hX) (va_recv hK hP (ci := 12) (q0 := 0) rfl rfl) rfl rfl (Nat.le_of_ble_eq_true rfl) dd_X12_costs_19 ⟨Nat.le_of_ble_eq_true rfl, Nat.le_of_ble_eq_true rfl⟩) hS hA hP hD rfl rfl (by decide) (by decide) rfl rfl (fun r3 u4 H locs hw5 hP hD hS => ?_)
  have hP : va_P D cls [] H := hP
  have hD : va_D A [] := hD
  subst hw5
  exact hc_ret Sx hr hlocks dd_X12_costs_22 hS () rfl p_nil d_nil
set_option maxHeartbeats 4000000 in
set_option maxRecDepth 100000 in
theorem c_M_pub_takes (l : Launch) (D : va_G) (cy : Nat → ClassId) (q : Nat → Nat) (bu : Int32) (ho : Int32) : HC l my_X12_takes mb_X12_takes 3 ((some .int)) (rmD 2 0 0) D (TY cy) [.ref (q 60), .int bu, .int ho] NX [(q 60, .inr (12, fM q)), (q 36, .inl (cy 0, 7, .inl (fun _ => 0)))] (QI (S := Unit) D (fun r _ => r = (-2)) (fun _ => [])) := by
  refine hc_intro (by decide) (Nat.le_of_ble_eq_true rfl) (fun p e s m below meth c A ls Sx hr hlocks hin hl hP hD hK hS hA hX => ?_)
  have hx := Sx.1
  have hb := Sx.2.1
  have hl : lv_has ls 3 [(0, .ref (q 60)), (1, .int bu), (2, .int ho)] := hl
  have hP : va_P D cls [(q 60, .inr (12, fM q)), (q 36, .inl (cy 0, 7, .inl (fun _ => 0)))] s.heap := hP
  have hD : va_D A [(q 60, .inr (12, fM q)), (q 36, .inl (cy 0, 7, .inl (fun _ => 0)))] := hD
  refine lv_aload_n hx hb dd_X12_takes_0 rfl (lv_at hl 0 rfl) ?_
  refine lv_iload_n hx hb dd_X12_takes_1 rfl (lv_at hl 1 rfl) ?_
  refine pk_i (pc_V [.int bu] [] Sx hl.1 ws_M_251 md_X12_isBuyer (c_M_isBuyer l D cy q bu) ⟨rfl, rfl⟩ ⟨Nat.le_of_ble_eq_true rfl, Nat.le_of_ble_eq_true rfl⟩ (hP.sub [0] rfl) hK ns_b (ns_w hX) (va_recv hK hP (ci := 12) (q0 := 0) rfl rfl) rfl rfl (Nat.le_of_ble_eq_true rfl) dd_X12_takes_2 ⟨Nat.le_of_ble_eq_true rfl, Nat.le_of_ble_eq_true rfl⟩) (fun r1 hw2 => ?_)
  subst hw2
  refine lv_if_eq (tgt := 16) hx hb dd_X12_takes_5 (by decide) (fun _ => ?_) (fun c => absurd c (by decide))
  refine lv_aload_n hx hb dd_X12_takes_16 rfl (lv_at hl 0 rfl) ?_
  refine lv_bipush (v := (-2)) hx hb dd_X12_takes_17 (by decide) ?_
  refine hk_i (wr := []) (c1 := 0) (s1 := 0) [0, 1] [] (hc_V [.int (-2)] [] [0, 1] Sx hl.1 ws_M_152 md_X12_no (c_M_no_2 l D cy q) ⟨Nat.le_of_ble_eq_true rfl, Nat.le_of_ble_eq_true rfl⟩ hP hD rfl (by decide) hK nx_b (nx_w hX) (va_recv hK hP (ci := 12) (q0 := 0) rfl rfl) rfl rfl (Nat.le_of_ble_eq_true rfl) dd_X12_takes_19 ⟨Nat.le_of_ble_eq_true rfl, Nat.le_of_ble_eq_true rfl⟩) hS hA hP hD rfl rfl (by decide) (by decide) rfl rfl (fun r3 u4 H locs hw5 hP hD hS => ?_)
  have hP : va_P D cls [] H := hP
  have hD : va_D A [] := hD
  subst hw5
  exact hc_ret Sx hr hlocks dd_X12_takes_22 hS () rfl p_nil d_nil
set_option maxHeartbeats 4000000 in
set_option maxRecDepth 100000 in
theorem c_M_pub_loses (l : Launch) (D : va_G) (cy : Nat → ClassId) (q : Nat → Nat) (la : Int32) (ki : Int32) : HC l my_X12_loses mb_X12_loses 3 ((some .int)) (rmD 2 0 0) D (TY cy) [.ref (q 60), .int la, .int ki] NX [(q 60, .inr (12, fM q)), (q 36, .inl (cy 0, 7, .inl (fun _ => 0)))] (QI (S := Unit) D (fun r _ => r = (-2)) (fun _ => [])) := by
  refine hc_intro (by decide) (Nat.le_of_ble_eq_true rfl) (fun p e s m below meth c A ls Sx hr hlocks hin hl hP hD hK hS hA hX => ?_)
  have hx := Sx.1
  have hb := Sx.2.1
  have hl : lv_has ls 3 [(0, .ref (q 60)), (1, .int la), (2, .int ki)] := hl
  have hP : va_P D cls [(q 60, .inr (12, fM q)), (q 36, .inl (cy 0, 7, .inl (fun _ => 0)))] s.heap := hP
  have hD : va_D A [(q 60, .inr (12, fM q)), (q 36, .inl (cy 0, 7, .inl (fun _ => 0)))] := hD
  refine lv_aload_n hx hb dd_X12_loses_0 rfl (lv_at hl 0 rfl) ?_
  refine lv_iload_n hx hb dd_X12_loses_1 rfl (lv_at hl 1 rfl) ?_
  refine pk_i (pc_V [.int la] [] Sx hl.1 ws_M_193 md_X12_isLady (c_M_isLady l D cy q la) ⟨rfl, rfl⟩ ⟨Nat.le_of_ble_eq_true rfl, Nat.le_of_ble_eq_true rfl⟩ (hP.sub [0] rfl) hK ns_b (ns_w hX) (va_recv hK hP (ci := 12) (q0 := 0) rfl rfl) rfl rfl (Nat.le_of_ble_eq_true rfl) dd_X12_loses_2 ⟨Nat.le_of_ble_eq_true rfl, Nat.le_of_ble_eq_true rfl⟩) (fun r1 hw2 => ?_)
  subst hw2
  refine lv_if_eq (tgt := 16) hx hb dd_X12_loses_5 (by decide) (fun _ => ?_) (fun c => absurd c (by decide))
  refine lv_aload_n hx hb dd_X12_loses_16 rfl (lv_at hl 0 rfl) ?_
  refine lv_bipush (v := (-2)) hx hb dd_X12_loses_17 (by decide) ?_
  refine hk_i (wr := []) (c1 := 0) (s1 := 0) [0, 1] [] (hc_V [.int (-2)] [] [0, 1] Sx hl.1 ws_M_152 md_X12_no (c_M_no_2 l D cy q) ⟨Nat.le_of_ble_eq_true rfl, Nat.le_of_ble_eq_true rfl⟩ hP hD rfl (by decide) hK nx_b (nx_w hX) (va_recv hK hP (ci := 12) (q0 := 0) rfl rfl) rfl rfl (Nat.le_of_ble_eq_true rfl) dd_X12_loses_19 ⟨Nat.le_of_ble_eq_true rfl, Nat.le_of_ble_eq_true rfl⟩) hS hA hP hD rfl rfl (by decide) (by decide) rfl rfl (fun r3 u4 H locs hw5 hP hD hS => ?_)
  have hP : va_P D cls [] H := hP
  have hD : va_D A [] := hD
  subst hw5
  exact hc_ret Sx hr hlocks dd_X12_loses_22 hS () rfl p_nil d_nil
set_option maxHeartbeats 4000000 in
set_option maxRecDepth 100000 in
theorem c_M_pub_same (l : Launch) (D : va_G) (cy : Nat → ClassId) (q : Nat → Nat) (sa : Int32) (sb : Int32) : HC l my_X12_same mb_X12_same 3 ((some .int)) (rmD 2 0 0) D (TY cy) [.ref (q 60), .int sa, .int sb] NX [(q 60, .inr (12, fM q)), (q 36, .inl (cy 0, 7, .inl (fun _ => 0)))] (QI (S := Unit) D (fun r _ => r = (-2)) (fun _ => [])) := by
  refine hc_intro (by decide) (Nat.le_of_ble_eq_true rfl) (fun p e s m below meth c A ls Sx hr hlocks hin hl hP hD hK hS hA hX => ?_)
  have hx := Sx.1
  have hb := Sx.2.1
  have hl : lv_has ls 3 [(0, .ref (q 60)), (1, .int sa), (2, .int sb)] := hl
  have hP : va_P D cls [(q 60, .inr (12, fM q)), (q 36, .inl (cy 0, 7, .inl (fun _ => 0)))] s.heap := hP
  have hD : va_D A [(q 60, .inr (12, fM q)), (q 36, .inl (cy 0, 7, .inl (fun _ => 0)))] := hD
  refine lv_iload_n hx hb dd_X12_same_0 rfl (lv_at hl 1 rfl) ?_
  refine lv_if_lt (tgt := 24) hx hb dd_X12_same_1 (by decide) (fun c1 => ?_) (fun c1 => ?_)
  · have fc1 := ci_lt (a := sa.toInt) (b := 0) rfl rfl c1
    refine lv_aload_n hx hb dd_X12_same_24 rfl (lv_at hl 0 rfl) ?_
    refine lv_bipush (v := (-2)) hx hb dd_X12_same_25 (by decide) ?_
    refine hk_i (wr := []) (c1 := 0) (s1 := 0) [0, 1] [] (hc_V [.int (-2)] [] [0, 1] Sx hl.1 ws_M_152 md_X12_no (c_M_no_2 l D cy q) ⟨Nat.le_of_ble_eq_true rfl, Nat.le_of_ble_eq_true rfl⟩ hP hD rfl (by decide) hK nx_b (nx_w hX) (va_recv hK hP (ci := 12) (q0 := 0) rfl rfl) rfl rfl (Nat.le_of_ble_eq_true rfl) dd_X12_same_27 ⟨Nat.le_of_ble_eq_true rfl, Nat.le_of_ble_eq_true rfl⟩) hS hA hP hD rfl rfl (by decide) (by decide) rfl rfl (fun r2 u3 H locs hw4 hP hD hS => ?_)
    have hP : va_P D cls [] H := hP
    have hD : va_D A [] := hD
    subst hw4
    exact hc_ret Sx hr hlocks dd_X12_same_30 hS () rfl p_nil d_nil
  · have fc1 := ci_nlt (a := sa.toInt) (b := 0) rfl rfl c1
    refine lv_iload_n hx hb dd_X12_same_4 rfl (lv_at hl 1 rfl) ?_
    refine lv_aload_n hx hb dd_X12_same_5 rfl (lv_at hl 0 rfl) ?_
    refine wk_get (v := .int 0) Sx ef_12 hK hP 0 rfl rfl 26 (by decide) kk_1127 rfl dd_X12_same_6 ?_
    refine lv_icmp_ge (tgt := 24) hx hb dd_X12_same_9 (by decide) (fun c5 => ?_) (fun c5 => ?_)
    · have fc5 := ci_le (a := 0) (b := sa.toInt) rfl rfl c5
      refine lv_aload_n hx hb dd_X12_same_24 rfl (lv_at hl 0 rfl) ?_
      refine lv_bipush (v := (-2)) hx hb dd_X12_same_25 (by decide) ?_
      refine hk_i (wr := []) (c1 := 0) (s1 := 0) [0, 1] [] (hc_V [.int (-2)] [] [0, 1] Sx hl.1 ws_M_152 md_X12_no (c_M_no_2 l D cy q) ⟨Nat.le_of_ble_eq_true rfl, Nat.le_of_ble_eq_true rfl⟩ hP hD rfl (by decide) hK nx_b (nx_w hX) (va_recv hK hP (ci := 12) (q0 := 0) rfl rfl) rfl rfl (Nat.le_of_ble_eq_true rfl) dd_X12_same_27 ⟨Nat.le_of_ble_eq_true rfl, Nat.le_of_ble_eq_true rfl⟩) hS hA hP hD rfl rfl (by decide) (by decide) rfl rfl (fun r6 u7 H locs hw8 hP hD hS => ?_)
      have hP : va_P D cls [] H := hP
      have hD : va_D A [] := hD
      subst hw8
      exact hc_ret Sx hr hlocks dd_X12_same_30 hS () rfl p_nil d_nil
    · have fc5 := ci_nle (a := 0) (b := sa.toInt) rfl rfl c5
      exfalso; omega
set_option maxHeartbeats 4000000 in
set_option maxRecDepth 100000 in
theorem c_M_pub_secret (l : Launch) (D : va_G) (cy : Nat → ClassId) (q : Nat → Nat) (th : Int32) (pe : Int32) : HC l my_X12_secret mb_X12_secret 3 ((some .int)) (rmD 2 0 0) D (TY cy) [.ref (q 60), .int th, .int pe] NX [(q 60, .inr (12, fM q)), (q 36, .inl (cy 0, 7, .inl (fun _ => 0)))] (QI (S := Unit) D (fun r _ => r = (-2)) (fun _ => [])) := by
  refine hc_intro (by decide) (Nat.le_of_ble_eq_true rfl) (fun p e s m below meth c A ls Sx hr hlocks hin hl hP hD hK hS hA hX => ?_)
  have hx := Sx.1
  have hb := Sx.2.1
  have hl : lv_has ls 3 [(0, .ref (q 60)), (1, .int th), (2, .int pe)] := hl
  have hP : va_P D cls [(q 60, .inr (12, fM q)), (q 36, .inl (cy 0, 7, .inl (fun _ => 0)))] s.heap := hP
  have hD : va_D A [(q 60, .inr (12, fM q)), (q 36, .inl (cy 0, 7, .inl (fun _ => 0)))] := hD
  refine lv_aload_n hx hb dd_X12_secret_0 rfl (lv_at hl 0 rfl) ?_
  refine lv_iload_n hx hb dd_X12_secret_1 rfl (lv_at hl 1 rfl) ?_
  refine pk_i (pc_V [.int th] [] Sx hl.1 ws_M_165 md_X12_isThing (c_M_isThing l D cy q th) ⟨rfl, rfl⟩ ⟨Nat.le_of_ble_eq_true rfl, Nat.le_of_ble_eq_true rfl⟩ (hP.sub [0] rfl) hK ns_b (ns_w hX) (va_recv hK hP (ci := 12) (q0 := 0) rfl rfl) rfl rfl (Nat.le_of_ble_eq_true rfl) dd_X12_secret_2 ⟨Nat.le_of_ble_eq_true rfl, Nat.le_of_ble_eq_true rfl⟩) (fun r1 hw2 => ?_)
  subst hw2
  refine lv_if_eq (tgt := 16) hx hb dd_X12_secret_5 (by decide) (fun _ => ?_) (fun c => absurd c (by decide))
  refine lv_aload_n hx hb dd_X12_secret_16 rfl (lv_at hl 0 rfl) ?_
  refine lv_bipush (v := (-2)) hx hb dd_X12_secret_17 (by decide) ?_
  refine hk_i (wr := []) (c1 := 0) (s1 := 0) [0, 1] [] (hc_V [.int (-2)] [] [0, 1] Sx hl.1 ws_M_152 md_X12_no (c_M_no_2 l D cy q) ⟨Nat.le_of_ble_eq_true rfl, Nat.le_of_ble_eq_true rfl⟩ hP hD rfl (by decide) hK nx_b (nx_w hX) (va_recv hK hP (ci := 12) (q0 := 0) rfl rfl) rfl rfl (Nat.le_of_ble_eq_true rfl) dd_X12_secret_19 ⟨Nat.le_of_ble_eq_true rfl, Nat.le_of_ble_eq_true rfl⟩) hS hA hP hD rfl rfl (by decide) (by decide) rfl rfl (fun r3 u4 H locs hw5 hP hD hS => ?_)
  have hP : va_P D cls [] H := hP
  have hD : va_D A [] := hD
  subst hw5
  exact hc_ret Sx hr hlocks dd_X12_secret_22 hS () rfl p_nil d_nil
set_option maxHeartbeats 4000000 in
set_option maxRecDepth 100000 in
theorem c_M_pub_laid (l : Launch) (D : va_G) (cy : Nat → ClassId) (q : Nat → Nat) (ro : Int32) (th : Int32) : HC l my_X12_laid mb_X12_laid 6 ((some .int)) (rmD 2 0 0) D (TY cy) [.ref (q 60), .int ro, .int th] NX [(q 60, .inr (12, fM q)), (q 36, .inl (cy 0, 7, .inl (fun _ => 0)))] (QI (S := Unit) D (fun r _ => r = (-2)) (fun _ => [])) := by
  refine hc_intro (by decide) (Nat.le_of_ble_eq_true rfl) (fun p e s m below meth c A ls Sx hr hlocks hin hl hP hD hK hS hA hX => ?_)
  have hx := Sx.1
  have hb := Sx.2.1
  have hl : lv_has ls 6 [(0, .ref (q 60)), (1, .int ro), (2, .int th)] := hl
  have hP : va_P D cls [(q 60, .inr (12, fM q)), (q 36, .inl (cy 0, 7, .inl (fun _ => 0)))] s.heap := hP
  have hD : va_D A [(q 60, .inr (12, fM q)), (q 36, .inl (cy 0, 7, .inl (fun _ => 0)))] := hD
  refine lv_iload_n hx hb dd_X12_laid_0 rfl (lv_at hl 1 rfl) ?_
  refine lv_iconst (v := 1) hx hb dd_X12_laid_1 (by decide) ?_
  refine lv_icmp_lt (tgt := 19) hx hb dd_X12_laid_2 (by decide) (fun c1 => ?_) (fun c1 => ?_)
  · have fc1 := ci_lt (a := ro.toInt) (b := 1) rfl rfl c1
    refine lv_aload_n hx hb dd_X12_laid_19 rfl (lv_at hl 0 rfl) ?_
    refine lv_bipush (v := (-2)) hx hb dd_X12_laid_20 (by decide) ?_
    refine hk_i (wr := []) (c1 := 0) (s1 := 0) [0, 1] [] (hc_V [.int (-2)] [] [0, 1] Sx hl.1 ws_M_152 md_X12_no (c_M_no_2 l D cy q) ⟨Nat.le_of_ble_eq_true rfl, Nat.le_of_ble_eq_true rfl⟩ hP hD rfl (by decide) hK nx_b (nx_w hX) (va_recv hK hP (ci := 12) (q0 := 0) rfl rfl) rfl rfl (Nat.le_of_ble_eq_true rfl) dd_X12_laid_22 ⟨Nat.le_of_ble_eq_true rfl, Nat.le_of_ble_eq_true rfl⟩) hS hA hP hD rfl rfl (by decide) (by decide) rfl rfl (fun r2 u3 H locs hw4 hP hD hS => ?_)
    have hP : va_P D cls [] H := hP
    have hD : va_D A [] := hD
    subst hw4
    exact hc_ret Sx hr hlocks dd_X12_laid_25 hS () rfl p_nil d_nil
  · have fc1 := ci_nlt (a := ro.toInt) (b := 1) rfl rfl c1
    refine lv_iload_n hx hb dd_X12_laid_5 rfl (lv_at hl 1 rfl) ?_
    refine lv_bipush (v := 10) hx hb dd_X12_laid_6 (by decide) ?_
    refine lv_icmp_gt (tgt := 19) hx hb dd_X12_laid_8 (by decide) (fun c5 => ?_) (fun c5 => ?_)
    · have fc5 := ci_lt (a := 10) (b := ro.toInt) rfl rfl c5
      refine lv_aload_n hx hb dd_X12_laid_19 rfl (lv_at hl 0 rfl) ?_
      refine lv_bipush (v := (-2)) hx hb dd_X12_laid_20 (by decide) ?_
      refine hk_i (wr := []) (c1 := 0) (s1 := 0) [0, 1] [] (hc_V [.int (-2)] [] [0, 1] Sx hl.1 ws_M_152 md_X12_no (c_M_no_2 l D cy q) ⟨Nat.le_of_ble_eq_true rfl, Nat.le_of_ble_eq_true rfl⟩ hP hD rfl (by decide) hK nx_b (nx_w hX) (va_recv hK hP (ci := 12) (q0 := 0) rfl rfl) rfl rfl (Nat.le_of_ble_eq_true rfl) dd_X12_laid_22 ⟨Nat.le_of_ble_eq_true rfl, Nat.le_of_ble_eq_true rfl⟩) hS hA hP hD rfl rfl (by decide) (by decide) rfl rfl (fun r6 u7 H locs hw8 hP hD hS => ?_)
      have hP : va_P D cls [] H := hP
      have hD : va_D A [] := hD
      subst hw8
      exact hc_ret Sx hr hlocks dd_X12_laid_25 hS () rfl p_nil d_nil
    · have fc5 := ci_nlt (a := 10) (b := ro.toInt) rfl rfl c5
      refine lv_aload_n hx hb dd_X12_laid_11 rfl (lv_at hl 0 rfl) ?_
      refine lv_iload_n hx hb dd_X12_laid_12 rfl (lv_at hl 2 rfl) ?_
      refine pk_i (pc_V [.int th] [] Sx hl.1 ws_M_165 md_X12_isThing (c_M_isThing l D cy q th) ⟨rfl, rfl⟩ ⟨Nat.le_of_ble_eq_true rfl, Nat.le_of_ble_eq_true rfl⟩ (hP.sub [0] rfl) hK ns_b (ns_w hX) (va_recv hK hP (ci := 12) (q0 := 0) rfl rfl) rfl rfl (Nat.le_of_ble_eq_true rfl) dd_X12_laid_13 ⟨Nat.le_of_ble_eq_true rfl, Nat.le_of_ble_eq_true rfl⟩) (fun r9 hw10 => ?_)
      subst hw10
      refine lv_if_ne (tgt := 26) hx hb dd_X12_laid_16 (by decide) (fun c => absurd c (by decide)) (fun _ => ?_)
      refine lv_aload_n hx hb dd_X12_laid_19 rfl (lv_at hl 0 rfl) ?_
      refine lv_bipush (v := (-2)) hx hb dd_X12_laid_20 (by decide) ?_
      refine hk_i (wr := []) (c1 := 0) (s1 := 0) [0, 1] [] (hc_V [.int (-2)] [] [0, 1] Sx hl.1 ws_M_152 md_X12_no (c_M_no_2 l D cy q) ⟨Nat.le_of_ble_eq_true rfl, Nat.le_of_ble_eq_true rfl⟩ hP hD rfl (by decide) hK nx_b (nx_w hX) (va_recv hK hP (ci := 12) (q0 := 0) rfl rfl) rfl rfl (Nat.le_of_ble_eq_true rfl) dd_X12_laid_22 ⟨Nat.le_of_ble_eq_true rfl, Nat.le_of_ble_eq_true rfl⟩) hS hA hP hD rfl rfl (by decide) (by decide) rfl rfl (fun r11 u12 H locs hw13 hP hD hS => ?_)
      have hP : va_P D cls [] H := hP
      have hD : va_D A [] := hD
      subst hw13
      exact hc_ret Sx hr hlocks dd_X12_laid_25 hS () rfl p_nil d_nil
set_option maxHeartbeats 4000000 in
set_option maxRecDepth 100000 in
theorem c_M_pub_hall (l : Launch) (D : va_G) (cy : Nat → ClassId) (q : Nat → Nat) (fi : Int32) (th : Int32) : HC l my_X12_hall mb_X12_hall 5 ((some .int)) (rmD 2 0 0) D (TY cy) [.ref (q 60), .int fi, .int th] NX [(q 60, .inr (12, fM q)), (q 36, .inl (cy 0, 7, .inl (fun _ => 0)))] (QI (S := Unit) D (fun r _ => r = (-2)) (fun _ => [])) := by
  refine hc_intro (by decide) (Nat.le_of_ble_eq_true rfl) (fun p e s m below meth c A ls Sx hr hlocks hin hl hP hD hK hS hA hX => ?_)
  have hx := Sx.1
  have hb := Sx.2.1
  have hl : lv_has ls 5 [(0, .ref (q 60)), (1, .int fi), (2, .int th)] := hl
  have hP : va_P D cls [(q 60, .inr (12, fM q)), (q 36, .inl (cy 0, 7, .inl (fun _ => 0)))] s.heap := hP
  have hD : va_D A [(q 60, .inr (12, fM q)), (q 36, .inl (cy 0, 7, .inl (fun _ => 0)))] := hD
  refine lv_iload_n hx hb dd_X12_hall_0 rfl (lv_at hl 1 rfl) ?_
  refine lv_if_lt (tgt := 17) hx hb dd_X12_hall_1 (by decide) (fun c1 => ?_) (fun c1 => ?_)
  · have fc1 := ci_lt (a := fi.toInt) (b := 0) rfl rfl c1
    refine lv_aload_n hx hb dd_X12_hall_17 rfl (lv_at hl 0 rfl) ?_
    refine lv_bipush (v := (-2)) hx hb dd_X12_hall_18 (by decide) ?_
    refine hk_i (wr := []) (c1 := 0) (s1 := 0) [0, 1] [] (hc_V [.int (-2)] [] [0, 1] Sx hl.1 ws_M_152 md_X12_no (c_M_no_2 l D cy q) ⟨Nat.le_of_ble_eq_true rfl, Nat.le_of_ble_eq_true rfl⟩ hP hD rfl (by decide) hK nx_b (nx_w hX) (va_recv hK hP (ci := 12) (q0 := 0) rfl rfl) rfl rfl (Nat.le_of_ble_eq_true rfl) dd_X12_hall_20 ⟨Nat.le_of_ble_eq_true rfl, Nat.le_of_ble_eq_true rfl⟩) hS hA hP hD rfl rfl (by decide) (by decide) rfl rfl (fun r2 u3 H locs hw4 hP hD hS => ?_)
    have hP : va_P D cls [] H := hP
    have hD : va_D A [] := hD
    subst hw4
    exact hc_ret Sx hr hlocks dd_X12_hall_23 hS () rfl p_nil d_nil
  · have fc1 := ci_nlt (a := fi.toInt) (b := 0) rfl rfl c1
    refine lv_iload_n hx hb dd_X12_hall_4 rfl (lv_at hl 1 rfl) ?_
    refine lv_iconst (v := 2) hx hb dd_X12_hall_5 (by decide) ?_
    refine lv_icmp_gt (tgt := 17) hx hb dd_X12_hall_6 (by decide) (fun c5 => ?_) (fun c5 => ?_)
    · have fc5 := ci_lt (a := 2) (b := fi.toInt) rfl rfl c5
      refine lv_aload_n hx hb dd_X12_hall_17 rfl (lv_at hl 0 rfl) ?_
      refine lv_bipush (v := (-2)) hx hb dd_X12_hall_18 (by decide) ?_
      refine hk_i (wr := []) (c1 := 0) (s1 := 0) [0, 1] [] (hc_V [.int (-2)] [] [0, 1] Sx hl.1 ws_M_152 md_X12_no (c_M_no_2 l D cy q) ⟨Nat.le_of_ble_eq_true rfl, Nat.le_of_ble_eq_true rfl⟩ hP hD rfl (by decide) hK nx_b (nx_w hX) (va_recv hK hP (ci := 12) (q0 := 0) rfl rfl) rfl rfl (Nat.le_of_ble_eq_true rfl) dd_X12_hall_20 ⟨Nat.le_of_ble_eq_true rfl, Nat.le_of_ble_eq_true rfl⟩) hS hA hP hD rfl rfl (by decide) (by decide) rfl rfl (fun r6 u7 H locs hw8 hP hD hS => ?_)
      have hP : va_P D cls [] H := hP
      have hD : va_D A [] := hD
      subst hw8
      exact hc_ret Sx hr hlocks dd_X12_hall_23 hS () rfl p_nil d_nil
    · have fc5 := ci_nlt (a := 2) (b := fi.toInt) rfl rfl c5
      refine lv_aload_n hx hb dd_X12_hall_9 rfl (lv_at hl 0 rfl) ?_
      refine lv_iload_n hx hb dd_X12_hall_10 rfl (lv_at hl 2 rfl) ?_
      refine pk_i (pc_V [.int th] [] Sx hl.1 ws_M_165 md_X12_isThing (c_M_isThing l D cy q th) ⟨rfl, rfl⟩ ⟨Nat.le_of_ble_eq_true rfl, Nat.le_of_ble_eq_true rfl⟩ (hP.sub [0] rfl) hK ns_b (ns_w hX) (va_recv hK hP (ci := 12) (q0 := 0) rfl rfl) rfl rfl (Nat.le_of_ble_eq_true rfl) dd_X12_hall_11 ⟨Nat.le_of_ble_eq_true rfl, Nat.le_of_ble_eq_true rfl⟩) (fun r9 hw10 => ?_)
      subst hw10
      refine lv_if_ne (tgt := 24) hx hb dd_X12_hall_14 (by decide) (fun c => absurd c (by decide)) (fun _ => ?_)
      refine lv_aload_n hx hb dd_X12_hall_17 rfl (lv_at hl 0 rfl) ?_
      refine lv_bipush (v := (-2)) hx hb dd_X12_hall_18 (by decide) ?_
      refine hk_i (wr := []) (c1 := 0) (s1 := 0) [0, 1] [] (hc_V [.int (-2)] [] [0, 1] Sx hl.1 ws_M_152 md_X12_no (c_M_no_2 l D cy q) ⟨Nat.le_of_ble_eq_true rfl, Nat.le_of_ble_eq_true rfl⟩ hP hD rfl (by decide) hK nx_b (nx_w hX) (va_recv hK hP (ci := 12) (q0 := 0) rfl rfl) rfl rfl (Nat.le_of_ble_eq_true rfl) dd_X12_hall_20 ⟨Nat.le_of_ble_eq_true rfl, Nat.le_of_ble_eq_true rfl⟩) hS hA hP hD rfl rfl (by decide) (by decide) rfl rfl (fun r11 u12 H locs hw13 hP hD hS => ?_)
      have hP : va_P D cls [] H := hP
      have hD : va_D A [] := hD
      subst hw13
      exact hc_ret Sx hr hlocks dd_X12_hall_23 hS () rfl p_nil d_nil
set_option maxHeartbeats 4000000 in
set_option maxRecDepth 100000 in
theorem c_M_pub_lady (l : Launch) (D : va_G) (cy : Nat → ClassId) (q : Nat → Nat) (kn : Int32) (gu : Int32) : HC l my_X12_lady mb_X12_lady 3 ((some .int)) (rmD 2 0 0) D (TY cy) [.ref (q 60), .int kn, .int gu] NX [(q 60, .inr (12, fM q)), (q 11, .inl (cy 0, 5, .inl (fun _ => 0))), (q 12, .inl (cy 0, 5, .inl (fun _ => 0))), (q 13, .inl (cy 0, 5, .inl (fun _ => 0))), (q 36, .inl (cy 0, 7, .inl (fun _ => 0)))] (QI (S := Unit) D (fun r _ => if2 (0 ≤ kn.toInt ∧ kn.toInt ≤ 63 ∧ 0 ≤ gu.toInt ∧ gu.toInt ≤ 999) 0 (-2) r) (fun _ => [])) := by
  refine hc_intro (by decide) (Nat.le_of_ble_eq_true rfl) (fun p e s m below meth c A ls Sx hr hlocks hin hl hP hD hK hS hA hX => ?_)
  have hx := Sx.1
  have hb := Sx.2.1
  have hl : lv_has ls 3 [(0, .ref (q 60)), (1, .int kn), (2, .int gu)] := hl
  have hP : va_P D cls [(q 60, .inr (12, fM q)), (q 11, .inl (cy 0, 5, .inl (fun _ => 0))), (q 12, .inl (cy 0, 5, .inl (fun _ => 0))), (q 13, .inl (cy 0, 5, .inl (fun _ => 0))), (q 36, .inl (cy 0, 7, .inl (fun _ => 0)))] s.heap := hP
  have hD : va_D A [(q 60, .inr (12, fM q)), (q 11, .inl (cy 0, 5, .inl (fun _ => 0))), (q 12, .inl (cy 0, 5, .inl (fun _ => 0))), (q 13, .inl (cy 0, 5, .inl (fun _ => 0))), (q 36, .inl (cy 0, 7, .inl (fun _ => 0)))] := hD
  refine lv_aload_n hx hb dd_X12_lady_0 rfl (lv_at hl 0 rfl) ?_
  refine lv_iload_n hx hb dd_X12_lady_1 rfl (lv_at hl 1 rfl) ?_
  refine pk_i (pc_V [.int kn] [] Sx hl.1 ws_M_190 md_X12_areKinds (c_M_areKinds l D cy q kn) ⟨rfl, rfl⟩ ⟨Nat.le_of_ble_eq_true rfl, Nat.le_of_ble_eq_true rfl⟩ p_nil hK ns_b (ns_w hX) (va_recv hK hP (ci := 12) (q0 := 0) rfl rfl) rfl rfl (Nat.le_of_ble_eq_true rfl) dd_X12_lady_2 ⟨Nat.le_of_ble_eq_true rfl, Nat.le_of_ble_eq_true rfl⟩) (fun r1 hw2 => ?_)
  rcases hw2 with ⟨hw2, ehw2⟩ | ⟨hw2, ehw2⟩
  · subst ehw2
    refine lv_if_eq (tgt := 19) hx hb dd_X12_lady_5 (by decide) (fun c => absurd c (by decide)) (fun _ => ?_)
    refine lv_iload_n hx hb dd_X12_lady_8 rfl (lv_at hl 2 rfl) ?_
    refine lv_if_lt (tgt := 19) hx hb dd_X12_lady_9 (by decide) (fun c3 => ?_) (fun c3 => ?_)
    · have fc3 := ci_lt (a := gu.toInt) (b := 0) rfl rfl c3
      refine lv_aload_n hx hb dd_X12_lady_19 rfl (lv_at hl 0 rfl) ?_
      refine lv_bipush (v := (-2)) hx hb dd_X12_lady_20 (by decide) ?_
      refine hk_i (wr := [(q 11, .inl (cy 0, 5, .inl (fun _ => 0))), (q 12, .inl (cy 0, 5, .inl (fun _ => 0))), (q 13, .inl (cy 0, 5, .inl (fun _ => 0)))]) (c1 := 0) (s1 := 0) [0, 4] [1, 2, 3] (hc_V [.int (-2)] [] [0, 4] Sx hl.1 ws_M_152 md_X12_no (c_M_no_2 l D cy q) ⟨Nat.le_of_ble_eq_true rfl, Nat.le_of_ble_eq_true rfl⟩ hP hD rfl (by decide) hK nx_b (nx_w hX) (va_recv hK hP (ci := 12) (q0 := 0) rfl rfl) rfl rfl (Nat.le_of_ble_eq_true rfl) dd_X12_lady_22 ⟨Nat.le_of_ble_eq_true rfl, Nat.le_of_ble_eq_true rfl⟩) hS hA hP hD rfl rfl (by decide) (by decide) rfl rfl (fun r4 u5 H locs hw6 hP hD hS => ?_)
      have hP : va_P D cls [(q 11, .inl (cy 0, 5, .inl (fun _ => 0))), (q 12, .inl (cy 0, 5, .inl (fun _ => 0))), (q 13, .inl (cy 0, 5, .inl (fun _ => 0)))] H := hP
      have hD : va_D A [(q 11, .inl (cy 0, 5, .inl (fun _ => 0))), (q 12, .inl (cy 0, 5, .inl (fun _ => 0))), (q 13, .inl (cy 0, 5, .inl (fun _ => 0)))] := hD
      subst hw6
      exact hc_ret Sx hr hlocks dd_X12_lady_25 hS () (Or.inr ⟨by omega, rfl⟩) p_nil d_nil
    · have fc3 := ci_nlt (a := gu.toInt) (b := 0) rfl rfl c3
      refine lv_iload_n hx hb dd_X12_lady_12 rfl (lv_at hl 2 rfl) ?_
      refine lv_sipush (v := 999) hx hb dd_X12_lady_13 (by decide) ?_
      refine lv_icmp_le (tgt := 26) hx hb dd_X12_lady_16 (by decide) (fun c7 => ?_) (fun c7 => ?_)
      · have fc7 := ci_le (a := gu.toInt) (b := 999) rfl rfl c7
        refine lv_aload_n hx hb dd_X12_lady_26 rfl (lv_at hl 0 rfl) ?_
        refine wk_get (v := .int 0) Sx ef_12 hK hP 0 rfl rfl 10 (by decide) kk_1111 rfl dd_X12_lady_27 ?_
        refine lv_iconst (v := 5) hx hb dd_X12_lady_30 (by decide) ?_
        refine lv_icmp_ne (tgt := 41) hx hb dd_X12_lady_31 (by decide) (fun _ => ?_) (fun c => absurd c (by decide))
        refine lv_aload_n hx hb dd_X12_lady_41 rfl (lv_at hl 0 rfl) ?_
        refine wk_get (v := .ref (q 11)) Sx ef_12 hK hP 0 rfl rfl 11 (by decide) kk_1112 rfl dd_X12_lady_42 ?_
        refine lv_aload_n hx hb dd_X12_lady_45 rfl (lv_at hl 0 rfl) ?_
        refine wk_get (v := .int 0) Sx ef_12 hK hP 0 rfl rfl 10 (by decide) kk_1111 rfl dd_X12_lady_46 ?_
        refine lv_iload_n hx hb dd_X12_lady_49 rfl (lv_at hl 1 rfl) ?_
        refine wk_iast (ws' := [(q 60, .inr (12, fM q)), (q 11, .inl (cy 0, 5, .inl (upd (fun _ => 0) (0 : Int32).toNatClampNeg kn))), (q 12, .inl (cy 0, 5, .inl (fun _ => 0))), (q 13, .inl (cy 0, 5, .inl (fun _ => 0))), (q 36, .inl (cy 0, 7, .inl (fun _ => 0)))]) Sx hK hP hD hS 1 0 rfl rfl (vi_of (by decide)) dd_X12_lady_50 rfl (fun H locs hP hD hS => ?_)
        refine lv_aload_n hx hb dd_X12_lady_51 rfl (lv_at hl 0 rfl) ?_
        refine wk_get (v := .ref (q 12)) Sx ef_12 hK hP 0 rfl rfl 12 (by decide) kk_1113 rfl dd_X12_lady_52 ?_
        refine lv_aload_n hx hb dd_X12_lady_55 rfl (lv_at hl 0 rfl) ?_
        refine wk_get (v := .int 0) Sx ef_12 hK hP 0 rfl rfl 10 (by decide) kk_1111 rfl dd_X12_lady_56 ?_
        refine lv_iload_n hx hb dd_X12_lady_59 rfl (lv_at hl 2 rfl) ?_
        refine wk_iast (ws' := [(q 60, .inr (12, fM q)), (q 11, .inl (cy 0, 5, .inl (upd (fun _ => 0) (0 : Int32).toNatClampNeg kn))), (q 12, .inl (cy 0, 5, .inl (upd (fun _ => 0) (0 : Int32).toNatClampNeg gu))), (q 13, .inl (cy 0, 5, .inl (fun _ => 0))), (q 36, .inl (cy 0, 7, .inl (fun _ => 0)))]) Sx hK hP hD hS 2 0 rfl rfl (vi_of (by decide)) dd_X12_lady_60 rfl (fun H locs hP hD hS => ?_)
        refine lv_aload_n hx hb dd_X12_lady_61 rfl (lv_at hl 0 rfl) ?_
        refine wk_get (v := .ref (q 13)) Sx ef_12 hK hP 0 rfl rfl 13 (by decide) kk_1114 rfl dd_X12_lady_62 ?_
        refine lv_aload_n hx hb dd_X12_lady_65 rfl (lv_at hl 0 rfl) ?_
        refine wk_get (v := .int 0) Sx ef_12 hK hP 0 rfl rfl 10 (by decide) kk_1111 rfl dd_X12_lady_66 ?_
        refine lv_iconst (v := (-1)) hx hb dd_X12_lady_69 (by decide) ?_
        refine wk_iast (ws' := [(q 60, .inr (12, fM q)), (q 11, .inl (cy 0, 5, .inl (upd (fun _ => 0) (0 : Int32).toNatClampNeg kn))), (q 12, .inl (cy 0, 5, .inl (upd (fun _ => 0) (0 : Int32).toNatClampNeg gu))), (q 13, .inl (cy 0, 5, .inl (upd (fun _ => 0) (0 : Int32).toNatClampNeg (-1)))), (q 36, .inl (cy 0, 7, .inl (fun _ => 0)))]) Sx hK hP hD hS 3 0 rfl rfl (vi_of (by decide)) dd_X12_lady_70 rfl (fun H locs hP hD hS => ?_)
        refine lv_aload_n hx hb dd_X12_lady_71 rfl (lv_at hl 0 rfl) ?_
        refine lv_dup hx hb dd_X12_lady_72 rfl ?_
        refine wk_get (v := .int 0) Sx ef_12 hK hP 0 rfl rfl 10 (by decide) kk_1111 rfl dd_X12_lady_73 ?_
        refine lv_dup_x1 hx hb dd_X12_lady_76 rfl rfl ?_
        refine lv_iconst (v := 1) hx hb dd_X12_lady_77 (by decide) ?_
        refine lv_iadd hx hb dd_X12_lady_78 ?_
        refine wk_int (v := 1) (by decide) ?_
        refine wk_put (ws' := [(q 60, .inr (12, (fM q).set 10 (.int 1))), (q 11, .inl (cy 0, 5, .inl (upd (fun _ => 0) (0 : Int32).toNatClampNeg kn))), (q 12, .inl (cy 0, 5, .inl (upd (fun _ => 0) (0 : Int32).toNatClampNeg gu))), (q 13, .inl (cy 0, 5, .inl (upd (fun _ => 0) (0 : Int32).toNatClampNeg (-1)))), (q 36, .inl (cy 0, 7, .inl (fun _ => 0)))]) Sx ef_12 hK hP hD hS 0 rfl rfl 10 (by decide) kk_1111 rfl rfl rfl (Nat.le_of_ble_eq_true rfl) dd_X12_lady_79 rfl (fun H locs hP hD hS => ?_)
        exact hc_ret Sx hr hlocks dd_X12_lady_82 hS () (Or.inl ⟨by omega, rfl⟩) p_nil d_nil
      · have fc7 := ci_nle (a := gu.toInt) (b := 999) rfl rfl c7
        refine lv_aload_n hx hb dd_X12_lady_19 rfl (lv_at hl 0 rfl) ?_
        refine lv_bipush (v := (-2)) hx hb dd_X12_lady_20 (by decide) ?_
        refine hk_i (wr := [(q 11, .inl (cy 0, 5, .inl (fun _ => 0))), (q 12, .inl (cy 0, 5, .inl (fun _ => 0))), (q 13, .inl (cy 0, 5, .inl (fun _ => 0)))]) (c1 := 0) (s1 := 0) [0, 4] [1, 2, 3] (hc_V [.int (-2)] [] [0, 4] Sx hl.1 ws_M_152 md_X12_no (c_M_no_2 l D cy q) ⟨Nat.le_of_ble_eq_true rfl, Nat.le_of_ble_eq_true rfl⟩ hP hD rfl (by decide) hK nx_b (nx_w hX) (va_recv hK hP (ci := 12) (q0 := 0) rfl rfl) rfl rfl (Nat.le_of_ble_eq_true rfl) dd_X12_lady_22 ⟨Nat.le_of_ble_eq_true rfl, Nat.le_of_ble_eq_true rfl⟩) hS hA hP hD rfl rfl (by decide) (by decide) rfl rfl (fun r8 u9 H locs hw10 hP hD hS => ?_)
        have hP : va_P D cls [(q 11, .inl (cy 0, 5, .inl (fun _ => 0))), (q 12, .inl (cy 0, 5, .inl (fun _ => 0))), (q 13, .inl (cy 0, 5, .inl (fun _ => 0)))] H := hP
        have hD : va_D A [(q 11, .inl (cy 0, 5, .inl (fun _ => 0))), (q 12, .inl (cy 0, 5, .inl (fun _ => 0))), (q 13, .inl (cy 0, 5, .inl (fun _ => 0)))] := hD
        subst hw10
        exact hc_ret Sx hr hlocks dd_X12_lady_25 hS () (Or.inr ⟨by omega, rfl⟩) p_nil d_nil
  · subst ehw2
    refine lv_if_eq (tgt := 19) hx hb dd_X12_lady_5 (by decide) (fun _ => ?_) (fun c => absurd c (by decide))
    refine lv_aload_n hx hb dd_X12_lady_19 rfl (lv_at hl 0 rfl) ?_
    refine lv_bipush (v := (-2)) hx hb dd_X12_lady_20 (by decide) ?_
    refine hk_i (wr := [(q 11, .inl (cy 0, 5, .inl (fun _ => 0))), (q 12, .inl (cy 0, 5, .inl (fun _ => 0))), (q 13, .inl (cy 0, 5, .inl (fun _ => 0)))]) (c1 := 0) (s1 := 0) [0, 4] [1, 2, 3] (hc_V [.int (-2)] [] [0, 4] Sx hl.1 ws_M_152 md_X12_no (c_M_no_2 l D cy q) ⟨Nat.le_of_ble_eq_true rfl, Nat.le_of_ble_eq_true rfl⟩ hP hD rfl (by decide) hK nx_b (nx_w hX) (va_recv hK hP (ci := 12) (q0 := 0) rfl rfl) rfl rfl (Nat.le_of_ble_eq_true rfl) dd_X12_lady_22 ⟨Nat.le_of_ble_eq_true rfl, Nat.le_of_ble_eq_true rfl⟩) hS hA hP hD rfl rfl (by decide) (by decide) rfl rfl (fun r11 u12 H locs hw13 hP hD hS => ?_)
    have hP : va_P D cls [(q 11, .inl (cy 0, 5, .inl (fun _ => 0))), (q 12, .inl (cy 0, 5, .inl (fun _ => 0))), (q 13, .inl (cy 0, 5, .inl (fun _ => 0)))] H := hP
    have hD : va_D A [(q 11, .inl (cy 0, 5, .inl (fun _ => 0))), (q 12, .inl (cy 0, 5, .inl (fun _ => 0))), (q 13, .inl (cy 0, 5, .inl (fun _ => 0)))] := hD
    subst hw13
    exact hc_ret Sx hr hlocks dd_X12_lady_25 hS () (Or.inr ⟨by omega, rfl⟩) p_nil d_nil
set_option maxHeartbeats 4000000 in
set_option maxRecDepth 100000 in
theorem c_M_pub_wipe (l : Launch) (D : va_G) (cy : Nat → ClassId) (q : Nat → Nat) : HC l my_X12_wipe mb_X12_wipe 2 ((some .int)) (rmD 1 0 0) D (TY cy) [.ref (q 60)] NX [(q 60, .inr (12, fM q))] (QI (S := Unit) D (fun r _ => r = 0) (fun _ => [])) := by
  refine hc_intro (by decide) (Nat.le_of_ble_eq_true rfl) (fun p e s m below meth c A ls Sx hr hlocks hin hl hP hD hK hS hA hX => ?_)
  have hx := Sx.1
  have hb := Sx.2.1
  have hl : lv_has ls 2 [(0, .ref (q 60))] := hl
  have hP : va_P D cls [(q 60, .inr (12, fM q))] s.heap := hP
  have hD : va_D A [(q 60, .inr (12, fM q))] := hD
  refine lv_aload_n hx hb dd_X12_wipe_0 rfl (lv_at hl 0 rfl) ?_
  refine wk_get (v := .int 0) Sx ef_12 hK hP 0 rfl rfl 16 (by decide) kk_1117 rfl dd_X12_wipe_1 ?_
  refine lv_istore_n (lv' := [(1, .int 0), (0, .ref (q 60))]) hx hb dd_X12_wipe_4 rfl hl (by decide) rfl (fun ls hl => ?_)
  refine lv_aload_n hx hb dd_X12_wipe_5 rfl (lv_at hl 1 rfl) ?_
  refine lv_iconst (v := 0) hx hb dd_X12_wipe_6 (by decide) ?_
  refine wk_put (ws' := [(q 60, .inr (12, fM q))]) Sx ef_12 hK hP hD hS 0 rfl rfl 16 (by decide) kk_1117 rfl rfl rfl (Nat.le_of_ble_eq_true rfl) dd_X12_wipe_7 rfl (fun H locs hP hD hS => ?_)
  refine lv_iload_n hx hb dd_X12_wipe_10 rfl (lv_at hl 0 rfl) ?_
  exact hc_ret Sx hr hlocks dd_X12_wipe_11 hS () rfl p_nil d_nil
set_option maxHeartbeats 4000000 in
set_option maxRecDepth 100000 in
theorem c_M_pub_buyer (l : Launch) (D : va_G) (cy : Nat → ClassId) (q : Nat → Nat) (ho : Int32) (pu : Int32) (wi : Int32) (ey : Int32) : HC l my_X12_buyer mb_X12_buyer 5 ((some .int)) (rmD 2 0 0) D (TY cy) [.ref (q 60), .int ho, .int pu, .int wi, .int ey] NX [(q 60, .inr (12, fM q)), (q 19, .inl (cy 0, 12, .inl (fun _ => 0))), (q 20, .inl (cy 0, 12, .inl (fun _ => 0))), (q 21, .inl (cy 0, 12, .inl (fun _ => 0))), (q 22, .inl (cy 0, 12, .inl (fun _ => 0))), (q 23, .inl (cy 0, 12, .inl (fun _ => 0))), (q 36, .inl (cy 0, 7, .inl (fun _ => 0)))] (QI (S := Unit) D (fun r _ => if2 (0 ≤ ho.toInt ∧ ho.toInt ≤ 11 ∧ 0 ≤ pu.toInt ∧ pu.toInt ≤ 9999 ∧ 0 ≤ wi.toInt ∧ wi.toInt ≤ 63 ∧ 0 ≤ ey.toInt ∧ ey.toInt ≤ 300) 0 (-2) r) (fun _ => [])) := by
  refine hc_intro (by decide) (Nat.le_of_ble_eq_true rfl) (fun p e s m below meth c A ls Sx hr hlocks hin hl hP hD hK hS hA hX => ?_)
  have hx := Sx.1
  have hb := Sx.2.1
  have hl : lv_has ls 5 [(0, .ref (q 60)), (1, .int ho), (2, .int pu), (3, .int wi), (4, .int ey)] := hl
  have hP : va_P D cls [(q 60, .inr (12, fM q)), (q 19, .inl (cy 0, 12, .inl (fun _ => 0))), (q 20, .inl (cy 0, 12, .inl (fun _ => 0))), (q 21, .inl (cy 0, 12, .inl (fun _ => 0))), (q 22, .inl (cy 0, 12, .inl (fun _ => 0))), (q 23, .inl (cy 0, 12, .inl (fun _ => 0))), (q 36, .inl (cy 0, 7, .inl (fun _ => 0)))] s.heap := hP
  have hD : va_D A [(q 60, .inr (12, fM q)), (q 19, .inl (cy 0, 12, .inl (fun _ => 0))), (q 20, .inl (cy 0, 12, .inl (fun _ => 0))), (q 21, .inl (cy 0, 12, .inl (fun _ => 0))), (q 22, .inl (cy 0, 12, .inl (fun _ => 0))), (q 23, .inl (cy 0, 12, .inl (fun _ => 0))), (q 36, .inl (cy 0, 7, .inl (fun _ => 0)))] := hD
  refine lv_aload_n hx hb dd_X12_buyer_0 rfl (lv_at hl 0 rfl) ?_
  refine lv_iload_n hx hb dd_X12_buyer_1 rfl (lv_at hl 1 rfl) ?_
  refine pk_i (pc_V [.int ho] [] Sx hl.1 ws_M_248 md_X12_isHour (c_M_isHour l D cy q ho) ⟨rfl, rfl⟩ ⟨Nat.le_of_ble_eq_true rfl, Nat.le_of_ble_eq_true rfl⟩ p_nil hK ns_b (ns_w hX) (va_recv hK hP (ci := 12) (q0 := 0) rfl rfl) rfl rfl (Nat.le_of_ble_eq_true rfl) dd_X12_buyer_2 ⟨Nat.le_of_ble_eq_true rfl, Nat.le_of_ble_eq_true rfl⟩) (fun r1 hw2 => ?_)
  rcases hw2 with ⟨hw2, ehw2⟩ | ⟨hw2, ehw2⟩
  · subst ehw2
    refine lv_if_eq (tgt := 40) hx hb dd_X12_buyer_5 (by decide) (fun c => absurd c (by decide)) (fun _ => ?_)
    refine lv_iload_n hx hb dd_X12_buyer_8 rfl (lv_at hl 2 rfl) ?_
    refine lv_if_lt (tgt := 40) hx hb dd_X12_buyer_9 (by decide) (fun c3 => ?_) (fun c3 => ?_)
    · have fc3 := ci_lt (a := pu.toInt) (b := 0) rfl rfl c3
      refine lv_aload_n hx hb dd_X12_buyer_40 rfl (lv_at hl 0 rfl) ?_
      refine lv_bipush (v := (-2)) hx hb dd_X12_buyer_41 (by decide) ?_
      refine hk_i (wr := [(q 19, .inl (cy 0, 12, .inl (fun _ => 0))), (q 20, .inl (cy 0, 12, .inl (fun _ => 0))), (q 21, .inl (cy 0, 12, .inl (fun _ => 0))), (q 22, .inl (cy 0, 12, .inl (fun _ => 0))), (q 23, .inl (cy 0, 12, .inl (fun _ => 0)))]) (c1 := 0) (s1 := 0) [0, 6] [1, 2, 3, 4, 5] (hc_V [.int (-2)] [] [0, 6] Sx hl.1 ws_M_152 md_X12_no (c_M_no_2 l D cy q) ⟨Nat.le_of_ble_eq_true rfl, Nat.le_of_ble_eq_true rfl⟩ hP hD rfl (by decide) hK nx_b (nx_w hX) (va_recv hK hP (ci := 12) (q0 := 0) rfl rfl) rfl rfl (Nat.le_of_ble_eq_true rfl) dd_X12_buyer_43 ⟨Nat.le_of_ble_eq_true rfl, Nat.le_of_ble_eq_true rfl⟩) hS hA hP hD rfl rfl (by decide) (by decide) rfl rfl (fun r4 u5 H locs hw6 hP hD hS => ?_)
      have hP : va_P D cls [(q 19, .inl (cy 0, 12, .inl (fun _ => 0))), (q 20, .inl (cy 0, 12, .inl (fun _ => 0))), (q 21, .inl (cy 0, 12, .inl (fun _ => 0))), (q 22, .inl (cy 0, 12, .inl (fun _ => 0))), (q 23, .inl (cy 0, 12, .inl (fun _ => 0)))] H := hP
      have hD : va_D A [(q 19, .inl (cy 0, 12, .inl (fun _ => 0))), (q 20, .inl (cy 0, 12, .inl (fun _ => 0))), (q 21, .inl (cy 0, 12, .inl (fun _ => 0))), (q 22, .inl (cy 0, 12, .inl (fun _ => 0))), (q 23, .inl (cy 0, 12, .inl (fun _ => 0)))] := hD
      subst hw6
      exact hc_ret Sx hr hlocks dd_X12_buyer_46 hS () (Or.inr ⟨by omega, rfl⟩) p_nil d_nil
    · have fc3 := ci_nlt (a := pu.toInt) (b := 0) rfl rfl c3
      refine lv_iload_n hx hb dd_X12_buyer_12 rfl (lv_at hl 2 rfl) ?_
      refine lv_sipush (v := 9999) hx hb dd_X12_buyer_13 (by decide) ?_
      refine lv_icmp_gt (tgt := 40) hx hb dd_X12_buyer_16 (by decide) (fun c7 => ?_) (fun c7 => ?_)
      · have fc7 := ci_lt (a := 9999) (b := pu.toInt) rfl rfl c7
        refine lv_aload_n hx hb dd_X12_buyer_40 rfl (lv_at hl 0 rfl) ?_
        refine lv_bipush (v := (-2)) hx hb dd_X12_buyer_41 (by decide) ?_
        refine hk_i (wr := [(q 19, .inl (cy 0, 12, .inl (fun _ => 0))), (q 20, .inl (cy 0, 12, .inl (fun _ => 0))), (q 21, .inl (cy 0, 12, .inl (fun _ => 0))), (q 22, .inl (cy 0, 12, .inl (fun _ => 0))), (q 23, .inl (cy 0, 12, .inl (fun _ => 0)))]) (c1 := 0) (s1 := 0) [0, 6] [1, 2, 3, 4, 5] (hc_V [.int (-2)] [] [0, 6] Sx hl.1 ws_M_152 md_X12_no (c_M_no_2 l D cy q) ⟨Nat.le_of_ble_eq_true rfl, Nat.le_of_ble_eq_true rfl⟩ hP hD rfl (by decide) hK nx_b (nx_w hX) (va_recv hK hP (ci := 12) (q0 := 0) rfl rfl) rfl rfl (Nat.le_of_ble_eq_true rfl) dd_X12_buyer_43 ⟨Nat.le_of_ble_eq_true rfl, Nat.le_of_ble_eq_true rfl⟩) hS hA hP hD rfl rfl (by decide) (by decide) rfl rfl (fun r8 u9 H locs hw10 hP hD hS => ?_)
        have hP : va_P D cls [(q 19, .inl (cy 0, 12, .inl (fun _ => 0))), (q 20, .inl (cy 0, 12, .inl (fun _ => 0))), (q 21, .inl (cy 0, 12, .inl (fun _ => 0))), (q 22, .inl (cy 0, 12, .inl (fun _ => 0))), (q 23, .inl (cy 0, 12, .inl (fun _ => 0)))] H := hP
        have hD : va_D A [(q 19, .inl (cy 0, 12, .inl (fun _ => 0))), (q 20, .inl (cy 0, 12, .inl (fun _ => 0))), (q 21, .inl (cy 0, 12, .inl (fun _ => 0))), (q 22, .inl (cy 0, 12, .inl (fun _ => 0))), (q 23, .inl (cy 0, 12, .inl (fun _ => 0)))] := hD
        subst hw10
        exact hc_ret Sx hr hlocks dd_X12_buyer_46 hS () (Or.inr ⟨by omega, rfl⟩) p_nil d_nil
      · have fc7 := ci_nlt (a := 9999) (b := pu.toInt) rfl rfl c7
        refine lv_aload_n hx hb dd_X12_buyer_19 rfl (lv_at hl 0 rfl) ?_
        refine lv_iload_n hx hb dd_X12_buyer_20 rfl (lv_at hl 3 rfl) ?_
        refine pk_i (pc_V [.int wi] [] Sx hl.1 ws_M_190 md_X12_areKinds (c_M_areKinds l D cy q wi) ⟨rfl, rfl⟩ ⟨Nat.le_of_ble_eq_true rfl, Nat.le_of_ble_eq_true rfl⟩ p_nil hK ns_b (ns_w hX) (va_recv hK hP (ci := 12) (q0 := 0) rfl rfl) rfl rfl (Nat.le_of_ble_eq_true rfl) dd_X12_buyer_21 ⟨Nat.le_of_ble_eq_true rfl, Nat.le_of_ble_eq_true rfl⟩) (fun r11 hw12 => ?_)
        rcases hw12 with ⟨hw12, ehw12⟩ | ⟨hw12, ehw12⟩
        · subst ehw12
          refine lv_if_eq (tgt := 40) hx hb dd_X12_buyer_24 (by decide) (fun c => absurd c (by decide)) (fun _ => ?_)
          refine lv_iload hx hb dd_X12_buyer_27 (lv_at hl 4 rfl) ?_
          refine lv_if_lt (tgt := 40) hx hb dd_X12_buyer_29 (by decide) (fun c13 => ?_) (fun c13 => ?_)
          · have fc13 := ci_lt (a := ey.toInt) (b := 0) rfl rfl c13
            refine lv_aload_n hx hb dd_X12_buyer_40 rfl (lv_at hl 0 rfl) ?_
            refine lv_bipush (v := (-2)) hx hb dd_X12_buyer_41 (by decide) ?_
            refine hk_i (wr := [(q 19, .inl (cy 0, 12, .inl (fun _ => 0))), (q 20, .inl (cy 0, 12, .inl (fun _ => 0))), (q 21, .inl (cy 0, 12, .inl (fun _ => 0))), (q 22, .inl (cy 0, 12, .inl (fun _ => 0))), (q 23, .inl (cy 0, 12, .inl (fun _ => 0)))]) (c1 := 0) (s1 := 0) [0, 6] [1, 2, 3, 4, 5] (hc_V [.int (-2)] [] [0, 6] Sx hl.1 ws_M_152 md_X12_no (c_M_no_2 l D cy q) ⟨Nat.le_of_ble_eq_true rfl, Nat.le_of_ble_eq_true rfl⟩ hP hD rfl (by decide) hK nx_b (nx_w hX) (va_recv hK hP (ci := 12) (q0 := 0) rfl rfl) rfl rfl (Nat.le_of_ble_eq_true rfl) dd_X12_buyer_43 ⟨Nat.le_of_ble_eq_true rfl, Nat.le_of_ble_eq_true rfl⟩) hS hA hP hD rfl rfl (by decide) (by decide) rfl rfl (fun r14 u15 H locs hw16 hP hD hS => ?_)
            have hP : va_P D cls [(q 19, .inl (cy 0, 12, .inl (fun _ => 0))), (q 20, .inl (cy 0, 12, .inl (fun _ => 0))), (q 21, .inl (cy 0, 12, .inl (fun _ => 0))), (q 22, .inl (cy 0, 12, .inl (fun _ => 0))), (q 23, .inl (cy 0, 12, .inl (fun _ => 0)))] H := hP
            have hD : va_D A [(q 19, .inl (cy 0, 12, .inl (fun _ => 0))), (q 20, .inl (cy 0, 12, .inl (fun _ => 0))), (q 21, .inl (cy 0, 12, .inl (fun _ => 0))), (q 22, .inl (cy 0, 12, .inl (fun _ => 0))), (q 23, .inl (cy 0, 12, .inl (fun _ => 0)))] := hD
            subst hw16
            exact hc_ret Sx hr hlocks dd_X12_buyer_46 hS () (Or.inr ⟨by omega, rfl⟩) p_nil d_nil
          · have fc13 := ci_nlt (a := ey.toInt) (b := 0) rfl rfl c13
            refine lv_iload hx hb dd_X12_buyer_32 (lv_at hl 4 rfl) ?_
            refine lv_sipush (v := 300) hx hb dd_X12_buyer_34 (by decide) ?_
            refine lv_icmp_le (tgt := 47) hx hb dd_X12_buyer_37 (by decide) (fun c17 => ?_) (fun c17 => ?_)
            · have fc17 := ci_le (a := ey.toInt) (b := 300) rfl rfl c17
              refine lv_aload_n hx hb dd_X12_buyer_47 rfl (lv_at hl 0 rfl) ?_
              refine wk_get (v := .int 0) Sx ef_12 hK hP 0 rfl rfl 18 (by decide) kk_1119 rfl dd_X12_buyer_48 ?_
              refine lv_bipush (v := 12) hx hb dd_X12_buyer_51 (by decide) ?_
              refine lv_icmp_ne (tgt := 63) hx hb dd_X12_buyer_53 (by decide) (fun _ => ?_) (fun c => absurd c (by decide))
              refine lv_aload_n hx hb dd_X12_buyer_63 rfl (lv_at hl 0 rfl) ?_
              refine wk_get (v := .ref (q 19)) Sx ef_12 hK hP 0 rfl rfl 19 (by decide) kk_1120 rfl dd_X12_buyer_64 ?_
              refine lv_aload_n hx hb dd_X12_buyer_67 rfl (lv_at hl 0 rfl) ?_
              refine wk_get (v := .int 0) Sx ef_12 hK hP 0 rfl rfl 18 (by decide) kk_1119 rfl dd_X12_buyer_68 ?_
              refine lv_iload_n hx hb dd_X12_buyer_71 rfl (lv_at hl 1 rfl) ?_
              refine wk_iast (ws' := [(q 60, .inr (12, fM q)), (q 19, .inl (cy 0, 12, .inl (upd (fun _ => 0) (0 : Int32).toNatClampNeg ho))), (q 20, .inl (cy 0, 12, .inl (fun _ => 0))), (q 21, .inl (cy 0, 12, .inl (fun _ => 0))), (q 22, .inl (cy 0, 12, .inl (fun _ => 0))), (q 23, .inl (cy 0, 12, .inl (fun _ => 0))), (q 36, .inl (cy 0, 7, .inl (fun _ => 0)))]) Sx hK hP hD hS 1 0 rfl rfl (vi_of (by decide)) dd_X12_buyer_72 rfl (fun H locs hP hD hS => ?_)
              refine lv_aload_n hx hb dd_X12_buyer_73 rfl (lv_at hl 0 rfl) ?_
              refine wk_get (v := .ref (q 20)) Sx ef_12 hK hP 0 rfl rfl 20 (by decide) kk_1121 rfl dd_X12_buyer_74 ?_
              refine lv_aload_n hx hb dd_X12_buyer_77 rfl (lv_at hl 0 rfl) ?_
              refine wk_get (v := .int 0) Sx ef_12 hK hP 0 rfl rfl 18 (by decide) kk_1119 rfl dd_X12_buyer_78 ?_
              refine lv_iload_n hx hb dd_X12_buyer_81 rfl (lv_at hl 2 rfl) ?_
              refine wk_iast (ws' := [(q 60, .inr (12, fM q)), (q 19, .inl (cy 0, 12, .inl (upd (fun _ => 0) (0 : Int32).toNatClampNeg ho))), (q 20, .inl (cy 0, 12, .inl (upd (fun _ => 0) (0 : Int32).toNatClampNeg pu))), (q 21, .inl (cy 0, 12, .inl (fun _ => 0))), (q 22, .inl (cy 0, 12, .inl (fun _ => 0))), (q 23, .inl (cy 0, 12, .inl (fun _ => 0))), (q 36, .inl (cy 0, 7, .inl (fun _ => 0)))]) Sx hK hP hD hS 2 0 rfl rfl (vi_of (by decide)) dd_X12_buyer_82 rfl (fun H locs hP hD hS => ?_)
              refine lv_aload_n hx hb dd_X12_buyer_83 rfl (lv_at hl 0 rfl) ?_
              refine wk_get (v := .ref (q 21)) Sx ef_12 hK hP 0 rfl rfl 21 (by decide) kk_1122 rfl dd_X12_buyer_84 ?_
              refine lv_aload_n hx hb dd_X12_buyer_87 rfl (lv_at hl 0 rfl) ?_
              refine wk_get (v := .int 0) Sx ef_12 hK hP 0 rfl rfl 18 (by decide) kk_1119 rfl dd_X12_buyer_88 ?_
              refine lv_iload_n hx hb dd_X12_buyer_91 rfl (lv_at hl 3 rfl) ?_
              refine wk_iast (ws' := [(q 60, .inr (12, fM q)), (q 19, .inl (cy 0, 12, .inl (upd (fun _ => 0) (0 : Int32).toNatClampNeg ho))), (q 20, .inl (cy 0, 12, .inl (upd (fun _ => 0) (0 : Int32).toNatClampNeg pu))), (q 21, .inl (cy 0, 12, .inl (upd (fun _ => 0) (0 : Int32).toNatClampNeg wi))), (q 22, .inl (cy 0, 12, .inl (fun _ => 0))), (q 23, .inl (cy 0, 12, .inl (fun _ => 0))), (q 36, .inl (cy 0, 7, .inl (fun _ => 0)))]) Sx hK hP hD hS 3 0 rfl rfl (vi_of (by decide)) dd_X12_buyer_92 rfl (fun H locs hP hD hS => ?_)
              refine lv_aload_n hx hb dd_X12_buyer_93 rfl (lv_at hl 0 rfl) ?_
              refine wk_get (v := .ref (q 22)) Sx ef_12 hK hP 0 rfl rfl 22 (by decide) kk_1123 rfl dd_X12_buyer_94 ?_
              refine lv_aload_n hx hb dd_X12_buyer_97 rfl (lv_at hl 0 rfl) ?_
              refine wk_get (v := .int 0) Sx ef_12 hK hP 0 rfl rfl 18 (by decide) kk_1119 rfl dd_X12_buyer_98 ?_
              refine lv_iload hx hb dd_X12_buyer_101 (lv_at hl 4 rfl) ?_
              refine wk_iast (ws' := [(q 60, .inr (12, fM q)), (q 19, .inl (cy 0, 12, .inl (upd (fun _ => 0) (0 : Int32).toNatClampNeg ho))), (q 20, .inl (cy 0, 12, .inl (upd (fun _ => 0) (0 : Int32).toNatClampNeg pu))), (q 21, .inl (cy 0, 12, .inl (upd (fun _ => 0) (0 : Int32).toNatClampNeg wi))), (q 22, .inl (cy 0, 12, .inl (upd (fun _ => 0) (0 : Int32).toNatClampNeg ey))), (q 23, .inl (cy 0, 12, .inl (fun _ => 0))), (q 36, .inl (cy 0, 7, .inl (fun _ => 0)))]) Sx hK hP hD hS 4 0 rfl rfl (vi_of (by decide)) dd_X12_buyer_103 rfl (fun H locs hP hD hS => ?_)
              refine lv_aload_n hx hb dd_X12_buyer_104 rfl (lv_at hl 0 rfl) ?_
              refine wk_get (v := .ref (q 23)) Sx ef_12 hK hP 0 rfl rfl 23 (by decide) kk_1124 rfl dd_X12_buyer_105 ?_
              refine lv_aload_n hx hb dd_X12_buyer_108 rfl (lv_at hl 0 rfl) ?_
              refine wk_get (v := .int 0) Sx ef_12 hK hP 0 rfl rfl 18 (by decide) kk_1119 rfl dd_X12_buyer_109 ?_
              refine lv_iconst (v := 0) hx hb dd_X12_buyer_112 (by decide) ?_
              refine wk_iast (ws' := [(q 60, .inr (12, fM q)), (q 19, .inl (cy 0, 12, .inl (upd (fun _ => 0) (0 : Int32).toNatClampNeg ho))), (q 20, .inl (cy 0, 12, .inl (upd (fun _ => 0) (0 : Int32).toNatClampNeg pu))), (q 21, .inl (cy 0, 12, .inl (upd (fun _ => 0) (0 : Int32).toNatClampNeg wi))), (q 22, .inl (cy 0, 12, .inl (upd (fun _ => 0) (0 : Int32).toNatClampNeg ey))), (q 23, .inl (cy 0, 12, .inl (fun _ => 0))), (q 36, .inl (cy 0, 7, .inl (fun _ => 0)))]) Sx hK hP hD hS 5 0 rfl rfl (vi_of (by decide)) dd_X12_buyer_113 (by rw [upd_c]; rfl) (fun H locs hP hD hS => ?_)
              refine lv_aload_n hx hb dd_X12_buyer_114 rfl (lv_at hl 0 rfl) ?_
              refine lv_dup hx hb dd_X12_buyer_115 rfl ?_
              refine wk_get (v := .int 0) Sx ef_12 hK hP 0 rfl rfl 18 (by decide) kk_1119 rfl dd_X12_buyer_116 ?_
              refine lv_dup_x1 hx hb dd_X12_buyer_119 rfl rfl ?_
              refine lv_iconst (v := 1) hx hb dd_X12_buyer_120 (by decide) ?_
              refine lv_iadd hx hb dd_X12_buyer_121 ?_
              refine wk_int (v := 1) (by decide) ?_
              refine wk_put (ws' := [(q 60, .inr (12, (fM q).set 18 (.int 1))), (q 19, .inl (cy 0, 12, .inl (upd (fun _ => 0) (0 : Int32).toNatClampNeg ho))), (q 20, .inl (cy 0, 12, .inl (upd (fun _ => 0) (0 : Int32).toNatClampNeg pu))), (q 21, .inl (cy 0, 12, .inl (upd (fun _ => 0) (0 : Int32).toNatClampNeg wi))), (q 22, .inl (cy 0, 12, .inl (upd (fun _ => 0) (0 : Int32).toNatClampNeg ey))), (q 23, .inl (cy 0, 12, .inl (fun _ => 0))), (q 36, .inl (cy 0, 7, .inl (fun _ => 0)))]) Sx ef_12 hK hP hD hS 0 rfl rfl 18 (by decide) kk_1119 rfl rfl rfl (Nat.le_of_ble_eq_true rfl) dd_X12_buyer_122 rfl (fun H locs hP hD hS => ?_)
              exact hc_ret Sx hr hlocks dd_X12_buyer_125 hS () (Or.inl ⟨by omega, rfl⟩) p_nil d_nil
            · have fc17 := ci_nle (a := ey.toInt) (b := 300) rfl rfl c17
              refine lv_aload_n hx hb dd_X12_buyer_40 rfl (lv_at hl 0 rfl) ?_
              refine lv_bipush (v := (-2)) hx hb dd_X12_buyer_41 (by decide) ?_
              refine hk_i (wr := [(q 19, .inl (cy 0, 12, .inl (fun _ => 0))), (q 20, .inl (cy 0, 12, .inl (fun _ => 0))), (q 21, .inl (cy 0, 12, .inl (fun _ => 0))), (q 22, .inl (cy 0, 12, .inl (fun _ => 0))), (q 23, .inl (cy 0, 12, .inl (fun _ => 0)))]) (c1 := 0) (s1 := 0) [0, 6] [1, 2, 3, 4, 5] (hc_V [.int (-2)] [] [0, 6] Sx hl.1 ws_M_152 md_X12_no (c_M_no_2 l D cy q) ⟨Nat.le_of_ble_eq_true rfl, Nat.le_of_ble_eq_true rfl⟩ hP hD rfl (by decide) hK nx_b (nx_w hX) (va_recv hK hP (ci := 12) (q0 := 0) rfl rfl) rfl rfl (Nat.le_of_ble_eq_true rfl) dd_X12_buyer_43 ⟨Nat.le_of_ble_eq_true rfl, Nat.le_of_ble_eq_true rfl⟩) hS hA hP hD rfl rfl (by decide) (by decide) rfl rfl (fun r18 u19 H locs hw20 hP hD hS => ?_)
              have hP : va_P D cls [(q 19, .inl (cy 0, 12, .inl (fun _ => 0))), (q 20, .inl (cy 0, 12, .inl (fun _ => 0))), (q 21, .inl (cy 0, 12, .inl (fun _ => 0))), (q 22, .inl (cy 0, 12, .inl (fun _ => 0))), (q 23, .inl (cy 0, 12, .inl (fun _ => 0)))] H := hP
              have hD : va_D A [(q 19, .inl (cy 0, 12, .inl (fun _ => 0))), (q 20, .inl (cy 0, 12, .inl (fun _ => 0))), (q 21, .inl (cy 0, 12, .inl (fun _ => 0))), (q 22, .inl (cy 0, 12, .inl (fun _ => 0))), (q 23, .inl (cy 0, 12, .inl (fun _ => 0)))] := hD
              subst hw20
              exact hc_ret Sx hr hlocks dd_X12_buyer_46 hS () (Or.inr ⟨by omega, rfl⟩) p_nil d_nil
        · subst ehw12
          refine lv_if_eq (tgt := 40) hx hb dd_X12_buyer_24 (by decide) (fun _ => ?_) (fun c => absurd c (by decide))
          refine lv_aload_n hx hb dd_X12_buyer_40 rfl (lv_at hl 0 rfl) ?_
          refine lv_bipush (v := (-2)) hx hb dd_X12_buyer_41 (by decide) ?_
          refine hk_i (wr := [(q 19, .inl (cy 0, 12, .inl (fun _ => 0))), (q 20, .inl (cy 0, 12, .inl (fun _ => 0))), (q 21, .inl (cy 0, 12, .inl (fun _ => 0))), (q 22, .inl (cy 0, 12, .inl (fun _ => 0))), (q 23, .inl (cy 0, 12, .inl (fun _ => 0)))]) (c1 := 0) (s1 := 0) [0, 6] [1, 2, 3, 4, 5] (hc_V [.int (-2)] [] [0, 6] Sx hl.1 ws_M_152 md_X12_no (c_M_no_2 l D cy q) ⟨Nat.le_of_ble_eq_true rfl, Nat.le_of_ble_eq_true rfl⟩ hP hD rfl (by decide) hK nx_b (nx_w hX) (va_recv hK hP (ci := 12) (q0 := 0) rfl rfl) rfl rfl (Nat.le_of_ble_eq_true rfl) dd_X12_buyer_43 ⟨Nat.le_of_ble_eq_true rfl, Nat.le_of_ble_eq_true rfl⟩) hS hA hP hD rfl rfl (by decide) (by decide) rfl rfl (fun r21 u22 H locs hw23 hP hD hS => ?_)
          have hP : va_P D cls [(q 19, .inl (cy 0, 12, .inl (fun _ => 0))), (q 20, .inl (cy 0, 12, .inl (fun _ => 0))), (q 21, .inl (cy 0, 12, .inl (fun _ => 0))), (q 22, .inl (cy 0, 12, .inl (fun _ => 0))), (q 23, .inl (cy 0, 12, .inl (fun _ => 0)))] H := hP
          have hD : va_D A [(q 19, .inl (cy 0, 12, .inl (fun _ => 0))), (q 20, .inl (cy 0, 12, .inl (fun _ => 0))), (q 21, .inl (cy 0, 12, .inl (fun _ => 0))), (q 22, .inl (cy 0, 12, .inl (fun _ => 0))), (q 23, .inl (cy 0, 12, .inl (fun _ => 0)))] := hD
          subst hw23
          exact hc_ret Sx hr hlocks dd_X12_buyer_46 hS () (Or.inr ⟨by omega, rfl⟩) p_nil d_nil
  · subst ehw2
    refine lv_if_eq (tgt := 40) hx hb dd_X12_buyer_5 (by decide) (fun _ => ?_) (fun c => absurd c (by decide))
    refine lv_aload_n hx hb dd_X12_buyer_40 rfl (lv_at hl 0 rfl) ?_
    refine lv_bipush (v := (-2)) hx hb dd_X12_buyer_41 (by decide) ?_
    refine hk_i (wr := [(q 19, .inl (cy 0, 12, .inl (fun _ => 0))), (q 20, .inl (cy 0, 12, .inl (fun _ => 0))), (q 21, .inl (cy 0, 12, .inl (fun _ => 0))), (q 22, .inl (cy 0, 12, .inl (fun _ => 0))), (q 23, .inl (cy 0, 12, .inl (fun _ => 0)))]) (c1 := 0) (s1 := 0) [0, 6] [1, 2, 3, 4, 5] (hc_V [.int (-2)] [] [0, 6] Sx hl.1 ws_M_152 md_X12_no (c_M_no_2 l D cy q) ⟨Nat.le_of_ble_eq_true rfl, Nat.le_of_ble_eq_true rfl⟩ hP hD rfl (by decide) hK nx_b (nx_w hX) (va_recv hK hP (ci := 12) (q0 := 0) rfl rfl) rfl rfl (Nat.le_of_ble_eq_true rfl) dd_X12_buyer_43 ⟨Nat.le_of_ble_eq_true rfl, Nat.le_of_ble_eq_true rfl⟩) hS hA hP hD rfl rfl (by decide) (by decide) rfl rfl (fun r24 u25 H locs hw26 hP hD hS => ?_)
    have hP : va_P D cls [(q 19, .inl (cy 0, 12, .inl (fun _ => 0))), (q 20, .inl (cy 0, 12, .inl (fun _ => 0))), (q 21, .inl (cy 0, 12, .inl (fun _ => 0))), (q 22, .inl (cy 0, 12, .inl (fun _ => 0))), (q 23, .inl (cy 0, 12, .inl (fun _ => 0)))] H := hP
    have hD : va_D A [(q 19, .inl (cy 0, 12, .inl (fun _ => 0))), (q 20, .inl (cy 0, 12, .inl (fun _ => 0))), (q 21, .inl (cy 0, 12, .inl (fun _ => 0))), (q 22, .inl (cy 0, 12, .inl (fun _ => 0))), (q 23, .inl (cy 0, 12, .inl (fun _ => 0)))] := hD
    subst hw26
    exact hc_ret Sx hr hlocks dd_X12_buyer_46 hS () (Or.inr ⟨by omega, rfl⟩) p_nil d_nil
set_option maxHeartbeats 4000000 in
set_option maxRecDepth 100000 in
theorem c_M_pub_turn (l : Launch) (D : va_G) (cy : Nat → ClassId) (q : Nat → Nat) (wh : Int32) (ho : Int32) : HC l my_X12_turn mb_X12_turn 4 ((some .int)) (rmD 2 0 0) D (TY cy) [.ref (q 60), .int wh, .int ho] NX [(q 60, .inr (12, fM q)), (q 35, .inl (cy 0, 4, .inl (hours0))), (q 36, .inl (cy 0, 7, .inl (fun _ => 0)))] (QI (S := Unit) D (fun r _ => if2 (0 ≤ wh.toInt ∧ wh.toInt ≤ 1 ∧ 0 ≤ ho.toInt ∧ ho.toInt ≤ 12) 12 (-2) r) (fun _ => [])) := by
  refine hc_intro (by decide) (Nat.le_of_ble_eq_true rfl) (fun p e s m below meth c A ls Sx hr hlocks hin hl hP hD hK hS hA hX => ?_)
  have hx := Sx.1
  have hb := Sx.2.1
  have hl : lv_has ls 4 [(0, .ref (q 60)), (1, .int wh), (2, .int ho)] := hl
  have hP : va_P D cls [(q 60, .inr (12, fM q)), (q 35, .inl (cy 0, 4, .inl (hours0))), (q 36, .inl (cy 0, 7, .inl (fun _ => 0)))] s.heap := hP
  have hD : va_D A [(q 60, .inr (12, fM q)), (q 35, .inl (cy 0, 4, .inl (hours0))), (q 36, .inl (cy 0, 7, .inl (fun _ => 0)))] := hD
  refine lv_iload_n hx hb dd_X12_turn_0 rfl (lv_at hl 1 rfl) ?_
  refine lv_if_lt (tgt := 19) hx hb dd_X12_turn_1 (by decide) (fun c1 => ?_) (fun c1 => ?_)
  · have fc1 := ci_lt (a := wh.toInt) (b := 0) rfl rfl c1
    refine lv_aload_n hx hb dd_X12_turn_19 rfl (lv_at hl 0 rfl) ?_
    refine lv_bipush (v := (-2)) hx hb dd_X12_turn_20 (by decide) ?_
    refine hk_i (wr := [(q 35, .inl (cy 0, 4, .inl (hours0)))]) (c1 := 0) (s1 := 0) [0, 2] [1] (hc_V [.int (-2)] [] [0, 2] Sx hl.1 ws_M_152 md_X12_no (c_M_no_2 l D cy q) ⟨Nat.le_of_ble_eq_true rfl, Nat.le_of_ble_eq_true rfl⟩ hP hD rfl (by decide) hK nx_b (nx_w hX) (va_recv hK hP (ci := 12) (q0 := 0) rfl rfl) rfl rfl (Nat.le_of_ble_eq_true rfl) dd_X12_turn_22 ⟨Nat.le_of_ble_eq_true rfl, Nat.le_of_ble_eq_true rfl⟩) hS hA hP hD rfl rfl (by decide) (by decide) rfl rfl (fun r2 u3 H locs hw4 hP hD hS => ?_)
    have hP : va_P D cls [(q 35, .inl (cy 0, 4, .inl (hours0)))] H := hP
    have hD : va_D A [(q 35, .inl (cy 0, 4, .inl (hours0)))] := hD
    subst hw4
    exact hc_ret Sx hr hlocks dd_X12_turn_25 hS () (Or.inr ⟨by omega, rfl⟩) p_nil d_nil
  · have fc1 := ci_nlt (a := wh.toInt) (b := 0) rfl rfl c1
    refine lv_iload_n hx hb dd_X12_turn_4 rfl (lv_at hl 1 rfl) ?_
    refine lv_iconst (v := 1) hx hb dd_X12_turn_5 (by decide) ?_
    refine lv_icmp_gt (tgt := 19) hx hb dd_X12_turn_6 (by decide) (fun c5 => ?_) (fun c5 => ?_)
    · have fc5 := ci_lt (a := 1) (b := wh.toInt) rfl rfl c5
      refine lv_aload_n hx hb dd_X12_turn_19 rfl (lv_at hl 0 rfl) ?_
      refine lv_bipush (v := (-2)) hx hb dd_X12_turn_20 (by decide) ?_
      refine hk_i (wr := [(q 35, .inl (cy 0, 4, .inl (hours0)))]) (c1 := 0) (s1 := 0) [0, 2] [1] (hc_V [.int (-2)] [] [0, 2] Sx hl.1 ws_M_152 md_X12_no (c_M_no_2 l D cy q) ⟨Nat.le_of_ble_eq_true rfl, Nat.le_of_ble_eq_true rfl⟩ hP hD rfl (by decide) hK nx_b (nx_w hX) (va_recv hK hP (ci := 12) (q0 := 0) rfl rfl) rfl rfl (Nat.le_of_ble_eq_true rfl) dd_X12_turn_22 ⟨Nat.le_of_ble_eq_true rfl, Nat.le_of_ble_eq_true rfl⟩) hS hA hP hD rfl rfl (by decide) (by decide) rfl rfl (fun r6 u7 H locs hw8 hP hD hS => ?_)
      have hP : va_P D cls [(q 35, .inl (cy 0, 4, .inl (hours0)))] H := hP
      have hD : va_D A [(q 35, .inl (cy 0, 4, .inl (hours0)))] := hD
      subst hw8
      exact hc_ret Sx hr hlocks dd_X12_turn_25 hS () (Or.inr ⟨by omega, rfl⟩) p_nil d_nil
    · have fc5 := ci_nlt (a := 1) (b := wh.toInt) rfl rfl c5
      refine lv_iload_n hx hb dd_X12_turn_9 rfl (lv_at hl 2 rfl) ?_
      refine lv_if_lt (tgt := 19) hx hb dd_X12_turn_10 (by decide) (fun c9 => ?_) (fun c9 => ?_)
      · have fc9 := ci_lt (a := ho.toInt) (b := 0) rfl rfl c9
        refine lv_aload_n hx hb dd_X12_turn_19 rfl (lv_at hl 0 rfl) ?_
        refine lv_bipush (v := (-2)) hx hb dd_X12_turn_20 (by decide) ?_
        refine hk_i (wr := [(q 35, .inl (cy 0, 4, .inl (hours0)))]) (c1 := 0) (s1 := 0) [0, 2] [1] (hc_V [.int (-2)] [] [0, 2] Sx hl.1 ws_M_152 md_X12_no (c_M_no_2 l D cy q) ⟨Nat.le_of_ble_eq_true rfl, Nat.le_of_ble_eq_true rfl⟩ hP hD rfl (by decide) hK nx_b (nx_w hX) (va_recv hK hP (ci := 12) (q0 := 0) rfl rfl) rfl rfl (Nat.le_of_ble_eq_true rfl) dd_X12_turn_22 ⟨Nat.le_of_ble_eq_true rfl, Nat.le_of_ble_eq_true rfl⟩) hS hA hP hD rfl rfl (by decide) (by decide) rfl rfl (fun r10 u11 H locs hw12 hP hD hS => ?_)
        have hP : va_P D cls [(q 35, .inl (cy 0, 4, .inl (hours0)))] H := hP
        have hD : va_D A [(q 35, .inl (cy 0, 4, .inl (hours0)))] := hD
        subst hw12
        exact hc_ret Sx hr hlocks dd_X12_turn_25 hS () (Or.inr ⟨by omega, rfl⟩) p_nil d_nil
      · have fc9 := ci_nlt (a := ho.toInt) (b := 0) rfl rfl c9
        refine lv_iload_n hx hb dd_X12_turn_13 rfl (lv_at hl 2 rfl) ?_
        refine lv_bipush (v := 12) hx hb dd_X12_turn_14 (by decide) ?_
        refine lv_icmp_le (tgt := 26) hx hb dd_X12_turn_16 (by decide) (fun c13 => ?_) (fun c13 => ?_)
        · have fc13 := ci_le (a := ho.toInt) (b := 12) rfl rfl c13
          refine lv_aload_n hx hb dd_X12_turn_26 rfl (lv_at hl 0 rfl) ?_
          refine wk_get (v := .ref (q 35)) Sx ef_12 hK hP 0 rfl rfl 35 (by decide) kk_1136 rfl dd_X12_turn_27 ?_
          refine lv_iload_n hx hb dd_X12_turn_30 rfl (lv_at hl 1 rfl) ?_
          have hi14 : vp_in wh 4 := (vi_of (by omega))
          refine va_iald hx hb hK hP 1 0 rfl rfl hi14 dd_X12_turn_31 ?_
          refine wk_int (v := 12) (hours0_lo (by omega)) ?_
          refine lv_istore_n (lv' := [(3, .int 12), (0, .ref (q 60)), (1, .int wh), (2, .int ho)]) hx hb dd_X12_turn_32 rfl hl (by decide) rfl (fun ls hl => ?_)
          refine lv_aload_n hx hb dd_X12_turn_33 rfl (lv_at hl 1 rfl) ?_
          refine wk_get (v := .ref (q 35)) Sx ef_12 hK hP 0 rfl rfl 35 (by decide) kk_1136 rfl dd_X12_turn_34 ?_
          refine lv_iload_n hx hb dd_X12_turn_37 rfl (lv_at hl 2 rfl) ?_
          refine lv_iload_n hx hb dd_X12_turn_38 rfl (lv_at hl 3 rfl) ?_
          refine wk_iast (ws' := [(q 60, .inr (12, fM q)), (q 35, .inl (cy 0, 4, .inl (upd hours0 wh.toNatClampNeg ho))), (q 36, .inl (cy 0, 7, .inl (fun _ => 0)))]) Sx hK hP hD hS 1 0 rfl rfl (vi_of (by omega)) dd_X12_turn_39 rfl (fun H locs hP hD hS => ?_)
          refine lv_iload_n hx hb dd_X12_turn_40 rfl (lv_at hl 0 rfl) ?_
          exact hc_ret Sx hr hlocks dd_X12_turn_41 hS () (Or.inl ⟨by omega, rfl⟩) p_nil d_nil
        · have fc13 := ci_nle (a := ho.toInt) (b := 12) rfl rfl c13
          refine lv_aload_n hx hb dd_X12_turn_19 rfl (lv_at hl 0 rfl) ?_
          refine lv_bipush (v := (-2)) hx hb dd_X12_turn_20 (by decide) ?_
          refine hk_i (wr := [(q 35, .inl (cy 0, 4, .inl (hours0)))]) (c1 := 0) (s1 := 0) [0, 2] [1] (hc_V [.int (-2)] [] [0, 2] Sx hl.1 ws_M_152 md_X12_no (c_M_no_2 l D cy q) ⟨Nat.le_of_ble_eq_true rfl, Nat.le_of_ble_eq_true rfl⟩ hP hD rfl (by decide) hK nx_b (nx_w hX) (va_recv hK hP (ci := 12) (q0 := 0) rfl rfl) rfl rfl (Nat.le_of_ble_eq_true rfl) dd_X12_turn_22 ⟨Nat.le_of_ble_eq_true rfl, Nat.le_of_ble_eq_true rfl⟩) hS hA hP hD rfl rfl (by decide) (by decide) rfl rfl (fun r15 u16 H locs hw17 hP hD hS => ?_)
          have hP : va_P D cls [(q 35, .inl (cy 0, 4, .inl (hours0)))] H := hP
          have hD : va_D A [(q 35, .inl (cy 0, 4, .inl (hours0)))] := hD
          subst hw17
          exact hc_ret Sx hr hlocks dd_X12_turn_25 hS () (Or.inr ⟨by omega, rfl⟩) p_nil d_nil
set_option maxHeartbeats 4000000 in
set_option maxRecDepth 100000 in
theorem c_M_pub_takings (l : Launch) (D : va_G) (cy : Nat → ClassId) (q : Nat → Nat) (ha : Int32) (ba : Int32) : HC l my_X12_takings mb_X12_takings 3 ((some .int)) (rmD 3 0 0) D (TY cy) [.ref (q 60), .int ha, .int ba] NX [(q 60, .inr (12, fM q)), (q 40, .inl (cy 3, 30, .inl (fun _ => 0))), (q 41, .inl (cy 0, 12, .inl (fun _ => 0))), (q 35, .inl (cy 0, 4, .inl (hours0))), (q 36, .inl (cy 0, 7, .inl (fun _ => 0)))] (QI (S := Unit) D (fun r _ => if2 (0 ≤ ha.toInt ∧ ha.toInt ≤ 12 ∧ 0 ≤ ba.toInt ∧ ba.toInt ≤ 12) 0 (-2) r) (fun _ => [])) := by
  refine hc_intro (by decide) (Nat.le_of_ble_eq_true rfl) (fun p e s m below meth c A ls Sx hr hlocks hin hl hP hD hK hS hA hX => ?_)
  have hx := Sx.1
  have hb := Sx.2.1
  have hl : lv_has ls 3 [(0, .ref (q 60)), (1, .int ha), (2, .int ba)] := hl
  have hP : va_P D cls [(q 60, .inr (12, fM q)), (q 40, .inl (cy 3, 30, .inl (fun _ => 0))), (q 41, .inl (cy 0, 12, .inl (fun _ => 0))), (q 35, .inl (cy 0, 4, .inl (hours0))), (q 36, .inl (cy 0, 7, .inl (fun _ => 0)))] s.heap := hP
  have hD : va_D A [(q 60, .inr (12, fM q)), (q 40, .inl (cy 3, 30, .inl (fun _ => 0))), (q 41, .inl (cy 0, 12, .inl (fun _ => 0))), (q 35, .inl (cy 0, 4, .inl (hours0))), (q 36, .inl (cy 0, 7, .inl (fun _ => 0)))] := hD
  refine lv_iload_n hx hb dd_X12_takings_0 rfl (lv_at hl 1 rfl) ?_
  refine lv_if_lt (tgt := 20) hx hb dd_X12_takings_1 (by decide) (fun c1 => ?_) (fun c1 => ?_)
  · have fc1 := ci_lt (a := ha.toInt) (b := 0) rfl rfl c1
    refine lv_aload_n hx hb dd_X12_takings_20 rfl (lv_at hl 0 rfl) ?_
    refine lv_bipush (v := (-2)) hx hb dd_X12_takings_21 (by decide) ?_
    refine hk_i (wr := [(q 40, .inl (cy 3, 30, .inl (fun _ => 0))), (q 41, .inl (cy 0, 12, .inl (fun _ => 0))), (q 35, .inl (cy 0, 4, .inl (hours0)))]) (c1 := 0) (s1 := 0) [0, 4] [1, 2, 3] (hc_V [.int (-2)] [] [0, 4] Sx hl.1 ws_M_152 md_X12_no (c_M_no_2 l D cy q) ⟨Nat.le_of_ble_eq_true rfl, Nat.le_of_ble_eq_true rfl⟩ hP hD rfl (by decide) hK nx_b (nx_w hX) (va_recv hK hP (ci := 12) (q0 := 0) rfl rfl) rfl rfl (Nat.le_of_ble_eq_true rfl) dd_X12_takings_23 ⟨Nat.le_of_ble_eq_true rfl, Nat.le_of_ble_eq_true rfl⟩) hS hA hP hD rfl rfl (by decide) (by decide) rfl rfl (fun r2 u3 H locs hw4 hP hD hS => ?_)
    have hP : va_P D cls [(q 40, .inl (cy 3, 30, .inl (fun _ => 0))), (q 41, .inl (cy 0, 12, .inl (fun _ => 0))), (q 35, .inl (cy 0, 4, .inl (hours0)))] H := hP
    have hD : va_D A [(q 40, .inl (cy 3, 30, .inl (fun _ => 0))), (q 41, .inl (cy 0, 12, .inl (fun _ => 0))), (q 35, .inl (cy 0, 4, .inl (hours0)))] := hD
    subst hw4
    exact hc_ret Sx hr hlocks dd_X12_takings_26 hS () (Or.inr ⟨by omega, rfl⟩) p_nil d_nil
  · have fc1 := ci_nlt (a := ha.toInt) (b := 0) rfl rfl c1
    refine lv_iload_n hx hb dd_X12_takings_4 rfl (lv_at hl 1 rfl) ?_
    refine lv_bipush (v := 12) hx hb dd_X12_takings_5 (by decide) ?_
    refine lv_icmp_gt (tgt := 20) hx hb dd_X12_takings_7 (by decide) (fun c5 => ?_) (fun c5 => ?_)
    · have fc5 := ci_lt (a := 12) (b := ha.toInt) rfl rfl c5
      refine lv_aload_n hx hb dd_X12_takings_20 rfl (lv_at hl 0 rfl) ?_
      refine lv_bipush (v := (-2)) hx hb dd_X12_takings_21 (by decide) ?_
      refine hk_i (wr := [(q 40, .inl (cy 3, 30, .inl (fun _ => 0))), (q 41, .inl (cy 0, 12, .inl (fun _ => 0))), (q 35, .inl (cy 0, 4, .inl (hours0)))]) (c1 := 0) (s1 := 0) [0, 4] [1, 2, 3] (hc_V [.int (-2)] [] [0, 4] Sx hl.1 ws_M_152 md_X12_no (c_M_no_2 l D cy q) ⟨Nat.le_of_ble_eq_true rfl, Nat.le_of_ble_eq_true rfl⟩ hP hD rfl (by decide) hK nx_b (nx_w hX) (va_recv hK hP (ci := 12) (q0 := 0) rfl rfl) rfl rfl (Nat.le_of_ble_eq_true rfl) dd_X12_takings_23 ⟨Nat.le_of_ble_eq_true rfl, Nat.le_of_ble_eq_true rfl⟩) hS hA hP hD rfl rfl (by decide) (by decide) rfl rfl (fun r6 u7 H locs hw8 hP hD hS => ?_)
      have hP : va_P D cls [(q 40, .inl (cy 3, 30, .inl (fun _ => 0))), (q 41, .inl (cy 0, 12, .inl (fun _ => 0))), (q 35, .inl (cy 0, 4, .inl (hours0)))] H := hP
      have hD : va_D A [(q 40, .inl (cy 3, 30, .inl (fun _ => 0))), (q 41, .inl (cy 0, 12, .inl (fun _ => 0))), (q 35, .inl (cy 0, 4, .inl (hours0)))] := hD
      subst hw8
      exact hc_ret Sx hr hlocks dd_X12_takings_26 hS () (Or.inr ⟨by omega, rfl⟩) p_nil d_nil
    · have fc5 := ci_nlt (a := 12) (b := ha.toInt) rfl rfl c5
      refine lv_iload_n hx hb dd_X12_takings_10 rfl (lv_at hl 2 rfl) ?_
      refine lv_if_lt (tgt := 20) hx hb dd_X12_takings_11 (by decide) (fun c9 => ?_) (fun c9 => ?_)
      · have fc9 := ci_lt (a := ba.toInt) (b := 0) rfl rfl c9
        refine lv_aload_n hx hb dd_X12_takings_20 rfl (lv_at hl 0 rfl) ?_
        refine lv_bipush (v := (-2)) hx hb dd_X12_takings_21 (by decide) ?_
        refine hk_i (wr := [(q 40, .inl (cy 3, 30, .inl (fun _ => 0))), (q 41, .inl (cy 0, 12, .inl (fun _ => 0))), (q 35, .inl (cy 0, 4, .inl (hours0)))]) (c1 := 0) (s1 := 0) [0, 4] [1, 2, 3] (hc_V [.int (-2)] [] [0, 4] Sx hl.1 ws_M_152 md_X12_no (c_M_no_2 l D cy q) ⟨Nat.le_of_ble_eq_true rfl, Nat.le_of_ble_eq_true rfl⟩ hP hD rfl (by decide) hK nx_b (nx_w hX) (va_recv hK hP (ci := 12) (q0 := 0) rfl rfl) rfl rfl (Nat.le_of_ble_eq_true rfl) dd_X12_takings_23 ⟨Nat.le_of_ble_eq_true rfl, Nat.le_of_ble_eq_true rfl⟩) hS hA hP hD rfl rfl (by decide) (by decide) rfl rfl (fun r10 u11 H locs hw12 hP hD hS => ?_)
        have hP : va_P D cls [(q 40, .inl (cy 3, 30, .inl (fun _ => 0))), (q 41, .inl (cy 0, 12, .inl (fun _ => 0))), (q 35, .inl (cy 0, 4, .inl (hours0)))] H := hP
        have hD : va_D A [(q 40, .inl (cy 3, 30, .inl (fun _ => 0))), (q 41, .inl (cy 0, 12, .inl (fun _ => 0))), (q 35, .inl (cy 0, 4, .inl (hours0)))] := hD
        subst hw12
        exact hc_ret Sx hr hlocks dd_X12_takings_26 hS () (Or.inr ⟨by omega, rfl⟩) p_nil d_nil
      · have fc9 := ci_nlt (a := ba.toInt) (b := 0) rfl rfl c9
        refine lv_iload_n hx hb dd_X12_takings_14 rfl (lv_at hl 2 rfl) ?_
        refine lv_bipush (v := 12) hx hb dd_X12_takings_15 (by decide) ?_
        refine lv_icmp_le (tgt := 27) hx hb dd_X12_takings_17 (by decide) (fun c13 => ?_) (fun c13 => ?_)
        · have fc13 := ci_le (a := ba.toInt) (b := 12) rfl rfl c13
          refine lv_aload_n hx hb dd_X12_takings_27 rfl (lv_at hl 0 rfl) ?_
          refine lv_iload_n hx hb dd_X12_takings_28 rfl (lv_at hl 1 rfl) ?_
          refine lv_iload_n hx hb dd_X12_takings_29 rfl (lv_at hl 2 rfl) ?_
          refine pk_i (pc_V [.int ha, .int ba] [] Sx hl.1 ws_M_264 md_X12_wholeDay (c_M_wholeDay l D cy q ha ba) ⟨rfl, rfl⟩ ⟨Nat.le_of_ble_eq_true rfl, Nat.le_of_ble_eq_true rfl⟩ (hP.sub [0] rfl) hK ns_b (ns_w hX) (va_recv hK hP (ci := 12) (q0 := 0) rfl rfl) rfl rfl (Nat.le_of_ble_eq_true rfl) dd_X12_takings_30 ⟨Nat.le_of_ble_eq_true rfl, Nat.le_of_ble_eq_true rfl⟩) (fun r14 hw15 => ?_)
          subst hw15
          exact hc_ret Sx hr hlocks dd_X12_takings_33 hS () (Or.inl ⟨by omega, rfl⟩) p_nil d_nil
        · have fc13 := ci_nle (a := ba.toInt) (b := 12) rfl rfl c13
          refine lv_aload_n hx hb dd_X12_takings_20 rfl (lv_at hl 0 rfl) ?_
          refine lv_bipush (v := (-2)) hx hb dd_X12_takings_21 (by decide) ?_
          refine hk_i (wr := [(q 40, .inl (cy 3, 30, .inl (fun _ => 0))), (q 41, .inl (cy 0, 12, .inl (fun _ => 0))), (q 35, .inl (cy 0, 4, .inl (hours0)))]) (c1 := 0) (s1 := 0) [0, 4] [1, 2, 3] (hc_V [.int (-2)] [] [0, 4] Sx hl.1 ws_M_152 md_X12_no (c_M_no_2 l D cy q) ⟨Nat.le_of_ble_eq_true rfl, Nat.le_of_ble_eq_true rfl⟩ hP hD rfl (by decide) hK nx_b (nx_w hX) (va_recv hK hP (ci := 12) (q0 := 0) rfl rfl) rfl rfl (Nat.le_of_ble_eq_true rfl) dd_X12_takings_23 ⟨Nat.le_of_ble_eq_true rfl, Nat.le_of_ble_eq_true rfl⟩) hS hA hP hD rfl rfl (by decide) (by decide) rfl rfl (fun r16 u17 H locs hw18 hP hD hS => ?_)
          have hP : va_P D cls [(q 40, .inl (cy 3, 30, .inl (fun _ => 0))), (q 41, .inl (cy 0, 12, .inl (fun _ => 0))), (q 35, .inl (cy 0, 4, .inl (hours0)))] H := hP
          have hD : va_D A [(q 40, .inl (cy 3, 30, .inl (fun _ => 0))), (q 41, .inl (cy 0, 12, .inl (fun _ => 0))), (q 35, .inl (cy 0, 4, .inl (hours0)))] := hD
          subst hw18
          exact hc_ret Sx hr hlocks dd_X12_takings_26 hS () (Or.inr ⟨by omega, rfl⟩) p_nil d_nil
set_option maxHeartbeats 4000000 in
set_option maxRecDepth 100000 in
theorem c_M_pub_judge (l : Launch) (D : va_G) (cy : Nat → ClassId) (q : Nat → Nat) (sf : Int32) : HC l my_X12_judge mb_X12_judge 9 ((some .int)) (rmD 3 0 0) D (TY cy) [.ref (q 60), .int sf] NX [(q 60, .inr (12, fM q)), (q 0, .inl (cy 0, 8, .inl (hold0))), (q 36, .inl (cy 0, 7, .inl (fun _ => 0)))] (QI (S := Unit) D (fun r _ => if2 (0 ≤ sf.toInt ∧ sf.toInt ≤ 7) (-4) (-2) r) (fun _ => [])) := by
  refine hc_intro (by decide) (Nat.le_of_ble_eq_true rfl) (fun p e s m below meth c A ls Sx hr hlocks hin hl hP hD hK hS hA hX => ?_)
  have hx := Sx.1
  have hb := Sx.2.1
  have hl : lv_has ls 9 [(0, .ref (q 60)), (1, .int sf)] := hl
  have hP : va_P D cls [(q 60, .inr (12, fM q)), (q 0, .inl (cy 0, 8, .inl (hold0))), (q 36, .inl (cy 0, 7, .inl (fun _ => 0)))] s.heap := hP
  have hD : va_D A [(q 60, .inr (12, fM q)), (q 0, .inl (cy 0, 8, .inl (hold0))), (q 36, .inl (cy 0, 7, .inl (fun _ => 0)))] := hD
  refine lv_aload_n hx hb dd_X12_judge_0 rfl (lv_at hl 0 rfl) ?_
  refine lv_iload_n hx hb dd_X12_judge_1 rfl (lv_at hl 1 rfl) ?_
  refine pk_i (pc_V [.int sf] [] Sx hl.1 ws_M_159 md_X12_noRow (c_M_noRow l D cy q sf) ⟨rfl, rfl⟩ ⟨Nat.le_of_ble_eq_true rfl, Nat.le_of_ble_eq_true rfl⟩ (hP.sub [0, 1] rfl) hK ns_b (ns_w hX) (va_recv hK hP (ci := 12) (q0 := 0) rfl rfl) rfl rfl (Nat.le_of_ble_eq_true rfl) dd_X12_judge_2 ⟨Nat.le_of_ble_eq_true rfl, Nat.le_of_ble_eq_true rfl⟩) (fun r1 hw2 => ?_)
  rcases hw2 with ⟨hw2, ehw2⟩ | ⟨hw2, ehw2⟩
  · subst ehw2
    refine lv_istore_n (lv' := [(2, .int (-4)), (0, .ref (q 60)), (1, .int sf)]) hx hb dd_X12_judge_5 rfl hl (by decide) rfl (fun ls hl => ?_)
    refine lv_iload_n hx hb dd_X12_judge_6 rfl (lv_at hl 0 rfl) ?_
    refine lv_if_ge (tgt := 16) hx hb dd_X12_judge_7 (by decide) (fun c => absurd c (by decide)) (fun _ => ?_)
    refine lv_aload_n hx hb dd_X12_judge_10 rfl (lv_at hl 1 rfl) ?_
    refine lv_iload_n hx hb dd_X12_judge_11 rfl (lv_at hl 0 rfl) ?_
    refine hk_i (wr := [(q 0, .inl (cy 0, 8, .inl (hold0)))]) (c1 := 0) (s1 := 0) [0, 2] [1] (hc_V [.int (-4)] [] [0, 2] Sx hl.1 ws_M_152 md_X12_no (c_M_no_4 l D cy q) ⟨Nat.le_of_ble_eq_true rfl, Nat.le_of_ble_eq_true rfl⟩ hP hD rfl (by decide) hK nx_b (nx_w hX) (va_recv hK hP (ci := 12) (q0 := 0) rfl rfl) rfl rfl (Nat.le_of_ble_eq_true rfl) dd_X12_judge_12 ⟨Nat.le_of_ble_eq_true rfl, Nat.le_of_ble_eq_true rfl⟩) hS hA hP hD rfl rfl (by decide) (by decide) rfl rfl (fun r3 u4 H locs hw5 hP hD hS => ?_)
    have hP : va_P D cls [(q 0, .inl (cy 0, 8, .inl (hold0)))] H := hP
    have hD : va_D A [(q 0, .inl (cy 0, 8, .inl (hold0)))] := hD
    subst hw5
    exact hc_ret Sx hr hlocks dd_X12_judge_15 hS () (Or.inl ⟨by omega, rfl⟩) p_nil d_nil
  · subst ehw2
    refine lv_istore_n (lv' := [(2, .int (-2)), (0, .ref (q 60)), (1, .int sf)]) hx hb dd_X12_judge_5 rfl hl (by decide) rfl (fun ls hl => ?_)
    refine lv_iload_n hx hb dd_X12_judge_6 rfl (lv_at hl 0 rfl) ?_
    refine lv_if_ge (tgt := 16) hx hb dd_X12_judge_7 (by decide) (fun c => absurd c (by decide)) (fun _ => ?_)
    refine lv_aload_n hx hb dd_X12_judge_10 rfl (lv_at hl 1 rfl) ?_
    refine lv_iload_n hx hb dd_X12_judge_11 rfl (lv_at hl 0 rfl) ?_
    refine hk_i (wr := [(q 0, .inl (cy 0, 8, .inl (hold0)))]) (c1 := 0) (s1 := 0) [0, 2] [1] (hc_V [.int (-2)] [] [0, 2] Sx hl.1 ws_M_152 md_X12_no (c_M_no_2 l D cy q) ⟨Nat.le_of_ble_eq_true rfl, Nat.le_of_ble_eq_true rfl⟩ hP hD rfl (by decide) hK nx_b (nx_w hX) (va_recv hK hP (ci := 12) (q0 := 0) rfl rfl) rfl rfl (Nat.le_of_ble_eq_true rfl) dd_X12_judge_12 ⟨Nat.le_of_ble_eq_true rfl, Nat.le_of_ble_eq_true rfl⟩) hS hA hP hD rfl rfl (by decide) (by decide) rfl rfl (fun r6 u7 H locs hw8 hP hD hS => ?_)
    have hP : va_P D cls [(q 0, .inl (cy 0, 8, .inl (hold0)))] H := hP
    have hD : va_D A [(q 0, .inl (cy 0, 8, .inl (hold0)))] := hD
    subst hw8
    exact hc_ret Sx hr hlocks dd_X12_judge_15 hS () (Or.inr ⟨by omega, rfl⟩) p_nil d_nil
set_option maxHeartbeats 4000000 in
set_option maxRecDepth 100000 in
theorem c_M_pub_rest (l : Launch) (D : va_G) (cy : Nat → ClassId) (q : Nat → Nat) (ki : Int32) : HC l my_X12_rest mb_X12_rest 4 ((some .int)) (rmD 2 0 0) D (TY cy) [.ref (q 60), .int ki] NX [(q 60, .inr (12, fM q)), (q 36, .inl (cy 0, 7, .inl (fun _ => 0)))] (QI (S := Unit) D (fun r _ => if2 ((-1) ≤ ki.toInt ∧ ki.toInt ≤ 5) 0 (-2) r) (fun _ => [])) := by
  refine hc_intro (by decide) (Nat.le_of_ble_eq_true rfl) (fun p e s m below meth c A ls Sx hr hlocks hin hl hP hD hK hS hA hX => ?_)
  have hx := Sx.1
  have hb := Sx.2.1
  have hl : lv_has ls 4 [(0, .ref (q 60)), (1, .int ki)] := hl
  have hP : va_P D cls [(q 60, .inr (12, fM q)), (q 36, .inl (cy 0, 7, .inl (fun _ => 0)))] s.heap := hP
  have hD : va_D A [(q 60, .inr (12, fM q)), (q 36, .inl (cy 0, 7, .inl (fun _ => 0)))] := hD
  refine lv_iload_n hx hb dd_X12_rest_0 rfl (lv_at hl 1 rfl) ?_
  refine lv_iconst (v := (-1)) hx hb dd_X12_rest_1 (by decide) ?_
  refine lv_icmp_eq (tgt := 20) hx hb dd_X12_rest_2 (by decide) (fun c1 => ?_) (fun c1 => ?_)
  · have fc1 := ci_eq (a := ki.toInt) (b := (-1)) rfl rfl c1
    refine lv_iconst (v := 0) hx hb dd_X12_rest_20 (by decide) ?_
    refine lv_istore_n (lv' := [(2, .int 0), (0, .ref (q 60)), (1, .int ki)]) hx hb dd_X12_rest_21 rfl hl (by decide) rfl (fun ls hl => ?_)
    refine lv_iconst (v := 0) hx hb dd_X12_rest_22 (by decide) ?_
    refine lv_istore_n (lv' := [(3, .int 0), (2, .int 0), (0, .ref (q 60)), (1, .int ki)]) hx hb dd_X12_rest_23 rfl hl (by decide) rfl (fun ls hl => ?_)
    refine lv_iload_n hx hb dd_X12_rest_24 rfl (lv_at hl 0 rfl) ?_
    refine lv_aload_n hx hb dd_X12_rest_25 rfl (lv_at hl 2 rfl) ?_
    refine wk_get (v := .int 0) Sx ef_12 hK hP 0 rfl rfl 3 (by decide) kk_1104 rfl dd_X12_rest_26 ?_
    refine lv_icmp_ge (tgt := 69) hx hb dd_X12_rest_29 (by decide) (fun _ => ?_) (fun c => absurd c (by decide))
    refine lv_iload_n hx hb dd_X12_rest_69 rfl (lv_at hl 1 rfl) ?_
    exact hc_ret Sx hr hlocks dd_X12_rest_70 hS () (Or.inl ⟨by omega, rfl⟩) p_nil d_nil
  · have fc1 := ci_ne (a := ki.toInt) (b := (-1)) rfl rfl c1
    refine lv_aload_n hx hb dd_X12_rest_5 rfl (lv_at hl 0 rfl) ?_
    refine lv_iload_n hx hb dd_X12_rest_6 rfl (lv_at hl 1 rfl) ?_
    refine pk_i (pc_V [.int ki] [] Sx hl.1 ws_M_168 md_X12_isKind (c_M_isKind l D cy q ki) ⟨rfl, rfl⟩ ⟨Nat.le_of_ble_eq_true rfl, Nat.le_of_ble_eq_true rfl⟩ p_nil hK ns_b (ns_w hX) (va_recv hK hP (ci := 12) (q0 := 0) rfl rfl) rfl rfl (Nat.le_of_ble_eq_true rfl) dd_X12_rest_7 ⟨Nat.le_of_ble_eq_true rfl, Nat.le_of_ble_eq_true rfl⟩) (fun r2 hw3 => ?_)
    rcases hw3 with ⟨hw3, ehw3⟩ | ⟨hw3, ehw3⟩
    · subst ehw3
      refine lv_if_ne (tgt := 20) hx hb dd_X12_rest_10 (by decide) (fun _ => ?_) (fun c => absurd c (by decide))
      refine lv_iconst (v := 0) hx hb dd_X12_rest_20 (by decide) ?_
      refine lv_istore_n (lv' := [(2, .int 0), (0, .ref (q 60)), (1, .int ki)]) hx hb dd_X12_rest_21 rfl hl (by decide) rfl (fun ls hl => ?_)
      refine lv_iconst (v := 0) hx hb dd_X12_rest_22 (by decide) ?_
      refine lv_istore_n (lv' := [(3, .int 0), (2, .int 0), (0, .ref (q 60)), (1, .int ki)]) hx hb dd_X12_rest_23 rfl hl (by decide) rfl (fun ls hl => ?_)
      refine lv_iload_n hx hb dd_X12_rest_24 rfl (lv_at hl 0 rfl) ?_
      refine lv_aload_n hx hb dd_X12_rest_25 rfl (lv_at hl 2 rfl) ?_
      refine wk_get (v := .int 0) Sx ef_12 hK hP 0 rfl rfl 3 (by decide) kk_1104 rfl dd_X12_rest_26 ?_
      refine lv_icmp_ge (tgt := 69) hx hb dd_X12_rest_29 (by decide) (fun _ => ?_) (fun c => absurd c (by decide))
      refine lv_iload_n hx hb dd_X12_rest_69 rfl (lv_at hl 1 rfl) ?_
      exact hc_ret Sx hr hlocks dd_X12_rest_70 hS () (Or.inl ⟨by omega, rfl⟩) p_nil d_nil
    · subst ehw3
      refine lv_if_ne (tgt := 20) hx hb dd_X12_rest_10 (by decide) (fun c => absurd c (by decide)) (fun _ => ?_)
      refine lv_aload_n hx hb dd_X12_rest_13 rfl (lv_at hl 0 rfl) ?_
      refine lv_bipush (v := (-2)) hx hb dd_X12_rest_14 (by decide) ?_
      refine hk_i (wr := []) (c1 := 0) (s1 := 0) [0, 1] [] (hc_V [.int (-2)] [] [0, 1] Sx hl.1 ws_M_152 md_X12_no (c_M_no_2 l D cy q) ⟨Nat.le_of_ble_eq_true rfl, Nat.le_of_ble_eq_true rfl⟩ hP hD rfl (by decide) hK nx_b (nx_w hX) (va_recv hK hP (ci := 12) (q0 := 0) rfl rfl) rfl rfl (Nat.le_of_ble_eq_true rfl) dd_X12_rest_16 ⟨Nat.le_of_ble_eq_true rfl, Nat.le_of_ble_eq_true rfl⟩) hS hA hP hD rfl rfl (by decide) (by decide) rfl rfl (fun r4 u5 H locs hw6 hP hD hS => ?_)
      have hP : va_P D cls [] H := hP
      have hD : va_D A [] := hD
      subst hw6
      exact hc_ret Sx hr hlocks dd_X12_rest_19 hS () (Or.inr ⟨by omega, rfl⟩) p_nil d_nil
set_option maxHeartbeats 4000000 in
set_option maxRecDepth 100000 in
theorem c_M_pub_day (l : Launch) (D : va_G) (cy : Nat → ClassId) (q : Nat → Nat) (wh : Int32) : HC l my_X12_day mb_X12_day 2 ((some .int)) (rmD 2 0 0) D (TY cy) [.ref (q 60), .int wh] NX [(q 60, .inr (12, fM q)), (q 35, .inl (cy 0, 4, .inl (hours0))), (q 36, .inl (cy 0, 7, .inl (fun _ => 0)))] (QI (S := Unit) D (fun r _ => if2 (0 ≤ wh.toInt ∧ wh.toInt ≤ 3) 0 (-2) r) (fun _ => [])) := by
  refine hc_intro (by decide) (Nat.le_of_ble_eq_true rfl) (fun p e s m below meth c A ls Sx hr hlocks hin hl hP hD hK hS hA hX => ?_)
  have hx := Sx.1
  have hb := Sx.2.1
  have hl : lv_has ls 2 [(0, .ref (q 60)), (1, .int wh)] := hl
  have hP : va_P D cls [(q 60, .inr (12, fM q)), (q 35, .inl (cy 0, 4, .inl (hours0))), (q 36, .inl (cy 0, 7, .inl (fun _ => 0)))] s.heap := hP
  have hD : va_D A [(q 60, .inr (12, fM q)), (q 35, .inl (cy 0, 4, .inl (hours0))), (q 36, .inl (cy 0, 7, .inl (fun _ => 0)))] := hD
  refine lv_iload_n hx hb dd_X12_day_0 rfl (lv_at hl 1 rfl) ?_
  refine lv_if_lt (tgt := 9) hx hb dd_X12_day_1 (by decide) (fun c1 => ?_) (fun c1 => ?_)
  · have fc1 := ci_lt (a := wh.toInt) (b := 0) rfl rfl c1
    refine lv_aload_n hx hb dd_X12_day_9 rfl (lv_at hl 0 rfl) ?_
    refine lv_bipush (v := (-2)) hx hb dd_X12_day_10 (by decide) ?_
    refine hk_i (wr := [(q 35, .inl (cy 0, 4, .inl (hours0)))]) (c1 := 0) (s1 := 0) [0, 2] [1] (hc_V [.int (-2)] [] [0, 2] Sx hl.1 ws_M_152 md_X12_no (c_M_no_2 l D cy q) ⟨Nat.le_of_ble_eq_true rfl, Nat.le_of_ble_eq_true rfl⟩ hP hD rfl (by decide) hK nx_b (nx_w hX) (va_recv hK hP (ci := 12) (q0 := 0) rfl rfl) rfl rfl (Nat.le_of_ble_eq_true rfl) dd_X12_day_12 ⟨Nat.le_of_ble_eq_true rfl, Nat.le_of_ble_eq_true rfl⟩) hS hA hP hD rfl rfl (by decide) (by decide) rfl rfl (fun r2 u3 H locs hw4 hP hD hS => ?_)
    have hP : va_P D cls [(q 35, .inl (cy 0, 4, .inl (hours0)))] H := hP
    have hD : va_D A [(q 35, .inl (cy 0, 4, .inl (hours0)))] := hD
    subst hw4
    exact hc_ret Sx hr hlocks dd_X12_day_15 hS () (Or.inr ⟨by omega, rfl⟩) p_nil d_nil
  · have fc1 := ci_nlt (a := wh.toInt) (b := 0) rfl rfl c1
    refine lv_iload_n hx hb dd_X12_day_4 rfl (lv_at hl 1 rfl) ?_
    refine lv_iconst (v := 3) hx hb dd_X12_day_5 (by decide) ?_
    refine lv_icmp_le (tgt := 16) hx hb dd_X12_day_6 (by decide) (fun c5 => ?_) (fun c5 => ?_)
    · have fc5 := ci_le (a := wh.toInt) (b := 3) rfl rfl c5
      refine lv_iload_n hx hb dd_X12_day_16 rfl (lv_at hl 1 rfl) ?_
      refine lv_iconst (v := 2) hx hb dd_X12_day_17 (by decide) ?_
      refine lv_icmp_ge (tgt := 30) hx hb dd_X12_day_18 (by decide) (fun c6 => ?_) (fun c6 => ?_)
      · have fc6 := ci_le (a := 2) (b := wh.toInt) rfl rfl c6
        refine lv_iload_n hx hb dd_X12_day_30 rfl (lv_at hl 1 rfl) ?_
        refine lv_iconst (v := 2) hx hb dd_X12_day_31 (by decide) ?_
        refine lv_icmp_ne (tgt := 42) hx hb dd_X12_day_32 (by decide) (fun c7 => ?_) (fun c7 => ?_)
        · have fc7 := ci_ne (a := wh.toInt) (b := 2) rfl rfl c7
          refine lv_aload_n hx hb dd_X12_day_42 rfl (lv_at hl 0 rfl) ?_
          refine wk_get (v := .int 0) Sx ef_12 hK hP 0 rfl rfl 3 (by decide) kk_1104 rfl dd_X12_day_43 ?_
          refine lv_aload_n hx hb dd_X12_day_46 rfl (lv_at hl 0 rfl) ?_
          refine pk_i (pc_V [] [.int 0] Sx hl.1 ws_M_270 md_X12_sold (c_M_sold l D cy q) ⟨rfl, rfl⟩ ⟨Nat.le_of_ble_eq_true rfl, Nat.le_of_ble_eq_true rfl⟩ (hP.sub [0] rfl) hK ns_b (ns_w hX) (va_recv hK hP (ci := 12) (q0 := 0) rfl rfl) rfl rfl (Nat.le_of_ble_eq_true rfl) dd_X12_day_47 ⟨Nat.le_of_ble_eq_true rfl, Nat.le_of_ble_eq_true rfl⟩) (fun r8 hw9 => ?_)
          subst hw9
          refine lv_isub hx hb dd_X12_day_50 ?_
          refine wk_int (v := 0) (by decide) ?_
          exact hc_ret Sx hr hlocks dd_X12_day_51 hS () (Or.inl ⟨by omega, rfl⟩) p_nil d_nil
        · have fc7 := ci_eq (a := wh.toInt) (b := 2) rfl rfl c7
          refine lv_aload_n hx hb dd_X12_day_35 rfl (lv_at hl 0 rfl) ?_
          refine pk_i (pc_V [] [] Sx hl.1 ws_M_270 md_X12_sold (c_M_sold l D cy q) ⟨rfl, rfl⟩ ⟨Nat.le_of_ble_eq_true rfl, Nat.le_of_ble_eq_true rfl⟩ (hP.sub [0] rfl) hK ns_b (ns_w hX) (va_recv hK hP (ci := 12) (q0 := 0) rfl rfl) rfl rfl (Nat.le_of_ble_eq_true rfl) dd_X12_day_36 ⟨Nat.le_of_ble_eq_true rfl, Nat.le_of_ble_eq_true rfl⟩) (fun r10 hw11 => ?_)
          subst hw11
          refine lv_goto (tgt := 51) hx hb dd_X12_day_39 (by decide) ?_
          exact hc_ret Sx hr hlocks dd_X12_day_51 hS () (Or.inl ⟨by omega, rfl⟩) p_nil d_nil
      · have fc6 := ci_nle (a := 2) (b := wh.toInt) rfl rfl c6
        refine lv_aload_n hx hb dd_X12_day_21 rfl (lv_at hl 0 rfl) ?_
        refine wk_get (v := .ref (q 35)) Sx ef_12 hK hP 0 rfl rfl 35 (by decide) kk_1136 rfl dd_X12_day_22 ?_
        refine lv_iconst (v := 2) hx hb dd_X12_day_25 (by decide) ?_
        refine lv_iload_n hx hb dd_X12_day_26 rfl (lv_at hl 1 rfl) ?_
        refine lv_iadd hx hb dd_X12_day_27 ?_
        refine lv_topi (fun z12 ez12 => ?_)
        have fz12 : z12.toInt = 2 + wh.toInt := by rw [ez12]; exact ti_add rfl rfl (by omega) (by omega)
        have hi13 : vp_in z12 4 := (vi_of (by omega))
        refine va_iald hx hb hK hP 1 0 rfl rfl hi13 dd_X12_day_28 ?_
        refine wk_int (v := 0) (hours0_hi (by omega)) ?_
        exact hc_ret Sx hr hlocks dd_X12_day_29 hS () (Or.inl ⟨by omega, rfl⟩) p_nil d_nil
    · have fc5 := ci_nle (a := wh.toInt) (b := 3) rfl rfl c5
      refine lv_aload_n hx hb dd_X12_day_9 rfl (lv_at hl 0 rfl) ?_
      refine lv_bipush (v := (-2)) hx hb dd_X12_day_10 (by decide) ?_
      refine hk_i (wr := [(q 35, .inl (cy 0, 4, .inl (hours0)))]) (c1 := 0) (s1 := 0) [0, 2] [1] (hc_V [.int (-2)] [] [0, 2] Sx hl.1 ws_M_152 md_X12_no (c_M_no_2 l D cy q) ⟨Nat.le_of_ble_eq_true rfl, Nat.le_of_ble_eq_true rfl⟩ hP hD rfl (by decide) hK nx_b (nx_w hX) (va_recv hK hP (ci := 12) (q0 := 0) rfl rfl) rfl rfl (Nat.le_of_ble_eq_true rfl) dd_X12_day_12 ⟨Nat.le_of_ble_eq_true rfl, Nat.le_of_ble_eq_true rfl⟩) hS hA hP hD rfl rfl (by decide) (by decide) rfl rfl (fun r14 u15 H locs hw16 hP hD hS => ?_)
      have hP : va_P D cls [(q 35, .inl (cy 0, 4, .inl (hours0)))] H := hP
      have hD : va_D A [(q 35, .inl (cy 0, 4, .inl (hours0)))] := hD
      subst hw16
      exact hc_ret Sx hr hlocks dd_X12_day_15 hS () (Or.inr ⟨by omega, rfl⟩) p_nil d_nil
set_option maxHeartbeats 4000000 in
set_option maxRecDepth 100000 in
theorem c_M_pub_morning (l : Launch) (D : va_G) (cy : Nat → ClassId) (q : Nat → Nat) : HC l my_X12_morning mb_X12_morning 2 ((some .int)) (rmD 1 0 0) D (TY cy) [.ref (q 60)] NX [(q 60, .inr (12, fM q)), (q 35, .inl (cy 0, 4, .inl (hours0)))] (QI (S := Unit) D (fun r _ => r = 0) (fun _ => [])) := by
  refine hc_intro (by decide) (Nat.le_of_ble_eq_true rfl) (fun p e s m below meth c A ls Sx hr hlocks hin hl hP hD hK hS hA hX => ?_)
  have hx := Sx.1
  have hb := Sx.2.1
  have hl : lv_has ls 2 [(0, .ref (q 60))] := hl
  have hP : va_P D cls [(q 60, .inr (12, fM q)), (q 35, .inl (cy 0, 4, .inl (hours0)))] s.heap := hP
  have hD : va_D A [(q 60, .inr (12, fM q)), (q 35, .inl (cy 0, 4, .inl (hours0)))] := hD
  refine lv_aload_n hx hb dd_X12_morning_0 rfl (lv_at hl 0 rfl) ?_
  refine wk_get (v := .ref (q 35)) Sx ef_12 hK hP 0 rfl rfl 35 (by decide) kk_1136 rfl dd_X12_morning_1 ?_
  refine lv_iconst (v := 2) hx hb dd_X12_morning_4 (by decide) ?_
  have hi1 : vp_in 2 4 := (vi_of (by decide))
  refine va_iald hx hb hK hP 1 0 rfl rfl hi1 dd_X12_morning_5 ?_
  refine wk_int (v := 0) (by decide) ?_
  refine lv_istore_n (lv' := [(1, .int 0), (0, .ref (q 60))]) hx hb dd_X12_morning_6 rfl hl (by decide) rfl (fun ls hl => ?_)
  refine lv_aload_n hx hb dd_X12_morning_7 rfl (lv_at hl 1 rfl) ?_
  refine wk_get (v := .ref (q 35)) Sx ef_12 hK hP 0 rfl rfl 35 (by decide) kk_1136 rfl dd_X12_morning_8 ?_
  refine lv_iconst (v := 2) hx hb dd_X12_morning_11 (by decide) ?_
  refine lv_iconst (v := 0) hx hb dd_X12_morning_12 (by decide) ?_
  refine wk_iast (ws' := [(q 60, .inr (12, fM q)), (q 35, .inl (cy 0, 4, .inl (upd hours0 (2 : Int32).toNatClampNeg 0)))]) Sx hK hP hD hS 1 0 rfl rfl (vi_of (by decide)) dd_X12_morning_13 rfl (fun H locs hP hD hS => ?_)
  refine lv_aload_n hx hb dd_X12_morning_14 rfl (lv_at hl 1 rfl) ?_
  refine wk_get (v := .ref (q 35)) Sx ef_12 hK hP 0 rfl rfl 35 (by decide) kk_1136 rfl dd_X12_morning_15 ?_
  refine lv_iconst (v := 3) hx hb dd_X12_morning_18 (by decide) ?_
  refine lv_iconst (v := 0) hx hb dd_X12_morning_19 (by decide) ?_
  refine wk_iast (ws' := [(q 60, .inr (12, fM q)), (q 35, .inl (cy 0, 4, .inl (upd (upd hours0 (2 : Int32).toNatClampNeg 0) (3 : Int32).toNatClampNeg 0)))]) Sx hK hP hD hS 1 0 rfl rfl (vi_of (by decide)) dd_X12_morning_20 rfl (fun H locs hP hD hS => ?_)
  refine lv_iload_n hx hb dd_X12_morning_21 rfl (lv_at hl 0 rfl) ?_
  exact hc_ret Sx hr hlocks dd_X12_morning_22 hS () rfl p_nil d_nil
set_option maxHeartbeats 4000000 in
set_option maxRecDepth 100000 in
theorem c_M_pub_table (l : Launch) (D : va_G) (cy : Nat → ClassId) (q : Nat → Nat) (ks : Int32) : HC l my_X12_table mb_X12_table 2 ((some .int)) (rmD 2 0 0) D (TY cy) [.ref (q 60), .int ks] NX [(q 60, .inr (12, fM q)), (q 25, .inl (cy 0, 5, .inl (fun _ => 0))), (q 36, .inl (cy 0, 7, .inl (fun _ => 0)))] (QI (S := Unit) D (fun r _ => if2 (0 ≤ ks.toInt ∧ ks.toInt ≤ 63) 0 (-2) r) (fun _ => [])) := by
  refine hc_intro (by decide) (Nat.le_of_ble_eq_true rfl) (fun p e s m below meth c A ls Sx hr hlocks hin hl hP hD hK hS hA hX => ?_)
  have hx := Sx.1
  have hb := Sx.2.1
  have hl : lv_has ls 2 [(0, .ref (q 60)), (1, .int ks)] := hl
  have hP : va_P D cls [(q 60, .inr (12, fM q)), (q 25, .inl (cy 0, 5, .inl (fun _ => 0))), (q 36, .inl (cy 0, 7, .inl (fun _ => 0)))] s.heap := hP
  have hD : va_D A [(q 60, .inr (12, fM q)), (q 25, .inl (cy 0, 5, .inl (fun _ => 0))), (q 36, .inl (cy 0, 7, .inl (fun _ => 0)))] := hD
  refine lv_aload_n hx hb dd_X12_table_0 rfl (lv_at hl 0 rfl) ?_
  refine lv_iload_n hx hb dd_X12_table_1 rfl (lv_at hl 1 rfl) ?_
  refine pk_i (pc_V [.int ks] [] Sx hl.1 ws_M_190 md_X12_areKinds (c_M_areKinds l D cy q ks) ⟨rfl, rfl⟩ ⟨Nat.le_of_ble_eq_true rfl, Nat.le_of_ble_eq_true rfl⟩ p_nil hK ns_b (ns_w hX) (va_recv hK hP (ci := 12) (q0 := 0) rfl rfl) rfl rfl (Nat.le_of_ble_eq_true rfl) dd_X12_table_2 ⟨Nat.le_of_ble_eq_true rfl, Nat.le_of_ble_eq_true rfl⟩) (fun r1 hw2 => ?_)
  rcases hw2 with ⟨hw2, ehw2⟩ | ⟨hw2, ehw2⟩
  · subst ehw2
    refine lv_if_ne (tgt := 15) hx hb dd_X12_table_5 (by decide) (fun _ => ?_) (fun c => absurd c (by decide))
    refine lv_aload_n hx hb dd_X12_table_15 rfl (lv_at hl 0 rfl) ?_
    refine wk_get (v := .int 0) Sx ef_12 hK hP 0 rfl rfl 24 (by decide) kk_1125 rfl dd_X12_table_16 ?_
    refine lv_iconst (v := 5) hx hb dd_X12_table_19 (by decide) ?_
    refine lv_icmp_ne (tgt := 30) hx hb dd_X12_table_20 (by decide) (fun _ => ?_) (fun c => absurd c (by decide))
    refine lv_aload_n hx hb dd_X12_table_30 rfl (lv_at hl 0 rfl) ?_
    refine wk_get (v := .ref (q 25)) Sx ef_12 hK hP 0 rfl rfl 25 (by decide) kk_1126 rfl dd_X12_table_31 ?_
    refine lv_aload_n hx hb dd_X12_table_34 rfl (lv_at hl 0 rfl) ?_
    refine wk_get (v := .int 0) Sx ef_12 hK hP 0 rfl rfl 24 (by decide) kk_1125 rfl dd_X12_table_35 ?_
    refine lv_iload_n hx hb dd_X12_table_38 rfl (lv_at hl 1 rfl) ?_
    refine wk_iast (ws' := [(q 60, .inr (12, fM q)), (q 25, .inl (cy 0, 5, .inl (upd (fun _ => 0) (0 : Int32).toNatClampNeg ks))), (q 36, .inl (cy 0, 7, .inl (fun _ => 0)))]) Sx hK hP hD hS 1 0 rfl rfl (vi_of (by decide)) dd_X12_table_39 rfl (fun H locs hP hD hS => ?_)
    refine lv_aload_n hx hb dd_X12_table_40 rfl (lv_at hl 0 rfl) ?_
    refine lv_dup hx hb dd_X12_table_41 rfl ?_
    refine wk_get (v := .int 0) Sx ef_12 hK hP 0 rfl rfl 24 (by decide) kk_1125 rfl dd_X12_table_42 ?_
    refine lv_dup_x1 hx hb dd_X12_table_45 rfl rfl ?_
    refine lv_iconst (v := 1) hx hb dd_X12_table_46 (by decide) ?_
    refine lv_iadd hx hb dd_X12_table_47 ?_
    refine wk_int (v := 1) (by decide) ?_
    refine wk_put (ws' := [(q 60, .inr (12, (fM q).set 24 (.int 1))), (q 25, .inl (cy 0, 5, .inl (upd (fun _ => 0) (0 : Int32).toNatClampNeg ks))), (q 36, .inl (cy 0, 7, .inl (fun _ => 0)))]) Sx ef_12 hK hP hD hS 0 rfl rfl 24 (by decide) kk_1125 rfl rfl rfl (Nat.le_of_ble_eq_true rfl) dd_X12_table_48 rfl (fun H locs hP hD hS => ?_)
    exact hc_ret Sx hr hlocks dd_X12_table_51 hS () (Or.inl ⟨by omega, rfl⟩) p_nil d_nil
  · subst ehw2
    refine lv_if_ne (tgt := 15) hx hb dd_X12_table_5 (by decide) (fun c => absurd c (by decide)) (fun _ => ?_)
    refine lv_aload_n hx hb dd_X12_table_8 rfl (lv_at hl 0 rfl) ?_
    refine lv_bipush (v := (-2)) hx hb dd_X12_table_9 (by decide) ?_
    refine hk_i (wr := [(q 25, .inl (cy 0, 5, .inl (fun _ => 0)))]) (c1 := 0) (s1 := 0) [0, 2] [1] (hc_V [.int (-2)] [] [0, 2] Sx hl.1 ws_M_152 md_X12_no (c_M_no_2 l D cy q) ⟨Nat.le_of_ble_eq_true rfl, Nat.le_of_ble_eq_true rfl⟩ hP hD rfl (by decide) hK nx_b (nx_w hX) (va_recv hK hP (ci := 12) (q0 := 0) rfl rfl) rfl rfl (Nat.le_of_ble_eq_true rfl) dd_X12_table_11 ⟨Nat.le_of_ble_eq_true rfl, Nat.le_of_ble_eq_true rfl⟩) hS hA hP hD rfl rfl (by decide) (by decide) rfl rfl (fun r3 u4 H locs hw5 hP hD hS => ?_)
    have hP : va_P D cls [(q 25, .inl (cy 0, 5, .inl (fun _ => 0)))] H := hP
    have hD : va_D A [(q 25, .inl (cy 0, 5, .inl (fun _ => 0)))] := hD
    subst hw5
    exact hc_ret Sx hr hlocks dd_X12_table_14 hS () (Or.inr ⟨by omega, rfl⟩) p_nil d_nil
set_option maxHeartbeats 4000000 in
set_option maxRecDepth 100000 in
theorem c_M_pub_who (l : Launch) (D : va_G) (cy : Nat → ClassId) (q : Nat → Nat) (wh : Int32) : HC l my_X12_who mb_X12_who 13 ((some .int)) (rmD 2 0 0) D (TY cy) [.ref (q 60), .int wh] NX [(q 60, .inr (12, fM q)), (q 36, .inl (cy 0, 7, .inl (fun _ => 0))), (q 49, .inl (cy 0, 25, .inl (fun _ => 0)))] (QI (S := Unit) D (fun r _ => if2 ((-1) ≤ wh.toInt ∧ wh.toInt ≤ (-1)) 0 (-2) r) (fun _ => [])) := by
  refine hc_intro (by decide) (Nat.le_of_ble_eq_true rfl) (fun p e s m below meth c A ls Sx hr hlocks hin hl hP hD hK hS hA hX => ?_)
  have hx := Sx.1
  have hb := Sx.2.1
  have hl : lv_has ls 13 [(0, .ref (q 60)), (1, .int wh)] := hl
  have hP : va_P D cls [(q 60, .inr (12, fM q)), (q 36, .inl (cy 0, 7, .inl (fun _ => 0))), (q 49, .inl (cy 0, 25, .inl (fun _ => 0)))] s.heap := hP
  have hD : va_D A [(q 60, .inr (12, fM q)), (q 36, .inl (cy 0, 7, .inl (fun _ => 0))), (q 49, .inl (cy 0, 25, .inl (fun _ => 0)))] := hD
  refine lv_iload_n hx hb dd_X12_who_0 rfl (lv_at hl 1 rfl) ?_
  refine lv_iconst (v := (-1)) hx hb dd_X12_who_1 (by decide) ?_
  refine lv_icmp_lt (tgt := 13) hx hb dd_X12_who_2 (by decide) (fun c1 => ?_) (fun c1 => ?_)
  · have fc1 := ci_lt (a := wh.toInt) (b := (-1)) rfl rfl c1
    refine lv_aload_n hx hb dd_X12_who_13 rfl (lv_at hl 0 rfl) ?_
    refine lv_bipush (v := (-2)) hx hb dd_X12_who_14 (by decide) ?_
    refine hk_i (wr := [(q 49, .inl (cy 0, 25, .inl (fun _ => 0)))]) (c1 := 0) (s1 := 0) [0, 1] [2] (hc_V [.int (-2)] [] [0, 1] Sx hl.1 ws_M_152 md_X12_no (c_M_no_2 l D cy q) ⟨Nat.le_of_ble_eq_true rfl, Nat.le_of_ble_eq_true rfl⟩ hP hD rfl (by decide) hK nx_b (nx_w hX) (va_recv hK hP (ci := 12) (q0 := 0) rfl rfl) rfl rfl (Nat.le_of_ble_eq_true rfl) dd_X12_who_16 ⟨Nat.le_of_ble_eq_true rfl, Nat.le_of_ble_eq_true rfl⟩) hS hA hP hD rfl rfl (by decide) (by decide) rfl rfl (fun r2 u3 H locs hw4 hP hD hS => ?_)
    have hP : va_P D cls [(q 49, .inl (cy 0, 25, .inl (fun _ => 0)))] H := hP
    have hD : va_D A [(q 49, .inl (cy 0, 25, .inl (fun _ => 0)))] := hD
    subst hw4
    exact hc_ret Sx hr hlocks dd_X12_who_19 hS () (Or.inr ⟨by omega, rfl⟩) p_nil d_nil
  · have fc1 := ci_nlt (a := wh.toInt) (b := (-1)) rfl rfl c1
    refine lv_iload_n hx hb dd_X12_who_5 rfl (lv_at hl 1 rfl) ?_
    refine lv_aload_n hx hb dd_X12_who_6 rfl (lv_at hl 0 rfl) ?_
    refine wk_get (v := .int 0) Sx ef_12 hK hP 0 rfl rfl 24 (by decide) kk_1125 rfl dd_X12_who_7 ?_
    refine lv_icmp_lt (tgt := 20) hx hb dd_X12_who_10 (by decide) (fun c5 => ?_) (fun c5 => ?_)
    · have fc5 := ci_lt (a := wh.toInt) (b := 0) rfl rfl c5
      refine lv_aload_n hx hb dd_X12_who_20 rfl (lv_at hl 0 rfl) ?_
      refine wk_get (v := .int 0) Sx ef_12 hK hP 0 rfl rfl 24 (by decide) kk_1125 rfl dd_X12_who_21 ?_
      refine lv_aload_n hx hb dd_X12_who_24 rfl (lv_at hl 0 rfl) ?_
      refine wk_get (v := .int 0) Sx ef_12 hK hP 0 rfl rfl 10 (by decide) kk_1111 rfl dd_X12_who_25 ?_
      refine lv_icmp_le (tgt := 38) hx hb dd_X12_who_28 (by decide) (fun _ => ?_) (fun c => absurd c (by decide))
      refine lv_iconst (v := 0) hx hb dd_X12_who_38 (by decide) ?_
      refine lv_istore_n (lv' := [(2, .int 0), (0, .ref (q 60)), (1, .int wh)]) hx hb dd_X12_who_39 rfl hl (by decide) rfl (fun ls hl => ?_)
      refine lv_iload_n hx hb dd_X12_who_40 rfl (lv_at hl 0 rfl) ?_
      refine lv_aload_n hx hb dd_X12_who_41 rfl (lv_at hl 1 rfl) ?_
      refine wk_get (v := .int 0) Sx ef_12 hK hP 0 rfl rfl 24 (by decide) kk_1125 rfl dd_X12_who_42 ?_
      refine lv_icmp_ge (tgt := 91) hx hb dd_X12_who_45 (by decide) (fun _ => ?_) (fun c => absurd c (by decide))
      refine lv_iconst (v := 1) hx hb dd_X12_who_91 (by decide) ?_
      refine lv_istore_n (lv' := [(2, .int 1), (0, .ref (q 60)), (1, .int wh)]) hx hb dd_X12_who_92 rfl hl (by decide) rfl (fun ls hl => ?_)
      refine lv_iconst (v := 0) hx hb dd_X12_who_93 (by decide) ?_
      refine lv_istore_n (lv' := [(3, .int 0), (2, .int 1), (0, .ref (q 60)), (1, .int wh)]) hx hb dd_X12_who_94 rfl hl (by decide) rfl (fun ls hl => ?_)
      refine lv_iload_n hx hb dd_X12_who_95 rfl (lv_at hl 0 rfl) ?_
      refine lv_aload_n hx hb dd_X12_who_96 rfl (lv_at hl 2 rfl) ?_
      refine wk_get (v := .int 0) Sx ef_12 hK hP 0 rfl rfl 24 (by decide) kk_1125 rfl dd_X12_who_97 ?_
      refine lv_icmp_ge (tgt := 116) hx hb dd_X12_who_100 (by decide) (fun _ => ?_) (fun c => absurd c (by decide))
      refine lv_iconst (v := (-1)) hx hb dd_X12_who_116 (by decide) ?_
      refine lv_istore_n (lv' := [(3, .int (-1)), (2, .int 1), (0, .ref (q 60)), (1, .int wh)]) hx hb dd_X12_who_117 rfl hl (by decide) rfl (fun ls hl => ?_)
      refine lv_iconst (v := (-1)) hx hb dd_X12_who_118 (by decide) ?_
      refine lv_istore (lv' := [(4, .int (-1)), (3, .int (-1)), (2, .int 1), (0, .ref (q 60)), (1, .int wh)]) hx hb dd_X12_who_119 hl (by decide) rfl (fun ls hl => ?_)
      refine lv_iconst (v := 0) hx hb dd_X12_who_121 (by decide) ?_
      refine lv_istore (lv' := [(5, .int 0), (4, .int (-1)), (3, .int (-1)), (2, .int 1), (0, .ref (q 60)), (1, .int wh)]) hx hb dd_X12_who_122 hl (by decide) rfl (fun ls hl => ?_)
      refine lv_iload hx hb dd_X12_who_124 (lv_at hl 0 rfl) ?_
      refine lv_iload_n hx hb dd_X12_who_126 rfl (lv_at hl 3 rfl) ?_
      refine lv_icmp_ge (tgt := 261) hx hb dd_X12_who_127 (by decide) (fun c => absurd c (by decide)) (fun _ => ?_)
      refine lv_iload hx hb dd_X12_who_130 (lv_at hl 0 rfl) ?_
      refine lv_istore (lv' := [(6, .int 0), (5, .int 0), (4, .int (-1)), (3, .int (-1)), (2, .int 1), (0, .ref (q 60)), (1, .int wh)]) hx hb dd_X12_who_132 hl (by decide) rfl (fun ls hl => ?_)
      refine lv_iconst (v := 0) hx hb dd_X12_who_134 (by decide) ?_
      refine lv_istore (lv' := [(7, .int 0), (6, .int 0), (5, .int 0), (4, .int (-1)), (3, .int (-1)), (2, .int 1), (0, .ref (q 60)), (1, .int wh)]) hx hb dd_X12_who_135 hl (by decide) rfl (fun ls hl => ?_)
      refine lv_iconst (v := 0) hx hb dd_X12_who_137 (by decide) ?_
      refine lv_istore (lv' := [(8, .int 0), (7, .int 0), (6, .int 0), (5, .int 0), (4, .int (-1)), (3, .int (-1)), (2, .int 1), (0, .ref (q 60)), (1, .int wh)]) hx hb dd_X12_who_138 hl (by decide) rfl (fun ls hl => ?_)
      refine lv_iconst (v := (-1)) hx hb dd_X12_who_140 (by decide) ?_
      refine lv_istore (lv' := [(9, .int (-1)), (8, .int 0), (7, .int 0), (6, .int 0), (5, .int 0), (4, .int (-1)), (3, .int (-1)), (2, .int 1), (0, .ref (q 60)), (1, .int wh)]) hx hb dd_X12_who_141 hl (by decide) rfl (fun ls hl => ?_)
      refine lv_iconst (v := 1) hx hb dd_X12_who_143 (by decide) ?_
      refine lv_istore (lv' := [(10, .int 1), (9, .int (-1)), (8, .int 0), (7, .int 0), (6, .int 0), (5, .int 0), (4, .int (-1)), (3, .int (-1)), (2, .int 1), (0, .ref (q 60)), (1, .int wh)]) hx hb dd_X12_who_144 hl (by decide) rfl (fun ls hl => ?_)
      refine lv_aload_n hx hb dd_X12_who_146 rfl (lv_at hl 9 rfl) ?_
      refine wk_get (v := .int 0) Sx ef_12 hK hP 0 rfl rfl 24 (by decide) kk_1125 rfl dd_X12_who_147 ?_
      refine lv_iconst (v := 1) hx hb dd_X12_who_150 (by decide) ?_
      refine lv_isub hx hb dd_X12_who_151 ?_
      refine wk_int (v := (-1)) (by decide) ?_
      refine lv_istore (lv' := [(11, .int (-1)), (10, .int 1), (9, .int (-1)), (8, .int 0), (7, .int 0), (6, .int 0), (5, .int 0), (4, .int (-1)), (3, .int (-1)), (2, .int 1), (0, .ref (q 60)), (1, .int wh)]) hx hb dd_X12_who_152 hl (by decide) rfl (fun ls hl => ?_)
      refine lv_iload hx hb dd_X12_who_154 (lv_at hl 0 rfl) ?_
      refine lv_if_lt (tgt := 233) hx hb dd_X12_who_156 (by decide) (fun _ => ?_) (fun c => absurd c (by decide))
      refine lv_iload hx hb dd_X12_who_233 (lv_at hl 1 rfl) ?_
      refine lv_if_eq (tgt := 255) hx hb dd_X12_who_235 (by decide) (fun c => absurd c (by decide)) (fun _ => ?_)
      refine lv_iload_n hx hb dd_X12_who_238 rfl (lv_at hl 8 rfl) ?_
      refine lv_if_lt (tgt := 248) hx hb dd_X12_who_239 (by decide) (fun _ => ?_) (fun c => absurd c (by decide))
      refine lv_iload hx hb dd_X12_who_248 (lv_at hl 3 rfl) ?_
      refine lv_istore_n (lv' := [(3, .int 0), (11, .int (-1)), (10, .int 1), (9, .int (-1)), (8, .int 0), (7, .int 0), (6, .int 0), (5, .int 0), (4, .int (-1)), (2, .int 1), (0, .ref (q 60)), (1, .int wh)]) hx hb dd_X12_who_250 rfl hl (by decide) rfl (fun ls hl => ?_)
      refine lv_iload hx hb dd_X12_who_251 (lv_at hl 3 rfl) ?_
      refine lv_istore (lv' := [(4, .int (-1)), (3, .int 0), (11, .int (-1)), (10, .int 1), (9, .int (-1)), (8, .int 0), (7, .int 0), (6, .int 0), (5, .int 0), (2, .int 1), (0, .ref (q 60)), (1, .int wh)]) hx hb dd_X12_who_253 hl (by decide) rfl (fun ls hl => ?_)
      refine lv_iinc (v := 1) (lv' := [(5, .int 1), (4, .int (-1)), (3, .int 0), (11, .int (-1)), (10, .int 1), (9, .int (-1)), (8, .int 0), (7, .int 0), (6, .int 0), (2, .int 1), (0, .ref (q 60)), (1, .int wh)]) hx hb dd_X12_who_255 hl (k := 8) rfl (by decide) (by decide) rfl (fun ls hl => ?_)
      refine lv_goto (tgt := 124) hx hb dd_X12_who_258 (by decide) ?_
      refine lv_iload hx hb dd_X12_who_124 (lv_at hl 0 rfl) ?_
      refine lv_iload_n hx hb dd_X12_who_126 rfl (lv_at hl 9 rfl) ?_
      refine lv_icmp_ge (tgt := 261) hx hb dd_X12_who_127 (by decide) (fun _ => ?_) (fun c => absurd c (by decide))
      refine lv_iload_n hx hb dd_X12_who_261 rfl (lv_at hl 11 rfl) ?_
      refine lv_if_ge (tgt := 269) hx hb dd_X12_who_262 (by decide) (fun c6 => ?_) (fun c6 => ?_)
      · have fc6 := ci_le (a := 0) (b := wh.toInt) rfl rfl c6
        exfalso; omega
      · have fc6 := ci_nle (a := 0) (b := wh.toInt) rfl rfl c6
        refine lv_iload_n hx hb dd_X12_who_265 rfl (lv_at hl 2 rfl) ?_
        refine lv_goto (tgt := 271) hx hb dd_X12_who_266 (by decide) ?_
        exact hc_ret Sx hr hlocks dd_X12_who_271 hS () (Or.inl ⟨by omega, rfl⟩) p_nil d_nil
    · have fc5 := ci_nlt (a := wh.toInt) (b := 0) rfl rfl c5
      refine lv_aload_n hx hb dd_X12_who_13 rfl (lv_at hl 0 rfl) ?_
      refine lv_bipush (v := (-2)) hx hb dd_X12_who_14 (by decide) ?_
      refine hk_i (wr := [(q 49, .inl (cy 0, 25, .inl (fun _ => 0)))]) (c1 := 0) (s1 := 0) [0, 1] [2] (hc_V [.int (-2)] [] [0, 1] Sx hl.1 ws_M_152 md_X12_no (c_M_no_2 l D cy q) ⟨Nat.le_of_ble_eq_true rfl, Nat.le_of_ble_eq_true rfl⟩ hP hD rfl (by decide) hK nx_b (nx_w hX) (va_recv hK hP (ci := 12) (q0 := 0) rfl rfl) rfl rfl (Nat.le_of_ble_eq_true rfl) dd_X12_who_16 ⟨Nat.le_of_ble_eq_true rfl, Nat.le_of_ble_eq_true rfl⟩) hS hA hP hD rfl rfl (by decide) (by decide) rfl rfl (fun r7 u8 H locs hw9 hP hD hS => ?_)
      have hP : va_P D cls [(q 49, .inl (cy 0, 25, .inl (fun _ => 0)))] H := hP
      have hD : va_D A [(q 49, .inl (cy 0, 25, .inl (fun _ => 0)))] := hD
      subst hw9
      exact hc_ret Sx hr hlocks dd_X12_who_19 hS () (Or.inr ⟨by omega, rfl⟩) p_nil d_nil
set_option maxHeartbeats 4000000 in
set_option maxRecDepth 100000 in
theorem c_M_pub_sight (l : Launch) (D : va_G) (cy : Nat → ClassId) (q : Nat → Nat) (ye : Int32) (ch : Int32) (ga : Int32) (bo : Int32) : HC l my_X12_sight mb_X12_sight 5 ((some .int)) (rmD 2 0 0) D (TY cy) [.ref (q 60), .int ye, .int ch, .int ga, .int bo] NX [(q 60, .inr (12, fM q)), (q 27, .inl (cy 0, 20, .inl (fun _ => 0))), (q 28, .inl (cy 0, 20, .inl (fun _ => 0))), (q 29, .inl (cy 0, 20, .inl (fun _ => 0))), (q 30, .inl (cy 0, 20, .inl (fun _ => 0))), (q 36, .inl (cy 0, 7, .inl (fun _ => 0)))] (QI (S := Unit) D (fun r _ => if2 (0 ≤ ye.toInt ∧ ye.toInt ≤ 99 ∧ 0 ≤ ch.toInt ∧ ch.toInt ≤ 255 ∧ (-1) ≤ ga.toInt ∧ ga.toInt ≤ 15 ∧ (-1) ≤ bo.toInt ∧ bo.toInt ≤ 15) 0 (-2) r) (fun _ => [])) := by
  refine hc_intro (by decide) (Nat.le_of_ble_eq_true rfl) (fun p e s m below meth c A ls Sx hr hlocks hin hl hP hD hK hS hA hX => ?_)
  have hx := Sx.1
  have hb := Sx.2.1
  have hl : lv_has ls 5 [(0, .ref (q 60)), (1, .int ye), (2, .int ch), (3, .int ga), (4, .int bo)] := hl
  have hP : va_P D cls [(q 60, .inr (12, fM q)), (q 27, .inl (cy 0, 20, .inl (fun _ => 0))), (q 28, .inl (cy 0, 20, .inl (fun _ => 0))), (q 29, .inl (cy 0, 20, .inl (fun _ => 0))), (q 30, .inl (cy 0, 20, .inl (fun _ => 0))), (q 36, .inl (cy 0, 7, .inl (fun _ => 0)))] s.heap := hP
  have hD : va_D A [(q 60, .inr (12, fM q)), (q 27, .inl (cy 0, 20, .inl (fun _ => 0))), (q 28, .inl (cy 0, 20, .inl (fun _ => 0))), (q 29, .inl (cy 0, 20, .inl (fun _ => 0))), (q 30, .inl (cy 0, 20, .inl (fun _ => 0))), (q 36, .inl (cy 0, 7, .inl (fun _ => 0)))] := hD
  refine lv_iload_n hx hb dd_X12_sight_0 rfl (lv_at hl 1 rfl) ?_
  refine lv_if_lt (tgt := 21) hx hb dd_X12_sight_1 (by decide) (fun c1 => ?_) (fun c1 => ?_)
  · have fc1 := ci_lt (a := ye.toInt) (b := 0) rfl rfl c1
    refine lv_aload_n hx hb dd_X12_sight_21 rfl (lv_at hl 0 rfl) ?_
    refine lv_bipush (v := (-2)) hx hb dd_X12_sight_22 (by decide) ?_
    refine hk_i (wr := [(q 27, .inl (cy 0, 20, .inl (fun _ => 0))), (q 28, .inl (cy 0, 20, .inl (fun _ => 0))), (q 29, .inl (cy 0, 20, .inl (fun _ => 0))), (q 30, .inl (cy 0, 20, .inl (fun _ => 0)))]) (c1 := 0) (s1 := 0) [0, 5] [1, 2, 3, 4] (hc_V [.int (-2)] [] [0, 5] Sx hl.1 ws_M_152 md_X12_no (c_M_no_2 l D cy q) ⟨Nat.le_of_ble_eq_true rfl, Nat.le_of_ble_eq_true rfl⟩ hP hD rfl (by decide) hK nx_b (nx_w hX) (va_recv hK hP (ci := 12) (q0 := 0) rfl rfl) rfl rfl (Nat.le_of_ble_eq_true rfl) dd_X12_sight_24 ⟨Nat.le_of_ble_eq_true rfl, Nat.le_of_ble_eq_true rfl⟩) hS hA hP hD rfl rfl (by decide) (by decide) rfl rfl (fun r2 u3 H locs hw4 hP hD hS => ?_)
    have hP : va_P D cls [(q 27, .inl (cy 0, 20, .inl (fun _ => 0))), (q 28, .inl (cy 0, 20, .inl (fun _ => 0))), (q 29, .inl (cy 0, 20, .inl (fun _ => 0))), (q 30, .inl (cy 0, 20, .inl (fun _ => 0)))] H := hP
    have hD : va_D A [(q 27, .inl (cy 0, 20, .inl (fun _ => 0))), (q 28, .inl (cy 0, 20, .inl (fun _ => 0))), (q 29, .inl (cy 0, 20, .inl (fun _ => 0))), (q 30, .inl (cy 0, 20, .inl (fun _ => 0)))] := hD
    subst hw4
    exact hc_ret Sx hr hlocks dd_X12_sight_27 hS () (Or.inr ⟨by omega, rfl⟩) p_nil d_nil
  · have fc1 := ci_nlt (a := ye.toInt) (b := 0) rfl rfl c1
    refine lv_iload_n hx hb dd_X12_sight_4 rfl (lv_at hl 1 rfl) ?_
    refine lv_bipush (v := 99) hx hb dd_X12_sight_5 (by decide) ?_
    refine lv_icmp_gt (tgt := 21) hx hb dd_X12_sight_7 (by decide) (fun c5 => ?_) (fun c5 => ?_)
    · have fc5 := ci_lt (a := 99) (b := ye.toInt) rfl rfl c5
      refine lv_aload_n hx hb dd_X12_sight_21 rfl (lv_at hl 0 rfl) ?_
      refine lv_bipush (v := (-2)) hx hb dd_X12_sight_22 (by decide) ?_
      refine hk_i (wr := [(q 27, .inl (cy 0, 20, .inl (fun _ => 0))), (q 28, .inl (cy 0, 20, .inl (fun _ => 0))), (q 29, .inl (cy 0, 20, .inl (fun _ => 0))), (q 30, .inl (cy 0, 20, .inl (fun _ => 0)))]) (c1 := 0) (s1 := 0) [0, 5] [1, 2, 3, 4] (hc_V [.int (-2)] [] [0, 5] Sx hl.1 ws_M_152 md_X12_no (c_M_no_2 l D cy q) ⟨Nat.le_of_ble_eq_true rfl, Nat.le_of_ble_eq_true rfl⟩ hP hD rfl (by decide) hK nx_b (nx_w hX) (va_recv hK hP (ci := 12) (q0 := 0) rfl rfl) rfl rfl (Nat.le_of_ble_eq_true rfl) dd_X12_sight_24 ⟨Nat.le_of_ble_eq_true rfl, Nat.le_of_ble_eq_true rfl⟩) hS hA hP hD rfl rfl (by decide) (by decide) rfl rfl (fun r6 u7 H locs hw8 hP hD hS => ?_)
      have hP : va_P D cls [(q 27, .inl (cy 0, 20, .inl (fun _ => 0))), (q 28, .inl (cy 0, 20, .inl (fun _ => 0))), (q 29, .inl (cy 0, 20, .inl (fun _ => 0))), (q 30, .inl (cy 0, 20, .inl (fun _ => 0)))] H := hP
      have hD : va_D A [(q 27, .inl (cy 0, 20, .inl (fun _ => 0))), (q 28, .inl (cy 0, 20, .inl (fun _ => 0))), (q 29, .inl (cy 0, 20, .inl (fun _ => 0))), (q 30, .inl (cy 0, 20, .inl (fun _ => 0)))] := hD
      subst hw8
      exact hc_ret Sx hr hlocks dd_X12_sight_27 hS () (Or.inr ⟨by omega, rfl⟩) p_nil d_nil
    · have fc5 := ci_nlt (a := 99) (b := ye.toInt) rfl rfl c5
      refine lv_iload_n hx hb dd_X12_sight_10 rfl (lv_at hl 2 rfl) ?_
      refine lv_if_lt (tgt := 21) hx hb dd_X12_sight_11 (by decide) (fun c9 => ?_) (fun c9 => ?_)
      · have fc9 := ci_lt (a := ch.toInt) (b := 0) rfl rfl c9
        refine lv_aload_n hx hb dd_X12_sight_21 rfl (lv_at hl 0 rfl) ?_
        refine lv_bipush (v := (-2)) hx hb dd_X12_sight_22 (by decide) ?_
        refine hk_i (wr := [(q 27, .inl (cy 0, 20, .inl (fun _ => 0))), (q 28, .inl (cy 0, 20, .inl (fun _ => 0))), (q 29, .inl (cy 0, 20, .inl (fun _ => 0))), (q 30, .inl (cy 0, 20, .inl (fun _ => 0)))]) (c1 := 0) (s1 := 0) [0, 5] [1, 2, 3, 4] (hc_V [.int (-2)] [] [0, 5] Sx hl.1 ws_M_152 md_X12_no (c_M_no_2 l D cy q) ⟨Nat.le_of_ble_eq_true rfl, Nat.le_of_ble_eq_true rfl⟩ hP hD rfl (by decide) hK nx_b (nx_w hX) (va_recv hK hP (ci := 12) (q0 := 0) rfl rfl) rfl rfl (Nat.le_of_ble_eq_true rfl) dd_X12_sight_24 ⟨Nat.le_of_ble_eq_true rfl, Nat.le_of_ble_eq_true rfl⟩) hS hA hP hD rfl rfl (by decide) (by decide) rfl rfl (fun r10 u11 H locs hw12 hP hD hS => ?_)
        have hP : va_P D cls [(q 27, .inl (cy 0, 20, .inl (fun _ => 0))), (q 28, .inl (cy 0, 20, .inl (fun _ => 0))), (q 29, .inl (cy 0, 20, .inl (fun _ => 0))), (q 30, .inl (cy 0, 20, .inl (fun _ => 0)))] H := hP
        have hD : va_D A [(q 27, .inl (cy 0, 20, .inl (fun _ => 0))), (q 28, .inl (cy 0, 20, .inl (fun _ => 0))), (q 29, .inl (cy 0, 20, .inl (fun _ => 0))), (q 30, .inl (cy 0, 20, .inl (fun _ => 0)))] := hD
        subst hw12
        exact hc_ret Sx hr hlocks dd_X12_sight_27 hS () (Or.inr ⟨by omega, rfl⟩) p_nil d_nil
      · have fc9 := ci_nlt (a := ch.toInt) (b := 0) rfl rfl c9
        refine lv_iload_n hx hb dd_X12_sight_14 rfl (lv_at hl 2 rfl) ?_
        refine lv_sipush (v := 255) hx hb dd_X12_sight_15 (by decide) ?_
        refine lv_icmp_le (tgt := 28) hx hb dd_X12_sight_18 (by decide) (fun c13 => ?_) (fun c13 => ?_)
        · have fc13 := ci_le (a := ch.toInt) (b := 255) rfl rfl c13
          refine lv_iload_n hx hb dd_X12_sight_28 rfl (lv_at hl 3 rfl) ?_
          refine lv_iconst (v := (-1)) hx hb dd_X12_sight_29 (by decide) ?_
          refine lv_icmp_eq (tgt := 41) hx hb dd_X12_sight_30 (by decide) (fun c14 => ?_) (fun c14 => ?_)
          · have fc14 := ci_eq (a := ga.toInt) (b := (-1)) rfl rfl c14
            refine lv_iload hx hb dd_X12_sight_41 (lv_at hl 4 rfl) ?_
            refine lv_iconst (v := (-1)) hx hb dd_X12_sight_43 (by decide) ?_
            refine lv_icmp_eq (tgt := 63) hx hb dd_X12_sight_44 (by decide) (fun c15 => ?_) (fun c15 => ?_)
            · have fc15 := ci_eq (a := bo.toInt) (b := (-1)) rfl rfl c15
              refine lv_aload_n hx hb dd_X12_sight_63 rfl (lv_at hl 0 rfl) ?_
              refine wk_get (v := .int 0) Sx ef_12 hK hP 0 rfl rfl 26 (by decide) kk_1127 rfl dd_X12_sight_64 ?_
              refine lv_bipush (v := 20) hx hb dd_X12_sight_67 (by decide) ?_
              refine lv_icmp_ne (tgt := 79) hx hb dd_X12_sight_69 (by decide) (fun _ => ?_) (fun c => absurd c (by decide))
              refine lv_aload_n hx hb dd_X12_sight_79 rfl (lv_at hl 0 rfl) ?_
              refine wk_get (v := .ref (q 27)) Sx ef_12 hK hP 0 rfl rfl 27 (by decide) kk_1128 rfl dd_X12_sight_80 ?_
              refine lv_aload_n hx hb dd_X12_sight_83 rfl (lv_at hl 0 rfl) ?_
              refine wk_get (v := .int 0) Sx ef_12 hK hP 0 rfl rfl 26 (by decide) kk_1127 rfl dd_X12_sight_84 ?_
              refine lv_iload_n hx hb dd_X12_sight_87 rfl (lv_at hl 1 rfl) ?_
              refine wk_iast (ws' := [(q 60, .inr (12, fM q)), (q 27, .inl (cy 0, 20, .inl (upd (fun _ => 0) (0 : Int32).toNatClampNeg ye))), (q 28, .inl (cy 0, 20, .inl (fun _ => 0))), (q 29, .inl (cy 0, 20, .inl (fun _ => 0))), (q 30, .inl (cy 0, 20, .inl (fun _ => 0))), (q 36, .inl (cy 0, 7, .inl (fun _ => 0)))]) Sx hK hP hD hS 1 0 rfl rfl (vi_of (by decide)) dd_X12_sight_88 rfl (fun H locs hP hD hS => ?_)
              refine lv_aload_n hx hb dd_X12_sight_89 rfl (lv_at hl 0 rfl) ?_
              refine wk_get (v := .ref (q 28)) Sx ef_12 hK hP 0 rfl rfl 28 (by decide) kk_1129 rfl dd_X12_sight_90 ?_
              refine lv_aload_n hx hb dd_X12_sight_93 rfl (lv_at hl 0 rfl) ?_
              refine wk_get (v := .int 0) Sx ef_12 hK hP 0 rfl rfl 26 (by decide) kk_1127 rfl dd_X12_sight_94 ?_
              refine lv_iload_n hx hb dd_X12_sight_97 rfl (lv_at hl 2 rfl) ?_
              refine wk_iast (ws' := [(q 60, .inr (12, fM q)), (q 27, .inl (cy 0, 20, .inl (upd (fun _ => 0) (0 : Int32).toNatClampNeg ye))), (q 28, .inl (cy 0, 20, .inl (upd (fun _ => 0) (0 : Int32).toNatClampNeg ch))), (q 29, .inl (cy 0, 20, .inl (fun _ => 0))), (q 30, .inl (cy 0, 20, .inl (fun _ => 0))), (q 36, .inl (cy 0, 7, .inl (fun _ => 0)))]) Sx hK hP hD hS 2 0 rfl rfl (vi_of (by decide)) dd_X12_sight_98 rfl (fun H locs hP hD hS => ?_)
              refine lv_aload_n hx hb dd_X12_sight_99 rfl (lv_at hl 0 rfl) ?_
              refine wk_get (v := .ref (q 29)) Sx ef_12 hK hP 0 rfl rfl 29 (by decide) kk_1130 rfl dd_X12_sight_100 ?_
              refine lv_aload_n hx hb dd_X12_sight_103 rfl (lv_at hl 0 rfl) ?_
              refine wk_get (v := .int 0) Sx ef_12 hK hP 0 rfl rfl 26 (by decide) kk_1127 rfl dd_X12_sight_104 ?_
              refine lv_iload_n hx hb dd_X12_sight_107 rfl (lv_at hl 3 rfl) ?_
              refine wk_iast (ws' := [(q 60, .inr (12, fM q)), (q 27, .inl (cy 0, 20, .inl (upd (fun _ => 0) (0 : Int32).toNatClampNeg ye))), (q 28, .inl (cy 0, 20, .inl (upd (fun _ => 0) (0 : Int32).toNatClampNeg ch))), (q 29, .inl (cy 0, 20, .inl (upd (fun _ => 0) (0 : Int32).toNatClampNeg ga))), (q 30, .inl (cy 0, 20, .inl (fun _ => 0))), (q 36, .inl (cy 0, 7, .inl (fun _ => 0)))]) Sx hK hP hD hS 3 0 rfl rfl (vi_of (by decide)) dd_X12_sight_108 rfl (fun H locs hP hD hS => ?_)
              refine lv_aload_n hx hb dd_X12_sight_109 rfl (lv_at hl 0 rfl) ?_
              refine wk_get (v := .ref (q 30)) Sx ef_12 hK hP 0 rfl rfl 30 (by decide) kk_1131 rfl dd_X12_sight_110 ?_
              refine lv_aload_n hx hb dd_X12_sight_113 rfl (lv_at hl 0 rfl) ?_
              refine wk_get (v := .int 0) Sx ef_12 hK hP 0 rfl rfl 26 (by decide) kk_1127 rfl dd_X12_sight_114 ?_
              refine lv_iload hx hb dd_X12_sight_117 (lv_at hl 4 rfl) ?_
              refine wk_iast (ws' := [(q 60, .inr (12, fM q)), (q 27, .inl (cy 0, 20, .inl (upd (fun _ => 0) (0 : Int32).toNatClampNeg ye))), (q 28, .inl (cy 0, 20, .inl (upd (fun _ => 0) (0 : Int32).toNatClampNeg ch))), (q 29, .inl (cy 0, 20, .inl (upd (fun _ => 0) (0 : Int32).toNatClampNeg ga))), (q 30, .inl (cy 0, 20, .inl (upd (fun _ => 0) (0 : Int32).toNatClampNeg bo))), (q 36, .inl (cy 0, 7, .inl (fun _ => 0)))]) Sx hK hP hD hS 4 0 rfl rfl (vi_of (by decide)) dd_X12_sight_119 rfl (fun H locs hP hD hS => ?_)
              refine lv_aload_n hx hb dd_X12_sight_120 rfl (lv_at hl 0 rfl) ?_
              refine lv_dup hx hb dd_X12_sight_121 rfl ?_
              refine wk_get (v := .int 0) Sx ef_12 hK hP 0 rfl rfl 26 (by decide) kk_1127 rfl dd_X12_sight_122 ?_
              refine lv_dup_x1 hx hb dd_X12_sight_125 rfl rfl ?_
              refine lv_iconst (v := 1) hx hb dd_X12_sight_126 (by decide) ?_
              refine lv_iadd hx hb dd_X12_sight_127 ?_
              refine wk_int (v := 1) (by decide) ?_
              refine wk_put (ws' := [(q 60, .inr (12, (fM q).set 26 (.int 1))), (q 27, .inl (cy 0, 20, .inl (upd (fun _ => 0) (0 : Int32).toNatClampNeg ye))), (q 28, .inl (cy 0, 20, .inl (upd (fun _ => 0) (0 : Int32).toNatClampNeg ch))), (q 29, .inl (cy 0, 20, .inl (upd (fun _ => 0) (0 : Int32).toNatClampNeg ga))), (q 30, .inl (cy 0, 20, .inl (upd (fun _ => 0) (0 : Int32).toNatClampNeg bo))), (q 36, .inl (cy 0, 7, .inl (fun _ => 0)))]) Sx ef_12 hK hP hD hS 0 rfl rfl 26 (by decide) kk_1127 rfl rfl rfl (Nat.le_of_ble_eq_true rfl) dd_X12_sight_128 rfl (fun H locs hP hD hS => ?_)
              exact hc_ret Sx hr hlocks dd_X12_sight_131 hS () (Or.inl ⟨by omega, rfl⟩) p_nil d_nil
            · have fc15 := ci_ne (a := bo.toInt) (b := (-1)) rfl rfl c15
              refine lv_aload_n hx hb dd_X12_sight_47 rfl (lv_at hl 0 rfl) ?_
              refine lv_iload hx hb dd_X12_sight_48 (lv_at hl 4 rfl) ?_
              refine pk_i (pc_V [.int bo] [] Sx hl.1 ws_M_276 md_X12_isPerson (c_M_isPerson l D cy q bo) ⟨rfl, rfl⟩ ⟨Nat.le_of_ble_eq_true rfl, Nat.le_of_ble_eq_true rfl⟩ p_nil hK ns_b (ns_w hX) (va_recv hK hP (ci := 12) (q0 := 0) rfl rfl) rfl rfl (Nat.le_of_ble_eq_true rfl) dd_X12_sight_50 ⟨Nat.le_of_ble_eq_true rfl, Nat.le_of_ble_eq_true rfl⟩) (fun r16 hw17 => ?_)
              rcases hw17 with ⟨hw17, ehw17⟩ | ⟨hw17, ehw17⟩
              · subst ehw17
                refine lv_if_ne (tgt := 63) hx hb dd_X12_sight_53 (by decide) (fun _ => ?_) (fun c => absurd c (by decide))
                refine lv_aload_n hx hb dd_X12_sight_63 rfl (lv_at hl 0 rfl) ?_
                refine wk_get (v := .int 0) Sx ef_12 hK hP 0 rfl rfl 26 (by decide) kk_1127 rfl dd_X12_sight_64 ?_
                refine lv_bipush (v := 20) hx hb dd_X12_sight_67 (by decide) ?_
                refine lv_icmp_ne (tgt := 79) hx hb dd_X12_sight_69 (by decide) (fun _ => ?_) (fun c => absurd c (by decide))
                refine lv_aload_n hx hb dd_X12_sight_79 rfl (lv_at hl 0 rfl) ?_
                refine wk_get (v := .ref (q 27)) Sx ef_12 hK hP 0 rfl rfl 27 (by decide) kk_1128 rfl dd_X12_sight_80 ?_
                refine lv_aload_n hx hb dd_X12_sight_83 rfl (lv_at hl 0 rfl) ?_
                refine wk_get (v := .int 0) Sx ef_12 hK hP 0 rfl rfl 26 (by decide) kk_1127 rfl dd_X12_sight_84 ?_
                refine lv_iload_n hx hb dd_X12_sight_87 rfl (lv_at hl 1 rfl) ?_
                refine wk_iast (ws' := [(q 60, .inr (12, fM q)), (q 27, .inl (cy 0, 20, .inl (upd (fun _ => 0) (0 : Int32).toNatClampNeg ye))), (q 28, .inl (cy 0, 20, .inl (fun _ => 0))), (q 29, .inl (cy 0, 20, .inl (fun _ => 0))), (q 30, .inl (cy 0, 20, .inl (fun _ => 0))), (q 36, .inl (cy 0, 7, .inl (fun _ => 0)))]) Sx hK hP hD hS 1 0 rfl rfl (vi_of (by decide)) dd_X12_sight_88 rfl (fun H locs hP hD hS => ?_)
                refine lv_aload_n hx hb dd_X12_sight_89 rfl (lv_at hl 0 rfl) ?_
                refine wk_get (v := .ref (q 28)) Sx ef_12 hK hP 0 rfl rfl 28 (by decide) kk_1129 rfl dd_X12_sight_90 ?_
                refine lv_aload_n hx hb dd_X12_sight_93 rfl (lv_at hl 0 rfl) ?_
                refine wk_get (v := .int 0) Sx ef_12 hK hP 0 rfl rfl 26 (by decide) kk_1127 rfl dd_X12_sight_94 ?_
                refine lv_iload_n hx hb dd_X12_sight_97 rfl (lv_at hl 2 rfl) ?_
                refine wk_iast (ws' := [(q 60, .inr (12, fM q)), (q 27, .inl (cy 0, 20, .inl (upd (fun _ => 0) (0 : Int32).toNatClampNeg ye))), (q 28, .inl (cy 0, 20, .inl (upd (fun _ => 0) (0 : Int32).toNatClampNeg ch))), (q 29, .inl (cy 0, 20, .inl (fun _ => 0))), (q 30, .inl (cy 0, 20, .inl (fun _ => 0))), (q 36, .inl (cy 0, 7, .inl (fun _ => 0)))]) Sx hK hP hD hS 2 0 rfl rfl (vi_of (by decide)) dd_X12_sight_98 rfl (fun H locs hP hD hS => ?_)
                refine lv_aload_n hx hb dd_X12_sight_99 rfl (lv_at hl 0 rfl) ?_
                refine wk_get (v := .ref (q 29)) Sx ef_12 hK hP 0 rfl rfl 29 (by decide) kk_1130 rfl dd_X12_sight_100 ?_
                refine lv_aload_n hx hb dd_X12_sight_103 rfl (lv_at hl 0 rfl) ?_
                refine wk_get (v := .int 0) Sx ef_12 hK hP 0 rfl rfl 26 (by decide) kk_1127 rfl dd_X12_sight_104 ?_
                refine lv_iload_n hx hb dd_X12_sight_107 rfl (lv_at hl 3 rfl) ?_
                refine wk_iast (ws' := [(q 60, .inr (12, fM q)), (q 27, .inl (cy 0, 20, .inl (upd (fun _ => 0) (0 : Int32).toNatClampNeg ye))), (q 28, .inl (cy 0, 20, .inl (upd (fun _ => 0) (0 : Int32).toNatClampNeg ch))), (q 29, .inl (cy 0, 20, .inl (upd (fun _ => 0) (0 : Int32).toNatClampNeg ga))), (q 30, .inl (cy 0, 20, .inl (fun _ => 0))), (q 36, .inl (cy 0, 7, .inl (fun _ => 0)))]) Sx hK hP hD hS 3 0 rfl rfl (vi_of (by decide)) dd_X12_sight_108 rfl (fun H locs hP hD hS => ?_)
                refine lv_aload_n hx hb dd_X12_sight_109 rfl (lv_at hl 0 rfl) ?_
                refine wk_get (v := .ref (q 30)) Sx ef_12 hK hP 0 rfl rfl 30 (by decide) kk_1131 rfl dd_X12_sight_110 ?_
                refine lv_aload_n hx hb dd_X12_sight_113 rfl (lv_at hl 0 rfl) ?_
                refine wk_get (v := .int 0) Sx ef_12 hK hP 0 rfl rfl 26 (by decide) kk_1127 rfl dd_X12_sight_114 ?_
                refine lv_iload hx hb dd_X12_sight_117 (lv_at hl 4 rfl) ?_
                refine wk_iast (ws' := [(q 60, .inr (12, fM q)), (q 27, .inl (cy 0, 20, .inl (upd (fun _ => 0) (0 : Int32).toNatClampNeg ye))), (q 28, .inl (cy 0, 20, .inl (upd (fun _ => 0) (0 : Int32).toNatClampNeg ch))), (q 29, .inl (cy 0, 20, .inl (upd (fun _ => 0) (0 : Int32).toNatClampNeg ga))), (q 30, .inl (cy 0, 20, .inl (upd (fun _ => 0) (0 : Int32).toNatClampNeg bo))), (q 36, .inl (cy 0, 7, .inl (fun _ => 0)))]) Sx hK hP hD hS 4 0 rfl rfl (vi_of (by decide)) dd_X12_sight_119 rfl (fun H locs hP hD hS => ?_)
                refine lv_aload_n hx hb dd_X12_sight_120 rfl (lv_at hl 0 rfl) ?_
                refine lv_dup hx hb dd_X12_sight_121 rfl ?_
                refine wk_get (v := .int 0) Sx ef_12 hK hP 0 rfl rfl 26 (by decide) kk_1127 rfl dd_X12_sight_122 ?_
                refine lv_dup_x1 hx hb dd_X12_sight_125 rfl rfl ?_
                refine lv_iconst (v := 1) hx hb dd_X12_sight_126 (by decide) ?_
                refine lv_iadd hx hb dd_X12_sight_127 ?_
                refine wk_int (v := 1) (by decide) ?_
                refine wk_put (ws' := [(q 60, .inr (12, (fM q).set 26 (.int 1))), (q 27, .inl (cy 0, 20, .inl (upd (fun _ => 0) (0 : Int32).toNatClampNeg ye))), (q 28, .inl (cy 0, 20, .inl (upd (fun _ => 0) (0 : Int32).toNatClampNeg ch))), (q 29, .inl (cy 0, 20, .inl (upd (fun _ => 0) (0 : Int32).toNatClampNeg ga))), (q 30, .inl (cy 0, 20, .inl (upd (fun _ => 0) (0 : Int32).toNatClampNeg bo))), (q 36, .inl (cy 0, 7, .inl (fun _ => 0)))]) Sx ef_12 hK hP hD hS 0 rfl rfl 26 (by decide) kk_1127 rfl rfl rfl (Nat.le_of_ble_eq_true rfl) dd_X12_sight_128 rfl (fun H locs hP hD hS => ?_)
                exact hc_ret Sx hr hlocks dd_X12_sight_131 hS () (Or.inl ⟨by omega, rfl⟩) p_nil d_nil
              · subst ehw17
                refine lv_if_ne (tgt := 63) hx hb dd_X12_sight_53 (by decide) (fun c => absurd c (by decide)) (fun _ => ?_)
                refine lv_aload_n hx hb dd_X12_sight_56 rfl (lv_at hl 0 rfl) ?_
                refine lv_bipush (v := (-2)) hx hb dd_X12_sight_57 (by decide) ?_
                refine hk_i (wr := [(q 27, .inl (cy 0, 20, .inl (fun _ => 0))), (q 28, .inl (cy 0, 20, .inl (fun _ => 0))), (q 29, .inl (cy 0, 20, .inl (fun _ => 0))), (q 30, .inl (cy 0, 20, .inl (fun _ => 0)))]) (c1 := 0) (s1 := 0) [0, 5] [1, 2, 3, 4] (hc_V [.int (-2)] [] [0, 5] Sx hl.1 ws_M_152 md_X12_no (c_M_no_2 l D cy q) ⟨Nat.le_of_ble_eq_true rfl, Nat.le_of_ble_eq_true rfl⟩ hP hD rfl (by decide) hK nx_b (nx_w hX) (va_recv hK hP (ci := 12) (q0 := 0) rfl rfl) rfl rfl (Nat.le_of_ble_eq_true rfl) dd_X12_sight_59 ⟨Nat.le_of_ble_eq_true rfl, Nat.le_of_ble_eq_true rfl⟩) hS hA hP hD rfl rfl (by decide) (by decide) rfl rfl (fun r18 u19 H locs hw20 hP hD hS => ?_)
                have hP : va_P D cls [(q 27, .inl (cy 0, 20, .inl (fun _ => 0))), (q 28, .inl (cy 0, 20, .inl (fun _ => 0))), (q 29, .inl (cy 0, 20, .inl (fun _ => 0))), (q 30, .inl (cy 0, 20, .inl (fun _ => 0)))] H := hP
                have hD : va_D A [(q 27, .inl (cy 0, 20, .inl (fun _ => 0))), (q 28, .inl (cy 0, 20, .inl (fun _ => 0))), (q 29, .inl (cy 0, 20, .inl (fun _ => 0))), (q 30, .inl (cy 0, 20, .inl (fun _ => 0)))] := hD
                subst hw20
                exact hc_ret Sx hr hlocks dd_X12_sight_62 hS () (Or.inr ⟨by omega, rfl⟩) p_nil d_nil
          · have fc14 := ci_ne (a := ga.toInt) (b := (-1)) rfl rfl c14
            refine lv_aload_n hx hb dd_X12_sight_33 rfl (lv_at hl 0 rfl) ?_
            refine lv_iload_n hx hb dd_X12_sight_34 rfl (lv_at hl 3 rfl) ?_
            refine pk_i (pc_V [.int ga] [] Sx hl.1 ws_M_276 md_X12_isPerson (c_M_isPerson l D cy q ga) ⟨rfl, rfl⟩ ⟨Nat.le_of_ble_eq_true rfl, Nat.le_of_ble_eq_true rfl⟩ p_nil hK ns_b (ns_w hX) (va_recv hK hP (ci := 12) (q0 := 0) rfl rfl) rfl rfl (Nat.le_of_ble_eq_true rfl) dd_X12_sight_35 ⟨Nat.le_of_ble_eq_true rfl, Nat.le_of_ble_eq_true rfl⟩) (fun r21 hw22 => ?_)
            rcases hw22 with ⟨hw22, ehw22⟩ | ⟨hw22, ehw22⟩
            · subst ehw22
              refine lv_if_eq (tgt := 56) hx hb dd_X12_sight_38 (by decide) (fun c => absurd c (by decide)) (fun _ => ?_)
              refine lv_iload hx hb dd_X12_sight_41 (lv_at hl 4 rfl) ?_
              refine lv_iconst (v := (-1)) hx hb dd_X12_sight_43 (by decide) ?_
              refine lv_icmp_eq (tgt := 63) hx hb dd_X12_sight_44 (by decide) (fun c23 => ?_) (fun c23 => ?_)
              · have fc23 := ci_eq (a := bo.toInt) (b := (-1)) rfl rfl c23
                refine lv_aload_n hx hb dd_X12_sight_63 rfl (lv_at hl 0 rfl) ?_
                refine wk_get (v := .int 0) Sx ef_12 hK hP 0 rfl rfl 26 (by decide) kk_1127 rfl dd_X12_sight_64 ?_
                refine lv_bipush (v := 20) hx hb dd_X12_sight_67 (by decide) ?_
                refine lv_icmp_ne (tgt := 79) hx hb dd_X12_sight_69 (by decide) (fun _ => ?_) (fun c => absurd c (by decide))
                refine lv_aload_n hx hb dd_X12_sight_79 rfl (lv_at hl 0 rfl) ?_
                refine wk_get (v := .ref (q 27)) Sx ef_12 hK hP 0 rfl rfl 27 (by decide) kk_1128 rfl dd_X12_sight_80 ?_
                refine lv_aload_n hx hb dd_X12_sight_83 rfl (lv_at hl 0 rfl) ?_
                refine wk_get (v := .int 0) Sx ef_12 hK hP 0 rfl rfl 26 (by decide) kk_1127 rfl dd_X12_sight_84 ?_
                refine lv_iload_n hx hb dd_X12_sight_87 rfl (lv_at hl 1 rfl) ?_
                refine wk_iast (ws' := [(q 60, .inr (12, fM q)), (q 27, .inl (cy 0, 20, .inl (upd (fun _ => 0) (0 : Int32).toNatClampNeg ye))), (q 28, .inl (cy 0, 20, .inl (fun _ => 0))), (q 29, .inl (cy 0, 20, .inl (fun _ => 0))), (q 30, .inl (cy 0, 20, .inl (fun _ => 0))), (q 36, .inl (cy 0, 7, .inl (fun _ => 0)))]) Sx hK hP hD hS 1 0 rfl rfl (vi_of (by decide)) dd_X12_sight_88 rfl (fun H locs hP hD hS => ?_)
                refine lv_aload_n hx hb dd_X12_sight_89 rfl (lv_at hl 0 rfl) ?_
                refine wk_get (v := .ref (q 28)) Sx ef_12 hK hP 0 rfl rfl 28 (by decide) kk_1129 rfl dd_X12_sight_90 ?_
                refine lv_aload_n hx hb dd_X12_sight_93 rfl (lv_at hl 0 rfl) ?_
                refine wk_get (v := .int 0) Sx ef_12 hK hP 0 rfl rfl 26 (by decide) kk_1127 rfl dd_X12_sight_94 ?_
                refine lv_iload_n hx hb dd_X12_sight_97 rfl (lv_at hl 2 rfl) ?_
                refine wk_iast (ws' := [(q 60, .inr (12, fM q)), (q 27, .inl (cy 0, 20, .inl (upd (fun _ => 0) (0 : Int32).toNatClampNeg ye))), (q 28, .inl (cy 0, 20, .inl (upd (fun _ => 0) (0 : Int32).toNatClampNeg ch))), (q 29, .inl (cy 0, 20, .inl (fun _ => 0))), (q 30, .inl (cy 0, 20, .inl (fun _ => 0))), (q 36, .inl (cy 0, 7, .inl (fun _ => 0)))]) Sx hK hP hD hS 2 0 rfl rfl (vi_of (by decide)) dd_X12_sight_98 rfl (fun H locs hP hD hS => ?_)
                refine lv_aload_n hx hb dd_X12_sight_99 rfl (lv_at hl 0 rfl) ?_
                refine wk_get (v := .ref (q 29)) Sx ef_12 hK hP 0 rfl rfl 29 (by decide) kk_1130 rfl dd_X12_sight_100 ?_
                refine lv_aload_n hx hb dd_X12_sight_103 rfl (lv_at hl 0 rfl) ?_
                refine wk_get (v := .int 0) Sx ef_12 hK hP 0 rfl rfl 26 (by decide) kk_1127 rfl dd_X12_sight_104 ?_
                refine lv_iload_n hx hb dd_X12_sight_107 rfl (lv_at hl 3 rfl) ?_
                refine wk_iast (ws' := [(q 60, .inr (12, fM q)), (q 27, .inl (cy 0, 20, .inl (upd (fun _ => 0) (0 : Int32).toNatClampNeg ye))), (q 28, .inl (cy 0, 20, .inl (upd (fun _ => 0) (0 : Int32).toNatClampNeg ch))), (q 29, .inl (cy 0, 20, .inl (upd (fun _ => 0) (0 : Int32).toNatClampNeg ga))), (q 30, .inl (cy 0, 20, .inl (fun _ => 0))), (q 36, .inl (cy 0, 7, .inl (fun _ => 0)))]) Sx hK hP hD hS 3 0 rfl rfl (vi_of (by decide)) dd_X12_sight_108 rfl (fun H locs hP hD hS => ?_)
                refine lv_aload_n hx hb dd_X12_sight_109 rfl (lv_at hl 0 rfl) ?_
                refine wk_get (v := .ref (q 30)) Sx ef_12 hK hP 0 rfl rfl 30 (by decide) kk_1131 rfl dd_X12_sight_110 ?_
                refine lv_aload_n hx hb dd_X12_sight_113 rfl (lv_at hl 0 rfl) ?_
                refine wk_get (v := .int 0) Sx ef_12 hK hP 0 rfl rfl 26 (by decide) kk_1127 rfl dd_X12_sight_114 ?_
                refine lv_iload hx hb dd_X12_sight_117 (lv_at hl 4 rfl) ?_
                refine wk_iast (ws' := [(q 60, .inr (12, fM q)), (q 27, .inl (cy 0, 20, .inl (upd (fun _ => 0) (0 : Int32).toNatClampNeg ye))), (q 28, .inl (cy 0, 20, .inl (upd (fun _ => 0) (0 : Int32).toNatClampNeg ch))), (q 29, .inl (cy 0, 20, .inl (upd (fun _ => 0) (0 : Int32).toNatClampNeg ga))), (q 30, .inl (cy 0, 20, .inl (upd (fun _ => 0) (0 : Int32).toNatClampNeg bo))), (q 36, .inl (cy 0, 7, .inl (fun _ => 0)))]) Sx hK hP hD hS 4 0 rfl rfl (vi_of (by decide)) dd_X12_sight_119 rfl (fun H locs hP hD hS => ?_)
                refine lv_aload_n hx hb dd_X12_sight_120 rfl (lv_at hl 0 rfl) ?_
                refine lv_dup hx hb dd_X12_sight_121 rfl ?_
                refine wk_get (v := .int 0) Sx ef_12 hK hP 0 rfl rfl 26 (by decide) kk_1127 rfl dd_X12_sight_122 ?_
                refine lv_dup_x1 hx hb dd_X12_sight_125 rfl rfl ?_
                refine lv_iconst (v := 1) hx hb dd_X12_sight_126 (by decide) ?_
                refine lv_iadd hx hb dd_X12_sight_127 ?_
                refine wk_int (v := 1) (by decide) ?_
                refine wk_put (ws' := [(q 60, .inr (12, (fM q).set 26 (.int 1))), (q 27, .inl (cy 0, 20, .inl (upd (fun _ => 0) (0 : Int32).toNatClampNeg ye))), (q 28, .inl (cy 0, 20, .inl (upd (fun _ => 0) (0 : Int32).toNatClampNeg ch))), (q 29, .inl (cy 0, 20, .inl (upd (fun _ => 0) (0 : Int32).toNatClampNeg ga))), (q 30, .inl (cy 0, 20, .inl (upd (fun _ => 0) (0 : Int32).toNatClampNeg bo))), (q 36, .inl (cy 0, 7, .inl (fun _ => 0)))]) Sx ef_12 hK hP hD hS 0 rfl rfl 26 (by decide) kk_1127 rfl rfl rfl (Nat.le_of_ble_eq_true rfl) dd_X12_sight_128 rfl (fun H locs hP hD hS => ?_)
                exact hc_ret Sx hr hlocks dd_X12_sight_131 hS () (Or.inl ⟨by omega, rfl⟩) p_nil d_nil
              · have fc23 := ci_ne (a := bo.toInt) (b := (-1)) rfl rfl c23
                refine lv_aload_n hx hb dd_X12_sight_47 rfl (lv_at hl 0 rfl) ?_
                refine lv_iload hx hb dd_X12_sight_48 (lv_at hl 4 rfl) ?_
                refine pk_i (pc_V [.int bo] [] Sx hl.1 ws_M_276 md_X12_isPerson (c_M_isPerson l D cy q bo) ⟨rfl, rfl⟩ ⟨Nat.le_of_ble_eq_true rfl, Nat.le_of_ble_eq_true rfl⟩ p_nil hK ns_b (ns_w hX) (va_recv hK hP (ci := 12) (q0 := 0) rfl rfl) rfl rfl (Nat.le_of_ble_eq_true rfl) dd_X12_sight_50 ⟨Nat.le_of_ble_eq_true rfl, Nat.le_of_ble_eq_true rfl⟩) (fun r24 hw25 => ?_)
                rcases hw25 with ⟨hw25, ehw25⟩ | ⟨hw25, ehw25⟩
                · subst ehw25
                  refine lv_if_ne (tgt := 63) hx hb dd_X12_sight_53 (by decide) (fun _ => ?_) (fun c => absurd c (by decide))
                  refine lv_aload_n hx hb dd_X12_sight_63 rfl (lv_at hl 0 rfl) ?_
                  refine wk_get (v := .int 0) Sx ef_12 hK hP 0 rfl rfl 26 (by decide) kk_1127 rfl dd_X12_sight_64 ?_
                  refine lv_bipush (v := 20) hx hb dd_X12_sight_67 (by decide) ?_
                  refine lv_icmp_ne (tgt := 79) hx hb dd_X12_sight_69 (by decide) (fun _ => ?_) (fun c => absurd c (by decide))
                  refine lv_aload_n hx hb dd_X12_sight_79 rfl (lv_at hl 0 rfl) ?_
                  refine wk_get (v := .ref (q 27)) Sx ef_12 hK hP 0 rfl rfl 27 (by decide) kk_1128 rfl dd_X12_sight_80 ?_
                  refine lv_aload_n hx hb dd_X12_sight_83 rfl (lv_at hl 0 rfl) ?_
                  refine wk_get (v := .int 0) Sx ef_12 hK hP 0 rfl rfl 26 (by decide) kk_1127 rfl dd_X12_sight_84 ?_
                  refine lv_iload_n hx hb dd_X12_sight_87 rfl (lv_at hl 1 rfl) ?_
                  refine wk_iast (ws' := [(q 60, .inr (12, fM q)), (q 27, .inl (cy 0, 20, .inl (upd (fun _ => 0) (0 : Int32).toNatClampNeg ye))), (q 28, .inl (cy 0, 20, .inl (fun _ => 0))), (q 29, .inl (cy 0, 20, .inl (fun _ => 0))), (q 30, .inl (cy 0, 20, .inl (fun _ => 0))), (q 36, .inl (cy 0, 7, .inl (fun _ => 0)))]) Sx hK hP hD hS 1 0 rfl rfl (vi_of (by decide)) dd_X12_sight_88 rfl (fun H locs hP hD hS => ?_)
                  refine lv_aload_n hx hb dd_X12_sight_89 rfl (lv_at hl 0 rfl) ?_
                  refine wk_get (v := .ref (q 28)) Sx ef_12 hK hP 0 rfl rfl 28 (by decide) kk_1129 rfl dd_X12_sight_90 ?_
                  refine lv_aload_n hx hb dd_X12_sight_93 rfl (lv_at hl 0 rfl) ?_
                  refine wk_get (v := .int 0) Sx ef_12 hK hP 0 rfl rfl 26 (by decide) kk_1127 rfl dd_X12_sight_94 ?_
                  refine lv_iload_n hx hb dd_X12_sight_97 rfl (lv_at hl 2 rfl) ?_
                  refine wk_iast (ws' := [(q 60, .inr (12, fM q)), (q 27, .inl (cy 0, 20, .inl (upd (fun _ => 0) (0 : Int32).toNatClampNeg ye))), (q 28, .inl (cy 0, 20, .inl (upd (fun _ => 0) (0 : Int32).toNatClampNeg ch))), (q 29, .inl (cy 0, 20, .inl (fun _ => 0))), (q 30, .inl (cy 0, 20, .inl (fun _ => 0))), (q 36, .inl (cy 0, 7, .inl (fun _ => 0)))]) Sx hK hP hD hS 2 0 rfl rfl (vi_of (by decide)) dd_X12_sight_98 rfl (fun H locs hP hD hS => ?_)
                  refine lv_aload_n hx hb dd_X12_sight_99 rfl (lv_at hl 0 rfl) ?_
                  refine wk_get (v := .ref (q 29)) Sx ef_12 hK hP 0 rfl rfl 29 (by decide) kk_1130 rfl dd_X12_sight_100 ?_
                  refine lv_aload_n hx hb dd_X12_sight_103 rfl (lv_at hl 0 rfl) ?_
                  refine wk_get (v := .int 0) Sx ef_12 hK hP 0 rfl rfl 26 (by decide) kk_1127 rfl dd_X12_sight_104 ?_
                  refine lv_iload_n hx hb dd_X12_sight_107 rfl (lv_at hl 3 rfl) ?_
                  refine wk_iast (ws' := [(q 60, .inr (12, fM q)), (q 27, .inl (cy 0, 20, .inl (upd (fun _ => 0) (0 : Int32).toNatClampNeg ye))), (q 28, .inl (cy 0, 20, .inl (upd (fun _ => 0) (0 : Int32).toNatClampNeg ch))), (q 29, .inl (cy 0, 20, .inl (upd (fun _ => 0) (0 : Int32).toNatClampNeg ga))), (q 30, .inl (cy 0, 20, .inl (fun _ => 0))), (q 36, .inl (cy 0, 7, .inl (fun _ => 0)))]) Sx hK hP hD hS 3 0 rfl rfl (vi_of (by decide)) dd_X12_sight_108 rfl (fun H locs hP hD hS => ?_)
                  refine lv_aload_n hx hb dd_X12_sight_109 rfl (lv_at hl 0 rfl) ?_
                  refine wk_get (v := .ref (q 30)) Sx ef_12 hK hP 0 rfl rfl 30 (by decide) kk_1131 rfl dd_X12_sight_110 ?_
                  refine lv_aload_n hx hb dd_X12_sight_113 rfl (lv_at hl 0 rfl) ?_
                  refine wk_get (v := .int 0) Sx ef_12 hK hP 0 rfl rfl 26 (by decide) kk_1127 rfl dd_X12_sight_114 ?_
                  refine lv_iload hx hb dd_X12_sight_117 (lv_at hl 4 rfl) ?_
                  refine wk_iast (ws' := [(q 60, .inr (12, fM q)), (q 27, .inl (cy 0, 20, .inl (upd (fun _ => 0) (0 : Int32).toNatClampNeg ye))), (q 28, .inl (cy 0, 20, .inl (upd (fun _ => 0) (0 : Int32).toNatClampNeg ch))), (q 29, .inl (cy 0, 20, .inl (upd (fun _ => 0) (0 : Int32).toNatClampNeg ga))), (q 30, .inl (cy 0, 20, .inl (upd (fun _ => 0) (0 : Int32).toNatClampNeg bo))), (q 36, .inl (cy 0, 7, .inl (fun _ => 0)))]) Sx hK hP hD hS 4 0 rfl rfl (vi_of (by decide)) dd_X12_sight_119 rfl (fun H locs hP hD hS => ?_)
                  refine lv_aload_n hx hb dd_X12_sight_120 rfl (lv_at hl 0 rfl) ?_
                  refine lv_dup hx hb dd_X12_sight_121 rfl ?_
                  refine wk_get (v := .int 0) Sx ef_12 hK hP 0 rfl rfl 26 (by decide) kk_1127 rfl dd_X12_sight_122 ?_
                  refine lv_dup_x1 hx hb dd_X12_sight_125 rfl rfl ?_
                  refine lv_iconst (v := 1) hx hb dd_X12_sight_126 (by decide) ?_
                  refine lv_iadd hx hb dd_X12_sight_127 ?_
                  refine wk_int (v := 1) (by decide) ?_
                  refine wk_put (ws' := [(q 60, .inr (12, (fM q).set 26 (.int 1))), (q 27, .inl (cy 0, 20, .inl (upd (fun _ => 0) (0 : Int32).toNatClampNeg ye))), (q 28, .inl (cy 0, 20, .inl (upd (fun _ => 0) (0 : Int32).toNatClampNeg ch))), (q 29, .inl (cy 0, 20, .inl (upd (fun _ => 0) (0 : Int32).toNatClampNeg ga))), (q 30, .inl (cy 0, 20, .inl (upd (fun _ => 0) (0 : Int32).toNatClampNeg bo))), (q 36, .inl (cy 0, 7, .inl (fun _ => 0)))]) Sx ef_12 hK hP hD hS 0 rfl rfl 26 (by decide) kk_1127 rfl rfl rfl (Nat.le_of_ble_eq_true rfl) dd_X12_sight_128 rfl (fun H locs hP hD hS => ?_)
                  exact hc_ret Sx hr hlocks dd_X12_sight_131 hS () (Or.inl ⟨by omega, rfl⟩) p_nil d_nil
                · subst ehw25
                  refine lv_if_ne (tgt := 63) hx hb dd_X12_sight_53 (by decide) (fun c => absurd c (by decide)) (fun _ => ?_)
                  refine lv_aload_n hx hb dd_X12_sight_56 rfl (lv_at hl 0 rfl) ?_
                  refine lv_bipush (v := (-2)) hx hb dd_X12_sight_57 (by decide) ?_
                  refine hk_i (wr := [(q 27, .inl (cy 0, 20, .inl (fun _ => 0))), (q 28, .inl (cy 0, 20, .inl (fun _ => 0))), (q 29, .inl (cy 0, 20, .inl (fun _ => 0))), (q 30, .inl (cy 0, 20, .inl (fun _ => 0)))]) (c1 := 0) (s1 := 0) [0, 5] [1, 2, 3, 4] (hc_V [.int (-2)] [] [0, 5] Sx hl.1 ws_M_152 md_X12_no (c_M_no_2 l D cy q) ⟨Nat.le_of_ble_eq_true rfl, Nat.le_of_ble_eq_true rfl⟩ hP hD rfl (by decide) hK nx_b (nx_w hX) (va_recv hK hP (ci := 12) (q0 := 0) rfl rfl) rfl rfl (Nat.le_of_ble_eq_true rfl) dd_X12_sight_59 ⟨Nat.le_of_ble_eq_true rfl, Nat.le_of_ble_eq_true rfl⟩) hS hA hP hD rfl rfl (by decide) (by decide) rfl rfl (fun r26 u27 H locs hw28 hP hD hS => ?_)
                  have hP : va_P D cls [(q 27, .inl (cy 0, 20, .inl (fun _ => 0))), (q 28, .inl (cy 0, 20, .inl (fun _ => 0))), (q 29, .inl (cy 0, 20, .inl (fun _ => 0))), (q 30, .inl (cy 0, 20, .inl (fun _ => 0)))] H := hP
                  have hD : va_D A [(q 27, .inl (cy 0, 20, .inl (fun _ => 0))), (q 28, .inl (cy 0, 20, .inl (fun _ => 0))), (q 29, .inl (cy 0, 20, .inl (fun _ => 0))), (q 30, .inl (cy 0, 20, .inl (fun _ => 0)))] := hD
                  subst hw28
                  exact hc_ret Sx hr hlocks dd_X12_sight_62 hS () (Or.inr ⟨by omega, rfl⟩) p_nil d_nil
            · subst ehw22
              refine lv_if_eq (tgt := 56) hx hb dd_X12_sight_38 (by decide) (fun _ => ?_) (fun c => absurd c (by decide))
              refine lv_aload_n hx hb dd_X12_sight_56 rfl (lv_at hl 0 rfl) ?_
              refine lv_bipush (v := (-2)) hx hb dd_X12_sight_57 (by decide) ?_
              refine hk_i (wr := [(q 27, .inl (cy 0, 20, .inl (fun _ => 0))), (q 28, .inl (cy 0, 20, .inl (fun _ => 0))), (q 29, .inl (cy 0, 20, .inl (fun _ => 0))), (q 30, .inl (cy 0, 20, .inl (fun _ => 0)))]) (c1 := 0) (s1 := 0) [0, 5] [1, 2, 3, 4] (hc_V [.int (-2)] [] [0, 5] Sx hl.1 ws_M_152 md_X12_no (c_M_no_2 l D cy q) ⟨Nat.le_of_ble_eq_true rfl, Nat.le_of_ble_eq_true rfl⟩ hP hD rfl (by decide) hK nx_b (nx_w hX) (va_recv hK hP (ci := 12) (q0 := 0) rfl rfl) rfl rfl (Nat.le_of_ble_eq_true rfl) dd_X12_sight_59 ⟨Nat.le_of_ble_eq_true rfl, Nat.le_of_ble_eq_true rfl⟩) hS hA hP hD rfl rfl (by decide) (by decide) rfl rfl (fun r29 u30 H locs hw31 hP hD hS => ?_)
              have hP : va_P D cls [(q 27, .inl (cy 0, 20, .inl (fun _ => 0))), (q 28, .inl (cy 0, 20, .inl (fun _ => 0))), (q 29, .inl (cy 0, 20, .inl (fun _ => 0))), (q 30, .inl (cy 0, 20, .inl (fun _ => 0)))] H := hP
              have hD : va_D A [(q 27, .inl (cy 0, 20, .inl (fun _ => 0))), (q 28, .inl (cy 0, 20, .inl (fun _ => 0))), (q 29, .inl (cy 0, 20, .inl (fun _ => 0))), (q 30, .inl (cy 0, 20, .inl (fun _ => 0)))] := hD
              subst hw31
              exact hc_ret Sx hr hlocks dd_X12_sight_62 hS () (Or.inr ⟨by omega, rfl⟩) p_nil d_nil
        · have fc13 := ci_nle (a := ch.toInt) (b := 255) rfl rfl c13
          refine lv_aload_n hx hb dd_X12_sight_21 rfl (lv_at hl 0 rfl) ?_
          refine lv_bipush (v := (-2)) hx hb dd_X12_sight_22 (by decide) ?_
          refine hk_i (wr := [(q 27, .inl (cy 0, 20, .inl (fun _ => 0))), (q 28, .inl (cy 0, 20, .inl (fun _ => 0))), (q 29, .inl (cy 0, 20, .inl (fun _ => 0))), (q 30, .inl (cy 0, 20, .inl (fun _ => 0)))]) (c1 := 0) (s1 := 0) [0, 5] [1, 2, 3, 4] (hc_V [.int (-2)] [] [0, 5] Sx hl.1 ws_M_152 md_X12_no (c_M_no_2 l D cy q) ⟨Nat.le_of_ble_eq_true rfl, Nat.le_of_ble_eq_true rfl⟩ hP hD rfl (by decide) hK nx_b (nx_w hX) (va_recv hK hP (ci := 12) (q0 := 0) rfl rfl) rfl rfl (Nat.le_of_ble_eq_true rfl) dd_X12_sight_24 ⟨Nat.le_of_ble_eq_true rfl, Nat.le_of_ble_eq_true rfl⟩) hS hA hP hD rfl rfl (by decide) (by decide) rfl rfl (fun r32 u33 H locs hw34 hP hD hS => ?_)
          have hP : va_P D cls [(q 27, .inl (cy 0, 20, .inl (fun _ => 0))), (q 28, .inl (cy 0, 20, .inl (fun _ => 0))), (q 29, .inl (cy 0, 20, .inl (fun _ => 0))), (q 30, .inl (cy 0, 20, .inl (fun _ => 0)))] H := hP
          have hD : va_D A [(q 27, .inl (cy 0, 20, .inl (fun _ => 0))), (q 28, .inl (cy 0, 20, .inl (fun _ => 0))), (q 29, .inl (cy 0, 20, .inl (fun _ => 0))), (q 30, .inl (cy 0, 20, .inl (fun _ => 0)))] := hD
          subst hw34
          exact hc_ret Sx hr hlocks dd_X12_sight_27 hS () (Or.inr ⟨by omega, rfl⟩) p_nil d_nil
set_option maxHeartbeats 4000000 in
set_option maxRecDepth 100000 in
theorem c_M_pub_vases (l : Launch) (D : va_G) (cy : Nat → ClassId) (q : Nat → Nat) : PC l my_X12_vases mb_X12_vases 3 ((some .int)) (rmD 1 0 0) D (TY cy) [.ref (q 60)] NS [(q 60, .inr (12, fM q))] (vp_Si (fun r => r = 0)) := by
  refine pc_intro (by decide) (Nat.le_of_ble_eq_true rfl) (fun p e s m below meth c ls Sx hr hlocks hl hP hK hX => ?_)
  have hx := Sx.1
  have hb := Sx.2.1
  have hl : lv_has ls 3 [(0, .ref (q 60))] := hl
  refine lv_iconst (v := 0) hx hb dd_X12_vases_0 (by decide) ?_
  refine lv_istore_n (lv' := [(1, .int 0), (0, .ref (q 60))]) hx hb dd_X12_vases_1 rfl hl (by decide) rfl (fun ls hl => ?_)
  refine lv_iload_n hx hb dd_X12_vases_2 rfl (lv_at hl 0 rfl) ?_
  refine lv_aload_n hx hb dd_X12_vases_3 rfl (lv_at hl 1 rfl) ?_
  refine wk_get (v := .int 0) Sx ef_12 hK hP 0 rfl rfl 26 (by decide) kk_1127 rfl dd_X12_vases_4 ?_
  refine lv_icmp_ge (tgt := 30) hx hb dd_X12_vases_7 (by decide) (fun _ => ?_) (fun c => absurd c (by decide))
  refine lv_aload_n hx hb dd_X12_vases_30 rfl (lv_at hl 1 rfl) ?_
  refine wk_get (v := .int 0) Sx ef_12 hK hP 0 rfl rfl 26 (by decide) kk_1127 rfl dd_X12_vases_31 ?_
  refine lv_istore_n (lv' := [(1, .int 0), (0, .ref (q 60))]) hx hb dd_X12_vases_34 rfl hl (by decide) rfl (fun ls hl => ?_)
  refine lv_iconst (v := 0) hx hb dd_X12_vases_35 (by decide) ?_
  refine lv_istore_n (lv' := [(2, .int 0), (1, .int 0), (0, .ref (q 60))]) hx hb dd_X12_vases_36 rfl hl (by decide) rfl (fun ls hl => ?_)
  refine lv_iload_n hx hb dd_X12_vases_37 rfl (lv_at hl 0 rfl) ?_
  refine lv_aload_n hx hb dd_X12_vases_38 rfl (lv_at hl 2 rfl) ?_
  refine wk_get (v := .int 0) Sx ef_12 hK hP 0 rfl rfl 26 (by decide) kk_1127 rfl dd_X12_vases_39 ?_
  refine lv_icmp_ge (tgt := 62) hx hb dd_X12_vases_42 (by decide) (fun _ => ?_) (fun c => absurd c (by decide))
  refine lv_iload_n hx hb dd_X12_vases_62 rfl (lv_at hl 1 rfl) ?_
  exact pc_ret Sx hr hlocks rfl dd_X12_vases_63 rfl
set_option maxHeartbeats 4000000 in
set_option maxRecDepth 100000 in
theorem c_M_pub_longest (l : Launch) (D : va_G) (cy : Nat → ClassId) (q : Nat → Nat) : PC l my_X12_longest mb_X12_longest 5 ((some .int)) (rmD 1 0 0) D (TY cy) [.ref (q 60)] NS [(q 60, .inr (12, fM q))] (vp_Si (fun r => r = 0)) := by
  refine pc_intro (by decide) (Nat.le_of_ble_eq_true rfl) (fun p e s m below meth c ls Sx hr hlocks hl hP hK hX => ?_)
  have hx := Sx.1
  have hb := Sx.2.1
  have hl : lv_has ls 5 [(0, .ref (q 60))] := hl
  refine lv_iconst (v := 0) hx hb dd_X12_longest_0 (by decide) ?_
  refine lv_istore_n (lv' := [(1, .int 0), (0, .ref (q 60))]) hx hb dd_X12_longest_1 rfl hl (by decide) rfl (fun ls hl => ?_)
  refine lv_iconst (v := 0) hx hb dd_X12_longest_2 (by decide) ?_
  refine lv_istore_n (lv' := [(2, .int 0), (1, .int 0), (0, .ref (q 60))]) hx hb dd_X12_longest_3 rfl hl (by decide) rfl (fun ls hl => ?_)
  refine lv_iload_n hx hb dd_X12_longest_4 rfl (lv_at hl 0 rfl) ?_
  refine lv_aload_n hx hb dd_X12_longest_5 rfl (lv_at hl 2 rfl) ?_
  refine wk_get (v := .int 0) Sx ef_12 hK hP 0 rfl rfl 26 (by decide) kk_1127 rfl dd_X12_longest_6 ?_
  refine lv_icmp_ge (tgt := 25) hx hb dd_X12_longest_9 (by decide) (fun _ => ?_) (fun c => absurd c (by decide))
  refine lv_iconst (v := 0) hx hb dd_X12_longest_25 (by decide) ?_
  refine lv_istore_n (lv' := [(2, .int 0), (1, .int 0), (0, .ref (q 60))]) hx hb dd_X12_longest_26 rfl hl (by decide) rfl (fun ls hl => ?_)
  have hlz2 : Int32.toInt 0 = 0 := rfl
  have hI5 : 0 ≤ (0 : Int32).toInt ∧ (0 : Int32).toInt ≤ 100 := ⟨by omega, by omega⟩
  refine pl1 27 5 (fun (u : Int32) => [(2, .int u), (1, .int 0), (0, .ref (q 60))]) (fun (u : Int32) => 0 ≤ u.toInt ∧ u.toInt ≤ 100) (fun (u : Int32) => (100 - u.toInt).toNat) (fun u ls hI4 hl ih3 => ?_) 0 hI5 (lv_sub hl [0, 1, 2] rfl)
  obtain ⟨i1, ei1⟩ : ∃ y, y = u := ⟨_, rfl⟩
  subst ei1
  have hl : lv_has ls 5 [(2, .int i1), (1, .int 0), (0, .ref (q 60))] := hl
  have hI4 : 0 ≤ i1.toInt ∧ i1.toInt ≤ 100 := hI4
  obtain ⟨iv6, iv7⟩ := hI4
  refine lv_iload_n hx hb dd_X12_longest_27 rfl (lv_at hl 0 rfl) ?_
  refine lv_bipush (v := 100) hx hb dd_X12_longest_28 (by decide) ?_
  refine lv_icmp_ge (tgt := 146) hx hb dd_X12_longest_30 (by decide) (fun c8 => ?_) (fun c8 => ?_)
  · have fc8 := ci_le (a := 100) (b := i1.toInt) rfl rfl c8
    refine lv_iload_n hx hb dd_X12_longest_146 rfl (lv_at hl 1 rfl) ?_
    exact pc_ret Sx hr hlocks rfl dd_X12_longest_147 rfl
  · have fc8 := ci_nle (a := 100) (b := i1.toInt) rfl rfl c8
    refine lv_iconst (v := 0) hx hb dd_X12_longest_33 (by decide) ?_
    refine lv_istore_n (lv' := [(3, .int 0), (2, .int i1), (1, .int 0), (0, .ref (q 60))]) hx hb dd_X12_longest_34 rfl hl (by decide) rfl (fun ls hl => ?_)
    refine lv_iload_n hx hb dd_X12_longest_35 rfl (lv_at hl 0 rfl) ?_
    refine lv_aload_n hx hb dd_X12_longest_36 rfl (lv_at hl 3 rfl) ?_
    refine wk_get (v := .int 0) Sx ef_12 hK hP 0 rfl rfl 26 (by decide) kk_1127 rfl dd_X12_longest_37 ?_
    refine lv_icmp_ge (tgt := 140) hx hb dd_X12_longest_40 (by decide) (fun _ => ?_) (fun c => absurd c (by decide))
    obtain ⟨z9, ez9⟩ : ∃ y : Int32, y = i1 + Int32.ofInt 1 := ⟨_, rfl⟩
    have fz9 : z9.toInt = i1.toInt + 1 := by rw [ez9]; exact ti_add rfl (show (Int32.ofInt 1).toInt = 1 by decide) (by omega) (by omega)
    refine lv_iinc (v := z9) (lv' := [(2, .int z9), (3, .int 0), (1, .int 0), (0, .ref (q 60))]) hx hb dd_X12_longest_140 hl (k := 1) rfl ez9.symm (by decide) rfl (fun ls hl => ?_)
    refine lv_goto (tgt := 27) hx hb dd_X12_longest_143 (by decide) ?_
    have hI10 : 0 ≤ z9.toInt ∧ z9.toInt ≤ 100 := ⟨by omega, by omega⟩
    have hm11 : (100 - z9.toInt).toNat < (100 - i1.toInt).toNat := by omega
    exact ih3 z9 ls hI10 hm11 (lv_sub hl [0, 2, 3] rfl)
set_option maxHeartbeats 4000000 in
set_option maxRecDepth 100000 in
theorem c_M_pub_looks (l : Launch) (D : va_G) (cy : Nat → ClassId) (q : Nat → Nat) (pe : Int32) (ta : Int32) : HC l my_X12_looks mb_X12_looks 4 ((some .int)) (rmD 2 0 0) D (TY cy) [.ref (q 60), .int pe, .int ta] NX [(q 60, .inr (12, fM q)), (q 34, .inl (cy 0, 16, .inl (fun _ => 0))), (q 36, .inl (cy 0, 7, .inl (fun _ => 0)))] (QI (S := Unit) D (fun r _ => if2 (0 ≤ pe.toInt ∧ pe.toInt ≤ 15 ∧ 0 ≤ ta.toInt ∧ ta.toInt ≤ 31) 0 (-2) r) (fun _ => [])) := by
  refine hc_intro (by decide) (Nat.le_of_ble_eq_true rfl) (fun p e s m below meth c A ls Sx hr hlocks hin hl hP hD hK hS hA hX => ?_)
  have hx := Sx.1
  have hb := Sx.2.1
  have hl : lv_has ls 4 [(0, .ref (q 60)), (1, .int pe), (2, .int ta)] := hl
  have hP : va_P D cls [(q 60, .inr (12, fM q)), (q 34, .inl (cy 0, 16, .inl (fun _ => 0))), (q 36, .inl (cy 0, 7, .inl (fun _ => 0)))] s.heap := hP
  have hD : va_D A [(q 60, .inr (12, fM q)), (q 34, .inl (cy 0, 16, .inl (fun _ => 0))), (q 36, .inl (cy 0, 7, .inl (fun _ => 0)))] := hD
  refine lv_aload_n hx hb dd_X12_looks_0 rfl (lv_at hl 0 rfl) ?_
  refine lv_iload_n hx hb dd_X12_looks_1 rfl (lv_at hl 1 rfl) ?_
  refine pk_i (pc_V [.int pe] [] Sx hl.1 ws_M_276 md_X12_isPerson (c_M_isPerson l D cy q pe) ⟨rfl, rfl⟩ ⟨Nat.le_of_ble_eq_true rfl, Nat.le_of_ble_eq_true rfl⟩ p_nil hK ns_b (ns_w hX) (va_recv hK hP (ci := 12) (q0 := 0) rfl rfl) rfl rfl (Nat.le_of_ble_eq_true rfl) dd_X12_looks_2 ⟨Nat.le_of_ble_eq_true rfl, Nat.le_of_ble_eq_true rfl⟩) (fun r1 hw2 => ?_)
  rcases hw2 with ⟨hw2, ehw2⟩ | ⟨hw2, ehw2⟩
  · subst ehw2
    refine lv_if_eq (tgt := 18) hx hb dd_X12_looks_5 (by decide) (fun c => absurd c (by decide)) (fun _ => ?_)
    refine lv_iload_n hx hb dd_X12_looks_8 rfl (lv_at hl 2 rfl) ?_
    refine lv_if_lt (tgt := 18) hx hb dd_X12_looks_9 (by decide) (fun c3 => ?_) (fun c3 => ?_)
    · have fc3 := ci_lt (a := ta.toInt) (b := 0) rfl rfl c3
      refine lv_aload_n hx hb dd_X12_looks_18 rfl (lv_at hl 0 rfl) ?_
      refine lv_bipush (v := (-2)) hx hb dd_X12_looks_19 (by decide) ?_
      refine hk_i (wr := [(q 34, .inl (cy 0, 16, .inl (fun _ => 0)))]) (c1 := 0) (s1 := 0) [0, 2] [1] (hc_V [.int (-2)] [] [0, 2] Sx hl.1 ws_M_152 md_X12_no (c_M_no_2 l D cy q) ⟨Nat.le_of_ble_eq_true rfl, Nat.le_of_ble_eq_true rfl⟩ hP hD rfl (by decide) hK nx_b (nx_w hX) (va_recv hK hP (ci := 12) (q0 := 0) rfl rfl) rfl rfl (Nat.le_of_ble_eq_true rfl) dd_X12_looks_21 ⟨Nat.le_of_ble_eq_true rfl, Nat.le_of_ble_eq_true rfl⟩) hS hA hP hD rfl rfl (by decide) (by decide) rfl rfl (fun r4 u5 H locs hw6 hP hD hS => ?_)
      have hP : va_P D cls [(q 34, .inl (cy 0, 16, .inl (fun _ => 0)))] H := hP
      have hD : va_D A [(q 34, .inl (cy 0, 16, .inl (fun _ => 0)))] := hD
      subst hw6
      exact hc_ret Sx hr hlocks dd_X12_looks_24 hS () (Or.inr ⟨by omega, rfl⟩) p_nil d_nil
    · have fc3 := ci_nlt (a := ta.toInt) (b := 0) rfl rfl c3
      refine lv_iload_n hx hb dd_X12_looks_12 rfl (lv_at hl 2 rfl) ?_
      refine lv_bipush (v := 31) hx hb dd_X12_looks_13 (by decide) ?_
      refine lv_icmp_le (tgt := 25) hx hb dd_X12_looks_15 (by decide) (fun c7 => ?_) (fun c7 => ?_)
      · have fc7 := ci_le (a := ta.toInt) (b := 31) rfl rfl c7
        refine lv_aload_n hx hb dd_X12_looks_25 rfl (lv_at hl 0 rfl) ?_
        refine wk_get (v := .ref (q 34)) Sx ef_12 hK hP 0 rfl rfl 34 (by decide) kk_1135 rfl dd_X12_looks_26 ?_
        refine lv_iload_n hx hb dd_X12_looks_29 rfl (lv_at hl 1 rfl) ?_
        have hi8 : vp_in pe 16 := (vi_of (by omega))
        refine va_iald hx hb hK hP 1 0 rfl rfl hi8 dd_X12_looks_30 ?_
        refine wk_int (v := 0) rfl ?_
        refine lv_istore_n (lv' := [(3, .int 0), (0, .ref (q 60)), (1, .int pe), (2, .int ta)]) hx hb dd_X12_looks_31 rfl hl (by decide) rfl (fun ls hl => ?_)
        refine lv_aload_n hx hb dd_X12_looks_32 rfl (lv_at hl 1 rfl) ?_
        refine wk_get (v := .ref (q 34)) Sx ef_12 hK hP 0 rfl rfl 34 (by decide) kk_1135 rfl dd_X12_looks_33 ?_
        refine lv_iload_n hx hb dd_X12_looks_36 rfl (lv_at hl 2 rfl) ?_
        refine lv_iload_n hx hb dd_X12_looks_37 rfl (lv_at hl 3 rfl) ?_
        refine wk_iast (ws' := [(q 60, .inr (12, fM q)), (q 34, .inl (cy 0, 16, .inl (upd (fun _ => 0) pe.toNatClampNeg ta))), (q 36, .inl (cy 0, 7, .inl (fun _ => 0)))]) Sx hK hP hD hS 1 0 rfl rfl (vi_of (by omega)) dd_X12_looks_38 rfl (fun H locs hP hD hS => ?_)
        refine lv_iload_n hx hb dd_X12_looks_39 rfl (lv_at hl 0 rfl) ?_
        exact hc_ret Sx hr hlocks dd_X12_looks_40 hS () (Or.inl ⟨by omega, rfl⟩) p_nil d_nil
      · have fc7 := ci_nle (a := ta.toInt) (b := 31) rfl rfl c7
        refine lv_aload_n hx hb dd_X12_looks_18 rfl (lv_at hl 0 rfl) ?_
        refine lv_bipush (v := (-2)) hx hb dd_X12_looks_19 (by decide) ?_
        refine hk_i (wr := [(q 34, .inl (cy 0, 16, .inl (fun _ => 0)))]) (c1 := 0) (s1 := 0) [0, 2] [1] (hc_V [.int (-2)] [] [0, 2] Sx hl.1 ws_M_152 md_X12_no (c_M_no_2 l D cy q) ⟨Nat.le_of_ble_eq_true rfl, Nat.le_of_ble_eq_true rfl⟩ hP hD rfl (by decide) hK nx_b (nx_w hX) (va_recv hK hP (ci := 12) (q0 := 0) rfl rfl) rfl rfl (Nat.le_of_ble_eq_true rfl) dd_X12_looks_21 ⟨Nat.le_of_ble_eq_true rfl, Nat.le_of_ble_eq_true rfl⟩) hS hA hP hD rfl rfl (by decide) (by decide) rfl rfl (fun r9 u10 H locs hw11 hP hD hS => ?_)
        have hP : va_P D cls [(q 34, .inl (cy 0, 16, .inl (fun _ => 0)))] H := hP
        have hD : va_D A [(q 34, .inl (cy 0, 16, .inl (fun _ => 0)))] := hD
        subst hw11
        exact hc_ret Sx hr hlocks dd_X12_looks_24 hS () (Or.inr ⟨by omega, rfl⟩) p_nil d_nil
  · subst ehw2
    refine lv_if_eq (tgt := 18) hx hb dd_X12_looks_5 (by decide) (fun _ => ?_) (fun c => absurd c (by decide))
    refine lv_aload_n hx hb dd_X12_looks_18 rfl (lv_at hl 0 rfl) ?_
    refine lv_bipush (v := (-2)) hx hb dd_X12_looks_19 (by decide) ?_
    refine hk_i (wr := [(q 34, .inl (cy 0, 16, .inl (fun _ => 0)))]) (c1 := 0) (s1 := 0) [0, 2] [1] (hc_V [.int (-2)] [] [0, 2] Sx hl.1 ws_M_152 md_X12_no (c_M_no_2 l D cy q) ⟨Nat.le_of_ble_eq_true rfl, Nat.le_of_ble_eq_true rfl⟩ hP hD rfl (by decide) hK nx_b (nx_w hX) (va_recv hK hP (ci := 12) (q0 := 0) rfl rfl) rfl rfl (Nat.le_of_ble_eq_true rfl) dd_X12_looks_21 ⟨Nat.le_of_ble_eq_true rfl, Nat.le_of_ble_eq_true rfl⟩) hS hA hP hD rfl rfl (by decide) (by decide) rfl rfl (fun r12 u13 H locs hw14 hP hD hS => ?_)
    have hP : va_P D cls [(q 34, .inl (cy 0, 16, .inl (fun _ => 0)))] H := hP
    have hD : va_D A [(q 34, .inl (cy 0, 16, .inl (fun _ => 0)))] := hD
    subst hw14
    exact hc_ret Sx hr hlocks dd_X12_looks_24 hS () (Or.inr ⟨by omega, rfl⟩) p_nil d_nil
set_option maxHeartbeats 4000000 in
set_option maxRecDepth 100000 in
theorem c_M_pub_back (l : Launch) (D : va_G) (cy : Nat → ClassId) (q : Nat → Nat) : HC l my_X12_back mb_X12_back 2 ((some .int)) (rmD 2 0 0) D (TY cy) [.ref (q 60)] NX [(q 60, .inr (12, fM q)), (q 36, .inl (cy 0, 7, .inl (fun _ => 0)))] (QI (S := Unit) D (fun r _ => r = (-5)) (fun _ => [])) := by
  refine hc_intro (by decide) (Nat.le_of_ble_eq_true rfl) (fun p e s m below meth c A ls Sx hr hlocks hin hl hP hD hK hS hA hX => ?_)
  have hx := Sx.1
  have hb := Sx.2.1
  have hl : lv_has ls 2 [(0, .ref (q 60))] := hl
  have hP : va_P D cls [(q 60, .inr (12, fM q)), (q 36, .inl (cy 0, 7, .inl (fun _ => 0)))] s.heap := hP
  have hD : va_D A [(q 60, .inr (12, fM q)), (q 36, .inl (cy 0, 7, .inl (fun _ => 0)))] := hD
  refine lv_aload_n hx hb dd_X12_back_0 rfl (lv_at hl 0 rfl) ?_
  refine wk_get (v := .int 0) Sx ef_12 hK hP 0 rfl rfl 37 (by decide) kk_1138 rfl dd_X12_back_1 ?_
  refine lv_if_ne (tgt := 14) hx hb dd_X12_back_4 (by decide) (fun c => absurd c (by decide)) (fun _ => ?_)
  refine lv_aload_n hx hb dd_X12_back_7 rfl (lv_at hl 0 rfl) ?_
  refine lv_bipush (v := (-5)) hx hb dd_X12_back_8 (by decide) ?_
  refine hk_i (wr := []) (c1 := 0) (s1 := 0) [0, 1] [] (hc_V [.int (-5)] [] [0, 1] Sx hl.1 ws_M_152 md_X12_no (c_M_no_5 l D cy q) ⟨Nat.le_of_ble_eq_true rfl, Nat.le_of_ble_eq_true rfl⟩ hP hD rfl (by decide) hK nx_b (nx_w hX) (va_recv hK hP (ci := 12) (q0 := 0) rfl rfl) rfl rfl (Nat.le_of_ble_eq_true rfl) dd_X12_back_10 ⟨Nat.le_of_ble_eq_true rfl, Nat.le_of_ble_eq_true rfl⟩) hS hA hP hD rfl rfl (by decide) (by decide) rfl rfl (fun r1 u2 H locs hw3 hP hD hS => ?_)
  have hP : va_P D cls [] H := hP
  have hD : va_D A [] := hD
  subst hw3
  exact hc_ret Sx hr hlocks dd_X12_back_13 hS () rfl p_nil d_nil
set_option maxHeartbeats 4000000 in
set_option maxRecDepth 100000 in
theorem c_M_pub_shown (l : Launch) (D : va_G) (cy : Nat → ClassId) (q : Nat → Nat) (mi : Int32) : HC l my_X12_shown mb_X12_shown 8 ((some .int)) (rmD 2 0 0) D (TY cy) [.ref (q 60), .int mi] NX [(q 60, .inr (12, fM q)), (q 42, .inl (cy 0, 6231, .inl (fun _ => 0))), (q 36, .inl (cy 0, 7, .inl (fun _ => 0)))] (QI (S := Unit) D (fun r _ => if2 (0 ≤ mi.toInt ∧ mi.toInt ≤ 200) 0 (-2) r) (fun _ => [])) := by
  refine hc_intro (by decide) (Nat.le_of_ble_eq_true rfl) (fun p e s m below meth c A ls Sx hr hlocks hin hl hP hD hK hS hA hX => ?_)
  have hx := Sx.1
  have hb := Sx.2.1
  have hl : lv_has ls 8 [(0, .ref (q 60)), (1, .int mi)] := hl
  have hP : va_P D cls [(q 60, .inr (12, fM q)), (q 42, .inl (cy 0, 6231, .inl (fun _ => 0))), (q 36, .inl (cy 0, 7, .inl (fun _ => 0)))] s.heap := hP
  have hD : va_D A [(q 60, .inr (12, fM q)), (q 42, .inl (cy 0, 6231, .inl (fun _ => 0))), (q 36, .inl (cy 0, 7, .inl (fun _ => 0)))] := hD
  refine lv_iload_n hx hb dd_X12_shown_0 rfl (lv_at hl 1 rfl) ?_
  refine lv_if_lt (tgt := 11) hx hb dd_X12_shown_1 (by decide) (fun c1 => ?_) (fun c1 => ?_)
  · have fc1 := ci_lt (a := mi.toInt) (b := 0) rfl rfl c1
    refine lv_aload_n hx hb dd_X12_shown_11 rfl (lv_at hl 0 rfl) ?_
    refine lv_bipush (v := (-2)) hx hb dd_X12_shown_12 (by decide) ?_
    refine hk_i (wr := [(q 42, .inl (cy 0, 6231, .inl (fun _ => 0)))]) (c1 := 0) (s1 := 0) [0, 2] [1] (hc_V [.int (-2)] [] [0, 2] Sx hl.1 ws_M_152 md_X12_no (c_M_no_2 l D cy q) ⟨Nat.le_of_ble_eq_true rfl, Nat.le_of_ble_eq_true rfl⟩ hP hD rfl (by decide) hK nx_b (nx_w hX) (va_recv hK hP (ci := 12) (q0 := 0) rfl rfl) rfl rfl (Nat.le_of_ble_eq_true rfl) dd_X12_shown_14 ⟨Nat.le_of_ble_eq_true rfl, Nat.le_of_ble_eq_true rfl⟩) hS hA hP hD rfl rfl (by decide) (by decide) rfl rfl (fun r2 u3 H locs hw4 hP hD hS => ?_)
    have hP : va_P D cls [(q 42, .inl (cy 0, 6231, .inl (fun _ => 0)))] H := hP
    have hD : va_D A [(q 42, .inl (cy 0, 6231, .inl (fun _ => 0)))] := hD
    subst hw4
    exact hc_ret Sx hr hlocks dd_X12_shown_17 hS () (Or.inr ⟨by omega, rfl⟩) p_nil d_nil
  · have fc1 := ci_nlt (a := mi.toInt) (b := 0) rfl rfl c1
    refine lv_iload_n hx hb dd_X12_shown_4 rfl (lv_at hl 1 rfl) ?_
    refine lv_sipush (v := 200) hx hb dd_X12_shown_5 (by decide) ?_
    refine lv_icmp_le (tgt := 18) hx hb dd_X12_shown_8 (by decide) (fun c5 => ?_) (fun c5 => ?_)
    · have fc5 := ci_le (a := mi.toInt) (b := 200) rfl rfl c5
      refine lv_iconst (v := 0) hx hb dd_X12_shown_18 (by decide) ?_
      refine lv_istore_n (lv' := [(2, .int 0), (0, .ref (q 60)), (1, .int mi)]) hx hb dd_X12_shown_19 rfl hl (by decide) rfl (fun ls hl => ?_)
      have hlz7 : Int32.toInt 0 = 0 := rfl
      have hI10 : 0 ≤ (0 : Int32).toInt ∧ (0 : Int32).toInt ≤ mi.toInt + 1 := ⟨by omega, by omega⟩
      refine gl1 20 8 (fun (u : Int32) => [(q 60, .inr (12, fM q)), (q 42, .inl (cy 0, 6231, .inl (fun _ => 0))), (q 36, .inl (cy 0, 7, .inl (fun _ => 0)))]) (fun (u : Int32) => [(2, .int u), (0, .ref (q 60)), (1, .int mi)]) (fun (u : Int32) => 0 ≤ u.toInt ∧ u.toInt ≤ mi.toInt + 1) (fun (u : Int32) => (mi.toInt + 1 - u.toInt).toNat) (fun u H locs ls hI9 hl hP hD hS ih8 => ?_) 0 hI10 (lv_sub hl [0, 1, 2] rfl) hP hD hS
      obtain ⟨i6, ei6⟩ : ∃ y, y = u := ⟨_, rfl⟩
      subst ei6
      have hl : lv_has ls 8 [(2, .int i6), (0, .ref (q 60)), (1, .int mi)] := hl
      have hP : va_P D cls [(q 60, .inr (12, fM q)), (q 42, .inl (cy 0, 6231, .inl (fun _ => 0))), (q 36, .inl (cy 0, 7, .inl (fun _ => 0)))] H := hP
      have hD : va_D A [(q 60, .inr (12, fM q)), (q 42, .inl (cy 0, 6231, .inl (fun _ => 0))), (q 36, .inl (cy 0, 7, .inl (fun _ => 0)))] := hD
      have hI9 : 0 ≤ i6.toInt ∧ i6.toInt ≤ mi.toInt + 1 := hI9
      obtain ⟨iv11, iv12⟩ := hI9
      refine lv_iload_n hx hb dd_X12_shown_20 rfl (lv_at hl 0 rfl) ?_
      refine lv_iload_n hx hb dd_X12_shown_21 rfl (lv_at hl 2 rfl) ?_
      refine lv_icmp_gt (tgt := 38) hx hb dd_X12_shown_22 (by decide) (fun c13 => ?_) (fun c13 => ?_)
      · have fc13 := ci_lt (a := mi.toInt) (b := i6.toInt) rfl rfl c13
        refine lv_iconst (v := 0) hx hb dd_X12_shown_38 (by decide) ?_
        refine lv_istore_n (lv' := [(2, .int 0), (0, .ref (q 60)), (1, .int mi)]) hx hb dd_X12_shown_39 rfl hl (by decide) rfl (fun ls hl => ?_)
        refine lv_iload_n hx hb dd_X12_shown_40 rfl (lv_at hl 0 rfl) ?_
        refine lv_aload_n hx hb dd_X12_shown_41 rfl (lv_at hl 1 rfl) ?_
        refine wk_get (v := .int 0) Sx ef_12 hK hP 0 rfl rfl 3 (by decide) kk_1104 rfl dd_X12_shown_42 ?_
        refine lv_icmp_ge (tgt := 193) hx hb dd_X12_shown_45 (by decide) (fun _ => ?_) (fun c => absurd c (by decide))
        refine lv_iconst (v := 0) hx hb dd_X12_shown_193 (by decide) ?_
        refine lv_istore_n (lv' := [(2, .int 0), (0, .ref (q 60)), (1, .int mi)]) hx hb dd_X12_shown_194 rfl hl (by decide) rfl (fun ls hl => ?_)
        refine lv_iload_n hx hb dd_X12_shown_195 rfl (lv_at hl 2 rfl) ?_
        refine lv_istore_n (lv' := [(3, .int mi), (2, .int 0), (0, .ref (q 60)), (1, .int mi)]) hx hb dd_X12_shown_196 rfl hl (by decide) rfl (fun ls hl => ?_)
        refine lv_aload_n hx hb dd_X12_shown_197 rfl (lv_at hl 2 rfl) ?_
        refine wk_get (v := .int 0) Sx ef_12 hK hP 0 rfl rfl 3 (by decide) kk_1104 rfl dd_X12_shown_198 ?_
        refine lv_iconst (v := 1) hx hb dd_X12_shown_201 (by decide) ?_
        refine lv_isub hx hb dd_X12_shown_202 ?_
        refine wk_int (v := (-1)) (by decide) ?_
        refine lv_istore (lv' := [(4, .int (-1)), (3, .int mi), (2, .int 0), (0, .ref (q 60)), (1, .int mi)]) hx hb dd_X12_shown_203 hl (by decide) rfl (fun ls hl => ?_)
        refine lv_iload hx hb dd_X12_shown_205 (lv_at hl 0 rfl) ?_
        refine lv_if_lt (tgt := 269) hx hb dd_X12_shown_207 (by decide) (fun _ => ?_) (fun c => absurd c (by decide))
        refine lv_iload_n hx hb dd_X12_shown_269 rfl (lv_at hl 2 rfl) ?_
        exact hc_ret Sx hr hlocks dd_X12_shown_270 hS () (Or.inl ⟨by omega, rfl⟩) p_nil d_nil
      · have fc13 := ci_nlt (a := mi.toInt) (b := i6.toInt) rfl rfl c13
        refine lv_aload_n hx hb dd_X12_shown_25 rfl (lv_at hl 1 rfl) ?_
        refine wk_get (v := .ref (q 42)) Sx ef_12 hK hP 0 rfl rfl 42 (by decide) kk_1143 rfl dd_X12_shown_26 ?_
        refine lv_iload_n hx hb dd_X12_shown_29 rfl (lv_at hl 0 rfl) ?_
        refine lv_iconst (v := 0) hx hb dd_X12_shown_30 (by decide) ?_
        refine wk_iast (ws' := [(q 60, .inr (12, fM q)), (q 42, .inl (cy 0, 6231, .inl (fun _ => 0))), (q 36, .inl (cy 0, 7, .inl (fun _ => 0)))]) Sx hK hP hD hS 1 0 rfl rfl (vi_of (by omega)) dd_X12_shown_31 (by rw [upd_c]; rfl) (fun H locs hP hD hS => ?_)
        obtain ⟨z14, ez14⟩ : ∃ y : Int32, y = i6 + Int32.ofInt 1 := ⟨_, rfl⟩
        have fz14 : z14.toInt = i6.toInt + 1 := by rw [ez14]; exact ti_add rfl (show (Int32.ofInt 1).toInt = 1 by decide) (by omega) (by omega)
        refine lv_iinc (v := z14) (lv' := [(2, .int z14), (0, .ref (q 60)), (1, .int mi)]) hx hb dd_X12_shown_32 hl (k := 0) rfl ez14.symm (by decide) rfl (fun ls hl => ?_)
        refine lv_goto (tgt := 20) hx hb dd_X12_shown_35 (by decide) ?_
        have hI15 : 0 ≤ z14.toInt ∧ z14.toInt ≤ mi.toInt + 1 := ⟨by omega, by omega⟩
        have hm16 : (mi.toInt + 1 - z14.toInt).toNat < (mi.toInt + 1 - i6.toInt).toNat := by omega
        exact ih8 z14 H locs ls hI15 hm16 (lv_sub hl [0, 1, 2] rfl) hP hD hS
    · have fc5 := ci_nle (a := mi.toInt) (b := 200) rfl rfl c5
      refine lv_aload_n hx hb dd_X12_shown_11 rfl (lv_at hl 0 rfl) ?_
      refine lv_bipush (v := (-2)) hx hb dd_X12_shown_12 (by decide) ?_
      refine hk_i (wr := [(q 42, .inl (cy 0, 6231, .inl (fun _ => 0)))]) (c1 := 0) (s1 := 0) [0, 2] [1] (hc_V [.int (-2)] [] [0, 2] Sx hl.1 ws_M_152 md_X12_no (c_M_no_2 l D cy q) ⟨Nat.le_of_ble_eq_true rfl, Nat.le_of_ble_eq_true rfl⟩ hP hD rfl (by decide) hK nx_b (nx_w hX) (va_recv hK hP (ci := 12) (q0 := 0) rfl rfl) rfl rfl (Nat.le_of_ble_eq_true rfl) dd_X12_shown_14 ⟨Nat.le_of_ble_eq_true rfl, Nat.le_of_ble_eq_true rfl⟩) hS hA hP hD rfl rfl (by decide) (by decide) rfl rfl (fun r17 u18 H locs hw19 hP hD hS => ?_)
      have hP : va_P D cls [(q 42, .inl (cy 0, 6231, .inl (fun _ => 0)))] H := hP
      have hD : va_D A [(q 42, .inl (cy 0, 6231, .inl (fun _ => 0)))] := hD
      subst hw19
      exact hc_ret Sx hr hlocks dd_X12_shown_17 hS () (Or.inr ⟨by omega, rfl⟩) p_nil d_nil
set_option maxHeartbeats 4000000 in
set_option maxRecDepth 100000 in
theorem c_M_pub_shortBy (l : Launch) (D : va_G) (cy : Nat → ClassId) (q : Nat → Nat) (su : Int32) : HC l my_X12_shortBy mb_X12_shortBy 8 ((some .int)) (rmD 2 1 310000) D (TY cy) [.ref (q 60), .int su] NX [(q 60, .inr (12, fM q)), (q 36, .inl (cy 0, 7, .inl (fun _ => 0)))] (QI (S := Unit) D (fun r _ => if2 (1 ≤ su.toInt ∧ su.toInt ≤ 9999) (-1) (-2) r) (fun _ => [])) := by
  refine hc_intro (by decide) (Nat.le_of_ble_eq_true rfl) (fun p e s m below meth c A ls Sx hr hlocks hin hl hP hD hK hS hA hX => ?_)
  have hx := Sx.1
  have hb := Sx.2.1
  have hl : lv_has ls 8 [(0, .ref (q 60)), (1, .int su)] := hl
  have hP : va_P D cls [(q 60, .inr (12, fM q)), (q 36, .inl (cy 0, 7, .inl (fun _ => 0)))] s.heap := hP
  have hD : va_D A [(q 60, .inr (12, fM q)), (q 36, .inl (cy 0, 7, .inl (fun _ => 0)))] := hD
  refine lv_iload_n hx hb dd_X12_shortBy_0 rfl (lv_at hl 1 rfl) ?_
  refine lv_iconst (v := 1) hx hb dd_X12_shortBy_1 (by decide) ?_
  refine lv_icmp_lt (tgt := 12) hx hb dd_X12_shortBy_2 (by decide) (fun c1 => ?_) (fun c1 => ?_)
  · have fc1 := ci_lt (a := su.toInt) (b := 1) rfl rfl c1
    refine lv_aload_n hx hb dd_X12_shortBy_12 rfl (lv_at hl 0 rfl) ?_
    refine lv_bipush (v := (-2)) hx hb dd_X12_shortBy_13 (by decide) ?_
    refine hk_i (wr := []) (c1 := 0) (s1 := 0) [0, 1] [] (hc_V [.int (-2)] [] [0, 1] Sx hl.1 ws_M_152 md_X12_no (c_M_no_2 l D cy q) ⟨Nat.le_of_ble_eq_true rfl, Nat.le_of_ble_eq_true rfl⟩ hP hD rfl (by decide) hK nx_b (nx_w hX) (va_recv hK hP (ci := 12) (q0 := 0) rfl rfl) rfl rfl (Nat.le_of_ble_eq_true rfl) dd_X12_shortBy_15 ⟨Nat.le_of_ble_eq_true rfl, Nat.le_of_ble_eq_true rfl⟩) hS hA hP hD rfl rfl (by decide) (by decide) rfl rfl (fun r2 u3 H locs hw4 hP hD hS => ?_)
    have hP : va_P D cls [] H := hP
    have hD : va_D A [] := hD
    subst hw4
    refine W.widen (k := 1) (n := 310000) (Nat.le_of_ble_eq_true rfl) (Nat.le_of_ble_eq_true rfl) ?_
    exact hc_ret Sx hr hlocks dd_X12_shortBy_18 hS () (Or.inr ⟨by omega, rfl⟩) p_nil d_nil
  · have fc1 := ci_nlt (a := su.toInt) (b := 1) rfl rfl c1
    refine lv_iload_n hx hb dd_X12_shortBy_5 rfl (lv_at hl 1 rfl) ?_
    refine lv_sipush (v := 9999) hx hb dd_X12_shortBy_6 (by decide) ?_
    refine lv_icmp_le (tgt := 19) hx hb dd_X12_shortBy_9 (by decide) (fun c5 => ?_) (fun c5 => ?_)
    · have fc5 := ci_le (a := su.toInt) (b := 9999) rfl rfl c5
      refine lv_aload_n hx hb dd_X12_shortBy_19 rfl (lv_at hl 0 rfl) ?_
      refine wk_get (v := .null) Sx ef_12 hK hP 0 rfl rfl 50 (by decide) kk_1151 rfl dd_X12_shortBy_20 ?_
      refine lv_ifnonnullN hx hb dd_X12_shortBy_23 ?_
      refine lv_aload_n hx hb dd_X12_shortBy_26 rfl (lv_at hl 0 rfl) ?_
      refine lv_ldcw (v := 310000) hx hb (own := "WhiteElephantsModel") (index := 298) Sx.2.2.2.1 (Sx.2.2.2.2 _ kk_1577) dd_X12_shortBy_27 ?_
      refine wk_newa (at_ := .byte) (a0 := (310000, .inl (fun _ => 0))) (ft := .byte) (cI := cy 1) (c1 := 1) (s1 := 310000) Sx kk_53 rfl hK 1 rfl (fun _ h => h) hP hD hS hA 310000 (fun _ => rfl) (by decide) (by decide) (Nat.le_of_ble_eq_true rfl) (Nat.le_of_ble_eq_true rfl) (Nat.le_of_ble_eq_true rfl) rfl rfl dd_X12_shortBy_30 (fun n6 H hP hD hS => ?_)
      have hP : va_P D cls [(q 60, .inr (12, fM q)), (q 36, .inl (cy 0, 7, .inl (fun _ => 0))), (n6, .inl (cy 1, 310000, .inl (fun _ => 0)))] H := hP
      have hD : va_D A [(q 60, .inr (12, fM q)), (q 36, .inl (cy 0, 7, .inl (fun _ => 0))), (n6, .inl (cy 1, 310000, .inl (fun _ => 0)))] := hD
      refine wk_put (ws' := [(q 60, .inr (12, (fM q).set 50 (.ref n6))), (q 36, .inl (cy 0, 7, .inl (fun _ => 0))), (n6, .inl (cy 1, 310000, .inl (fun _ => 0)))]) Sx ef_12 hK hP hD hS 0 rfl rfl 50 (by decide) kk_1151 rfl rfl rfl (Nat.le_of_ble_eq_true rfl) dd_X12_shortBy_32 rfl (fun H locs hP hD hS => ?_)
      refine lv_iconst (v := 0) hx hb dd_X12_shortBy_35 (by decide) ?_
      refine lv_istore_n (lv' := [(2, .int 0), (0, .ref (q 60)), (1, .int su)]) hx hb dd_X12_shortBy_36 rfl hl (by decide) rfl (fun ls hl => ?_)
      have hlz9 : Int32.toInt 0 = 0 := rfl
      have hI12 : 0 ≤ (0 : Int32).toInt ∧ (0 : Int32).toInt ≤ su.toInt + 1 ∧ (∀ j : Nat, 1 ≤ (j : Int) → (j : Int) < (0 : Int32).toInt → ((fun _ => 0) : Nat → Int32) j = 99) := ⟨by omega, by omega, fun j h1 h2 => absurd h2 (by omega)⟩
      refine gl1 37 8 (fun (u : Int32 × (Nat → Int32)) => [(q 60, .inr (12, (fM q).set 50 (.ref n6))), (q 36, .inl (cy 0, 7, .inl (fun _ => 0))), (n6, .inl (cy 1, 310000, .inl (u.2)))]) (fun (u : Int32 × (Nat → Int32)) => [(2, .int u.1), (0, .ref (q 60)), (1, .int su)]) (fun (u : Int32 × (Nat → Int32)) => 0 ≤ u.1.toInt ∧ u.1.toInt ≤ su.toInt + 1 ∧ (∀ j : Nat, 1 ≤ (j : Int) → (j : Int) < u.1.toInt → u.2 j = 99)) (fun (u : Int32 × (Nat → Int32)) => (su.toInt + 1 - u.1.toInt).toNat) (fun u H locs ls hI11 hl hP hD hS ih10 => ?_) (0, fun _ => 0) hI12 (lv_sub hl [0, 1, 2] rfl) hP hD hS
      obtain ⟨i8, f7⟩ := u
      have hl : lv_has ls 8 [(2, .int i8), (0, .ref (q 60)), (1, .int su)] := hl
      have hP : va_P D cls [(q 60, .inr (12, (fM q).set 50 (.ref n6))), (q 36, .inl (cy 0, 7, .inl (fun _ => 0))), (n6, .inl (cy 1, 310000, .inl (f7)))] H := hP
      have hD : va_D A [(q 60, .inr (12, (fM q).set 50 (.ref n6))), (q 36, .inl (cy 0, 7, .inl (fun _ => 0))), (n6, .inl (cy 1, 310000, .inl (f7)))] := hD
      have hI11 : 0 ≤ i8.toInt ∧ i8.toInt ≤ su.toInt + 1 ∧ (∀ j : Nat, 1 ≤ (j : Int) → (j : Int) < i8.toInt → f7 j = 99) := hI11
      obtain ⟨iv13, iv14, iv15⟩ := hI11
      refine lv_iload_n hx hb dd_X12_shortBy_37 rfl (lv_at hl 0 rfl) ?_
      refine lv_iload_n hx hb dd_X12_shortBy_38 rfl (lv_at hl 2 rfl) ?_
      refine lv_icmp_gt (tgt := 65) hx hb dd_X12_shortBy_39 (by decide) (fun c16 => ?_) (fun c16 => ?_)
      · have fc16 := ci_lt (a := su.toInt) (b := i8.toInt) rfl rfl c16
        refine lv_iconst (v := 0) hx hb dd_X12_shortBy_65 (by decide) ?_
        refine lv_istore_n (lv' := [(2, .int 0), (0, .ref (q 60)), (1, .int su)]) hx hb dd_X12_shortBy_66 rfl hl (by decide) rfl (fun ls hl => ?_)
        refine lv_iload_n hx hb dd_X12_shortBy_67 rfl (lv_at hl 0 rfl) ?_
        refine lv_aload_n hx hb dd_X12_shortBy_68 rfl (lv_at hl 1 rfl) ?_
        refine wk_get (v := .int 0) Sx ef_12 hK hP 0 rfl rfl 3 (by decide) kk_1104 rfl dd_X12_shortBy_69 ?_
        refine lv_icmp_ge (tgt := 201) hx hb dd_X12_shortBy_72 (by decide) (fun _ => ?_) (fun c => absurd c (by decide))
        refine lv_aload_n hx hb dd_X12_shortBy_201 rfl (lv_at hl 1 rfl) ?_
        refine wk_get (v := .ref n6) Sx ef_12 hK hP 0 rfl rfl 50 (by decide) kk_1151 rfl dd_X12_shortBy_202 ?_
        refine lv_sipush (v := 10000) hx hb dd_X12_shortBy_205 (by decide) ?_
        refine lv_aload_n hx hb dd_X12_shortBy_208 rfl (lv_at hl 1 rfl) ?_
        refine wk_get (v := .int 0) Sx ef_12 hK hP 0 rfl rfl 3 (by decide) kk_1104 rfl dd_X12_shortBy_209 ?_
        refine lv_imul hx hb dd_X12_shortBy_212 ?_
        refine wk_int (v := 0) (by decide) ?_
        refine lv_iload_n hx hb dd_X12_shortBy_213 rfl (lv_at hl 2 rfl) ?_
        refine lv_iadd hx hb dd_X12_shortBy_214 ?_
        refine lv_topi (fun z17 ez17 => ?_)
        have fz17 : z17.toInt = 0 + su.toInt := by rw [ez17]; exact ti_add rfl rfl (by omega) (by omega)
        have hi18 : vp_in z17 310000 := (vi_of (by omega))
        refine va_bald hx hb hK hP 2 1 rfl rfl hi18 dd_X12_shortBy_215 ?_
        refine wk_int (v := 99) (inv_read iv15 z17 (by omega) (by omega)) ?_
        refine lv_bipush (v := 99) hx hb dd_X12_shortBy_216 (by decide) ?_
        refine lv_icmp_ne (tgt := 223) hx hb dd_X12_shortBy_218 (by decide) (fun c => absurd c (by decide)) (fun _ => ?_)
        refine lv_iconst (v := (-1)) hx hb dd_X12_shortBy_221 (by decide) ?_
        exact hc_ret Sx hr hlocks dd_X12_shortBy_222 hS () (Or.inl ⟨by omega, rfl⟩) p_nil d_nil
      · have fc16 := ci_nlt (a := su.toInt) (b := i8.toInt) rfl rfl c16
        refine lv_aload_n hx hb dd_X12_shortBy_42 rfl (lv_at hl 1 rfl) ?_
        refine wk_get (v := .ref n6) Sx ef_12 hK hP 0 rfl rfl 50 (by decide) kk_1151 rfl dd_X12_shortBy_43 ?_
        refine lv_iload_n hx hb dd_X12_shortBy_46 rfl (lv_at hl 0 rfl) ?_
        refine lv_iload_n hx hb dd_X12_shortBy_47 rfl (lv_at hl 0 rfl) ?_
        refine lv_if_ne (tgt := 55) hx hb dd_X12_shortBy_48 (by decide) (fun c19 => ?_) (fun c19 => ?_)
        · have fc19 := ci_ne (a := i8.toInt) (b := 0) rfl rfl c19
          refine lv_bipush (v := 99) hx hb dd_X12_shortBy_55 (by decide) ?_
          refine lv_i2b (v := 99) hx hb dd_X12_shortBy_57 (by decide) ?_
          refine wk_bast (ws' := [(q 60, .inr (12, (fM q).set 50 (.ref n6))), (q 36, .inl (cy 0, 7, .inl (fun _ => 0))), (n6, .inl (cy 1, 310000, .inl (upd f7 i8.toNatClampNeg (vp_nar .byte 99))))]) Sx hK hP hD hS 2 1 rfl rfl (vi_of (by omega)) dd_X12_shortBy_58 rfl (fun H locs hP hD hS => ?_)
          obtain ⟨z21, ez21⟩ : ∃ y : Int32, y = i8 + Int32.ofInt 1 := ⟨_, rfl⟩
          have fz21 : z21.toInt = i8.toInt + 1 := by rw [ez21]; exact ti_add rfl (show (Int32.ofInt 1).toInt = 1 by decide) (by omega) (by omega)
          refine lv_iinc (v := z21) (lv' := [(2, .int z21), (0, .ref (q 60)), (1, .int su)]) hx hb dd_X12_shortBy_59 hl (k := 0) rfl ez21.symm (by decide) rfl (fun ls hl => ?_)
          refine lv_goto (tgt := 37) hx hb dd_X12_shortBy_62 (by decide) ?_
          have hI22 : 0 ≤ z21.toInt ∧ z21.toInt ≤ su.toInt + 1 ∧ (∀ j : Nat, 1 ≤ (j : Int) → (j : Int) < z21.toInt → (((upd f7 i8.toNatClampNeg (vp_nar .byte 99))) : Nat → Int32) j = 99) := ⟨by omega, by omega, inv_upd (v := 99) iv15 i8 (by omega) (by omega)⟩
          have hm23 : (su.toInt + 1 - z21.toInt).toNat < (su.toInt + 1 - i8.toInt).toNat := by omega
          exact ih10 (z21, (upd f7 i8.toNatClampNeg (vp_nar .byte 99))) H locs ls hI22 hm23 (lv_sub hl [0, 1, 2] rfl) hP hD hS
        · have fc19 := ci_eq (a := i8.toInt) (b := 0) rfl rfl c19
          refine lv_iconst (v := 0) hx hb dd_X12_shortBy_51 (by decide) ?_
          refine lv_goto (tgt := 57) hx hb dd_X12_shortBy_52 (by decide) ?_
          refine lv_i2b (v := 0) hx hb dd_X12_shortBy_57 (by decide) ?_
          refine wk_bast (ws' := [(q 60, .inr (12, (fM q).set 50 (.ref n6))), (q 36, .inl (cy 0, 7, .inl (fun _ => 0))), (n6, .inl (cy 1, 310000, .inl (upd f7 i8.toNatClampNeg (vp_nar .byte 0))))]) Sx hK hP hD hS 2 1 rfl rfl (vi_of (by omega)) dd_X12_shortBy_58 rfl (fun H locs hP hD hS => ?_)
          obtain ⟨z25, ez25⟩ : ∃ y : Int32, y = i8 + Int32.ofInt 1 := ⟨_, rfl⟩
          have fz25 : z25.toInt = i8.toInt + 1 := by rw [ez25]; exact ti_add rfl (show (Int32.ofInt 1).toInt = 1 by decide) (by omega) (by omega)
          refine lv_iinc (v := z25) (lv' := [(2, .int z25), (0, .ref (q 60)), (1, .int su)]) hx hb dd_X12_shortBy_59 hl (k := 0) rfl ez25.symm (by decide) rfl (fun ls hl => ?_)
          refine lv_goto (tgt := 37) hx hb dd_X12_shortBy_62 (by decide) ?_
          have hI26 : 0 ≤ z25.toInt ∧ z25.toInt ≤ su.toInt + 1 ∧ (∀ j : Nat, 1 ≤ (j : Int) → (j : Int) < z25.toInt → (((upd f7 i8.toNatClampNeg (vp_nar .byte 0))) : Nat → Int32) j = 99) := ⟨by omega, by omega, fun j h1 h2 => absurd h2 (by omega)⟩
          have hm27 : (su.toInt + 1 - z25.toInt).toNat < (su.toInt + 1 - i8.toInt).toNat := by omega
          exact ih10 (z25, (upd f7 i8.toNatClampNeg (vp_nar .byte 0))) H locs ls hI26 hm27 (lv_sub hl [0, 1, 2] rfl) hP hD hS
    · have fc5 := ci_nle (a := su.toInt) (b := 9999) rfl rfl c5
      refine lv_aload_n hx hb dd_X12_shortBy_12 rfl (lv_at hl 0 rfl) ?_
      refine lv_bipush (v := (-2)) hx hb dd_X12_shortBy_13 (by decide) ?_
      refine hk_i (wr := []) (c1 := 0) (s1 := 0) [0, 1] [] (hc_V [.int (-2)] [] [0, 1] Sx hl.1 ws_M_152 md_X12_no (c_M_no_2 l D cy q) ⟨Nat.le_of_ble_eq_true rfl, Nat.le_of_ble_eq_true rfl⟩ hP hD rfl (by decide) hK nx_b (nx_w hX) (va_recv hK hP (ci := 12) (q0 := 0) rfl rfl) rfl rfl (Nat.le_of_ble_eq_true rfl) dd_X12_shortBy_15 ⟨Nat.le_of_ble_eq_true rfl, Nat.le_of_ble_eq_true rfl⟩) hS hA hP hD rfl rfl (by decide) (by decide) rfl rfl (fun r28 u29 H locs hw30 hP hD hS => ?_)
      have hP : va_P D cls [] H := hP
      have hD : va_D A [] := hD
      subst hw30
      refine W.widen (k := 1) (n := 310000) (Nat.le_of_ble_eq_true rfl) (Nat.le_of_ble_eq_true rfl) ?_
      exact hc_ret Sx hr hlocks dd_X12_shortBy_18 hS () (Or.inr ⟨by omega, rfl⟩) p_nil d_nil
set_option maxHeartbeats 4000000 in
set_option maxRecDepth 100000 in
theorem c_M_pub_status (l : Launch) (D : va_G) (cy : Nat → ClassId) (q : Nat → Nat) (wh : Int32) : PC l my_X12_status mb_X12_status 4 ((some .int)) (rmD 1 0 0) D (TY cy) [.ref (q 60), .int wh] NS [(q 60, .inr (12, fM q)), (q 0, .inl (cy 0, 8, .inl (hold0))), (q 36, .inl (cy 0, 7, .inl (fun _ => 0)))] (vp_Si (fun r => if2 ((0 ≤ wh.toInt ∧ wh.toInt ≤ 8) ∨ (12 ≤ wh.toInt ∧ wh.toInt ≤ 16)) 0 (-1) r)) := by
  refine pc_intro (by decide) (Nat.le_of_ble_eq_true rfl) (fun p e s m below meth c ls Sx hr hlocks hl hP hK hX => ?_)
  have hx := Sx.1
  have hb := Sx.2.1
  have hl : lv_has ls 4 [(0, .ref (q 60)), (1, .int wh)] := hl
  refine lv_iload_n hx hb dd_X12_status_0 rfl (lv_at hl 1 rfl) ?_
  refine lv_if_ne (tgt := 9) hx hb dd_X12_status_1 (by decide) (fun c1 => ?_) (fun c1 => ?_)
  · have fc1 := ci_ne (a := wh.toInt) (b := 0) rfl rfl c1
    refine lv_iload_n hx hb dd_X12_status_9 rfl (lv_at hl 1 rfl) ?_
    refine lv_iconst (v := 1) hx hb dd_X12_status_10 (by decide) ?_
    refine lv_icmp_ne (tgt := 19) hx hb dd_X12_status_11 (by decide) (fun c2 => ?_) (fun c2 => ?_)
    · have fc2 := ci_ne (a := wh.toInt) (b := 1) rfl rfl c2
      refine lv_iload_n hx hb dd_X12_status_19 rfl (lv_at hl 1 rfl) ?_
      refine lv_iconst (v := 2) hx hb dd_X12_status_20 (by decide) ?_
      refine lv_icmp_ne (tgt := 29) hx hb dd_X12_status_21 (by decide) (fun c3 => ?_) (fun c3 => ?_)
      · have fc3 := ci_ne (a := wh.toInt) (b := 2) rfl rfl c3
        refine lv_iload_n hx hb dd_X12_status_29 rfl (lv_at hl 1 rfl) ?_
        refine lv_iconst (v := 3) hx hb dd_X12_status_30 (by decide) ?_
        refine lv_icmp_ne (tgt := 39) hx hb dd_X12_status_31 (by decide) (fun c4 => ?_) (fun c4 => ?_)
        · have fc4 := ci_ne (a := wh.toInt) (b := 3) rfl rfl c4
          refine lv_iload_n hx hb dd_X12_status_39 rfl (lv_at hl 1 rfl) ?_
          refine lv_iconst (v := 4) hx hb dd_X12_status_40 (by decide) ?_
          refine lv_icmp_ne (tgt := 49) hx hb dd_X12_status_41 (by decide) (fun c5 => ?_) (fun c5 => ?_)
          · have fc5 := ci_ne (a := wh.toInt) (b := 4) rfl rfl c5
            refine lv_iload_n hx hb dd_X12_status_49 rfl (lv_at hl 1 rfl) ?_
            refine lv_iconst (v := 5) hx hb dd_X12_status_50 (by decide) ?_
            refine lv_icmp_ne (tgt := 59) hx hb dd_X12_status_51 (by decide) (fun c6 => ?_) (fun c6 => ?_)
            · have fc6 := ci_ne (a := wh.toInt) (b := 5) rfl rfl c6
              refine lv_iload_n hx hb dd_X12_status_59 rfl (lv_at hl 1 rfl) ?_
              refine lv_bipush (v := 6) hx hb dd_X12_status_60 (by decide) ?_
              refine lv_icmp_ne (tgt := 70) hx hb dd_X12_status_62 (by decide) (fun c7 => ?_) (fun c7 => ?_)
              · have fc7 := ci_ne (a := wh.toInt) (b := 6) rfl rfl c7
                refine lv_iload_n hx hb dd_X12_status_70 rfl (lv_at hl 1 rfl) ?_
                refine lv_bipush (v := 7) hx hb dd_X12_status_71 (by decide) ?_
                refine lv_icmp_ne (tgt := 81) hx hb dd_X12_status_73 (by decide) (fun c8 => ?_) (fun c8 => ?_)
                · have fc8 := ci_ne (a := wh.toInt) (b := 7) rfl rfl c8
                  refine lv_iload_n hx hb dd_X12_status_81 rfl (lv_at hl 1 rfl) ?_
                  refine lv_bipush (v := 8) hx hb dd_X12_status_82 (by decide) ?_
                  refine lv_icmp_ne (tgt := 117) hx hb dd_X12_status_84 (by decide) (fun c9 => ?_) (fun c9 => ?_)
                  · have fc9 := ci_ne (a := wh.toInt) (b := 8) rfl rfl c9
                    refine lv_iload_n hx hb dd_X12_status_117 rfl (lv_at hl 1 rfl) ?_
                    refine lv_bipush (v := 12) hx hb dd_X12_status_118 (by decide) ?_
                    refine lv_icmp_lt (tgt := 141) hx hb dd_X12_status_120 (by decide) (fun c10 => ?_) (fun c10 => ?_)
                    · have fc10 := ci_lt (a := wh.toInt) (b := 12) rfl rfl c10
                      refine lv_iconst (v := (-1)) hx hb dd_X12_status_141 (by decide) ?_
                      exact pc_ret Sx hr hlocks rfl dd_X12_status_142 (Or.inr ⟨by omega, rfl⟩)
                    · have fc10 := ci_nlt (a := wh.toInt) (b := 12) rfl rfl c10
                      refine lv_iload_n hx hb dd_X12_status_123 rfl (lv_at hl 1 rfl) ?_
                      refine lv_bipush (v := 16) hx hb dd_X12_status_124 (by decide) ?_
                      refine lv_icmp_gt (tgt := 141) hx hb dd_X12_status_126 (by decide) (fun c11 => ?_) (fun c11 => ?_)
                      · have fc11 := ci_lt (a := 16) (b := wh.toInt) rfl rfl c11
                        refine lv_iconst (v := (-1)) hx hb dd_X12_status_141 (by decide) ?_
                        exact pc_ret Sx hr hlocks rfl dd_X12_status_142 (Or.inr ⟨by omega, rfl⟩)
                      · have fc11 := ci_nlt (a := 16) (b := wh.toInt) rfl rfl c11
                        refine lv_aload_n hx hb dd_X12_status_129 rfl (lv_at hl 0 rfl) ?_
                        refine wk_get (v := .ref (q 36)) Sx ef_12 hK hP 0 rfl rfl 36 (by decide) kk_1137 rfl dd_X12_status_130 ?_
                        refine lv_iload_n hx hb dd_X12_status_133 rfl (lv_at hl 1 rfl) ?_
                        refine lv_bipush (v := 10) hx hb dd_X12_status_134 (by decide) ?_
                        refine lv_isub hx hb dd_X12_status_136 ?_
                        refine lv_topi (fun z12 ez12 => ?_)
                        have fz12 : z12.toInt = wh.toInt - 10 := by rw [ez12]; exact ti_sub rfl rfl (by omega) (by omega)
                        have hi13 : vp_in z12 7 := (vi_of (by omega))
                        refine va_iald hx hb hK hP 2 0 rfl rfl hi13 dd_X12_status_137 ?_
                        refine wk_int (v := 0) rfl ?_
                        refine lv_goto (tgt := 142) hx hb dd_X12_status_138 (by decide) ?_
                        exact pc_ret Sx hr hlocks rfl dd_X12_status_142 (Or.inl ⟨by omega, rfl⟩)
                  · have fc9 := ci_eq (a := wh.toInt) (b := 8) rfl rfl c9
                    refine lv_iconst (v := 0) hx hb dd_X12_status_87 (by decide) ?_
                    refine lv_istore_n (lv' := [(2, .int 0), (0, .ref (q 60)), (1, .int wh)]) hx hb dd_X12_status_88 rfl hl (by decide) rfl (fun ls hl => ?_)
                    refine lv_iconst (v := 0) hx hb dd_X12_status_89 (by decide) ?_
                    refine lv_istore_n (lv' := [(3, .int 0), (2, .int 0), (0, .ref (q 60)), (1, .int wh)]) hx hb dd_X12_status_90 rfl hl (by decide) rfl (fun ls hl => ?_)
                    refine lv_iload_n hx hb dd_X12_status_91 rfl (lv_at hl 0 rfl) ?_
                    refine lv_bipush (v := 8) hx hb dd_X12_status_92 (by decide) ?_
                    refine lv_icmp_ge (tgt := 115) hx hb dd_X12_status_94 (by decide) (fun c => absurd c (by decide)) (fun _ => ?_)
                    refine lv_aload_n hx hb dd_X12_status_97 rfl (lv_at hl 2 rfl) ?_
                    refine wk_get (v := .ref (q 0)) Sx ef_12 hK hP 0 rfl rfl 0 (by decide) kk_1101 rfl dd_X12_status_98 ?_
                    refine lv_iload_n hx hb dd_X12_status_101 rfl (lv_at hl 0 rfl) ?_
                    have hi14 : vp_in 0 8 := (vi_of (by decide))
                    refine va_iald hx hb hK hP 1 0 rfl rfl hi14 dd_X12_status_102 ?_
                    refine wk_int (v := (-1)) (hold0_at _ (vi_lt hi14)) ?_
                    refine lv_if_lt (tgt := 109) hx hb dd_X12_status_103 (by decide) (fun _ => ?_) (fun c => absurd c (by decide))
                    refine lv_iinc (v := 1) (lv' := [(3, .int 1), (2, .int 0), (0, .ref (q 60)), (1, .int wh)]) hx hb dd_X12_status_109 hl (k := 0) rfl (by decide) (by decide) rfl (fun ls hl => ?_)
                    refine lv_goto (tgt := 91) hx hb dd_X12_status_112 (by decide) ?_
                    refine lv_iload_n hx hb dd_X12_status_91 rfl (lv_at hl 0 rfl) ?_
                    refine lv_bipush (v := 8) hx hb dd_X12_status_92 (by decide) ?_
                    refine lv_icmp_ge (tgt := 115) hx hb dd_X12_status_94 (by decide) (fun c => absurd c (by decide)) (fun _ => ?_)
                    refine lv_aload_n hx hb dd_X12_status_97 rfl (lv_at hl 2 rfl) ?_
                    refine wk_get (v := .ref (q 0)) Sx ef_12 hK hP 0 rfl rfl 0 (by decide) kk_1101 rfl dd_X12_status_98 ?_
                    refine lv_iload_n hx hb dd_X12_status_101 rfl (lv_at hl 0 rfl) ?_
                    have hi15 : vp_in 1 8 := (vi_of (by decide))
                    refine va_iald hx hb hK hP 1 0 rfl rfl hi15 dd_X12_status_102 ?_
                    refine wk_int (v := (-1)) (hold0_at _ (vi_lt hi15)) ?_
                    refine lv_if_lt (tgt := 109) hx hb dd_X12_status_103 (by decide) (fun _ => ?_) (fun c => absurd c (by decide))
                    refine lv_iinc (v := 2) (lv' := [(3, .int 2), (2, .int 0), (0, .ref (q 60)), (1, .int wh)]) hx hb dd_X12_status_109 hl (k := 0) rfl (by decide) (by decide) rfl (fun ls hl => ?_)
                    refine lv_goto (tgt := 91) hx hb dd_X12_status_112 (by decide) ?_
                    refine lv_iload_n hx hb dd_X12_status_91 rfl (lv_at hl 0 rfl) ?_
                    refine lv_bipush (v := 8) hx hb dd_X12_status_92 (by decide) ?_
                    refine lv_icmp_ge (tgt := 115) hx hb dd_X12_status_94 (by decide) (fun c => absurd c (by decide)) (fun _ => ?_)
                    refine lv_aload_n hx hb dd_X12_status_97 rfl (lv_at hl 2 rfl) ?_
                    refine wk_get (v := .ref (q 0)) Sx ef_12 hK hP 0 rfl rfl 0 (by decide) kk_1101 rfl dd_X12_status_98 ?_
                    refine lv_iload_n hx hb dd_X12_status_101 rfl (lv_at hl 0 rfl) ?_
                    have hi16 : vp_in 2 8 := (vi_of (by decide))
                    refine va_iald hx hb hK hP 1 0 rfl rfl hi16 dd_X12_status_102 ?_
                    refine wk_int (v := (-1)) (hold0_at _ (vi_lt hi16)) ?_
                    refine lv_if_lt (tgt := 109) hx hb dd_X12_status_103 (by decide) (fun _ => ?_) (fun c => absurd c (by decide))
                    refine lv_iinc (v := 3) (lv' := [(3, .int 3), (2, .int 0), (0, .ref (q 60)), (1, .int wh)]) hx hb dd_X12_status_109 hl (k := 0) rfl (by decide) (by decide) rfl (fun ls hl => ?_)
                    refine lv_goto (tgt := 91) hx hb dd_X12_status_112 (by decide) ?_
                    refine lv_iload_n hx hb dd_X12_status_91 rfl (lv_at hl 0 rfl) ?_
                    refine lv_bipush (v := 8) hx hb dd_X12_status_92 (by decide) ?_
                    refine lv_icmp_ge (tgt := 115) hx hb dd_X12_status_94 (by decide) (fun c => absurd c (by decide)) (fun _ => ?_)
                    refine lv_aload_n hx hb dd_X12_status_97 rfl (lv_at hl 2 rfl) ?_
                    refine wk_get (v := .ref (q 0)) Sx ef_12 hK hP 0 rfl rfl 0 (by decide) kk_1101 rfl dd_X12_status_98 ?_
                    refine lv_iload_n hx hb dd_X12_status_101 rfl (lv_at hl 0 rfl) ?_
                    have hi17 : vp_in 3 8 := (vi_of (by decide))
                    refine va_iald hx hb hK hP 1 0 rfl rfl hi17 dd_X12_status_102 ?_
                    refine wk_int (v := (-1)) (hold0_at _ (vi_lt hi17)) ?_
                    refine lv_if_lt (tgt := 109) hx hb dd_X12_status_103 (by decide) (fun _ => ?_) (fun c => absurd c (by decide))
                    refine lv_iinc (v := 4) (lv' := [(3, .int 4), (2, .int 0), (0, .ref (q 60)), (1, .int wh)]) hx hb dd_X12_status_109 hl (k := 0) rfl (by decide) (by decide) rfl (fun ls hl => ?_)
                    refine lv_goto (tgt := 91) hx hb dd_X12_status_112 (by decide) ?_
                    refine lv_iload_n hx hb dd_X12_status_91 rfl (lv_at hl 0 rfl) ?_
                    refine lv_bipush (v := 8) hx hb dd_X12_status_92 (by decide) ?_
                    refine lv_icmp_ge (tgt := 115) hx hb dd_X12_status_94 (by decide) (fun c => absurd c (by decide)) (fun _ => ?_)
                    refine lv_aload_n hx hb dd_X12_status_97 rfl (lv_at hl 2 rfl) ?_
                    refine wk_get (v := .ref (q 0)) Sx ef_12 hK hP 0 rfl rfl 0 (by decide) kk_1101 rfl dd_X12_status_98 ?_
                    refine lv_iload_n hx hb dd_X12_status_101 rfl (lv_at hl 0 rfl) ?_
                    have hi18 : vp_in 4 8 := (vi_of (by decide))
                    refine va_iald hx hb hK hP 1 0 rfl rfl hi18 dd_X12_status_102 ?_
                    refine wk_int (v := (-1)) (hold0_at _ (vi_lt hi18)) ?_
                    refine lv_if_lt (tgt := 109) hx hb dd_X12_status_103 (by decide) (fun _ => ?_) (fun c => absurd c (by decide))
                    refine lv_iinc (v := 5) (lv' := [(3, .int 5), (2, .int 0), (0, .ref (q 60)), (1, .int wh)]) hx hb dd_X12_status_109 hl (k := 0) rfl (by decide) (by decide) rfl (fun ls hl => ?_)
                    refine lv_goto (tgt := 91) hx hb dd_X12_status_112 (by decide) ?_
                    refine lv_iload_n hx hb dd_X12_status_91 rfl (lv_at hl 0 rfl) ?_
                    refine lv_bipush (v := 8) hx hb dd_X12_status_92 (by decide) ?_
                    refine lv_icmp_ge (tgt := 115) hx hb dd_X12_status_94 (by decide) (fun c => absurd c (by decide)) (fun _ => ?_)
                    refine lv_aload_n hx hb dd_X12_status_97 rfl (lv_at hl 2 rfl) ?_
                    refine wk_get (v := .ref (q 0)) Sx ef_12 hK hP 0 rfl rfl 0 (by decide) kk_1101 rfl dd_X12_status_98 ?_
                    refine lv_iload_n hx hb dd_X12_status_101 rfl (lv_at hl 0 rfl) ?_
                    have hi19 : vp_in 5 8 := (vi_of (by decide))
                    refine va_iald hx hb hK hP 1 0 rfl rfl hi19 dd_X12_status_102 ?_
                    refine wk_int (v := (-1)) (hold0_at _ (vi_lt hi19)) ?_
                    refine lv_if_lt (tgt := 109) hx hb dd_X12_status_103 (by decide) (fun _ => ?_) (fun c => absurd c (by decide))
                    refine lv_iinc (v := 6) (lv' := [(3, .int 6), (2, .int 0), (0, .ref (q 60)), (1, .int wh)]) hx hb dd_X12_status_109 hl (k := 0) rfl (by decide) (by decide) rfl (fun ls hl => ?_)
                    refine lv_goto (tgt := 91) hx hb dd_X12_status_112 (by decide) ?_
                    refine lv_iload_n hx hb dd_X12_status_91 rfl (lv_at hl 0 rfl) ?_
                    refine lv_bipush (v := 8) hx hb dd_X12_status_92 (by decide) ?_
                    refine lv_icmp_ge (tgt := 115) hx hb dd_X12_status_94 (by decide) (fun c => absurd c (by decide)) (fun _ => ?_)
                    refine lv_aload_n hx hb dd_X12_status_97 rfl (lv_at hl 2 rfl) ?_
                    refine wk_get (v := .ref (q 0)) Sx ef_12 hK hP 0 rfl rfl 0 (by decide) kk_1101 rfl dd_X12_status_98 ?_
                    refine lv_iload_n hx hb dd_X12_status_101 rfl (lv_at hl 0 rfl) ?_
                    have hi20 : vp_in 6 8 := (vi_of (by decide))
                    refine va_iald hx hb hK hP 1 0 rfl rfl hi20 dd_X12_status_102 ?_
                    refine wk_int (v := (-1)) (hold0_at _ (vi_lt hi20)) ?_
                    refine lv_if_lt (tgt := 109) hx hb dd_X12_status_103 (by decide) (fun _ => ?_) (fun c => absurd c (by decide))
                    refine lv_iinc (v := 7) (lv' := [(3, .int 7), (2, .int 0), (0, .ref (q 60)), (1, .int wh)]) hx hb dd_X12_status_109 hl (k := 0) rfl (by decide) (by decide) rfl (fun ls hl => ?_)
                    refine lv_goto (tgt := 91) hx hb dd_X12_status_112 (by decide) ?_
                    refine lv_iload_n hx hb dd_X12_status_91 rfl (lv_at hl 0 rfl) ?_
                    refine lv_bipush (v := 8) hx hb dd_X12_status_92 (by decide) ?_
                    refine lv_icmp_ge (tgt := 115) hx hb dd_X12_status_94 (by decide) (fun c => absurd c (by decide)) (fun _ => ?_)
                    refine lv_aload_n hx hb dd_X12_status_97 rfl (lv_at hl 2 rfl) ?_
                    refine wk_get (v := .ref (q 0)) Sx ef_12 hK hP 0 rfl rfl 0 (by decide) kk_1101 rfl dd_X12_status_98 ?_
                    refine lv_iload_n hx hb dd_X12_status_101 rfl (lv_at hl 0 rfl) ?_
                    have hi21 : vp_in 7 8 := (vi_of (by decide))
                    refine va_iald hx hb hK hP 1 0 rfl rfl hi21 dd_X12_status_102 ?_
                    refine wk_int (v := (-1)) (hold0_at _ (vi_lt hi21)) ?_
                    refine lv_if_lt (tgt := 109) hx hb dd_X12_status_103 (by decide) (fun _ => ?_) (fun c => absurd c (by decide))
                    refine lv_iinc (v := 8) (lv' := [(3, .int 8), (2, .int 0), (0, .ref (q 60)), (1, .int wh)]) hx hb dd_X12_status_109 hl (k := 0) rfl (by decide) (by decide) rfl (fun ls hl => ?_)
                    refine lv_goto (tgt := 91) hx hb dd_X12_status_112 (by decide) ?_
                    refine lv_iload_n hx hb dd_X12_status_91 rfl (lv_at hl 0 rfl) ?_
                    refine lv_bipush (v := 8) hx hb dd_X12_status_92 (by decide) ?_
                    refine lv_icmp_ge (tgt := 115) hx hb dd_X12_status_94 (by decide) (fun _ => ?_) (fun c => absurd c (by decide))
                    refine lv_iload_n hx hb dd_X12_status_115 rfl (lv_at hl 1 rfl) ?_
                    exact pc_ret Sx hr hlocks rfl dd_X12_status_116 (Or.inl ⟨by omega, rfl⟩)
                · have fc8 := ci_eq (a := wh.toInt) (b := 7) rfl rfl c8
                  refine lv_aload_n hx hb dd_X12_status_76 rfl (lv_at hl 0 rfl) ?_
                  refine wk_get (v := .int 0) Sx ef_12 hK hP 0 rfl rfl 16 (by decide) kk_1117 rfl dd_X12_status_77 ?_
                  exact pc_ret Sx hr hlocks rfl dd_X12_status_80 (Or.inl ⟨by omega, rfl⟩)
              · have fc7 := ci_eq (a := wh.toInt) (b := 6) rfl rfl c7
                refine lv_aload_n hx hb dd_X12_status_65 rfl (lv_at hl 0 rfl) ?_
                refine wk_get (v := .int 0) Sx ef_12 hK hP 0 rfl rfl 31 (by decide) kk_1132 rfl dd_X12_status_66 ?_
                exact pc_ret Sx hr hlocks rfl dd_X12_status_69 (Or.inl ⟨by omega, rfl⟩)
            · have fc6 := ci_eq (a := wh.toInt) (b := 5) rfl rfl c6
              refine lv_aload_n hx hb dd_X12_status_54 rfl (lv_at hl 0 rfl) ?_
              refine wk_get (v := .int 0) Sx ef_12 hK hP 0 rfl rfl 26 (by decide) kk_1127 rfl dd_X12_status_55 ?_
              exact pc_ret Sx hr hlocks rfl dd_X12_status_58 (Or.inl ⟨by omega, rfl⟩)
          · have fc5 := ci_eq (a := wh.toInt) (b := 4) rfl rfl c5
            refine lv_aload_n hx hb dd_X12_status_44 rfl (lv_at hl 0 rfl) ?_
            refine wk_get (v := .int 0) Sx ef_12 hK hP 0 rfl rfl 24 (by decide) kk_1125 rfl dd_X12_status_45 ?_
            exact pc_ret Sx hr hlocks rfl dd_X12_status_48 (Or.inl ⟨by omega, rfl⟩)
        · have fc4 := ci_eq (a := wh.toInt) (b := 3) rfl rfl c4
          refine lv_aload_n hx hb dd_X12_status_34 rfl (lv_at hl 0 rfl) ?_
          refine wk_get (v := .int 0) Sx ef_12 hK hP 0 rfl rfl 18 (by decide) kk_1119 rfl dd_X12_status_35 ?_
          exact pc_ret Sx hr hlocks rfl dd_X12_status_38 (Or.inl ⟨by omega, rfl⟩)
      · have fc3 := ci_eq (a := wh.toInt) (b := 2) rfl rfl c3
        refine lv_aload_n hx hb dd_X12_status_24 rfl (lv_at hl 0 rfl) ?_
        refine wk_get (v := .int 0) Sx ef_12 hK hP 0 rfl rfl 14 (by decide) kk_1115 rfl dd_X12_status_25 ?_
        exact pc_ret Sx hr hlocks rfl dd_X12_status_28 (Or.inl ⟨by omega, rfl⟩)
    · have fc2 := ci_eq (a := wh.toInt) (b := 1) rfl rfl c2
      refine lv_aload_n hx hb dd_X12_status_14 rfl (lv_at hl 0 rfl) ?_
      refine wk_get (v := .int 0) Sx ef_12 hK hP 0 rfl rfl 10 (by decide) kk_1111 rfl dd_X12_status_15 ?_
      exact pc_ret Sx hr hlocks rfl dd_X12_status_18 (Or.inl ⟨by omega, rfl⟩)
  · have fc1 := ci_eq (a := wh.toInt) (b := 0) rfl rfl c1
    refine lv_aload_n hx hb dd_X12_status_4 rfl (lv_at hl 0 rfl) ?_
    refine wk_get (v := .int 0) Sx ef_12 hK hP 0 rfl rfl 3 (by decide) kk_1104 rfl dd_X12_status_5 ?_
    exact pc_ret Sx hr hlocks rfl dd_X12_status_8 (Or.inl ⟨by omega, rfl⟩)
set_option maxHeartbeats 4000000 in
set_option maxRecDepth 100000 in
theorem c_M_pub_feed (l : Launch) (D : va_G) (cy : Nat → ClassId) (q : Nat → Nat) (vv : Int32) (nn : Int32) : HC l my_X12_feed mb_X12_feed 4 ((some .int)) (rmD 2 0 0) D (TY cy) [.ref (q 60), .int vv, .int nn] NX [(q 60, .inr (12, fM q)), (q 17, .inl (cy 0, 120, .inl (fun _ => 0))), (q 36, .inl (cy 0, 7, .inl (fun _ => 0)))] (QI (S := Unit) D (fun r _ => if2 (1 ≤ nn.toInt ∧ nn.toInt ≤ 4) nn (-2) r) (fun _ => [])) := by
  refine hc_intro (by decide) (Nat.le_of_ble_eq_true rfl) (fun p e s m below meth c A ls Sx hr hlocks hin hl hP hD hK hS hA hX => ?_)
  have hx := Sx.1
  have hb := Sx.2.1
  have hl : lv_has ls 4 [(0, .ref (q 60)), (1, .int vv), (2, .int nn)] := hl
  have hP : va_P D cls [(q 60, .inr (12, fM q)), (q 17, .inl (cy 0, 120, .inl (fun _ => 0))), (q 36, .inl (cy 0, 7, .inl (fun _ => 0)))] s.heap := hP
  have hD : va_D A [(q 60, .inr (12, fM q)), (q 17, .inl (cy 0, 120, .inl (fun _ => 0))), (q 36, .inl (cy 0, 7, .inl (fun _ => 0)))] := hD
  refine lv_iload_n hx hb dd_X12_feed_0 rfl (lv_at hl 2 rfl) ?_
  refine lv_iconst (v := 1) hx hb dd_X12_feed_1 (by decide) ?_
  refine lv_icmp_lt (tgt := 10) hx hb dd_X12_feed_2 (by decide) (fun c1 => ?_) (fun c1 => ?_)
  · have fc1 := ci_lt (a := nn.toInt) (b := 1) rfl rfl c1
    refine lv_aload_n hx hb dd_X12_feed_10 rfl (lv_at hl 0 rfl) ?_
    refine lv_bipush (v := (-2)) hx hb dd_X12_feed_11 (by decide) ?_
    refine hk_i (wr := [(q 17, .inl (cy 0, 120, .inl (fun _ => 0)))]) (c1 := 0) (s1 := 0) [0, 2] [1] (hc_V [.int (-2)] [] [0, 2] Sx hl.1 ws_M_152 md_X12_no (c_M_no_2 l D cy q) ⟨Nat.le_of_ble_eq_true rfl, Nat.le_of_ble_eq_true rfl⟩ hP hD rfl (by decide) hK nx_b (nx_w hX) (va_recv hK hP (ci := 12) (q0 := 0) rfl rfl) rfl rfl (Nat.le_of_ble_eq_true rfl) dd_X12_feed_13 ⟨Nat.le_of_ble_eq_true rfl, Nat.le_of_ble_eq_true rfl⟩) hS hA hP hD rfl rfl (by decide) (by decide) rfl rfl (fun r2 u3 H locs hw4 hP hD hS => ?_)
    have hP : va_P D cls [(q 17, .inl (cy 0, 120, .inl (fun _ => 0)))] H := hP
    have hD : va_D A [(q 17, .inl (cy 0, 120, .inl (fun _ => 0)))] := hD
    subst hw4
    exact hc_ret Sx hr hlocks dd_X12_feed_16 hS () (Or.inr ⟨by omega, rfl⟩) p_nil d_nil
  · have fc1 := ci_nlt (a := nn.toInt) (b := 1) rfl rfl c1
    refine lv_iload_n hx hb dd_X12_feed_5 rfl (lv_at hl 2 rfl) ?_
    refine lv_iconst (v := 4) hx hb dd_X12_feed_6 (by decide) ?_
    refine lv_icmp_le (tgt := 17) hx hb dd_X12_feed_7 (by decide) (fun c5 => ?_) (fun c5 => ?_)
    · have fc5 := ci_le (a := nn.toInt) (b := 4) rfl rfl c5
      rcases (show nn.toInt = 1 ∨ nn.toInt = 2 ∨ nn.toInt = 3 ∨ nn.toInt = 4 by omega) with hv6 | hv6 | hv6 | hv6
      · obtain rfl : nn = 1 := ci_of rfl hv6
        refine lv_aload_n hx hb dd_X12_feed_17 rfl (lv_at hl 0 rfl) ?_
        refine wk_get (v := .int 0) Sx ef_12 hK hP 0 rfl rfl 16 (by decide) kk_1117 rfl dd_X12_feed_18 ?_
        refine lv_iload_n hx hb dd_X12_feed_21 rfl (lv_at hl 2 rfl) ?_
        refine lv_iadd hx hb dd_X12_feed_22 ?_
        refine wk_int (v := 1) (by decide) ?_
        refine lv_bipush (v := 120) hx hb dd_X12_feed_23 (by decide) ?_
        refine lv_icmp_le (tgt := 35) hx hb dd_X12_feed_25 (by decide) (fun _ => ?_) (fun c => absurd c (by decide))
        refine lv_iload_n hx hb dd_X12_feed_35 rfl (lv_at hl 2 rfl) ?_
        refine lv_iconst (v := 1) hx hb dd_X12_feed_36 (by decide) ?_
        refine lv_isub hx hb dd_X12_feed_37 ?_
        refine wk_int (v := 0) (by decide) ?_
        refine lv_istore_n (lv' := [(3, .int 0), (0, .ref (q 60)), (1, .int vv), (2, .int 1)]) hx hb dd_X12_feed_38 rfl hl (by decide) rfl (fun ls hl => ?_)
        refine lv_iload_n hx hb dd_X12_feed_39 rfl (lv_at hl 0 rfl) ?_
        refine lv_if_lt (tgt := 75) hx hb dd_X12_feed_40 (by decide) (fun c => absurd c (by decide)) (fun _ => ?_)
        refine lv_aload_n hx hb dd_X12_feed_43 rfl (lv_at hl 1 rfl) ?_
        refine wk_get (v := .ref (q 17)) Sx ef_12 hK hP 0 rfl rfl 17 (by decide) kk_1118 rfl dd_X12_feed_44 ?_
        refine lv_aload_n hx hb dd_X12_feed_47 rfl (lv_at hl 1 rfl) ?_
        refine lv_dup hx hb dd_X12_feed_48 rfl ?_
        refine wk_get (v := .int 0) Sx ef_12 hK hP 0 rfl rfl 16 (by decide) kk_1117 rfl dd_X12_feed_49 ?_
        refine lv_dup_x1 hx hb dd_X12_feed_52 rfl rfl ?_
        refine lv_iconst (v := 1) hx hb dd_X12_feed_53 (by decide) ?_
        refine lv_iadd hx hb dd_X12_feed_54 ?_
        refine wk_int (v := 1) (by decide) ?_
        refine wk_put (ws' := [(q 60, .inr (12, (fM q).set 16 (.int 1))), (q 17, .inl (cy 0, 120, .inl (fun _ => 0))), (q 36, .inl (cy 0, 7, .inl (fun _ => 0)))]) Sx ef_12 hK hP hD hS 0 rfl rfl 16 (by decide) kk_1117 rfl rfl rfl (Nat.le_of_ble_eq_true rfl) dd_X12_feed_55 rfl (fun H locs hP hD hS => ?_)
        refine lv_iload_n hx hb dd_X12_feed_58 rfl (lv_at hl 2 rfl) ?_
        refine lv_bipush (v := 8) hx hb dd_X12_feed_59 (by decide) ?_
        refine lv_iload_n hx hb dd_X12_feed_61 rfl (lv_at hl 0 rfl) ?_
        refine lv_imul hx hb dd_X12_feed_62 ?_
        refine wk_int (v := 0) (by decide) ?_
        refine lv_ishr hx hb dd_X12_feed_63 ?_
        refine lv_topi (fun z7 ez7 => ?_)
        refine lv_sipush (v := 255) hx hb dd_X12_feed_64 (by decide) ?_
        refine lv_iand hx hb dd_X12_feed_67 ?_
        refine lv_topi (fun z8 ez8 => ?_)
        refine wk_iast (ws' := [(q 60, .inr (12, (fM q).set 16 (.int 1))), (q 17, .inl (cy 0, 120, .inl (upd (fun _ => 0) (0 : Int32).toNatClampNeg z8))), (q 36, .inl (cy 0, 7, .inl (fun _ => 0)))]) Sx hK hP hD hS 1 0 rfl rfl (vi_of (by decide)) dd_X12_feed_68 rfl (fun H locs hP hD hS => ?_)
        refine lv_iinc (v := (-1)) (lv' := [(3, .int (-1)), (0, .ref (q 60)), (1, .int vv), (2, .int 1)]) hx hb dd_X12_feed_69 hl (k := 0) rfl (by decide) (by decide) rfl (fun ls hl => ?_)
        refine lv_goto (tgt := 39) hx hb dd_X12_feed_72 (by decide) ?_
        refine lv_iload_n hx hb dd_X12_feed_39 rfl (lv_at hl 0 rfl) ?_
        refine lv_if_lt (tgt := 75) hx hb dd_X12_feed_40 (by decide) (fun _ => ?_) (fun c => absurd c (by decide))
        refine lv_aload_n hx hb dd_X12_feed_75 rfl (lv_at hl 1 rfl) ?_
        refine wk_get (v := .int 1) Sx ef_12 hK hP 0 rfl rfl 16 (by decide) kk_1117 rfl dd_X12_feed_76 ?_
        have htnn : (1 : Int32).toInt = 1 := rfl
        exact hc_ret Sx hr hlocks dd_X12_feed_79 hS () (Or.inl ⟨by omega, rfl⟩) p_nil d_nil
      · obtain rfl : nn = 2 := ci_of rfl hv6
        refine lv_aload_n hx hb dd_X12_feed_17 rfl (lv_at hl 0 rfl) ?_
        refine wk_get (v := .int 0) Sx ef_12 hK hP 0 rfl rfl 16 (by decide) kk_1117 rfl dd_X12_feed_18 ?_
        refine lv_iload_n hx hb dd_X12_feed_21 rfl (lv_at hl 2 rfl) ?_
        refine lv_iadd hx hb dd_X12_feed_22 ?_
        refine wk_int (v := 2) (by decide) ?_
        refine lv_bipush (v := 120) hx hb dd_X12_feed_23 (by decide) ?_
        refine lv_icmp_le (tgt := 35) hx hb dd_X12_feed_25 (by decide) (fun _ => ?_) (fun c => absurd c (by decide))
        refine lv_iload_n hx hb dd_X12_feed_35 rfl (lv_at hl 2 rfl) ?_
        refine lv_iconst (v := 1) hx hb dd_X12_feed_36 (by decide) ?_
        refine lv_isub hx hb dd_X12_feed_37 ?_
        refine wk_int (v := 1) (by decide) ?_
        refine lv_istore_n (lv' := [(3, .int 1), (0, .ref (q 60)), (1, .int vv), (2, .int 2)]) hx hb dd_X12_feed_38 rfl hl (by decide) rfl (fun ls hl => ?_)
        refine lv_iload_n hx hb dd_X12_feed_39 rfl (lv_at hl 0 rfl) ?_
        refine lv_if_lt (tgt := 75) hx hb dd_X12_feed_40 (by decide) (fun c => absurd c (by decide)) (fun _ => ?_)
        refine lv_aload_n hx hb dd_X12_feed_43 rfl (lv_at hl 1 rfl) ?_
        refine wk_get (v := .ref (q 17)) Sx ef_12 hK hP 0 rfl rfl 17 (by decide) kk_1118 rfl dd_X12_feed_44 ?_
        refine lv_aload_n hx hb dd_X12_feed_47 rfl (lv_at hl 1 rfl) ?_
        refine lv_dup hx hb dd_X12_feed_48 rfl ?_
        refine wk_get (v := .int 0) Sx ef_12 hK hP 0 rfl rfl 16 (by decide) kk_1117 rfl dd_X12_feed_49 ?_
        refine lv_dup_x1 hx hb dd_X12_feed_52 rfl rfl ?_
        refine lv_iconst (v := 1) hx hb dd_X12_feed_53 (by decide) ?_
        refine lv_iadd hx hb dd_X12_feed_54 ?_
        refine wk_int (v := 1) (by decide) ?_
        refine wk_put (ws' := [(q 60, .inr (12, (fM q).set 16 (.int 1))), (q 17, .inl (cy 0, 120, .inl (fun _ => 0))), (q 36, .inl (cy 0, 7, .inl (fun _ => 0)))]) Sx ef_12 hK hP hD hS 0 rfl rfl 16 (by decide) kk_1117 rfl rfl rfl (Nat.le_of_ble_eq_true rfl) dd_X12_feed_55 rfl (fun H locs hP hD hS => ?_)
        refine lv_iload_n hx hb dd_X12_feed_58 rfl (lv_at hl 2 rfl) ?_
        refine lv_bipush (v := 8) hx hb dd_X12_feed_59 (by decide) ?_
        refine lv_iload_n hx hb dd_X12_feed_61 rfl (lv_at hl 0 rfl) ?_
        refine lv_imul hx hb dd_X12_feed_62 ?_
        refine wk_int (v := 8) (by decide) ?_
        refine lv_ishr hx hb dd_X12_feed_63 ?_
        refine lv_topi (fun z9 ez9 => ?_)
        refine lv_sipush (v := 255) hx hb dd_X12_feed_64 (by decide) ?_
        refine lv_iand hx hb dd_X12_feed_67 ?_
        refine lv_topi (fun z10 ez10 => ?_)
        refine wk_iast (ws' := [(q 60, .inr (12, (fM q).set 16 (.int 1))), (q 17, .inl (cy 0, 120, .inl (upd (fun _ => 0) (0 : Int32).toNatClampNeg z10))), (q 36, .inl (cy 0, 7, .inl (fun _ => 0)))]) Sx hK hP hD hS 1 0 rfl rfl (vi_of (by decide)) dd_X12_feed_68 rfl (fun H locs hP hD hS => ?_)
        refine lv_iinc (v := 0) (lv' := [(3, .int 0), (0, .ref (q 60)), (1, .int vv), (2, .int 2)]) hx hb dd_X12_feed_69 hl (k := 0) rfl (by decide) (by decide) rfl (fun ls hl => ?_)
        refine lv_goto (tgt := 39) hx hb dd_X12_feed_72 (by decide) ?_
        refine lv_iload_n hx hb dd_X12_feed_39 rfl (lv_at hl 0 rfl) ?_
        refine lv_if_lt (tgt := 75) hx hb dd_X12_feed_40 (by decide) (fun c => absurd c (by decide)) (fun _ => ?_)
        refine lv_aload_n hx hb dd_X12_feed_43 rfl (lv_at hl 1 rfl) ?_
        refine wk_get (v := .ref (q 17)) Sx ef_12 hK hP 0 rfl rfl 17 (by decide) kk_1118 rfl dd_X12_feed_44 ?_
        refine lv_aload_n hx hb dd_X12_feed_47 rfl (lv_at hl 1 rfl) ?_
        refine lv_dup hx hb dd_X12_feed_48 rfl ?_
        refine wk_get (v := .int 1) Sx ef_12 hK hP 0 rfl rfl 16 (by decide) kk_1117 rfl dd_X12_feed_49 ?_
        refine lv_dup_x1 hx hb dd_X12_feed_52 rfl rfl ?_
        refine lv_iconst (v := 1) hx hb dd_X12_feed_53 (by decide) ?_
        refine lv_iadd hx hb dd_X12_feed_54 ?_
        refine wk_int (v := 2) (by decide) ?_
        refine wk_put (ws' := [(q 60, .inr (12, (fM q).set 16 (.int 2))), (q 17, .inl (cy 0, 120, .inl (upd (fun _ => 0) (0 : Int32).toNatClampNeg z10))), (q 36, .inl (cy 0, 7, .inl (fun _ => 0)))]) Sx ef_12 hK hP hD hS 0 rfl rfl 16 (by decide) kk_1117 rfl rfl rfl (Nat.le_of_ble_eq_true rfl) dd_X12_feed_55 rfl (fun H locs hP hD hS => ?_)
        refine lv_iload_n hx hb dd_X12_feed_58 rfl (lv_at hl 2 rfl) ?_
        refine lv_bipush (v := 8) hx hb dd_X12_feed_59 (by decide) ?_
        refine lv_iload_n hx hb dd_X12_feed_61 rfl (lv_at hl 0 rfl) ?_
        refine lv_imul hx hb dd_X12_feed_62 ?_
        refine wk_int (v := 0) (by decide) ?_
        refine lv_ishr hx hb dd_X12_feed_63 ?_
        refine lv_topi (fun z11 ez11 => ?_)
        refine lv_sipush (v := 255) hx hb dd_X12_feed_64 (by decide) ?_
        refine lv_iand hx hb dd_X12_feed_67 ?_
        refine lv_topi (fun z12 ez12 => ?_)
        refine wk_iast (ws' := [(q 60, .inr (12, (fM q).set 16 (.int 2))), (q 17, .inl (cy 0, 120, .inl (upd (upd (fun _ => 0) (0 : Int32).toNatClampNeg z10) (1 : Int32).toNatClampNeg z12))), (q 36, .inl (cy 0, 7, .inl (fun _ => 0)))]) Sx hK hP hD hS 1 0 rfl rfl (vi_of (by decide)) dd_X12_feed_68 rfl (fun H locs hP hD hS => ?_)
        refine lv_iinc (v := (-1)) (lv' := [(3, .int (-1)), (0, .ref (q 60)), (1, .int vv), (2, .int 2)]) hx hb dd_X12_feed_69 hl (k := 0) rfl (by decide) (by decide) rfl (fun ls hl => ?_)
        refine lv_goto (tgt := 39) hx hb dd_X12_feed_72 (by decide) ?_
        refine lv_iload_n hx hb dd_X12_feed_39 rfl (lv_at hl 0 rfl) ?_
        refine lv_if_lt (tgt := 75) hx hb dd_X12_feed_40 (by decide) (fun _ => ?_) (fun c => absurd c (by decide))
        refine lv_aload_n hx hb dd_X12_feed_75 rfl (lv_at hl 1 rfl) ?_
        refine wk_get (v := .int 2) Sx ef_12 hK hP 0 rfl rfl 16 (by decide) kk_1117 rfl dd_X12_feed_76 ?_
        have htnn : (2 : Int32).toInt = 2 := rfl
        exact hc_ret Sx hr hlocks dd_X12_feed_79 hS () (Or.inl ⟨by omega, rfl⟩) p_nil d_nil
      · obtain rfl : nn = 3 := ci_of rfl hv6
        refine lv_aload_n hx hb dd_X12_feed_17 rfl (lv_at hl 0 rfl) ?_
        refine wk_get (v := .int 0) Sx ef_12 hK hP 0 rfl rfl 16 (by decide) kk_1117 rfl dd_X12_feed_18 ?_
        refine lv_iload_n hx hb dd_X12_feed_21 rfl (lv_at hl 2 rfl) ?_
        refine lv_iadd hx hb dd_X12_feed_22 ?_
        refine wk_int (v := 3) (by decide) ?_
        refine lv_bipush (v := 120) hx hb dd_X12_feed_23 (by decide) ?_
        refine lv_icmp_le (tgt := 35) hx hb dd_X12_feed_25 (by decide) (fun _ => ?_) (fun c => absurd c (by decide))
        refine lv_iload_n hx hb dd_X12_feed_35 rfl (lv_at hl 2 rfl) ?_
        refine lv_iconst (v := 1) hx hb dd_X12_feed_36 (by decide) ?_
        refine lv_isub hx hb dd_X12_feed_37 ?_
        refine wk_int (v := 2) (by decide) ?_
        refine lv_istore_n (lv' := [(3, .int 2), (0, .ref (q 60)), (1, .int vv), (2, .int 3)]) hx hb dd_X12_feed_38 rfl hl (by decide) rfl (fun ls hl => ?_)
        refine lv_iload_n hx hb dd_X12_feed_39 rfl (lv_at hl 0 rfl) ?_
        refine lv_if_lt (tgt := 75) hx hb dd_X12_feed_40 (by decide) (fun c => absurd c (by decide)) (fun _ => ?_)
        refine lv_aload_n hx hb dd_X12_feed_43 rfl (lv_at hl 1 rfl) ?_
        refine wk_get (v := .ref (q 17)) Sx ef_12 hK hP 0 rfl rfl 17 (by decide) kk_1118 rfl dd_X12_feed_44 ?_
        refine lv_aload_n hx hb dd_X12_feed_47 rfl (lv_at hl 1 rfl) ?_
        refine lv_dup hx hb dd_X12_feed_48 rfl ?_
        refine wk_get (v := .int 0) Sx ef_12 hK hP 0 rfl rfl 16 (by decide) kk_1117 rfl dd_X12_feed_49 ?_
        refine lv_dup_x1 hx hb dd_X12_feed_52 rfl rfl ?_
        refine lv_iconst (v := 1) hx hb dd_X12_feed_53 (by decide) ?_
        refine lv_iadd hx hb dd_X12_feed_54 ?_
        refine wk_int (v := 1) (by decide) ?_
        refine wk_put (ws' := [(q 60, .inr (12, (fM q).set 16 (.int 1))), (q 17, .inl (cy 0, 120, .inl (fun _ => 0))), (q 36, .inl (cy 0, 7, .inl (fun _ => 0)))]) Sx ef_12 hK hP hD hS 0 rfl rfl 16 (by decide) kk_1117 rfl rfl rfl (Nat.le_of_ble_eq_true rfl) dd_X12_feed_55 rfl (fun H locs hP hD hS => ?_)
        refine lv_iload_n hx hb dd_X12_feed_58 rfl (lv_at hl 2 rfl) ?_
        refine lv_bipush (v := 8) hx hb dd_X12_feed_59 (by decide) ?_
        refine lv_iload_n hx hb dd_X12_feed_61 rfl (lv_at hl 0 rfl) ?_
        refine lv_imul hx hb dd_X12_feed_62 ?_
        refine wk_int (v := 16) (by decide) ?_
        refine lv_ishr hx hb dd_X12_feed_63 ?_
        refine lv_topi (fun z13 ez13 => ?_)
        refine lv_sipush (v := 255) hx hb dd_X12_feed_64 (by decide) ?_
        refine lv_iand hx hb dd_X12_feed_67 ?_
        refine lv_topi (fun z14 ez14 => ?_)
        refine wk_iast (ws' := [(q 60, .inr (12, (fM q).set 16 (.int 1))), (q 17, .inl (cy 0, 120, .inl (upd (fun _ => 0) (0 : Int32).toNatClampNeg z14))), (q 36, .inl (cy 0, 7, .inl (fun _ => 0)))]) Sx hK hP hD hS 1 0 rfl rfl (vi_of (by decide)) dd_X12_feed_68 rfl (fun H locs hP hD hS => ?_)
        refine lv_iinc (v := 1) (lv' := [(3, .int 1), (0, .ref (q 60)), (1, .int vv), (2, .int 3)]) hx hb dd_X12_feed_69 hl (k := 0) rfl (by decide) (by decide) rfl (fun ls hl => ?_)
        refine lv_goto (tgt := 39) hx hb dd_X12_feed_72 (by decide) ?_
        refine lv_iload_n hx hb dd_X12_feed_39 rfl (lv_at hl 0 rfl) ?_
        refine lv_if_lt (tgt := 75) hx hb dd_X12_feed_40 (by decide) (fun c => absurd c (by decide)) (fun _ => ?_)
        refine lv_aload_n hx hb dd_X12_feed_43 rfl (lv_at hl 1 rfl) ?_
        refine wk_get (v := .ref (q 17)) Sx ef_12 hK hP 0 rfl rfl 17 (by decide) kk_1118 rfl dd_X12_feed_44 ?_
        refine lv_aload_n hx hb dd_X12_feed_47 rfl (lv_at hl 1 rfl) ?_
        refine lv_dup hx hb dd_X12_feed_48 rfl ?_
        refine wk_get (v := .int 1) Sx ef_12 hK hP 0 rfl rfl 16 (by decide) kk_1117 rfl dd_X12_feed_49 ?_
        refine lv_dup_x1 hx hb dd_X12_feed_52 rfl rfl ?_
        refine lv_iconst (v := 1) hx hb dd_X12_feed_53 (by decide) ?_
        refine lv_iadd hx hb dd_X12_feed_54 ?_
        refine wk_int (v := 2) (by decide) ?_
        refine wk_put (ws' := [(q 60, .inr (12, (fM q).set 16 (.int 2))), (q 17, .inl (cy 0, 120, .inl (upd (fun _ => 0) (0 : Int32).toNatClampNeg z14))), (q 36, .inl (cy 0, 7, .inl (fun _ => 0)))]) Sx ef_12 hK hP hD hS 0 rfl rfl 16 (by decide) kk_1117 rfl rfl rfl (Nat.le_of_ble_eq_true rfl) dd_X12_feed_55 rfl (fun H locs hP hD hS => ?_)
        refine lv_iload_n hx hb dd_X12_feed_58 rfl (lv_at hl 2 rfl) ?_
        refine lv_bipush (v := 8) hx hb dd_X12_feed_59 (by decide) ?_
        refine lv_iload_n hx hb dd_X12_feed_61 rfl (lv_at hl 0 rfl) ?_
        refine lv_imul hx hb dd_X12_feed_62 ?_
        refine wk_int (v := 8) (by decide) ?_
        refine lv_ishr hx hb dd_X12_feed_63 ?_
        refine lv_topi (fun z15 ez15 => ?_)
        refine lv_sipush (v := 255) hx hb dd_X12_feed_64 (by decide) ?_
        refine lv_iand hx hb dd_X12_feed_67 ?_
        refine lv_topi (fun z16 ez16 => ?_)
        refine wk_iast (ws' := [(q 60, .inr (12, (fM q).set 16 (.int 2))), (q 17, .inl (cy 0, 120, .inl (upd (upd (fun _ => 0) (0 : Int32).toNatClampNeg z14) (1 : Int32).toNatClampNeg z16))), (q 36, .inl (cy 0, 7, .inl (fun _ => 0)))]) Sx hK hP hD hS 1 0 rfl rfl (vi_of (by decide)) dd_X12_feed_68 rfl (fun H locs hP hD hS => ?_)
        refine lv_iinc (v := 0) (lv' := [(3, .int 0), (0, .ref (q 60)), (1, .int vv), (2, .int 3)]) hx hb dd_X12_feed_69 hl (k := 0) rfl (by decide) (by decide) rfl (fun ls hl => ?_)
        refine lv_goto (tgt := 39) hx hb dd_X12_feed_72 (by decide) ?_
        refine lv_iload_n hx hb dd_X12_feed_39 rfl (lv_at hl 0 rfl) ?_
        refine lv_if_lt (tgt := 75) hx hb dd_X12_feed_40 (by decide) (fun c => absurd c (by decide)) (fun _ => ?_)
        refine lv_aload_n hx hb dd_X12_feed_43 rfl (lv_at hl 1 rfl) ?_
        refine wk_get (v := .ref (q 17)) Sx ef_12 hK hP 0 rfl rfl 17 (by decide) kk_1118 rfl dd_X12_feed_44 ?_
        refine lv_aload_n hx hb dd_X12_feed_47 rfl (lv_at hl 1 rfl) ?_
        refine lv_dup hx hb dd_X12_feed_48 rfl ?_
        refine wk_get (v := .int 2) Sx ef_12 hK hP 0 rfl rfl 16 (by decide) kk_1117 rfl dd_X12_feed_49 ?_
        refine lv_dup_x1 hx hb dd_X12_feed_52 rfl rfl ?_
        refine lv_iconst (v := 1) hx hb dd_X12_feed_53 (by decide) ?_
        refine lv_iadd hx hb dd_X12_feed_54 ?_
        refine wk_int (v := 3) (by decide) ?_
        refine wk_put (ws' := [(q 60, .inr (12, (fM q).set 16 (.int 3))), (q 17, .inl (cy 0, 120, .inl (upd (upd (fun _ => 0) (0 : Int32).toNatClampNeg z14) (1 : Int32).toNatClampNeg z16))), (q 36, .inl (cy 0, 7, .inl (fun _ => 0)))]) Sx ef_12 hK hP hD hS 0 rfl rfl 16 (by decide) kk_1117 rfl rfl rfl (Nat.le_of_ble_eq_true rfl) dd_X12_feed_55 rfl (fun H locs hP hD hS => ?_)
        refine lv_iload_n hx hb dd_X12_feed_58 rfl (lv_at hl 2 rfl) ?_
        refine lv_bipush (v := 8) hx hb dd_X12_feed_59 (by decide) ?_
        refine lv_iload_n hx hb dd_X12_feed_61 rfl (lv_at hl 0 rfl) ?_
        refine lv_imul hx hb dd_X12_feed_62 ?_
        refine wk_int (v := 0) (by decide) ?_
        refine lv_ishr hx hb dd_X12_feed_63 ?_
        refine lv_topi (fun z17 ez17 => ?_)
        refine lv_sipush (v := 255) hx hb dd_X12_feed_64 (by decide) ?_
        refine lv_iand hx hb dd_X12_feed_67 ?_
        refine lv_topi (fun z18 ez18 => ?_)
        refine wk_iast (ws' := [(q 60, .inr (12, (fM q).set 16 (.int 3))), (q 17, .inl (cy 0, 120, .inl (upd (upd (upd (fun _ => 0) (0 : Int32).toNatClampNeg z14) (1 : Int32).toNatClampNeg z16) (2 : Int32).toNatClampNeg z18))), (q 36, .inl (cy 0, 7, .inl (fun _ => 0)))]) Sx hK hP hD hS 1 0 rfl rfl (vi_of (by decide)) dd_X12_feed_68 rfl (fun H locs hP hD hS => ?_)
        refine lv_iinc (v := (-1)) (lv' := [(3, .int (-1)), (0, .ref (q 60)), (1, .int vv), (2, .int 3)]) hx hb dd_X12_feed_69 hl (k := 0) rfl (by decide) (by decide) rfl (fun ls hl => ?_)
        refine lv_goto (tgt := 39) hx hb dd_X12_feed_72 (by decide) ?_
        refine lv_iload_n hx hb dd_X12_feed_39 rfl (lv_at hl 0 rfl) ?_
        refine lv_if_lt (tgt := 75) hx hb dd_X12_feed_40 (by decide) (fun _ => ?_) (fun c => absurd c (by decide))
        refine lv_aload_n hx hb dd_X12_feed_75 rfl (lv_at hl 1 rfl) ?_
        refine wk_get (v := .int 3) Sx ef_12 hK hP 0 rfl rfl 16 (by decide) kk_1117 rfl dd_X12_feed_76 ?_
        have htnn : (3 : Int32).toInt = 3 := rfl
        exact hc_ret Sx hr hlocks dd_X12_feed_79 hS () (Or.inl ⟨by omega, rfl⟩) p_nil d_nil
      · obtain rfl : nn = 4 := ci_of rfl hv6
        refine lv_aload_n hx hb dd_X12_feed_17 rfl (lv_at hl 0 rfl) ?_
        refine wk_get (v := .int 0) Sx ef_12 hK hP 0 rfl rfl 16 (by decide) kk_1117 rfl dd_X12_feed_18 ?_
        refine lv_iload_n hx hb dd_X12_feed_21 rfl (lv_at hl 2 rfl) ?_
        refine lv_iadd hx hb dd_X12_feed_22 ?_
        refine wk_int (v := 4) (by decide) ?_
        refine lv_bipush (v := 120) hx hb dd_X12_feed_23 (by decide) ?_
        refine lv_icmp_le (tgt := 35) hx hb dd_X12_feed_25 (by decide) (fun _ => ?_) (fun c => absurd c (by decide))
        refine lv_iload_n hx hb dd_X12_feed_35 rfl (lv_at hl 2 rfl) ?_
        refine lv_iconst (v := 1) hx hb dd_X12_feed_36 (by decide) ?_
        refine lv_isub hx hb dd_X12_feed_37 ?_
        refine wk_int (v := 3) (by decide) ?_
        refine lv_istore_n (lv' := [(3, .int 3), (0, .ref (q 60)), (1, .int vv), (2, .int 4)]) hx hb dd_X12_feed_38 rfl hl (by decide) rfl (fun ls hl => ?_)
        refine lv_iload_n hx hb dd_X12_feed_39 rfl (lv_at hl 0 rfl) ?_
        refine lv_if_lt (tgt := 75) hx hb dd_X12_feed_40 (by decide) (fun c => absurd c (by decide)) (fun _ => ?_)
        refine lv_aload_n hx hb dd_X12_feed_43 rfl (lv_at hl 1 rfl) ?_
        refine wk_get (v := .ref (q 17)) Sx ef_12 hK hP 0 rfl rfl 17 (by decide) kk_1118 rfl dd_X12_feed_44 ?_
        refine lv_aload_n hx hb dd_X12_feed_47 rfl (lv_at hl 1 rfl) ?_
        refine lv_dup hx hb dd_X12_feed_48 rfl ?_
        refine wk_get (v := .int 0) Sx ef_12 hK hP 0 rfl rfl 16 (by decide) kk_1117 rfl dd_X12_feed_49 ?_
        refine lv_dup_x1 hx hb dd_X12_feed_52 rfl rfl ?_
        refine lv_iconst (v := 1) hx hb dd_X12_feed_53 (by decide) ?_
        refine lv_iadd hx hb dd_X12_feed_54 ?_
        refine wk_int (v := 1) (by decide) ?_
        refine wk_put (ws' := [(q 60, .inr (12, (fM q).set 16 (.int 1))), (q 17, .inl (cy 0, 120, .inl (fun _ => 0))), (q 36, .inl (cy 0, 7, .inl (fun _ => 0)))]) Sx ef_12 hK hP hD hS 0 rfl rfl 16 (by decide) kk_1117 rfl rfl rfl (Nat.le_of_ble_eq_true rfl) dd_X12_feed_55 rfl (fun H locs hP hD hS => ?_)
        refine lv_iload_n hx hb dd_X12_feed_58 rfl (lv_at hl 2 rfl) ?_
        refine lv_bipush (v := 8) hx hb dd_X12_feed_59 (by decide) ?_
        refine lv_iload_n hx hb dd_X12_feed_61 rfl (lv_at hl 0 rfl) ?_
        refine lv_imul hx hb dd_X12_feed_62 ?_
        refine wk_int (v := 24) (by decide) ?_
        refine lv_ishr hx hb dd_X12_feed_63 ?_
        refine lv_topi (fun z19 ez19 => ?_)
        refine lv_sipush (v := 255) hx hb dd_X12_feed_64 (by decide) ?_
        refine lv_iand hx hb dd_X12_feed_67 ?_
        refine lv_topi (fun z20 ez20 => ?_)
        refine wk_iast (ws' := [(q 60, .inr (12, (fM q).set 16 (.int 1))), (q 17, .inl (cy 0, 120, .inl (upd (fun _ => 0) (0 : Int32).toNatClampNeg z20))), (q 36, .inl (cy 0, 7, .inl (fun _ => 0)))]) Sx hK hP hD hS 1 0 rfl rfl (vi_of (by decide)) dd_X12_feed_68 rfl (fun H locs hP hD hS => ?_)
        refine lv_iinc (v := 2) (lv' := [(3, .int 2), (0, .ref (q 60)), (1, .int vv), (2, .int 4)]) hx hb dd_X12_feed_69 hl (k := 0) rfl (by decide) (by decide) rfl (fun ls hl => ?_)
        refine lv_goto (tgt := 39) hx hb dd_X12_feed_72 (by decide) ?_
        refine lv_iload_n hx hb dd_X12_feed_39 rfl (lv_at hl 0 rfl) ?_
        refine lv_if_lt (tgt := 75) hx hb dd_X12_feed_40 (by decide) (fun c => absurd c (by decide)) (fun _ => ?_)
        refine lv_aload_n hx hb dd_X12_feed_43 rfl (lv_at hl 1 rfl) ?_
        refine wk_get (v := .ref (q 17)) Sx ef_12 hK hP 0 rfl rfl 17 (by decide) kk_1118 rfl dd_X12_feed_44 ?_
        refine lv_aload_n hx hb dd_X12_feed_47 rfl (lv_at hl 1 rfl) ?_
        refine lv_dup hx hb dd_X12_feed_48 rfl ?_
        refine wk_get (v := .int 1) Sx ef_12 hK hP 0 rfl rfl 16 (by decide) kk_1117 rfl dd_X12_feed_49 ?_
        refine lv_dup_x1 hx hb dd_X12_feed_52 rfl rfl ?_
        refine lv_iconst (v := 1) hx hb dd_X12_feed_53 (by decide) ?_
        refine lv_iadd hx hb dd_X12_feed_54 ?_
        refine wk_int (v := 2) (by decide) ?_
        refine wk_put (ws' := [(q 60, .inr (12, (fM q).set 16 (.int 2))), (q 17, .inl (cy 0, 120, .inl (upd (fun _ => 0) (0 : Int32).toNatClampNeg z20))), (q 36, .inl (cy 0, 7, .inl (fun _ => 0)))]) Sx ef_12 hK hP hD hS 0 rfl rfl 16 (by decide) kk_1117 rfl rfl rfl (Nat.le_of_ble_eq_true rfl) dd_X12_feed_55 rfl (fun H locs hP hD hS => ?_)
        refine lv_iload_n hx hb dd_X12_feed_58 rfl (lv_at hl 2 rfl) ?_
        refine lv_bipush (v := 8) hx hb dd_X12_feed_59 (by decide) ?_
        refine lv_iload_n hx hb dd_X12_feed_61 rfl (lv_at hl 0 rfl) ?_
        refine lv_imul hx hb dd_X12_feed_62 ?_
        refine wk_int (v := 16) (by decide) ?_
        refine lv_ishr hx hb dd_X12_feed_63 ?_
        refine lv_topi (fun z21 ez21 => ?_)
        refine lv_sipush (v := 255) hx hb dd_X12_feed_64 (by decide) ?_
        refine lv_iand hx hb dd_X12_feed_67 ?_
        refine lv_topi (fun z22 ez22 => ?_)
        refine wk_iast (ws' := [(q 60, .inr (12, (fM q).set 16 (.int 2))), (q 17, .inl (cy 0, 120, .inl (upd (upd (fun _ => 0) (0 : Int32).toNatClampNeg z20) (1 : Int32).toNatClampNeg z22))), (q 36, .inl (cy 0, 7, .inl (fun _ => 0)))]) Sx hK hP hD hS 1 0 rfl rfl (vi_of (by decide)) dd_X12_feed_68 rfl (fun H locs hP hD hS => ?_)
        refine lv_iinc (v := 1) (lv' := [(3, .int 1), (0, .ref (q 60)), (1, .int vv), (2, .int 4)]) hx hb dd_X12_feed_69 hl (k := 0) rfl (by decide) (by decide) rfl (fun ls hl => ?_)
        refine lv_goto (tgt := 39) hx hb dd_X12_feed_72 (by decide) ?_
        refine lv_iload_n hx hb dd_X12_feed_39 rfl (lv_at hl 0 rfl) ?_
        refine lv_if_lt (tgt := 75) hx hb dd_X12_feed_40 (by decide) (fun c => absurd c (by decide)) (fun _ => ?_)
        refine lv_aload_n hx hb dd_X12_feed_43 rfl (lv_at hl 1 rfl) ?_
        refine wk_get (v := .ref (q 17)) Sx ef_12 hK hP 0 rfl rfl 17 (by decide) kk_1118 rfl dd_X12_feed_44 ?_
        refine lv_aload_n hx hb dd_X12_feed_47 rfl (lv_at hl 1 rfl) ?_
        refine lv_dup hx hb dd_X12_feed_48 rfl ?_
        refine wk_get (v := .int 2) Sx ef_12 hK hP 0 rfl rfl 16 (by decide) kk_1117 rfl dd_X12_feed_49 ?_
        refine lv_dup_x1 hx hb dd_X12_feed_52 rfl rfl ?_
        refine lv_iconst (v := 1) hx hb dd_X12_feed_53 (by decide) ?_
        refine lv_iadd hx hb dd_X12_feed_54 ?_
        refine wk_int (v := 3) (by decide) ?_
        refine wk_put (ws' := [(q 60, .inr (12, (fM q).set 16 (.int 3))), (q 17, .inl (cy 0, 120, .inl (upd (upd (fun _ => 0) (0 : Int32).toNatClampNeg z20) (1 : Int32).toNatClampNeg z22))), (q 36, .inl (cy 0, 7, .inl (fun _ => 0)))]) Sx ef_12 hK hP hD hS 0 rfl rfl 16 (by decide) kk_1117 rfl rfl rfl (Nat.le_of_ble_eq_true rfl) dd_X12_feed_55 rfl (fun H locs hP hD hS => ?_)
        refine lv_iload_n hx hb dd_X12_feed_58 rfl (lv_at hl 2 rfl) ?_
        refine lv_bipush (v := 8) hx hb dd_X12_feed_59 (by decide) ?_
        refine lv_iload_n hx hb dd_X12_feed_61 rfl (lv_at hl 0 rfl) ?_
        refine lv_imul hx hb dd_X12_feed_62 ?_
        refine wk_int (v := 8) (by decide) ?_
        refine lv_ishr hx hb dd_X12_feed_63 ?_
        refine lv_topi (fun z23 ez23 => ?_)
        refine lv_sipush (v := 255) hx hb dd_X12_feed_64 (by decide) ?_
        refine lv_iand hx hb dd_X12_feed_67 ?_
        refine lv_topi (fun z24 ez24 => ?_)
        refine wk_iast (ws' := [(q 60, .inr (12, (fM q).set 16 (.int 3))), (q 17, .inl (cy 0, 120, .inl (upd (upd (upd (fun _ => 0) (0 : Int32).toNatClampNeg z20) (1 : Int32).toNatClampNeg z22) (2 : Int32).toNatClampNeg z24))), (q 36, .inl (cy 0, 7, .inl (fun _ => 0)))]) Sx hK hP hD hS 1 0 rfl rfl (vi_of (by decide)) dd_X12_feed_68 rfl (fun H locs hP hD hS => ?_)
        refine lv_iinc (v := 0) (lv' := [(3, .int 0), (0, .ref (q 60)), (1, .int vv), (2, .int 4)]) hx hb dd_X12_feed_69 hl (k := 0) rfl (by decide) (by decide) rfl (fun ls hl => ?_)
        refine lv_goto (tgt := 39) hx hb dd_X12_feed_72 (by decide) ?_
        refine lv_iload_n hx hb dd_X12_feed_39 rfl (lv_at hl 0 rfl) ?_
        refine lv_if_lt (tgt := 75) hx hb dd_X12_feed_40 (by decide) (fun c => absurd c (by decide)) (fun _ => ?_)
        refine lv_aload_n hx hb dd_X12_feed_43 rfl (lv_at hl 1 rfl) ?_
        refine wk_get (v := .ref (q 17)) Sx ef_12 hK hP 0 rfl rfl 17 (by decide) kk_1118 rfl dd_X12_feed_44 ?_
        refine lv_aload_n hx hb dd_X12_feed_47 rfl (lv_at hl 1 rfl) ?_
        refine lv_dup hx hb dd_X12_feed_48 rfl ?_
        refine wk_get (v := .int 3) Sx ef_12 hK hP 0 rfl rfl 16 (by decide) kk_1117 rfl dd_X12_feed_49 ?_
        refine lv_dup_x1 hx hb dd_X12_feed_52 rfl rfl ?_
        refine lv_iconst (v := 1) hx hb dd_X12_feed_53 (by decide) ?_
        refine lv_iadd hx hb dd_X12_feed_54 ?_
        refine wk_int (v := 4) (by decide) ?_
        refine wk_put (ws' := [(q 60, .inr (12, (fM q).set 16 (.int 4))), (q 17, .inl (cy 0, 120, .inl (upd (upd (upd (fun _ => 0) (0 : Int32).toNatClampNeg z20) (1 : Int32).toNatClampNeg z22) (2 : Int32).toNatClampNeg z24))), (q 36, .inl (cy 0, 7, .inl (fun _ => 0)))]) Sx ef_12 hK hP hD hS 0 rfl rfl 16 (by decide) kk_1117 rfl rfl rfl (Nat.le_of_ble_eq_true rfl) dd_X12_feed_55 rfl (fun H locs hP hD hS => ?_)
        refine lv_iload_n hx hb dd_X12_feed_58 rfl (lv_at hl 2 rfl) ?_
        refine lv_bipush (v := 8) hx hb dd_X12_feed_59 (by decide) ?_
        refine lv_iload_n hx hb dd_X12_feed_61 rfl (lv_at hl 0 rfl) ?_
        refine lv_imul hx hb dd_X12_feed_62 ?_
        refine wk_int (v := 0) (by decide) ?_
        refine lv_ishr hx hb dd_X12_feed_63 ?_
        refine lv_topi (fun z25 ez25 => ?_)
        refine lv_sipush (v := 255) hx hb dd_X12_feed_64 (by decide) ?_
        refine lv_iand hx hb dd_X12_feed_67 ?_
        refine lv_topi (fun z26 ez26 => ?_)
        refine wk_iast (ws' := [(q 60, .inr (12, (fM q).set 16 (.int 4))), (q 17, .inl (cy 0, 120, .inl (upd (upd (upd (upd (fun _ => 0) (0 : Int32).toNatClampNeg z20) (1 : Int32).toNatClampNeg z22) (2 : Int32).toNatClampNeg z24) (3 : Int32).toNatClampNeg z26))), (q 36, .inl (cy 0, 7, .inl (fun _ => 0)))]) Sx hK hP hD hS 1 0 rfl rfl (vi_of (by decide)) dd_X12_feed_68 rfl (fun H locs hP hD hS => ?_)
        refine lv_iinc (v := (-1)) (lv' := [(3, .int (-1)), (0, .ref (q 60)), (1, .int vv), (2, .int 4)]) hx hb dd_X12_feed_69 hl (k := 0) rfl (by decide) (by decide) rfl (fun ls hl => ?_)
        refine lv_goto (tgt := 39) hx hb dd_X12_feed_72 (by decide) ?_
        refine lv_iload_n hx hb dd_X12_feed_39 rfl (lv_at hl 0 rfl) ?_
        refine lv_if_lt (tgt := 75) hx hb dd_X12_feed_40 (by decide) (fun _ => ?_) (fun c => absurd c (by decide))
        refine lv_aload_n hx hb dd_X12_feed_75 rfl (lv_at hl 1 rfl) ?_
        refine wk_get (v := .int 4) Sx ef_12 hK hP 0 rfl rfl 16 (by decide) kk_1117 rfl dd_X12_feed_76 ?_
        have htnn : (4 : Int32).toInt = 4 := rfl
        exact hc_ret Sx hr hlocks dd_X12_feed_79 hS () (Or.inl ⟨by omega, rfl⟩) p_nil d_nil
    · have fc5 := ci_nle (a := nn.toInt) (b := 4) rfl rfl c5
      refine lv_aload_n hx hb dd_X12_feed_10 rfl (lv_at hl 0 rfl) ?_
      refine lv_bipush (v := (-2)) hx hb dd_X12_feed_11 (by decide) ?_
      refine hk_i (wr := [(q 17, .inl (cy 0, 120, .inl (fun _ => 0)))]) (c1 := 0) (s1 := 0) [0, 2] [1] (hc_V [.int (-2)] [] [0, 2] Sx hl.1 ws_M_152 md_X12_no (c_M_no_2 l D cy q) ⟨Nat.le_of_ble_eq_true rfl, Nat.le_of_ble_eq_true rfl⟩ hP hD rfl (by decide) hK nx_b (nx_w hX) (va_recv hK hP (ci := 12) (q0 := 0) rfl rfl) rfl rfl (Nat.le_of_ble_eq_true rfl) dd_X12_feed_13 ⟨Nat.le_of_ble_eq_true rfl, Nat.le_of_ble_eq_true rfl⟩) hS hA hP hD rfl rfl (by decide) (by decide) rfl rfl (fun r27 u28 H locs hw29 hP hD hS => ?_)
      have hP : va_P D cls [(q 17, .inl (cy 0, 120, .inl (fun _ => 0)))] H := hP
      have hD : va_D A [(q 17, .inl (cy 0, 120, .inl (fun _ => 0)))] := hD
      subst hw29
      exact hc_ret Sx hr hlocks dd_X12_feed_16 hS () (Or.inr ⟨by omega, rfl⟩) p_nil d_nil
set_option maxHeartbeats 4000000 in
set_option maxRecDepth 100000 in
theorem c_M_pub_best (l : Launch) (D : va_G) (cy : Nat → ClassId) (q : Nat → Nat) : PC l my_X12_best mb_X12_best 6 ((some .int)) (rmD 3 0 0) D (TY cy) [.ref (q 60)] NS [(q 60, .inr (12, fM q))] (vp_Si (fun r => r = 1212)) := by
  refine pc_intro (by decide) (Nat.le_of_ble_eq_true rfl) (fun p e s m below meth c ls Sx hr hlocks hl hP hK hX => ?_)
  have hx := Sx.1
  have hb := Sx.2.1
  have hl : lv_has ls 6 [(0, .ref (q 60))] := hl
  refine lv_iconst (v := 0) hx hb dd_X12_best_0 (by decide) ?_
  refine lv_istore_n (lv' := [(1, .int 0), (0, .ref (q 60))]) hx hb dd_X12_best_1 rfl hl (by decide) rfl (fun ls hl => ?_)
  refine lv_iconst (v := (-1)) hx hb dd_X12_best_2 (by decide) ?_
  refine lv_istore_n (lv' := [(2, .int (-1)), (1, .int 0), (0, .ref (q 60))]) hx hb dd_X12_best_3 rfl hl (by decide) rfl (fun ls hl => ?_)
  refine lv_iconst (v := 0) hx hb dd_X12_best_4 (by decide) ?_
  refine lv_istore_n (lv' := [(3, .int 0), (2, .int (-1)), (1, .int 0), (0, .ref (q 60))]) hx hb dd_X12_best_5 rfl hl (by decide) rfl (fun ls hl => ?_)
  have hlz4 : Int32.toInt 0 = 0 := rfl
  have hlz5 : Int32.toInt (-1) = (-1) := rfl
  have hlz6 : Int32.toInt 0 = 0 := rfl
  have hI9 : 0 ≤ (0 : Int32).toInt ∧ (0 : Int32).toInt ≤ 13 ∧ (-1 : Int32).toInt ≤ 0 ∧ ((0 : Int32).toInt = 0 ∨ (0 : Int32).toInt = 100 * ((0 : Int32).toInt - 1) + 12) := ⟨by omega, by omega, by omega, by omega⟩
  refine pl1 6 6 (fun (u : Int32 × Int32 × Int32) => [(3, .int u.1), (2, .int u.2.1), (1, .int u.2.2), (0, .ref (q 60))]) (fun (u : Int32 × Int32 × Int32) => 0 ≤ u.1.toInt ∧ u.1.toInt ≤ 13 ∧ u.2.1.toInt ≤ 0 ∧ (u.1.toInt = 0 ∨ u.2.2.toInt = 100 * (u.1.toInt - 1) + 12)) (fun (u : Int32 × Int32 × Int32) => (13 - u.1.toInt).toNat) (fun u ls hI8 hl ih7 => ?_) (0, (-1), 0) hI9 (lv_sub hl [0, 1, 2, 3] rfl)
  obtain ⟨x1, y2, w3⟩ := u
  have hl : lv_has ls 6 [(3, .int x1), (2, .int y2), (1, .int w3), (0, .ref (q 60))] := hl
  have hI8 : 0 ≤ x1.toInt ∧ x1.toInt ≤ 13 ∧ y2.toInt ≤ 0 ∧ (x1.toInt = 0 ∨ w3.toInt = 100 * (x1.toInt - 1) + 12) := hI8
  obtain ⟨iv10, iv11, iv12, iv13⟩ := hI8
  refine lv_iload_n hx hb dd_X12_best_6 rfl (lv_at hl 0 rfl) ?_
  refine lv_bipush (v := 12) hx hb dd_X12_best_7 (by decide) ?_
  refine lv_icmp_gt (tgt := 60) hx hb dd_X12_best_9 (by decide) (fun c14 => ?_) (fun c14 => ?_)
  · have fc14 := ci_lt (a := 12) (b := x1.toInt) rfl rfl c14
    refine lv_iload_n hx hb dd_X12_best_60 rfl (lv_at hl 2 rfl) ?_
    exact pc_ret Sx hr hlocks rfl dd_X12_best_61 (ci_of (b := 1212) rfl (by omega))
  · have fc14 := ci_nlt (a := 12) (b := x1.toInt) rfl rfl c14
    refine lv_iload_n hx hb dd_X12_best_12 rfl (lv_at hl 0 rfl) ?_
    refine lv_istore (lv' := [(4, .int x1), (3, .int x1), (2, .int y2), (1, .int w3), (0, .ref (q 60))]) hx hb dd_X12_best_13 hl (by decide) rfl (fun ls hl => ?_)
    have hI20 : x1.toInt ≤ x1.toInt ∧ x1.toInt ≤ 13 ∧ y2.toInt ≤ 0 ∧ (x1.toInt = x1.toInt ∨ w3.toInt = 100 * x1.toInt + (x1.toInt - 1)) := ⟨by omega, by omega, by omega, by omega⟩
    refine pl1 15 6 (fun (u : Int32 × Int32 × Int32) => [(4, .int u.1), (3, .int x1), (2, .int u.2.1), (1, .int u.2.2), (0, .ref (q 60))]) (fun (u : Int32 × Int32 × Int32) => x1.toInt ≤ u.1.toInt ∧ u.1.toInt ≤ 13 ∧ u.2.1.toInt ≤ 0 ∧ (u.1.toInt = x1.toInt ∨ u.2.2.toInt = 100 * x1.toInt + (u.1.toInt - 1))) (fun (u : Int32 × Int32 × Int32) => (13 - u.1.toInt).toNat) (fun u ls hI19 hl ih18 => ?_) (x1, y2, w3) hI20 (lv_sub hl [0, 1, 2, 3, 4] rfl)
    obtain ⟨x15, y16, w17⟩ := u
    have hl : lv_has ls 6 [(4, .int x15), (3, .int x1), (2, .int y16), (1, .int w17), (0, .ref (q 60))] := hl
    have hI19 : x1.toInt ≤ x15.toInt ∧ x15.toInt ≤ 13 ∧ y16.toInt ≤ 0 ∧ (x15.toInt = x1.toInt ∨ w17.toInt = 100 * x1.toInt + (x15.toInt - 1)) := hI19
    obtain ⟨iv21, iv22, iv23, iv24⟩ := hI19
    refine lv_iload hx hb dd_X12_best_15 (lv_at hl 0 rfl) ?_
    refine lv_bipush (v := 12) hx hb dd_X12_best_17 (by decide) ?_
    refine lv_icmp_gt (tgt := 54) hx hb dd_X12_best_19 (by decide) (fun c25 => ?_) (fun c25 => ?_)
    · have fc25 := ci_lt (a := 12) (b := x15.toInt) rfl rfl c25
      obtain ⟨z26, ez26⟩ : ∃ y : Int32, y = x1 + Int32.ofInt 1 := ⟨_, rfl⟩
      have fz26 : z26.toInt = x1.toInt + 1 := by rw [ez26]; exact ti_add rfl (show (Int32.ofInt 1).toInt = 1 by decide) (by omega) (by omega)
      refine lv_iinc (v := z26) (lv' := [(3, .int z26), (4, .int x15), (2, .int y16), (1, .int w17), (0, .ref (q 60))]) hx hb dd_X12_best_54 hl (k := 1) rfl ez26.symm (by decide) rfl (fun ls hl => ?_)
      refine lv_goto (tgt := 6) hx hb dd_X12_best_57 (by decide) ?_
      have hI27 : 0 ≤ z26.toInt ∧ z26.toInt ≤ 13 ∧ y16.toInt ≤ 0 ∧ (z26.toInt = 0 ∨ w17.toInt = 100 * (z26.toInt - 1) + 12) := ⟨by omega, by omega, by omega, by omega⟩
      have hm28 : (13 - z26.toInt).toNat < (13 - x1.toInt).toNat := by omega
      exact ih7 (z26, y16, w17) ls hI27 hm28 (lv_sub hl [0, 2, 3, 4] rfl)
    · have fc25 := ci_nlt (a := 12) (b := x15.toInt) rfl rfl c25
      refine lv_aload_n hx hb dd_X12_best_22 rfl (lv_at hl 4 rfl) ?_
      refine lv_iload_n hx hb dd_X12_best_23 rfl (lv_at hl 1 rfl) ?_
      refine lv_iload hx hb dd_X12_best_24 (lv_at hl 0 rfl) ?_
      refine pk_i (pc_V [.int x1, .int x15] [] Sx hl.1 ws_M_264 md_X12_wholeDay (c_M_wholeDay l D cy q x1 x15) ⟨rfl, rfl⟩ ⟨Nat.le_of_ble_eq_true rfl, Nat.le_of_ble_eq_true rfl⟩ (hP.sub [0] rfl) hK ns_b (ns_w hX) (va_recv hK hP (ci := 12) (q0 := 0) rfl rfl) rfl rfl (Nat.le_of_ble_eq_true rfl) dd_X12_best_26 ⟨Nat.le_of_ble_eq_true rfl, Nat.le_of_ble_eq_true rfl⟩) (fun r29 hw30 => ?_)
      subst hw30
      refine lv_istore (lv' := [(5, .int 0), (4, .int x15), (3, .int x1), (2, .int y16), (1, .int w17), (0, .ref (q 60))]) hx hb dd_X12_best_29 hl (by decide) rfl (fun ls hl => ?_)
      refine lv_iload hx hb dd_X12_best_31 (lv_at hl 0 rfl) ?_
      refine lv_iload_n hx hb dd_X12_best_33 rfl (lv_at hl 3 rfl) ?_
      refine lv_icmp_lt (tgt := 48) hx hb dd_X12_best_34 (by decide) (fun c31 => ?_) (fun c31 => ?_)
      · have fc31 := ci_lt (a := 0) (b := y16.toInt) rfl rfl c31
        exfalso; omega
      · have fc31 := ci_nlt (a := 0) (b := y16.toInt) rfl rfl c31
        refine lv_iload hx hb dd_X12_best_37 (lv_at hl 0 rfl) ?_
        refine lv_istore_n (lv' := [(2, .int 0), (5, .int 0), (4, .int x15), (3, .int x1), (1, .int w17), (0, .ref (q 60))]) hx hb dd_X12_best_39 rfl hl (by decide) rfl (fun ls hl => ?_)
        refine lv_bipush (v := 100) hx hb dd_X12_best_40 (by decide) ?_
        refine lv_iload_n hx hb dd_X12_best_42 rfl (lv_at hl 3 rfl) ?_
        refine lv_imul hx hb dd_X12_best_43 ?_
        refine lv_topi (fun z32 ez32 => ?_)
        have fz32 : z32.toInt = 100 * x1.toInt := by rw [ez32]; exact ti_mul rfl rfl (by omega) (by omega)
        refine lv_iload hx hb dd_X12_best_44 (lv_at hl 2 rfl) ?_
        refine lv_iadd hx hb dd_X12_best_46 ?_
        refine lv_topi (fun z33 ez33 => ?_)
        have fz33 : z33.toInt = z32.toInt + x15.toInt := by rw [ez33]; exact ti_add rfl rfl (by omega) (by omega)
        refine lv_istore_n (lv' := [(1, .int z33), (2, .int 0), (5, .int 0), (4, .int x15), (3, .int x1), (0, .ref (q 60))]) hx hb dd_X12_best_47 rfl hl (by decide) rfl (fun ls hl => ?_)
        obtain ⟨z34, ez34⟩ : ∃ y : Int32, y = x15 + Int32.ofInt 1 := ⟨_, rfl⟩
        have fz34 : z34.toInt = x15.toInt + 1 := by rw [ez34]; exact ti_add rfl (show (Int32.ofInt 1).toInt = 1 by decide) (by omega) (by omega)
        refine lv_iinc (v := z34) (lv' := [(4, .int z34), (1, .int z33), (2, .int 0), (5, .int 0), (3, .int x1), (0, .ref (q 60))]) hx hb dd_X12_best_48 hl (k := 3) rfl ez34.symm (by decide) rfl (fun ls hl => ?_)
        refine lv_goto (tgt := 15) hx hb dd_X12_best_51 (by decide) ?_
        have hlz35 : Int32.toInt 0 = 0 := rfl
        have hI36 : x1.toInt ≤ z34.toInt ∧ z34.toInt ≤ 13 ∧ (0 : Int32).toInt ≤ 0 ∧ (z34.toInt = x1.toInt ∨ z33.toInt = 100 * x1.toInt + (z34.toInt - 1)) := ⟨by omega, by omega, by omega, by omega⟩
        have hm37 : (13 - z34.toInt).toNat < (13 - x15.toInt).toNat := by omega
        exact ih18 (z34, 0, z33) ls hI36 hm37 (lv_sub hl [0, 4, 2, 1, 5] rfl)
set_option maxHeartbeats 4000000 in
set_option maxRecDepth 100000 in
theorem c_M_pub_image (l : Launch) (D : va_G) (cy : Nat → ClassId) (q : Nat → Nat) : HC l my_X12_image mb_X12_image 1 ((some .int)) (rmD 3 0 0) D (TY cy) [.ref (q 60)] NX [(q 60, .inr (12, fM q)), (q 4, .inl (cy 0, 30, .inl (fun _ => 0))), (q 5, .inl (cy 0, 30, .inl (fun _ => 0))), (q 6, .inl (cy 0, 30, .inl (fun _ => 0))), (q 7, .inl (cy 0, 30, .inl (fun _ => 0))), (q 8, .inl (cy 0, 30, .inl (fun _ => 0))), (q 9, .inl (cy 0, 30, .inl (fun _ => 0))), (q 11, .inl (cy 0, 5, .inl (fun _ => 0))), (q 12, .inl (cy 0, 5, .inl (fun _ => 0))), (q 13, .inl (cy 0, 5, .inl (fun _ => 0))), (q 15, .inl (cy 0, 30, .inl (fun _ => 0))), (q 19, .inl (cy 0, 12, .inl (fun _ => 0))), (q 20, .inl (cy 0, 12, .inl (fun _ => 0))), (q 21, .inl (cy 0, 12, .inl (fun _ => 0))), (q 22, .inl (cy 0, 12, .inl (fun _ => 0))), (q 23, .inl (cy 0, 12, .inl (fun _ => 0))), (q 25, .inl (cy 0, 5, .inl (fun _ => 0))), (q 27, .inl (cy 0, 20, .inl (fun _ => 0))), (q 28, .inl (cy 0, 20, .inl (fun _ => 0))), (q 29, .inl (cy 0, 20, .inl (fun _ => 0))), (q 30, .inl (cy 0, 20, .inl (fun _ => 0))), (q 32, .inl (cy 0, 10, .inl (fun _ => 0))), (q 33, .inl (cy 0, 10, .inl (fun _ => 0))), (q 34, .inl (cy 0, 16, .inl (fun _ => 0))), (q 35, .inl (cy 0, 4, .inl (hours0))), (q 38, .inl (cy 0, 460, .inl (fun _ => 0))), (q 39, .inl (cy 0, 7, .inl (fun _ => 0)))] (QI (S := Unit) D (fun r _ => r = 1) (fun _ => [])) := by
  refine hc_intro (by decide) (Nat.le_of_ble_eq_true rfl) (fun p e s m below meth c A ls Sx hr hlocks hin hl hP hD hK hS hA hX => ?_)
  have hx := Sx.1
  have hb := Sx.2.1
  have hl : lv_has ls 1 [(0, .ref (q 60))] := hl
  have hP : va_P D cls [(q 60, .inr (12, fM q)), (q 4, .inl (cy 0, 30, .inl (fun _ => 0))), (q 5, .inl (cy 0, 30, .inl (fun _ => 0))), (q 6, .inl (cy 0, 30, .inl (fun _ => 0))), (q 7, .inl (cy 0, 30, .inl (fun _ => 0))), (q 8, .inl (cy 0, 30, .inl (fun _ => 0))), (q 9, .inl (cy 0, 30, .inl (fun _ => 0))), (q 11, .inl (cy 0, 5, .inl (fun _ => 0))), (q 12, .inl (cy 0, 5, .inl (fun _ => 0))), (q 13, .inl (cy 0, 5, .inl (fun _ => 0))), (q 15, .inl (cy 0, 30, .inl (fun _ => 0))), (q 19, .inl (cy 0, 12, .inl (fun _ => 0))), (q 20, .inl (cy 0, 12, .inl (fun _ => 0))), (q 21, .inl (cy 0, 12, .inl (fun _ => 0))), (q 22, .inl (cy 0, 12, .inl (fun _ => 0))), (q 23, .inl (cy 0, 12, .inl (fun _ => 0))), (q 25, .inl (cy 0, 5, .inl (fun _ => 0))), (q 27, .inl (cy 0, 20, .inl (fun _ => 0))), (q 28, .inl (cy 0, 20, .inl (fun _ => 0))), (q 29, .inl (cy 0, 20, .inl (fun _ => 0))), (q 30, .inl (cy 0, 20, .inl (fun _ => 0))), (q 32, .inl (cy 0, 10, .inl (fun _ => 0))), (q 33, .inl (cy 0, 10, .inl (fun _ => 0))), (q 34, .inl (cy 0, 16, .inl (fun _ => 0))), (q 35, .inl (cy 0, 4, .inl (hours0))), (q 38, .inl (cy 0, 460, .inl (fun _ => 0))), (q 39, .inl (cy 0, 7, .inl (fun _ => 0)))] s.heap := hP
  have hD : va_D A [(q 60, .inr (12, fM q)), (q 4, .inl (cy 0, 30, .inl (fun _ => 0))), (q 5, .inl (cy 0, 30, .inl (fun _ => 0))), (q 6, .inl (cy 0, 30, .inl (fun _ => 0))), (q 7, .inl (cy 0, 30, .inl (fun _ => 0))), (q 8, .inl (cy 0, 30, .inl (fun _ => 0))), (q 9, .inl (cy 0, 30, .inl (fun _ => 0))), (q 11, .inl (cy 0, 5, .inl (fun _ => 0))), (q 12, .inl (cy 0, 5, .inl (fun _ => 0))), (q 13, .inl (cy 0, 5, .inl (fun _ => 0))), (q 15, .inl (cy 0, 30, .inl (fun _ => 0))), (q 19, .inl (cy 0, 12, .inl (fun _ => 0))), (q 20, .inl (cy 0, 12, .inl (fun _ => 0))), (q 21, .inl (cy 0, 12, .inl (fun _ => 0))), (q 22, .inl (cy 0, 12, .inl (fun _ => 0))), (q 23, .inl (cy 0, 12, .inl (fun _ => 0))), (q 25, .inl (cy 0, 5, .inl (fun _ => 0))), (q 27, .inl (cy 0, 20, .inl (fun _ => 0))), (q 28, .inl (cy 0, 20, .inl (fun _ => 0))), (q 29, .inl (cy 0, 20, .inl (fun _ => 0))), (q 30, .inl (cy 0, 20, .inl (fun _ => 0))), (q 32, .inl (cy 0, 10, .inl (fun _ => 0))), (q 33, .inl (cy 0, 10, .inl (fun _ => 0))), (q 34, .inl (cy 0, 16, .inl (fun _ => 0))), (q 35, .inl (cy 0, 4, .inl (hours0))), (q 38, .inl (cy 0, 460, .inl (fun _ => 0))), (q 39, .inl (cy 0, 7, .inl (fun _ => 0)))] := hD
  refine lv_aload_n hx hb dd_X12_image_0 rfl (lv_at hl 0 rfl) ?_
  refine wk_get (v := .ref (q 39)) Sx ef_12 hK hP 0 rfl rfl 39 (by decide) kk_1140 rfl dd_X12_image_1 ?_
  refine lv_iconst (v := 0) hx hb dd_X12_image_4 (by decide) ?_
  refine lv_aload_n hx hb dd_X12_image_5 rfl (lv_at hl 0 rfl) ?_
  refine wk_get (v := .int 0) Sx ef_12 hK hP 0 rfl rfl 3 (by decide) kk_1104 rfl dd_X12_image_6 ?_
  refine wk_iast (ws' := [(q 60, .inr (12, fM q)), (q 4, .inl (cy 0, 30, .inl (fun _ => 0))), (q 5, .inl (cy 0, 30, .inl (fun _ => 0))), (q 6, .inl (cy 0, 30, .inl (fun _ => 0))), (q 7, .inl (cy 0, 30, .inl (fun _ => 0))), (q 8, .inl (cy 0, 30, .inl (fun _ => 0))), (q 9, .inl (cy 0, 30, .inl (fun _ => 0))), (q 11, .inl (cy 0, 5, .inl (fun _ => 0))), (q 12, .inl (cy 0, 5, .inl (fun _ => 0))), (q 13, .inl (cy 0, 5, .inl (fun _ => 0))), (q 15, .inl (cy 0, 30, .inl (fun _ => 0))), (q 19, .inl (cy 0, 12, .inl (fun _ => 0))), (q 20, .inl (cy 0, 12, .inl (fun _ => 0))), (q 21, .inl (cy 0, 12, .inl (fun _ => 0))), (q 22, .inl (cy 0, 12, .inl (fun _ => 0))), (q 23, .inl (cy 0, 12, .inl (fun _ => 0))), (q 25, .inl (cy 0, 5, .inl (fun _ => 0))), (q 27, .inl (cy 0, 20, .inl (fun _ => 0))), (q 28, .inl (cy 0, 20, .inl (fun _ => 0))), (q 29, .inl (cy 0, 20, .inl (fun _ => 0))), (q 30, .inl (cy 0, 20, .inl (fun _ => 0))), (q 32, .inl (cy 0, 10, .inl (fun _ => 0))), (q 33, .inl (cy 0, 10, .inl (fun _ => 0))), (q 34, .inl (cy 0, 16, .inl (fun _ => 0))), (q 35, .inl (cy 0, 4, .inl (hours0))), (q 38, .inl (cy 0, 460, .inl (fun _ => 0))), (q 39, .inl (cy 0, 7, .inl (fun _ => 0)))]) Sx hK hP hD hS 26 0 rfl rfl (vi_of (by decide)) dd_X12_image_9 (by rw [upd_c]; rfl) (fun H locs hP hD hS => ?_)
  refine lv_aload_n hx hb dd_X12_image_10 rfl (lv_at hl 0 rfl) ?_
  refine wk_get (v := .ref (q 39)) Sx ef_12 hK hP 0 rfl rfl 39 (by decide) kk_1140 rfl dd_X12_image_11 ?_
  refine lv_iconst (v := 1) hx hb dd_X12_image_14 (by decide) ?_
  refine lv_aload_n hx hb dd_X12_image_15 rfl (lv_at hl 0 rfl) ?_
  refine wk_get (v := .int 0) Sx ef_12 hK hP 0 rfl rfl 10 (by decide) kk_1111 rfl dd_X12_image_16 ?_
  refine wk_iast (ws' := [(q 60, .inr (12, fM q)), (q 4, .inl (cy 0, 30, .inl (fun _ => 0))), (q 5, .inl (cy 0, 30, .inl (fun _ => 0))), (q 6, .inl (cy 0, 30, .inl (fun _ => 0))), (q 7, .inl (cy 0, 30, .inl (fun _ => 0))), (q 8, .inl (cy 0, 30, .inl (fun _ => 0))), (q 9, .inl (cy 0, 30, .inl (fun _ => 0))), (q 11, .inl (cy 0, 5, .inl (fun _ => 0))), (q 12, .inl (cy 0, 5, .inl (fun _ => 0))), (q 13, .inl (cy 0, 5, .inl (fun _ => 0))), (q 15, .inl (cy 0, 30, .inl (fun _ => 0))), (q 19, .inl (cy 0, 12, .inl (fun _ => 0))), (q 20, .inl (cy 0, 12, .inl (fun _ => 0))), (q 21, .inl (cy 0, 12, .inl (fun _ => 0))), (q 22, .inl (cy 0, 12, .inl (fun _ => 0))), (q 23, .inl (cy 0, 12, .inl (fun _ => 0))), (q 25, .inl (cy 0, 5, .inl (fun _ => 0))), (q 27, .inl (cy 0, 20, .inl (fun _ => 0))), (q 28, .inl (cy 0, 20, .inl (fun _ => 0))), (q 29, .inl (cy 0, 20, .inl (fun _ => 0))), (q 30, .inl (cy 0, 20, .inl (fun _ => 0))), (q 32, .inl (cy 0, 10, .inl (fun _ => 0))), (q 33, .inl (cy 0, 10, .inl (fun _ => 0))), (q 34, .inl (cy 0, 16, .inl (fun _ => 0))), (q 35, .inl (cy 0, 4, .inl (hours0))), (q 38, .inl (cy 0, 460, .inl (fun _ => 0))), (q 39, .inl (cy 0, 7, .inl (fun _ => 0)))]) Sx hK hP hD hS 26 0 rfl rfl (vi_of (by decide)) dd_X12_image_19 (by rw [upd_c]; rfl) (fun H locs hP hD hS => ?_)
  refine lv_aload_n hx hb dd_X12_image_20 rfl (lv_at hl 0 rfl) ?_
  refine wk_get (v := .ref (q 39)) Sx ef_12 hK hP 0 rfl rfl 39 (by decide) kk_1140 rfl dd_X12_image_21 ?_
  refine lv_iconst (v := 2) hx hb dd_X12_image_24 (by decide) ?_
  refine lv_aload_n hx hb dd_X12_image_25 rfl (lv_at hl 0 rfl) ?_
  refine wk_get (v := .int 0) Sx ef_12 hK hP 0 rfl rfl 14 (by decide) kk_1115 rfl dd_X12_image_26 ?_
  refine wk_iast (ws' := [(q 60, .inr (12, fM q)), (q 4, .inl (cy 0, 30, .inl (fun _ => 0))), (q 5, .inl (cy 0, 30, .inl (fun _ => 0))), (q 6, .inl (cy 0, 30, .inl (fun _ => 0))), (q 7, .inl (cy 0, 30, .inl (fun _ => 0))), (q 8, .inl (cy 0, 30, .inl (fun _ => 0))), (q 9, .inl (cy 0, 30, .inl (fun _ => 0))), (q 11, .inl (cy 0, 5, .inl (fun _ => 0))), (q 12, .inl (cy 0, 5, .inl (fun _ => 0))), (q 13, .inl (cy 0, 5, .inl (fun _ => 0))), (q 15, .inl (cy 0, 30, .inl (fun _ => 0))), (q 19, .inl (cy 0, 12, .inl (fun _ => 0))), (q 20, .inl (cy 0, 12, .inl (fun _ => 0))), (q 21, .inl (cy 0, 12, .inl (fun _ => 0))), (q 22, .inl (cy 0, 12, .inl (fun _ => 0))), (q 23, .inl (cy 0, 12, .inl (fun _ => 0))), (q 25, .inl (cy 0, 5, .inl (fun _ => 0))), (q 27, .inl (cy 0, 20, .inl (fun _ => 0))), (q 28, .inl (cy 0, 20, .inl (fun _ => 0))), (q 29, .inl (cy 0, 20, .inl (fun _ => 0))), (q 30, .inl (cy 0, 20, .inl (fun _ => 0))), (q 32, .inl (cy 0, 10, .inl (fun _ => 0))), (q 33, .inl (cy 0, 10, .inl (fun _ => 0))), (q 34, .inl (cy 0, 16, .inl (fun _ => 0))), (q 35, .inl (cy 0, 4, .inl (hours0))), (q 38, .inl (cy 0, 460, .inl (fun _ => 0))), (q 39, .inl (cy 0, 7, .inl (fun _ => 0)))]) Sx hK hP hD hS 26 0 rfl rfl (vi_of (by decide)) dd_X12_image_29 (by rw [upd_c]; rfl) (fun H locs hP hD hS => ?_)
  refine lv_aload_n hx hb dd_X12_image_30 rfl (lv_at hl 0 rfl) ?_
  refine wk_get (v := .ref (q 39)) Sx ef_12 hK hP 0 rfl rfl 39 (by decide) kk_1140 rfl dd_X12_image_31 ?_
  refine lv_iconst (v := 3) hx hb dd_X12_image_34 (by decide) ?_
  refine lv_aload_n hx hb dd_X12_image_35 rfl (lv_at hl 0 rfl) ?_
  refine wk_get (v := .int 0) Sx ef_12 hK hP 0 rfl rfl 18 (by decide) kk_1119 rfl dd_X12_image_36 ?_
  refine wk_iast (ws' := [(q 60, .inr (12, fM q)), (q 4, .inl (cy 0, 30, .inl (fun _ => 0))), (q 5, .inl (cy 0, 30, .inl (fun _ => 0))), (q 6, .inl (cy 0, 30, .inl (fun _ => 0))), (q 7, .inl (cy 0, 30, .inl (fun _ => 0))), (q 8, .inl (cy 0, 30, .inl (fun _ => 0))), (q 9, .inl (cy 0, 30, .inl (fun _ => 0))), (q 11, .inl (cy 0, 5, .inl (fun _ => 0))), (q 12, .inl (cy 0, 5, .inl (fun _ => 0))), (q 13, .inl (cy 0, 5, .inl (fun _ => 0))), (q 15, .inl (cy 0, 30, .inl (fun _ => 0))), (q 19, .inl (cy 0, 12, .inl (fun _ => 0))), (q 20, .inl (cy 0, 12, .inl (fun _ => 0))), (q 21, .inl (cy 0, 12, .inl (fun _ => 0))), (q 22, .inl (cy 0, 12, .inl (fun _ => 0))), (q 23, .inl (cy 0, 12, .inl (fun _ => 0))), (q 25, .inl (cy 0, 5, .inl (fun _ => 0))), (q 27, .inl (cy 0, 20, .inl (fun _ => 0))), (q 28, .inl (cy 0, 20, .inl (fun _ => 0))), (q 29, .inl (cy 0, 20, .inl (fun _ => 0))), (q 30, .inl (cy 0, 20, .inl (fun _ => 0))), (q 32, .inl (cy 0, 10, .inl (fun _ => 0))), (q 33, .inl (cy 0, 10, .inl (fun _ => 0))), (q 34, .inl (cy 0, 16, .inl (fun _ => 0))), (q 35, .inl (cy 0, 4, .inl (hours0))), (q 38, .inl (cy 0, 460, .inl (fun _ => 0))), (q 39, .inl (cy 0, 7, .inl (fun _ => 0)))]) Sx hK hP hD hS 26 0 rfl rfl (vi_of (by decide)) dd_X12_image_39 (by rw [upd_c]; rfl) (fun H locs hP hD hS => ?_)
  refine lv_aload_n hx hb dd_X12_image_40 rfl (lv_at hl 0 rfl) ?_
  refine wk_get (v := .ref (q 39)) Sx ef_12 hK hP 0 rfl rfl 39 (by decide) kk_1140 rfl dd_X12_image_41 ?_
  refine lv_iconst (v := 4) hx hb dd_X12_image_44 (by decide) ?_
  refine lv_aload_n hx hb dd_X12_image_45 rfl (lv_at hl 0 rfl) ?_
  refine wk_get (v := .int 0) Sx ef_12 hK hP 0 rfl rfl 24 (by decide) kk_1125 rfl dd_X12_image_46 ?_
  refine wk_iast (ws' := [(q 60, .inr (12, fM q)), (q 4, .inl (cy 0, 30, .inl (fun _ => 0))), (q 5, .inl (cy 0, 30, .inl (fun _ => 0))), (q 6, .inl (cy 0, 30, .inl (fun _ => 0))), (q 7, .inl (cy 0, 30, .inl (fun _ => 0))), (q 8, .inl (cy 0, 30, .inl (fun _ => 0))), (q 9, .inl (cy 0, 30, .inl (fun _ => 0))), (q 11, .inl (cy 0, 5, .inl (fun _ => 0))), (q 12, .inl (cy 0, 5, .inl (fun _ => 0))), (q 13, .inl (cy 0, 5, .inl (fun _ => 0))), (q 15, .inl (cy 0, 30, .inl (fun _ => 0))), (q 19, .inl (cy 0, 12, .inl (fun _ => 0))), (q 20, .inl (cy 0, 12, .inl (fun _ => 0))), (q 21, .inl (cy 0, 12, .inl (fun _ => 0))), (q 22, .inl (cy 0, 12, .inl (fun _ => 0))), (q 23, .inl (cy 0, 12, .inl (fun _ => 0))), (q 25, .inl (cy 0, 5, .inl (fun _ => 0))), (q 27, .inl (cy 0, 20, .inl (fun _ => 0))), (q 28, .inl (cy 0, 20, .inl (fun _ => 0))), (q 29, .inl (cy 0, 20, .inl (fun _ => 0))), (q 30, .inl (cy 0, 20, .inl (fun _ => 0))), (q 32, .inl (cy 0, 10, .inl (fun _ => 0))), (q 33, .inl (cy 0, 10, .inl (fun _ => 0))), (q 34, .inl (cy 0, 16, .inl (fun _ => 0))), (q 35, .inl (cy 0, 4, .inl (hours0))), (q 38, .inl (cy 0, 460, .inl (fun _ => 0))), (q 39, .inl (cy 0, 7, .inl (fun _ => 0)))]) Sx hK hP hD hS 26 0 rfl rfl (vi_of (by decide)) dd_X12_image_49 (by rw [upd_c]; rfl) (fun H locs hP hD hS => ?_)
  refine lv_aload_n hx hb dd_X12_image_50 rfl (lv_at hl 0 rfl) ?_
  refine wk_get (v := .ref (q 39)) Sx ef_12 hK hP 0 rfl rfl 39 (by decide) kk_1140 rfl dd_X12_image_51 ?_
  refine lv_iconst (v := 5) hx hb dd_X12_image_54 (by decide) ?_
  refine lv_aload_n hx hb dd_X12_image_55 rfl (lv_at hl 0 rfl) ?_
  refine wk_get (v := .int 0) Sx ef_12 hK hP 0 rfl rfl 26 (by decide) kk_1127 rfl dd_X12_image_56 ?_
  refine wk_iast (ws' := [(q 60, .inr (12, fM q)), (q 4, .inl (cy 0, 30, .inl (fun _ => 0))), (q 5, .inl (cy 0, 30, .inl (fun _ => 0))), (q 6, .inl (cy 0, 30, .inl (fun _ => 0))), (q 7, .inl (cy 0, 30, .inl (fun _ => 0))), (q 8, .inl (cy 0, 30, .inl (fun _ => 0))), (q 9, .inl (cy 0, 30, .inl (fun _ => 0))), (q 11, .inl (cy 0, 5, .inl (fun _ => 0))), (q 12, .inl (cy 0, 5, .inl (fun _ => 0))), (q 13, .inl (cy 0, 5, .inl (fun _ => 0))), (q 15, .inl (cy 0, 30, .inl (fun _ => 0))), (q 19, .inl (cy 0, 12, .inl (fun _ => 0))), (q 20, .inl (cy 0, 12, .inl (fun _ => 0))), (q 21, .inl (cy 0, 12, .inl (fun _ => 0))), (q 22, .inl (cy 0, 12, .inl (fun _ => 0))), (q 23, .inl (cy 0, 12, .inl (fun _ => 0))), (q 25, .inl (cy 0, 5, .inl (fun _ => 0))), (q 27, .inl (cy 0, 20, .inl (fun _ => 0))), (q 28, .inl (cy 0, 20, .inl (fun _ => 0))), (q 29, .inl (cy 0, 20, .inl (fun _ => 0))), (q 30, .inl (cy 0, 20, .inl (fun _ => 0))), (q 32, .inl (cy 0, 10, .inl (fun _ => 0))), (q 33, .inl (cy 0, 10, .inl (fun _ => 0))), (q 34, .inl (cy 0, 16, .inl (fun _ => 0))), (q 35, .inl (cy 0, 4, .inl (hours0))), (q 38, .inl (cy 0, 460, .inl (fun _ => 0))), (q 39, .inl (cy 0, 7, .inl (fun _ => 0)))]) Sx hK hP hD hS 26 0 rfl rfl (vi_of (by decide)) dd_X12_image_59 (by rw [upd_c]; rfl) (fun H locs hP hD hS => ?_)
  refine lv_aload_n hx hb dd_X12_image_60 rfl (lv_at hl 0 rfl) ?_
  refine wk_get (v := .ref (q 39)) Sx ef_12 hK hP 0 rfl rfl 39 (by decide) kk_1140 rfl dd_X12_image_61 ?_
  refine lv_bipush (v := 6) hx hb dd_X12_image_64 (by decide) ?_
  refine lv_aload_n hx hb dd_X12_image_66 rfl (lv_at hl 0 rfl) ?_
  refine wk_get (v := .int 0) Sx ef_12 hK hP 0 rfl rfl 31 (by decide) kk_1132 rfl dd_X12_image_67 ?_
  refine wk_iast (ws' := [(q 60, .inr (12, fM q)), (q 4, .inl (cy 0, 30, .inl (fun _ => 0))), (q 5, .inl (cy 0, 30, .inl (fun _ => 0))), (q 6, .inl (cy 0, 30, .inl (fun _ => 0))), (q 7, .inl (cy 0, 30, .inl (fun _ => 0))), (q 8, .inl (cy 0, 30, .inl (fun _ => 0))), (q 9, .inl (cy 0, 30, .inl (fun _ => 0))), (q 11, .inl (cy 0, 5, .inl (fun _ => 0))), (q 12, .inl (cy 0, 5, .inl (fun _ => 0))), (q 13, .inl (cy 0, 5, .inl (fun _ => 0))), (q 15, .inl (cy 0, 30, .inl (fun _ => 0))), (q 19, .inl (cy 0, 12, .inl (fun _ => 0))), (q 20, .inl (cy 0, 12, .inl (fun _ => 0))), (q 21, .inl (cy 0, 12, .inl (fun _ => 0))), (q 22, .inl (cy 0, 12, .inl (fun _ => 0))), (q 23, .inl (cy 0, 12, .inl (fun _ => 0))), (q 25, .inl (cy 0, 5, .inl (fun _ => 0))), (q 27, .inl (cy 0, 20, .inl (fun _ => 0))), (q 28, .inl (cy 0, 20, .inl (fun _ => 0))), (q 29, .inl (cy 0, 20, .inl (fun _ => 0))), (q 30, .inl (cy 0, 20, .inl (fun _ => 0))), (q 32, .inl (cy 0, 10, .inl (fun _ => 0))), (q 33, .inl (cy 0, 10, .inl (fun _ => 0))), (q 34, .inl (cy 0, 16, .inl (fun _ => 0))), (q 35, .inl (cy 0, 4, .inl (hours0))), (q 38, .inl (cy 0, 460, .inl (fun _ => 0))), (q 39, .inl (cy 0, 7, .inl (fun _ => 0)))]) Sx hK hP hD hS 26 0 rfl rfl (vi_of (by decide)) dd_X12_image_70 (by rw [upd_c]; rfl) (fun H locs hP hD hS => ?_)
  refine lv_aload_n hx hb dd_X12_image_71 rfl (lv_at hl 0 rfl) ?_
  refine lv_iconst (v := 1) hx hb dd_X12_image_72 (by decide) ?_
  refine hk_v (wr := []) (c1 := 0) (s1 := 0) [0, 26, 1, 2, 3, 4, 5, 6, 7, 8, 9, 10, 11, 12, 13, 14, 15, 16, 17, 18, 19, 20, 21, 22, 23, 24, 25] [] (hc_V [.int 1] [] [0, 26, 1, 2, 3, 4, 5, 6, 7, 8, 9, 10, 11, 12, 13, 14, 15, 16, 17, 18, 19, 20, 21, 22, 23, 24, 25] Sx hl.1 ws_M_306 md_X12_moveAll (c_M_moveAll l D cy q) ⟨Nat.le_of_ble_eq_true rfl, Nat.le_of_ble_eq_true rfl⟩ hP hD rfl (by decide) hK nx_b (nx_w hX) (va_recv hK hP (ci := 12) (q0 := 0) rfl rfl) rfl rfl (Nat.le_of_ble_eq_true rfl) dd_X12_image_73 ⟨Nat.le_of_ble_eq_true rfl, Nat.le_of_ble_eq_true rfl⟩) hS hA hP hD rfl rfl (by decide) (by decide) rfl rfl (fun u2 H locs hw3 hP hD hS => ?_)
  have hP : va_P D cls [(q 60, .inr (12, fM q))] H := hP
  have hD : va_D A [(q 60, .inr (12, fM q))] := hD
  refine lv_aload_n hx hb dd_X12_image_76 rfl (lv_at hl 0 rfl) ?_
  refine lv_iconst (v := 1) hx hb dd_X12_image_77 (by decide) ?_
  refine wk_put (ws' := [(q 60, .inr (12, (fM q).set 37 (.int 1)))]) Sx ef_12 hK hP hD hS 0 rfl rfl 37 (by decide) kk_1138 rfl rfl rfl (Nat.le_of_ble_eq_true rfl) dd_X12_image_78 rfl (fun H locs hP hD hS => ?_)
  refine lv_iconst (v := 1) hx hb dd_X12_image_81 (by decide) ?_
  exact hc_ret Sx hr hlocks dd_X12_image_82 hS () rfl p_nil d_nil
set_option maxHeartbeats 4000000 in
set_option maxRecDepth 100000 in
theorem c_M_pub_go (l : Launch) (D : va_G) (cy : Nat → ClassId) (q : Nat → Nat) (nn : Int32) : HC l my_X12_go mb_X12_go 8 ((some .int)) (rmD 2 0 0) D (TY cy) [.ref (q 60), .int nn] NX [(q 60, .inr (12, fM q)), (q 35, .inl (cy 0, 4, .inl (hours0))), (q 36, .inl (cy 0, 7, .inl (fun _ => 0)))] (QI (S := Unit) D (fun r _ => if2 (1 ≤ nn.toInt ∧ nn.toInt ≤ 12) 0 (-2) r) (fun _ => [])) := by
  refine hc_intro (by decide) (Nat.le_of_ble_eq_true rfl) (fun p e s m below meth c A ls Sx hr hlocks hin hl hP hD hK hS hA hX => ?_)
  have hx := Sx.1
  have hb := Sx.2.1
  have hl : lv_has ls 8 [(0, .ref (q 60)), (1, .int nn)] := hl
  have hP : va_P D cls [(q 60, .inr (12, fM q)), (q 35, .inl (cy 0, 4, .inl (hours0))), (q 36, .inl (cy 0, 7, .inl (fun _ => 0)))] s.heap := hP
  have hD : va_D A [(q 60, .inr (12, fM q)), (q 35, .inl (cy 0, 4, .inl (hours0))), (q 36, .inl (cy 0, 7, .inl (fun _ => 0)))] := hD
  refine lv_iload_n hx hb dd_X12_go_0 rfl (lv_at hl 1 rfl) ?_
  refine lv_iconst (v := 1) hx hb dd_X12_go_1 (by decide) ?_
  refine lv_icmp_lt (tgt := 11) hx hb dd_X12_go_2 (by decide) (fun c1 => ?_) (fun c1 => ?_)
  · have fc1 := ci_lt (a := nn.toInt) (b := 1) rfl rfl c1
    refine lv_aload_n hx hb dd_X12_go_11 rfl (lv_at hl 0 rfl) ?_
    refine lv_bipush (v := (-2)) hx hb dd_X12_go_12 (by decide) ?_
    refine hk_i (wr := [(q 35, .inl (cy 0, 4, .inl (hours0)))]) (c1 := 0) (s1 := 0) [0, 2] [1] (hc_V [.int (-2)] [] [0, 2] Sx hl.1 ws_M_152 md_X12_no (c_M_no_2 l D cy q) ⟨Nat.le_of_ble_eq_true rfl, Nat.le_of_ble_eq_true rfl⟩ hP hD rfl (by decide) hK nx_b (nx_w hX) (va_recv hK hP (ci := 12) (q0 := 0) rfl rfl) rfl rfl (Nat.le_of_ble_eq_true rfl) dd_X12_go_14 ⟨Nat.le_of_ble_eq_true rfl, Nat.le_of_ble_eq_true rfl⟩) hS hA hP hD rfl rfl (by decide) (by decide) rfl rfl (fun r2 u3 H locs hw4 hP hD hS => ?_)
    have hP : va_P D cls [(q 35, .inl (cy 0, 4, .inl (hours0)))] H := hP
    have hD : va_D A [(q 35, .inl (cy 0, 4, .inl (hours0)))] := hD
    subst hw4
    exact hc_ret Sx hr hlocks dd_X12_go_17 hS () (Or.inr ⟨by omega, rfl⟩) p_nil d_nil
  · have fc1 := ci_nlt (a := nn.toInt) (b := 1) rfl rfl c1
    refine lv_iload_n hx hb dd_X12_go_5 rfl (lv_at hl 1 rfl) ?_
    refine lv_bipush (v := 12) hx hb dd_X12_go_6 (by decide) ?_
    refine lv_icmp_le (tgt := 18) hx hb dd_X12_go_8 (by decide) (fun c5 => ?_) (fun c5 => ?_)
    · have fc5 := ci_le (a := nn.toInt) (b := 12) rfl rfl c5
      refine lv_aload_n hx hb dd_X12_go_18 rfl (lv_at hl 0 rfl) ?_
      refine wk_get (v := .ref (q 35)) Sx ef_12 hK hP 0 rfl rfl 35 (by decide) kk_1136 rfl dd_X12_go_19 ?_
      refine lv_iconst (v := 2) hx hb dd_X12_go_22 (by decide) ?_
      have hi6 : vp_in 2 4 := (vi_of (by decide))
      refine va_iald hx hb hK hP 1 0 rfl rfl hi6 dd_X12_go_23 ?_
      refine wk_int (v := 0) (by decide) ?_
      refine lv_bipush (v := 12) hx hb dd_X12_go_24 (by decide) ?_
      refine lv_icmp_ne (tgt := 36) hx hb dd_X12_go_26 (by decide) (fun _ => ?_) (fun c => absurd c (by decide))
      refine lv_aload_n hx hb dd_X12_go_36 rfl (lv_at hl 0 rfl) ?_
      refine pk_v (pc_V [] [] Sx hl.1 ws_M_258 md_X12_asNow (c_M_asNow l D cy q) ⟨rfl, rfl⟩ ⟨Nat.le_of_ble_eq_true rfl, Nat.le_of_ble_eq_true rfl⟩ (hP.sub [0] rfl) hK ns_b (ns_w hX) (va_recv hK hP (ci := 12) (q0 := 0) rfl rfl) rfl rfl (Nat.le_of_ble_eq_true rfl) dd_X12_go_37 ⟨Nat.le_of_ble_eq_true rfl, Nat.le_of_ble_eq_true rfl⟩) (fun _ => ?_)
      refine lv_iconst (v := 0) hx hb dd_X12_go_40 (by decide) ?_
      refine lv_istore_n (lv' := [(2, .int 0), (0, .ref (q 60)), (1, .int nn)]) hx hb dd_X12_go_41 rfl hl (by decide) rfl (fun ls hl => ?_)
      refine lv_iconst (v := 0) hx hb dd_X12_go_42 (by decide) ?_
      refine lv_istore_n (lv' := [(3, .int 0), (2, .int 0), (0, .ref (q 60)), (1, .int nn)]) hx hb dd_X12_go_43 rfl hl (by decide) rfl (fun ls hl => ?_)
      have hlz9 : Int32.toInt 0 = 0 := rfl
      have hI12 : 0 ≤ (0 : Int32).toInt ∧ (0 : Int32).toInt ≤ nn.toInt ∧ (((hours0) : Nat → Int32) 2).toInt = (0 : Int32).toInt := ⟨by omega, by omega, by rfl⟩
      refine gl1 44 8 (fun (u : Int32 × (Nat → Int32)) => [(q 60, .inr (12, fM q)), (q 35, .inl (cy 0, 4, .inl (u.2))), (q 36, .inl (cy 0, 7, .inl (fun _ => 0)))]) (fun (u : Int32 × (Nat → Int32)) => [(3, .int u.1), (2, .int 0), (0, .ref (q 60)), (1, .int nn)]) (fun (u : Int32 × (Nat → Int32)) => 0 ≤ u.1.toInt ∧ u.1.toInt ≤ nn.toInt ∧ (u.2 2).toInt = u.1.toInt) (fun (u : Int32 × (Nat → Int32)) => (nn.toInt - u.1.toInt).toNat) (fun u H locs ls hI11 hl hP hD hS ih10 => ?_) (0, hours0) hI12 (lv_sub hl [0, 1, 2, 3] rfl) hP hD hS
      obtain ⟨k8, f7⟩ := u
      have hl : lv_has ls 8 [(3, .int k8), (2, .int 0), (0, .ref (q 60)), (1, .int nn)] := hl
      have hP : va_P D cls [(q 60, .inr (12, fM q)), (q 35, .inl (cy 0, 4, .inl (f7))), (q 36, .inl (cy 0, 7, .inl (fun _ => 0)))] H := hP
      have hD : va_D A [(q 60, .inr (12, fM q)), (q 35, .inl (cy 0, 4, .inl (f7))), (q 36, .inl (cy 0, 7, .inl (fun _ => 0)))] := hD
      have hI11 : 0 ≤ k8.toInt ∧ k8.toInt ≤ nn.toInt ∧ (f7 2).toInt = k8.toInt := hI11
      obtain ⟨iv13, iv14, iv15⟩ := hI11
      refine lv_iload_n hx hb dd_X12_go_44 rfl (lv_at hl 0 rfl) ?_
      refine lv_iload_n hx hb dd_X12_go_45 rfl (lv_at hl 3 rfl) ?_
      refine lv_icmp_ge (tgt := 220) hx hb dd_X12_go_46 (by decide) (fun c16 => ?_) (fun c16 => ?_)
      · have fc16 := ci_le (a := nn.toInt) (b := k8.toInt) rfl rfl c16
        refine lv_aload_n hx hb dd_X12_go_220 rfl (lv_at hl 2 rfl) ?_
        refine wk_get (v := .ref (q 35)) Sx ef_12 hK hP 0 rfl rfl 35 (by decide) kk_1136 rfl dd_X12_go_221 ?_
        refine lv_iconst (v := 3) hx hb dd_X12_go_224 (by decide) ?_
        refine lv_dup2_11 hx hb dd_X12_go_225 rfl rfl ?_
        have hi17 : vp_in 3 4 := (vi_of (by decide))
        refine va_iald hx hb hK hP 1 0 rfl rfl hi17 dd_X12_go_226 ?_
        refine lv_topi (fun z18 ez18 => ?_)
        refine lv_iload_n hx hb dd_X12_go_227 rfl (lv_at hl 1 rfl) ?_
        refine lv_iadd hx hb dd_X12_go_228 ?_
        refine lv_topi (fun z19 ez19 => ?_)
        refine wk_iast (ws' := [(q 60, .inr (12, fM q)), (q 35, .inl (cy 0, 4, .inl (upd f7 (3 : Int32).toNatClampNeg z19))), (q 36, .inl (cy 0, 7, .inl (fun _ => 0)))]) Sx hK hP hD hS 1 0 rfl rfl (vi_of (by decide)) dd_X12_go_229 rfl (fun H locs hP hD hS => ?_)
        refine lv_iload_n hx hb dd_X12_go_230 rfl (lv_at hl 1 rfl) ?_
        exact hc_ret Sx hr hlocks dd_X12_go_231 hS () (Or.inl ⟨by omega, rfl⟩) p_nil d_nil
      · have fc16 := ci_nle (a := nn.toInt) (b := k8.toInt) rfl rfl c16
        refine lv_aload_n hx hb dd_X12_go_49 rfl (lv_at hl 2 rfl) ?_
        refine wk_get (v := .ref (q 35)) Sx ef_12 hK hP 0 rfl rfl 35 (by decide) kk_1136 rfl dd_X12_go_50 ?_
        refine lv_iconst (v := 2) hx hb dd_X12_go_53 (by decide) ?_
        have hi20 : vp_in 2 4 := (vi_of (by decide))
        refine va_iald hx hb hK hP 1 0 rfl rfl hi20 dd_X12_go_54 ?_
        refine lv_topi (fun z21 ez21 => ?_)
        have fz21 : z21.toInt = k8.toInt := by rw [ez21]; exact iv15
        refine lv_bipush (v := 12) hx hb dd_X12_go_55 (by decide) ?_
        refine lv_icmp_ge (tgt := 220) hx hb dd_X12_go_57 (by decide) (fun c22 => ?_) (fun c22 => ?_)
        · have fc22 := ci_le (a := 12) (b := z21.toInt) rfl rfl c22
          exfalso; omega
        · have fc22 := ci_nle (a := 12) (b := z21.toInt) rfl rfl c22
          refine lv_aload_n hx hb dd_X12_go_60 rfl (lv_at hl 2 rfl) ?_
          refine wk_get (v := .ref (q 35)) Sx ef_12 hK hP 0 rfl rfl 35 (by decide) kk_1136 rfl dd_X12_go_61 ?_
          refine lv_iconst (v := 2) hx hb dd_X12_go_64 (by decide) ?_
          have hi23 : vp_in 2 4 := (vi_of (by decide))
          refine va_iald hx hb hK hP 1 0 rfl rfl hi23 dd_X12_go_65 ?_
          refine lv_topi (fun z24 ez24 => ?_)
          have fz24 : z24.toInt = k8.toInt := by rw [ez24]; exact iv15
          refine lv_istore (lv' := [(4, .int z24), (3, .int k8), (2, .int 0), (0, .ref (q 60)), (1, .int nn)]) hx hb dd_X12_go_66 hl (by decide) rfl (fun ls hl => ?_)
          refine lv_iconst (v := 0) hx hb dd_X12_go_68 (by decide) ?_
          refine lv_istore (lv' := [(5, .int 0), (4, .int z24), (3, .int k8), (2, .int 0), (0, .ref (q 60)), (1, .int nn)]) hx hb dd_X12_go_69 hl (by decide) rfl (fun ls hl => ?_)
          refine lv_iload hx hb dd_X12_go_71 (lv_at hl 0 rfl) ?_
          refine lv_aload_n hx hb dd_X12_go_73 rfl (lv_at hl 4 rfl) ?_
          refine wk_get (v := .int 0) Sx ef_12 hK hP 0 rfl rfl 18 (by decide) kk_1119 rfl dd_X12_go_74 ?_
          refine lv_icmp_ge (tgt := 204) hx hb dd_X12_go_77 (by decide) (fun _ => ?_) (fun c => absurd c (by decide))
          refine lv_aload_n hx hb dd_X12_go_204 rfl (lv_at hl 4 rfl) ?_
          refine wk_get (v := .ref (q 35)) Sx ef_12 hK hP 0 rfl rfl 35 (by decide) kk_1136 rfl dd_X12_go_205 ?_
          refine lv_iconst (v := 2) hx hb dd_X12_go_208 (by decide) ?_
          refine lv_dup2_11 hx hb dd_X12_go_209 rfl rfl ?_
          have hi25 : vp_in 2 4 := (vi_of (by decide))
          refine va_iald hx hb hK hP 1 0 rfl rfl hi25 dd_X12_go_210 ?_
          refine lv_topi (fun z26 ez26 => ?_)
          have fz26 : z26.toInt = k8.toInt := by rw [ez26]; exact iv15
          refine lv_iconst (v := 1) hx hb dd_X12_go_211 (by decide) ?_
          refine lv_iadd hx hb dd_X12_go_212 ?_
          refine lv_topi (fun z27 ez27 => ?_)
          have fz27 : z27.toInt = z26.toInt + 1 := by rw [ez27]; exact ti_add rfl rfl (by omega) (by omega)
          refine wk_iast (ws' := [(q 60, .inr (12, fM q)), (q 35, .inl (cy 0, 4, .inl (upd f7 (2 : Int32).toNatClampNeg z27))), (q 36, .inl (cy 0, 7, .inl (fun _ => 0)))]) Sx hK hP hD hS 1 0 rfl rfl (vi_of (by decide)) dd_X12_go_213 rfl (fun H locs hP hD hS => ?_)
          obtain ⟨z28, ez28⟩ : ∃ y : Int32, y = k8 + Int32.ofInt 1 := ⟨_, rfl⟩
          have fz28 : z28.toInt = k8.toInt + 1 := by rw [ez28]; exact ti_add rfl (show (Int32.ofInt 1).toInt = 1 by decide) (by omega) (by omega)
          refine lv_iinc (v := z28) (lv' := [(3, .int z28), (5, .int 0), (4, .int z24), (2, .int 0), (0, .ref (q 60)), (1, .int nn)]) hx hb dd_X12_go_214 hl (k := 2) rfl ez28.symm (by decide) rfl (fun ls hl => ?_)
          refine lv_goto (tgt := 44) hx hb dd_X12_go_217 (by decide) ?_
          have hI29 : 0 ≤ z28.toInt ∧ z28.toInt ≤ nn.toInt ∧ ((((upd f7 (2 : Int32).toNatClampNeg z27)) : Nat → Int32) 2).toInt = z28.toInt := ⟨by omega, by omega, by show z27.toInt = _; omega⟩
          have hm30 : (nn.toInt - z28.toInt).toNat < (nn.toInt - k8.toInt).toNat := by omega
          exact ih10 (z28, (upd f7 (2 : Int32).toNatClampNeg z27)) H locs ls hI29 hm30 (lv_sub hl [0, 3, 4, 5] rfl) hP hD hS
    · have fc5 := ci_nle (a := nn.toInt) (b := 12) rfl rfl c5
      refine lv_aload_n hx hb dd_X12_go_11 rfl (lv_at hl 0 rfl) ?_
      refine lv_bipush (v := (-2)) hx hb dd_X12_go_12 (by decide) ?_
      refine hk_i (wr := [(q 35, .inl (cy 0, 4, .inl (hours0)))]) (c1 := 0) (s1 := 0) [0, 2] [1] (hc_V [.int (-2)] [] [0, 2] Sx hl.1 ws_M_152 md_X12_no (c_M_no_2 l D cy q) ⟨Nat.le_of_ble_eq_true rfl, Nat.le_of_ble_eq_true rfl⟩ hP hD rfl (by decide) hK nx_b (nx_w hX) (va_recv hK hP (ci := 12) (q0 := 0) rfl rfl) rfl rfl (Nat.le_of_ble_eq_true rfl) dd_X12_go_14 ⟨Nat.le_of_ble_eq_true rfl, Nat.le_of_ble_eq_true rfl⟩) hS hA hP hD rfl rfl (by decide) (by decide) rfl rfl (fun r31 u32 H locs hw33 hP hD hS => ?_)
      have hP : va_P D cls [(q 35, .inl (cy 0, 4, .inl (hours0)))] H := hP
      have hD : va_D A [(q 35, .inl (cy 0, 4, .inl (hours0)))] := hD
      subst hw33
      exact hc_ret Sx hr hlocks dd_X12_go_17 hS () (Or.inr ⟨by omega, rfl⟩) p_nil d_nil
