set_option maxHeartbeats 4000000 in
set_option maxRecDepth 100000 in
theorem c_within (l : Launch) (D : va_G) (cy : Nat → ClassId) (v : Int32) (a : Int32) (b : Int32) : PC l my_X11_within mb_X11_within 3 ((some .boolean)) (rmD 1 0 0) D (TY cy) [.int v, .int a, .int b] NS [] (vp_Si (fun r => if2 (a.toInt ≤ v.toInt ∧ v.toInt ≤ b.toInt) 1 0 r)) := by
  refine pc_intro (by decide) (Nat.le_of_ble_eq_true rfl) (fun p e s m below meth c ls Sx hr hlocks hl hP hK hX => ?_)
  have hx := Sx.1
  have hb := Sx.2.1
  have hl : lv_has ls 3 [(0, .int v), (1, .int a), (2, .int b)] := hl
  refine lv_iload_n hx hb dd_X11_within_0 rfl (lv_at hl 0 rfl) ?_
  refine lv_iload_n hx hb dd_X11_within_1 rfl (lv_at hl 1 rfl) ?_
  refine lv_icmp_lt (tgt := 14) hx hb dd_X11_within_2 (by decide) (fun c1 => ?_) (fun c1 => ?_)
  · have fc1 := ci_lt (a := v.toInt) (b := a.toInt) rfl rfl c1
    refine lv_iconst (v := 0) hx hb dd_X11_within_14 (by decide) ?_
    exact pc_ret Sx hr hlocks rfl dd_X11_within_15 (Or.inr ⟨by omega, rfl⟩)
  · have fc1 := ci_nlt (a := v.toInt) (b := a.toInt) rfl rfl c1
    refine lv_iload_n hx hb dd_X11_within_5 rfl (lv_at hl 0 rfl) ?_
    refine lv_iload_n hx hb dd_X11_within_6 rfl (lv_at hl 2 rfl) ?_
    refine lv_icmp_gt (tgt := 14) hx hb dd_X11_within_7 (by decide) (fun c2 => ?_) (fun c2 => ?_)
    · have fc2 := ci_lt (a := b.toInt) (b := v.toInt) rfl rfl c2
      refine lv_iconst (v := 0) hx hb dd_X11_within_14 (by decide) ?_
      exact pc_ret Sx hr hlocks rfl dd_X11_within_15 (Or.inr ⟨by omega, rfl⟩)
    · have fc2 := ci_nlt (a := b.toInt) (b := v.toInt) rfl rfl c2
      refine lv_iconst (v := 1) hx hb dd_X11_within_10 (by decide) ?_
      refine lv_goto (tgt := 15) hx hb dd_X11_within_11 (by decide) ?_
      exact pc_ret Sx hr hlocks rfl dd_X11_within_15 (Or.inl ⟨by omega, rfl⟩)
set_option maxHeartbeats 4000000 in
set_option maxRecDepth 100000 in
theorem c_isShelf (l : Launch) (D : va_G) (cy : Nat → ClassId) (v : Int32) : PC l my_X11_isShelf mb_X11_isShelf 1 ((some .boolean)) (rmD 2 0 0) D (TY cy) [.int v] NS [] (vp_Si (fun r => if2 (0 ≤ v.toInt ∧ v.toInt ≤ 7) 1 0 r)) := by
  refine pc_intro (by decide) (Nat.le_of_ble_eq_true rfl) (fun p e s m below meth c ls Sx hr hlocks hl hP hK hX => ?_)
  have hx := Sx.1
  have hb := Sx.2.1
  have hl : lv_has ls 1 [(0, .int v)] := hl
  refine lv_iload_n hx hb dd_X11_isShelf_0 rfl (lv_at hl 0 rfl) ?_
  refine lv_iconst (v := 0) hx hb dd_X11_isShelf_1 (by decide) ?_
  refine lv_bipush (v := 7) hx hb dd_X11_isShelf_2 (by decide) ?_
  refine pk_i (pc_T [.int v, .int 0, .int 7] [] Sx hl.1 ws_X_59 md_X11_within (c_within l D cy v 0 7) ⟨rfl, rfl⟩ ⟨Nat.le_of_ble_eq_true rfl, Nat.le_of_ble_eq_true rfl⟩ p_nil hK ns_b (ns_w hX) rfl rfl (Nat.le_of_ble_eq_true rfl) dd_X11_isShelf_4 ⟨Nat.le_of_ble_eq_true rfl, Nat.le_of_ble_eq_true rfl⟩) (fun r1 hw2 => ?_)
  rcases hw2 with ⟨hw2, ehw2⟩ | ⟨hw2, ehw2⟩
  · have hl3 : Int32.toInt 0 = 0 := rfl
    have hl4 : Int32.toInt 7 = 7 := rfl
    subst ehw2
    exact pc_ret Sx hr hlocks rfl dd_X11_isShelf_7 (Or.inl ⟨by omega, rfl⟩)
  · have hl5 : Int32.toInt 0 = 0 := rfl
    have hl6 : Int32.toInt 7 = 7 := rfl
    subst ehw2
    exact pc_ret Sx hr hlocks rfl dd_X11_isShelf_7 (Or.inr ⟨by omega, rfl⟩)
set_option maxHeartbeats 4000000 in
set_option maxRecDepth 100000 in
theorem c_isKind (l : Launch) (D : va_G) (cy : Nat → ClassId) (v : Int32) : PC l my_X11_isKind mb_X11_isKind 1 ((some .boolean)) (rmD 2 0 0) D (TY cy) [.int v] NS [] (vp_Si (fun r => if2 (0 ≤ v.toInt ∧ v.toInt ≤ 5) 1 0 r)) := by
  refine pc_intro (by decide) (Nat.le_of_ble_eq_true rfl) (fun p e s m below meth c ls Sx hr hlocks hl hP hK hX => ?_)
  have hx := Sx.1
  have hb := Sx.2.1
  have hl : lv_has ls 1 [(0, .int v)] := hl
  refine lv_iload_n hx hb dd_X11_isKind_0 rfl (lv_at hl 0 rfl) ?_
  refine lv_iconst (v := 0) hx hb dd_X11_isKind_1 (by decide) ?_
  refine lv_iconst (v := 5) hx hb dd_X11_isKind_2 (by decide) ?_
  refine pk_i (pc_T [.int v, .int 0, .int 5] [] Sx hl.1 ws_X_59 md_X11_within (c_within l D cy v 0 5) ⟨rfl, rfl⟩ ⟨Nat.le_of_ble_eq_true rfl, Nat.le_of_ble_eq_true rfl⟩ p_nil hK ns_b (ns_w hX) rfl rfl (Nat.le_of_ble_eq_true rfl) dd_X11_isKind_3 ⟨Nat.le_of_ble_eq_true rfl, Nat.le_of_ble_eq_true rfl⟩) (fun r1 hw2 => ?_)
  rcases hw2 with ⟨hw2, ehw2⟩ | ⟨hw2, ehw2⟩
  · have hl3 : Int32.toInt 0 = 0 := rfl
    have hl4 : Int32.toInt 5 = 5 := rfl
    subst ehw2
    exact pc_ret Sx hr hlocks rfl dd_X11_isKind_6 (Or.inl ⟨by omega, rfl⟩)
  · have hl5 : Int32.toInt 0 = 0 := rfl
    have hl6 : Int32.toInt 5 = 5 := rfl
    subst ehw2
    exact pc_ret Sx hr hlocks rfl dd_X11_isKind_6 (Or.inr ⟨by omega, rfl⟩)
set_option maxHeartbeats 4000000 in
set_option maxRecDepth 100000 in
theorem c_isKinds (l : Launch) (D : va_G) (cy : Nat → ClassId) (v : Int32) : PC l my_X11_isKinds mb_X11_isKinds 1 ((some .boolean)) (rmD 2 0 0) D (TY cy) [.int v] NS [] (vp_Si (fun r => if2 (0 ≤ v.toInt ∧ v.toInt ≤ 63) 1 0 r)) := by
  refine pc_intro (by decide) (Nat.le_of_ble_eq_true rfl) (fun p e s m below meth c ls Sx hr hlocks hl hP hK hX => ?_)
  have hx := Sx.1
  have hb := Sx.2.1
  have hl : lv_has ls 1 [(0, .int v)] := hl
  refine lv_iload_n hx hb dd_X11_isKinds_0 rfl (lv_at hl 0 rfl) ?_
  refine lv_iconst (v := 0) hx hb dd_X11_isKinds_1 (by decide) ?_
  refine lv_bipush (v := 63) hx hb dd_X11_isKinds_2 (by decide) ?_
  refine pk_i (pc_T [.int v, .int 0, .int 63] [] Sx hl.1 ws_X_59 md_X11_within (c_within l D cy v 0 63) ⟨rfl, rfl⟩ ⟨Nat.le_of_ble_eq_true rfl, Nat.le_of_ble_eq_true rfl⟩ p_nil hK ns_b (ns_w hX) rfl rfl (Nat.le_of_ble_eq_true rfl) dd_X11_isKinds_4 ⟨Nat.le_of_ble_eq_true rfl, Nat.le_of_ble_eq_true rfl⟩) (fun r1 hw2 => ?_)
  rcases hw2 with ⟨hw2, ehw2⟩ | ⟨hw2, ehw2⟩
  · have hl3 : Int32.toInt 0 = 0 := rfl
    have hl4 : Int32.toInt 63 = 63 := rfl
    subst ehw2
    exact pc_ret Sx hr hlocks rfl dd_X11_isKinds_7 (Or.inl ⟨by omega, rfl⟩)
  · have hl5 : Int32.toInt 0 = 0 := rfl
    have hl6 : Int32.toInt 63 = 63 := rfl
    subst ehw2
    exact pc_ret Sx hr hlocks rfl dd_X11_isKinds_7 (Or.inr ⟨by omega, rfl⟩)
set_option maxHeartbeats 4000000 in
set_option maxRecDepth 100000 in
theorem c_isHour (l : Launch) (D : va_G) (cy : Nat → ClassId) (v : Int32) : PC l my_X11_isHour mb_X11_isHour 1 ((some .boolean)) (rmD 2 0 0) D (TY cy) [.int v] NS [] (vp_Si (fun r => if2 (0 ≤ v.toInt ∧ v.toInt ≤ 11) 1 0 r)) := by
  refine pc_intro (by decide) (Nat.le_of_ble_eq_true rfl) (fun p e s m below meth c ls Sx hr hlocks hl hP hK hX => ?_)
  have hx := Sx.1
  have hb := Sx.2.1
  have hl : lv_has ls 1 [(0, .int v)] := hl
  refine lv_iload_n hx hb dd_X11_isHour_0 rfl (lv_at hl 0 rfl) ?_
  refine lv_iconst (v := 0) hx hb dd_X11_isHour_1 (by decide) ?_
  refine lv_bipush (v := 11) hx hb dd_X11_isHour_2 (by decide) ?_
  refine pk_i (pc_T [.int v, .int 0, .int 11] [] Sx hl.1 ws_X_59 md_X11_within (c_within l D cy v 0 11) ⟨rfl, rfl⟩ ⟨Nat.le_of_ble_eq_true rfl, Nat.le_of_ble_eq_true rfl⟩ p_nil hK ns_b (ns_w hX) rfl rfl (Nat.le_of_ble_eq_true rfl) dd_X11_isHour_4 ⟨Nat.le_of_ble_eq_true rfl, Nat.le_of_ble_eq_true rfl⟩) (fun r1 hw2 => ?_)
  rcases hw2 with ⟨hw2, ehw2⟩ | ⟨hw2, ehw2⟩
  · have hl3 : Int32.toInt 0 = 0 := rfl
    have hl4 : Int32.toInt 11 = 11 := rfl
    subst ehw2
    exact pc_ret Sx hr hlocks rfl dd_X11_isHour_7 (Or.inl ⟨by omega, rfl⟩)
  · have hl5 : Int32.toInt 0 = 0 := rfl
    have hl6 : Int32.toInt 11 = 11 := rfl
    subst ehw2
    exact pc_ret Sx hr hlocks rfl dd_X11_isHour_7 (Or.inr ⟨by omega, rfl⟩)
set_option maxHeartbeats 4000000 in
set_option maxRecDepth 100000 in
theorem c_isPerson (l : Launch) (D : va_G) (cy : Nat → ClassId) (v : Int32) : PC l my_X11_isPerson mb_X11_isPerson 1 ((some .boolean)) (rmD 2 0 0) D (TY cy) [.int v] NS [] (vp_Si (fun r => if2 (0 ≤ v.toInt ∧ v.toInt ≤ 15) 1 0 r)) := by
  refine pc_intro (by decide) (Nat.le_of_ble_eq_true rfl) (fun p e s m below meth c ls Sx hr hlocks hl hP hK hX => ?_)
  have hx := Sx.1
  have hb := Sx.2.1
  have hl : lv_has ls 1 [(0, .int v)] := hl
  refine lv_iload_n hx hb dd_X11_isPerson_0 rfl (lv_at hl 0 rfl) ?_
  refine lv_iconst (v := 0) hx hb dd_X11_isPerson_1 (by decide) ?_
  refine lv_bipush (v := 15) hx hb dd_X11_isPerson_2 (by decide) ?_
  refine pk_i (pc_T [.int v, .int 0, .int 15] [] Sx hl.1 ws_X_59 md_X11_within (c_within l D cy v 0 15) ⟨rfl, rfl⟩ ⟨Nat.le_of_ble_eq_true rfl, Nat.le_of_ble_eq_true rfl⟩ p_nil hK ns_b (ns_w hX) rfl rfl (Nat.le_of_ble_eq_true rfl) dd_X11_isPerson_4 ⟨Nat.le_of_ble_eq_true rfl, Nat.le_of_ble_eq_true rfl⟩) (fun r1 hw2 => ?_)
  rcases hw2 with ⟨hw2, ehw2⟩ | ⟨hw2, ehw2⟩
  · have hl3 : Int32.toInt 0 = 0 := rfl
    have hl4 : Int32.toInt 15 = 15 := rfl
    subst ehw2
    exact pc_ret Sx hr hlocks rfl dd_X11_isPerson_7 (Or.inl ⟨by omega, rfl⟩)
  · have hl5 : Int32.toInt 0 = 0 := rfl
    have hl6 : Int32.toInt 15 = 15 := rfl
    subst ehw2
    exact pc_ret Sx hr hlocks rfl dd_X11_isPerson_7 (Or.inr ⟨by omega, rfl⟩)
set_option maxHeartbeats 4000000 in
set_option maxRecDepth 100000 in
theorem c_isPersonOrNone (l : Launch) (D : va_G) (cy : Nat → ClassId) (v : Int32) : PC l my_X11_isPersonOrNone mb_X11_isPersonOrNone 1 ((some .boolean)) (rmD 3 0 0) D (TY cy) [.int v] NS [] (vp_Si (fun r => if2 ((-1) ≤ v.toInt ∧ v.toInt ≤ 15) 1 0 r)) := by
  refine pc_intro (by decide) (Nat.le_of_ble_eq_true rfl) (fun p e s m below meth c ls Sx hr hlocks hl hP hK hX => ?_)
  have hx := Sx.1
  have hb := Sx.2.1
  have hl : lv_has ls 1 [(0, .int v)] := hl
  refine lv_iload_n hx hb dd_X11_isPersonOrNone_0 rfl (lv_at hl 0 rfl) ?_
  refine lv_iconst (v := (-1)) hx hb dd_X11_isPersonOrNone_1 (by decide) ?_
  refine lv_icmp_eq (tgt := 12) hx hb dd_X11_isPersonOrNone_2 (by decide) (fun c1 => ?_) (fun c1 => ?_)
  · have fc1 := ci_eq (a := v.toInt) (b := (-1)) rfl rfl c1
    refine lv_iconst (v := 1) hx hb dd_X11_isPersonOrNone_12 (by decide) ?_
    refine lv_goto (tgt := 17) hx hb dd_X11_isPersonOrNone_13 (by decide) ?_
    exact pc_ret Sx hr hlocks rfl dd_X11_isPersonOrNone_17 (Or.inl ⟨by omega, rfl⟩)
  · have fc1 := ci_ne (a := v.toInt) (b := (-1)) rfl rfl c1
    refine lv_iload_n hx hb dd_X11_isPersonOrNone_5 rfl (lv_at hl 0 rfl) ?_
    refine pk_i (pc_T [.int v] [] Sx hl.1 ws_X_339 md_X11_isPerson (c_isPerson l D cy v) ⟨rfl, rfl⟩ ⟨Nat.le_of_ble_eq_true rfl, Nat.le_of_ble_eq_true rfl⟩ p_nil hK ns_b (ns_w hX) rfl rfl (Nat.le_of_ble_eq_true rfl) dd_X11_isPersonOrNone_6 ⟨Nat.le_of_ble_eq_true rfl, Nat.le_of_ble_eq_true rfl⟩) (fun r2 hw3 => ?_)
    rcases hw3 with ⟨hw3, ehw3⟩ | ⟨hw3, ehw3⟩
    · subst ehw3
      refine lv_if_eq (tgt := 16) hx hb dd_X11_isPersonOrNone_9 (by decide) (fun c => absurd c (by decide)) (fun _ => ?_)
      refine lv_iconst (v := 1) hx hb dd_X11_isPersonOrNone_12 (by decide) ?_
      refine lv_goto (tgt := 17) hx hb dd_X11_isPersonOrNone_13 (by decide) ?_
      exact pc_ret Sx hr hlocks rfl dd_X11_isPersonOrNone_17 (Or.inl ⟨by omega, rfl⟩)
    · subst ehw3
      refine lv_if_eq (tgt := 16) hx hb dd_X11_isPersonOrNone_9 (by decide) (fun _ => ?_) (fun c => absurd c (by decide))
      refine lv_iconst (v := 0) hx hb dd_X11_isPersonOrNone_16 (by decide) ?_
      exact pc_ret Sx hr hlocks rfl dd_X11_isPersonOrNone_17 (Or.inr ⟨by omega, rfl⟩)
set_option maxHeartbeats 4000000 in
set_option maxRecDepth 100000 in
theorem c_Shelf_isEmpty (l : Launch) (D : va_G) (cy : Nat → ClassId) (q : Nat → Nat) : PC l my_X7_isEmpty mb_X7_isEmpty 1 ((some .boolean)) (rmD 1 0 0) D (TY cy) [.ref (q 0)] NS [(q 0, .inr (7, fShelf q))] (vp_Si (fun r => r = 1)) := by
  refine pc_intro (by decide) (Nat.le_of_ble_eq_true rfl) (fun p e s m below meth c ls Sx hr hlocks hl hP hK hX => ?_)
  have hx := Sx.1
  have hb := Sx.2.1
  have hl : lv_has ls 1 [(0, .ref (q 0))] := hl
  refine lv_aload_n hx hb dd_X7_isEmpty_0 rfl (lv_at hl 0 rfl) ?_
  refine wk_get (v := .int (-1)) Sx ef_7 hK hP 0 rfl rfl 1 (by decide) kk_370 rfl dd_X7_isEmpty_1 ?_
  refine lv_iconst (v := (-1)) hx hb dd_X7_isEmpty_4 (by decide) ?_
  refine lv_icmp_ne (tgt := 12) hx hb dd_X7_isEmpty_5 (by decide) (fun c => absurd c (by decide)) (fun _ => ?_)
  refine lv_iconst (v := 1) hx hb dd_X7_isEmpty_8 (by decide) ?_
  refine lv_goto (tgt := 13) hx hb dd_X7_isEmpty_9 (by decide) ?_
  exact pc_ret Sx hr hlocks rfl dd_X7_isEmpty_13 rfl
set_option maxHeartbeats 4000000 in
set_option maxRecDepth 100000 in
theorem c_Shelf_hasThing (l : Launch) (D : va_G) (cy : Nat → ClassId) (q : Nat → Nat) : PC l my_X7_hasThing mb_X7_hasThing 1 ((some .boolean)) (rmD 1 0 0) D (TY cy) [.ref (q 0)] NS [(q 0, .inr (7, fShelf q))] (vp_Si (fun r => r = 0)) := by
  refine pc_intro (by decide) (Nat.le_of_ble_eq_true rfl) (fun p e s m below meth c ls Sx hr hlocks hl hP hK hX => ?_)
  have hx := Sx.1
  have hb := Sx.2.1
  have hl : lv_has ls 1 [(0, .ref (q 0))] := hl
  refine lv_aload_n hx hb dd_X7_hasThing_0 rfl (lv_at hl 0 rfl) ?_
  refine wk_get (v := .int (-1)) Sx ef_7 hK hP 0 rfl rfl 1 (by decide) kk_370 rfl dd_X7_hasThing_1 ?_
  refine lv_bipush (v := 10) hx hb dd_X7_hasThing_4 (by decide) ?_
  refine lv_icmp_lt (tgt := 13) hx hb dd_X7_hasThing_6 (by decide) (fun _ => ?_) (fun c => absurd c (by decide))
  refine lv_iconst (v := 0) hx hb dd_X7_hasThing_13 (by decide) ?_
  exact pc_ret Sx hr hlocks rfl dd_X7_hasThing_14 rfl
set_option maxHeartbeats 4000000 in
set_option maxRecDepth 100000 in
theorem c_Shelf_hasRow (l : Launch) (D : va_G) (cy : Nat → ClassId) (q : Nat → Nat) : PC l my_X7_hasRow mb_X7_hasRow 1 ((some .boolean)) (rmD 2 0 0) D (TY cy) [.ref (q 0)] NS [(q 0, .inr (7, fShelf q))] (vp_Si (fun r => r = 0)) := by
  refine pc_intro (by decide) (Nat.le_of_ble_eq_true rfl) (fun p e s m below meth c ls Sx hr hlocks hl hP hK hX => ?_)
  have hx := Sx.1
  have hb := Sx.2.1
  have hl : lv_has ls 1 [(0, .ref (q 0))] := hl
  refine lv_aload_n hx hb dd_X7_hasRow_0 rfl (lv_at hl 0 rfl) ?_
  refine wk_get (v := .int (-1)) Sx ef_7 hK hP 0 rfl rfl 1 (by decide) kk_370 rfl dd_X7_hasRow_1 ?_
  refine lv_iconst (v := 0) hx hb dd_X7_hasRow_4 (by decide) ?_
  refine lv_iconst (v := 4) hx hb dd_X7_hasRow_5 (by decide) ?_
  refine pk_i (pc_TN [.int (-1), .int 0, .int 4] [] Sx hX hl.1 ws_Shelf_22 md_X11_within (c_within l D cy (-1) 0 4) ⟨rfl, rfl⟩ ⟨Nat.le_of_ble_eq_true rfl, Nat.le_of_ble_eq_true rfl⟩ p_nil hK ns_b (ns_w hX) rfl rfl (Nat.le_of_ble_eq_true rfl) dd_X7_hasRow_6 ⟨Nat.le_of_ble_eq_true rfl, Nat.le_of_ble_eq_true rfl⟩) (fun r1 hw2 => ?_)
  rcases hw2 with ⟨hw2, ehw2⟩ | ⟨hw2, ehw2⟩
  · have hl3 : Int32.toInt (-1) = (-1) := rfl
    have hl4 : Int32.toInt 0 = 0 := rfl
    have hl5 : Int32.toInt 4 = 4 := rfl
    exfalso; omega
  · have hl6 : Int32.toInt (-1) = (-1) := rfl
    have hl7 : Int32.toInt 0 = 0 := rfl
    have hl8 : Int32.toInt 4 = 4 := rfl
    subst ehw2
    exact pc_ret Sx hr hlocks rfl dd_X7_hasRow_9 rfl
set_option maxHeartbeats 4000000 in
set_option maxRecDepth 100000 in
theorem c_Shelf_at (l : Launch) (D : va_G) (cy : Nat → ClassId) (q : Nat → Nat) (ix : Int32) : PC l my_X7_at mb_X7_at 2 ((some .long)) (rmD 3 0 0) D (TY cy) [.ref (q 0), .int ix] NS [(q 0, .inr (7, fShelf q))] (vp_Sl (fun r => r = 0)) := by
  refine pc_intro (by decide) (Nat.le_of_ble_eq_true rfl) (fun p e s m below meth c ls Sx hr hlocks hl hP hK hX => ?_)
  have hx := Sx.1
  have hb := Sx.2.1
  have hl : lv_has ls 2 [(0, .ref (q 0)), (1, .int ix)] := hl
  refine lv_aload_n hx hb dd_X7_at_0 rfl (lv_at hl 0 rfl) ?_
  refine pk_i (pc_V [] [] Sx hl.1 ws_Shelf_32 md_X7_hasRow (c_Shelf_hasRow l D cy q) ⟨rfl, rfl⟩ ⟨Nat.le_of_ble_eq_true rfl, Nat.le_of_ble_eq_true rfl⟩ (hP.sub [0] rfl) hK ns_b (ns_w hX) (va_recv hK hP (ci := 7) (q0 := 0) rfl rfl) rfl rfl (Nat.le_of_ble_eq_true rfl) dd_X7_at_1 ⟨Nat.le_of_ble_eq_true rfl, Nat.le_of_ble_eq_true rfl⟩) (fun r1 hw2 => ?_)
  subst hw2
  refine lv_if_eq (tgt := 30) hx hb dd_X7_at_4 (by decide) (fun _ => ?_) (fun c => absurd c (by decide))
  refine lv_lconst (v := 0) hx hb dd_X7_at_30 rfl ?_
  exact pc_lret Sx hr hlocks dd_X7_at_31 rfl
set_option maxHeartbeats 4000000 in
set_option maxRecDepth 100000 in
theorem c_Things_has (l : Launch) (D : va_G) (cy : Nat → ClassId) (q : Nat → Nat) (v : Int32) : PC l my_X10_has mb_X10_has 2 ((some .boolean)) (rmD 2 0 0) D (TY cy) [.ref (q 0), .int v] NS [(q 0, .inr (10, fThings q))] (vp_Si (fun r => r = 0)) := by
  refine pc_intro (by decide) (Nat.le_of_ble_eq_true rfl) (fun p e s m below meth c ls Sx hr hlocks hl hP hK hX => ?_)
  have hx := Sx.1
  have hb := Sx.2.1
  have hl : lv_has ls 2 [(0, .ref (q 0)), (1, .int v)] := hl
  refine lv_iload_n hx hb dd_X10_has_0 rfl (lv_at hl 1 rfl) ?_
  refine lv_iconst (v := 0) hx hb dd_X10_has_1 (by decide) ?_
  refine lv_aload_n hx hb dd_X10_has_2 rfl (lv_at hl 0 rfl) ?_
  refine wk_get (v := .int 0) Sx ef_10 hK hP 0 rfl rfl 6 (by decide) kk_86 rfl dd_X10_has_3 ?_
  refine lv_iconst (v := 1) hx hb dd_X10_has_6 (by decide) ?_
  refine lv_isub hx hb dd_X10_has_7 ?_
  refine wk_int (v := (-1)) (by decide) ?_
  refine pk_i (pc_TN [.int v, .int 0, .int (-1)] [] Sx hX hl.1 ws_Things_37 md_X11_within (c_within l D cy v 0 (-1)) ⟨rfl, rfl⟩ ⟨Nat.le_of_ble_eq_true rfl, Nat.le_of_ble_eq_true rfl⟩ p_nil hK ns_b (ns_w hX) rfl rfl (Nat.le_of_ble_eq_true rfl) dd_X10_has_8 ⟨Nat.le_of_ble_eq_true rfl, Nat.le_of_ble_eq_true rfl⟩) (fun r1 hw2 => ?_)
  rcases hw2 with ⟨hw2, ehw2⟩ | ⟨hw2, ehw2⟩
  · have hl3 : Int32.toInt (-1) = (-1) := rfl
    have hl4 : Int32.toInt 0 = 0 := rfl
    exfalso; omega
  · have hl5 : Int32.toInt (-1) = (-1) := rfl
    have hl6 : Int32.toInt 0 = 0 := rfl
    subst ehw2
    exact pc_ret Sx hr hlocks rfl dd_X10_has_11 rfl
set_option maxHeartbeats 4000000 in
set_option maxRecDepth 100000 in
theorem c_Ladies_has (l : Launch) (D : va_G) (cy : Nat → ClassId) (q : Nat → Nat) (v : Int32) : PC l my_X2_has mb_X2_has 2 ((some .boolean)) (rmD 2 0 0) D (TY cy) [.ref (q 0), .int v] NS [(q 0, .inr (2, fLadies q))] (vp_Si (fun r => r = 0)) := by
  refine pc_intro (by decide) (Nat.le_of_ble_eq_true rfl) (fun p e s m below meth c ls Sx hr hlocks hl hP hK hX => ?_)
  have hx := Sx.1
  have hb := Sx.2.1
  have hl : lv_has ls 2 [(0, .ref (q 0)), (1, .int v)] := hl
  refine lv_iload_n hx hb dd_X2_has_0 rfl (lv_at hl 1 rfl) ?_
  refine lv_iconst (v := 0) hx hb dd_X2_has_1 (by decide) ?_
  refine lv_aload_n hx hb dd_X2_has_2 rfl (lv_at hl 0 rfl) ?_
  refine wk_get (v := .int 0) Sx ef_2 hK hP 0 rfl rfl 3 (by decide) kk_123 rfl dd_X2_has_3 ?_
  refine lv_iconst (v := 1) hx hb dd_X2_has_6 (by decide) ?_
  refine lv_isub hx hb dd_X2_has_7 ?_
  refine wk_int (v := (-1)) (by decide) ?_
  refine pk_i (pc_TN [.int v, .int 0, .int (-1)] [] Sx hX hl.1 ws_Ladies_25 md_X11_within (c_within l D cy v 0 (-1)) ⟨rfl, rfl⟩ ⟨Nat.le_of_ble_eq_true rfl, Nat.le_of_ble_eq_true rfl⟩ p_nil hK ns_b (ns_w hX) rfl rfl (Nat.le_of_ble_eq_true rfl) dd_X2_has_8 ⟨Nat.le_of_ble_eq_true rfl, Nat.le_of_ble_eq_true rfl⟩) (fun r1 hw2 => ?_)
  rcases hw2 with ⟨hw2, ehw2⟩ | ⟨hw2, ehw2⟩
  · have hl3 : Int32.toInt (-1) = (-1) := rfl
    have hl4 : Int32.toInt 0 = 0 := rfl
    exfalso; omega
  · have hl5 : Int32.toInt (-1) = (-1) := rfl
    have hl6 : Int32.toInt 0 = 0 := rfl
    subst ehw2
    exact pc_ret Sx hr hlocks rfl dd_X2_has_11 rfl
set_option maxHeartbeats 4000000 in
set_option maxRecDepth 100000 in
theorem c_Laws_has (l : Launch) (D : va_G) (cy : Nat → ClassId) (q : Nat → Nat) (v : Int32) : PC l my_X3_has mb_X3_has 2 ((some .boolean)) (rmD 2 0 0) D (TY cy) [.ref (q 0), .int v] NS [(q 0, .inr (3, fLaws q))] (vp_Si (fun r => r = 0)) := by
  refine pc_intro (by decide) (Nat.le_of_ble_eq_true rfl) (fun p e s m below meth c ls Sx hr hlocks hl hP hK hX => ?_)
  have hx := Sx.1
  have hb := Sx.2.1
  have hl : lv_has ls 2 [(0, .ref (q 0)), (1, .int v)] := hl
  refine lv_iload_n hx hb dd_X3_has_0 rfl (lv_at hl 1 rfl) ?_
  refine lv_iconst (v := 0) hx hb dd_X3_has_1 (by decide) ?_
  refine lv_aload_n hx hb dd_X3_has_2 rfl (lv_at hl 0 rfl) ?_
  refine wk_get (v := .int 0) Sx ef_3 hK hP 0 rfl rfl 2 (by decide) kk_144 rfl dd_X3_has_3 ?_
  refine lv_iconst (v := 1) hx hb dd_X3_has_6 (by decide) ?_
  refine lv_isub hx hb dd_X3_has_7 ?_
  refine wk_int (v := (-1)) (by decide) ?_
  refine pk_i (pc_TN [.int v, .int 0, .int (-1)] [] Sx hX hl.1 ws_Laws_28 md_X11_within (c_within l D cy v 0 (-1)) ⟨rfl, rfl⟩ ⟨Nat.le_of_ble_eq_true rfl, Nat.le_of_ble_eq_true rfl⟩ p_nil hK ns_b (ns_w hX) rfl rfl (Nat.le_of_ble_eq_true rfl) dd_X3_has_8 ⟨Nat.le_of_ble_eq_true rfl, Nat.le_of_ble_eq_true rfl⟩) (fun r1 hw2 => ?_)
  rcases hw2 with ⟨hw2, ehw2⟩ | ⟨hw2, ehw2⟩
  · have hl3 : Int32.toInt (-1) = (-1) := rfl
    have hl4 : Int32.toInt 0 = 0 := rfl
    exfalso; omega
  · have hl5 : Int32.toInt (-1) = (-1) := rfl
    have hl6 : Int32.toInt 0 = 0 := rfl
    subst ehw2
    exact pc_ret Sx hr hlocks rfl dd_X3_has_11 rfl
set_option maxHeartbeats 4000000 in
set_option maxRecDepth 100000 in
theorem c_Buyers_has (l : Launch) (D : va_G) (cy : Nat → ClassId) (q : Nat → Nat) (v : Int32) : PC l my_X0_has mb_X0_has 2 ((some .boolean)) (rmD 2 0 0) D (TY cy) [.ref (q 0), .int v] NS [(q 0, .inr (0, fBuyers q))] (vp_Si (fun r => r = 0)) := by
  refine pc_intro (by decide) (Nat.le_of_ble_eq_true rfl) (fun p e s m below meth c ls Sx hr hlocks hl hP hK hX => ?_)
  have hx := Sx.1
  have hb := Sx.2.1
  have hl : lv_has ls 2 [(0, .ref (q 0)), (1, .int v)] := hl
  refine lv_iload_n hx hb dd_X0_has_0 rfl (lv_at hl 1 rfl) ?_
  refine lv_iconst (v := 0) hx hb dd_X0_has_1 (by decide) ?_
  refine lv_aload_n hx hb dd_X0_has_2 rfl (lv_at hl 0 rfl) ?_
  refine wk_get (v := .int 0) Sx ef_0 hK hP 0 rfl rfl 5 (by decide) kk_174 rfl dd_X0_has_3 ?_
  refine lv_iconst (v := 1) hx hb dd_X0_has_6 (by decide) ?_
  refine lv_isub hx hb dd_X0_has_7 ?_
  refine wk_int (v := (-1)) (by decide) ?_
  refine pk_i (pc_TN [.int v, .int 0, .int (-1)] [] Sx hX hl.1 ws_Buyers_31 md_X11_within (c_within l D cy v 0 (-1)) ⟨rfl, rfl⟩ ⟨Nat.le_of_ble_eq_true rfl, Nat.le_of_ble_eq_true rfl⟩ p_nil hK ns_b (ns_w hX) rfl rfl (Nat.le_of_ble_eq_true rfl) dd_X0_has_8 ⟨Nat.le_of_ble_eq_true rfl, Nat.le_of_ble_eq_true rfl⟩) (fun r1 hw2 => ?_)
  rcases hw2 with ⟨hw2, ehw2⟩ | ⟨hw2, ehw2⟩
  · have hl3 : Int32.toInt (-1) = (-1) := rfl
    have hl4 : Int32.toInt 0 = 0 := rfl
    exfalso; omega
  · have hl5 : Int32.toInt (-1) = (-1) := rfl
    have hl6 : Int32.toInt 0 = 0 := rfl
    subst ehw2
    exact pc_ret Sx hr hlocks rfl dd_X0_has_11 rfl
set_option maxHeartbeats 4000000 in
set_option maxRecDepth 100000 in
theorem c_Sightings_has (l : Launch) (D : va_G) (cy : Nat → ClassId) (q : Nat → Nat) (v : Int32) : PC l my_X8_has mb_X8_has 2 ((some .boolean)) (rmD 2 0 0) D (TY cy) [.ref (q 0), .int v] NS [(q 0, .inr (8, fSightings q))] (vp_Si (fun r => r = 0)) := by
  refine pc_intro (by decide) (Nat.le_of_ble_eq_true rfl) (fun p e s m below meth c ls Sx hr hlocks hl hP hK hX => ?_)
  have hx := Sx.1
  have hb := Sx.2.1
  have hl : lv_has ls 2 [(0, .ref (q 0)), (1, .int v)] := hl
  refine lv_iload_n hx hb dd_X8_has_0 rfl (lv_at hl 1 rfl) ?_
  refine lv_iconst (v := 0) hx hb dd_X8_has_1 (by decide) ?_
  refine lv_aload_n hx hb dd_X8_has_2 rfl (lv_at hl 0 rfl) ?_
  refine wk_get (v := .int 0) Sx ef_8 hK hP 0 rfl rfl 4 (by decide) kk_200 rfl dd_X8_has_3 ?_
  refine lv_iconst (v := 1) hx hb dd_X8_has_6 (by decide) ?_
  refine lv_isub hx hb dd_X8_has_7 ?_
  refine wk_int (v := (-1)) (by decide) ?_
  refine pk_i (pc_TN [.int v, .int 0, .int (-1)] [] Sx hX hl.1 ws_Sightings_37 md_X11_within (c_within l D cy v 0 (-1)) ⟨rfl, rfl⟩ ⟨Nat.le_of_ble_eq_true rfl, Nat.le_of_ble_eq_true rfl⟩ p_nil hK ns_b (ns_w hX) rfl rfl (Nat.le_of_ble_eq_true rfl) dd_X8_has_8 ⟨Nat.le_of_ble_eq_true rfl, Nat.le_of_ble_eq_true rfl⟩) (fun r1 hw2 => ?_)
  rcases hw2 with ⟨hw2, ehw2⟩ | ⟨hw2, ehw2⟩
  · have hl3 : Int32.toInt (-1) = (-1) := rfl
    have hl4 : Int32.toInt 0 = 0 := rfl
    exfalso; omega
  · have hl5 : Int32.toInt (-1) = (-1) := rfl
    have hl6 : Int32.toInt 0 = 0 := rfl
    subst ehw2
    exact pc_ret Sx hr hlocks rfl dd_X8_has_11 rfl
set_option maxHeartbeats 4000000 in
set_option maxRecDepth 100000 in
theorem c_fill_i20 (l : Launch) (D : va_G) (cy : Nat → ClassId) (a : Nat) (v : Int32) (f : Nat → Int32) : HC l my_J7_fill_53178 mb_J7_fill_53178 4 ((none : Option Jvm.ClassFile.FieldType)) (rmD 1 0 0) D (TY cy) [.ref a, .int v] NX [(a, .inl (cy 0, 20, .inl (f)))] (QV (S := Unit) D (fun _ => True) (fun _ => [])) := by
  refine hc_intro (by decide) (Nat.le_of_ble_eq_true rfl) (fun p e s m below meth c A ls Sx hr hlocks hin hl hP hD hK hS hA hX => ?_)
  have hx := Sx.1
  have hb := Sx.2.1
  have hl : lv_has ls 4 [(0, .ref a), (1, .int v)] := hl
  have hP : va_P D cls [(a, .inl (cy 0, 20, .inl (f)))] s.heap := hP
  have hD : va_D A [(a, .inl (cy 0, 20, .inl (f)))] := hD
  refine lv_iconst (v := 0) hx hb dd_J7_fill_53178_0 (by decide) ?_
  refine lv_istore_n (lv' := [(2, .int 0), (0, .ref a), (1, .int v)]) hx hb dd_J7_fill_53178_1 rfl hl (by decide) rfl (fun ls hl => ?_)
  refine lv_aload_n hx hb dd_J7_fill_53178_2 rfl (lv_at hl 1 rfl) ?_
  refine va_alen (v := 20) hx hb hK hP 0 0 rfl rfl rfl dd_J7_fill_53178_3 ?_
  refine lv_istore_n (lv' := [(3, .int 20), (2, .int 0), (0, .ref a), (1, .int v)]) hx hb dd_J7_fill_53178_4 rfl hl (by decide) rfl (fun ls hl => ?_)
  have hlz3 : Int32.toInt 0 = 0 := rfl
  have hI6 : 0 ≤ (0 : Int32).toInt ∧ (0 : Int32).toInt ≤ 20 := ⟨by omega, by omega⟩
  refine gl1 5 4 (fun (u : Int32 × (Nat → Int32)) => [(a, .inl (cy 0, 20, .inl (u.2)))]) (fun (u : Int32 × (Nat → Int32)) => [(3, .int 20), (2, .int u.1), (0, .ref a), (1, .int v)]) (fun (u : Int32 × (Nat → Int32)) => 0 ≤ u.1.toInt ∧ u.1.toInt ≤ 20) (fun (u : Int32 × (Nat → Int32)) => (20 - u.1.toInt).toNat) (fun u H locs ls hI5 hl hP hD hS ih4 => ?_) (0, f) hI6 (lv_sub hl [0, 1, 2, 3] rfl) hP hD hS
  obtain ⟨i2, f1⟩ := u
  have hl : lv_has ls 4 [(3, .int 20), (2, .int i2), (0, .ref a), (1, .int v)] := hl
  have hP : va_P D cls [(a, .inl (cy 0, 20, .inl (f1)))] H := hP
  have hD : va_D A [(a, .inl (cy 0, 20, .inl (f1)))] := hD
  have hI5 : 0 ≤ i2.toInt ∧ i2.toInt ≤ 20 := hI5
  obtain ⟨iv7, iv8⟩ := hI5
  refine lv_iload_n hx hb dd_J7_fill_53178_5 rfl (lv_at hl 1 rfl) ?_
  refine lv_iload_n hx hb dd_J7_fill_53178_6 rfl (lv_at hl 0 rfl) ?_
  refine lv_icmp_ge (tgt := 20) hx hb dd_J7_fill_53178_7 (by decide) (fun c9 => ?_) (fun c9 => ?_)
  · have fc9 := ci_le (a := 20) (b := i2.toInt) rfl rfl c9
    exact hc_vret Sx hr hlocks dd_J7_fill_53178_20 hS () trivial p_nil d_nil
  · have fc9 := ci_nle (a := 20) (b := i2.toInt) rfl rfl c9
    refine lv_aload_n hx hb dd_J7_fill_53178_10 rfl (lv_at hl 2 rfl) ?_
    refine lv_iload_n hx hb dd_J7_fill_53178_11 rfl (lv_at hl 1 rfl) ?_
    refine lv_iload_n hx hb dd_J7_fill_53178_12 rfl (lv_at hl 3 rfl) ?_
    refine wk_iast (ws' := [(a, .inl (cy 0, 20, .inl (upd f1 i2.toNatClampNeg v)))]) Sx hK hP hD hS 0 0 rfl rfl (vi_of (by omega)) dd_J7_fill_53178_13 rfl (fun H locs hP hD hS => ?_)
    obtain ⟨z10, ez10⟩ : ∃ y : Int32, y = i2 + Int32.ofInt 1 := ⟨_, rfl⟩
    have fz10 : z10.toInt = i2.toInt + 1 := by rw [ez10]; exact ti_add rfl (show (Int32.ofInt 1).toInt = 1 by decide) (by omega) (by omega)
    refine lv_iinc (v := z10) (lv' := [(2, .int z10), (3, .int 20), (0, .ref a), (1, .int v)]) hx hb dd_J7_fill_53178_14 hl (k := 1) rfl ez10.symm (by decide) rfl (fun ls hl => ?_)
    refine lv_goto (tgt := 5) hx hb dd_J7_fill_53178_17 (by decide) ?_
    have hI11 : 0 ≤ z10.toInt ∧ z10.toInt ≤ 20 := ⟨by omega, by omega⟩
    have hm12 : (20 - z10.toInt).toNat < (20 - i2.toInt).toNat := by omega
    exact ih4 (z10, (upd f1 i2.toNatClampNeg v)) H locs ls hI11 hm12 (lv_sub hl [1, 0, 2, 3] rfl) hP hD hS
set_option maxHeartbeats 4000000 in
set_option maxRecDepth 100000 in
theorem c_fill_l40 (l : Launch) (D : va_G) (cy : Nat → ClassId) (a : Nat) (v : Int64) (f : Nat → Int64) : HC l my_J7_fill_d0a16 mb_J7_fill_d0a16 5 ((none : Option Jvm.ClassFile.FieldType)) (rmD 1 0 0) D (TY cy) [.ref a, .long v] NX [(a, .inl (cy 2, 40, .inr (.inl (f))))] (QV (S := Unit) D (fun _ => True) (fun _ => [])) := by
  refine hc_intro (by decide) (Nat.le_of_ble_eq_true rfl) (fun p e s m below meth c A ls Sx hr hlocks hin hl hP hD hK hS hA hX => ?_)
  have hx := Sx.1
  have hb := Sx.2.1
  have hl : lv_has ls 5 [(0, .ref a), (1, .long v)] := hl
  have hP : va_P D cls [(a, .inl (cy 2, 40, .inr (.inl (f))))] s.heap := hP
  have hD : va_D A [(a, .inl (cy 2, 40, .inr (.inl (f))))] := hD
  refine lv_iconst (v := 0) hx hb dd_J7_fill_d0a16_0 (by decide) ?_
  refine lv_istore_n (lv' := [(3, .int 0), (0, .ref a), (1, .long v)]) hx hb dd_J7_fill_d0a16_1 rfl hl (by decide) rfl (fun ls hl => ?_)
  refine lv_aload_n hx hb dd_J7_fill_d0a16_2 rfl (lv_at hl 1 rfl) ?_
  refine va_alen (v := 40) hx hb hK hP 0 2 rfl rfl rfl dd_J7_fill_d0a16_3 ?_
  refine lv_istore (lv' := [(4, .int 40), (3, .int 0), (0, .ref a), (1, .long v)]) hx hb dd_J7_fill_d0a16_4 hl (by decide) rfl (fun ls hl => ?_)
  have hlz3 : Int32.toInt 0 = 0 := rfl
  have hI6 : 0 ≤ (0 : Int32).toInt ∧ (0 : Int32).toInt ≤ 40 := ⟨by omega, by omega⟩
  refine gl1 6 5 (fun (u : Int32 × (Nat → Int64)) => [(a, .inl (cy 2, 40, .inr (.inl (u.2))))]) (fun (u : Int32 × (Nat → Int64)) => [(4, .int 40), (3, .int u.1), (0, .ref a), (1, .long v)]) (fun (u : Int32 × (Nat → Int64)) => 0 ≤ u.1.toInt ∧ u.1.toInt ≤ 40) (fun (u : Int32 × (Nat → Int64)) => (40 - u.1.toInt).toNat) (fun u H locs ls hI5 hl hP hD hS ih4 => ?_) (0, f) hI6 (lv_sub hl [0, 1, 2, 3] rfl) hP hD hS
  obtain ⟨i2, f1⟩ := u
  have hl : lv_has ls 5 [(4, .int 40), (3, .int i2), (0, .ref a), (1, .long v)] := hl
  have hP : va_P D cls [(a, .inl (cy 2, 40, .inr (.inl (f1))))] H := hP
  have hD : va_D A [(a, .inl (cy 2, 40, .inr (.inl (f1))))] := hD
  have hI5 : 0 ≤ i2.toInt ∧ i2.toInt ≤ 40 := hI5
  obtain ⟨iv7, iv8⟩ := hI5
  refine lv_iload_n hx hb dd_J7_fill_d0a16_6 rfl (lv_at hl 1 rfl) ?_
  refine lv_iload hx hb dd_J7_fill_d0a16_7 (lv_at hl 0 rfl) ?_
  refine lv_icmp_ge (tgt := 22) hx hb dd_J7_fill_d0a16_9 (by decide) (fun c9 => ?_) (fun c9 => ?_)
  · have fc9 := ci_le (a := 40) (b := i2.toInt) rfl rfl c9
    exact hc_vret Sx hr hlocks dd_J7_fill_d0a16_22 hS () trivial p_nil d_nil
  · have fc9 := ci_nle (a := 40) (b := i2.toInt) rfl rfl c9
    refine lv_aload_n hx hb dd_J7_fill_d0a16_12 rfl (lv_at hl 2 rfl) ?_
    refine lv_iload_n hx hb dd_J7_fill_d0a16_13 rfl (lv_at hl 1 rfl) ?_
    refine lv_lload_n hx hb dd_J7_fill_d0a16_14 rfl (lv_at hl 3 rfl) ?_
    refine wk_last (ws' := [(a, .inl (cy 2, 40, .inr (.inl (vp_updL f1 i2.toNatClampNeg v))))]) Sx hK hP hD hS 0 2 rfl rfl (vi_of (by omega)) dd_J7_fill_d0a16_15 rfl (fun H locs hP hD hS => ?_)
    obtain ⟨z10, ez10⟩ : ∃ y : Int32, y = i2 + Int32.ofInt 1 := ⟨_, rfl⟩
    have fz10 : z10.toInt = i2.toInt + 1 := by rw [ez10]; exact ti_add rfl (show (Int32.ofInt 1).toInt = 1 by decide) (by omega) (by omega)
    refine lv_iinc (v := z10) (lv' := [(3, .int z10), (4, .int 40), (0, .ref a), (1, .long v)]) hx hb dd_J7_fill_d0a16_16 hl (k := 1) rfl ez10.symm (by decide) rfl (fun ls hl => ?_)
    refine lv_goto (tgt := 6) hx hb dd_J7_fill_d0a16_19 (by decide) ?_
    have hI11 : 0 ≤ z10.toInt ∧ z10.toInt ≤ 40 := ⟨by omega, by omega⟩
    have hm12 : (40 - z10.toInt).toNat < (40 - i2.toInt).toNat := by omega
    exact ih4 (z10, (vp_updL f1 i2.toNatClampNeg v)) H locs ls hI11 hm12 (lv_sub hl [1, 0, 2, 3] rfl) hP hD hS
set_option maxHeartbeats 4000000 in
set_option maxRecDepth 100000 in
theorem c_bitCount0 (l : Launch) (D : va_G) (cy : Nat → ClassId) : PC l my_J6_bitCount_0f7a4 mb_J6_bitCount_0f7a4 1 ((some .int)) (rmD 1 0 0) D (TY cy) [.int 0] NS [] (vp_Si (fun r => r = 0)) := by
  refine pc_intro (by decide) (Nat.le_of_ble_eq_true rfl) (fun p e s m below meth c ls Sx hr hlocks hl hP hK hX => ?_)
  have hx := Sx.1
  have hb := Sx.2.1
  have hl : lv_has ls 1 [(0, .int 0)] := hl
  refine lv_iload_n hx hb dd_J6_bitCount_0f7a4_0 rfl (lv_at hl 0 rfl) ?_
  refine lv_iload_n hx hb dd_J6_bitCount_0f7a4_1 rfl (lv_at hl 0 rfl) ?_
  refine lv_iconst (v := 1) hx hb dd_J6_bitCount_0f7a4_2 (by decide) ?_
  refine lv_iushr (v := 0) hx hb dd_J6_bitCount_0f7a4_3 (by decide) ?_
  refine lv_ldcw (v := 1431655765) hx hb (own := "java/lang/Integer") (index := 265) Sx.2.2.2.1 (Sx.2.2.2.2 _ kk_510) dd_J6_bitCount_0f7a4_4 ?_
  refine lv_iand hx hb dd_J6_bitCount_0f7a4_7 ?_
  refine wk_int (v := 0) (by decide) ?_
  refine lv_isub hx hb dd_J6_bitCount_0f7a4_8 ?_
  refine wk_int (v := 0) (by decide) ?_
  refine lv_istore_n (lv' := [(0, .int 0)]) hx hb dd_J6_bitCount_0f7a4_9 rfl hl (by decide) rfl (fun ls hl => ?_)
  refine lv_iload_n hx hb dd_J6_bitCount_0f7a4_10 rfl (lv_at hl 0 rfl) ?_
  refine lv_ldcw (v := 858993459) hx hb (own := "java/lang/Integer") (index := 266) Sx.2.2.2.1 (Sx.2.2.2.2 _ kk_511) dd_J6_bitCount_0f7a4_11 ?_
  refine lv_iand hx hb dd_J6_bitCount_0f7a4_14 ?_
  refine wk_int (v := 0) (by decide) ?_
  refine lv_iload_n hx hb dd_J6_bitCount_0f7a4_15 rfl (lv_at hl 0 rfl) ?_
  refine lv_iconst (v := 2) hx hb dd_J6_bitCount_0f7a4_16 (by decide) ?_
  refine lv_iushr (v := 0) hx hb dd_J6_bitCount_0f7a4_17 (by decide) ?_
  refine lv_ldcw (v := 858993459) hx hb (own := "java/lang/Integer") (index := 266) Sx.2.2.2.1 (Sx.2.2.2.2 _ kk_511) dd_J6_bitCount_0f7a4_18 ?_
  refine lv_iand hx hb dd_J6_bitCount_0f7a4_21 ?_
  refine wk_int (v := 0) (by decide) ?_
  refine lv_iadd hx hb dd_J6_bitCount_0f7a4_22 ?_
  refine wk_int (v := 0) (by decide) ?_
  refine lv_istore_n (lv' := [(0, .int 0)]) hx hb dd_J6_bitCount_0f7a4_23 rfl hl (by decide) rfl (fun ls hl => ?_)
  refine lv_iload_n hx hb dd_J6_bitCount_0f7a4_24 rfl (lv_at hl 0 rfl) ?_
  refine lv_iload_n hx hb dd_J6_bitCount_0f7a4_25 rfl (lv_at hl 0 rfl) ?_
  refine lv_iconst (v := 4) hx hb dd_J6_bitCount_0f7a4_26 (by decide) ?_
  refine lv_iushr (v := 0) hx hb dd_J6_bitCount_0f7a4_27 (by decide) ?_
  refine lv_iadd hx hb dd_J6_bitCount_0f7a4_28 ?_
  refine wk_int (v := 0) (by decide) ?_
  refine lv_ldcw (v := 252645135) hx hb (own := "java/lang/Integer") (index := 267) Sx.2.2.2.1 (Sx.2.2.2.2 _ kk_512) dd_J6_bitCount_0f7a4_29 ?_
  refine lv_iand hx hb dd_J6_bitCount_0f7a4_32 ?_
  refine wk_int (v := 0) (by decide) ?_
  refine lv_istore_n (lv' := [(0, .int 0)]) hx hb dd_J6_bitCount_0f7a4_33 rfl hl (by decide) rfl (fun ls hl => ?_)
  refine lv_iload_n hx hb dd_J6_bitCount_0f7a4_34 rfl (lv_at hl 0 rfl) ?_
  refine lv_iload_n hx hb dd_J6_bitCount_0f7a4_35 rfl (lv_at hl 0 rfl) ?_
  refine lv_bipush (v := 8) hx hb dd_J6_bitCount_0f7a4_36 (by decide) ?_
  refine lv_iushr (v := 0) hx hb dd_J6_bitCount_0f7a4_38 (by decide) ?_
  refine lv_iadd hx hb dd_J6_bitCount_0f7a4_39 ?_
  refine wk_int (v := 0) (by decide) ?_
  refine lv_istore_n (lv' := [(0, .int 0)]) hx hb dd_J6_bitCount_0f7a4_40 rfl hl (by decide) rfl (fun ls hl => ?_)
  refine lv_iload_n hx hb dd_J6_bitCount_0f7a4_41 rfl (lv_at hl 0 rfl) ?_
  refine lv_iload_n hx hb dd_J6_bitCount_0f7a4_42 rfl (lv_at hl 0 rfl) ?_
  refine lv_bipush (v := 16) hx hb dd_J6_bitCount_0f7a4_43 (by decide) ?_
  refine lv_iushr (v := 0) hx hb dd_J6_bitCount_0f7a4_45 (by decide) ?_
  refine lv_iadd hx hb dd_J6_bitCount_0f7a4_46 ?_
  refine wk_int (v := 0) (by decide) ?_
  refine lv_istore_n (lv' := [(0, .int 0)]) hx hb dd_J6_bitCount_0f7a4_47 rfl hl (by decide) rfl (fun ls hl => ?_)
  refine lv_iload_n hx hb dd_J6_bitCount_0f7a4_48 rfl (lv_at hl 0 rfl) ?_
  refine lv_bipush (v := 63) hx hb dd_J6_bitCount_0f7a4_49 (by decide) ?_
  refine lv_iand hx hb dd_J6_bitCount_0f7a4_51 ?_
  refine wk_int (v := 0) (by decide) ?_
  exact pc_ret Sx hr hlocks rfl dd_J6_bitCount_0f7a4_52 rfl
set_option maxHeartbeats 4000000 in
set_option maxRecDepth 100000 in
theorem c_Shelf_takeRow (l : Launch) (D : va_G) (cy : Nat → ClassId) (q : Nat → Nat) (so : Int32) (nn : Int32) : HC l my_X7_takeRow mb_X7_takeRow 3 ((none : Option Jvm.ClassFile.FieldType)) (rmD 2 0 0) D (TY cy) [.ref (q 0), .int so, .int nn] NX [(q 0, .inr (7, fShelf q)), (q 1, .inl (cy 2, 40, .inr (.inl (fun _ => 0))))] (QV (S := Unit) D (fun _ => True) (fun _ => [])) := by
  refine hc_intro (by decide) (Nat.le_of_ble_eq_true rfl) (fun p e s m below meth c A ls Sx hr hlocks hin hl hP hD hK hS hA hX => ?_)
  have hx := Sx.1
  have hb := Sx.2.1
  have hl : lv_has ls 3 [(0, .ref (q 0)), (1, .int so), (2, .int nn)] := hl
  have hP : va_P D cls [(q 0, .inr (7, fShelf q)), (q 1, .inl (cy 2, 40, .inr (.inl (fun _ => 0))))] s.heap := hP
  have hD : va_D A [(q 0, .inr (7, fShelf q)), (q 1, .inl (cy 2, 40, .inr (.inl (fun _ => 0))))] := hD
  refine lv_aload_n hx hb dd_X7_takeRow_0 rfl (lv_at hl 0 rfl) ?_
  refine lv_iload_n hx hb dd_X7_takeRow_1 rfl (lv_at hl 1 rfl) ?_
  refine wk_put (ws' := [(q 0, .inr (7, (fShelf q).set 1 (.int so))), (q 1, .inl (cy 2, 40, .inr (.inl (fun _ => 0))))]) Sx ef_7 hK hP hD hS 0 rfl rfl 1 (by decide) kk_370 rfl rfl rfl (Nat.le_of_ble_eq_true rfl) dd_X7_takeRow_2 rfl (fun H locs hP hD hS => ?_)
  refine lv_aload_n hx hb dd_X7_takeRow_5 rfl (lv_at hl 0 rfl) ?_
  refine lv_iload_n hx hb dd_X7_takeRow_6 rfl (lv_at hl 2 rfl) ?_
  refine wk_put (ws' := [(q 0, .inr (7, ((fShelf q).set 1 (.int so)).set 2 (.int nn))), (q 1, .inl (cy 2, 40, .inr (.inl (fun _ => 0))))]) Sx ef_7 hK hP hD hS 0 rfl rfl 2 (by decide) kk_372 rfl rfl rfl (Nat.le_of_ble_eq_true rfl) dd_X7_takeRow_7 rfl (fun H locs hP hD hS => ?_)
  refine lv_aload_n hx hb dd_X7_takeRow_10 rfl (lv_at hl 0 rfl) ?_
  refine wk_get (v := .ref (q 1)) Sx ef_7 hK hP 0 rfl rfl 0 (by decide) kk_368 rfl dd_X7_takeRow_11 ?_
  refine lv_lconst (v := 0) hx hb dd_X7_takeRow_14 rfl ?_
  refine hk_v (wr := [(q 0, .inr (7, ((fShelf q).set 1 (.int so)).set 2 (.int nn)))]) (c1 := 0) (s1 := 0) [1] [0] (hc_T [.ref (q 1), .long 0] [] [1] Sx hl.1 ws_Shelf_26 md_J7_fill_d0a16 (c_fill_l40 l D cy (q 1) 0 (fun _ => 0)) ⟨Nat.le_of_ble_eq_true rfl, Nat.le_of_ble_eq_true rfl⟩ hP hD rfl (by decide) hK nx_b (nx_w hX) rfl rfl (Nat.le_of_ble_eq_true rfl) dd_X7_takeRow_15 ⟨Nat.le_of_ble_eq_true rfl, Nat.le_of_ble_eq_true rfl⟩) hS hA hP hD rfl rfl (by decide) (by decide) rfl rfl (fun u2 H locs hw3 hP hD hS => ?_)
  have hP : va_P D cls [(q 0, .inr (7, ((fShelf q).set 1 (.int so)).set 2 (.int nn)))] H := hP
  have hD : va_D A [(q 0, .inr (7, ((fShelf q).set 1 (.int so)).set 2 (.int nn)))] := hD
  exact hc_vret Sx hr hlocks dd_X7_takeRow_18 hS () trivial p_nil d_nil
set_option maxHeartbeats 4000000 in
set_option maxRecDepth 100000 in
theorem c_Things_add (l : Launch) (D : va_G) (cy : Nat → ClassId) (q : Nat → Nat) (va : Int32) (vb : Int32) (vc : Int32) : HC l my_X10_add mb_X10_add 4 ((some .int)) (rmD 1 0 0) D (TY cy) [.ref (q 0), .int va, .int vb, .int vc] NX [(q 0, .inr (10, fThings q)), (q 1, .inl (cy 0, 30, .inl (fun _ => 0))), (q 2, .inl (cy 0, 30, .inl (fun _ => 0))), (q 3, .inl (cy 0, 30, .inl (fun _ => 0))), (q 4, .inl (cy 0, 30, .inl (fun _ => 0))), (q 5, .inl (cy 0, 30, .inl (fun _ => 0))), (q 6, .inl (cy 0, 30, .inl (fun _ => 0))), (q 7, .inl (cy 0, 30, .inl (fun _ => 0)))] (QI (S := Unit) D (fun r _ => r = 0) (fun _ => [])) := by
  refine hc_intro (by decide) (Nat.le_of_ble_eq_true rfl) (fun p e s m below meth c A ls Sx hr hlocks hin hl hP hD hK hS hA hX => ?_)
  have hx := Sx.1
  have hb := Sx.2.1
  have hl : lv_has ls 4 [(0, .ref (q 0)), (1, .int va), (2, .int vb), (3, .int vc)] := hl
  have hP : va_P D cls [(q 0, .inr (10, fThings q)), (q 1, .inl (cy 0, 30, .inl (fun _ => 0))), (q 2, .inl (cy 0, 30, .inl (fun _ => 0))), (q 3, .inl (cy 0, 30, .inl (fun _ => 0))), (q 4, .inl (cy 0, 30, .inl (fun _ => 0))), (q 5, .inl (cy 0, 30, .inl (fun _ => 0))), (q 6, .inl (cy 0, 30, .inl (fun _ => 0))), (q 7, .inl (cy 0, 30, .inl (fun _ => 0)))] s.heap := hP
  have hD : va_D A [(q 0, .inr (10, fThings q)), (q 1, .inl (cy 0, 30, .inl (fun _ => 0))), (q 2, .inl (cy 0, 30, .inl (fun _ => 0))), (q 3, .inl (cy 0, 30, .inl (fun _ => 0))), (q 4, .inl (cy 0, 30, .inl (fun _ => 0))), (q 5, .inl (cy 0, 30, .inl (fun _ => 0))), (q 6, .inl (cy 0, 30, .inl (fun _ => 0))), (q 7, .inl (cy 0, 30, .inl (fun _ => 0)))] := hD
  refine lv_aload_n hx hb dd_X10_add_0 rfl (lv_at hl 0 rfl) ?_
  refine wk_get (v := .ref (q 1)) Sx ef_10 hK hP 0 rfl rfl 0 (by decide) kk_66 rfl dd_X10_add_1 ?_
  refine lv_aload_n hx hb dd_X10_add_4 rfl (lv_at hl 0 rfl) ?_
  refine wk_get (v := .int 0) Sx ef_10 hK hP 0 rfl rfl 6 (by decide) kk_86 rfl dd_X10_add_5 ?_
  refine lv_iload_n hx hb dd_X10_add_8 rfl (lv_at hl 1 rfl) ?_
  refine wk_iast (ws' := [(q 0, .inr (10, fThings q)), (q 1, .inl (cy 0, 30, .inl (upd (fun _ => 0) (0 : Int32).toNatClampNeg va))), (q 2, .inl (cy 0, 30, .inl (fun _ => 0))), (q 3, .inl (cy 0, 30, .inl (fun _ => 0))), (q 4, .inl (cy 0, 30, .inl (fun _ => 0))), (q 5, .inl (cy 0, 30, .inl (fun _ => 0))), (q 6, .inl (cy 0, 30, .inl (fun _ => 0))), (q 7, .inl (cy 0, 30, .inl (fun _ => 0)))]) Sx hK hP hD hS 1 0 rfl rfl (vi_of (by decide)) dd_X10_add_9 rfl (fun H locs hP hD hS => ?_)
  refine lv_aload_n hx hb dd_X10_add_10 rfl (lv_at hl 0 rfl) ?_
  refine wk_get (v := .ref (q 2)) Sx ef_10 hK hP 0 rfl rfl 1 (by decide) kk_70 rfl dd_X10_add_11 ?_
  refine lv_aload_n hx hb dd_X10_add_14 rfl (lv_at hl 0 rfl) ?_
  refine wk_get (v := .int 0) Sx ef_10 hK hP 0 rfl rfl 6 (by decide) kk_86 rfl dd_X10_add_15 ?_
  refine lv_iload_n hx hb dd_X10_add_18 rfl (lv_at hl 2 rfl) ?_
  refine wk_iast (ws' := [(q 0, .inr (10, fThings q)), (q 1, .inl (cy 0, 30, .inl (upd (fun _ => 0) (0 : Int32).toNatClampNeg va))), (q 2, .inl (cy 0, 30, .inl (upd (fun _ => 0) (0 : Int32).toNatClampNeg vb))), (q 3, .inl (cy 0, 30, .inl (fun _ => 0))), (q 4, .inl (cy 0, 30, .inl (fun _ => 0))), (q 5, .inl (cy 0, 30, .inl (fun _ => 0))), (q 6, .inl (cy 0, 30, .inl (fun _ => 0))), (q 7, .inl (cy 0, 30, .inl (fun _ => 0)))]) Sx hK hP hD hS 2 0 rfl rfl (vi_of (by decide)) dd_X10_add_19 rfl (fun H locs hP hD hS => ?_)
  refine lv_aload_n hx hb dd_X10_add_20 rfl (lv_at hl 0 rfl) ?_
  refine wk_get (v := .ref (q 3)) Sx ef_10 hK hP 0 rfl rfl 2 (by decide) kk_72 rfl dd_X10_add_21 ?_
  refine lv_aload_n hx hb dd_X10_add_24 rfl (lv_at hl 0 rfl) ?_
  refine wk_get (v := .int 0) Sx ef_10 hK hP 0 rfl rfl 6 (by decide) kk_86 rfl dd_X10_add_25 ?_
  refine lv_iload_n hx hb dd_X10_add_28 rfl (lv_at hl 3 rfl) ?_
  refine wk_iast (ws' := [(q 0, .inr (10, fThings q)), (q 1, .inl (cy 0, 30, .inl (upd (fun _ => 0) (0 : Int32).toNatClampNeg va))), (q 2, .inl (cy 0, 30, .inl (upd (fun _ => 0) (0 : Int32).toNatClampNeg vb))), (q 3, .inl (cy 0, 30, .inl (upd (fun _ => 0) (0 : Int32).toNatClampNeg vc))), (q 4, .inl (cy 0, 30, .inl (fun _ => 0))), (q 5, .inl (cy 0, 30, .inl (fun _ => 0))), (q 6, .inl (cy 0, 30, .inl (fun _ => 0))), (q 7, .inl (cy 0, 30, .inl (fun _ => 0)))]) Sx hK hP hD hS 3 0 rfl rfl (vi_of (by decide)) dd_X10_add_29 rfl (fun H locs hP hD hS => ?_)
  refine lv_aload_n hx hb dd_X10_add_30 rfl (lv_at hl 0 rfl) ?_
  refine wk_get (v := .ref (q 4)) Sx ef_10 hK hP 0 rfl rfl 3 (by decide) kk_74 rfl dd_X10_add_31 ?_
  refine lv_aload_n hx hb dd_X10_add_34 rfl (lv_at hl 0 rfl) ?_
  refine wk_get (v := .int 0) Sx ef_10 hK hP 0 rfl rfl 6 (by decide) kk_86 rfl dd_X10_add_35 ?_
  refine lv_iconst (v := (-1)) hx hb dd_X10_add_38 (by decide) ?_
  refine wk_iast (ws' := [(q 0, .inr (10, fThings q)), (q 1, .inl (cy 0, 30, .inl (upd (fun _ => 0) (0 : Int32).toNatClampNeg va))), (q 2, .inl (cy 0, 30, .inl (upd (fun _ => 0) (0 : Int32).toNatClampNeg vb))), (q 3, .inl (cy 0, 30, .inl (upd (fun _ => 0) (0 : Int32).toNatClampNeg vc))), (q 4, .inl (cy 0, 30, .inl (upd (fun _ => 0) (0 : Int32).toNatClampNeg (-1)))), (q 5, .inl (cy 0, 30, .inl (fun _ => 0))), (q 6, .inl (cy 0, 30, .inl (fun _ => 0))), (q 7, .inl (cy 0, 30, .inl (fun _ => 0)))]) Sx hK hP hD hS 4 0 rfl rfl (vi_of (by decide)) dd_X10_add_39 rfl (fun H locs hP hD hS => ?_)
  refine lv_aload_n hx hb dd_X10_add_40 rfl (lv_at hl 0 rfl) ?_
  refine wk_get (v := .ref (q 5)) Sx ef_10 hK hP 0 rfl rfl 4 (by decide) kk_79 rfl dd_X10_add_41 ?_
  refine lv_aload_n hx hb dd_X10_add_44 rfl (lv_at hl 0 rfl) ?_
  refine wk_get (v := .int 0) Sx ef_10 hK hP 0 rfl rfl 6 (by decide) kk_86 rfl dd_X10_add_45 ?_
  refine lv_iconst (v := (-1)) hx hb dd_X10_add_48 (by decide) ?_
  refine wk_iast (ws' := [(q 0, .inr (10, fThings q)), (q 1, .inl (cy 0, 30, .inl (upd (fun _ => 0) (0 : Int32).toNatClampNeg va))), (q 2, .inl (cy 0, 30, .inl (upd (fun _ => 0) (0 : Int32).toNatClampNeg vb))), (q 3, .inl (cy 0, 30, .inl (upd (fun _ => 0) (0 : Int32).toNatClampNeg vc))), (q 4, .inl (cy 0, 30, .inl (upd (fun _ => 0) (0 : Int32).toNatClampNeg (-1)))), (q 5, .inl (cy 0, 30, .inl (upd (fun _ => 0) (0 : Int32).toNatClampNeg (-1)))), (q 6, .inl (cy 0, 30, .inl (fun _ => 0))), (q 7, .inl (cy 0, 30, .inl (fun _ => 0)))]) Sx hK hP hD hS 5 0 rfl rfl (vi_of (by decide)) dd_X10_add_49 rfl (fun H locs hP hD hS => ?_)
  refine lv_aload_n hx hb dd_X10_add_50 rfl (lv_at hl 0 rfl) ?_
  refine wk_get (v := .ref (q 6)) Sx ef_10 hK hP 0 rfl rfl 5 (by decide) kk_82 rfl dd_X10_add_51 ?_
  refine lv_aload_n hx hb dd_X10_add_54 rfl (lv_at hl 0 rfl) ?_
  refine wk_get (v := .int 0) Sx ef_10 hK hP 0 rfl rfl 6 (by decide) kk_86 rfl dd_X10_add_55 ?_
  refine lv_iconst (v := (-1)) hx hb dd_X10_add_58 (by decide) ?_
  refine wk_iast (ws' := [(q 0, .inr (10, fThings q)), (q 1, .inl (cy 0, 30, .inl (upd (fun _ => 0) (0 : Int32).toNatClampNeg va))), (q 2, .inl (cy 0, 30, .inl (upd (fun _ => 0) (0 : Int32).toNatClampNeg vb))), (q 3, .inl (cy 0, 30, .inl (upd (fun _ => 0) (0 : Int32).toNatClampNeg vc))), (q 4, .inl (cy 0, 30, .inl (upd (fun _ => 0) (0 : Int32).toNatClampNeg (-1)))), (q 5, .inl (cy 0, 30, .inl (upd (fun _ => 0) (0 : Int32).toNatClampNeg (-1)))), (q 6, .inl (cy 0, 30, .inl (upd (fun _ => 0) (0 : Int32).toNatClampNeg (-1)))), (q 7, .inl (cy 0, 30, .inl (fun _ => 0)))]) Sx hK hP hD hS 6 0 rfl rfl (vi_of (by decide)) dd_X10_add_59 rfl (fun H locs hP hD hS => ?_)
  refine lv_aload_n hx hb dd_X10_add_60 rfl (lv_at hl 0 rfl) ?_
  refine lv_dup hx hb dd_X10_add_61 rfl ?_
  refine wk_get (v := .int 0) Sx ef_10 hK hP 0 rfl rfl 6 (by decide) kk_86 rfl dd_X10_add_62 ?_
  refine lv_iconst (v := 1) hx hb dd_X10_add_65 (by decide) ?_
  refine lv_iadd hx hb dd_X10_add_66 ?_
  refine wk_int (v := 1) (by decide) ?_
  refine wk_put (ws' := [(q 0, .inr (10, (fThings q).set 6 (.int 1))), (q 1, .inl (cy 0, 30, .inl (upd (fun _ => 0) (0 : Int32).toNatClampNeg va))), (q 2, .inl (cy 0, 30, .inl (upd (fun _ => 0) (0 : Int32).toNatClampNeg vb))), (q 3, .inl (cy 0, 30, .inl (upd (fun _ => 0) (0 : Int32).toNatClampNeg vc))), (q 4, .inl (cy 0, 30, .inl (upd (fun _ => 0) (0 : Int32).toNatClampNeg (-1)))), (q 5, .inl (cy 0, 30, .inl (upd (fun _ => 0) (0 : Int32).toNatClampNeg (-1)))), (q 6, .inl (cy 0, 30, .inl (upd (fun _ => 0) (0 : Int32).toNatClampNeg (-1)))), (q 7, .inl (cy 0, 30, .inl (fun _ => 0)))]) Sx ef_10 hK hP hD hS 0 rfl rfl 6 (by decide) kk_86 rfl rfl rfl (Nat.le_of_ble_eq_true rfl) dd_X10_add_67 rfl (fun H locs hP hD hS => ?_)
  refine lv_aload_n hx hb dd_X10_add_70 rfl (lv_at hl 0 rfl) ?_
  refine wk_get (v := .int 1) Sx ef_10 hK hP 0 rfl rfl 6 (by decide) kk_86 rfl dd_X10_add_71 ?_
  refine lv_iconst (v := 1) hx hb dd_X10_add_74 (by decide) ?_
  refine lv_isub hx hb dd_X10_add_75 ?_
  refine wk_int (v := 0) (by decide) ?_
  exact hc_ret Sx hr hlocks dd_X10_add_76 hS () rfl p_nil d_nil
set_option maxHeartbeats 4000000 in
set_option maxRecDepth 100000 in
theorem c_Ladies_add (l : Launch) (D : va_G) (cy : Nat → ClassId) (q : Nat → Nat) (va : Int32) (vb : Int32) : HC l my_X2_add mb_X2_add 3 ((some .int)) (rmD 1 0 0) D (TY cy) [.ref (q 0), .int va, .int vb] NX [(q 0, .inr (2, fLadies q)), (q 1, .inl (cy 0, 5, .inl (fun _ => 0))), (q 2, .inl (cy 0, 5, .inl (fun _ => 0))), (q 3, .inl (cy 0, 5, .inl (fun _ => 0)))] (QI (S := Unit) D (fun r _ => r = 0) (fun _ => [])) := by
  refine hc_intro (by decide) (Nat.le_of_ble_eq_true rfl) (fun p e s m below meth c A ls Sx hr hlocks hin hl hP hD hK hS hA hX => ?_)
  have hx := Sx.1
  have hb := Sx.2.1
  have hl : lv_has ls 3 [(0, .ref (q 0)), (1, .int va), (2, .int vb)] := hl
  have hP : va_P D cls [(q 0, .inr (2, fLadies q)), (q 1, .inl (cy 0, 5, .inl (fun _ => 0))), (q 2, .inl (cy 0, 5, .inl (fun _ => 0))), (q 3, .inl (cy 0, 5, .inl (fun _ => 0)))] s.heap := hP
  have hD : va_D A [(q 0, .inr (2, fLadies q)), (q 1, .inl (cy 0, 5, .inl (fun _ => 0))), (q 2, .inl (cy 0, 5, .inl (fun _ => 0))), (q 3, .inl (cy 0, 5, .inl (fun _ => 0)))] := hD
  refine lv_aload_n hx hb dd_X2_add_0 rfl (lv_at hl 0 rfl) ?_
  refine wk_get (v := .ref (q 1)) Sx ef_2 hK hP 0 rfl rfl 0 (by decide) kk_116 rfl dd_X2_add_1 ?_
  refine lv_aload_n hx hb dd_X2_add_4 rfl (lv_at hl 0 rfl) ?_
  refine wk_get (v := .int 0) Sx ef_2 hK hP 0 rfl rfl 3 (by decide) kk_123 rfl dd_X2_add_5 ?_
  refine lv_iload_n hx hb dd_X2_add_8 rfl (lv_at hl 1 rfl) ?_
  refine wk_iast (ws' := [(q 0, .inr (2, fLadies q)), (q 1, .inl (cy 0, 5, .inl (upd (fun _ => 0) (0 : Int32).toNatClampNeg va))), (q 2, .inl (cy 0, 5, .inl (fun _ => 0))), (q 3, .inl (cy 0, 5, .inl (fun _ => 0)))]) Sx hK hP hD hS 1 0 rfl rfl (vi_of (by decide)) dd_X2_add_9 rfl (fun H locs hP hD hS => ?_)
  refine lv_aload_n hx hb dd_X2_add_10 rfl (lv_at hl 0 rfl) ?_
  refine wk_get (v := .ref (q 2)) Sx ef_2 hK hP 0 rfl rfl 1 (by decide) kk_118 rfl dd_X2_add_11 ?_
  refine lv_aload_n hx hb dd_X2_add_14 rfl (lv_at hl 0 rfl) ?_
  refine wk_get (v := .int 0) Sx ef_2 hK hP 0 rfl rfl 3 (by decide) kk_123 rfl dd_X2_add_15 ?_
  refine lv_iload_n hx hb dd_X2_add_18 rfl (lv_at hl 2 rfl) ?_
  refine wk_iast (ws' := [(q 0, .inr (2, fLadies q)), (q 1, .inl (cy 0, 5, .inl (upd (fun _ => 0) (0 : Int32).toNatClampNeg va))), (q 2, .inl (cy 0, 5, .inl (upd (fun _ => 0) (0 : Int32).toNatClampNeg vb))), (q 3, .inl (cy 0, 5, .inl (fun _ => 0)))]) Sx hK hP hD hS 2 0 rfl rfl (vi_of (by decide)) dd_X2_add_19 rfl (fun H locs hP hD hS => ?_)
  refine lv_aload_n hx hb dd_X2_add_20 rfl (lv_at hl 0 rfl) ?_
  refine wk_get (v := .ref (q 3)) Sx ef_2 hK hP 0 rfl rfl 2 (by decide) kk_120 rfl dd_X2_add_21 ?_
  refine lv_aload_n hx hb dd_X2_add_24 rfl (lv_at hl 0 rfl) ?_
  refine wk_get (v := .int 0) Sx ef_2 hK hP 0 rfl rfl 3 (by decide) kk_123 rfl dd_X2_add_25 ?_
  refine lv_iconst (v := (-1)) hx hb dd_X2_add_28 (by decide) ?_
  refine wk_iast (ws' := [(q 0, .inr (2, fLadies q)), (q 1, .inl (cy 0, 5, .inl (upd (fun _ => 0) (0 : Int32).toNatClampNeg va))), (q 2, .inl (cy 0, 5, .inl (upd (fun _ => 0) (0 : Int32).toNatClampNeg vb))), (q 3, .inl (cy 0, 5, .inl (upd (fun _ => 0) (0 : Int32).toNatClampNeg (-1))))]) Sx hK hP hD hS 3 0 rfl rfl (vi_of (by decide)) dd_X2_add_29 rfl (fun H locs hP hD hS => ?_)
  refine lv_aload_n hx hb dd_X2_add_30 rfl (lv_at hl 0 rfl) ?_
  refine lv_dup hx hb dd_X2_add_31 rfl ?_
  refine wk_get (v := .int 0) Sx ef_2 hK hP 0 rfl rfl 3 (by decide) kk_123 rfl dd_X2_add_32 ?_
  refine lv_iconst (v := 1) hx hb dd_X2_add_35 (by decide) ?_
  refine lv_iadd hx hb dd_X2_add_36 ?_
  refine wk_int (v := 1) (by decide) ?_
  refine wk_put (ws' := [(q 0, .inr (2, (fLadies q).set 3 (.int 1))), (q 1, .inl (cy 0, 5, .inl (upd (fun _ => 0) (0 : Int32).toNatClampNeg va))), (q 2, .inl (cy 0, 5, .inl (upd (fun _ => 0) (0 : Int32).toNatClampNeg vb))), (q 3, .inl (cy 0, 5, .inl (upd (fun _ => 0) (0 : Int32).toNatClampNeg (-1))))]) Sx ef_2 hK hP hD hS 0 rfl rfl 3 (by decide) kk_123 rfl rfl rfl (Nat.le_of_ble_eq_true rfl) dd_X2_add_37 rfl (fun H locs hP hD hS => ?_)
  refine lv_aload_n hx hb dd_X2_add_40 rfl (lv_at hl 0 rfl) ?_
  refine wk_get (v := .int 1) Sx ef_2 hK hP 0 rfl rfl 3 (by decide) kk_123 rfl dd_X2_add_41 ?_
  refine lv_iconst (v := 1) hx hb dd_X2_add_44 (by decide) ?_
  refine lv_isub hx hb dd_X2_add_45 ?_
  refine wk_int (v := 0) (by decide) ?_
  exact hc_ret Sx hr hlocks dd_X2_add_46 hS () rfl p_nil d_nil
set_option maxHeartbeats 4000000 in
set_option maxRecDepth 100000 in
theorem c_Buyers_add (l : Launch) (D : va_G) (cy : Nat → ClassId) (q : Nat → Nat) (va : Int32) (vb : Int32) (vc : Int32) (vd : Int32) : HC l my_X0_add mb_X0_add 5 ((some .int)) (rmD 1 0 0) D (TY cy) [.ref (q 0), .int va, .int vb, .int vc, .int vd] NX [(q 0, .inr (0, fBuyers q)), (q 1, .inl (cy 0, 12, .inl (fun _ => 0))), (q 2, .inl (cy 0, 12, .inl (fun _ => 0))), (q 3, .inl (cy 0, 12, .inl (fun _ => 0))), (q 4, .inl (cy 0, 12, .inl (fun _ => 0))), (q 5, .inl (cy 0, 12, .inl (fun _ => 0)))] (QI (S := Unit) D (fun r _ => r = 0) (fun _ => [])) := by
  refine hc_intro (by decide) (Nat.le_of_ble_eq_true rfl) (fun p e s m below meth c A ls Sx hr hlocks hin hl hP hD hK hS hA hX => ?_)
  have hx := Sx.1
  have hb := Sx.2.1
  have hl : lv_has ls 5 [(0, .ref (q 0)), (1, .int va), (2, .int vb), (3, .int vc), (4, .int vd)] := hl
  have hP : va_P D cls [(q 0, .inr (0, fBuyers q)), (q 1, .inl (cy 0, 12, .inl (fun _ => 0))), (q 2, .inl (cy 0, 12, .inl (fun _ => 0))), (q 3, .inl (cy 0, 12, .inl (fun _ => 0))), (q 4, .inl (cy 0, 12, .inl (fun _ => 0))), (q 5, .inl (cy 0, 12, .inl (fun _ => 0)))] s.heap := hP
  have hD : va_D A [(q 0, .inr (0, fBuyers q)), (q 1, .inl (cy 0, 12, .inl (fun _ => 0))), (q 2, .inl (cy 0, 12, .inl (fun _ => 0))), (q 3, .inl (cy 0, 12, .inl (fun _ => 0))), (q 4, .inl (cy 0, 12, .inl (fun _ => 0))), (q 5, .inl (cy 0, 12, .inl (fun _ => 0)))] := hD
  refine lv_aload_n hx hb dd_X0_add_0 rfl (lv_at hl 0 rfl) ?_
  refine wk_get (v := .ref (q 1)) Sx ef_0 hK hP 0 rfl rfl 0 (by decide) kk_159 rfl dd_X0_add_1 ?_
  refine lv_aload_n hx hb dd_X0_add_4 rfl (lv_at hl 0 rfl) ?_
  refine wk_get (v := .int 0) Sx ef_0 hK hP 0 rfl rfl 5 (by decide) kk_174 rfl dd_X0_add_5 ?_
  refine lv_iload_n hx hb dd_X0_add_8 rfl (lv_at hl 1 rfl) ?_
  refine wk_iast (ws' := [(q 0, .inr (0, fBuyers q)), (q 1, .inl (cy 0, 12, .inl (upd (fun _ => 0) (0 : Int32).toNatClampNeg va))), (q 2, .inl (cy 0, 12, .inl (fun _ => 0))), (q 3, .inl (cy 0, 12, .inl (fun _ => 0))), (q 4, .inl (cy 0, 12, .inl (fun _ => 0))), (q 5, .inl (cy 0, 12, .inl (fun _ => 0)))]) Sx hK hP hD hS 1 0 rfl rfl (vi_of (by decide)) dd_X0_add_9 rfl (fun H locs hP hD hS => ?_)
  refine lv_aload_n hx hb dd_X0_add_10 rfl (lv_at hl 0 rfl) ?_
  refine wk_get (v := .ref (q 2)) Sx ef_0 hK hP 0 rfl rfl 1 (by decide) kk_162 rfl dd_X0_add_11 ?_
  refine lv_aload_n hx hb dd_X0_add_14 rfl (lv_at hl 0 rfl) ?_
  refine wk_get (v := .int 0) Sx ef_0 hK hP 0 rfl rfl 5 (by decide) kk_174 rfl dd_X0_add_15 ?_
  refine lv_iload_n hx hb dd_X0_add_18 rfl (lv_at hl 2 rfl) ?_
  refine wk_iast (ws' := [(q 0, .inr (0, fBuyers q)), (q 1, .inl (cy 0, 12, .inl (upd (fun _ => 0) (0 : Int32).toNatClampNeg va))), (q 2, .inl (cy 0, 12, .inl (upd (fun _ => 0) (0 : Int32).toNatClampNeg vb))), (q 3, .inl (cy 0, 12, .inl (fun _ => 0))), (q 4, .inl (cy 0, 12, .inl (fun _ => 0))), (q 5, .inl (cy 0, 12, .inl (fun _ => 0)))]) Sx hK hP hD hS 2 0 rfl rfl (vi_of (by decide)) dd_X0_add_19 rfl (fun H locs hP hD hS => ?_)
  refine lv_aload_n hx hb dd_X0_add_20 rfl (lv_at hl 0 rfl) ?_
  refine wk_get (v := .ref (q 3)) Sx ef_0 hK hP 0 rfl rfl 2 (by decide) kk_165 rfl dd_X0_add_21 ?_
  refine lv_aload_n hx hb dd_X0_add_24 rfl (lv_at hl 0 rfl) ?_
  refine wk_get (v := .int 0) Sx ef_0 hK hP 0 rfl rfl 5 (by decide) kk_174 rfl dd_X0_add_25 ?_
  refine lv_iload_n hx hb dd_X0_add_28 rfl (lv_at hl 3 rfl) ?_
  refine wk_iast (ws' := [(q 0, .inr (0, fBuyers q)), (q 1, .inl (cy 0, 12, .inl (upd (fun _ => 0) (0 : Int32).toNatClampNeg va))), (q 2, .inl (cy 0, 12, .inl (upd (fun _ => 0) (0 : Int32).toNatClampNeg vb))), (q 3, .inl (cy 0, 12, .inl (upd (fun _ => 0) (0 : Int32).toNatClampNeg vc))), (q 4, .inl (cy 0, 12, .inl (fun _ => 0))), (q 5, .inl (cy 0, 12, .inl (fun _ => 0)))]) Sx hK hP hD hS 3 0 rfl rfl (vi_of (by decide)) dd_X0_add_29 rfl (fun H locs hP hD hS => ?_)
  refine lv_aload_n hx hb dd_X0_add_30 rfl (lv_at hl 0 rfl) ?_
  refine wk_get (v := .ref (q 4)) Sx ef_0 hK hP 0 rfl rfl 3 (by decide) kk_168 rfl dd_X0_add_31 ?_
  refine lv_aload_n hx hb dd_X0_add_34 rfl (lv_at hl 0 rfl) ?_
  refine wk_get (v := .int 0) Sx ef_0 hK hP 0 rfl rfl 5 (by decide) kk_174 rfl dd_X0_add_35 ?_
  refine lv_iload hx hb dd_X0_add_38 (lv_at hl 4 rfl) ?_
  refine wk_iast (ws' := [(q 0, .inr (0, fBuyers q)), (q 1, .inl (cy 0, 12, .inl (upd (fun _ => 0) (0 : Int32).toNatClampNeg va))), (q 2, .inl (cy 0, 12, .inl (upd (fun _ => 0) (0 : Int32).toNatClampNeg vb))), (q 3, .inl (cy 0, 12, .inl (upd (fun _ => 0) (0 : Int32).toNatClampNeg vc))), (q 4, .inl (cy 0, 12, .inl (upd (fun _ => 0) (0 : Int32).toNatClampNeg vd))), (q 5, .inl (cy 0, 12, .inl (fun _ => 0)))]) Sx hK hP hD hS 4 0 rfl rfl (vi_of (by decide)) dd_X0_add_40 rfl (fun H locs hP hD hS => ?_)
  refine lv_aload_n hx hb dd_X0_add_41 rfl (lv_at hl 0 rfl) ?_
  refine wk_get (v := .ref (q 5)) Sx ef_0 hK hP 0 rfl rfl 4 (by decide) kk_171 rfl dd_X0_add_42 ?_
  refine lv_aload_n hx hb dd_X0_add_45 rfl (lv_at hl 0 rfl) ?_
  refine wk_get (v := .int 0) Sx ef_0 hK hP 0 rfl rfl 5 (by decide) kk_174 rfl dd_X0_add_46 ?_
  refine lv_iconst (v := 0) hx hb dd_X0_add_49 (by decide) ?_
  refine wk_iast (ws' := [(q 0, .inr (0, fBuyers q)), (q 1, .inl (cy 0, 12, .inl (upd (fun _ => 0) (0 : Int32).toNatClampNeg va))), (q 2, .inl (cy 0, 12, .inl (upd (fun _ => 0) (0 : Int32).toNatClampNeg vb))), (q 3, .inl (cy 0, 12, .inl (upd (fun _ => 0) (0 : Int32).toNatClampNeg vc))), (q 4, .inl (cy 0, 12, .inl (upd (fun _ => 0) (0 : Int32).toNatClampNeg vd))), (q 5, .inl (cy 0, 12, .inl (fun _ => 0)))]) Sx hK hP hD hS 5 0 rfl rfl (vi_of (by decide)) dd_X0_add_50 (by rw [upd_c]; rfl) (fun H locs hP hD hS => ?_)
  refine lv_aload_n hx hb dd_X0_add_51 rfl (lv_at hl 0 rfl) ?_
  refine lv_dup hx hb dd_X0_add_52 rfl ?_
  refine wk_get (v := .int 0) Sx ef_0 hK hP 0 rfl rfl 5 (by decide) kk_174 rfl dd_X0_add_53 ?_
  refine lv_iconst (v := 1) hx hb dd_X0_add_56 (by decide) ?_
  refine lv_iadd hx hb dd_X0_add_57 ?_
  refine wk_int (v := 1) (by decide) ?_
  refine wk_put (ws' := [(q 0, .inr (0, (fBuyers q).set 5 (.int 1))), (q 1, .inl (cy 0, 12, .inl (upd (fun _ => 0) (0 : Int32).toNatClampNeg va))), (q 2, .inl (cy 0, 12, .inl (upd (fun _ => 0) (0 : Int32).toNatClampNeg vb))), (q 3, .inl (cy 0, 12, .inl (upd (fun _ => 0) (0 : Int32).toNatClampNeg vc))), (q 4, .inl (cy 0, 12, .inl (upd (fun _ => 0) (0 : Int32).toNatClampNeg vd))), (q 5, .inl (cy 0, 12, .inl (fun _ => 0)))]) Sx ef_0 hK hP hD hS 0 rfl rfl 5 (by decide) kk_174 rfl rfl rfl (Nat.le_of_ble_eq_true rfl) dd_X0_add_58 rfl (fun H locs hP hD hS => ?_)
  refine lv_aload_n hx hb dd_X0_add_61 rfl (lv_at hl 0 rfl) ?_
  refine wk_get (v := .int 1) Sx ef_0 hK hP 0 rfl rfl 5 (by decide) kk_174 rfl dd_X0_add_62 ?_
  refine lv_iconst (v := 1) hx hb dd_X0_add_65 (by decide) ?_
  refine lv_isub hx hb dd_X0_add_66 ?_
  refine wk_int (v := 0) (by decide) ?_
  exact hc_ret Sx hr hlocks dd_X0_add_67 hS () rfl p_nil d_nil
set_option maxHeartbeats 4000000 in
set_option maxRecDepth 100000 in
theorem c_Sightings_add (l : Launch) (D : va_G) (cy : Nat → ClassId) (q : Nat → Nat) (va : Int32) (vb : Int32) (vc : Int32) (vd : Int32) : HC l my_X8_add mb_X8_add 5 ((some .int)) (rmD 1 0 0) D (TY cy) [.ref (q 0), .int va, .int vb, .int vc, .int vd] NX [(q 0, .inr (8, fSightings q)), (q 1, .inl (cy 0, 20, .inl (fun _ => 0))), (q 2, .inl (cy 0, 20, .inl (fun _ => 0))), (q 3, .inl (cy 0, 20, .inl (fun _ => 0))), (q 4, .inl (cy 0, 20, .inl (fun _ => 0))), (q 5, .inl (cy 0, 20, .inl (fun _ => 0))), (q 6, .inl (cy 0, 20, .inl (fun _ => 0))), (q 7, .inl (cy 0, 20, .inl (fun _ => 0)))] (QI (S := Unit) D (fun r _ => r = 0) (fun _ => [])) := by
  refine hc_intro (by decide) (Nat.le_of_ble_eq_true rfl) (fun p e s m below meth c A ls Sx hr hlocks hin hl hP hD hK hS hA hX => ?_)
  have hx := Sx.1
  have hb := Sx.2.1
  have hl : lv_has ls 5 [(0, .ref (q 0)), (1, .int va), (2, .int vb), (3, .int vc), (4, .int vd)] := hl
  have hP : va_P D cls [(q 0, .inr (8, fSightings q)), (q 1, .inl (cy 0, 20, .inl (fun _ => 0))), (q 2, .inl (cy 0, 20, .inl (fun _ => 0))), (q 3, .inl (cy 0, 20, .inl (fun _ => 0))), (q 4, .inl (cy 0, 20, .inl (fun _ => 0))), (q 5, .inl (cy 0, 20, .inl (fun _ => 0))), (q 6, .inl (cy 0, 20, .inl (fun _ => 0))), (q 7, .inl (cy 0, 20, .inl (fun _ => 0)))] s.heap := hP
  have hD : va_D A [(q 0, .inr (8, fSightings q)), (q 1, .inl (cy 0, 20, .inl (fun _ => 0))), (q 2, .inl (cy 0, 20, .inl (fun _ => 0))), (q 3, .inl (cy 0, 20, .inl (fun _ => 0))), (q 4, .inl (cy 0, 20, .inl (fun _ => 0))), (q 5, .inl (cy 0, 20, .inl (fun _ => 0))), (q 6, .inl (cy 0, 20, .inl (fun _ => 0))), (q 7, .inl (cy 0, 20, .inl (fun _ => 0)))] := hD
  refine lv_aload_n hx hb dd_X8_add_0 rfl (lv_at hl 0 rfl) ?_
  refine wk_get (v := .ref (q 1)) Sx ef_8 hK hP 0 rfl rfl 0 (by decide) kk_196 rfl dd_X8_add_1 ?_
  refine lv_aload_n hx hb dd_X8_add_4 rfl (lv_at hl 0 rfl) ?_
  refine wk_get (v := .int 0) Sx ef_8 hK hP 0 rfl rfl 4 (by decide) kk_200 rfl dd_X8_add_5 ?_
  refine lv_iload_n hx hb dd_X8_add_8 rfl (lv_at hl 1 rfl) ?_
  refine wk_iast (ws' := [(q 0, .inr (8, fSightings q)), (q 1, .inl (cy 0, 20, .inl (upd (fun _ => 0) (0 : Int32).toNatClampNeg va))), (q 2, .inl (cy 0, 20, .inl (fun _ => 0))), (q 3, .inl (cy 0, 20, .inl (fun _ => 0))), (q 4, .inl (cy 0, 20, .inl (fun _ => 0))), (q 5, .inl (cy 0, 20, .inl (fun _ => 0))), (q 6, .inl (cy 0, 20, .inl (fun _ => 0))), (q 7, .inl (cy 0, 20, .inl (fun _ => 0)))]) Sx hK hP hD hS 1 0 rfl rfl (vi_of (by decide)) dd_X8_add_9 rfl (fun H locs hP hD hS => ?_)
  refine lv_aload_n hx hb dd_X8_add_10 rfl (lv_at hl 0 rfl) ?_
  refine wk_get (v := .ref (q 2)) Sx ef_8 hK hP 0 rfl rfl 1 (by decide) kk_197 rfl dd_X8_add_11 ?_
  refine lv_aload_n hx hb dd_X8_add_14 rfl (lv_at hl 0 rfl) ?_
  refine wk_get (v := .int 0) Sx ef_8 hK hP 0 rfl rfl 4 (by decide) kk_200 rfl dd_X8_add_15 ?_
  refine lv_iload_n hx hb dd_X8_add_18 rfl (lv_at hl 2 rfl) ?_
  refine wk_iast (ws' := [(q 0, .inr (8, fSightings q)), (q 1, .inl (cy 0, 20, .inl (upd (fun _ => 0) (0 : Int32).toNatClampNeg va))), (q 2, .inl (cy 0, 20, .inl (upd (fun _ => 0) (0 : Int32).toNatClampNeg vb))), (q 3, .inl (cy 0, 20, .inl (fun _ => 0))), (q 4, .inl (cy 0, 20, .inl (fun _ => 0))), (q 5, .inl (cy 0, 20, .inl (fun _ => 0))), (q 6, .inl (cy 0, 20, .inl (fun _ => 0))), (q 7, .inl (cy 0, 20, .inl (fun _ => 0)))]) Sx hK hP hD hS 2 0 rfl rfl (vi_of (by decide)) dd_X8_add_19 rfl (fun H locs hP hD hS => ?_)
  refine lv_aload_n hx hb dd_X8_add_20 rfl (lv_at hl 0 rfl) ?_
  refine wk_get (v := .ref (q 3)) Sx ef_8 hK hP 0 rfl rfl 2 (by decide) kk_198 rfl dd_X8_add_21 ?_
  refine lv_aload_n hx hb dd_X8_add_24 rfl (lv_at hl 0 rfl) ?_
  refine wk_get (v := .int 0) Sx ef_8 hK hP 0 rfl rfl 4 (by decide) kk_200 rfl dd_X8_add_25 ?_
  refine lv_iload_n hx hb dd_X8_add_28 rfl (lv_at hl 3 rfl) ?_
  refine wk_iast (ws' := [(q 0, .inr (8, fSightings q)), (q 1, .inl (cy 0, 20, .inl (upd (fun _ => 0) (0 : Int32).toNatClampNeg va))), (q 2, .inl (cy 0, 20, .inl (upd (fun _ => 0) (0 : Int32).toNatClampNeg vb))), (q 3, .inl (cy 0, 20, .inl (upd (fun _ => 0) (0 : Int32).toNatClampNeg vc))), (q 4, .inl (cy 0, 20, .inl (fun _ => 0))), (q 5, .inl (cy 0, 20, .inl (fun _ => 0))), (q 6, .inl (cy 0, 20, .inl (fun _ => 0))), (q 7, .inl (cy 0, 20, .inl (fun _ => 0)))]) Sx hK hP hD hS 3 0 rfl rfl (vi_of (by decide)) dd_X8_add_29 rfl (fun H locs hP hD hS => ?_)
  refine lv_aload_n hx hb dd_X8_add_30 rfl (lv_at hl 0 rfl) ?_
  refine wk_get (v := .ref (q 4)) Sx ef_8 hK hP 0 rfl rfl 3 (by decide) kk_199 rfl dd_X8_add_31 ?_
  refine lv_aload_n hx hb dd_X8_add_34 rfl (lv_at hl 0 rfl) ?_
  refine wk_get (v := .int 0) Sx ef_8 hK hP 0 rfl rfl 4 (by decide) kk_200 rfl dd_X8_add_35 ?_
  refine lv_iload hx hb dd_X8_add_38 (lv_at hl 4 rfl) ?_
  refine wk_iast (ws' := [(q 0, .inr (8, fSightings q)), (q 1, .inl (cy 0, 20, .inl (upd (fun _ => 0) (0 : Int32).toNatClampNeg va))), (q 2, .inl (cy 0, 20, .inl (upd (fun _ => 0) (0 : Int32).toNatClampNeg vb))), (q 3, .inl (cy 0, 20, .inl (upd (fun _ => 0) (0 : Int32).toNatClampNeg vc))), (q 4, .inl (cy 0, 20, .inl (upd (fun _ => 0) (0 : Int32).toNatClampNeg vd))), (q 5, .inl (cy 0, 20, .inl (fun _ => 0))), (q 6, .inl (cy 0, 20, .inl (fun _ => 0))), (q 7, .inl (cy 0, 20, .inl (fun _ => 0)))]) Sx hK hP hD hS 4 0 rfl rfl (vi_of (by decide)) dd_X8_add_40 rfl (fun H locs hP hD hS => ?_)
  refine lv_aload_n hx hb dd_X8_add_41 rfl (lv_at hl 0 rfl) ?_
  refine lv_dup hx hb dd_X8_add_42 rfl ?_
  refine wk_get (v := .int 0) Sx ef_8 hK hP 0 rfl rfl 4 (by decide) kk_200 rfl dd_X8_add_43 ?_
  refine lv_iconst (v := 1) hx hb dd_X8_add_46 (by decide) ?_
  refine lv_iadd hx hb dd_X8_add_47 ?_
  refine wk_int (v := 1) (by decide) ?_
  refine wk_put (ws' := [(q 0, .inr (8, (fSightings q).set 4 (.int 1))), (q 1, .inl (cy 0, 20, .inl (upd (fun _ => 0) (0 : Int32).toNatClampNeg va))), (q 2, .inl (cy 0, 20, .inl (upd (fun _ => 0) (0 : Int32).toNatClampNeg vb))), (q 3, .inl (cy 0, 20, .inl (upd (fun _ => 0) (0 : Int32).toNatClampNeg vc))), (q 4, .inl (cy 0, 20, .inl (upd (fun _ => 0) (0 : Int32).toNatClampNeg vd))), (q 5, .inl (cy 0, 20, .inl (fun _ => 0))), (q 6, .inl (cy 0, 20, .inl (fun _ => 0))), (q 7, .inl (cy 0, 20, .inl (fun _ => 0)))]) Sx ef_8 hK hP hD hS 0 rfl rfl 4 (by decide) kk_200 rfl rfl rfl (Nat.le_of_ble_eq_true rfl) dd_X8_add_48 rfl (fun H locs hP hD hS => ?_)
  refine lv_aload_n hx hb dd_X8_add_51 rfl (lv_at hl 0 rfl) ?_
  refine wk_get (v := .int 1) Sx ef_8 hK hP 0 rfl rfl 4 (by decide) kk_200 rfl dd_X8_add_52 ?_
  refine lv_iconst (v := 1) hx hb dd_X8_add_55 (by decide) ?_
  refine lv_isub hx hb dd_X8_add_56 ?_
  refine wk_int (v := 0) (by decide) ?_
  exact hc_ret Sx hr hlocks dd_X8_add_57 hS () rfl p_nil d_nil
set_option maxHeartbeats 4000000 in
set_option maxRecDepth 100000 in
theorem c_countLeft (l : Launch) (D : va_G) (cy : Nat → ClassId) (q : Nat → Nat) : PC l my_X10_countLeft mb_X10_countLeft 3 ((some .int)) (rmD 1 0 0) D (TY cy) [.ref (q 0)] NS [(q 0, .inr (10, fThings q))] (vp_Si (fun r => r = 0)) := by
  refine pc_intro (by decide) (Nat.le_of_ble_eq_true rfl) (fun p e s m below meth c ls Sx hr hlocks hl hP hK hX => ?_)
  have hx := Sx.1
  have hb := Sx.2.1
  have hl : lv_has ls 3 [(0, .ref (q 0))] := hl
  refine lv_iconst (v := 0) hx hb dd_X10_countLeft_0 (by decide) ?_
  refine lv_istore_n (lv' := [(1, .int 0), (0, .ref (q 0))]) hx hb dd_X10_countLeft_1 rfl hl (by decide) rfl (fun ls hl => ?_)
  refine lv_iconst (v := 0) hx hb dd_X10_countLeft_2 (by decide) ?_
  refine lv_istore_n (lv' := [(2, .int 0), (1, .int 0), (0, .ref (q 0))]) hx hb dd_X10_countLeft_3 rfl hl (by decide) rfl (fun ls hl => ?_)
  refine lv_iload_n hx hb dd_X10_countLeft_4 rfl (lv_at hl 0 rfl) ?_
  refine lv_aload_n hx hb dd_X10_countLeft_5 rfl (lv_at hl 2 rfl) ?_
  refine wk_get (v := .int 0) Sx ef_10 hK hP 0 rfl rfl 6 (by decide) kk_86 rfl dd_X10_countLeft_6 ?_
  refine lv_icmp_ge (tgt := 29) hx hb dd_X10_countLeft_9 (by decide) (fun _ => ?_) (fun c => absurd c (by decide))
  refine lv_iload_n hx hb dd_X10_countLeft_29 rfl (lv_at hl 1 rfl) ?_
  exact pc_ret Sx hr hlocks rfl dd_X10_countLeft_30 rfl
set_option maxHeartbeats 4000000 in
set_option maxRecDepth 100000 in
theorem c_worthLeft (l : Launch) (D : va_G) (cy : Nat → ClassId) (q : Nat → Nat) (ks : Int32) : PC l my_X10_worthLeft mb_X10_worthLeft 4 ((some .int)) (rmD 1 0 0) D (TY cy) [.ref (q 0), .int ks] NS [(q 0, .inr (10, fThings q))] (vp_Si (fun r => r = 0)) := by
  refine pc_intro (by decide) (Nat.le_of_ble_eq_true rfl) (fun p e s m below meth c ls Sx hr hlocks hl hP hK hX => ?_)
  have hx := Sx.1
  have hb := Sx.2.1
  have hl : lv_has ls 4 [(0, .ref (q 0)), (1, .int ks)] := hl
  refine lv_iconst (v := 0) hx hb dd_X10_worthLeft_0 (by decide) ?_
  refine lv_istore_n (lv' := [(2, .int 0), (0, .ref (q 0)), (1, .int ks)]) hx hb dd_X10_worthLeft_1 rfl hl (by decide) rfl (fun ls hl => ?_)
  refine lv_iconst (v := 0) hx hb dd_X10_worthLeft_2 (by decide) ?_
  refine lv_istore_n (lv' := [(3, .int 0), (2, .int 0), (0, .ref (q 0)), (1, .int ks)]) hx hb dd_X10_worthLeft_3 rfl hl (by decide) rfl (fun ls hl => ?_)
  refine lv_iload_n hx hb dd_X10_worthLeft_4 rfl (lv_at hl 0 rfl) ?_
  refine lv_aload_n hx hb dd_X10_worthLeft_5 rfl (lv_at hl 2 rfl) ?_
  refine wk_get (v := .int 0) Sx ef_10 hK hP 0 rfl rfl 6 (by decide) kk_86 rfl dd_X10_worthLeft_6 ?_
  refine lv_icmp_ge (tgt := 43) hx hb dd_X10_worthLeft_9 (by decide) (fun _ => ?_) (fun c => absurd c (by decide))
  refine lv_iload_n hx hb dd_X10_worthLeft_43 rfl (lv_at hl 1 rfl) ?_
  exact pc_ret Sx hr hlocks rfl dd_X10_worthLeft_44 rfl
set_option maxHeartbeats 4000000 in
set_option maxRecDepth 100000 in
theorem c_stage (l : Launch) (D : va_G) (cy : Nat → ClassId) (ho : Int32) (ha : Int32) (ba : Int32) : PC l my_X5_stage mb_X5_stage 3 ((some .int)) (rmD 1 0 0) D (TY cy) [.int ho, .int ha, .int ba] NS [] (vp_Si (fun _ => True)) := by
  refine pc_intro (by decide) (Nat.le_of_ble_eq_true rfl) (fun p e s m below meth c ls Sx hr hlocks hl hP hK hX => ?_)
  have hx := Sx.1
  have hb := Sx.2.1
  have hl : lv_has ls 3 [(0, .int ho), (1, .int ha), (2, .int ba)] := hl
  refine lv_iload_n hx hb dd_X5_stage_0 rfl (lv_at hl 0 rfl) ?_
  refine lv_iload_n hx hb dd_X5_stage_1 rfl (lv_at hl 2 rfl) ?_
  refine lv_icmp_lt (tgt := 7) hx hb dd_X5_stage_2 (by decide) (fun c1 => ?_) (fun c1 => ?_)
  · have fc1 := ci_lt (a := ho.toInt) (b := ba.toInt) rfl rfl c1
    refine lv_iload_n hx hb dd_X5_stage_7 rfl (lv_at hl 0 rfl) ?_
    refine lv_iload_n hx hb dd_X5_stage_8 rfl (lv_at hl 1 rfl) ?_
    refine lv_icmp_lt (tgt := 16) hx hb dd_X5_stage_9 (by decide) (fun c2 => ?_) (fun c2 => ?_)
    · have fc2 := ci_lt (a := ho.toInt) (b := ha.toInt) rfl rfl c2
      refine lv_iconst (v := 0) hx hb dd_X5_stage_16 (by decide) ?_
      exact pc_ret Sx hr hlocks rfl dd_X5_stage_17 trivial
    · have fc2 := ci_nlt (a := ho.toInt) (b := ha.toInt) rfl rfl c2
      refine lv_iconst (v := 1) hx hb dd_X5_stage_12 (by decide) ?_
      refine lv_goto (tgt := 17) hx hb dd_X5_stage_13 (by decide) ?_
      exact pc_ret Sx hr hlocks rfl dd_X5_stage_17 trivial
  · have fc1 := ci_nlt (a := ho.toInt) (b := ba.toInt) rfl rfl c1
    refine lv_iconst (v := 2) hx hb dd_X5_stage_5 (by decide) ?_
    exact pc_ret Sx hr hlocks rfl dd_X5_stage_6 trivial
set_option maxHeartbeats 4000000 in
set_option maxRecDepth 100000 in
theorem c_open (l : Launch) (D : va_G) (cy : Nat → ClassId) (q : Nat → Nat) (t : Nat → Nat) (fh : Int32) (fb : Int32) (h0 : Int32) (b0 : Int32) : HC l my_X5_open mb_X5_open 6 ((none : Option Jvm.ClassFile.FieldType)) (rmD 1 0 0) D (TY cy) [.ref (q 0), .ref (t 0), .int fh, .int fb] NX [(q 0, .inr (5, ((fSale q).set 0 (.int h0)).set 1 (.int b0))), (t 0, .inr (1, fHall t)), (t 1, .inr (10, fThings (fun k => t (1 + k)))), (t 16, .inr (0, fBuyers (fun k => t (16 + k))))] (QV (S := Unit) D (fun _ => True) (fun _ => [(q 0, .inr (5, ((fSale q).set 0 (.int fh)).set 1 (.int fb))), (t 0, .inr (1, fHall t)), (t 1, .inr (10, fThings (fun k => t (1 + k)))), (t 16, .inr (0, fBuyers (fun k => t (16 + k))))])) := by
  refine hc_intro (by decide) (Nat.le_of_ble_eq_true rfl) (fun p e s m below meth c A ls Sx hr hlocks hin hl hP hD hK hS hA hX => ?_)
  have hx := Sx.1
  have hb := Sx.2.1
  have hl : lv_has ls 6 [(0, .ref (q 0)), (1, .ref (t 0)), (2, .int fh), (3, .int fb)] := hl
  have hP : va_P D cls [(q 0, .inr (5, ((fSale q).set 0 (.int h0)).set 1 (.int b0))), (t 0, .inr (1, fHall t)), (t 1, .inr (10, fThings (fun k => t (1 + k)))), (t 16, .inr (0, fBuyers (fun k => t (16 + k))))] s.heap := hP
  have hD : va_D A [(q 0, .inr (5, ((fSale q).set 0 (.int h0)).set 1 (.int b0))), (t 0, .inr (1, fHall t)), (t 1, .inr (10, fThings (fun k => t (1 + k)))), (t 16, .inr (0, fBuyers (fun k => t (16 + k))))] := hD
  refine lv_aload_n hx hb dd_X5_open_0 rfl (lv_at hl 1 rfl) ?_
  refine wk_get (v := .ref (t 1)) Sx ef_1 hK hP 1 rfl rfl 0 (by decide) kk_259 rfl dd_X5_open_1 ?_
  refine lv_astore (lv' := [(4, .ref (t 1)), (0, .ref (q 0)), (1, .ref (t 0)), (2, .int fh), (3, .int fb)]) hx hb dd_X5_open_4 hl (by decide) rfl (fun ls hl => ?_)
  refine lv_aload_n hx hb dd_X5_open_6 rfl (lv_at hl 1 rfl) ?_
  refine lv_iload_n hx hb dd_X5_open_7 rfl (lv_at hl 3 rfl) ?_
  refine wk_put (ws' := [(q 0, .inr (5, ((fSale q).set 0 (.int fh)).set 1 (.int b0))), (t 0, .inr (1, fHall t)), (t 1, .inr (10, fThings (fun k => t (1 + k)))), (t 16, .inr (0, fBuyers (fun k => t (16 + k))))]) Sx ef_5 hK hP hD hS 0 rfl rfl 0 (by decide) kk_322 rfl rfl rfl (Nat.le_of_ble_eq_true rfl) dd_X5_open_8 rfl (fun H locs hP hD hS => ?_)
  refine lv_aload_n hx hb dd_X5_open_11 rfl (lv_at hl 1 rfl) ?_
  refine lv_iload_n hx hb dd_X5_open_12 rfl (lv_at hl 4 rfl) ?_
  refine wk_put (ws' := [(q 0, .inr (5, ((fSale q).set 0 (.int fh)).set 1 (.int fb))), (t 0, .inr (1, fHall t)), (t 1, .inr (10, fThings (fun k => t (1 + k)))), (t 16, .inr (0, fBuyers (fun k => t (16 + k))))]) Sx ef_5 hK hP hD hS 0 rfl rfl 1 (by decide) kk_323 rfl rfl rfl (Nat.le_of_ble_eq_true rfl) dd_X5_open_13 rfl (fun H locs hP hD hS => ?_)
  refine lv_aload_n hx hb dd_X5_open_16 rfl (lv_at hl 1 rfl) ?_
  refine lv_iconst (v := 0) hx hb dd_X5_open_17 (by decide) ?_
  refine wk_put (ws' := [(q 0, .inr (5, ((fSale q).set 0 (.int fh)).set 1 (.int fb))), (t 0, .inr (1, fHall t)), (t 1, .inr (10, fThings (fun k => t (1 + k)))), (t 16, .inr (0, fBuyers (fun k => t (16 + k))))]) Sx ef_5 hK hP hD hS 0 rfl rfl 3 (by decide) kk_325 rfl rfl rfl (Nat.le_of_ble_eq_true rfl) dd_X5_open_18 rfl (fun H locs hP hD hS => ?_)
  refine lv_iconst (v := 0) hx hb dd_X5_open_21 (by decide) ?_
  refine lv_istore (lv' := [(5, .int 0), (4, .ref (t 1)), (0, .ref (q 0)), (1, .ref (t 0)), (2, .int fh), (3, .int fb)]) hx hb dd_X5_open_22 hl (by decide) rfl (fun ls hl => ?_)
  refine lv_iload hx hb dd_X5_open_24 (lv_at hl 0 rfl) ?_
  refine lv_aload hx hb dd_X5_open_26 (lv_at hl 1 rfl) ?_
  refine wk_get (v := .int 0) Sx ef_10 hK hP 2 rfl rfl 6 (by decide) kk_88 rfl dd_X5_open_28 ?_
  refine lv_icmp_ge (tgt := 93) hx hb dd_X5_open_31 (by decide) (fun _ => ?_) (fun c => absurd c (by decide))
  refine lv_iconst (v := 0) hx hb dd_X5_open_93 (by decide) ?_
  refine lv_istore (lv' := [(5, .int 0), (4, .ref (t 1)), (0, .ref (q 0)), (1, .ref (t 0)), (2, .int fh), (3, .int fb)]) hx hb dd_X5_open_94 hl (by decide) rfl (fun ls hl => ?_)
  refine lv_iload hx hb dd_X5_open_96 (lv_at hl 0 rfl) ?_
  refine lv_aload_n hx hb dd_X5_open_98 rfl (lv_at hl 3 rfl) ?_
  refine wk_get (v := .ref (t 16)) Sx ef_1 hK hP 1 rfl rfl 3 (by decide) kk_266 rfl dd_X5_open_99 ?_
  refine wk_get (v := .int 0) Sx ef_0 hK hP 3 rfl rfl 5 (by decide) kk_175 rfl dd_X5_open_102 ?_
  refine lv_icmp_ge (tgt := 139) hx hb dd_X5_open_105 (by decide) (fun _ => ?_) (fun c => absurd c (by decide))
  exact hc_vret Sx hr hlocks dd_X5_open_139 hS () trivial hP hD
set_option maxHeartbeats 4000000 in
set_option maxRecDepth 100000 in
theorem c_playHour (l : Launch) (D : va_G) (cy : Nat → ClassId) (q : Nat → Nat) (t : Nat → Nat) (ho : Int32) (h0 : Int32) (b0 : Int32) : PC l my_X5_playHour mb_X5_playHour 7 ((some .int)) (rmD 2 0 0) D (TY cy) [.ref (q 0), .ref (t 0), .int ho] NS [(q 0, .inr (5, ((fSale q).set 0 (.int h0)).set 1 (.int b0))), (t 0, .inr (1, fHall t)), (t 1, .inr (10, fThings (fun k => t (1 + k)))), (t 16, .inr (0, fBuyers (fun k => t (16 + k))))] (vp_Si (fun r => r = 0)) := by
  refine pc_intro (by decide) (Nat.le_of_ble_eq_true rfl) (fun p e s m below meth c ls Sx hr hlocks hl hP hK hX => ?_)
  have hx := Sx.1
  have hb := Sx.2.1
  have hl : lv_has ls 7 [(0, .ref (q 0)), (1, .ref (t 0)), (2, .int ho)] := hl
  refine lv_iload_n hx hb dd_X5_playHour_0 rfl (lv_at hl 2 rfl) ?_
  refine lv_aload_n hx hb dd_X5_playHour_1 rfl (lv_at hl 0 rfl) ?_
  refine wk_get (v := .int h0) Sx ef_5 hK hP 0 rfl rfl 0 (by decide) kk_322 rfl dd_X5_playHour_2 ?_
  refine lv_aload_n hx hb dd_X5_playHour_5 rfl (lv_at hl 0 rfl) ?_
  refine wk_get (v := .int b0) Sx ef_5 hK hP 0 rfl rfl 1 (by decide) kk_323 rfl dd_X5_playHour_6 ?_
  refine pk_i (pc_T [.int ho, .int h0, .int b0] [] Sx hl.1 ws_Sale_70 md_X5_stage (c_stage l D cy ho h0 b0) ⟨rfl, rfl⟩ ⟨Nat.le_of_ble_eq_true rfl, Nat.le_of_ble_eq_true rfl⟩ p_nil hK ns_b (ns_w hX) rfl rfl (Nat.le_of_ble_eq_true rfl) dd_X5_playHour_9 ⟨Nat.le_of_ble_eq_true rfl, Nat.le_of_ble_eq_true rfl⟩) (fun r1 hw2 => ?_)
  refine lv_istore_n (lv' := [(3, .int r1), (0, .ref (q 0)), (1, .ref (t 0)), (2, .int ho)]) hx hb dd_X5_playHour_12 rfl hl (by decide) rfl (fun ls hl => ?_)
  refine lv_iconst (v := 0) hx hb dd_X5_playHour_13 (by decide) ?_
  refine lv_istore (lv' := [(4, .int 0), (3, .int r1), (0, .ref (q 0)), (1, .ref (t 0)), (2, .int ho)]) hx hb dd_X5_playHour_14 hl (by decide) rfl (fun ls hl => ?_)
  refine lv_iconst (v := 0) hx hb dd_X5_playHour_16 (by decide) ?_
  refine lv_istore (lv' := [(5, .int 0), (4, .int 0), (3, .int r1), (0, .ref (q 0)), (1, .ref (t 0)), (2, .int ho)]) hx hb dd_X5_playHour_17 hl (by decide) rfl (fun ls hl => ?_)
  refine lv_iload hx hb dd_X5_playHour_19 (lv_at hl 0 rfl) ?_
  refine lv_aload_n hx hb dd_X5_playHour_21 rfl (lv_at hl 4 rfl) ?_
  refine wk_get (v := .ref (t 16)) Sx ef_1 hK hP 1 rfl rfl 3 (by decide) kk_266 rfl dd_X5_playHour_22 ?_
  refine wk_get (v := .int 0) Sx ef_0 hK hP 3 rfl rfl 5 (by decide) kk_175 rfl dd_X5_playHour_25 ?_
  refine lv_icmp_ge (tgt := 121) hx hb dd_X5_playHour_28 (by decide) (fun _ => ?_) (fun c => absurd c (by decide))
  refine lv_iload hx hb dd_X5_playHour_121 (lv_at hl 1 rfl) ?_
  exact pc_ret Sx hr hlocks rfl dd_X5_playHour_123 rfl
set_option maxHeartbeats 4000000 in
set_option maxRecDepth 100000 in
theorem c_wholeDay (l : Launch) (D : va_G) (cy : Nat → ClassId) (q : Nat → Nat) (t : Nat → Nat) (fh : Int32) (fb : Int32) (h0 : Int32) (b0 : Int32) : HC l my_X5_wholeDay mb_X5_wholeDay 6 ((some .int)) (rmD 3 0 0) D (TY cy) [.ref (q 0), .ref (t 0), .int fh, .int fb] NX [(q 0, .inr (5, ((fSale q).set 0 (.int h0)).set 1 (.int b0))), (t 0, .inr (1, fHall t)), (t 1, .inr (10, fThings (fun k => t (1 + k)))), (t 16, .inr (0, fBuyers (fun k => t (16 + k))))] (QI (S := Unit) D (fun r _ => r = 0) (fun _ => [(q 0, .inr (5, ((fSale q).set 0 (.int fh)).set 1 (.int fb))), (t 0, .inr (1, fHall t)), (t 1, .inr (10, fThings (fun k => t (1 + k)))), (t 16, .inr (0, fBuyers (fun k => t (16 + k))))])) := by
  refine hc_intro (by decide) (Nat.le_of_ble_eq_true rfl) (fun p e s m below meth c A ls Sx hr hlocks hin hl hP hD hK hS hA hX => ?_)
  have hx := Sx.1
  have hb := Sx.2.1
  have hl : lv_has ls 6 [(0, .ref (q 0)), (1, .ref (t 0)), (2, .int fh), (3, .int fb)] := hl
  have hP : va_P D cls [(q 0, .inr (5, ((fSale q).set 0 (.int h0)).set 1 (.int b0))), (t 0, .inr (1, fHall t)), (t 1, .inr (10, fThings (fun k => t (1 + k)))), (t 16, .inr (0, fBuyers (fun k => t (16 + k))))] s.heap := hP
  have hD : va_D A [(q 0, .inr (5, ((fSale q).set 0 (.int h0)).set 1 (.int b0))), (t 0, .inr (1, fHall t)), (t 1, .inr (10, fThings (fun k => t (1 + k)))), (t 16, .inr (0, fBuyers (fun k => t (16 + k))))] := hD
  refine lv_aload_n hx hb dd_X5_wholeDay_0 rfl (lv_at hl 0 rfl) ?_
  refine lv_aload_n hx hb dd_X5_wholeDay_1 rfl (lv_at hl 1 rfl) ?_
  refine lv_iload_n hx hb dd_X5_wholeDay_2 rfl (lv_at hl 2 rfl) ?_
  refine lv_iload_n hx hb dd_X5_wholeDay_3 rfl (lv_at hl 3 rfl) ?_
  refine hk_v (wr := []) (c1 := 0) (s1 := 0) [0, 1, 2, 3] [] (hc_V [.ref (t 0), .int fh, .int fb] [] [0, 1, 2, 3] Sx hl.1 ws_Sale_104 md_X5_open (c_open l D cy q t fh fb h0 b0) ⟨Nat.le_of_ble_eq_true rfl, Nat.le_of_ble_eq_true rfl⟩ hP hD rfl (by decide) hK nx_b (nx_w hX) (va_recv hK hP (ci := 5) (q0 := 0) rfl rfl) rfl rfl (Nat.le_of_ble_eq_true rfl) dd_X5_wholeDay_4 ⟨Nat.le_of_ble_eq_true rfl, Nat.le_of_ble_eq_true rfl⟩) hS hA hP hD rfl rfl (by decide) (by decide) rfl rfl (fun u2 H locs hw3 hP hD hS => ?_)
  have hP : va_P D cls [(q 0, .inr (5, ((fSale q).set 0 (.int fh)).set 1 (.int fb))), (t 0, .inr (1, fHall t)), (t 1, .inr (10, fThings (fun k => t (1 + k)))), (t 16, .inr (0, fBuyers (fun k => t (16 + k))))] H := hP
  have hD : va_D A [(q 0, .inr (5, ((fSale q).set 0 (.int fh)).set 1 (.int fb))), (t 0, .inr (1, fHall t)), (t 1, .inr (10, fThings (fun k => t (1 + k)))), (t 16, .inr (0, fBuyers (fun k => t (16 + k))))] := hD
  refine lv_iconst (v := 0) hx hb dd_X5_wholeDay_7 (by decide) ?_
  refine lv_istore (lv' := [(4, .int 0), (0, .ref (q 0)), (1, .ref (t 0)), (2, .int fh), (3, .int fb)]) hx hb dd_X5_wholeDay_8 hl (by decide) rfl (fun ls hl => ?_)
  refine lv_iconst (v := 0) hx hb dd_X5_wholeDay_10 (by decide) ?_
  refine lv_istore (lv' := [(5, .int 0), (4, .int 0), (0, .ref (q 0)), (1, .ref (t 0)), (2, .int fh), (3, .int fb)]) hx hb dd_X5_wholeDay_11 hl (by decide) rfl (fun ls hl => ?_)
  have hlz5 : Int32.toInt 0 = 0 := rfl
  have hI8 : 0 ≤ (0 : Int32).toInt ∧ (0 : Int32).toInt ≤ 12 := ⟨by omega, by omega⟩
  refine pl1 13 6 (fun (u : Int32) => [(5, .int u), (4, .int 0), (0, .ref (q 0)), (1, .ref (t 0)), (2, .int fh), (3, .int fb)]) (fun (u : Int32) => 0 ≤ u.toInt ∧ u.toInt ≤ 12) (fun (u : Int32) => (12 - u.toInt).toNat) (fun u ls hI7 hl ih6 => ?_) 0 hI8 (lv_sub hl [0, 1, 2, 3, 4, 5] rfl)
  obtain ⟨i4, ei4⟩ : ∃ y, y = u := ⟨_, rfl⟩
  subst ei4
  have hl : lv_has ls 6 [(5, .int i4), (4, .int 0), (0, .ref (q 0)), (1, .ref (t 0)), (2, .int fh), (3, .int fb)] := hl
  have hI7 : 0 ≤ i4.toInt ∧ i4.toInt ≤ 12 := hI7
  obtain ⟨iv9, iv10⟩ := hI7
  refine lv_iload hx hb dd_X5_wholeDay_13 (lv_at hl 0 rfl) ?_
  refine lv_bipush (v := 12) hx hb dd_X5_wholeDay_15 (by decide) ?_
  refine lv_icmp_ge (tgt := 38) hx hb dd_X5_wholeDay_17 (by decide) (fun c11 => ?_) (fun c11 => ?_)
  · have fc11 := ci_le (a := 12) (b := i4.toInt) rfl rfl c11
    refine lv_iload hx hb dd_X5_wholeDay_38 (lv_at hl 1 rfl) ?_
    exact hc_ret Sx hr hlocks dd_X5_wholeDay_40 hS () rfl hP hD
  · have fc11 := ci_nle (a := 12) (b := i4.toInt) rfl rfl c11
    refine lv_iload hx hb dd_X5_wholeDay_20 (lv_at hl 1 rfl) ?_
    refine lv_aload_n hx hb dd_X5_wholeDay_22 rfl (lv_at hl 2 rfl) ?_
    refine lv_aload_n hx hb dd_X5_wholeDay_23 rfl (lv_at hl 3 rfl) ?_
    refine lv_iload hx hb dd_X5_wholeDay_24 (lv_at hl 0 rfl) ?_
    refine pk_i (pc_V [.ref (t 0), .int i4] [.int 0] Sx hl.1 ws_Sale_108 md_X5_playHour (c_playHour l D cy q t i4 fh fb) ⟨rfl, rfl⟩ ⟨Nat.le_of_ble_eq_true rfl, Nat.le_of_ble_eq_true rfl⟩ (hP.sub [0, 1, 2, 3] rfl) hK ns_b (ns_w hX) (va_recv hK hP (ci := 5) (q0 := 0) rfl rfl) rfl rfl (Nat.le_of_ble_eq_true rfl) dd_X5_wholeDay_26 ⟨Nat.le_of_ble_eq_true rfl, Nat.le_of_ble_eq_true rfl⟩) (fun r12 hw13 => ?_)
    subst hw13
    refine lv_iadd hx hb dd_X5_wholeDay_29 ?_
    refine wk_int (v := 0) (by decide) ?_
    refine lv_istore (lv' := [(4, .int 0), (5, .int i4), (0, .ref (q 0)), (1, .ref (t 0)), (2, .int fh), (3, .int fb)]) hx hb dd_X5_wholeDay_30 hl (by decide) rfl (fun ls hl => ?_)
    obtain ⟨z14, ez14⟩ : ∃ y : Int32, y = i4 + Int32.ofInt 1 := ⟨_, rfl⟩
    have fz14 : z14.toInt = i4.toInt + 1 := by rw [ez14]; exact ti_add rfl (show (Int32.ofInt 1).toInt = 1 by decide) (by omega) (by omega)
    refine lv_iinc (v := z14) (lv' := [(5, .int z14), (4, .int 0), (0, .ref (q 0)), (1, .ref (t 0)), (2, .int fh), (3, .int fb)]) hx hb dd_X5_wholeDay_32 hl (k := 1) rfl ez14.symm (by decide) rfl (fun ls hl => ?_)
    refine lv_goto (tgt := 13) hx hb dd_X5_wholeDay_35 (by decide) ?_
    have hI15 : 0 ≤ z14.toInt ∧ z14.toInt ≤ 12 := ⟨by omega, by omega⟩
    have hm16 : (12 - z14.toInt).toNat < (12 - i4.toInt).toNat := by omega
    exact ih6 z14 ls hI15 hm16 (lv_sub hl [0, 1, 2, 3, 4, 5] rfl)
set_option maxHeartbeats 4000000 in
set_option maxRecDepth 100000 in
theorem c_settle (l : Launch) (D : va_G) (cy : Nat → ClassId) (q : Nat → Nat) (t : Nat → Nat) (h0 : Int32) (b0 : Int32) : PC l my_X5_settle mb_X5_settle 6 ((none : Option Jvm.ClassFile.FieldType)) (rmD 1 0 0) D (TY cy) [.ref (q 0), .ref (t 0)] NS [(q 0, .inr (5, ((fSale q).set 0 (.int h0)).set 1 (.int b0))), (t 0, .inr (1, fHall t)), (t 1, .inr (10, fThings (fun k => t (1 + k)))), (t 16, .inr (0, fBuyers (fun k => t (16 + k))))] (va_Sv (fun _ => True)) := by
  refine pc_intro (by decide) (Nat.le_of_ble_eq_true rfl) (fun p e s m below meth c ls Sx hr hlocks hl hP hK hX => ?_)
  have hx := Sx.1
  have hb := Sx.2.1
  have hl : lv_has ls 6 [(0, .ref (q 0)), (1, .ref (t 0))] := hl
  refine lv_aload_n hx hb dd_X5_settle_0 rfl (lv_at hl 1 rfl) ?_
  refine wk_get (v := .ref (t 1)) Sx ef_1 hK hP 1 rfl rfl 0 (by decide) kk_259 rfl dd_X5_settle_1 ?_
  refine lv_astore_n (lv' := [(2, .ref (t 1)), (0, .ref (q 0)), (1, .ref (t 0))]) hx hb dd_X5_settle_4 rfl hl (by decide) rfl (fun ls hl => ?_)
  refine lv_aload_n hx hb dd_X5_settle_5 rfl (lv_at hl 2 rfl) ?_
  refine wk_get (v := .ref (t 16)) Sx ef_1 hK hP 1 rfl rfl 3 (by decide) kk_266 rfl dd_X5_settle_6 ?_
  refine lv_astore_n (lv' := [(3, .ref (t 16)), (2, .ref (t 1)), (0, .ref (q 0)), (1, .ref (t 0))]) hx hb dd_X5_settle_9 rfl hl (by decide) rfl (fun ls hl => ?_)
  refine lv_iconst (v := 0) hx hb dd_X5_settle_10 (by decide) ?_
  refine lv_istore (lv' := [(4, .int 0), (3, .ref (t 16)), (2, .ref (t 1)), (0, .ref (q 0)), (1, .ref (t 0))]) hx hb dd_X5_settle_11 hl (by decide) rfl (fun ls hl => ?_)
  refine lv_iload hx hb dd_X5_settle_13 (lv_at hl 0 rfl) ?_
  refine lv_aload_n hx hb dd_X5_settle_15 rfl (lv_at hl 2 rfl) ?_
  refine wk_get (v := .int 0) Sx ef_10 hK hP 2 rfl rfl 6 (by decide) kk_88 rfl dd_X5_settle_16 ?_
  refine lv_icmp_ge (tgt := 97) hx hb dd_X5_settle_19 (by decide) (fun _ => ?_) (fun c => absurd c (by decide))
  exact pc_vret Sx hr hlocks dd_X5_settle_97 trivial
set_option maxHeartbeats 4000000 in
set_option maxRecDepth 100000 in
theorem c_bestLady (l : Launch) (D : va_G) (cy : Nat → ClassId) (q : Nat → Nat) (bu : Int32) : PC l my_X1_bestLady mb_X1_bestLady 7 ((some .int)) (rmD 1 0 0) D (TY cy) [.ref (q 0), .int bu, .int 0] NS [(q 0, .inr (1, fHall q))] (vp_Si (fun r => r = (-1))) := by
  refine pc_intro (by decide) (Nat.le_of_ble_eq_true rfl) (fun p e s m below meth c ls Sx hr hlocks hl hP hK hX => ?_)
  have hx := Sx.1
  have hb := Sx.2.1
  have hl : lv_has ls 7 [(0, .ref (q 0)), (1, .int bu), (2, .int 0)] := hl
  refine lv_iconst (v := (-1)) hx hb dd_X1_bestLady_0 (by decide) ?_
  refine lv_istore_n (lv' := [(3, .int (-1)), (0, .ref (q 0)), (1, .int bu), (2, .int 0)]) hx hb dd_X1_bestLady_1 rfl hl (by decide) rfl (fun ls hl => ?_)
  refine lv_iconst (v := 0) hx hb dd_X1_bestLady_2 (by decide) ?_
  refine lv_istore (lv' := [(4, .int 0), (3, .int (-1)), (0, .ref (q 0)), (1, .int bu), (2, .int 0)]) hx hb dd_X1_bestLady_3 hl (by decide) rfl (fun ls hl => ?_)
  refine lv_iload_n hx hb dd_X1_bestLady_5 rfl (lv_at hl 4 rfl) ?_
  refine lv_aload_n hx hb dd_X1_bestLady_6 rfl (lv_at hl 2 rfl) ?_
  refine wk_get (v := .int 0) Sx ef_1 hK hP 0 rfl rfl 7 (by decide) kk_274 rfl dd_X1_bestLady_7 ?_
  refine lv_icmp_lt (tgt := 15) hx hb dd_X1_bestLady_10 (by decide) (fun c => absurd c (by decide)) (fun _ => ?_)
  refine lv_iconst (v := (-1)) hx hb dd_X1_bestLady_13 (by decide) ?_
  exact pc_ret Sx hr hlocks rfl dd_X1_bestLady_14 rfl
set_option maxHeartbeats 4000000 in
set_option maxRecDepth 100000 in
theorem c_planTables (l : Launch) (D : va_G) (cy : Nat → ClassId) (q : Nat → Nat) : HC l my_X1_planTables mb_X1_planTables 4 ((none : Option Jvm.ClassFile.FieldType)) (rmD 2 0 0) D (TY cy) [.ref (q 0)] NX [(q 0, .inr (1, fHall q)), (q 9, .inr (2, fLadies (fun k => q (9 + k)))), (q 40, .inl (cy 0, 32, .inl (fun _ => 0)))] (QV (S := Unit) D (fun _ => True) (fun _ => [(q 0, .inr (1, fHall q)), (q 9, .inr (2, fLadies (fun k => q (9 + k)))), (q 40, .inl (cy 0, 32, .inl (fun _ => 0)))])) := by
  refine hc_intro (by decide) (Nat.le_of_ble_eq_true rfl) (fun p e s m below meth c A ls Sx hr hlocks hin hl hP hD hK hS hA hX => ?_)
  have hx := Sx.1
  have hb := Sx.2.1
  have hl : lv_has ls 4 [(0, .ref (q 0))] := hl
  have hP : va_P D cls [(q 0, .inr (1, fHall q)), (q 9, .inr (2, fLadies (fun k => q (9 + k)))), (q 40, .inl (cy 0, 32, .inl (fun _ => 0)))] s.heap := hP
  have hD : va_D A [(q 0, .inr (1, fHall q)), (q 9, .inr (2, fLadies (fun k => q (9 + k)))), (q 40, .inl (cy 0, 32, .inl (fun _ => 0)))] := hD
  refine lv_iconst (v := 0) hx hb dd_X1_planTables_0 (by decide) ?_
  refine lv_istore_n (lv' := [(1, .int 0), (0, .ref (q 0))]) hx hb dd_X1_planTables_1 rfl hl (by decide) rfl (fun ls hl => ?_)
  refine lv_iload_n hx hb dd_X1_planTables_2 rfl (lv_at hl 0 rfl) ?_
  refine lv_aload_n hx hb dd_X1_planTables_3 rfl (lv_at hl 1 rfl) ?_
  refine wk_get (v := .ref (q 9)) Sx ef_1 hK hP 0 rfl rfl 1 (by decide) kk_261 rfl dd_X1_planTables_4 ?_
  refine wk_get (v := .int 0) Sx ef_2 hK hP 1 rfl rfl 3 (by decide) kk_124 rfl dd_X1_planTables_7 ?_
  refine lv_icmp_ge (tgt := 56) hx hb dd_X1_planTables_10 (by decide) (fun _ => ?_) (fun c => absurd c (by decide))
  refine lv_iconst (v := 1) hx hb dd_X1_planTables_56 (by decide) ?_
  refine lv_aload_n hx hb dd_X1_planTables_57 rfl (lv_at hl 1 rfl) ?_
  refine wk_get (v := .ref (q 9)) Sx ef_1 hK hP 0 rfl rfl 1 (by decide) kk_261 rfl dd_X1_planTables_58 ?_
  refine wk_get (v := .int 0) Sx ef_2 hK hP 1 rfl rfl 3 (by decide) kk_124 rfl dd_X1_planTables_61 ?_
  refine lv_ishl hx hb dd_X1_planTables_64 ?_
  refine wk_int (v := 1) (by decide) ?_
  refine lv_iconst (v := 1) hx hb dd_X1_planTables_65 (by decide) ?_
  refine lv_isub hx hb dd_X1_planTables_66 ?_
  refine wk_int (v := 0) (by decide) ?_
  refine lv_istore_n (lv' := [(1, .int 0), (0, .ref (q 0))]) hx hb dd_X1_planTables_67 rfl hl (by decide) rfl (fun ls hl => ?_)
  refine lv_iload_n hx hb dd_X1_planTables_68 rfl (lv_at hl 0 rfl) ?_
  refine lv_if_lt (tgt := 112) hx hb dd_X1_planTables_69 (by decide) (fun c => absurd c (by decide)) (fun _ => ?_)
  refine lv_iload_n hx hb dd_X1_planTables_72 rfl (lv_at hl 0 rfl) ?_
  refine pk_i (pc_T [.int 0] [] Sx hl.1 ws_Hall_134 md_J6_bitCount_0f7a4 (c_bitCount0 l D cy) ⟨rfl, rfl⟩ ⟨Nat.le_of_ble_eq_true rfl, Nat.le_of_ble_eq_true rfl⟩ p_nil hK ns_b (ns_w hX) rfl rfl (Nat.le_of_ble_eq_true rfl) dd_X1_planTables_73 ⟨Nat.le_of_ble_eq_true rfl, Nat.le_of_ble_eq_true rfl⟩) (fun r1 hw2 => ?_)
  subst hw2
  refine lv_istore_n (lv' := [(2, .int 0), (1, .int 0), (0, .ref (q 0))]) hx hb dd_X1_planTables_76 rfl hl (by decide) rfl (fun ls hl => ?_)
  refine lv_aload_n hx hb dd_X1_planTables_77 rfl (lv_at hl 2 rfl) ?_
  refine lv_iload_n hx hb dd_X1_planTables_78 rfl (lv_at hl 1 rfl) ?_
  refine lv_iload_n hx hb dd_X1_planTables_79 rfl (lv_at hl 0 rfl) ?_
  refine pk_i (pc_V [.int 0, .int 0] [] Sx hl.1 ws_Hall_139 md_X1_bestLady (c_bestLady l D cy q 0) ⟨rfl, rfl⟩ ⟨Nat.le_of_ble_eq_true rfl, Nat.le_of_ble_eq_true rfl⟩ (hP.sub [0] rfl) hK ns_b (ns_w hX) (va_recv hK hP (ci := 1) (q0 := 0) rfl rfl) rfl rfl (Nat.le_of_ble_eq_true rfl) dd_X1_planTables_80 ⟨Nat.le_of_ble_eq_true rfl, Nat.le_of_ble_eq_true rfl⟩) (fun r3 hw4 => ?_)
  subst hw4
  refine lv_istore_n (lv' := [(3, .int (-1)), (2, .int 0), (1, .int 0), (0, .ref (q 0))]) hx hb dd_X1_planTables_83 rfl hl (by decide) rfl (fun ls hl => ?_)
  refine lv_aload_n hx hb dd_X1_planTables_84 rfl (lv_at hl 3 rfl) ?_
  refine wk_get (v := .ref (q 40)) Sx ef_1 hK hP 0 rfl rfl 13 (by decide) kk_285 rfl dd_X1_planTables_85 ?_
  refine lv_iload_n hx hb dd_X1_planTables_88 rfl (lv_at hl 2 rfl) ?_
  refine lv_iload_n hx hb dd_X1_planTables_89 rfl (lv_at hl 0 rfl) ?_
  refine lv_iconst (v := (-1)) hx hb dd_X1_planTables_90 (by decide) ?_
  refine lv_icmp_ne (tgt := 98) hx hb dd_X1_planTables_91 (by decide) (fun c => absurd c (by decide)) (fun _ => ?_)
  refine lv_iconst (v := 0) hx hb dd_X1_planTables_94 (by decide) ?_
  refine lv_goto (tgt := 105) hx hb dd_X1_planTables_95 (by decide) ?_
  refine wk_iast (ws' := [(q 0, .inr (1, fHall q)), (q 9, .inr (2, fLadies (fun k => q (9 + k)))), (q 40, .inl (cy 0, 32, .inl (fun _ => 0)))]) Sx hK hP hD hS 2 0 rfl rfl (vi_of (by decide)) dd_X1_planTables_105 (by rw [upd_c]; rfl) (fun H locs hP hD hS => ?_)
  refine lv_iinc (v := (-1)) (lv' := [(1, .int (-1)), (3, .int (-1)), (2, .int 0), (0, .ref (q 0))]) hx hb dd_X1_planTables_106 hl (k := 2) rfl (by decide) (by decide) rfl (fun ls hl => ?_)
  refine lv_goto (tgt := 68) hx hb dd_X1_planTables_109 (by decide) ?_
  refine lv_iload_n hx hb dd_X1_planTables_68 rfl (lv_at hl 0 rfl) ?_
  refine lv_if_lt (tgt := 112) hx hb dd_X1_planTables_69 (by decide) (fun _ => ?_) (fun c => absurd c (by decide))
  exact hc_vret Sx hr hlocks dd_X1_planTables_112 hS () trivial hP hD
set_option maxHeartbeats 4000000 in
set_option maxRecDepth 100000 in
theorem c_longestRow (l : Launch) (D : va_G) (cy : Nat → ClassId) (q : Nat → Nat) : PC l my_X8_longestRow mb_X8_longestRow 4 ((some .int)) (rmD 1 0 0) D (TY cy) [.ref (q 0)] NS [(q 0, .inr (8, fSightings q))] (vp_Si (fun r => r = 0)) := by
  refine pc_intro (by decide) (Nat.le_of_ble_eq_true rfl) (fun p e s m below meth c ls Sx hr hlocks hl hP hK hX => ?_)
  have hx := Sx.1
  have hb := Sx.2.1
  have hl : lv_has ls 4 [(0, .ref (q 0))] := hl
  refine lv_iconst (v := 0) hx hb dd_X8_longestRow_0 (by decide) ?_
  refine lv_istore_n (lv' := [(1, .int 0), (0, .ref (q 0))]) hx hb dd_X8_longestRow_1 rfl hl (by decide) rfl (fun ls hl => ?_)
  refine lv_iconst (v := 0) hx hb dd_X8_longestRow_2 (by decide) ?_
  refine lv_istore_n (lv' := [(2, .int 0), (1, .int 0), (0, .ref (q 0))]) hx hb dd_X8_longestRow_3 rfl hl (by decide) rfl (fun ls hl => ?_)
  have hlz2 : Int32.toInt 0 = 0 := rfl
  have hI5 : 0 ≤ (0 : Int32).toInt ∧ (0 : Int32).toInt ≤ 100 := ⟨by omega, by omega⟩
  refine pl1 4 4 (fun (u : Int32) => [(2, .int u), (1, .int 0), (0, .ref (q 0))]) (fun (u : Int32) => 0 ≤ u.toInt ∧ u.toInt ≤ 100) (fun (u : Int32) => (100 - u.toInt).toNat) (fun u ls hI4 hl ih3 => ?_) 0 hI5 (lv_sub hl [0, 1, 2] rfl)
  obtain ⟨y1, ey1⟩ : ∃ y, y = u := ⟨_, rfl⟩
  subst ey1
  have hl : lv_has ls 4 [(2, .int y1), (1, .int 0), (0, .ref (q 0))] := hl
  have hI4 : 0 ≤ y1.toInt ∧ y1.toInt ≤ 100 := hI4
  obtain ⟨iv6, iv7⟩ := hI4
  refine lv_iload_n hx hb dd_X8_longestRow_4 rfl (lv_at hl 0 rfl) ?_
  refine lv_bipush (v := 99) hx hb dd_X8_longestRow_5 (by decide) ?_
  refine lv_icmp_gt (tgt := 66) hx hb dd_X8_longestRow_7 (by decide) (fun c8 => ?_) (fun c8 => ?_)
  · have fc8 := ci_lt (a := 99) (b := y1.toInt) rfl rfl c8
    refine lv_iload_n hx hb dd_X8_longestRow_66 rfl (lv_at hl 1 rfl) ?_
    exact pc_ret Sx hr hlocks rfl dd_X8_longestRow_67 rfl
  · have fc8 := ci_nlt (a := 99) (b := y1.toInt) rfl rfl c8
    refine lv_iconst (v := 0) hx hb dd_X8_longestRow_10 (by decide) ?_
    refine lv_istore_n (lv' := [(3, .int 0), (2, .int y1), (1, .int 0), (0, .ref (q 0))]) hx hb dd_X8_longestRow_11 rfl hl (by decide) rfl (fun ls hl => ?_)
    refine lv_iload_n hx hb dd_X8_longestRow_12 rfl (lv_at hl 0 rfl) ?_
    refine lv_aload_n hx hb dd_X8_longestRow_13 rfl (lv_at hl 3 rfl) ?_
    refine wk_get (v := .int 0) Sx ef_8 hK hP 0 rfl rfl 4 (by decide) kk_200 rfl dd_X8_longestRow_14 ?_
    refine lv_icmp_ge (tgt := 60) hx hb dd_X8_longestRow_17 (by decide) (fun _ => ?_) (fun c => absurd c (by decide))
    obtain ⟨z9, ez9⟩ : ∃ y : Int32, y = y1 + Int32.ofInt 1 := ⟨_, rfl⟩
    have fz9 : z9.toInt = y1.toInt + 1 := by rw [ez9]; exact ti_add rfl (show (Int32.ofInt 1).toInt = 1 by decide) (by omega) (by omega)
    refine lv_iinc (v := z9) (lv' := [(2, .int z9), (3, .int 0), (1, .int 0), (0, .ref (q 0))]) hx hb dd_X8_longestRow_60 hl (k := 1) rfl ez9.symm (by decide) rfl (fun ls hl => ?_)
    refine lv_goto (tgt := 4) hx hb dd_X8_longestRow_63 (by decide) ?_
    have hI10 : 0 ≤ z9.toInt ∧ z9.toInt ≤ 100 := ⟨by omega, by omega⟩
    have hm11 : (100 - z9.toInt).toNat < (100 - y1.toInt).toNat := by omega
    exact ih3 z9 ls hI10 hm11 (lv_sub hl [0, 2, 3] rfl)
set_option maxHeartbeats 4000000 in
set_option maxRecDepth 100000 in
theorem c_fewestVases (l : Launch) (D : va_G) (cy : Nat → ClassId) (q : Nat → Nat) : HC l my_X8_fewestVases mb_X8_fewestVases 3 ((some .int)) (rmD 2 0 0) D (TY cy) [.ref (q 0)] NX [(q 0, .inr (8, fSightings q)), (q 1, .inl (cy 0, 20, .inl (fun _ => 0))), (q 2, .inl (cy 0, 20, .inl (fun _ => 0))), (q 3, .inl (cy 0, 20, .inl (fun _ => 0))), (q 4, .inl (cy 0, 20, .inl (fun _ => 0))), (q 5, .inl (cy 0, 20, .inl (fun _ => 0))), (q 6, .inl (cy 0, 20, .inl (fun _ => 0))), (q 7, .inl (cy 0, 20, .inl (fun _ => 0)))] (QI (S := Unit) D (fun r _ => r = 0) (fun _ => [])) := by
  refine hc_intro (by decide) (Nat.le_of_ble_eq_true rfl) (fun p e s m below meth c A ls Sx hr hlocks hin hl hP hD hK hS hA hX => ?_)
  have hx := Sx.1
  have hb := Sx.2.1
  have hl : lv_has ls 3 [(0, .ref (q 0))] := hl
  have hP : va_P D cls [(q 0, .inr (8, fSightings q)), (q 1, .inl (cy 0, 20, .inl (fun _ => 0))), (q 2, .inl (cy 0, 20, .inl (fun _ => 0))), (q 3, .inl (cy 0, 20, .inl (fun _ => 0))), (q 4, .inl (cy 0, 20, .inl (fun _ => 0))), (q 5, .inl (cy 0, 20, .inl (fun _ => 0))), (q 6, .inl (cy 0, 20, .inl (fun _ => 0))), (q 7, .inl (cy 0, 20, .inl (fun _ => 0)))] s.heap := hP
  have hD : va_D A [(q 0, .inr (8, fSightings q)), (q 1, .inl (cy 0, 20, .inl (fun _ => 0))), (q 2, .inl (cy 0, 20, .inl (fun _ => 0))), (q 3, .inl (cy 0, 20, .inl (fun _ => 0))), (q 4, .inl (cy 0, 20, .inl (fun _ => 0))), (q 5, .inl (cy 0, 20, .inl (fun _ => 0))), (q 6, .inl (cy 0, 20, .inl (fun _ => 0))), (q 7, .inl (cy 0, 20, .inl (fun _ => 0)))] := hD
  refine lv_aload_n hx hb dd_X8_fewestVases_0 rfl (lv_at hl 0 rfl) ?_
  refine wk_get (v := .ref (q 5)) Sx ef_8 hK hP 0 rfl rfl 5 (by decide) kk_202 rfl dd_X8_fewestVases_1 ?_
  refine lv_iconst (v := (-1)) hx hb dd_X8_fewestVases_4 (by decide) ?_
  refine hk_v (wr := [(q 0, .inr (8, fSightings q)), (q 1, .inl (cy 0, 20, .inl (fun _ => 0))), (q 2, .inl (cy 0, 20, .inl (fun _ => 0))), (q 3, .inl (cy 0, 20, .inl (fun _ => 0))), (q 4, .inl (cy 0, 20, .inl (fun _ => 0))), (q 6, .inl (cy 0, 20, .inl (fun _ => 0))), (q 7, .inl (cy 0, 20, .inl (fun _ => 0)))]) (c1 := 0) (s1 := 0) [5] [0, 1, 2, 3, 4, 6, 7] (hc_T [.ref (q 5), .int (-1)] [] [5] Sx hl.1 ws_Sightings_41 md_J7_fill_53178 (c_fill_i20 l D cy (q 5) (-1) (fun _ => 0)) ⟨Nat.le_of_ble_eq_true rfl, Nat.le_of_ble_eq_true rfl⟩ hP hD rfl (by decide) hK nx_b (nx_w hX) rfl rfl (Nat.le_of_ble_eq_true rfl) dd_X8_fewestVases_5 ⟨Nat.le_of_ble_eq_true rfl, Nat.le_of_ble_eq_true rfl⟩) hS hA hP hD rfl rfl (by decide) (by decide) rfl rfl (fun u2 H locs hw3 hP hD hS => ?_)
  have hP : va_P D cls [(q 0, .inr (8, fSightings q)), (q 1, .inl (cy 0, 20, .inl (fun _ => 0))), (q 2, .inl (cy 0, 20, .inl (fun _ => 0))), (q 3, .inl (cy 0, 20, .inl (fun _ => 0))), (q 4, .inl (cy 0, 20, .inl (fun _ => 0))), (q 6, .inl (cy 0, 20, .inl (fun _ => 0))), (q 7, .inl (cy 0, 20, .inl (fun _ => 0)))] H := hP
  have hD : va_D A [(q 0, .inr (8, fSightings q)), (q 1, .inl (cy 0, 20, .inl (fun _ => 0))), (q 2, .inl (cy 0, 20, .inl (fun _ => 0))), (q 3, .inl (cy 0, 20, .inl (fun _ => 0))), (q 4, .inl (cy 0, 20, .inl (fun _ => 0))), (q 6, .inl (cy 0, 20, .inl (fun _ => 0))), (q 7, .inl (cy 0, 20, .inl (fun _ => 0)))] := hD
  refine lv_iconst (v := 0) hx hb dd_X8_fewestVases_8 (by decide) ?_
  refine lv_istore_n (lv' := [(1, .int 0), (0, .ref (q 0))]) hx hb dd_X8_fewestVases_9 rfl hl (by decide) rfl (fun ls hl => ?_)
  refine lv_iconst (v := 0) hx hb dd_X8_fewestVases_10 (by decide) ?_
  refine lv_istore_n (lv' := [(2, .int 0), (1, .int 0), (0, .ref (q 0))]) hx hb dd_X8_fewestVases_11 rfl hl (by decide) rfl (fun ls hl => ?_)
  refine lv_iload_n hx hb dd_X8_fewestVases_12 rfl (lv_at hl 0 rfl) ?_
  refine lv_aload_n hx hb dd_X8_fewestVases_13 rfl (lv_at hl 2 rfl) ?_
  refine wk_get (v := .int 0) Sx ef_8 hK hP 0 rfl rfl 4 (by decide) kk_200 rfl dd_X8_fewestVases_14 ?_
  refine lv_icmp_ge (tgt := 46) hx hb dd_X8_fewestVases_17 (by decide) (fun _ => ?_) (fun c => absurd c (by decide))
  refine lv_aload_n hx hb dd_X8_fewestVases_46 rfl (lv_at hl 2 rfl) ?_
  refine wk_get (v := .int 0) Sx ef_8 hK hP 0 rfl rfl 4 (by decide) kk_200 rfl dd_X8_fewestVases_47 ?_
  refine lv_iload_n hx hb dd_X8_fewestVases_50 rfl (lv_at hl 1 rfl) ?_
  refine lv_isub hx hb dd_X8_fewestVases_51 ?_
  refine wk_int (v := 0) (by decide) ?_
  exact hc_ret Sx hr hlocks dd_X8_fewestVases_52 hS () rfl p_nil d_nil
set_option maxHeartbeats 4000000 in
set_option maxRecDepth 100000 in
theorem c_bargains (l : Launch) (D : va_G) (cy : Nat → ClassId) (q : Nat → Nat) (t : Nat → Nat) (mi : Int32) (hmi : 0 ≤ mi.toInt ∧ mi.toInt ≤ 200) : HC l my_X4_bargains mb_X4_bargains 4 ((some .int)) (rmD 1 0 0) D (TY cy) [.ref (q 0), .ref (t 0), .int mi] NX [(q 0, .inr (4, fPicks q)), (q 1, .inl (cy 0, 10000, .inl (fun _ => 0))), (q 2, .inl (cy 0, 201, .inl (fun _ => 0))), (t 0, .inr (10, fThings t))] (QI (S := Unit) D (fun r _ => r = 0) (fun _ => [])) := by
  refine hc_intro (by decide) (Nat.le_of_ble_eq_true rfl) (fun p e s m below meth c A ls Sx hr hlocks hin hl hP hD hK hS hA hX => ?_)
  have hx := Sx.1
  have hb := Sx.2.1
  have hl : lv_has ls 4 [(0, .ref (q 0)), (1, .ref (t 0)), (2, .int mi)] := hl
  have hP : va_P D cls [(q 0, .inr (4, fPicks q)), (q 1, .inl (cy 0, 10000, .inl (fun _ => 0))), (q 2, .inl (cy 0, 201, .inl (fun _ => 0))), (t 0, .inr (10, fThings t))] s.heap := hP
  have hD : va_D A [(q 0, .inr (4, fPicks q)), (q 1, .inl (cy 0, 10000, .inl (fun _ => 0))), (q 2, .inl (cy 0, 201, .inl (fun _ => 0))), (t 0, .inr (10, fThings t))] := hD
  refine lv_iconst (v := 0) hx hb dd_X4_bargains_0 (by decide) ?_
  refine lv_istore_n (lv' := [(3, .int 0), (0, .ref (q 0)), (1, .ref (t 0)), (2, .int mi)]) hx hb dd_X4_bargains_1 rfl hl (by decide) rfl (fun ls hl => ?_)
  have hlz2 : Int32.toInt 0 = 0 := rfl
  have hI5 : 0 ≤ (0 : Int32).toInt ∧ (0 : Int32).toInt ≤ mi.toInt + 1 := ⟨by omega, by omega⟩
  refine gl1 2 4 (fun (u : Int32) => [(q 0, .inr (4, fPicks q)), (q 1, .inl (cy 0, 10000, .inl (fun _ => 0))), (q 2, .inl (cy 0, 201, .inl (fun _ => 0))), (t 0, .inr (10, fThings t))]) (fun (u : Int32) => [(3, .int u), (0, .ref (q 0)), (1, .ref (t 0)), (2, .int mi)]) (fun (u : Int32) => 0 ≤ u.toInt ∧ u.toInt ≤ mi.toInt + 1) (fun (u : Int32) => (mi.toInt + 1 - u.toInt).toNat) (fun u H locs ls hI4 hl hP hD hS ih3 => ?_) 0 hI5 (lv_sub hl [0, 1, 2, 3] rfl) hP hD hS
  obtain ⟨i1, ei1⟩ : ∃ y, y = u := ⟨_, rfl⟩
  subst ei1
  have hl : lv_has ls 4 [(3, .int i1), (0, .ref (q 0)), (1, .ref (t 0)), (2, .int mi)] := hl
  have hP : va_P D cls [(q 0, .inr (4, fPicks q)), (q 1, .inl (cy 0, 10000, .inl (fun _ => 0))), (q 2, .inl (cy 0, 201, .inl (fun _ => 0))), (t 0, .inr (10, fThings t))] H := hP
  have hD : va_D A [(q 0, .inr (4, fPicks q)), (q 1, .inl (cy 0, 10000, .inl (fun _ => 0))), (q 2, .inl (cy 0, 201, .inl (fun _ => 0))), (t 0, .inr (10, fThings t))] := hD
  have hI4 : 0 ≤ i1.toInt ∧ i1.toInt ≤ mi.toInt + 1 := hI4
  obtain ⟨iv6, iv7⟩ := hI4
  refine lv_iload_n hx hb dd_X4_bargains_2 rfl (lv_at hl 0 rfl) ?_
  refine lv_iload_n hx hb dd_X4_bargains_3 rfl (lv_at hl 3 rfl) ?_
  refine lv_icmp_gt (tgt := 27) hx hb dd_X4_bargains_4 (by decide) (fun c8 => ?_) (fun c8 => ?_)
  · have fc8 := ci_lt (a := mi.toInt) (b := i1.toInt) rfl rfl c8
    refine lv_iconst (v := 0) hx hb dd_X4_bargains_27 (by decide) ?_
    refine lv_istore_n (lv' := [(3, .int 0), (0, .ref (q 0)), (1, .ref (t 0)), (2, .int mi)]) hx hb dd_X4_bargains_28 rfl hl (by decide) rfl (fun ls hl => ?_)
    refine lv_iload_n hx hb dd_X4_bargains_29 rfl (lv_at hl 0 rfl) ?_
    refine lv_aload_n hx hb dd_X4_bargains_30 rfl (lv_at hl 2 rfl) ?_
    refine wk_get (v := .int 0) Sx ef_10 hK hP 3 rfl rfl 6 (by decide) kk_87 rfl dd_X4_bargains_31 ?_
    refine lv_icmp_ge (tgt := 77) hx hb dd_X4_bargains_34 (by decide) (fun _ => ?_) (fun c => absurd c (by decide))
    refine lv_aload_n hx hb dd_X4_bargains_77 rfl (lv_at hl 1 rfl) ?_
    refine wk_get (v := .ref (q 1)) Sx ef_4 hK hP 0 rfl rfl 0 (by decide) kk_356 rfl dd_X4_bargains_78 ?_
    refine lv_iload_n hx hb dd_X4_bargains_81 rfl (lv_at hl 3 rfl) ?_
    have hi9 : vp_in mi 10000 := (vi_of (by omega))
    refine va_iald hx hb hK hP 1 0 rfl rfl hi9 dd_X4_bargains_82 ?_
    refine wk_int (v := 0) rfl ?_
    exact hc_ret Sx hr hlocks dd_X4_bargains_83 hS () rfl p_nil d_nil
  · have fc8 := ci_nlt (a := mi.toInt) (b := i1.toInt) rfl rfl c8
    refine lv_aload_n hx hb dd_X4_bargains_7 rfl (lv_at hl 1 rfl) ?_
    refine wk_get (v := .ref (q 1)) Sx ef_4 hK hP 0 rfl rfl 0 (by decide) kk_356 rfl dd_X4_bargains_8 ?_
    refine lv_iload_n hx hb dd_X4_bargains_11 rfl (lv_at hl 0 rfl) ?_
    refine lv_iconst (v := 0) hx hb dd_X4_bargains_12 (by decide) ?_
    refine wk_iast (ws' := [(q 0, .inr (4, fPicks q)), (q 1, .inl (cy 0, 10000, .inl (fun _ => 0))), (q 2, .inl (cy 0, 201, .inl (fun _ => 0))), (t 0, .inr (10, fThings t))]) Sx hK hP hD hS 1 0 rfl rfl (vi_of (by omega)) dd_X4_bargains_13 (by rw [upd_c]; rfl) (fun H locs hP hD hS => ?_)
    refine lv_aload_n hx hb dd_X4_bargains_14 rfl (lv_at hl 1 rfl) ?_
    refine wk_get (v := .ref (q 2)) Sx ef_4 hK hP 0 rfl rfl 1 (by decide) kk_357 rfl dd_X4_bargains_15 ?_
    refine lv_iload_n hx hb dd_X4_bargains_18 rfl (lv_at hl 0 rfl) ?_
    refine lv_iconst (v := 0) hx hb dd_X4_bargains_19 (by decide) ?_
    refine wk_iast (ws' := [(q 0, .inr (4, fPicks q)), (q 1, .inl (cy 0, 10000, .inl (fun _ => 0))), (q 2, .inl (cy 0, 201, .inl (fun _ => 0))), (t 0, .inr (10, fThings t))]) Sx hK hP hD hS 2 0 rfl rfl (vi_of (by omega)) dd_X4_bargains_20 (by rw [upd_c]; rfl) (fun H locs hP hD hS => ?_)
    obtain ⟨z10, ez10⟩ : ∃ y : Int32, y = i1 + Int32.ofInt 1 := ⟨_, rfl⟩
    have fz10 : z10.toInt = i1.toInt + 1 := by rw [ez10]; exact ti_add rfl (show (Int32.ofInt 1).toInt = 1 by decide) (by omega) (by omega)
    refine lv_iinc (v := z10) (lv' := [(3, .int z10), (0, .ref (q 0)), (1, .ref (t 0)), (2, .int mi)]) hx hb dd_X4_bargains_21 hl (k := 0) rfl ez10.symm (by decide) rfl (fun ls hl => ?_)
    refine lv_goto (tgt := 2) hx hb dd_X4_bargains_24 (by decide) ?_
    have hI11 : 0 ≤ z10.toInt ∧ z10.toInt ≤ mi.toInt + 1 := ⟨by omega, by omega⟩
    have hm12 : (mi.toInt + 1 - z10.toInt).toNat < (mi.toInt + 1 - i1.toInt).toNat := by omega
    exact ih3 z10 H locs ls hI11 hm12 (lv_sub hl [0, 1, 2, 3] rfl) hP hD hS
set_option maxHeartbeats 4000000 in
set_option maxRecDepth 100000 in
theorem c_fewestPaid (l : Launch) (D : va_G) (cy : Nat → ClassId) (q : Nat → Nat) (t : Nat → Nat) (su : Int32) (hsu : 1 ≤ su.toInt ∧ su.toInt ≤ 9999) : HC l my_X4_fewestPaid mb_X4_fewestPaid 5 ((some .int)) (rmD 1 0 0) D (TY cy) [.ref (q 0), .ref (t 0), .int su] NX [(q 0, .inr (4, fPicks q)), (q 1, .inl (cy 0, 10000, .inl (fun _ => 0))), (t 0, .inr (10, fThings t))] (QI (S := Unit) D (fun r _ => r = (-1)) (fun _ => [])) := by
  refine hc_intro (by decide) (Nat.le_of_ble_eq_true rfl) (fun p e s m below meth c A ls Sx hr hlocks hin hl hP hD hK hS hA hX => ?_)
  have hx := Sx.1
  have hb := Sx.2.1
  have hl : lv_has ls 5 [(0, .ref (q 0)), (1, .ref (t 0)), (2, .int su)] := hl
  have hP : va_P D cls [(q 0, .inr (4, fPicks q)), (q 1, .inl (cy 0, 10000, .inl (fun _ => 0))), (t 0, .inr (10, fThings t))] s.heap := hP
  have hD : va_D A [(q 0, .inr (4, fPicks q)), (q 1, .inl (cy 0, 10000, .inl (fun _ => 0))), (t 0, .inr (10, fThings t))] := hD
  refine lv_aload_n hx hb dd_X4_fewestPaid_0 rfl (lv_at hl 0 rfl) ?_
  refine wk_get (v := .ref (q 1)) Sx ef_4 hK hP 0 rfl rfl 0 (by decide) kk_356 rfl dd_X4_fewestPaid_1 ?_
  refine lv_iconst (v := 0) hx hb dd_X4_fewestPaid_4 (by decide) ?_
  refine lv_iconst (v := 0) hx hb dd_X4_fewestPaid_5 (by decide) ?_
  refine wk_iast (ws' := [(q 0, .inr (4, fPicks q)), (q 1, .inl (cy 0, 10000, .inl (fun _ => 0))), (t 0, .inr (10, fThings t))]) Sx hK hP hD hS 1 0 rfl rfl (vi_of (by decide)) dd_X4_fewestPaid_6 (by rw [upd_c]; rfl) (fun H locs hP hD hS => ?_)
  refine lv_iconst (v := 1) hx hb dd_X4_fewestPaid_7 (by decide) ?_
  refine lv_istore_n (lv' := [(3, .int 1), (0, .ref (q 0)), (1, .ref (t 0)), (2, .int su)]) hx hb dd_X4_fewestPaid_8 rfl hl (by decide) rfl (fun ls hl => ?_)
  have hlz3 : Int32.toInt 1 = 1 := rfl
  have hI6 : 1 ≤ (1 : Int32).toInt ∧ (1 : Int32).toInt ≤ su.toInt + 1 ∧ (∀ j : Nat, 1 ≤ (j : Int) → (j : Int) < (1 : Int32).toInt → (((fun _ => 0)) : Nat → Int32) j = (-1)) := ⟨by omega, by omega, fun j h1 h2 => absurd h2 (by omega)⟩
  refine gl1 9 5 (fun (u : Int32 × (Nat → Int32)) => [(q 0, .inr (4, fPicks q)), (q 1, .inl (cy 0, 10000, .inl (u.2))), (t 0, .inr (10, fThings t))]) (fun (u : Int32 × (Nat → Int32)) => [(3, .int u.1), (0, .ref (q 0)), (1, .ref (t 0)), (2, .int su)]) (fun (u : Int32 × (Nat → Int32)) => 1 ≤ u.1.toInt ∧ u.1.toInt ≤ su.toInt + 1 ∧ (∀ j : Nat, 1 ≤ (j : Int) → (j : Int) < u.1.toInt → u.2 j = (-1))) (fun (u : Int32 × (Nat → Int32)) => (su.toInt + 1 - u.1.toInt).toNat) (fun u H locs ls hI5 hl hP hD hS ih4 => ?_) (1, (fun _ => 0)) hI6 (lv_sub hl [0, 1, 2, 3] rfl) hP hD hS
  obtain ⟨i2, f1⟩ := u
  have hl : lv_has ls 5 [(3, .int i2), (0, .ref (q 0)), (1, .ref (t 0)), (2, .int su)] := hl
  have hP : va_P D cls [(q 0, .inr (4, fPicks q)), (q 1, .inl (cy 0, 10000, .inl (f1))), (t 0, .inr (10, fThings t))] H := hP
  have hD : va_D A [(q 0, .inr (4, fPicks q)), (q 1, .inl (cy 0, 10000, .inl (f1))), (t 0, .inr (10, fThings t))] := hD
  have hI5 : 1 ≤ i2.toInt ∧ i2.toInt ≤ su.toInt + 1 ∧ (∀ j : Nat, 1 ≤ (j : Int) → (j : Int) < i2.toInt → f1 j = (-1)) := hI5
  obtain ⟨iv7, iv8, iv9⟩ := hI5
  refine lv_iload_n hx hb dd_X4_fewestPaid_9 rfl (lv_at hl 0 rfl) ?_
  refine lv_iload_n hx hb dd_X4_fewestPaid_10 rfl (lv_at hl 3 rfl) ?_
  refine lv_icmp_gt (tgt := 27) hx hb dd_X4_fewestPaid_11 (by decide) (fun c10 => ?_) (fun c10 => ?_)
  · have fc10 := ci_lt (a := su.toInt) (b := i2.toInt) rfl rfl c10
    refine lv_iconst (v := 0) hx hb dd_X4_fewestPaid_27 (by decide) ?_
    refine lv_istore_n (lv' := [(3, .int 0), (0, .ref (q 0)), (1, .ref (t 0)), (2, .int su)]) hx hb dd_X4_fewestPaid_28 rfl hl (by decide) rfl (fun ls hl => ?_)
    refine lv_iconst (v := 0) hx hb dd_X4_fewestPaid_29 (by decide) ?_
    refine lv_istore (lv' := [(4, .int 0), (3, .int 0), (0, .ref (q 0)), (1, .ref (t 0)), (2, .int su)]) hx hb dd_X4_fewestPaid_30 hl (by decide) rfl (fun ls hl => ?_)
    refine lv_iload hx hb dd_X4_fewestPaid_32 (lv_at hl 0 rfl) ?_
    refine lv_aload_n hx hb dd_X4_fewestPaid_34 rfl (lv_at hl 3 rfl) ?_
    refine wk_get (v := .int 0) Sx ef_10 hK hP 2 rfl rfl 6 (by decide) kk_87 rfl dd_X4_fewestPaid_35 ?_
    refine lv_icmp_ge (tgt := 84) hx hb dd_X4_fewestPaid_38 (by decide) (fun _ => ?_) (fun c => absurd c (by decide))
    refine lv_aload_n hx hb dd_X4_fewestPaid_84 rfl (lv_at hl 2 rfl) ?_
    refine wk_get (v := .ref (q 1)) Sx ef_4 hK hP 0 rfl rfl 0 (by decide) kk_356 rfl dd_X4_fewestPaid_85 ?_
    refine lv_iload_n hx hb dd_X4_fewestPaid_88 rfl (lv_at hl 4 rfl) ?_
    have hi11 : vp_in su 10000 := (vi_of (by omega))
    refine va_iald hx hb hK hP 1 0 rfl rfl hi11 dd_X4_fewestPaid_89 ?_
    refine wk_int (v := (-1)) (inv_read iv9 su (by omega) (by omega)) ?_
    exact hc_ret Sx hr hlocks dd_X4_fewestPaid_90 hS () rfl p_nil d_nil
  · have fc10 := ci_nlt (a := su.toInt) (b := i2.toInt) rfl rfl c10
    refine lv_aload_n hx hb dd_X4_fewestPaid_14 rfl (lv_at hl 1 rfl) ?_
    refine wk_get (v := .ref (q 1)) Sx ef_4 hK hP 0 rfl rfl 0 (by decide) kk_356 rfl dd_X4_fewestPaid_15 ?_
    refine lv_iload_n hx hb dd_X4_fewestPaid_18 rfl (lv_at hl 0 rfl) ?_
    refine lv_iconst (v := (-1)) hx hb dd_X4_fewestPaid_19 (by decide) ?_
    refine wk_iast (ws' := [(q 0, .inr (4, fPicks q)), (q 1, .inl (cy 0, 10000, .inl (upd f1 i2.toNatClampNeg (-1)))), (t 0, .inr (10, fThings t))]) Sx hK hP hD hS 1 0 rfl rfl (vi_of (by omega)) dd_X4_fewestPaid_20 rfl (fun H locs hP hD hS => ?_)
    obtain ⟨z12, ez12⟩ : ∃ y : Int32, y = i2 + Int32.ofInt 1 := ⟨_, rfl⟩
    have fz12 : z12.toInt = i2.toInt + 1 := by rw [ez12]; exact ti_add rfl (show (Int32.ofInt 1).toInt = 1 by decide) (by omega) (by omega)
    refine lv_iinc (v := z12) (lv' := [(3, .int z12), (0, .ref (q 0)), (1, .ref (t 0)), (2, .int su)]) hx hb dd_X4_fewestPaid_21 hl (k := 0) rfl ez12.symm (by decide) rfl (fun ls hl => ?_)
    refine lv_goto (tgt := 9) hx hb dd_X4_fewestPaid_24 (by decide) ?_
    have hI13 : 1 ≤ z12.toInt ∧ z12.toInt ≤ su.toInt + 1 ∧ (∀ j : Nat, 1 ≤ (j : Int) → (j : Int) < z12.toInt → (((upd f1 i2.toNatClampNeg (-1))) : Nat → Int32) j = (-1)) := ⟨by omega, by omega, inv_upd (v := (-1)) iv9 i2 (by omega) (by omega)⟩
    have hm14 : (su.toInt + 1 - z12.toInt).toNat < (su.toInt + 1 - i2.toInt).toNat := by omega
    exact ih4 (z12, (upd f1 i2.toNatClampNeg (-1))) H locs ls hI13 hm14 (lv_sub hl [0, 1, 2, 3] rfl) hP hD hS
set_option maxHeartbeats 4000000 in
set_option maxRecDepth 100000 in
theorem c_bestTurns (l : Launch) (D : va_G) (cy : Nat → ClassId) (q : Nat → Nat) (t : Nat → Nat) (h0 : Int32) (b0 : Int32) : HC l my_X5_bestTurns mb_X5_bestTurns 7 ((some .int)) (rmD 4 0 0) D (TY cy) [.ref (q 0), .ref (t 0)] NX [(q 0, .inr (5, ((fSale q).set 0 (.int h0)).set 1 (.int b0))), (t 0, .inr (1, fHall t)), (t 1, .inr (10, fThings (fun k => t (1 + k)))), (t 16, .inr (0, fBuyers (fun k => t (16 + k))))] (QI (S := Unit) D (fun r _ => r = 1212) (fun _ => [])) := by
  refine hc_intro (by decide) (Nat.le_of_ble_eq_true rfl) (fun p e s m below meth c A ls Sx hr hlocks hin hl hP hD hK hS hA hX => ?_)
  have hx := Sx.1
  have hb := Sx.2.1
  have hl : lv_has ls 7 [(0, .ref (q 0)), (1, .ref (t 0))] := hl
  have hP : va_P D cls [(q 0, .inr (5, ((fSale q).set 0 (.int h0)).set 1 (.int b0))), (t 0, .inr (1, fHall t)), (t 1, .inr (10, fThings (fun k => t (1 + k)))), (t 16, .inr (0, fBuyers (fun k => t (16 + k))))] s.heap := hP
  have hD : va_D A [(q 0, .inr (5, ((fSale q).set 0 (.int h0)).set 1 (.int b0))), (t 0, .inr (1, fHall t)), (t 1, .inr (10, fThings (fun k => t (1 + k)))), (t 16, .inr (0, fBuyers (fun k => t (16 + k))))] := hD
  refine lv_iconst (v := (-1)) hx hb dd_X5_bestTurns_0 (by decide) ?_
  refine lv_istore_n (lv' := [(2, .int (-1)), (0, .ref (q 0)), (1, .ref (t 0))]) hx hb dd_X5_bestTurns_1 rfl hl (by decide) rfl (fun ls hl => ?_)
  refine lv_iconst (v := (-1)) hx hb dd_X5_bestTurns_2 (by decide) ?_
  refine lv_istore_n (lv' := [(3, .int (-1)), (2, .int (-1)), (0, .ref (q 0)), (1, .ref (t 0))]) hx hb dd_X5_bestTurns_3 rfl hl (by decide) rfl (fun ls hl => ?_)
  refine lv_bipush (v := 12) hx hb dd_X5_bestTurns_4 (by decide) ?_
  refine lv_istore (lv' := [(4, .int 12), (3, .int (-1)), (2, .int (-1)), (0, .ref (q 0)), (1, .ref (t 0))]) hx hb dd_X5_bestTurns_6 hl (by decide) rfl (fun ls hl => ?_)
  refine lv_iload hx hb dd_X5_bestTurns_8 (lv_at hl 0 rfl) ?_
  refine lv_if_lt (tgt := 65) hx hb dd_X5_bestTurns_10 (by decide) (fun c => absurd c (by decide)) (fun _ => ?_)
  refine lv_bipush (v := 12) hx hb dd_X5_bestTurns_13 (by decide) ?_
  refine lv_istore (lv' := [(5, .int 12), (4, .int 12), (3, .int (-1)), (2, .int (-1)), (0, .ref (q 0)), (1, .ref (t 0))]) hx hb dd_X5_bestTurns_15 hl (by decide) rfl (fun ls hl => ?_)
  refine lv_iload hx hb dd_X5_bestTurns_17 (lv_at hl 0 rfl) ?_
  refine lv_iload hx hb dd_X5_bestTurns_19 (lv_at hl 1 rfl) ?_
  refine lv_icmp_lt (tgt := 59) hx hb dd_X5_bestTurns_21 (by decide) (fun c => absurd c (by decide)) (fun _ => ?_)
  refine lv_aload_n hx hb dd_X5_bestTurns_24 rfl (lv_at hl 4 rfl) ?_
  refine lv_aload_n hx hb dd_X5_bestTurns_25 rfl (lv_at hl 5 rfl) ?_
  refine lv_iload hx hb dd_X5_bestTurns_26 (lv_at hl 1 rfl) ?_
  refine lv_iload hx hb dd_X5_bestTurns_28 (lv_at hl 0 rfl) ?_
  refine hk_i (wr := []) (c1 := 0) (s1 := 0) [0, 1, 2, 3] [] (hc_V [.ref (t 0), .int 12, .int 12] [] [0, 1, 2, 3] Sx hl.1 ws_Sale_112 md_X5_wholeDay (c_wholeDay l D cy q t 12 12 h0 b0) ⟨Nat.le_of_ble_eq_true rfl, Nat.le_of_ble_eq_true rfl⟩ hP hD rfl (by decide) hK nx_b (nx_w hX) (va_recv hK hP (ci := 5) (q0 := 0) rfl rfl) rfl rfl (Nat.le_of_ble_eq_true rfl) dd_X5_bestTurns_30 ⟨Nat.le_of_ble_eq_true rfl, Nat.le_of_ble_eq_true rfl⟩) hS hA hP hD rfl rfl (by decide) (by decide) rfl rfl (fun r1 u2 H locs hw3 hP hD hS => ?_)
  have hP : va_P D cls [(q 0, .inr (5, fSale q)), (t 0, .inr (1, fHall t)), (t 1, .inr (10, fThings (fun k => t (1 + k)))), (t 16, .inr (0, fBuyers (fun k => t (16 + k))))] H := hP
  have hD : va_D A [(q 0, .inr (5, fSale q)), (t 0, .inr (1, fHall t)), (t 1, .inr (10, fThings (fun k => t (1 + k)))), (t 16, .inr (0, fBuyers (fun k => t (16 + k))))] := hD
  subst hw3
  refine lv_istore (lv' := [(6, .int 0), (5, .int 12), (4, .int 12), (3, .int (-1)), (2, .int (-1)), (0, .ref (q 0)), (1, .ref (t 0))]) hx hb dd_X5_bestTurns_33 hl (by decide) rfl (fun ls hl => ?_)
  refine lv_iload hx hb dd_X5_bestTurns_35 (lv_at hl 0 rfl) ?_
  refine lv_iload_n hx hb dd_X5_bestTurns_37 rfl (lv_at hl 3 rfl) ?_
  refine lv_icmp_le (tgt := 53) hx hb dd_X5_bestTurns_38 (by decide) (fun c => absurd c (by decide)) (fun _ => ?_)
  refine lv_bipush (v := 100) hx hb dd_X5_bestTurns_41 (by decide) ?_
  refine lv_iload hx hb dd_X5_bestTurns_43 (lv_at hl 2 rfl) ?_
  refine lv_imul hx hb dd_X5_bestTurns_45 ?_
  refine wk_int (v := 1200) (by decide) ?_
  refine lv_iload hx hb dd_X5_bestTurns_46 (lv_at hl 1 rfl) ?_
  refine lv_iadd hx hb dd_X5_bestTurns_48 ?_
  refine wk_int (v := 1212) (by decide) ?_
  refine lv_istore_n (lv' := [(2, .int 1212), (6, .int 0), (5, .int 12), (4, .int 12), (3, .int (-1)), (0, .ref (q 0)), (1, .ref (t 0))]) hx hb dd_X5_bestTurns_49 rfl hl (by decide) rfl (fun ls hl => ?_)
  refine lv_iload hx hb dd_X5_bestTurns_50 (lv_at hl 1 rfl) ?_
  refine lv_istore_n (lv' := [(3, .int 0), (2, .int 1212), (6, .int 0), (5, .int 12), (4, .int 12), (0, .ref (q 0)), (1, .ref (t 0))]) hx hb dd_X5_bestTurns_52 rfl hl (by decide) rfl (fun ls hl => ?_)
  refine lv_iinc (v := 11) (lv' := [(5, .int 11), (3, .int 0), (2, .int 1212), (6, .int 0), (4, .int 12), (0, .ref (q 0)), (1, .ref (t 0))]) hx hb dd_X5_bestTurns_53 hl (k := 3) rfl (by decide) (by decide) rfl (fun ls hl => ?_)
  refine lv_goto (tgt := 17) hx hb dd_X5_bestTurns_56 (by decide) ?_
  refine lv_iload hx hb dd_X5_bestTurns_17 (lv_at hl 0 rfl) ?_
  refine lv_iload hx hb dd_X5_bestTurns_19 (lv_at hl 4 rfl) ?_
  refine lv_icmp_lt (tgt := 59) hx hb dd_X5_bestTurns_21 (by decide) (fun _ => ?_) (fun c => absurd c (by decide))
  refine lv_iinc (v := 11) (lv' := [(4, .int 11), (5, .int 11), (3, .int 0), (2, .int 1212), (6, .int 0), (0, .ref (q 0)), (1, .ref (t 0))]) hx hb dd_X5_bestTurns_59 hl (k := 4) rfl (by decide) (by decide) rfl (fun ls hl => ?_)
  refine lv_goto (tgt := 8) hx hb dd_X5_bestTurns_62 (by decide) ?_
  have hlz7 : Int32.toInt 11 = 11 := rfl
  have hI10 : -1 ≤ (11 : Int32).toInt ∧ (11 : Int32).toInt ≤ 11 := ⟨by omega, by omega⟩
  refine gl1 8 7 (fun (u : Int32 × Int32 × Int32) => [(q 0, .inr (5, ((fSale q).set 0 (.int u.2.1)).set 1 (.int u.2.2))), (t 0, .inr (1, fHall t)), (t 1, .inr (10, fThings (fun k => t (1 + k)))), (t 16, .inr (0, fBuyers (fun k => t (16 + k))))]) (fun (u : Int32 × Int32 × Int32) => [(4, .int u.1), (3, .int 0), (2, .int 1212), (0, .ref (q 0)), (1, .ref (t 0))]) (fun (u : Int32 × Int32 × Int32) => -1 ≤ u.1.toInt ∧ u.1.toInt ≤ 11) (fun (u : Int32 × Int32 × Int32) => (u.1.toInt + 1).toNat) (fun u H locs ls hI9 hl hP hD hS ih8 => ?_) (11, 12, 12) hI10 (lv_sub hl [0, 2, 3, 5, 6] rfl) hP hD hS
  obtain ⟨x4, y5, y6⟩ := u
  have hl : lv_has ls 7 [(4, .int x4), (3, .int 0), (2, .int 1212), (0, .ref (q 0)), (1, .ref (t 0))] := hl
  have hP : va_P D cls [(q 0, .inr (5, ((fSale q).set 0 (.int y5)).set 1 (.int y6))), (t 0, .inr (1, fHall t)), (t 1, .inr (10, fThings (fun k => t (1 + k)))), (t 16, .inr (0, fBuyers (fun k => t (16 + k))))] H := hP
  have hD : va_D A [(q 0, .inr (5, ((fSale q).set 0 (.int y5)).set 1 (.int y6))), (t 0, .inr (1, fHall t)), (t 1, .inr (10, fThings (fun k => t (1 + k)))), (t 16, .inr (0, fBuyers (fun k => t (16 + k))))] := hD
  have hI9 : -1 ≤ x4.toInt ∧ x4.toInt ≤ 11 := hI9
  obtain ⟨iv11, iv12⟩ := hI9
  refine lv_iload hx hb dd_X5_bestTurns_8 (lv_at hl 0 rfl) ?_
  refine lv_if_lt (tgt := 65) hx hb dd_X5_bestTurns_10 (by decide) (fun c13 => ?_) (fun c13 => ?_)
  · have fc13 := ci_lt (a := x4.toInt) (b := 0) rfl rfl c13
    refine lv_iload_n hx hb dd_X5_bestTurns_65 rfl (lv_at hl 2 rfl) ?_
    exact hc_ret Sx hr hlocks dd_X5_bestTurns_66 hS () rfl p_nil d_nil
  · have fc13 := ci_nlt (a := x4.toInt) (b := 0) rfl rfl c13
    refine lv_bipush (v := 12) hx hb dd_X5_bestTurns_13 (by decide) ?_
    refine lv_istore (lv' := [(5, .int 12), (4, .int x4), (3, .int 0), (2, .int 1212), (0, .ref (q 0)), (1, .ref (t 0))]) hx hb dd_X5_bestTurns_15 hl (by decide) rfl (fun ls hl => ?_)
    have hlz17 : Int32.toInt 12 = 12 := rfl
    have hI20 : x4.toInt - 1 ≤ (12 : Int32).toInt ∧ (12 : Int32).toInt ≤ 12 := ⟨by omega, by omega⟩
    refine gl1 17 7 (fun (u : Int32 × Int32 × Int32) => [(q 0, .inr (5, ((fSale q).set 0 (.int u.2.1)).set 1 (.int u.2.2))), (t 0, .inr (1, fHall t)), (t 1, .inr (10, fThings (fun k => t (1 + k)))), (t 16, .inr (0, fBuyers (fun k => t (16 + k))))]) (fun (u : Int32 × Int32 × Int32) => [(5, .int u.1), (4, .int x4), (3, .int 0), (2, .int 1212), (0, .ref (q 0)), (1, .ref (t 0))]) (fun (u : Int32 × Int32 × Int32) => x4.toInt - 1 ≤ u.1.toInt ∧ u.1.toInt ≤ 12) (fun (u : Int32 × Int32 × Int32) => (u.1.toInt - x4.toInt + 1).toNat) (fun u H locs ls hI19 hl hP hD hS ih18 => ?_) (12, y5, y6) hI20 (lv_sub hl [0, 1, 2, 3, 4, 5] rfl) hP hD hS
    obtain ⟨x14, y15, y16⟩ := u
    have hl : lv_has ls 7 [(5, .int x14), (4, .int x4), (3, .int 0), (2, .int 1212), (0, .ref (q 0)), (1, .ref (t 0))] := hl
    have hP : va_P D cls [(q 0, .inr (5, ((fSale q).set 0 (.int y15)).set 1 (.int y16))), (t 0, .inr (1, fHall t)), (t 1, .inr (10, fThings (fun k => t (1 + k)))), (t 16, .inr (0, fBuyers (fun k => t (16 + k))))] H := hP
    have hD : va_D A [(q 0, .inr (5, ((fSale q).set 0 (.int y15)).set 1 (.int y16))), (t 0, .inr (1, fHall t)), (t 1, .inr (10, fThings (fun k => t (1 + k)))), (t 16, .inr (0, fBuyers (fun k => t (16 + k))))] := hD
    have hI19 : x4.toInt - 1 ≤ x14.toInt ∧ x14.toInt ≤ 12 := hI19
    obtain ⟨iv21, iv22⟩ := hI19
    refine lv_iload hx hb dd_X5_bestTurns_17 (lv_at hl 0 rfl) ?_
    refine lv_iload hx hb dd_X5_bestTurns_19 (lv_at hl 1 rfl) ?_
    refine lv_icmp_lt (tgt := 59) hx hb dd_X5_bestTurns_21 (by decide) (fun c23 => ?_) (fun c23 => ?_)
    · have fc23 := ci_lt (a := x14.toInt) (b := x4.toInt) rfl rfl c23
      obtain ⟨z24, ez24⟩ : ∃ y : Int32, y = x4 + Int32.ofInt (-1) := ⟨_, rfl⟩
      have fz24 : z24.toInt = x4.toInt + (-1) := by rw [ez24]; exact ti_add rfl (show (Int32.ofInt (-1)).toInt = (-1) by decide) (by omega) (by omega)
      refine lv_iinc (v := z24) (lv' := [(4, .int z24), (5, .int x14), (3, .int 0), (2, .int 1212), (0, .ref (q 0)), (1, .ref (t 0))]) hx hb dd_X5_bestTurns_59 hl (k := 1) rfl ez24.symm (by decide) rfl (fun ls hl => ?_)
      refine lv_goto (tgt := 8) hx hb dd_X5_bestTurns_62 (by decide) ?_
      have hI25 : -1 ≤ z24.toInt ∧ z24.toInt ≤ 11 := ⟨by omega, by omega⟩
      have hm26 : (z24.toInt + 1).toNat < (x4.toInt + 1).toNat := by omega
      exact ih8 (z24, y15, y16) H locs ls hI25 hm26 (lv_sub hl [0, 2, 3, 4, 5] rfl) hP hD hS
    · have fc23 := ci_nlt (a := x14.toInt) (b := x4.toInt) rfl rfl c23
      refine lv_aload_n hx hb dd_X5_bestTurns_24 rfl (lv_at hl 4 rfl) ?_
      refine lv_aload_n hx hb dd_X5_bestTurns_25 rfl (lv_at hl 5 rfl) ?_
      refine lv_iload hx hb dd_X5_bestTurns_26 (lv_at hl 1 rfl) ?_
      refine lv_iload hx hb dd_X5_bestTurns_28 (lv_at hl 0 rfl) ?_
      refine hk_i (wr := []) (c1 := 0) (s1 := 0) [0, 1, 2, 3] [] (hc_V [.ref (t 0), .int x4, .int x14] [] [0, 1, 2, 3] Sx hl.1 ws_Sale_112 md_X5_wholeDay (c_wholeDay l D cy q t x4 x14 y15 y16) ⟨Nat.le_of_ble_eq_true rfl, Nat.le_of_ble_eq_true rfl⟩ hP hD rfl (by decide) hK nx_b (nx_w hX) (va_recv hK hP (ci := 5) (q0 := 0) rfl rfl) rfl rfl (Nat.le_of_ble_eq_true rfl) dd_X5_bestTurns_30 ⟨Nat.le_of_ble_eq_true rfl, Nat.le_of_ble_eq_true rfl⟩) hS hA hP hD rfl rfl (by decide) (by decide) rfl rfl (fun r27 u28 H locs hw29 hP hD hS => ?_)
      have hP : va_P D cls [(q 0, .inr (5, ((fSale q).set 0 (.int x4)).set 1 (.int x14))), (t 0, .inr (1, fHall t)), (t 1, .inr (10, fThings (fun k => t (1 + k)))), (t 16, .inr (0, fBuyers (fun k => t (16 + k))))] H := hP
      have hD : va_D A [(q 0, .inr (5, ((fSale q).set 0 (.int x4)).set 1 (.int x14))), (t 0, .inr (1, fHall t)), (t 1, .inr (10, fThings (fun k => t (1 + k)))), (t 16, .inr (0, fBuyers (fun k => t (16 + k))))] := hD
      subst hw29
      refine lv_istore (lv' := [(6, .int 0), (5, .int x14), (4, .int x4), (3, .int 0), (2, .int 1212), (0, .ref (q 0)), (1, .ref (t 0))]) hx hb dd_X5_bestTurns_33 hl (by decide) rfl (fun ls hl => ?_)
      refine lv_iload hx hb dd_X5_bestTurns_35 (lv_at hl 0 rfl) ?_
      refine lv_iload_n hx hb dd_X5_bestTurns_37 rfl (lv_at hl 3 rfl) ?_
      refine lv_icmp_le (tgt := 53) hx hb dd_X5_bestTurns_38 (by decide) (fun _ => ?_) (fun c => absurd c (by decide))
      obtain ⟨z30, ez30⟩ : ∃ y : Int32, y = x14 + Int32.ofInt (-1) := ⟨_, rfl⟩
      have fz30 : z30.toInt = x14.toInt + (-1) := by rw [ez30]; exact ti_add rfl (show (Int32.ofInt (-1)).toInt = (-1) by decide) (by omega) (by omega)
      refine lv_iinc (v := z30) (lv' := [(5, .int z30), (6, .int 0), (4, .int x4), (3, .int 0), (2, .int 1212), (0, .ref (q 0)), (1, .ref (t 0))]) hx hb dd_X5_bestTurns_53 hl (k := 1) rfl ez30.symm (by decide) rfl (fun ls hl => ?_)
      refine lv_goto (tgt := 17) hx hb dd_X5_bestTurns_56 (by decide) ?_
      have hI31 : x4.toInt - 1 ≤ z30.toInt ∧ z30.toInt ≤ 12 := ⟨by omega, by omega⟩
      have hm32 : (z30.toInt - x4.toInt + 1).toNat < (x14.toInt - x4.toInt + 1).toNat := by omega
      exact ih18 (z30, x4, x14) H locs ls hI31 hm32 (lv_sub hl [0, 2, 3, 4, 5, 6] rfl) hP hD hS
set_option maxHeartbeats 4000000 in
set_option maxRecDepth 100000 in
theorem c_append_1 (l : Launch) (D : va_G) (cy : Nat → ClassId) (q : Nat → Nat) (vv : Int32) : HC l my_X9_append mb_X9_append 4 ((none : Option Jvm.ClassFile.FieldType)) (rmD 1 0 0) D (TY cy) [.ref (q 0), .int vv, .int 1] NX [(q 0, .inr (9, fTape q)), (q 1, .inl (cy 1, 120, .inl (fun _ => 0)))] (QV (S := Unit) D (fun _ => True) (fun _ => [(q 0, .inr (9, (fTape q).set 1 (.int 1)))])) := by
  refine hc_intro (by decide) (Nat.le_of_ble_eq_true rfl) (fun p e s m below meth c A ls Sx hr hlocks hin hl hP hD hK hS hA hX => ?_)
  have hx := Sx.1
  have hb := Sx.2.1
  have hl : lv_has ls 4 [(0, .ref (q 0)), (1, .int vv), (2, .int 1)] := hl
  have hP : va_P D cls [(q 0, .inr (9, fTape q)), (q 1, .inl (cy 1, 120, .inl (fun _ => 0)))] s.heap := hP
  have hD : va_D A [(q 0, .inr (9, fTape q)), (q 1, .inl (cy 1, 120, .inl (fun _ => 0)))] := hD
  refine lv_iload_n hx hb dd_X9_append_0 rfl (lv_at hl 2 rfl) ?_
  refine lv_iconst (v := 1) hx hb dd_X9_append_1 (by decide) ?_
  refine lv_isub hx hb dd_X9_append_2 ?_
  refine wk_int (v := 0) (by decide) ?_
  refine lv_istore_n (lv' := [(3, .int 0), (0, .ref (q 0)), (1, .int vv), (2, .int 1)]) hx hb dd_X9_append_3 rfl hl (by decide) rfl (fun ls hl => ?_)
  refine lv_iload_n hx hb dd_X9_append_4 rfl (lv_at hl 0 rfl) ?_
  refine lv_if_lt (tgt := 49) hx hb dd_X9_append_5 (by decide) (fun c => absurd c (by decide)) (fun _ => ?_)
  refine lv_aload_n hx hb dd_X9_append_8 rfl (lv_at hl 1 rfl) ?_
  refine wk_get (v := .int 0) Sx ef_9 hK hP 0 rfl rfl 1 (by decide) kk_39 rfl dd_X9_append_9 ?_
  refine lv_bipush (v := 120) hx hb dd_X9_append_12 (by decide) ?_
  refine lv_icmp_ge (tgt := 49) hx hb dd_X9_append_14 (by decide) (fun c => absurd c (by decide)) (fun _ => ?_)
  refine lv_aload_n hx hb dd_X9_append_17 rfl (lv_at hl 1 rfl) ?_
  refine wk_get (v := .ref (q 1)) Sx ef_9 hK hP 0 rfl rfl 0 (by decide) kk_38 rfl dd_X9_append_18 ?_
  refine lv_aload_n hx hb dd_X9_append_21 rfl (lv_at hl 1 rfl) ?_
  refine wk_get (v := .int 0) Sx ef_9 hK hP 0 rfl rfl 1 (by decide) kk_39 rfl dd_X9_append_22 ?_
  refine lv_iload_n hx hb dd_X9_append_25 rfl (lv_at hl 2 rfl) ?_
  refine lv_bipush (v := 8) hx hb dd_X9_append_26 (by decide) ?_
  refine lv_iload_n hx hb dd_X9_append_28 rfl (lv_at hl 0 rfl) ?_
  refine lv_imul hx hb dd_X9_append_29 ?_
  refine wk_int (v := 0) (by decide) ?_
  refine lv_ishr hx hb dd_X9_append_30 ?_
  refine lv_topi (fun z1 ez1 => ?_)
  refine lv_i2b hx hb dd_X9_append_31 rfl ?_
  refine lv_topi (fun z2 ez2 => ?_)
  refine wk_bast (ws' := [(q 0, .inr (9, fTape q)), (q 1, .inl (cy 1, 120, .inl (upd (fun _ => 0) (0 : Int32).toNatClampNeg (vp_nar .byte z2))))]) Sx hK hP hD hS 1 1 rfl rfl (vi_of (by decide)) dd_X9_append_32 rfl (fun H locs hP hD hS => ?_)
  refine lv_aload_n hx hb dd_X9_append_33 rfl (lv_at hl 1 rfl) ?_
  refine lv_dup hx hb dd_X9_append_34 rfl ?_
  refine wk_get (v := .int 0) Sx ef_9 hK hP 0 rfl rfl 1 (by decide) kk_39 rfl dd_X9_append_35 ?_
  refine lv_iconst (v := 1) hx hb dd_X9_append_38 (by decide) ?_
  refine lv_iadd hx hb dd_X9_append_39 ?_
  refine wk_int (v := 1) (by decide) ?_
  refine wk_put (ws' := [(q 0, .inr (9, (fTape q).set 1 (.int 1))), (q 1, .inl (cy 1, 120, .inl (upd (fun _ => 0) (0 : Int32).toNatClampNeg (vp_nar .byte z2))))]) Sx ef_9 hK hP hD hS 0 rfl rfl 1 (by decide) kk_39 rfl rfl rfl (Nat.le_of_ble_eq_true rfl) dd_X9_append_40 rfl (fun H locs hP hD hS => ?_)
  refine lv_iinc (v := (-1)) (lv' := [(3, .int (-1)), (0, .ref (q 0)), (1, .int vv), (2, .int 1)]) hx hb dd_X9_append_43 hl (k := 0) rfl (by decide) (by decide) rfl (fun ls hl => ?_)
  refine lv_goto (tgt := 4) hx hb dd_X9_append_46 (by decide) ?_
  refine lv_iload_n hx hb dd_X9_append_4 rfl (lv_at hl 0 rfl) ?_
  refine lv_if_lt (tgt := 49) hx hb dd_X9_append_5 (by decide) (fun _ => ?_) (fun c => absurd c (by decide))
  exact hc_vret Sx hr hlocks dd_X9_append_49 hS () trivial (hP.sub [0] rfl) (hD.sub [0] (by decide) rfl)
set_option maxHeartbeats 4000000 in
set_option maxRecDepth 100000 in
theorem c_append_2 (l : Launch) (D : va_G) (cy : Nat → ClassId) (q : Nat → Nat) (vv : Int32) : HC l my_X9_append mb_X9_append 4 ((none : Option Jvm.ClassFile.FieldType)) (rmD 1 0 0) D (TY cy) [.ref (q 0), .int vv, .int 2] NX [(q 0, .inr (9, fTape q)), (q 1, .inl (cy 1, 120, .inl (fun _ => 0)))] (QV (S := Unit) D (fun _ => True) (fun _ => [(q 0, .inr (9, (fTape q).set 1 (.int 2)))])) := by
  refine hc_intro (by decide) (Nat.le_of_ble_eq_true rfl) (fun p e s m below meth c A ls Sx hr hlocks hin hl hP hD hK hS hA hX => ?_)
  have hx := Sx.1
  have hb := Sx.2.1
  have hl : lv_has ls 4 [(0, .ref (q 0)), (1, .int vv), (2, .int 2)] := hl
  have hP : va_P D cls [(q 0, .inr (9, fTape q)), (q 1, .inl (cy 1, 120, .inl (fun _ => 0)))] s.heap := hP
  have hD : va_D A [(q 0, .inr (9, fTape q)), (q 1, .inl (cy 1, 120, .inl (fun _ => 0)))] := hD
  refine lv_iload_n hx hb dd_X9_append_0 rfl (lv_at hl 2 rfl) ?_
  refine lv_iconst (v := 1) hx hb dd_X9_append_1 (by decide) ?_
  refine lv_isub hx hb dd_X9_append_2 ?_
  refine wk_int (v := 1) (by decide) ?_
  refine lv_istore_n (lv' := [(3, .int 1), (0, .ref (q 0)), (1, .int vv), (2, .int 2)]) hx hb dd_X9_append_3 rfl hl (by decide) rfl (fun ls hl => ?_)
  refine lv_iload_n hx hb dd_X9_append_4 rfl (lv_at hl 0 rfl) ?_
  refine lv_if_lt (tgt := 49) hx hb dd_X9_append_5 (by decide) (fun c => absurd c (by decide)) (fun _ => ?_)
  refine lv_aload_n hx hb dd_X9_append_8 rfl (lv_at hl 1 rfl) ?_
  refine wk_get (v := .int 0) Sx ef_9 hK hP 0 rfl rfl 1 (by decide) kk_39 rfl dd_X9_append_9 ?_
  refine lv_bipush (v := 120) hx hb dd_X9_append_12 (by decide) ?_
  refine lv_icmp_ge (tgt := 49) hx hb dd_X9_append_14 (by decide) (fun c => absurd c (by decide)) (fun _ => ?_)
  refine lv_aload_n hx hb dd_X9_append_17 rfl (lv_at hl 1 rfl) ?_
  refine wk_get (v := .ref (q 1)) Sx ef_9 hK hP 0 rfl rfl 0 (by decide) kk_38 rfl dd_X9_append_18 ?_
  refine lv_aload_n hx hb dd_X9_append_21 rfl (lv_at hl 1 rfl) ?_
  refine wk_get (v := .int 0) Sx ef_9 hK hP 0 rfl rfl 1 (by decide) kk_39 rfl dd_X9_append_22 ?_
  refine lv_iload_n hx hb dd_X9_append_25 rfl (lv_at hl 2 rfl) ?_
  refine lv_bipush (v := 8) hx hb dd_X9_append_26 (by decide) ?_
  refine lv_iload_n hx hb dd_X9_append_28 rfl (lv_at hl 0 rfl) ?_
  refine lv_imul hx hb dd_X9_append_29 ?_
  refine wk_int (v := 8) (by decide) ?_
  refine lv_ishr hx hb dd_X9_append_30 ?_
  refine lv_topi (fun z1 ez1 => ?_)
  refine lv_i2b hx hb dd_X9_append_31 rfl ?_
  refine lv_topi (fun z2 ez2 => ?_)
  refine wk_bast (ws' := [(q 0, .inr (9, fTape q)), (q 1, .inl (cy 1, 120, .inl (upd (fun _ => 0) (0 : Int32).toNatClampNeg (vp_nar .byte z2))))]) Sx hK hP hD hS 1 1 rfl rfl (vi_of (by decide)) dd_X9_append_32 rfl (fun H locs hP hD hS => ?_)
  refine lv_aload_n hx hb dd_X9_append_33 rfl (lv_at hl 1 rfl) ?_
  refine lv_dup hx hb dd_X9_append_34 rfl ?_
  refine wk_get (v := .int 0) Sx ef_9 hK hP 0 rfl rfl 1 (by decide) kk_39 rfl dd_X9_append_35 ?_
  refine lv_iconst (v := 1) hx hb dd_X9_append_38 (by decide) ?_
  refine lv_iadd hx hb dd_X9_append_39 ?_
  refine wk_int (v := 1) (by decide) ?_
  refine wk_put (ws' := [(q 0, .inr (9, (fTape q).set 1 (.int 1))), (q 1, .inl (cy 1, 120, .inl (upd (fun _ => 0) (0 : Int32).toNatClampNeg (vp_nar .byte z2))))]) Sx ef_9 hK hP hD hS 0 rfl rfl 1 (by decide) kk_39 rfl rfl rfl (Nat.le_of_ble_eq_true rfl) dd_X9_append_40 rfl (fun H locs hP hD hS => ?_)
  refine lv_iinc (v := 0) (lv' := [(3, .int 0), (0, .ref (q 0)), (1, .int vv), (2, .int 2)]) hx hb dd_X9_append_43 hl (k := 0) rfl (by decide) (by decide) rfl (fun ls hl => ?_)
  refine lv_goto (tgt := 4) hx hb dd_X9_append_46 (by decide) ?_
  refine lv_iload_n hx hb dd_X9_append_4 rfl (lv_at hl 0 rfl) ?_
  refine lv_if_lt (tgt := 49) hx hb dd_X9_append_5 (by decide) (fun c => absurd c (by decide)) (fun _ => ?_)
  refine lv_aload_n hx hb dd_X9_append_8 rfl (lv_at hl 1 rfl) ?_
  refine wk_get (v := .int 1) Sx ef_9 hK hP 0 rfl rfl 1 (by decide) kk_39 rfl dd_X9_append_9 ?_
  refine lv_bipush (v := 120) hx hb dd_X9_append_12 (by decide) ?_
  refine lv_icmp_ge (tgt := 49) hx hb dd_X9_append_14 (by decide) (fun c => absurd c (by decide)) (fun _ => ?_)
  refine lv_aload_n hx hb dd_X9_append_17 rfl (lv_at hl 1 rfl) ?_
  refine wk_get (v := .ref (q 1)) Sx ef_9 hK hP 0 rfl rfl 0 (by decide) kk_38 rfl dd_X9_append_18 ?_
  refine lv_aload_n hx hb dd_X9_append_21 rfl (lv_at hl 1 rfl) ?_
  refine wk_get (v := .int 1) Sx ef_9 hK hP 0 rfl rfl 1 (by decide) kk_39 rfl dd_X9_append_22 ?_
  refine lv_iload_n hx hb dd_X9_append_25 rfl (lv_at hl 2 rfl) ?_
  refine lv_bipush (v := 8) hx hb dd_X9_append_26 (by decide) ?_
  refine lv_iload_n hx hb dd_X9_append_28 rfl (lv_at hl 0 rfl) ?_
  refine lv_imul hx hb dd_X9_append_29 ?_
  refine wk_int (v := 0) (by decide) ?_
  refine lv_ishr hx hb dd_X9_append_30 ?_
  refine lv_topi (fun z3 ez3 => ?_)
  refine lv_i2b hx hb dd_X9_append_31 rfl ?_
  refine lv_topi (fun z4 ez4 => ?_)
  refine wk_bast (ws' := [(q 0, .inr (9, (fTape q).set 1 (.int 1))), (q 1, .inl (cy 1, 120, .inl (upd (upd (fun _ => 0) (0 : Int32).toNatClampNeg (vp_nar .byte z2)) (1 : Int32).toNatClampNeg (vp_nar .byte z4))))]) Sx hK hP hD hS 1 1 rfl rfl (vi_of (by decide)) dd_X9_append_32 rfl (fun H locs hP hD hS => ?_)
  refine lv_aload_n hx hb dd_X9_append_33 rfl (lv_at hl 1 rfl) ?_
  refine lv_dup hx hb dd_X9_append_34 rfl ?_
  refine wk_get (v := .int 1) Sx ef_9 hK hP 0 rfl rfl 1 (by decide) kk_39 rfl dd_X9_append_35 ?_
  refine lv_iconst (v := 1) hx hb dd_X9_append_38 (by decide) ?_
  refine lv_iadd hx hb dd_X9_append_39 ?_
  refine wk_int (v := 2) (by decide) ?_
  refine wk_put (ws' := [(q 0, .inr (9, (fTape q).set 1 (.int 2))), (q 1, .inl (cy 1, 120, .inl (upd (upd (fun _ => 0) (0 : Int32).toNatClampNeg (vp_nar .byte z2)) (1 : Int32).toNatClampNeg (vp_nar .byte z4))))]) Sx ef_9 hK hP hD hS 0 rfl rfl 1 (by decide) kk_39 rfl rfl rfl (Nat.le_of_ble_eq_true rfl) dd_X9_append_40 rfl (fun H locs hP hD hS => ?_)
  refine lv_iinc (v := (-1)) (lv' := [(3, .int (-1)), (0, .ref (q 0)), (1, .int vv), (2, .int 2)]) hx hb dd_X9_append_43 hl (k := 0) rfl (by decide) (by decide) rfl (fun ls hl => ?_)
  refine lv_goto (tgt := 4) hx hb dd_X9_append_46 (by decide) ?_
  refine lv_iload_n hx hb dd_X9_append_4 rfl (lv_at hl 0 rfl) ?_
  refine lv_if_lt (tgt := 49) hx hb dd_X9_append_5 (by decide) (fun _ => ?_) (fun c => absurd c (by decide))
  exact hc_vret Sx hr hlocks dd_X9_append_49 hS () trivial (hP.sub [0] rfl) (hD.sub [0] (by decide) rfl)
set_option maxHeartbeats 4000000 in
set_option maxRecDepth 100000 in
theorem c_append_3 (l : Launch) (D : va_G) (cy : Nat → ClassId) (q : Nat → Nat) (vv : Int32) : HC l my_X9_append mb_X9_append 4 ((none : Option Jvm.ClassFile.FieldType)) (rmD 1 0 0) D (TY cy) [.ref (q 0), .int vv, .int 3] NX [(q 0, .inr (9, fTape q)), (q 1, .inl (cy 1, 120, .inl (fun _ => 0)))] (QV (S := Unit) D (fun _ => True) (fun _ => [(q 0, .inr (9, (fTape q).set 1 (.int 3)))])) := by
  refine hc_intro (by decide) (Nat.le_of_ble_eq_true rfl) (fun p e s m below meth c A ls Sx hr hlocks hin hl hP hD hK hS hA hX => ?_)
  have hx := Sx.1
  have hb := Sx.2.1
  have hl : lv_has ls 4 [(0, .ref (q 0)), (1, .int vv), (2, .int 3)] := hl
  have hP : va_P D cls [(q 0, .inr (9, fTape q)), (q 1, .inl (cy 1, 120, .inl (fun _ => 0)))] s.heap := hP
  have hD : va_D A [(q 0, .inr (9, fTape q)), (q 1, .inl (cy 1, 120, .inl (fun _ => 0)))] := hD
  refine lv_iload_n hx hb dd_X9_append_0 rfl (lv_at hl 2 rfl) ?_
  refine lv_iconst (v := 1) hx hb dd_X9_append_1 (by decide) ?_
  refine lv_isub hx hb dd_X9_append_2 ?_
  refine wk_int (v := 2) (by decide) ?_
  refine lv_istore_n (lv' := [(3, .int 2), (0, .ref (q 0)), (1, .int vv), (2, .int 3)]) hx hb dd_X9_append_3 rfl hl (by decide) rfl (fun ls hl => ?_)
  refine lv_iload_n hx hb dd_X9_append_4 rfl (lv_at hl 0 rfl) ?_
  refine lv_if_lt (tgt := 49) hx hb dd_X9_append_5 (by decide) (fun c => absurd c (by decide)) (fun _ => ?_)
  refine lv_aload_n hx hb dd_X9_append_8 rfl (lv_at hl 1 rfl) ?_
  refine wk_get (v := .int 0) Sx ef_9 hK hP 0 rfl rfl 1 (by decide) kk_39 rfl dd_X9_append_9 ?_
  refine lv_bipush (v := 120) hx hb dd_X9_append_12 (by decide) ?_
  refine lv_icmp_ge (tgt := 49) hx hb dd_X9_append_14 (by decide) (fun c => absurd c (by decide)) (fun _ => ?_)
  refine lv_aload_n hx hb dd_X9_append_17 rfl (lv_at hl 1 rfl) ?_
  refine wk_get (v := .ref (q 1)) Sx ef_9 hK hP 0 rfl rfl 0 (by decide) kk_38 rfl dd_X9_append_18 ?_
  refine lv_aload_n hx hb dd_X9_append_21 rfl (lv_at hl 1 rfl) ?_
  refine wk_get (v := .int 0) Sx ef_9 hK hP 0 rfl rfl 1 (by decide) kk_39 rfl dd_X9_append_22 ?_
  refine lv_iload_n hx hb dd_X9_append_25 rfl (lv_at hl 2 rfl) ?_
  refine lv_bipush (v := 8) hx hb dd_X9_append_26 (by decide) ?_
  refine lv_iload_n hx hb dd_X9_append_28 rfl (lv_at hl 0 rfl) ?_
  refine lv_imul hx hb dd_X9_append_29 ?_
  refine wk_int (v := 16) (by decide) ?_
  refine lv_ishr hx hb dd_X9_append_30 ?_
  refine lv_topi (fun z1 ez1 => ?_)
  refine lv_i2b hx hb dd_X9_append_31 rfl ?_
  refine lv_topi (fun z2 ez2 => ?_)
  refine wk_bast (ws' := [(q 0, .inr (9, fTape q)), (q 1, .inl (cy 1, 120, .inl (upd (fun _ => 0) (0 : Int32).toNatClampNeg (vp_nar .byte z2))))]) Sx hK hP hD hS 1 1 rfl rfl (vi_of (by decide)) dd_X9_append_32 rfl (fun H locs hP hD hS => ?_)
  refine lv_aload_n hx hb dd_X9_append_33 rfl (lv_at hl 1 rfl) ?_
  refine lv_dup hx hb dd_X9_append_34 rfl ?_
  refine wk_get (v := .int 0) Sx ef_9 hK hP 0 rfl rfl 1 (by decide) kk_39 rfl dd_X9_append_35 ?_
  refine lv_iconst (v := 1) hx hb dd_X9_append_38 (by decide) ?_
  refine lv_iadd hx hb dd_X9_append_39 ?_
  refine wk_int (v := 1) (by decide) ?_
  refine wk_put (ws' := [(q 0, .inr (9, (fTape q).set 1 (.int 1))), (q 1, .inl (cy 1, 120, .inl (upd (fun _ => 0) (0 : Int32).toNatClampNeg (vp_nar .byte z2))))]) Sx ef_9 hK hP hD hS 0 rfl rfl 1 (by decide) kk_39 rfl rfl rfl (Nat.le_of_ble_eq_true rfl) dd_X9_append_40 rfl (fun H locs hP hD hS => ?_)
  refine lv_iinc (v := 1) (lv' := [(3, .int 1), (0, .ref (q 0)), (1, .int vv), (2, .int 3)]) hx hb dd_X9_append_43 hl (k := 0) rfl (by decide) (by decide) rfl (fun ls hl => ?_)
  refine lv_goto (tgt := 4) hx hb dd_X9_append_46 (by decide) ?_
  refine lv_iload_n hx hb dd_X9_append_4 rfl (lv_at hl 0 rfl) ?_
  refine lv_if_lt (tgt := 49) hx hb dd_X9_append_5 (by decide) (fun c => absurd c (by decide)) (fun _ => ?_)
  refine lv_aload_n hx hb dd_X9_append_8 rfl (lv_at hl 1 rfl) ?_
  refine wk_get (v := .int 1) Sx ef_9 hK hP 0 rfl rfl 1 (by decide) kk_39 rfl dd_X9_append_9 ?_
  refine lv_bipush (v := 120) hx hb dd_X9_append_12 (by decide) ?_
  refine lv_icmp_ge (tgt := 49) hx hb dd_X9_append_14 (by decide) (fun c => absurd c (by decide)) (fun _ => ?_)
  refine lv_aload_n hx hb dd_X9_append_17 rfl (lv_at hl 1 rfl) ?_
  refine wk_get (v := .ref (q 1)) Sx ef_9 hK hP 0 rfl rfl 0 (by decide) kk_38 rfl dd_X9_append_18 ?_
  refine lv_aload_n hx hb dd_X9_append_21 rfl (lv_at hl 1 rfl) ?_
  refine wk_get (v := .int 1) Sx ef_9 hK hP 0 rfl rfl 1 (by decide) kk_39 rfl dd_X9_append_22 ?_
  refine lv_iload_n hx hb dd_X9_append_25 rfl (lv_at hl 2 rfl) ?_
  refine lv_bipush (v := 8) hx hb dd_X9_append_26 (by decide) ?_
  refine lv_iload_n hx hb dd_X9_append_28 rfl (lv_at hl 0 rfl) ?_
  refine lv_imul hx hb dd_X9_append_29 ?_
  refine wk_int (v := 8) (by decide) ?_
  refine lv_ishr hx hb dd_X9_append_30 ?_
  refine lv_topi (fun z3 ez3 => ?_)
  refine lv_i2b hx hb dd_X9_append_31 rfl ?_
  refine lv_topi (fun z4 ez4 => ?_)
  refine wk_bast (ws' := [(q 0, .inr (9, (fTape q).set 1 (.int 1))), (q 1, .inl (cy 1, 120, .inl (upd (upd (fun _ => 0) (0 : Int32).toNatClampNeg (vp_nar .byte z2)) (1 : Int32).toNatClampNeg (vp_nar .byte z4))))]) Sx hK hP hD hS 1 1 rfl rfl (vi_of (by decide)) dd_X9_append_32 rfl (fun H locs hP hD hS => ?_)
  refine lv_aload_n hx hb dd_X9_append_33 rfl (lv_at hl 1 rfl) ?_
  refine lv_dup hx hb dd_X9_append_34 rfl ?_
  refine wk_get (v := .int 1) Sx ef_9 hK hP 0 rfl rfl 1 (by decide) kk_39 rfl dd_X9_append_35 ?_
  refine lv_iconst (v := 1) hx hb dd_X9_append_38 (by decide) ?_
  refine lv_iadd hx hb dd_X9_append_39 ?_
  refine wk_int (v := 2) (by decide) ?_
  refine wk_put (ws' := [(q 0, .inr (9, (fTape q).set 1 (.int 2))), (q 1, .inl (cy 1, 120, .inl (upd (upd (fun _ => 0) (0 : Int32).toNatClampNeg (vp_nar .byte z2)) (1 : Int32).toNatClampNeg (vp_nar .byte z4))))]) Sx ef_9 hK hP hD hS 0 rfl rfl 1 (by decide) kk_39 rfl rfl rfl (Nat.le_of_ble_eq_true rfl) dd_X9_append_40 rfl (fun H locs hP hD hS => ?_)
  refine lv_iinc (v := 0) (lv' := [(3, .int 0), (0, .ref (q 0)), (1, .int vv), (2, .int 3)]) hx hb dd_X9_append_43 hl (k := 0) rfl (by decide) (by decide) rfl (fun ls hl => ?_)
  refine lv_goto (tgt := 4) hx hb dd_X9_append_46 (by decide) ?_
  refine lv_iload_n hx hb dd_X9_append_4 rfl (lv_at hl 0 rfl) ?_
  refine lv_if_lt (tgt := 49) hx hb dd_X9_append_5 (by decide) (fun c => absurd c (by decide)) (fun _ => ?_)
  refine lv_aload_n hx hb dd_X9_append_8 rfl (lv_at hl 1 rfl) ?_
  refine wk_get (v := .int 2) Sx ef_9 hK hP 0 rfl rfl 1 (by decide) kk_39 rfl dd_X9_append_9 ?_
  refine lv_bipush (v := 120) hx hb dd_X9_append_12 (by decide) ?_
  refine lv_icmp_ge (tgt := 49) hx hb dd_X9_append_14 (by decide) (fun c => absurd c (by decide)) (fun _ => ?_)
  refine lv_aload_n hx hb dd_X9_append_17 rfl (lv_at hl 1 rfl) ?_
  refine wk_get (v := .ref (q 1)) Sx ef_9 hK hP 0 rfl rfl 0 (by decide) kk_38 rfl dd_X9_append_18 ?_
  refine lv_aload_n hx hb dd_X9_append_21 rfl (lv_at hl 1 rfl) ?_
  refine wk_get (v := .int 2) Sx ef_9 hK hP 0 rfl rfl 1 (by decide) kk_39 rfl dd_X9_append_22 ?_
  refine lv_iload_n hx hb dd_X9_append_25 rfl (lv_at hl 2 rfl) ?_
  refine lv_bipush (v := 8) hx hb dd_X9_append_26 (by decide) ?_
  refine lv_iload_n hx hb dd_X9_append_28 rfl (lv_at hl 0 rfl) ?_
  refine lv_imul hx hb dd_X9_append_29 ?_
  refine wk_int (v := 0) (by decide) ?_
  refine lv_ishr hx hb dd_X9_append_30 ?_
  refine lv_topi (fun z5 ez5 => ?_)
  refine lv_i2b hx hb dd_X9_append_31 rfl ?_
  refine lv_topi (fun z6 ez6 => ?_)
  refine wk_bast (ws' := [(q 0, .inr (9, (fTape q).set 1 (.int 2))), (q 1, .inl (cy 1, 120, .inl (upd (upd (upd (fun _ => 0) (0 : Int32).toNatClampNeg (vp_nar .byte z2)) (1 : Int32).toNatClampNeg (vp_nar .byte z4)) (2 : Int32).toNatClampNeg (vp_nar .byte z6))))]) Sx hK hP hD hS 1 1 rfl rfl (vi_of (by decide)) dd_X9_append_32 rfl (fun H locs hP hD hS => ?_)
  refine lv_aload_n hx hb dd_X9_append_33 rfl (lv_at hl 1 rfl) ?_
  refine lv_dup hx hb dd_X9_append_34 rfl ?_
  refine wk_get (v := .int 2) Sx ef_9 hK hP 0 rfl rfl 1 (by decide) kk_39 rfl dd_X9_append_35 ?_
  refine lv_iconst (v := 1) hx hb dd_X9_append_38 (by decide) ?_
  refine lv_iadd hx hb dd_X9_append_39 ?_
  refine wk_int (v := 3) (by decide) ?_
  refine wk_put (ws' := [(q 0, .inr (9, (fTape q).set 1 (.int 3))), (q 1, .inl (cy 1, 120, .inl (upd (upd (upd (fun _ => 0) (0 : Int32).toNatClampNeg (vp_nar .byte z2)) (1 : Int32).toNatClampNeg (vp_nar .byte z4)) (2 : Int32).toNatClampNeg (vp_nar .byte z6))))]) Sx ef_9 hK hP hD hS 0 rfl rfl 1 (by decide) kk_39 rfl rfl rfl (Nat.le_of_ble_eq_true rfl) dd_X9_append_40 rfl (fun H locs hP hD hS => ?_)
  refine lv_iinc (v := (-1)) (lv' := [(3, .int (-1)), (0, .ref (q 0)), (1, .int vv), (2, .int 3)]) hx hb dd_X9_append_43 hl (k := 0) rfl (by decide) (by decide) rfl (fun ls hl => ?_)
  refine lv_goto (tgt := 4) hx hb dd_X9_append_46 (by decide) ?_
  refine lv_iload_n hx hb dd_X9_append_4 rfl (lv_at hl 0 rfl) ?_
  refine lv_if_lt (tgt := 49) hx hb dd_X9_append_5 (by decide) (fun _ => ?_) (fun c => absurd c (by decide))
  exact hc_vret Sx hr hlocks dd_X9_append_49 hS () trivial (hP.sub [0] rfl) (hD.sub [0] (by decide) rfl)
set_option maxHeartbeats 4000000 in
set_option maxRecDepth 100000 in
theorem c_append_4 (l : Launch) (D : va_G) (cy : Nat → ClassId) (q : Nat → Nat) (vv : Int32) : HC l my_X9_append mb_X9_append 4 ((none : Option Jvm.ClassFile.FieldType)) (rmD 1 0 0) D (TY cy) [.ref (q 0), .int vv, .int 4] NX [(q 0, .inr (9, fTape q)), (q 1, .inl (cy 1, 120, .inl (fun _ => 0)))] (QV (S := Unit) D (fun _ => True) (fun _ => [(q 0, .inr (9, (fTape q).set 1 (.int 4)))])) := by
  refine hc_intro (by decide) (Nat.le_of_ble_eq_true rfl) (fun p e s m below meth c A ls Sx hr hlocks hin hl hP hD hK hS hA hX => ?_)
  have hx := Sx.1
  have hb := Sx.2.1
  have hl : lv_has ls 4 [(0, .ref (q 0)), (1, .int vv), (2, .int 4)] := hl
  have hP : va_P D cls [(q 0, .inr (9, fTape q)), (q 1, .inl (cy 1, 120, .inl (fun _ => 0)))] s.heap := hP
  have hD : va_D A [(q 0, .inr (9, fTape q)), (q 1, .inl (cy 1, 120, .inl (fun _ => 0)))] := hD
  refine lv_iload_n hx hb dd_X9_append_0 rfl (lv_at hl 2 rfl) ?_
  refine lv_iconst (v := 1) hx hb dd_X9_append_1 (by decide) ?_
  refine lv_isub hx hb dd_X9_append_2 ?_
  refine wk_int (v := 3) (by decide) ?_
  refine lv_istore_n (lv' := [(3, .int 3), (0, .ref (q 0)), (1, .int vv), (2, .int 4)]) hx hb dd_X9_append_3 rfl hl (by decide) rfl (fun ls hl => ?_)
  refine lv_iload_n hx hb dd_X9_append_4 rfl (lv_at hl 0 rfl) ?_
  refine lv_if_lt (tgt := 49) hx hb dd_X9_append_5 (by decide) (fun c => absurd c (by decide)) (fun _ => ?_)
  refine lv_aload_n hx hb dd_X9_append_8 rfl (lv_at hl 1 rfl) ?_
  refine wk_get (v := .int 0) Sx ef_9 hK hP 0 rfl rfl 1 (by decide) kk_39 rfl dd_X9_append_9 ?_
  refine lv_bipush (v := 120) hx hb dd_X9_append_12 (by decide) ?_
  refine lv_icmp_ge (tgt := 49) hx hb dd_X9_append_14 (by decide) (fun c => absurd c (by decide)) (fun _ => ?_)
  refine lv_aload_n hx hb dd_X9_append_17 rfl (lv_at hl 1 rfl) ?_
  refine wk_get (v := .ref (q 1)) Sx ef_9 hK hP 0 rfl rfl 0 (by decide) kk_38 rfl dd_X9_append_18 ?_
  refine lv_aload_n hx hb dd_X9_append_21 rfl (lv_at hl 1 rfl) ?_
  refine wk_get (v := .int 0) Sx ef_9 hK hP 0 rfl rfl 1 (by decide) kk_39 rfl dd_X9_append_22 ?_
  refine lv_iload_n hx hb dd_X9_append_25 rfl (lv_at hl 2 rfl) ?_
  refine lv_bipush (v := 8) hx hb dd_X9_append_26 (by decide) ?_
  refine lv_iload_n hx hb dd_X9_append_28 rfl (lv_at hl 0 rfl) ?_
  refine lv_imul hx hb dd_X9_append_29 ?_
  refine wk_int (v := 24) (by decide) ?_
  refine lv_ishr hx hb dd_X9_append_30 ?_
  refine lv_topi (fun z1 ez1 => ?_)
  refine lv_i2b hx hb dd_X9_append_31 rfl ?_
  refine lv_topi (fun z2 ez2 => ?_)
  refine wk_bast (ws' := [(q 0, .inr (9, fTape q)), (q 1, .inl (cy 1, 120, .inl (upd (fun _ => 0) (0 : Int32).toNatClampNeg (vp_nar .byte z2))))]) Sx hK hP hD hS 1 1 rfl rfl (vi_of (by decide)) dd_X9_append_32 rfl (fun H locs hP hD hS => ?_)
  refine lv_aload_n hx hb dd_X9_append_33 rfl (lv_at hl 1 rfl) ?_
  refine lv_dup hx hb dd_X9_append_34 rfl ?_
  refine wk_get (v := .int 0) Sx ef_9 hK hP 0 rfl rfl 1 (by decide) kk_39 rfl dd_X9_append_35 ?_
  refine lv_iconst (v := 1) hx hb dd_X9_append_38 (by decide) ?_
  refine lv_iadd hx hb dd_X9_append_39 ?_
  refine wk_int (v := 1) (by decide) ?_
  refine wk_put (ws' := [(q 0, .inr (9, (fTape q).set 1 (.int 1))), (q 1, .inl (cy 1, 120, .inl (upd (fun _ => 0) (0 : Int32).toNatClampNeg (vp_nar .byte z2))))]) Sx ef_9 hK hP hD hS 0 rfl rfl 1 (by decide) kk_39 rfl rfl rfl (Nat.le_of_ble_eq_true rfl) dd_X9_append_40 rfl (fun H locs hP hD hS => ?_)
  refine lv_iinc (v := 2) (lv' := [(3, .int 2), (0, .ref (q 0)), (1, .int vv), (2, .int 4)]) hx hb dd_X9_append_43 hl (k := 0) rfl (by decide) (by decide) rfl (fun ls hl => ?_)
  refine lv_goto (tgt := 4) hx hb dd_X9_append_46 (by decide) ?_
  refine lv_iload_n hx hb dd_X9_append_4 rfl (lv_at hl 0 rfl) ?_
  refine lv_if_lt (tgt := 49) hx hb dd_X9_append_5 (by decide) (fun c => absurd c (by decide)) (fun _ => ?_)
  refine lv_aload_n hx hb dd_X9_append_8 rfl (lv_at hl 1 rfl) ?_
  refine wk_get (v := .int 1) Sx ef_9 hK hP 0 rfl rfl 1 (by decide) kk_39 rfl dd_X9_append_9 ?_
  refine lv_bipush (v := 120) hx hb dd_X9_append_12 (by decide) ?_
  refine lv_icmp_ge (tgt := 49) hx hb dd_X9_append_14 (by decide) (fun c => absurd c (by decide)) (fun _ => ?_)
  refine lv_aload_n hx hb dd_X9_append_17 rfl (lv_at hl 1 rfl) ?_
  refine wk_get (v := .ref (q 1)) Sx ef_9 hK hP 0 rfl rfl 0 (by decide) kk_38 rfl dd_X9_append_18 ?_
  refine lv_aload_n hx hb dd_X9_append_21 rfl (lv_at hl 1 rfl) ?_
  refine wk_get (v := .int 1) Sx ef_9 hK hP 0 rfl rfl 1 (by decide) kk_39 rfl dd_X9_append_22 ?_
  refine lv_iload_n hx hb dd_X9_append_25 rfl (lv_at hl 2 rfl) ?_
  refine lv_bipush (v := 8) hx hb dd_X9_append_26 (by decide) ?_
  refine lv_iload_n hx hb dd_X9_append_28 rfl (lv_at hl 0 rfl) ?_
  refine lv_imul hx hb dd_X9_append_29 ?_
  refine wk_int (v := 16) (by decide) ?_
  refine lv_ishr hx hb dd_X9_append_30 ?_
  refine lv_topi (fun z3 ez3 => ?_)
  refine lv_i2b hx hb dd_X9_append_31 rfl ?_
  refine lv_topi (fun z4 ez4 => ?_)
  refine wk_bast (ws' := [(q 0, .inr (9, (fTape q).set 1 (.int 1))), (q 1, .inl (cy 1, 120, .inl (upd (upd (fun _ => 0) (0 : Int32).toNatClampNeg (vp_nar .byte z2)) (1 : Int32).toNatClampNeg (vp_nar .byte z4))))]) Sx hK hP hD hS 1 1 rfl rfl (vi_of (by decide)) dd_X9_append_32 rfl (fun H locs hP hD hS => ?_)
  refine lv_aload_n hx hb dd_X9_append_33 rfl (lv_at hl 1 rfl) ?_
  refine lv_dup hx hb dd_X9_append_34 rfl ?_
  refine wk_get (v := .int 1) Sx ef_9 hK hP 0 rfl rfl 1 (by decide) kk_39 rfl dd_X9_append_35 ?_
  refine lv_iconst (v := 1) hx hb dd_X9_append_38 (by decide) ?_
  refine lv_iadd hx hb dd_X9_append_39 ?_
  refine wk_int (v := 2) (by decide) ?_
  refine wk_put (ws' := [(q 0, .inr (9, (fTape q).set 1 (.int 2))), (q 1, .inl (cy 1, 120, .inl (upd (upd (fun _ => 0) (0 : Int32).toNatClampNeg (vp_nar .byte z2)) (1 : Int32).toNatClampNeg (vp_nar .byte z4))))]) Sx ef_9 hK hP hD hS 0 rfl rfl 1 (by decide) kk_39 rfl rfl rfl (Nat.le_of_ble_eq_true rfl) dd_X9_append_40 rfl (fun H locs hP hD hS => ?_)
  refine lv_iinc (v := 1) (lv' := [(3, .int 1), (0, .ref (q 0)), (1, .int vv), (2, .int 4)]) hx hb dd_X9_append_43 hl (k := 0) rfl (by decide) (by decide) rfl (fun ls hl => ?_)
  refine lv_goto (tgt := 4) hx hb dd_X9_append_46 (by decide) ?_
  refine lv_iload_n hx hb dd_X9_append_4 rfl (lv_at hl 0 rfl) ?_
  refine lv_if_lt (tgt := 49) hx hb dd_X9_append_5 (by decide) (fun c => absurd c (by decide)) (fun _ => ?_)
  refine lv_aload_n hx hb dd_X9_append_8 rfl (lv_at hl 1 rfl) ?_
  refine wk_get (v := .int 2) Sx ef_9 hK hP 0 rfl rfl 1 (by decide) kk_39 rfl dd_X9_append_9 ?_
  refine lv_bipush (v := 120) hx hb dd_X9_append_12 (by decide) ?_
  refine lv_icmp_ge (tgt := 49) hx hb dd_X9_append_14 (by decide) (fun c => absurd c (by decide)) (fun _ => ?_)
  refine lv_aload_n hx hb dd_X9_append_17 rfl (lv_at hl 1 rfl) ?_
  refine wk_get (v := .ref (q 1)) Sx ef_9 hK hP 0 rfl rfl 0 (by decide) kk_38 rfl dd_X9_append_18 ?_
  refine lv_aload_n hx hb dd_X9_append_21 rfl (lv_at hl 1 rfl) ?_
  refine wk_get (v := .int 2) Sx ef_9 hK hP 0 rfl rfl 1 (by decide) kk_39 rfl dd_X9_append_22 ?_
  refine lv_iload_n hx hb dd_X9_append_25 rfl (lv_at hl 2 rfl) ?_
  refine lv_bipush (v := 8) hx hb dd_X9_append_26 (by decide) ?_
  refine lv_iload_n hx hb dd_X9_append_28 rfl (lv_at hl 0 rfl) ?_
  refine lv_imul hx hb dd_X9_append_29 ?_
  refine wk_int (v := 8) (by decide) ?_
  refine lv_ishr hx hb dd_X9_append_30 ?_
  refine lv_topi (fun z5 ez5 => ?_)
  refine lv_i2b hx hb dd_X9_append_31 rfl ?_
  refine lv_topi (fun z6 ez6 => ?_)
  refine wk_bast (ws' := [(q 0, .inr (9, (fTape q).set 1 (.int 2))), (q 1, .inl (cy 1, 120, .inl (upd (upd (upd (fun _ => 0) (0 : Int32).toNatClampNeg (vp_nar .byte z2)) (1 : Int32).toNatClampNeg (vp_nar .byte z4)) (2 : Int32).toNatClampNeg (vp_nar .byte z6))))]) Sx hK hP hD hS 1 1 rfl rfl (vi_of (by decide)) dd_X9_append_32 rfl (fun H locs hP hD hS => ?_)
  refine lv_aload_n hx hb dd_X9_append_33 rfl (lv_at hl 1 rfl) ?_
  refine lv_dup hx hb dd_X9_append_34 rfl ?_
  refine wk_get (v := .int 2) Sx ef_9 hK hP 0 rfl rfl 1 (by decide) kk_39 rfl dd_X9_append_35 ?_
  refine lv_iconst (v := 1) hx hb dd_X9_append_38 (by decide) ?_
  refine lv_iadd hx hb dd_X9_append_39 ?_
  refine wk_int (v := 3) (by decide) ?_
  refine wk_put (ws' := [(q 0, .inr (9, (fTape q).set 1 (.int 3))), (q 1, .inl (cy 1, 120, .inl (upd (upd (upd (fun _ => 0) (0 : Int32).toNatClampNeg (vp_nar .byte z2)) (1 : Int32).toNatClampNeg (vp_nar .byte z4)) (2 : Int32).toNatClampNeg (vp_nar .byte z6))))]) Sx ef_9 hK hP hD hS 0 rfl rfl 1 (by decide) kk_39 rfl rfl rfl (Nat.le_of_ble_eq_true rfl) dd_X9_append_40 rfl (fun H locs hP hD hS => ?_)
  refine lv_iinc (v := 0) (lv' := [(3, .int 0), (0, .ref (q 0)), (1, .int vv), (2, .int 4)]) hx hb dd_X9_append_43 hl (k := 0) rfl (by decide) (by decide) rfl (fun ls hl => ?_)
  refine lv_goto (tgt := 4) hx hb dd_X9_append_46 (by decide) ?_
  refine lv_iload_n hx hb dd_X9_append_4 rfl (lv_at hl 0 rfl) ?_
  refine lv_if_lt (tgt := 49) hx hb dd_X9_append_5 (by decide) (fun c => absurd c (by decide)) (fun _ => ?_)
  refine lv_aload_n hx hb dd_X9_append_8 rfl (lv_at hl 1 rfl) ?_
  refine wk_get (v := .int 3) Sx ef_9 hK hP 0 rfl rfl 1 (by decide) kk_39 rfl dd_X9_append_9 ?_
  refine lv_bipush (v := 120) hx hb dd_X9_append_12 (by decide) ?_
  refine lv_icmp_ge (tgt := 49) hx hb dd_X9_append_14 (by decide) (fun c => absurd c (by decide)) (fun _ => ?_)
  refine lv_aload_n hx hb dd_X9_append_17 rfl (lv_at hl 1 rfl) ?_
  refine wk_get (v := .ref (q 1)) Sx ef_9 hK hP 0 rfl rfl 0 (by decide) kk_38 rfl dd_X9_append_18 ?_
  refine lv_aload_n hx hb dd_X9_append_21 rfl (lv_at hl 1 rfl) ?_
  refine wk_get (v := .int 3) Sx ef_9 hK hP 0 rfl rfl 1 (by decide) kk_39 rfl dd_X9_append_22 ?_
  refine lv_iload_n hx hb dd_X9_append_25 rfl (lv_at hl 2 rfl) ?_
  refine lv_bipush (v := 8) hx hb dd_X9_append_26 (by decide) ?_
  refine lv_iload_n hx hb dd_X9_append_28 rfl (lv_at hl 0 rfl) ?_
  refine lv_imul hx hb dd_X9_append_29 ?_
  refine wk_int (v := 0) (by decide) ?_
  refine lv_ishr hx hb dd_X9_append_30 ?_
  refine lv_topi (fun z7 ez7 => ?_)
  refine lv_i2b hx hb dd_X9_append_31 rfl ?_
  refine lv_topi (fun z8 ez8 => ?_)
  refine wk_bast (ws' := [(q 0, .inr (9, (fTape q).set 1 (.int 3))), (q 1, .inl (cy 1, 120, .inl (upd (upd (upd (upd (fun _ => 0) (0 : Int32).toNatClampNeg (vp_nar .byte z2)) (1 : Int32).toNatClampNeg (vp_nar .byte z4)) (2 : Int32).toNatClampNeg (vp_nar .byte z6)) (3 : Int32).toNatClampNeg (vp_nar .byte z8))))]) Sx hK hP hD hS 1 1 rfl rfl (vi_of (by decide)) dd_X9_append_32 rfl (fun H locs hP hD hS => ?_)
  refine lv_aload_n hx hb dd_X9_append_33 rfl (lv_at hl 1 rfl) ?_
  refine lv_dup hx hb dd_X9_append_34 rfl ?_
  refine wk_get (v := .int 3) Sx ef_9 hK hP 0 rfl rfl 1 (by decide) kk_39 rfl dd_X9_append_35 ?_
  refine lv_iconst (v := 1) hx hb dd_X9_append_38 (by decide) ?_
  refine lv_iadd hx hb dd_X9_append_39 ?_
  refine wk_int (v := 4) (by decide) ?_
  refine wk_put (ws' := [(q 0, .inr (9, (fTape q).set 1 (.int 4))), (q 1, .inl (cy 1, 120, .inl (upd (upd (upd (upd (fun _ => 0) (0 : Int32).toNatClampNeg (vp_nar .byte z2)) (1 : Int32).toNatClampNeg (vp_nar .byte z4)) (2 : Int32).toNatClampNeg (vp_nar .byte z6)) (3 : Int32).toNatClampNeg (vp_nar .byte z8))))]) Sx ef_9 hK hP hD hS 0 rfl rfl 1 (by decide) kk_39 rfl rfl rfl (Nat.le_of_ble_eq_true rfl) dd_X9_append_40 rfl (fun H locs hP hD hS => ?_)
  refine lv_iinc (v := (-1)) (lv' := [(3, .int (-1)), (0, .ref (q 0)), (1, .int vv), (2, .int 4)]) hx hb dd_X9_append_43 hl (k := 0) rfl (by decide) (by decide) rfl (fun ls hl => ?_)
  refine lv_goto (tgt := 4) hx hb dd_X9_append_46 (by decide) ?_
  refine lv_iload_n hx hb dd_X9_append_4 rfl (lv_at hl 0 rfl) ?_
  refine lv_if_lt (tgt := 49) hx hb dd_X9_append_5 (by decide) (fun _ => ?_) (fun c => absurd c (by decide))
  exact hc_vret Sx hr hlocks dd_X9_append_49 hS () trivial (hP.sub [0] rfl) (hD.sub [0] (by decide) rfl)
set_option maxHeartbeats 4000000 in
set_option maxRecDepth 100000 in
theorem c_Things_become (l : Launch) (D : va_G) (cy : Nat → ClassId) (q : Nat → Nat) (t : Nat → Nat) : HC l my_X10_become mb_X10_become 2 ((none : Option Jvm.ClassFile.FieldType)) (rmD 1 0 0) D (TY cy) [.ref (q 0), .ref (t 0)] NX [(q 0, .inr (10, fThings q)), (q 1, .inl (cy 0, 30, .inl (fun _ => 0))), (q 2, .inl (cy 0, 30, .inl (fun _ => 0))), (q 3, .inl (cy 0, 30, .inl (fun _ => 0))), (q 4, .inl (cy 0, 30, .inl (fun _ => 0))), (q 5, .inl (cy 0, 30, .inl (fun _ => 0))), (q 6, .inl (cy 0, 30, .inl (fun _ => 0))), (q 7, .inl (cy 0, 30, .inl (fun _ => 0))), (t 0, .inr (10, fThings t)), (t 1, .inl (cy 0, 30, .inl (fun _ => 0))), (t 2, .inl (cy 0, 30, .inl (fun _ => 0))), (t 3, .inl (cy 0, 30, .inl (fun _ => 0))), (t 4, .inl (cy 0, 30, .inl (fun _ => 0))), (t 5, .inl (cy 0, 30, .inl (fun _ => 0))), (t 6, .inl (cy 0, 30, .inl (fun _ => 0))), (t 7, .inl (cy 0, 30, .inl (fun _ => 0)))] (QV (S := Unit) D (fun _ => True) (fun _ => [])) := by
  refine hc_intro (by decide) (Nat.le_of_ble_eq_true rfl) (fun p e s m below meth c A ls Sx hr hlocks hin hl hP hD hK hS hA hX => ?_)
  have hx := Sx.1
  have hb := Sx.2.1
  have hl : lv_has ls 2 [(0, .ref (q 0)), (1, .ref (t 0))] := hl
  have hP : va_P D cls [(q 0, .inr (10, fThings q)), (q 1, .inl (cy 0, 30, .inl (fun _ => 0))), (q 2, .inl (cy 0, 30, .inl (fun _ => 0))), (q 3, .inl (cy 0, 30, .inl (fun _ => 0))), (q 4, .inl (cy 0, 30, .inl (fun _ => 0))), (q 5, .inl (cy 0, 30, .inl (fun _ => 0))), (q 6, .inl (cy 0, 30, .inl (fun _ => 0))), (q 7, .inl (cy 0, 30, .inl (fun _ => 0))), (t 0, .inr (10, fThings t)), (t 1, .inl (cy 0, 30, .inl (fun _ => 0))), (t 2, .inl (cy 0, 30, .inl (fun _ => 0))), (t 3, .inl (cy 0, 30, .inl (fun _ => 0))), (t 4, .inl (cy 0, 30, .inl (fun _ => 0))), (t 5, .inl (cy 0, 30, .inl (fun _ => 0))), (t 6, .inl (cy 0, 30, .inl (fun _ => 0))), (t 7, .inl (cy 0, 30, .inl (fun _ => 0)))] s.heap := hP
  have hD : va_D A [(q 0, .inr (10, fThings q)), (q 1, .inl (cy 0, 30, .inl (fun _ => 0))), (q 2, .inl (cy 0, 30, .inl (fun _ => 0))), (q 3, .inl (cy 0, 30, .inl (fun _ => 0))), (q 4, .inl (cy 0, 30, .inl (fun _ => 0))), (q 5, .inl (cy 0, 30, .inl (fun _ => 0))), (q 6, .inl (cy 0, 30, .inl (fun _ => 0))), (q 7, .inl (cy 0, 30, .inl (fun _ => 0))), (t 0, .inr (10, fThings t)), (t 1, .inl (cy 0, 30, .inl (fun _ => 0))), (t 2, .inl (cy 0, 30, .inl (fun _ => 0))), (t 3, .inl (cy 0, 30, .inl (fun _ => 0))), (t 4, .inl (cy 0, 30, .inl (fun _ => 0))), (t 5, .inl (cy 0, 30, .inl (fun _ => 0))), (t 6, .inl (cy 0, 30, .inl (fun _ => 0))), (t 7, .inl (cy 0, 30, .inl (fun _ => 0)))] := hD
  refine lv_aload_n hx hb dd_X10_become_0 rfl (lv_at hl 1 rfl) ?_
  refine wk_get (v := .ref (t 1)) Sx ef_10 hK hP 8 rfl rfl 0 (by decide) kk_66 rfl dd_X10_become_1 ?_
  refine lv_iconst (v := 0) hx hb dd_X10_become_4 (by decide) ?_
  refine lv_aload_n hx hb dd_X10_become_5 rfl (lv_at hl 0 rfl) ?_
  refine wk_get (v := .ref (q 1)) Sx ef_10 hK hP 0 rfl rfl 0 (by decide) kk_66 rfl dd_X10_become_6 ?_
  refine lv_iconst (v := 0) hx hb dd_X10_become_9 (by decide) ?_
  refine lv_bipush (v := 30) hx hb dd_X10_become_10 (by decide) ?_
  refine va_copyi (ty := .int) hx hb (Sx.2.2.1.trans hl.1.symm) Sx.2.2.2.1 (Sx.2.2.2.2 _ kk_1057) (Sx.2.2.2.2 _ kk_468) (Sx.2.2.2.2 _ kk_467) (Sx.2.2.2.2 _ kk_15) hK hP hD hS 9 1 0 0 rfl rfl rfl rfl rfl (by decide) (by decide) (by decide) (Nat.le_of_ble_eq_true rfl) (Nat.le_of_ble_eq_true rfl) (fun _ _ => rfl) (Nat.le_of_ble_eq_true rfl) (Nat.le_of_ble_eq_true rfl) dd_X10_become_12 (fun H locs hP hD hS => ?_)
  have hP : va_P D cls [(q 0, .inr (10, fThings q)), (q 1, .inl (cy 0, 30, .inl (va_cpy (fun _ => 0) (fun _ => 0) (0 : Int32).toNatClampNeg (0 : Int32).toNatClampNeg (30 : Int32).toNatClampNeg))), (q 2, .inl (cy 0, 30, .inl (fun _ => 0))), (q 3, .inl (cy 0, 30, .inl (fun _ => 0))), (q 4, .inl (cy 0, 30, .inl (fun _ => 0))), (q 5, .inl (cy 0, 30, .inl (fun _ => 0))), (q 6, .inl (cy 0, 30, .inl (fun _ => 0))), (q 7, .inl (cy 0, 30, .inl (fun _ => 0))), (t 0, .inr (10, fThings t)), (t 1, .inl (cy 0, 30, .inl (fun _ => 0))), (t 2, .inl (cy 0, 30, .inl (fun _ => 0))), (t 3, .inl (cy 0, 30, .inl (fun _ => 0))), (t 4, .inl (cy 0, 30, .inl (fun _ => 0))), (t 5, .inl (cy 0, 30, .inl (fun _ => 0))), (t 6, .inl (cy 0, 30, .inl (fun _ => 0))), (t 7, .inl (cy 0, 30, .inl (fun _ => 0)))] H := hP
  have hD : va_D A [(q 0, .inr (10, fThings q)), (q 1, .inl (cy 0, 30, .inl (va_cpy (fun _ => 0) (fun _ => 0) (0 : Int32).toNatClampNeg (0 : Int32).toNatClampNeg (30 : Int32).toNatClampNeg))), (q 2, .inl (cy 0, 30, .inl (fun _ => 0))), (q 3, .inl (cy 0, 30, .inl (fun _ => 0))), (q 4, .inl (cy 0, 30, .inl (fun _ => 0))), (q 5, .inl (cy 0, 30, .inl (fun _ => 0))), (q 6, .inl (cy 0, 30, .inl (fun _ => 0))), (q 7, .inl (cy 0, 30, .inl (fun _ => 0))), (t 0, .inr (10, fThings t)), (t 1, .inl (cy 0, 30, .inl (fun _ => 0))), (t 2, .inl (cy 0, 30, .inl (fun _ => 0))), (t 3, .inl (cy 0, 30, .inl (fun _ => 0))), (t 4, .inl (cy 0, 30, .inl (fun _ => 0))), (t 5, .inl (cy 0, 30, .inl (fun _ => 0))), (t 6, .inl (cy 0, 30, .inl (fun _ => 0))), (t 7, .inl (cy 0, 30, .inl (fun _ => 0)))] := hD
  refine lv_aload_n hx hb dd_X10_become_15 rfl (lv_at hl 1 rfl) ?_
  refine wk_get (v := .ref (t 2)) Sx ef_10 hK hP 8 rfl rfl 1 (by decide) kk_70 rfl dd_X10_become_16 ?_
  refine lv_iconst (v := 0) hx hb dd_X10_become_19 (by decide) ?_
  refine lv_aload_n hx hb dd_X10_become_20 rfl (lv_at hl 0 rfl) ?_
  refine wk_get (v := .ref (q 2)) Sx ef_10 hK hP 0 rfl rfl 1 (by decide) kk_70 rfl dd_X10_become_21 ?_
  refine lv_iconst (v := 0) hx hb dd_X10_become_24 (by decide) ?_
  refine lv_bipush (v := 30) hx hb dd_X10_become_25 (by decide) ?_
  refine va_copyi (ty := .int) hx hb (Sx.2.2.1.trans hl.1.symm) Sx.2.2.2.1 (Sx.2.2.2.2 _ kk_1057) (Sx.2.2.2.2 _ kk_468) (Sx.2.2.2.2 _ kk_467) (Sx.2.2.2.2 _ kk_15) hK hP hD hS 10 2 0 0 rfl rfl rfl rfl rfl (by decide) (by decide) (by decide) (Nat.le_of_ble_eq_true rfl) (Nat.le_of_ble_eq_true rfl) (fun _ _ => rfl) (Nat.le_of_ble_eq_true rfl) (Nat.le_of_ble_eq_true rfl) dd_X10_become_27 (fun H locs hP hD hS => ?_)
  have hP : va_P D cls [(q 0, .inr (10, fThings q)), (q 1, .inl (cy 0, 30, .inl (va_cpy (fun _ => 0) (fun _ => 0) (0 : Int32).toNatClampNeg (0 : Int32).toNatClampNeg (30 : Int32).toNatClampNeg))), (q 2, .inl (cy 0, 30, .inl (va_cpy (fun _ => 0) (fun _ => 0) (0 : Int32).toNatClampNeg (0 : Int32).toNatClampNeg (30 : Int32).toNatClampNeg))), (q 3, .inl (cy 0, 30, .inl (fun _ => 0))), (q 4, .inl (cy 0, 30, .inl (fun _ => 0))), (q 5, .inl (cy 0, 30, .inl (fun _ => 0))), (q 6, .inl (cy 0, 30, .inl (fun _ => 0))), (q 7, .inl (cy 0, 30, .inl (fun _ => 0))), (t 0, .inr (10, fThings t)), (t 1, .inl (cy 0, 30, .inl (fun _ => 0))), (t 2, .inl (cy 0, 30, .inl (fun _ => 0))), (t 3, .inl (cy 0, 30, .inl (fun _ => 0))), (t 4, .inl (cy 0, 30, .inl (fun _ => 0))), (t 5, .inl (cy 0, 30, .inl (fun _ => 0))), (t 6, .inl (cy 0, 30, .inl (fun _ => 0))), (t 7, .inl (cy 0, 30, .inl (fun _ => 0)))] H := hP
  have hD : va_D A [(q 0, .inr (10, fThings q)), (q 1, .inl (cy 0, 30, .inl (va_cpy (fun _ => 0) (fun _ => 0) (0 : Int32).toNatClampNeg (0 : Int32).toNatClampNeg (30 : Int32).toNatClampNeg))), (q 2, .inl (cy 0, 30, .inl (va_cpy (fun _ => 0) (fun _ => 0) (0 : Int32).toNatClampNeg (0 : Int32).toNatClampNeg (30 : Int32).toNatClampNeg))), (q 3, .inl (cy 0, 30, .inl (fun _ => 0))), (q 4, .inl (cy 0, 30, .inl (fun _ => 0))), (q 5, .inl (cy 0, 30, .inl (fun _ => 0))), (q 6, .inl (cy 0, 30, .inl (fun _ => 0))), (q 7, .inl (cy 0, 30, .inl (fun _ => 0))), (t 0, .inr (10, fThings t)), (t 1, .inl (cy 0, 30, .inl (fun _ => 0))), (t 2, .inl (cy 0, 30, .inl (fun _ => 0))), (t 3, .inl (cy 0, 30, .inl (fun _ => 0))), (t 4, .inl (cy 0, 30, .inl (fun _ => 0))), (t 5, .inl (cy 0, 30, .inl (fun _ => 0))), (t 6, .inl (cy 0, 30, .inl (fun _ => 0))), (t 7, .inl (cy 0, 30, .inl (fun _ => 0)))] := hD
  refine lv_aload_n hx hb dd_X10_become_30 rfl (lv_at hl 1 rfl) ?_
  refine wk_get (v := .ref (t 3)) Sx ef_10 hK hP 8 rfl rfl 2 (by decide) kk_72 rfl dd_X10_become_31 ?_
  refine lv_iconst (v := 0) hx hb dd_X10_become_34 (by decide) ?_
  refine lv_aload_n hx hb dd_X10_become_35 rfl (lv_at hl 0 rfl) ?_
  refine wk_get (v := .ref (q 3)) Sx ef_10 hK hP 0 rfl rfl 2 (by decide) kk_72 rfl dd_X10_become_36 ?_
  refine lv_iconst (v := 0) hx hb dd_X10_become_39 (by decide) ?_
  refine lv_bipush (v := 30) hx hb dd_X10_become_40 (by decide) ?_
  refine va_copyi (ty := .int) hx hb (Sx.2.2.1.trans hl.1.symm) Sx.2.2.2.1 (Sx.2.2.2.2 _ kk_1057) (Sx.2.2.2.2 _ kk_468) (Sx.2.2.2.2 _ kk_467) (Sx.2.2.2.2 _ kk_15) hK hP hD hS 11 3 0 0 rfl rfl rfl rfl rfl (by decide) (by decide) (by decide) (Nat.le_of_ble_eq_true rfl) (Nat.le_of_ble_eq_true rfl) (fun _ _ => rfl) (Nat.le_of_ble_eq_true rfl) (Nat.le_of_ble_eq_true rfl) dd_X10_become_42 (fun H locs hP hD hS => ?_)
  have hP : va_P D cls [(q 0, .inr (10, fThings q)), (q 1, .inl (cy 0, 30, .inl (va_cpy (fun _ => 0) (fun _ => 0) (0 : Int32).toNatClampNeg (0 : Int32).toNatClampNeg (30 : Int32).toNatClampNeg))), (q 2, .inl (cy 0, 30, .inl (va_cpy (fun _ => 0) (fun _ => 0) (0 : Int32).toNatClampNeg (0 : Int32).toNatClampNeg (30 : Int32).toNatClampNeg))), (q 3, .inl (cy 0, 30, .inl (va_cpy (fun _ => 0) (fun _ => 0) (0 : Int32).toNatClampNeg (0 : Int32).toNatClampNeg (30 : Int32).toNatClampNeg))), (q 4, .inl (cy 0, 30, .inl (fun _ => 0))), (q 5, .inl (cy 0, 30, .inl (fun _ => 0))), (q 6, .inl (cy 0, 30, .inl (fun _ => 0))), (q 7, .inl (cy 0, 30, .inl (fun _ => 0))), (t 0, .inr (10, fThings t)), (t 1, .inl (cy 0, 30, .inl (fun _ => 0))), (t 2, .inl (cy 0, 30, .inl (fun _ => 0))), (t 3, .inl (cy 0, 30, .inl (fun _ => 0))), (t 4, .inl (cy 0, 30, .inl (fun _ => 0))), (t 5, .inl (cy 0, 30, .inl (fun _ => 0))), (t 6, .inl (cy 0, 30, .inl (fun _ => 0))), (t 7, .inl (cy 0, 30, .inl (fun _ => 0)))] H := hP
  have hD : va_D A [(q 0, .inr (10, fThings q)), (q 1, .inl (cy 0, 30, .inl (va_cpy (fun _ => 0) (fun _ => 0) (0 : Int32).toNatClampNeg (0 : Int32).toNatClampNeg (30 : Int32).toNatClampNeg))), (q 2, .inl (cy 0, 30, .inl (va_cpy (fun _ => 0) (fun _ => 0) (0 : Int32).toNatClampNeg (0 : Int32).toNatClampNeg (30 : Int32).toNatClampNeg))), (q 3, .inl (cy 0, 30, .inl (va_cpy (fun _ => 0) (fun _ => 0) (0 : Int32).toNatClampNeg (0 : Int32).toNatClampNeg (30 : Int32).toNatClampNeg))), (q 4, .inl (cy 0, 30, .inl (fun _ => 0))), (q 5, .inl (cy 0, 30, .inl (fun _ => 0))), (q 6, .inl (cy 0, 30, .inl (fun _ => 0))), (q 7, .inl (cy 0, 30, .inl (fun _ => 0))), (t 0, .inr (10, fThings t)), (t 1, .inl (cy 0, 30, .inl (fun _ => 0))), (t 2, .inl (cy 0, 30, .inl (fun _ => 0))), (t 3, .inl (cy 0, 30, .inl (fun _ => 0))), (t 4, .inl (cy 0, 30, .inl (fun _ => 0))), (t 5, .inl (cy 0, 30, .inl (fun _ => 0))), (t 6, .inl (cy 0, 30, .inl (fun _ => 0))), (t 7, .inl (cy 0, 30, .inl (fun _ => 0)))] := hD
  refine lv_aload_n hx hb dd_X10_become_45 rfl (lv_at hl 1 rfl) ?_
  refine wk_get (v := .ref (t 4)) Sx ef_10 hK hP 8 rfl rfl 3 (by decide) kk_74 rfl dd_X10_become_46 ?_
  refine lv_iconst (v := 0) hx hb dd_X10_become_49 (by decide) ?_
  refine lv_aload_n hx hb dd_X10_become_50 rfl (lv_at hl 0 rfl) ?_
  refine wk_get (v := .ref (q 4)) Sx ef_10 hK hP 0 rfl rfl 3 (by decide) kk_74 rfl dd_X10_become_51 ?_
  refine lv_iconst (v := 0) hx hb dd_X10_become_54 (by decide) ?_
  refine lv_bipush (v := 30) hx hb dd_X10_become_55 (by decide) ?_
  refine va_copyi (ty := .int) hx hb (Sx.2.2.1.trans hl.1.symm) Sx.2.2.2.1 (Sx.2.2.2.2 _ kk_1057) (Sx.2.2.2.2 _ kk_468) (Sx.2.2.2.2 _ kk_467) (Sx.2.2.2.2 _ kk_15) hK hP hD hS 12 4 0 0 rfl rfl rfl rfl rfl (by decide) (by decide) (by decide) (Nat.le_of_ble_eq_true rfl) (Nat.le_of_ble_eq_true rfl) (fun _ _ => rfl) (Nat.le_of_ble_eq_true rfl) (Nat.le_of_ble_eq_true rfl) dd_X10_become_57 (fun H locs hP hD hS => ?_)
  have hP : va_P D cls [(q 0, .inr (10, fThings q)), (q 1, .inl (cy 0, 30, .inl (va_cpy (fun _ => 0) (fun _ => 0) (0 : Int32).toNatClampNeg (0 : Int32).toNatClampNeg (30 : Int32).toNatClampNeg))), (q 2, .inl (cy 0, 30, .inl (va_cpy (fun _ => 0) (fun _ => 0) (0 : Int32).toNatClampNeg (0 : Int32).toNatClampNeg (30 : Int32).toNatClampNeg))), (q 3, .inl (cy 0, 30, .inl (va_cpy (fun _ => 0) (fun _ => 0) (0 : Int32).toNatClampNeg (0 : Int32).toNatClampNeg (30 : Int32).toNatClampNeg))), (q 4, .inl (cy 0, 30, .inl (va_cpy (fun _ => 0) (fun _ => 0) (0 : Int32).toNatClampNeg (0 : Int32).toNatClampNeg (30 : Int32).toNatClampNeg))), (q 5, .inl (cy 0, 30, .inl (fun _ => 0))), (q 6, .inl (cy 0, 30, .inl (fun _ => 0))), (q 7, .inl (cy 0, 30, .inl (fun _ => 0))), (t 0, .inr (10, fThings t)), (t 1, .inl (cy 0, 30, .inl (fun _ => 0))), (t 2, .inl (cy 0, 30, .inl (fun _ => 0))), (t 3, .inl (cy 0, 30, .inl (fun _ => 0))), (t 4, .inl (cy 0, 30, .inl (fun _ => 0))), (t 5, .inl (cy 0, 30, .inl (fun _ => 0))), (t 6, .inl (cy 0, 30, .inl (fun _ => 0))), (t 7, .inl (cy 0, 30, .inl (fun _ => 0)))] H := hP
  have hD : va_D A [(q 0, .inr (10, fThings q)), (q 1, .inl (cy 0, 30, .inl (va_cpy (fun _ => 0) (fun _ => 0) (0 : Int32).toNatClampNeg (0 : Int32).toNatClampNeg (30 : Int32).toNatClampNeg))), (q 2, .inl (cy 0, 30, .inl (va_cpy (fun _ => 0) (fun _ => 0) (0 : Int32).toNatClampNeg (0 : Int32).toNatClampNeg (30 : Int32).toNatClampNeg))), (q 3, .inl (cy 0, 30, .inl (va_cpy (fun _ => 0) (fun _ => 0) (0 : Int32).toNatClampNeg (0 : Int32).toNatClampNeg (30 : Int32).toNatClampNeg))), (q 4, .inl (cy 0, 30, .inl (va_cpy (fun _ => 0) (fun _ => 0) (0 : Int32).toNatClampNeg (0 : Int32).toNatClampNeg (30 : Int32).toNatClampNeg))), (q 5, .inl (cy 0, 30, .inl (fun _ => 0))), (q 6, .inl (cy 0, 30, .inl (fun _ => 0))), (q 7, .inl (cy 0, 30, .inl (fun _ => 0))), (t 0, .inr (10, fThings t)), (t 1, .inl (cy 0, 30, .inl (fun _ => 0))), (t 2, .inl (cy 0, 30, .inl (fun _ => 0))), (t 3, .inl (cy 0, 30, .inl (fun _ => 0))), (t 4, .inl (cy 0, 30, .inl (fun _ => 0))), (t 5, .inl (cy 0, 30, .inl (fun _ => 0))), (t 6, .inl (cy 0, 30, .inl (fun _ => 0))), (t 7, .inl (cy 0, 30, .inl (fun _ => 0)))] := hD
  refine lv_aload_n hx hb dd_X10_become_60 rfl (lv_at hl 1 rfl) ?_
  refine wk_get (v := .ref (t 5)) Sx ef_10 hK hP 8 rfl rfl 4 (by decide) kk_79 rfl dd_X10_become_61 ?_
  refine lv_iconst (v := 0) hx hb dd_X10_become_64 (by decide) ?_
  refine lv_aload_n hx hb dd_X10_become_65 rfl (lv_at hl 0 rfl) ?_
  refine wk_get (v := .ref (q 5)) Sx ef_10 hK hP 0 rfl rfl 4 (by decide) kk_79 rfl dd_X10_become_66 ?_
  refine lv_iconst (v := 0) hx hb dd_X10_become_69 (by decide) ?_
  refine lv_bipush (v := 30) hx hb dd_X10_become_70 (by decide) ?_
  refine va_copyi (ty := .int) hx hb (Sx.2.2.1.trans hl.1.symm) Sx.2.2.2.1 (Sx.2.2.2.2 _ kk_1057) (Sx.2.2.2.2 _ kk_468) (Sx.2.2.2.2 _ kk_467) (Sx.2.2.2.2 _ kk_15) hK hP hD hS 13 5 0 0 rfl rfl rfl rfl rfl (by decide) (by decide) (by decide) (Nat.le_of_ble_eq_true rfl) (Nat.le_of_ble_eq_true rfl) (fun _ _ => rfl) (Nat.le_of_ble_eq_true rfl) (Nat.le_of_ble_eq_true rfl) dd_X10_become_72 (fun H locs hP hD hS => ?_)
  have hP : va_P D cls [(q 0, .inr (10, fThings q)), (q 1, .inl (cy 0, 30, .inl (va_cpy (fun _ => 0) (fun _ => 0) (0 : Int32).toNatClampNeg (0 : Int32).toNatClampNeg (30 : Int32).toNatClampNeg))), (q 2, .inl (cy 0, 30, .inl (va_cpy (fun _ => 0) (fun _ => 0) (0 : Int32).toNatClampNeg (0 : Int32).toNatClampNeg (30 : Int32).toNatClampNeg))), (q 3, .inl (cy 0, 30, .inl (va_cpy (fun _ => 0) (fun _ => 0) (0 : Int32).toNatClampNeg (0 : Int32).toNatClampNeg (30 : Int32).toNatClampNeg))), (q 4, .inl (cy 0, 30, .inl (va_cpy (fun _ => 0) (fun _ => 0) (0 : Int32).toNatClampNeg (0 : Int32).toNatClampNeg (30 : Int32).toNatClampNeg))), (q 5, .inl (cy 0, 30, .inl (va_cpy (fun _ => 0) (fun _ => 0) (0 : Int32).toNatClampNeg (0 : Int32).toNatClampNeg (30 : Int32).toNatClampNeg))), (q 6, .inl (cy 0, 30, .inl (fun _ => 0))), (q 7, .inl (cy 0, 30, .inl (fun _ => 0))), (t 0, .inr (10, fThings t)), (t 1, .inl (cy 0, 30, .inl (fun _ => 0))), (t 2, .inl (cy 0, 30, .inl (fun _ => 0))), (t 3, .inl (cy 0, 30, .inl (fun _ => 0))), (t 4, .inl (cy 0, 30, .inl (fun _ => 0))), (t 5, .inl (cy 0, 30, .inl (fun _ => 0))), (t 6, .inl (cy 0, 30, .inl (fun _ => 0))), (t 7, .inl (cy 0, 30, .inl (fun _ => 0)))] H := hP
  have hD : va_D A [(q 0, .inr (10, fThings q)), (q 1, .inl (cy 0, 30, .inl (va_cpy (fun _ => 0) (fun _ => 0) (0 : Int32).toNatClampNeg (0 : Int32).toNatClampNeg (30 : Int32).toNatClampNeg))), (q 2, .inl (cy 0, 30, .inl (va_cpy (fun _ => 0) (fun _ => 0) (0 : Int32).toNatClampNeg (0 : Int32).toNatClampNeg (30 : Int32).toNatClampNeg))), (q 3, .inl (cy 0, 30, .inl (va_cpy (fun _ => 0) (fun _ => 0) (0 : Int32).toNatClampNeg (0 : Int32).toNatClampNeg (30 : Int32).toNatClampNeg))), (q 4, .inl (cy 0, 30, .inl (va_cpy (fun _ => 0) (fun _ => 0) (0 : Int32).toNatClampNeg (0 : Int32).toNatClampNeg (30 : Int32).toNatClampNeg))), (q 5, .inl (cy 0, 30, .inl (va_cpy (fun _ => 0) (fun _ => 0) (0 : Int32).toNatClampNeg (0 : Int32).toNatClampNeg (30 : Int32).toNatClampNeg))), (q 6, .inl (cy 0, 30, .inl (fun _ => 0))), (q 7, .inl (cy 0, 30, .inl (fun _ => 0))), (t 0, .inr (10, fThings t)), (t 1, .inl (cy 0, 30, .inl (fun _ => 0))), (t 2, .inl (cy 0, 30, .inl (fun _ => 0))), (t 3, .inl (cy 0, 30, .inl (fun _ => 0))), (t 4, .inl (cy 0, 30, .inl (fun _ => 0))), (t 5, .inl (cy 0, 30, .inl (fun _ => 0))), (t 6, .inl (cy 0, 30, .inl (fun _ => 0))), (t 7, .inl (cy 0, 30, .inl (fun _ => 0)))] := hD
  refine lv_aload_n hx hb dd_X10_become_75 rfl (lv_at hl 1 rfl) ?_
  refine wk_get (v := .ref (t 6)) Sx ef_10 hK hP 8 rfl rfl 5 (by decide) kk_82 rfl dd_X10_become_76 ?_
  refine lv_iconst (v := 0) hx hb dd_X10_become_79 (by decide) ?_
  refine lv_aload_n hx hb dd_X10_become_80 rfl (lv_at hl 0 rfl) ?_
  refine wk_get (v := .ref (q 6)) Sx ef_10 hK hP 0 rfl rfl 5 (by decide) kk_82 rfl dd_X10_become_81 ?_
  refine lv_iconst (v := 0) hx hb dd_X10_become_84 (by decide) ?_
  refine lv_bipush (v := 30) hx hb dd_X10_become_85 (by decide) ?_
  refine va_copyi (ty := .int) hx hb (Sx.2.2.1.trans hl.1.symm) Sx.2.2.2.1 (Sx.2.2.2.2 _ kk_1057) (Sx.2.2.2.2 _ kk_468) (Sx.2.2.2.2 _ kk_467) (Sx.2.2.2.2 _ kk_15) hK hP hD hS 14 6 0 0 rfl rfl rfl rfl rfl (by decide) (by decide) (by decide) (Nat.le_of_ble_eq_true rfl) (Nat.le_of_ble_eq_true rfl) (fun _ _ => rfl) (Nat.le_of_ble_eq_true rfl) (Nat.le_of_ble_eq_true rfl) dd_X10_become_87 (fun H locs hP hD hS => ?_)
  have hP : va_P D cls [(q 0, .inr (10, fThings q)), (q 1, .inl (cy 0, 30, .inl (va_cpy (fun _ => 0) (fun _ => 0) (0 : Int32).toNatClampNeg (0 : Int32).toNatClampNeg (30 : Int32).toNatClampNeg))), (q 2, .inl (cy 0, 30, .inl (va_cpy (fun _ => 0) (fun _ => 0) (0 : Int32).toNatClampNeg (0 : Int32).toNatClampNeg (30 : Int32).toNatClampNeg))), (q 3, .inl (cy 0, 30, .inl (va_cpy (fun _ => 0) (fun _ => 0) (0 : Int32).toNatClampNeg (0 : Int32).toNatClampNeg (30 : Int32).toNatClampNeg))), (q 4, .inl (cy 0, 30, .inl (va_cpy (fun _ => 0) (fun _ => 0) (0 : Int32).toNatClampNeg (0 : Int32).toNatClampNeg (30 : Int32).toNatClampNeg))), (q 5, .inl (cy 0, 30, .inl (va_cpy (fun _ => 0) (fun _ => 0) (0 : Int32).toNatClampNeg (0 : Int32).toNatClampNeg (30 : Int32).toNatClampNeg))), (q 6, .inl (cy 0, 30, .inl (va_cpy (fun _ => 0) (fun _ => 0) (0 : Int32).toNatClampNeg (0 : Int32).toNatClampNeg (30 : Int32).toNatClampNeg))), (q 7, .inl (cy 0, 30, .inl (fun _ => 0))), (t 0, .inr (10, fThings t)), (t 1, .inl (cy 0, 30, .inl (fun _ => 0))), (t 2, .inl (cy 0, 30, .inl (fun _ => 0))), (t 3, .inl (cy 0, 30, .inl (fun _ => 0))), (t 4, .inl (cy 0, 30, .inl (fun _ => 0))), (t 5, .inl (cy 0, 30, .inl (fun _ => 0))), (t 6, .inl (cy 0, 30, .inl (fun _ => 0))), (t 7, .inl (cy 0, 30, .inl (fun _ => 0)))] H := hP
  have hD : va_D A [(q 0, .inr (10, fThings q)), (q 1, .inl (cy 0, 30, .inl (va_cpy (fun _ => 0) (fun _ => 0) (0 : Int32).toNatClampNeg (0 : Int32).toNatClampNeg (30 : Int32).toNatClampNeg))), (q 2, .inl (cy 0, 30, .inl (va_cpy (fun _ => 0) (fun _ => 0) (0 : Int32).toNatClampNeg (0 : Int32).toNatClampNeg (30 : Int32).toNatClampNeg))), (q 3, .inl (cy 0, 30, .inl (va_cpy (fun _ => 0) (fun _ => 0) (0 : Int32).toNatClampNeg (0 : Int32).toNatClampNeg (30 : Int32).toNatClampNeg))), (q 4, .inl (cy 0, 30, .inl (va_cpy (fun _ => 0) (fun _ => 0) (0 : Int32).toNatClampNeg (0 : Int32).toNatClampNeg (30 : Int32).toNatClampNeg))), (q 5, .inl (cy 0, 30, .inl (va_cpy (fun _ => 0) (fun _ => 0) (0 : Int32).toNatClampNeg (0 : Int32).toNatClampNeg (30 : Int32).toNatClampNeg))), (q 6, .inl (cy 0, 30, .inl (va_cpy (fun _ => 0) (fun _ => 0) (0 : Int32).toNatClampNeg (0 : Int32).toNatClampNeg (30 : Int32).toNatClampNeg))), (q 7, .inl (cy 0, 30, .inl (fun _ => 0))), (t 0, .inr (10, fThings t)), (t 1, .inl (cy 0, 30, .inl (fun _ => 0))), (t 2, .inl (cy 0, 30, .inl (fun _ => 0))), (t 3, .inl (cy 0, 30, .inl (fun _ => 0))), (t 4, .inl (cy 0, 30, .inl (fun _ => 0))), (t 5, .inl (cy 0, 30, .inl (fun _ => 0))), (t 6, .inl (cy 0, 30, .inl (fun _ => 0))), (t 7, .inl (cy 0, 30, .inl (fun _ => 0)))] := hD
  refine lv_aload_n hx hb dd_X10_become_90 rfl (lv_at hl 0 rfl) ?_
  refine lv_aload_n hx hb dd_X10_become_91 rfl (lv_at hl 1 rfl) ?_
  refine wk_get (v := .int 0) Sx ef_10 hK hP 8 rfl rfl 6 (by decide) kk_86 rfl dd_X10_become_92 ?_
  refine wk_put (ws' := [(q 0, .inr (10, fThings q)), (q 1, .inl (cy 0, 30, .inl (va_cpy (fun _ => 0) (fun _ => 0) (0 : Int32).toNatClampNeg (0 : Int32).toNatClampNeg (30 : Int32).toNatClampNeg))), (q 2, .inl (cy 0, 30, .inl (va_cpy (fun _ => 0) (fun _ => 0) (0 : Int32).toNatClampNeg (0 : Int32).toNatClampNeg (30 : Int32).toNatClampNeg))), (q 3, .inl (cy 0, 30, .inl (va_cpy (fun _ => 0) (fun _ => 0) (0 : Int32).toNatClampNeg (0 : Int32).toNatClampNeg (30 : Int32).toNatClampNeg))), (q 4, .inl (cy 0, 30, .inl (va_cpy (fun _ => 0) (fun _ => 0) (0 : Int32).toNatClampNeg (0 : Int32).toNatClampNeg (30 : Int32).toNatClampNeg))), (q 5, .inl (cy 0, 30, .inl (va_cpy (fun _ => 0) (fun _ => 0) (0 : Int32).toNatClampNeg (0 : Int32).toNatClampNeg (30 : Int32).toNatClampNeg))), (q 6, .inl (cy 0, 30, .inl (va_cpy (fun _ => 0) (fun _ => 0) (0 : Int32).toNatClampNeg (0 : Int32).toNatClampNeg (30 : Int32).toNatClampNeg))), (q 7, .inl (cy 0, 30, .inl (fun _ => 0))), (t 0, .inr (10, fThings t)), (t 1, .inl (cy 0, 30, .inl (fun _ => 0))), (t 2, .inl (cy 0, 30, .inl (fun _ => 0))), (t 3, .inl (cy 0, 30, .inl (fun _ => 0))), (t 4, .inl (cy 0, 30, .inl (fun _ => 0))), (t 5, .inl (cy 0, 30, .inl (fun _ => 0))), (t 6, .inl (cy 0, 30, .inl (fun _ => 0))), (t 7, .inl (cy 0, 30, .inl (fun _ => 0)))]) Sx ef_10 hK hP hD hS 0 rfl rfl 6 (by decide) kk_86 rfl rfl rfl (Nat.le_of_ble_eq_true rfl) dd_X10_become_95 rfl (fun H locs hP hD hS => ?_)
  exact hc_vret Sx hr hlocks dd_X10_become_98 hS () trivial p_nil d_nil
set_option maxHeartbeats 4000000 in
set_option maxRecDepth 100000 in
theorem c_Ladies_become (l : Launch) (D : va_G) (cy : Nat → ClassId) (q : Nat → Nat) (t : Nat → Nat) : HC l my_X2_become mb_X2_become 2 ((none : Option Jvm.ClassFile.FieldType)) (rmD 1 0 0) D (TY cy) [.ref (q 0), .ref (t 0)] NX [(q 0, .inr (2, fLadies q)), (q 1, .inl (cy 0, 5, .inl (fun _ => 0))), (q 2, .inl (cy 0, 5, .inl (fun _ => 0))), (q 3, .inl (cy 0, 5, .inl (fun _ => 0))), (t 0, .inr (2, fLadies t)), (t 1, .inl (cy 0, 5, .inl (fun _ => 0))), (t 2, .inl (cy 0, 5, .inl (fun _ => 0))), (t 3, .inl (cy 0, 5, .inl (fun _ => 0)))] (QV (S := Unit) D (fun _ => True) (fun _ => [])) := by
  refine hc_intro (by decide) (Nat.le_of_ble_eq_true rfl) (fun p e s m below meth c A ls Sx hr hlocks hin hl hP hD hK hS hA hX => ?_)
  have hx := Sx.1
  have hb := Sx.2.1
  have hl : lv_has ls 2 [(0, .ref (q 0)), (1, .ref (t 0))] := hl
  have hP : va_P D cls [(q 0, .inr (2, fLadies q)), (q 1, .inl (cy 0, 5, .inl (fun _ => 0))), (q 2, .inl (cy 0, 5, .inl (fun _ => 0))), (q 3, .inl (cy 0, 5, .inl (fun _ => 0))), (t 0, .inr (2, fLadies t)), (t 1, .inl (cy 0, 5, .inl (fun _ => 0))), (t 2, .inl (cy 0, 5, .inl (fun _ => 0))), (t 3, .inl (cy 0, 5, .inl (fun _ => 0)))] s.heap := hP
  have hD : va_D A [(q 0, .inr (2, fLadies q)), (q 1, .inl (cy 0, 5, .inl (fun _ => 0))), (q 2, .inl (cy 0, 5, .inl (fun _ => 0))), (q 3, .inl (cy 0, 5, .inl (fun _ => 0))), (t 0, .inr (2, fLadies t)), (t 1, .inl (cy 0, 5, .inl (fun _ => 0))), (t 2, .inl (cy 0, 5, .inl (fun _ => 0))), (t 3, .inl (cy 0, 5, .inl (fun _ => 0)))] := hD
  refine lv_aload_n hx hb dd_X2_become_0 rfl (lv_at hl 1 rfl) ?_
  refine wk_get (v := .ref (t 1)) Sx ef_2 hK hP 4 rfl rfl 0 (by decide) kk_116 rfl dd_X2_become_1 ?_
  refine lv_iconst (v := 0) hx hb dd_X2_become_4 (by decide) ?_
  refine lv_aload_n hx hb dd_X2_become_5 rfl (lv_at hl 0 rfl) ?_
  refine wk_get (v := .ref (q 1)) Sx ef_2 hK hP 0 rfl rfl 0 (by decide) kk_116 rfl dd_X2_become_6 ?_
  refine lv_iconst (v := 0) hx hb dd_X2_become_9 (by decide) ?_
  refine lv_iconst (v := 5) hx hb dd_X2_become_10 (by decide) ?_
  refine va_copyi (ty := .int) hx hb (Sx.2.2.1.trans hl.1.symm) Sx.2.2.2.1 (Sx.2.2.2.2 _ kk_1062) (Sx.2.2.2.2 _ kk_468) (Sx.2.2.2.2 _ kk_467) (Sx.2.2.2.2 _ kk_15) hK hP hD hS 5 1 0 0 rfl rfl rfl rfl rfl (by decide) (by decide) (by decide) (Nat.le_of_ble_eq_true rfl) (Nat.le_of_ble_eq_true rfl) (fun _ _ => rfl) (Nat.le_of_ble_eq_true rfl) (Nat.le_of_ble_eq_true rfl) dd_X2_become_11 (fun H locs hP hD hS => ?_)
  have hP : va_P D cls [(q 0, .inr (2, fLadies q)), (q 1, .inl (cy 0, 5, .inl (va_cpy (fun _ => 0) (fun _ => 0) (0 : Int32).toNatClampNeg (0 : Int32).toNatClampNeg (5 : Int32).toNatClampNeg))), (q 2, .inl (cy 0, 5, .inl (fun _ => 0))), (q 3, .inl (cy 0, 5, .inl (fun _ => 0))), (t 0, .inr (2, fLadies t)), (t 1, .inl (cy 0, 5, .inl (fun _ => 0))), (t 2, .inl (cy 0, 5, .inl (fun _ => 0))), (t 3, .inl (cy 0, 5, .inl (fun _ => 0)))] H := hP
  have hD : va_D A [(q 0, .inr (2, fLadies q)), (q 1, .inl (cy 0, 5, .inl (va_cpy (fun _ => 0) (fun _ => 0) (0 : Int32).toNatClampNeg (0 : Int32).toNatClampNeg (5 : Int32).toNatClampNeg))), (q 2, .inl (cy 0, 5, .inl (fun _ => 0))), (q 3, .inl (cy 0, 5, .inl (fun _ => 0))), (t 0, .inr (2, fLadies t)), (t 1, .inl (cy 0, 5, .inl (fun _ => 0))), (t 2, .inl (cy 0, 5, .inl (fun _ => 0))), (t 3, .inl (cy 0, 5, .inl (fun _ => 0)))] := hD
  refine lv_aload_n hx hb dd_X2_become_14 rfl (lv_at hl 1 rfl) ?_
  refine wk_get (v := .ref (t 2)) Sx ef_2 hK hP 4 rfl rfl 1 (by decide) kk_118 rfl dd_X2_become_15 ?_
  refine lv_iconst (v := 0) hx hb dd_X2_become_18 (by decide) ?_
  refine lv_aload_n hx hb dd_X2_become_19 rfl (lv_at hl 0 rfl) ?_
  refine wk_get (v := .ref (q 2)) Sx ef_2 hK hP 0 rfl rfl 1 (by decide) kk_118 rfl dd_X2_become_20 ?_
  refine lv_iconst (v := 0) hx hb dd_X2_become_23 (by decide) ?_
  refine lv_iconst (v := 5) hx hb dd_X2_become_24 (by decide) ?_
  refine va_copyi (ty := .int) hx hb (Sx.2.2.1.trans hl.1.symm) Sx.2.2.2.1 (Sx.2.2.2.2 _ kk_1062) (Sx.2.2.2.2 _ kk_468) (Sx.2.2.2.2 _ kk_467) (Sx.2.2.2.2 _ kk_15) hK hP hD hS 6 2 0 0 rfl rfl rfl rfl rfl (by decide) (by decide) (by decide) (Nat.le_of_ble_eq_true rfl) (Nat.le_of_ble_eq_true rfl) (fun _ _ => rfl) (Nat.le_of_ble_eq_true rfl) (Nat.le_of_ble_eq_true rfl) dd_X2_become_25 (fun H locs hP hD hS => ?_)
  have hP : va_P D cls [(q 0, .inr (2, fLadies q)), (q 1, .inl (cy 0, 5, .inl (va_cpy (fun _ => 0) (fun _ => 0) (0 : Int32).toNatClampNeg (0 : Int32).toNatClampNeg (5 : Int32).toNatClampNeg))), (q 2, .inl (cy 0, 5, .inl (va_cpy (fun _ => 0) (fun _ => 0) (0 : Int32).toNatClampNeg (0 : Int32).toNatClampNeg (5 : Int32).toNatClampNeg))), (q 3, .inl (cy 0, 5, .inl (fun _ => 0))), (t 0, .inr (2, fLadies t)), (t 1, .inl (cy 0, 5, .inl (fun _ => 0))), (t 2, .inl (cy 0, 5, .inl (fun _ => 0))), (t 3, .inl (cy 0, 5, .inl (fun _ => 0)))] H := hP
  have hD : va_D A [(q 0, .inr (2, fLadies q)), (q 1, .inl (cy 0, 5, .inl (va_cpy (fun _ => 0) (fun _ => 0) (0 : Int32).toNatClampNeg (0 : Int32).toNatClampNeg (5 : Int32).toNatClampNeg))), (q 2, .inl (cy 0, 5, .inl (va_cpy (fun _ => 0) (fun _ => 0) (0 : Int32).toNatClampNeg (0 : Int32).toNatClampNeg (5 : Int32).toNatClampNeg))), (q 3, .inl (cy 0, 5, .inl (fun _ => 0))), (t 0, .inr (2, fLadies t)), (t 1, .inl (cy 0, 5, .inl (fun _ => 0))), (t 2, .inl (cy 0, 5, .inl (fun _ => 0))), (t 3, .inl (cy 0, 5, .inl (fun _ => 0)))] := hD
  refine lv_aload_n hx hb dd_X2_become_28 rfl (lv_at hl 1 rfl) ?_
  refine wk_get (v := .ref (t 3)) Sx ef_2 hK hP 4 rfl rfl 2 (by decide) kk_120 rfl dd_X2_become_29 ?_
  refine lv_iconst (v := 0) hx hb dd_X2_become_32 (by decide) ?_
  refine lv_aload_n hx hb dd_X2_become_33 rfl (lv_at hl 0 rfl) ?_
  refine wk_get (v := .ref (q 3)) Sx ef_2 hK hP 0 rfl rfl 2 (by decide) kk_120 rfl dd_X2_become_34 ?_
  refine lv_iconst (v := 0) hx hb dd_X2_become_37 (by decide) ?_
  refine lv_iconst (v := 5) hx hb dd_X2_become_38 (by decide) ?_
  refine va_copyi (ty := .int) hx hb (Sx.2.2.1.trans hl.1.symm) Sx.2.2.2.1 (Sx.2.2.2.2 _ kk_1062) (Sx.2.2.2.2 _ kk_468) (Sx.2.2.2.2 _ kk_467) (Sx.2.2.2.2 _ kk_15) hK hP hD hS 7 3 0 0 rfl rfl rfl rfl rfl (by decide) (by decide) (by decide) (Nat.le_of_ble_eq_true rfl) (Nat.le_of_ble_eq_true rfl) (fun _ _ => rfl) (Nat.le_of_ble_eq_true rfl) (Nat.le_of_ble_eq_true rfl) dd_X2_become_39 (fun H locs hP hD hS => ?_)
  have hP : va_P D cls [(q 0, .inr (2, fLadies q)), (q 1, .inl (cy 0, 5, .inl (va_cpy (fun _ => 0) (fun _ => 0) (0 : Int32).toNatClampNeg (0 : Int32).toNatClampNeg (5 : Int32).toNatClampNeg))), (q 2, .inl (cy 0, 5, .inl (va_cpy (fun _ => 0) (fun _ => 0) (0 : Int32).toNatClampNeg (0 : Int32).toNatClampNeg (5 : Int32).toNatClampNeg))), (q 3, .inl (cy 0, 5, .inl (va_cpy (fun _ => 0) (fun _ => 0) (0 : Int32).toNatClampNeg (0 : Int32).toNatClampNeg (5 : Int32).toNatClampNeg))), (t 0, .inr (2, fLadies t)), (t 1, .inl (cy 0, 5, .inl (fun _ => 0))), (t 2, .inl (cy 0, 5, .inl (fun _ => 0))), (t 3, .inl (cy 0, 5, .inl (fun _ => 0)))] H := hP
  have hD : va_D A [(q 0, .inr (2, fLadies q)), (q 1, .inl (cy 0, 5, .inl (va_cpy (fun _ => 0) (fun _ => 0) (0 : Int32).toNatClampNeg (0 : Int32).toNatClampNeg (5 : Int32).toNatClampNeg))), (q 2, .inl (cy 0, 5, .inl (va_cpy (fun _ => 0) (fun _ => 0) (0 : Int32).toNatClampNeg (0 : Int32).toNatClampNeg (5 : Int32).toNatClampNeg))), (q 3, .inl (cy 0, 5, .inl (va_cpy (fun _ => 0) (fun _ => 0) (0 : Int32).toNatClampNeg (0 : Int32).toNatClampNeg (5 : Int32).toNatClampNeg))), (t 0, .inr (2, fLadies t)), (t 1, .inl (cy 0, 5, .inl (fun _ => 0))), (t 2, .inl (cy 0, 5, .inl (fun _ => 0))), (t 3, .inl (cy 0, 5, .inl (fun _ => 0)))] := hD
  refine lv_aload_n hx hb dd_X2_become_42 rfl (lv_at hl 0 rfl) ?_
  refine lv_aload_n hx hb dd_X2_become_43 rfl (lv_at hl 1 rfl) ?_
  refine wk_get (v := .int 0) Sx ef_2 hK hP 4 rfl rfl 3 (by decide) kk_123 rfl dd_X2_become_44 ?_
  refine wk_put (ws' := [(q 0, .inr (2, fLadies q)), (q 1, .inl (cy 0, 5, .inl (va_cpy (fun _ => 0) (fun _ => 0) (0 : Int32).toNatClampNeg (0 : Int32).toNatClampNeg (5 : Int32).toNatClampNeg))), (q 2, .inl (cy 0, 5, .inl (va_cpy (fun _ => 0) (fun _ => 0) (0 : Int32).toNatClampNeg (0 : Int32).toNatClampNeg (5 : Int32).toNatClampNeg))), (q 3, .inl (cy 0, 5, .inl (va_cpy (fun _ => 0) (fun _ => 0) (0 : Int32).toNatClampNeg (0 : Int32).toNatClampNeg (5 : Int32).toNatClampNeg))), (t 0, .inr (2, fLadies t)), (t 1, .inl (cy 0, 5, .inl (fun _ => 0))), (t 2, .inl (cy 0, 5, .inl (fun _ => 0))), (t 3, .inl (cy 0, 5, .inl (fun _ => 0)))]) Sx ef_2 hK hP hD hS 0 rfl rfl 3 (by decide) kk_123 rfl rfl rfl (Nat.le_of_ble_eq_true rfl) dd_X2_become_47 rfl (fun H locs hP hD hS => ?_)
  exact hc_vret Sx hr hlocks dd_X2_become_50 hS () trivial p_nil d_nil
set_option maxHeartbeats 4000000 in
set_option maxRecDepth 100000 in
theorem c_Laws_become (l : Launch) (D : va_G) (cy : Nat → ClassId) (q : Nat → Nat) (t : Nat → Nat) : HC l my_X3_become mb_X3_become 2 ((none : Option Jvm.ClassFile.FieldType)) (rmD 1 0 0) D (TY cy) [.ref (q 0), .ref (t 0)] NX [(q 0, .inr (3, fLaws q)), (q 1, .inl (cy 0, 30, .inl (fun _ => 0))), (q 2, .inl (cy 0, 5, .inl (fun _ => 0))), (t 0, .inr (3, fLaws t)), (t 1, .inl (cy 0, 30, .inl (fun _ => 0))), (t 2, .inl (cy 0, 5, .inl (fun _ => 0)))] (QV (S := Unit) D (fun _ => True) (fun _ => [])) := by
  refine hc_intro (by decide) (Nat.le_of_ble_eq_true rfl) (fun p e s m below meth c A ls Sx hr hlocks hin hl hP hD hK hS hA hX => ?_)
  have hx := Sx.1
  have hb := Sx.2.1
  have hl : lv_has ls 2 [(0, .ref (q 0)), (1, .ref (t 0))] := hl
  have hP : va_P D cls [(q 0, .inr (3, fLaws q)), (q 1, .inl (cy 0, 30, .inl (fun _ => 0))), (q 2, .inl (cy 0, 5, .inl (fun _ => 0))), (t 0, .inr (3, fLaws t)), (t 1, .inl (cy 0, 30, .inl (fun _ => 0))), (t 2, .inl (cy 0, 5, .inl (fun _ => 0)))] s.heap := hP
  have hD : va_D A [(q 0, .inr (3, fLaws q)), (q 1, .inl (cy 0, 30, .inl (fun _ => 0))), (q 2, .inl (cy 0, 5, .inl (fun _ => 0))), (t 0, .inr (3, fLaws t)), (t 1, .inl (cy 0, 30, .inl (fun _ => 0))), (t 2, .inl (cy 0, 5, .inl (fun _ => 0)))] := hD
  refine lv_aload_n hx hb dd_X3_become_0 rfl (lv_at hl 1 rfl) ?_
  refine wk_get (v := .ref (t 1)) Sx ef_3 hK hP 3 rfl rfl 0 (by decide) kk_141 rfl dd_X3_become_1 ?_
  refine lv_iconst (v := 0) hx hb dd_X3_become_4 (by decide) ?_
  refine lv_aload_n hx hb dd_X3_become_5 rfl (lv_at hl 0 rfl) ?_
  refine wk_get (v := .ref (q 1)) Sx ef_3 hK hP 0 rfl rfl 0 (by decide) kk_141 rfl dd_X3_become_6 ?_
  refine lv_iconst (v := 0) hx hb dd_X3_become_9 (by decide) ?_
  refine lv_aload_n hx hb dd_X3_become_10 rfl (lv_at hl 0 rfl) ?_
  refine wk_get (v := .ref (q 1)) Sx ef_3 hK hP 0 rfl rfl 0 (by decide) kk_141 rfl dd_X3_become_11 ?_
  refine va_alen (v := 30) hx hb hK hP 1 0 rfl rfl rfl dd_X3_become_14 ?_
  refine va_copyi (ty := .int) hx hb (Sx.2.2.1.trans hl.1.symm) Sx.2.2.2.1 (Sx.2.2.2.2 _ kk_612) (Sx.2.2.2.2 _ kk_468) (Sx.2.2.2.2 _ kk_467) (Sx.2.2.2.2 _ kk_15) hK hP hD hS 4 1 0 0 rfl rfl rfl rfl rfl (by decide) (by decide) (by decide) (Nat.le_of_ble_eq_true rfl) (Nat.le_of_ble_eq_true rfl) (fun _ _ => rfl) (Nat.le_of_ble_eq_true rfl) (Nat.le_of_ble_eq_true rfl) dd_X3_become_15 (fun H locs hP hD hS => ?_)
  have hP : va_P D cls [(q 0, .inr (3, fLaws q)), (q 1, .inl (cy 0, 30, .inl (va_cpy (fun _ => 0) (fun _ => 0) (0 : Int32).toNatClampNeg (0 : Int32).toNatClampNeg (30 : Int32).toNatClampNeg))), (q 2, .inl (cy 0, 5, .inl (fun _ => 0))), (t 0, .inr (3, fLaws t)), (t 1, .inl (cy 0, 30, .inl (fun _ => 0))), (t 2, .inl (cy 0, 5, .inl (fun _ => 0)))] H := hP
  have hD : va_D A [(q 0, .inr (3, fLaws q)), (q 1, .inl (cy 0, 30, .inl (va_cpy (fun _ => 0) (fun _ => 0) (0 : Int32).toNatClampNeg (0 : Int32).toNatClampNeg (30 : Int32).toNatClampNeg))), (q 2, .inl (cy 0, 5, .inl (fun _ => 0))), (t 0, .inr (3, fLaws t)), (t 1, .inl (cy 0, 30, .inl (fun _ => 0))), (t 2, .inl (cy 0, 5, .inl (fun _ => 0)))] := hD
  refine lv_aload_n hx hb dd_X3_become_18 rfl (lv_at hl 0 rfl) ?_
  refine lv_aload_n hx hb dd_X3_become_19 rfl (lv_at hl 1 rfl) ?_
  refine wk_get (v := .int 0) Sx ef_3 hK hP 3 rfl rfl 2 (by decide) kk_144 rfl dd_X3_become_20 ?_
  refine wk_put (ws' := [(q 0, .inr (3, fLaws q)), (q 1, .inl (cy 0, 30, .inl (va_cpy (fun _ => 0) (fun _ => 0) (0 : Int32).toNatClampNeg (0 : Int32).toNatClampNeg (30 : Int32).toNatClampNeg))), (q 2, .inl (cy 0, 5, .inl (fun _ => 0))), (t 0, .inr (3, fLaws t)), (t 1, .inl (cy 0, 30, .inl (fun _ => 0))), (t 2, .inl (cy 0, 5, .inl (fun _ => 0)))]) Sx ef_3 hK hP hD hS 0 rfl rfl 2 (by decide) kk_144 rfl rfl rfl (Nat.le_of_ble_eq_true rfl) dd_X3_become_23 rfl (fun H locs hP hD hS => ?_)
  exact hc_vret Sx hr hlocks dd_X3_become_26 hS () trivial p_nil d_nil
set_option maxHeartbeats 4000000 in
set_option maxRecDepth 100000 in
theorem c_Buyers_become (l : Launch) (D : va_G) (cy : Nat → ClassId) (q : Nat → Nat) (t : Nat → Nat) : HC l my_X0_become mb_X0_become 2 ((none : Option Jvm.ClassFile.FieldType)) (rmD 1 0 0) D (TY cy) [.ref (q 0), .ref (t 0)] NX [(q 0, .inr (0, fBuyers q)), (q 1, .inl (cy 0, 12, .inl (fun _ => 0))), (q 2, .inl (cy 0, 12, .inl (fun _ => 0))), (q 3, .inl (cy 0, 12, .inl (fun _ => 0))), (q 4, .inl (cy 0, 12, .inl (fun _ => 0))), (q 5, .inl (cy 0, 12, .inl (fun _ => 0))), (t 0, .inr (0, fBuyers t)), (t 1, .inl (cy 0, 12, .inl (fun _ => 0))), (t 2, .inl (cy 0, 12, .inl (fun _ => 0))), (t 3, .inl (cy 0, 12, .inl (fun _ => 0))), (t 4, .inl (cy 0, 12, .inl (fun _ => 0))), (t 5, .inl (cy 0, 12, .inl (fun _ => 0)))] (QV (S := Unit) D (fun _ => True) (fun _ => [])) := by
  refine hc_intro (by decide) (Nat.le_of_ble_eq_true rfl) (fun p e s m below meth c A ls Sx hr hlocks hin hl hP hD hK hS hA hX => ?_)
  have hx := Sx.1
  have hb := Sx.2.1
  have hl : lv_has ls 2 [(0, .ref (q 0)), (1, .ref (t 0))] := hl
  have hP : va_P D cls [(q 0, .inr (0, fBuyers q)), (q 1, .inl (cy 0, 12, .inl (fun _ => 0))), (q 2, .inl (cy 0, 12, .inl (fun _ => 0))), (q 3, .inl (cy 0, 12, .inl (fun _ => 0))), (q 4, .inl (cy 0, 12, .inl (fun _ => 0))), (q 5, .inl (cy 0, 12, .inl (fun _ => 0))), (t 0, .inr (0, fBuyers t)), (t 1, .inl (cy 0, 12, .inl (fun _ => 0))), (t 2, .inl (cy 0, 12, .inl (fun _ => 0))), (t 3, .inl (cy 0, 12, .inl (fun _ => 0))), (t 4, .inl (cy 0, 12, .inl (fun _ => 0))), (t 5, .inl (cy 0, 12, .inl (fun _ => 0)))] s.heap := hP
  have hD : va_D A [(q 0, .inr (0, fBuyers q)), (q 1, .inl (cy 0, 12, .inl (fun _ => 0))), (q 2, .inl (cy 0, 12, .inl (fun _ => 0))), (q 3, .inl (cy 0, 12, .inl (fun _ => 0))), (q 4, .inl (cy 0, 12, .inl (fun _ => 0))), (q 5, .inl (cy 0, 12, .inl (fun _ => 0))), (t 0, .inr (0, fBuyers t)), (t 1, .inl (cy 0, 12, .inl (fun _ => 0))), (t 2, .inl (cy 0, 12, .inl (fun _ => 0))), (t 3, .inl (cy 0, 12, .inl (fun _ => 0))), (t 4, .inl (cy 0, 12, .inl (fun _ => 0))), (t 5, .inl (cy 0, 12, .inl (fun _ => 0)))] := hD
  refine lv_aload_n hx hb dd_X0_become_0 rfl (lv_at hl 1 rfl) ?_
  refine wk_get (v := .ref (t 1)) Sx ef_0 hK hP 6 rfl rfl 0 (by decide) kk_159 rfl dd_X0_become_1 ?_
  refine lv_iconst (v := 0) hx hb dd_X0_become_4 (by decide) ?_
  refine lv_aload_n hx hb dd_X0_become_5 rfl (lv_at hl 0 rfl) ?_
  refine wk_get (v := .ref (q 1)) Sx ef_0 hK hP 0 rfl rfl 0 (by decide) kk_159 rfl dd_X0_become_6 ?_
  refine lv_iconst (v := 0) hx hb dd_X0_become_9 (by decide) ?_
  refine lv_bipush (v := 12) hx hb dd_X0_become_10 (by decide) ?_
  refine va_copyi (ty := .int) hx hb (Sx.2.2.1.trans hl.1.symm) Sx.2.2.2.1 (Sx.2.2.2.2 _ kk_1071) (Sx.2.2.2.2 _ kk_468) (Sx.2.2.2.2 _ kk_467) (Sx.2.2.2.2 _ kk_15) hK hP hD hS 7 1 0 0 rfl rfl rfl rfl rfl (by decide) (by decide) (by decide) (Nat.le_of_ble_eq_true rfl) (Nat.le_of_ble_eq_true rfl) (fun _ _ => rfl) (Nat.le_of_ble_eq_true rfl) (Nat.le_of_ble_eq_true rfl) dd_X0_become_12 (fun H locs hP hD hS => ?_)
  have hP : va_P D cls [(q 0, .inr (0, fBuyers q)), (q 1, .inl (cy 0, 12, .inl (va_cpy (fun _ => 0) (fun _ => 0) (0 : Int32).toNatClampNeg (0 : Int32).toNatClampNeg (12 : Int32).toNatClampNeg))), (q 2, .inl (cy 0, 12, .inl (fun _ => 0))), (q 3, .inl (cy 0, 12, .inl (fun _ => 0))), (q 4, .inl (cy 0, 12, .inl (fun _ => 0))), (q 5, .inl (cy 0, 12, .inl (fun _ => 0))), (t 0, .inr (0, fBuyers t)), (t 1, .inl (cy 0, 12, .inl (fun _ => 0))), (t 2, .inl (cy 0, 12, .inl (fun _ => 0))), (t 3, .inl (cy 0, 12, .inl (fun _ => 0))), (t 4, .inl (cy 0, 12, .inl (fun _ => 0))), (t 5, .inl (cy 0, 12, .inl (fun _ => 0)))] H := hP
  have hD : va_D A [(q 0, .inr (0, fBuyers q)), (q 1, .inl (cy 0, 12, .inl (va_cpy (fun _ => 0) (fun _ => 0) (0 : Int32).toNatClampNeg (0 : Int32).toNatClampNeg (12 : Int32).toNatClampNeg))), (q 2, .inl (cy 0, 12, .inl (fun _ => 0))), (q 3, .inl (cy 0, 12, .inl (fun _ => 0))), (q 4, .inl (cy 0, 12, .inl (fun _ => 0))), (q 5, .inl (cy 0, 12, .inl (fun _ => 0))), (t 0, .inr (0, fBuyers t)), (t 1, .inl (cy 0, 12, .inl (fun _ => 0))), (t 2, .inl (cy 0, 12, .inl (fun _ => 0))), (t 3, .inl (cy 0, 12, .inl (fun _ => 0))), (t 4, .inl (cy 0, 12, .inl (fun _ => 0))), (t 5, .inl (cy 0, 12, .inl (fun _ => 0)))] := hD
  refine lv_aload_n hx hb dd_X0_become_15 rfl (lv_at hl 1 rfl) ?_
  refine wk_get (v := .ref (t 2)) Sx ef_0 hK hP 6 rfl rfl 1 (by decide) kk_162 rfl dd_X0_become_16 ?_
  refine lv_iconst (v := 0) hx hb dd_X0_become_19 (by decide) ?_
  refine lv_aload_n hx hb dd_X0_become_20 rfl (lv_at hl 0 rfl) ?_
  refine wk_get (v := .ref (q 2)) Sx ef_0 hK hP 0 rfl rfl 1 (by decide) kk_162 rfl dd_X0_become_21 ?_
  refine lv_iconst (v := 0) hx hb dd_X0_become_24 (by decide) ?_
  refine lv_bipush (v := 12) hx hb dd_X0_become_25 (by decide) ?_
  refine va_copyi (ty := .int) hx hb (Sx.2.2.1.trans hl.1.symm) Sx.2.2.2.1 (Sx.2.2.2.2 _ kk_1071) (Sx.2.2.2.2 _ kk_468) (Sx.2.2.2.2 _ kk_467) (Sx.2.2.2.2 _ kk_15) hK hP hD hS 8 2 0 0 rfl rfl rfl rfl rfl (by decide) (by decide) (by decide) (Nat.le_of_ble_eq_true rfl) (Nat.le_of_ble_eq_true rfl) (fun _ _ => rfl) (Nat.le_of_ble_eq_true rfl) (Nat.le_of_ble_eq_true rfl) dd_X0_become_27 (fun H locs hP hD hS => ?_)
  have hP : va_P D cls [(q 0, .inr (0, fBuyers q)), (q 1, .inl (cy 0, 12, .inl (va_cpy (fun _ => 0) (fun _ => 0) (0 : Int32).toNatClampNeg (0 : Int32).toNatClampNeg (12 : Int32).toNatClampNeg))), (q 2, .inl (cy 0, 12, .inl (va_cpy (fun _ => 0) (fun _ => 0) (0 : Int32).toNatClampNeg (0 : Int32).toNatClampNeg (12 : Int32).toNatClampNeg))), (q 3, .inl (cy 0, 12, .inl (fun _ => 0))), (q 4, .inl (cy 0, 12, .inl (fun _ => 0))), (q 5, .inl (cy 0, 12, .inl (fun _ => 0))), (t 0, .inr (0, fBuyers t)), (t 1, .inl (cy 0, 12, .inl (fun _ => 0))), (t 2, .inl (cy 0, 12, .inl (fun _ => 0))), (t 3, .inl (cy 0, 12, .inl (fun _ => 0))), (t 4, .inl (cy 0, 12, .inl (fun _ => 0))), (t 5, .inl (cy 0, 12, .inl (fun _ => 0)))] H := hP
  have hD : va_D A [(q 0, .inr (0, fBuyers q)), (q 1, .inl (cy 0, 12, .inl (va_cpy (fun _ => 0) (fun _ => 0) (0 : Int32).toNatClampNeg (0 : Int32).toNatClampNeg (12 : Int32).toNatClampNeg))), (q 2, .inl (cy 0, 12, .inl (va_cpy (fun _ => 0) (fun _ => 0) (0 : Int32).toNatClampNeg (0 : Int32).toNatClampNeg (12 : Int32).toNatClampNeg))), (q 3, .inl (cy 0, 12, .inl (fun _ => 0))), (q 4, .inl (cy 0, 12, .inl (fun _ => 0))), (q 5, .inl (cy 0, 12, .inl (fun _ => 0))), (t 0, .inr (0, fBuyers t)), (t 1, .inl (cy 0, 12, .inl (fun _ => 0))), (t 2, .inl (cy 0, 12, .inl (fun _ => 0))), (t 3, .inl (cy 0, 12, .inl (fun _ => 0))), (t 4, .inl (cy 0, 12, .inl (fun _ => 0))), (t 5, .inl (cy 0, 12, .inl (fun _ => 0)))] := hD
  refine lv_aload_n hx hb dd_X0_become_30 rfl (lv_at hl 1 rfl) ?_
  refine wk_get (v := .ref (t 3)) Sx ef_0 hK hP 6 rfl rfl 2 (by decide) kk_165 rfl dd_X0_become_31 ?_
  refine lv_iconst (v := 0) hx hb dd_X0_become_34 (by decide) ?_
  refine lv_aload_n hx hb dd_X0_become_35 rfl (lv_at hl 0 rfl) ?_
  refine wk_get (v := .ref (q 3)) Sx ef_0 hK hP 0 rfl rfl 2 (by decide) kk_165 rfl dd_X0_become_36 ?_
  refine lv_iconst (v := 0) hx hb dd_X0_become_39 (by decide) ?_
  refine lv_bipush (v := 12) hx hb dd_X0_become_40 (by decide) ?_
  refine va_copyi (ty := .int) hx hb (Sx.2.2.1.trans hl.1.symm) Sx.2.2.2.1 (Sx.2.2.2.2 _ kk_1071) (Sx.2.2.2.2 _ kk_468) (Sx.2.2.2.2 _ kk_467) (Sx.2.2.2.2 _ kk_15) hK hP hD hS 9 3 0 0 rfl rfl rfl rfl rfl (by decide) (by decide) (by decide) (Nat.le_of_ble_eq_true rfl) (Nat.le_of_ble_eq_true rfl) (fun _ _ => rfl) (Nat.le_of_ble_eq_true rfl) (Nat.le_of_ble_eq_true rfl) dd_X0_become_42 (fun H locs hP hD hS => ?_)
  have hP : va_P D cls [(q 0, .inr (0, fBuyers q)), (q 1, .inl (cy 0, 12, .inl (va_cpy (fun _ => 0) (fun _ => 0) (0 : Int32).toNatClampNeg (0 : Int32).toNatClampNeg (12 : Int32).toNatClampNeg))), (q 2, .inl (cy 0, 12, .inl (va_cpy (fun _ => 0) (fun _ => 0) (0 : Int32).toNatClampNeg (0 : Int32).toNatClampNeg (12 : Int32).toNatClampNeg))), (q 3, .inl (cy 0, 12, .inl (va_cpy (fun _ => 0) (fun _ => 0) (0 : Int32).toNatClampNeg (0 : Int32).toNatClampNeg (12 : Int32).toNatClampNeg))), (q 4, .inl (cy 0, 12, .inl (fun _ => 0))), (q 5, .inl (cy 0, 12, .inl (fun _ => 0))), (t 0, .inr (0, fBuyers t)), (t 1, .inl (cy 0, 12, .inl (fun _ => 0))), (t 2, .inl (cy 0, 12, .inl (fun _ => 0))), (t 3, .inl (cy 0, 12, .inl (fun _ => 0))), (t 4, .inl (cy 0, 12, .inl (fun _ => 0))), (t 5, .inl (cy 0, 12, .inl (fun _ => 0)))] H := hP
  have hD : va_D A [(q 0, .inr (0, fBuyers q)), (q 1, .inl (cy 0, 12, .inl (va_cpy (fun _ => 0) (fun _ => 0) (0 : Int32).toNatClampNeg (0 : Int32).toNatClampNeg (12 : Int32).toNatClampNeg))), (q 2, .inl (cy 0, 12, .inl (va_cpy (fun _ => 0) (fun _ => 0) (0 : Int32).toNatClampNeg (0 : Int32).toNatClampNeg (12 : Int32).toNatClampNeg))), (q 3, .inl (cy 0, 12, .inl (va_cpy (fun _ => 0) (fun _ => 0) (0 : Int32).toNatClampNeg (0 : Int32).toNatClampNeg (12 : Int32).toNatClampNeg))), (q 4, .inl (cy 0, 12, .inl (fun _ => 0))), (q 5, .inl (cy 0, 12, .inl (fun _ => 0))), (t 0, .inr (0, fBuyers t)), (t 1, .inl (cy 0, 12, .inl (fun _ => 0))), (t 2, .inl (cy 0, 12, .inl (fun _ => 0))), (t 3, .inl (cy 0, 12, .inl (fun _ => 0))), (t 4, .inl (cy 0, 12, .inl (fun _ => 0))), (t 5, .inl (cy 0, 12, .inl (fun _ => 0)))] := hD
  refine lv_aload_n hx hb dd_X0_become_45 rfl (lv_at hl 1 rfl) ?_
  refine wk_get (v := .ref (t 4)) Sx ef_0 hK hP 6 rfl rfl 3 (by decide) kk_168 rfl dd_X0_become_46 ?_
  refine lv_iconst (v := 0) hx hb dd_X0_become_49 (by decide) ?_
  refine lv_aload_n hx hb dd_X0_become_50 rfl (lv_at hl 0 rfl) ?_
  refine wk_get (v := .ref (q 4)) Sx ef_0 hK hP 0 rfl rfl 3 (by decide) kk_168 rfl dd_X0_become_51 ?_
  refine lv_iconst (v := 0) hx hb dd_X0_become_54 (by decide) ?_
  refine lv_bipush (v := 12) hx hb dd_X0_become_55 (by decide) ?_
  refine va_copyi (ty := .int) hx hb (Sx.2.2.1.trans hl.1.symm) Sx.2.2.2.1 (Sx.2.2.2.2 _ kk_1071) (Sx.2.2.2.2 _ kk_468) (Sx.2.2.2.2 _ kk_467) (Sx.2.2.2.2 _ kk_15) hK hP hD hS 10 4 0 0 rfl rfl rfl rfl rfl (by decide) (by decide) (by decide) (Nat.le_of_ble_eq_true rfl) (Nat.le_of_ble_eq_true rfl) (fun _ _ => rfl) (Nat.le_of_ble_eq_true rfl) (Nat.le_of_ble_eq_true rfl) dd_X0_become_57 (fun H locs hP hD hS => ?_)
  have hP : va_P D cls [(q 0, .inr (0, fBuyers q)), (q 1, .inl (cy 0, 12, .inl (va_cpy (fun _ => 0) (fun _ => 0) (0 : Int32).toNatClampNeg (0 : Int32).toNatClampNeg (12 : Int32).toNatClampNeg))), (q 2, .inl (cy 0, 12, .inl (va_cpy (fun _ => 0) (fun _ => 0) (0 : Int32).toNatClampNeg (0 : Int32).toNatClampNeg (12 : Int32).toNatClampNeg))), (q 3, .inl (cy 0, 12, .inl (va_cpy (fun _ => 0) (fun _ => 0) (0 : Int32).toNatClampNeg (0 : Int32).toNatClampNeg (12 : Int32).toNatClampNeg))), (q 4, .inl (cy 0, 12, .inl (va_cpy (fun _ => 0) (fun _ => 0) (0 : Int32).toNatClampNeg (0 : Int32).toNatClampNeg (12 : Int32).toNatClampNeg))), (q 5, .inl (cy 0, 12, .inl (fun _ => 0))), (t 0, .inr (0, fBuyers t)), (t 1, .inl (cy 0, 12, .inl (fun _ => 0))), (t 2, .inl (cy 0, 12, .inl (fun _ => 0))), (t 3, .inl (cy 0, 12, .inl (fun _ => 0))), (t 4, .inl (cy 0, 12, .inl (fun _ => 0))), (t 5, .inl (cy 0, 12, .inl (fun _ => 0)))] H := hP
  have hD : va_D A [(q 0, .inr (0, fBuyers q)), (q 1, .inl (cy 0, 12, .inl (va_cpy (fun _ => 0) (fun _ => 0) (0 : Int32).toNatClampNeg (0 : Int32).toNatClampNeg (12 : Int32).toNatClampNeg))), (q 2, .inl (cy 0, 12, .inl (va_cpy (fun _ => 0) (fun _ => 0) (0 : Int32).toNatClampNeg (0 : Int32).toNatClampNeg (12 : Int32).toNatClampNeg))), (q 3, .inl (cy 0, 12, .inl (va_cpy (fun _ => 0) (fun _ => 0) (0 : Int32).toNatClampNeg (0 : Int32).toNatClampNeg (12 : Int32).toNatClampNeg))), (q 4, .inl (cy 0, 12, .inl (va_cpy (fun _ => 0) (fun _ => 0) (0 : Int32).toNatClampNeg (0 : Int32).toNatClampNeg (12 : Int32).toNatClampNeg))), (q 5, .inl (cy 0, 12, .inl (fun _ => 0))), (t 0, .inr (0, fBuyers t)), (t 1, .inl (cy 0, 12, .inl (fun _ => 0))), (t 2, .inl (cy 0, 12, .inl (fun _ => 0))), (t 3, .inl (cy 0, 12, .inl (fun _ => 0))), (t 4, .inl (cy 0, 12, .inl (fun _ => 0))), (t 5, .inl (cy 0, 12, .inl (fun _ => 0)))] := hD
  refine lv_aload_n hx hb dd_X0_become_60 rfl (lv_at hl 1 rfl) ?_
  refine wk_get (v := .ref (t 5)) Sx ef_0 hK hP 6 rfl rfl 4 (by decide) kk_171 rfl dd_X0_become_61 ?_
  refine lv_iconst (v := 0) hx hb dd_X0_become_64 (by decide) ?_
  refine lv_aload_n hx hb dd_X0_become_65 rfl (lv_at hl 0 rfl) ?_
  refine wk_get (v := .ref (q 5)) Sx ef_0 hK hP 0 rfl rfl 4 (by decide) kk_171 rfl dd_X0_become_66 ?_
  refine lv_iconst (v := 0) hx hb dd_X0_become_69 (by decide) ?_
  refine lv_bipush (v := 12) hx hb dd_X0_become_70 (by decide) ?_
  refine va_copyi (ty := .int) hx hb (Sx.2.2.1.trans hl.1.symm) Sx.2.2.2.1 (Sx.2.2.2.2 _ kk_1071) (Sx.2.2.2.2 _ kk_468) (Sx.2.2.2.2 _ kk_467) (Sx.2.2.2.2 _ kk_15) hK hP hD hS 11 5 0 0 rfl rfl rfl rfl rfl (by decide) (by decide) (by decide) (Nat.le_of_ble_eq_true rfl) (Nat.le_of_ble_eq_true rfl) (fun _ _ => rfl) (Nat.le_of_ble_eq_true rfl) (Nat.le_of_ble_eq_true rfl) dd_X0_become_72 (fun H locs hP hD hS => ?_)
  have hP : va_P D cls [(q 0, .inr (0, fBuyers q)), (q 1, .inl (cy 0, 12, .inl (va_cpy (fun _ => 0) (fun _ => 0) (0 : Int32).toNatClampNeg (0 : Int32).toNatClampNeg (12 : Int32).toNatClampNeg))), (q 2, .inl (cy 0, 12, .inl (va_cpy (fun _ => 0) (fun _ => 0) (0 : Int32).toNatClampNeg (0 : Int32).toNatClampNeg (12 : Int32).toNatClampNeg))), (q 3, .inl (cy 0, 12, .inl (va_cpy (fun _ => 0) (fun _ => 0) (0 : Int32).toNatClampNeg (0 : Int32).toNatClampNeg (12 : Int32).toNatClampNeg))), (q 4, .inl (cy 0, 12, .inl (va_cpy (fun _ => 0) (fun _ => 0) (0 : Int32).toNatClampNeg (0 : Int32).toNatClampNeg (12 : Int32).toNatClampNeg))), (q 5, .inl (cy 0, 12, .inl (va_cpy (fun _ => 0) (fun _ => 0) (0 : Int32).toNatClampNeg (0 : Int32).toNatClampNeg (12 : Int32).toNatClampNeg))), (t 0, .inr (0, fBuyers t)), (t 1, .inl (cy 0, 12, .inl (fun _ => 0))), (t 2, .inl (cy 0, 12, .inl (fun _ => 0))), (t 3, .inl (cy 0, 12, .inl (fun _ => 0))), (t 4, .inl (cy 0, 12, .inl (fun _ => 0))), (t 5, .inl (cy 0, 12, .inl (fun _ => 0)))] H := hP
  have hD : va_D A [(q 0, .inr (0, fBuyers q)), (q 1, .inl (cy 0, 12, .inl (va_cpy (fun _ => 0) (fun _ => 0) (0 : Int32).toNatClampNeg (0 : Int32).toNatClampNeg (12 : Int32).toNatClampNeg))), (q 2, .inl (cy 0, 12, .inl (va_cpy (fun _ => 0) (fun _ => 0) (0 : Int32).toNatClampNeg (0 : Int32).toNatClampNeg (12 : Int32).toNatClampNeg))), (q 3, .inl (cy 0, 12, .inl (va_cpy (fun _ => 0) (fun _ => 0) (0 : Int32).toNatClampNeg (0 : Int32).toNatClampNeg (12 : Int32).toNatClampNeg))), (q 4, .inl (cy 0, 12, .inl (va_cpy (fun _ => 0) (fun _ => 0) (0 : Int32).toNatClampNeg (0 : Int32).toNatClampNeg (12 : Int32).toNatClampNeg))), (q 5, .inl (cy 0, 12, .inl (va_cpy (fun _ => 0) (fun _ => 0) (0 : Int32).toNatClampNeg (0 : Int32).toNatClampNeg (12 : Int32).toNatClampNeg))), (t 0, .inr (0, fBuyers t)), (t 1, .inl (cy 0, 12, .inl (fun _ => 0))), (t 2, .inl (cy 0, 12, .inl (fun _ => 0))), (t 3, .inl (cy 0, 12, .inl (fun _ => 0))), (t 4, .inl (cy 0, 12, .inl (fun _ => 0))), (t 5, .inl (cy 0, 12, .inl (fun _ => 0)))] := hD
  refine lv_aload_n hx hb dd_X0_become_75 rfl (lv_at hl 0 rfl) ?_
  refine lv_aload_n hx hb dd_X0_become_76 rfl (lv_at hl 1 rfl) ?_
  refine wk_get (v := .int 0) Sx ef_0 hK hP 6 rfl rfl 5 (by decide) kk_174 rfl dd_X0_become_77 ?_
  refine wk_put (ws' := [(q 0, .inr (0, fBuyers q)), (q 1, .inl (cy 0, 12, .inl (va_cpy (fun _ => 0) (fun _ => 0) (0 : Int32).toNatClampNeg (0 : Int32).toNatClampNeg (12 : Int32).toNatClampNeg))), (q 2, .inl (cy 0, 12, .inl (va_cpy (fun _ => 0) (fun _ => 0) (0 : Int32).toNatClampNeg (0 : Int32).toNatClampNeg (12 : Int32).toNatClampNeg))), (q 3, .inl (cy 0, 12, .inl (va_cpy (fun _ => 0) (fun _ => 0) (0 : Int32).toNatClampNeg (0 : Int32).toNatClampNeg (12 : Int32).toNatClampNeg))), (q 4, .inl (cy 0, 12, .inl (va_cpy (fun _ => 0) (fun _ => 0) (0 : Int32).toNatClampNeg (0 : Int32).toNatClampNeg (12 : Int32).toNatClampNeg))), (q 5, .inl (cy 0, 12, .inl (va_cpy (fun _ => 0) (fun _ => 0) (0 : Int32).toNatClampNeg (0 : Int32).toNatClampNeg (12 : Int32).toNatClampNeg))), (t 0, .inr (0, fBuyers t)), (t 1, .inl (cy 0, 12, .inl (fun _ => 0))), (t 2, .inl (cy 0, 12, .inl (fun _ => 0))), (t 3, .inl (cy 0, 12, .inl (fun _ => 0))), (t 4, .inl (cy 0, 12, .inl (fun _ => 0))), (t 5, .inl (cy 0, 12, .inl (fun _ => 0)))]) Sx ef_0 hK hP hD hS 0 rfl rfl 5 (by decide) kk_174 rfl rfl rfl (Nat.le_of_ble_eq_true rfl) dd_X0_become_80 rfl (fun H locs hP hD hS => ?_)
  exact hc_vret Sx hr hlocks dd_X0_become_83 hS () trivial p_nil d_nil
set_option maxHeartbeats 4000000 in
set_option maxRecDepth 100000 in
theorem c_Sightings_become (l : Launch) (D : va_G) (cy : Nat → ClassId) (q : Nat → Nat) (t : Nat → Nat) : HC l my_X8_become mb_X8_become 2 ((none : Option Jvm.ClassFile.FieldType)) (rmD 1 0 0) D (TY cy) [.ref (q 0), .ref (t 0)] NX [(q 0, .inr (8, fSightings q)), (q 1, .inl (cy 0, 20, .inl (fun _ => 0))), (q 2, .inl (cy 0, 20, .inl (fun _ => 0))), (q 3, .inl (cy 0, 20, .inl (fun _ => 0))), (q 4, .inl (cy 0, 20, .inl (fun _ => 0))), (q 5, .inl (cy 0, 20, .inl (fun _ => 0))), (q 6, .inl (cy 0, 20, .inl (fun _ => 0))), (q 7, .inl (cy 0, 20, .inl (fun _ => 0))), (t 0, .inr (8, fSightings t)), (t 1, .inl (cy 0, 20, .inl (fun _ => 0))), (t 2, .inl (cy 0, 20, .inl (fun _ => 0))), (t 3, .inl (cy 0, 20, .inl (fun _ => 0))), (t 4, .inl (cy 0, 20, .inl (fun _ => 0))), (t 5, .inl (cy 0, 20, .inl (fun _ => 0))), (t 6, .inl (cy 0, 20, .inl (fun _ => 0))), (t 7, .inl (cy 0, 20, .inl (fun _ => 0)))] (QV (S := Unit) D (fun _ => True) (fun _ => [])) := by
  refine hc_intro (by decide) (Nat.le_of_ble_eq_true rfl) (fun p e s m below meth c A ls Sx hr hlocks hin hl hP hD hK hS hA hX => ?_)
  have hx := Sx.1
  have hb := Sx.2.1
  have hl : lv_has ls 2 [(0, .ref (q 0)), (1, .ref (t 0))] := hl
  have hP : va_P D cls [(q 0, .inr (8, fSightings q)), (q 1, .inl (cy 0, 20, .inl (fun _ => 0))), (q 2, .inl (cy 0, 20, .inl (fun _ => 0))), (q 3, .inl (cy 0, 20, .inl (fun _ => 0))), (q 4, .inl (cy 0, 20, .inl (fun _ => 0))), (q 5, .inl (cy 0, 20, .inl (fun _ => 0))), (q 6, .inl (cy 0, 20, .inl (fun _ => 0))), (q 7, .inl (cy 0, 20, .inl (fun _ => 0))), (t 0, .inr (8, fSightings t)), (t 1, .inl (cy 0, 20, .inl (fun _ => 0))), (t 2, .inl (cy 0, 20, .inl (fun _ => 0))), (t 3, .inl (cy 0, 20, .inl (fun _ => 0))), (t 4, .inl (cy 0, 20, .inl (fun _ => 0))), (t 5, .inl (cy 0, 20, .inl (fun _ => 0))), (t 6, .inl (cy 0, 20, .inl (fun _ => 0))), (t 7, .inl (cy 0, 20, .inl (fun _ => 0)))] s.heap := hP
  have hD : va_D A [(q 0, .inr (8, fSightings q)), (q 1, .inl (cy 0, 20, .inl (fun _ => 0))), (q 2, .inl (cy 0, 20, .inl (fun _ => 0))), (q 3, .inl (cy 0, 20, .inl (fun _ => 0))), (q 4, .inl (cy 0, 20, .inl (fun _ => 0))), (q 5, .inl (cy 0, 20, .inl (fun _ => 0))), (q 6, .inl (cy 0, 20, .inl (fun _ => 0))), (q 7, .inl (cy 0, 20, .inl (fun _ => 0))), (t 0, .inr (8, fSightings t)), (t 1, .inl (cy 0, 20, .inl (fun _ => 0))), (t 2, .inl (cy 0, 20, .inl (fun _ => 0))), (t 3, .inl (cy 0, 20, .inl (fun _ => 0))), (t 4, .inl (cy 0, 20, .inl (fun _ => 0))), (t 5, .inl (cy 0, 20, .inl (fun _ => 0))), (t 6, .inl (cy 0, 20, .inl (fun _ => 0))), (t 7, .inl (cy 0, 20, .inl (fun _ => 0)))] := hD
  refine lv_aload_n hx hb dd_X8_become_0 rfl (lv_at hl 1 rfl) ?_
  refine wk_get (v := .ref (t 1)) Sx ef_8 hK hP 8 rfl rfl 0 (by decide) kk_196 rfl dd_X8_become_1 ?_
  refine lv_iconst (v := 0) hx hb dd_X8_become_4 (by decide) ?_
  refine lv_aload_n hx hb dd_X8_become_5 rfl (lv_at hl 0 rfl) ?_
  refine wk_get (v := .ref (q 1)) Sx ef_8 hK hP 0 rfl rfl 0 (by decide) kk_196 rfl dd_X8_become_6 ?_
  refine lv_iconst (v := 0) hx hb dd_X8_become_9 (by decide) ?_
  refine lv_bipush (v := 20) hx hb dd_X8_become_10 (by decide) ?_
  refine va_copyi (ty := .int) hx hb (Sx.2.2.1.trans hl.1.symm) Sx.2.2.2.1 (Sx.2.2.2.2 _ kk_1076) (Sx.2.2.2.2 _ kk_468) (Sx.2.2.2.2 _ kk_467) (Sx.2.2.2.2 _ kk_15) hK hP hD hS 9 1 0 0 rfl rfl rfl rfl rfl (by decide) (by decide) (by decide) (Nat.le_of_ble_eq_true rfl) (Nat.le_of_ble_eq_true rfl) (fun _ _ => rfl) (Nat.le_of_ble_eq_true rfl) (Nat.le_of_ble_eq_true rfl) dd_X8_become_12 (fun H locs hP hD hS => ?_)
  have hP : va_P D cls [(q 0, .inr (8, fSightings q)), (q 1, .inl (cy 0, 20, .inl (va_cpy (fun _ => 0) (fun _ => 0) (0 : Int32).toNatClampNeg (0 : Int32).toNatClampNeg (20 : Int32).toNatClampNeg))), (q 2, .inl (cy 0, 20, .inl (fun _ => 0))), (q 3, .inl (cy 0, 20, .inl (fun _ => 0))), (q 4, .inl (cy 0, 20, .inl (fun _ => 0))), (q 5, .inl (cy 0, 20, .inl (fun _ => 0))), (q 6, .inl (cy 0, 20, .inl (fun _ => 0))), (q 7, .inl (cy 0, 20, .inl (fun _ => 0))), (t 0, .inr (8, fSightings t)), (t 1, .inl (cy 0, 20, .inl (fun _ => 0))), (t 2, .inl (cy 0, 20, .inl (fun _ => 0))), (t 3, .inl (cy 0, 20, .inl (fun _ => 0))), (t 4, .inl (cy 0, 20, .inl (fun _ => 0))), (t 5, .inl (cy 0, 20, .inl (fun _ => 0))), (t 6, .inl (cy 0, 20, .inl (fun _ => 0))), (t 7, .inl (cy 0, 20, .inl (fun _ => 0)))] H := hP
  have hD : va_D A [(q 0, .inr (8, fSightings q)), (q 1, .inl (cy 0, 20, .inl (va_cpy (fun _ => 0) (fun _ => 0) (0 : Int32).toNatClampNeg (0 : Int32).toNatClampNeg (20 : Int32).toNatClampNeg))), (q 2, .inl (cy 0, 20, .inl (fun _ => 0))), (q 3, .inl (cy 0, 20, .inl (fun _ => 0))), (q 4, .inl (cy 0, 20, .inl (fun _ => 0))), (q 5, .inl (cy 0, 20, .inl (fun _ => 0))), (q 6, .inl (cy 0, 20, .inl (fun _ => 0))), (q 7, .inl (cy 0, 20, .inl (fun _ => 0))), (t 0, .inr (8, fSightings t)), (t 1, .inl (cy 0, 20, .inl (fun _ => 0))), (t 2, .inl (cy 0, 20, .inl (fun _ => 0))), (t 3, .inl (cy 0, 20, .inl (fun _ => 0))), (t 4, .inl (cy 0, 20, .inl (fun _ => 0))), (t 5, .inl (cy 0, 20, .inl (fun _ => 0))), (t 6, .inl (cy 0, 20, .inl (fun _ => 0))), (t 7, .inl (cy 0, 20, .inl (fun _ => 0)))] := hD
  refine lv_aload_n hx hb dd_X8_become_15 rfl (lv_at hl 1 rfl) ?_
  refine wk_get (v := .ref (t 2)) Sx ef_8 hK hP 8 rfl rfl 1 (by decide) kk_197 rfl dd_X8_become_16 ?_
  refine lv_iconst (v := 0) hx hb dd_X8_become_19 (by decide) ?_
  refine lv_aload_n hx hb dd_X8_become_20 rfl (lv_at hl 0 rfl) ?_
  refine wk_get (v := .ref (q 2)) Sx ef_8 hK hP 0 rfl rfl 1 (by decide) kk_197 rfl dd_X8_become_21 ?_
  refine lv_iconst (v := 0) hx hb dd_X8_become_24 (by decide) ?_
  refine lv_bipush (v := 20) hx hb dd_X8_become_25 (by decide) ?_
  refine va_copyi (ty := .int) hx hb (Sx.2.2.1.trans hl.1.symm) Sx.2.2.2.1 (Sx.2.2.2.2 _ kk_1076) (Sx.2.2.2.2 _ kk_468) (Sx.2.2.2.2 _ kk_467) (Sx.2.2.2.2 _ kk_15) hK hP hD hS 10 2 0 0 rfl rfl rfl rfl rfl (by decide) (by decide) (by decide) (Nat.le_of_ble_eq_true rfl) (Nat.le_of_ble_eq_true rfl) (fun _ _ => rfl) (Nat.le_of_ble_eq_true rfl) (Nat.le_of_ble_eq_true rfl) dd_X8_become_27 (fun H locs hP hD hS => ?_)
  have hP : va_P D cls [(q 0, .inr (8, fSightings q)), (q 1, .inl (cy 0, 20, .inl (va_cpy (fun _ => 0) (fun _ => 0) (0 : Int32).toNatClampNeg (0 : Int32).toNatClampNeg (20 : Int32).toNatClampNeg))), (q 2, .inl (cy 0, 20, .inl (va_cpy (fun _ => 0) (fun _ => 0) (0 : Int32).toNatClampNeg (0 : Int32).toNatClampNeg (20 : Int32).toNatClampNeg))), (q 3, .inl (cy 0, 20, .inl (fun _ => 0))), (q 4, .inl (cy 0, 20, .inl (fun _ => 0))), (q 5, .inl (cy 0, 20, .inl (fun _ => 0))), (q 6, .inl (cy 0, 20, .inl (fun _ => 0))), (q 7, .inl (cy 0, 20, .inl (fun _ => 0))), (t 0, .inr (8, fSightings t)), (t 1, .inl (cy 0, 20, .inl (fun _ => 0))), (t 2, .inl (cy 0, 20, .inl (fun _ => 0))), (t 3, .inl (cy 0, 20, .inl (fun _ => 0))), (t 4, .inl (cy 0, 20, .inl (fun _ => 0))), (t 5, .inl (cy 0, 20, .inl (fun _ => 0))), (t 6, .inl (cy 0, 20, .inl (fun _ => 0))), (t 7, .inl (cy 0, 20, .inl (fun _ => 0)))] H := hP
  have hD : va_D A [(q 0, .inr (8, fSightings q)), (q 1, .inl (cy 0, 20, .inl (va_cpy (fun _ => 0) (fun _ => 0) (0 : Int32).toNatClampNeg (0 : Int32).toNatClampNeg (20 : Int32).toNatClampNeg))), (q 2, .inl (cy 0, 20, .inl (va_cpy (fun _ => 0) (fun _ => 0) (0 : Int32).toNatClampNeg (0 : Int32).toNatClampNeg (20 : Int32).toNatClampNeg))), (q 3, .inl (cy 0, 20, .inl (fun _ => 0))), (q 4, .inl (cy 0, 20, .inl (fun _ => 0))), (q 5, .inl (cy 0, 20, .inl (fun _ => 0))), (q 6, .inl (cy 0, 20, .inl (fun _ => 0))), (q 7, .inl (cy 0, 20, .inl (fun _ => 0))), (t 0, .inr (8, fSightings t)), (t 1, .inl (cy 0, 20, .inl (fun _ => 0))), (t 2, .inl (cy 0, 20, .inl (fun _ => 0))), (t 3, .inl (cy 0, 20, .inl (fun _ => 0))), (t 4, .inl (cy 0, 20, .inl (fun _ => 0))), (t 5, .inl (cy 0, 20, .inl (fun _ => 0))), (t 6, .inl (cy 0, 20, .inl (fun _ => 0))), (t 7, .inl (cy 0, 20, .inl (fun _ => 0)))] := hD
  refine lv_aload_n hx hb dd_X8_become_30 rfl (lv_at hl 1 rfl) ?_
  refine wk_get (v := .ref (t 3)) Sx ef_8 hK hP 8 rfl rfl 2 (by decide) kk_198 rfl dd_X8_become_31 ?_
  refine lv_iconst (v := 0) hx hb dd_X8_become_34 (by decide) ?_
  refine lv_aload_n hx hb dd_X8_become_35 rfl (lv_at hl 0 rfl) ?_
  refine wk_get (v := .ref (q 3)) Sx ef_8 hK hP 0 rfl rfl 2 (by decide) kk_198 rfl dd_X8_become_36 ?_
  refine lv_iconst (v := 0) hx hb dd_X8_become_39 (by decide) ?_
  refine lv_bipush (v := 20) hx hb dd_X8_become_40 (by decide) ?_
  refine va_copyi (ty := .int) hx hb (Sx.2.2.1.trans hl.1.symm) Sx.2.2.2.1 (Sx.2.2.2.2 _ kk_1076) (Sx.2.2.2.2 _ kk_468) (Sx.2.2.2.2 _ kk_467) (Sx.2.2.2.2 _ kk_15) hK hP hD hS 11 3 0 0 rfl rfl rfl rfl rfl (by decide) (by decide) (by decide) (Nat.le_of_ble_eq_true rfl) (Nat.le_of_ble_eq_true rfl) (fun _ _ => rfl) (Nat.le_of_ble_eq_true rfl) (Nat.le_of_ble_eq_true rfl) dd_X8_become_42 (fun H locs hP hD hS => ?_)
  have hP : va_P D cls [(q 0, .inr (8, fSightings q)), (q 1, .inl (cy 0, 20, .inl (va_cpy (fun _ => 0) (fun _ => 0) (0 : Int32).toNatClampNeg (0 : Int32).toNatClampNeg (20 : Int32).toNatClampNeg))), (q 2, .inl (cy 0, 20, .inl (va_cpy (fun _ => 0) (fun _ => 0) (0 : Int32).toNatClampNeg (0 : Int32).toNatClampNeg (20 : Int32).toNatClampNeg))), (q 3, .inl (cy 0, 20, .inl (va_cpy (fun _ => 0) (fun _ => 0) (0 : Int32).toNatClampNeg (0 : Int32).toNatClampNeg (20 : Int32).toNatClampNeg))), (q 4, .inl (cy 0, 20, .inl (fun _ => 0))), (q 5, .inl (cy 0, 20, .inl (fun _ => 0))), (q 6, .inl (cy 0, 20, .inl (fun _ => 0))), (q 7, .inl (cy 0, 20, .inl (fun _ => 0))), (t 0, .inr (8, fSightings t)), (t 1, .inl (cy 0, 20, .inl (fun _ => 0))), (t 2, .inl (cy 0, 20, .inl (fun _ => 0))), (t 3, .inl (cy 0, 20, .inl (fun _ => 0))), (t 4, .inl (cy 0, 20, .inl (fun _ => 0))), (t 5, .inl (cy 0, 20, .inl (fun _ => 0))), (t 6, .inl (cy 0, 20, .inl (fun _ => 0))), (t 7, .inl (cy 0, 20, .inl (fun _ => 0)))] H := hP
  have hD : va_D A [(q 0, .inr (8, fSightings q)), (q 1, .inl (cy 0, 20, .inl (va_cpy (fun _ => 0) (fun _ => 0) (0 : Int32).toNatClampNeg (0 : Int32).toNatClampNeg (20 : Int32).toNatClampNeg))), (q 2, .inl (cy 0, 20, .inl (va_cpy (fun _ => 0) (fun _ => 0) (0 : Int32).toNatClampNeg (0 : Int32).toNatClampNeg (20 : Int32).toNatClampNeg))), (q 3, .inl (cy 0, 20, .inl (va_cpy (fun _ => 0) (fun _ => 0) (0 : Int32).toNatClampNeg (0 : Int32).toNatClampNeg (20 : Int32).toNatClampNeg))), (q 4, .inl (cy 0, 20, .inl (fun _ => 0))), (q 5, .inl (cy 0, 20, .inl (fun _ => 0))), (q 6, .inl (cy 0, 20, .inl (fun _ => 0))), (q 7, .inl (cy 0, 20, .inl (fun _ => 0))), (t 0, .inr (8, fSightings t)), (t 1, .inl (cy 0, 20, .inl (fun _ => 0))), (t 2, .inl (cy 0, 20, .inl (fun _ => 0))), (t 3, .inl (cy 0, 20, .inl (fun _ => 0))), (t 4, .inl (cy 0, 20, .inl (fun _ => 0))), (t 5, .inl (cy 0, 20, .inl (fun _ => 0))), (t 6, .inl (cy 0, 20, .inl (fun _ => 0))), (t 7, .inl (cy 0, 20, .inl (fun _ => 0)))] := hD
  refine lv_aload_n hx hb dd_X8_become_45 rfl (lv_at hl 1 rfl) ?_
  refine wk_get (v := .ref (t 4)) Sx ef_8 hK hP 8 rfl rfl 3 (by decide) kk_199 rfl dd_X8_become_46 ?_
  refine lv_iconst (v := 0) hx hb dd_X8_become_49 (by decide) ?_
  refine lv_aload_n hx hb dd_X8_become_50 rfl (lv_at hl 0 rfl) ?_
  refine wk_get (v := .ref (q 4)) Sx ef_8 hK hP 0 rfl rfl 3 (by decide) kk_199 rfl dd_X8_become_51 ?_
  refine lv_iconst (v := 0) hx hb dd_X8_become_54 (by decide) ?_
  refine lv_bipush (v := 20) hx hb dd_X8_become_55 (by decide) ?_
  refine va_copyi (ty := .int) hx hb (Sx.2.2.1.trans hl.1.symm) Sx.2.2.2.1 (Sx.2.2.2.2 _ kk_1076) (Sx.2.2.2.2 _ kk_468) (Sx.2.2.2.2 _ kk_467) (Sx.2.2.2.2 _ kk_15) hK hP hD hS 12 4 0 0 rfl rfl rfl rfl rfl (by decide) (by decide) (by decide) (Nat.le_of_ble_eq_true rfl) (Nat.le_of_ble_eq_true rfl) (fun _ _ => rfl) (Nat.le_of_ble_eq_true rfl) (Nat.le_of_ble_eq_true rfl) dd_X8_become_57 (fun H locs hP hD hS => ?_)
  have hP : va_P D cls [(q 0, .inr (8, fSightings q)), (q 1, .inl (cy 0, 20, .inl (va_cpy (fun _ => 0) (fun _ => 0) (0 : Int32).toNatClampNeg (0 : Int32).toNatClampNeg (20 : Int32).toNatClampNeg))), (q 2, .inl (cy 0, 20, .inl (va_cpy (fun _ => 0) (fun _ => 0) (0 : Int32).toNatClampNeg (0 : Int32).toNatClampNeg (20 : Int32).toNatClampNeg))), (q 3, .inl (cy 0, 20, .inl (va_cpy (fun _ => 0) (fun _ => 0) (0 : Int32).toNatClampNeg (0 : Int32).toNatClampNeg (20 : Int32).toNatClampNeg))), (q 4, .inl (cy 0, 20, .inl (va_cpy (fun _ => 0) (fun _ => 0) (0 : Int32).toNatClampNeg (0 : Int32).toNatClampNeg (20 : Int32).toNatClampNeg))), (q 5, .inl (cy 0, 20, .inl (fun _ => 0))), (q 6, .inl (cy 0, 20, .inl (fun _ => 0))), (q 7, .inl (cy 0, 20, .inl (fun _ => 0))), (t 0, .inr (8, fSightings t)), (t 1, .inl (cy 0, 20, .inl (fun _ => 0))), (t 2, .inl (cy 0, 20, .inl (fun _ => 0))), (t 3, .inl (cy 0, 20, .inl (fun _ => 0))), (t 4, .inl (cy 0, 20, .inl (fun _ => 0))), (t 5, .inl (cy 0, 20, .inl (fun _ => 0))), (t 6, .inl (cy 0, 20, .inl (fun _ => 0))), (t 7, .inl (cy 0, 20, .inl (fun _ => 0)))] H := hP
  have hD : va_D A [(q 0, .inr (8, fSightings q)), (q 1, .inl (cy 0, 20, .inl (va_cpy (fun _ => 0) (fun _ => 0) (0 : Int32).toNatClampNeg (0 : Int32).toNatClampNeg (20 : Int32).toNatClampNeg))), (q 2, .inl (cy 0, 20, .inl (va_cpy (fun _ => 0) (fun _ => 0) (0 : Int32).toNatClampNeg (0 : Int32).toNatClampNeg (20 : Int32).toNatClampNeg))), (q 3, .inl (cy 0, 20, .inl (va_cpy (fun _ => 0) (fun _ => 0) (0 : Int32).toNatClampNeg (0 : Int32).toNatClampNeg (20 : Int32).toNatClampNeg))), (q 4, .inl (cy 0, 20, .inl (va_cpy (fun _ => 0) (fun _ => 0) (0 : Int32).toNatClampNeg (0 : Int32).toNatClampNeg (20 : Int32).toNatClampNeg))), (q 5, .inl (cy 0, 20, .inl (fun _ => 0))), (q 6, .inl (cy 0, 20, .inl (fun _ => 0))), (q 7, .inl (cy 0, 20, .inl (fun _ => 0))), (t 0, .inr (8, fSightings t)), (t 1, .inl (cy 0, 20, .inl (fun _ => 0))), (t 2, .inl (cy 0, 20, .inl (fun _ => 0))), (t 3, .inl (cy 0, 20, .inl (fun _ => 0))), (t 4, .inl (cy 0, 20, .inl (fun _ => 0))), (t 5, .inl (cy 0, 20, .inl (fun _ => 0))), (t 6, .inl (cy 0, 20, .inl (fun _ => 0))), (t 7, .inl (cy 0, 20, .inl (fun _ => 0)))] := hD
  refine lv_aload_n hx hb dd_X8_become_60 rfl (lv_at hl 0 rfl) ?_
  refine lv_aload_n hx hb dd_X8_become_61 rfl (lv_at hl 1 rfl) ?_
  refine wk_get (v := .int 0) Sx ef_8 hK hP 8 rfl rfl 4 (by decide) kk_200 rfl dd_X8_become_62 ?_
  refine wk_put (ws' := [(q 0, .inr (8, fSightings q)), (q 1, .inl (cy 0, 20, .inl (va_cpy (fun _ => 0) (fun _ => 0) (0 : Int32).toNatClampNeg (0 : Int32).toNatClampNeg (20 : Int32).toNatClampNeg))), (q 2, .inl (cy 0, 20, .inl (va_cpy (fun _ => 0) (fun _ => 0) (0 : Int32).toNatClampNeg (0 : Int32).toNatClampNeg (20 : Int32).toNatClampNeg))), (q 3, .inl (cy 0, 20, .inl (va_cpy (fun _ => 0) (fun _ => 0) (0 : Int32).toNatClampNeg (0 : Int32).toNatClampNeg (20 : Int32).toNatClampNeg))), (q 4, .inl (cy 0, 20, .inl (va_cpy (fun _ => 0) (fun _ => 0) (0 : Int32).toNatClampNeg (0 : Int32).toNatClampNeg (20 : Int32).toNatClampNeg))), (q 5, .inl (cy 0, 20, .inl (fun _ => 0))), (q 6, .inl (cy 0, 20, .inl (fun _ => 0))), (q 7, .inl (cy 0, 20, .inl (fun _ => 0))), (t 0, .inr (8, fSightings t)), (t 1, .inl (cy 0, 20, .inl (fun _ => 0))), (t 2, .inl (cy 0, 20, .inl (fun _ => 0))), (t 3, .inl (cy 0, 20, .inl (fun _ => 0))), (t 4, .inl (cy 0, 20, .inl (fun _ => 0))), (t 5, .inl (cy 0, 20, .inl (fun _ => 0))), (t 6, .inl (cy 0, 20, .inl (fun _ => 0))), (t 7, .inl (cy 0, 20, .inl (fun _ => 0)))]) Sx ef_8 hK hP hD hS 0 rfl rfl 4 (by decide) kk_200 rfl rfl rfl (Nat.le_of_ble_eq_true rfl) dd_X8_become_65 rfl (fun H locs hP hD hS => ?_)
  exact hc_vret Sx hr hlocks dd_X8_become_68 hS () trivial p_nil d_nil
set_option maxHeartbeats 4000000 in
set_option maxRecDepth 100000 in
theorem c_Secrets_become (l : Launch) (D : va_G) (cy : Nat → ClassId) (q : Nat → Nat) (t : Nat → Nat) : HC l my_X6_become mb_X6_become 2 ((none : Option Jvm.ClassFile.FieldType)) (rmD 1 0 0) D (TY cy) [.ref (q 0), .ref (t 0)] NX [(q 0, .inr (6, fSecrets q)), (q 1, .inl (cy 0, 10, .inl (fun _ => 0))), (q 2, .inl (cy 0, 10, .inl (fun _ => 0))), (q 3, .inl (cy 0, 16, .inl (fun _ => 0))), (q 4, .inl (cy 0, 10, .inl (fun _ => 0))), (q 5, .inl (cy 0, 10, .inl (fun _ => 0))), (q 6, .inl (cy 0, 10, .inl (fun _ => 0))), (q 7, .inl (cy 0, 5, .inl (fun _ => 0))), (t 0, .inr (6, fSecrets t)), (t 1, .inl (cy 0, 10, .inl (fun _ => 0))), (t 2, .inl (cy 0, 10, .inl (fun _ => 0))), (t 3, .inl (cy 0, 16, .inl (fun _ => 0))), (t 4, .inl (cy 0, 10, .inl (fun _ => 0))), (t 5, .inl (cy 0, 10, .inl (fun _ => 0))), (t 6, .inl (cy 0, 10, .inl (fun _ => 0))), (t 7, .inl (cy 0, 5, .inl (fun _ => 0)))] (QV (S := Unit) D (fun _ => True) (fun _ => [])) := by
  refine hc_intro (by decide) (Nat.le_of_ble_eq_true rfl) (fun p e s m below meth c A ls Sx hr hlocks hin hl hP hD hK hS hA hX => ?_)
  have hx := Sx.1
  have hb := Sx.2.1
  have hl : lv_has ls 2 [(0, .ref (q 0)), (1, .ref (t 0))] := hl
  have hP : va_P D cls [(q 0, .inr (6, fSecrets q)), (q 1, .inl (cy 0, 10, .inl (fun _ => 0))), (q 2, .inl (cy 0, 10, .inl (fun _ => 0))), (q 3, .inl (cy 0, 16, .inl (fun _ => 0))), (q 4, .inl (cy 0, 10, .inl (fun _ => 0))), (q 5, .inl (cy 0, 10, .inl (fun _ => 0))), (q 6, .inl (cy 0, 10, .inl (fun _ => 0))), (q 7, .inl (cy 0, 5, .inl (fun _ => 0))), (t 0, .inr (6, fSecrets t)), (t 1, .inl (cy 0, 10, .inl (fun _ => 0))), (t 2, .inl (cy 0, 10, .inl (fun _ => 0))), (t 3, .inl (cy 0, 16, .inl (fun _ => 0))), (t 4, .inl (cy 0, 10, .inl (fun _ => 0))), (t 5, .inl (cy 0, 10, .inl (fun _ => 0))), (t 6, .inl (cy 0, 10, .inl (fun _ => 0))), (t 7, .inl (cy 0, 5, .inl (fun _ => 0)))] s.heap := hP
  have hD : va_D A [(q 0, .inr (6, fSecrets q)), (q 1, .inl (cy 0, 10, .inl (fun _ => 0))), (q 2, .inl (cy 0, 10, .inl (fun _ => 0))), (q 3, .inl (cy 0, 16, .inl (fun _ => 0))), (q 4, .inl (cy 0, 10, .inl (fun _ => 0))), (q 5, .inl (cy 0, 10, .inl (fun _ => 0))), (q 6, .inl (cy 0, 10, .inl (fun _ => 0))), (q 7, .inl (cy 0, 5, .inl (fun _ => 0))), (t 0, .inr (6, fSecrets t)), (t 1, .inl (cy 0, 10, .inl (fun _ => 0))), (t 2, .inl (cy 0, 10, .inl (fun _ => 0))), (t 3, .inl (cy 0, 16, .inl (fun _ => 0))), (t 4, .inl (cy 0, 10, .inl (fun _ => 0))), (t 5, .inl (cy 0, 10, .inl (fun _ => 0))), (t 6, .inl (cy 0, 10, .inl (fun _ => 0))), (t 7, .inl (cy 0, 5, .inl (fun _ => 0)))] := hD
  refine lv_aload_n hx hb dd_X6_become_0 rfl (lv_at hl 1 rfl) ?_
  refine wk_get (v := .ref (t 1)) Sx ef_6 hK hP 8 rfl rfl 0 (by decide) kk_228 rfl dd_X6_become_1 ?_
  refine lv_iconst (v := 0) hx hb dd_X6_become_4 (by decide) ?_
  refine lv_aload_n hx hb dd_X6_become_5 rfl (lv_at hl 0 rfl) ?_
  refine wk_get (v := .ref (q 1)) Sx ef_6 hK hP 0 rfl rfl 0 (by decide) kk_228 rfl dd_X6_become_6 ?_
  refine lv_iconst (v := 0) hx hb dd_X6_become_9 (by decide) ?_
  refine lv_bipush (v := 10) hx hb dd_X6_become_10 (by decide) ?_
  refine va_copyi (ty := .int) hx hb (Sx.2.2.1.trans hl.1.symm) Sx.2.2.2.1 (Sx.2.2.2.2 _ kk_1081) (Sx.2.2.2.2 _ kk_468) (Sx.2.2.2.2 _ kk_467) (Sx.2.2.2.2 _ kk_15) hK hP hD hS 9 1 0 0 rfl rfl rfl rfl rfl (by decide) (by decide) (by decide) (Nat.le_of_ble_eq_true rfl) (Nat.le_of_ble_eq_true rfl) (fun _ _ => rfl) (Nat.le_of_ble_eq_true rfl) (Nat.le_of_ble_eq_true rfl) dd_X6_become_12 (fun H locs hP hD hS => ?_)
  have hP : va_P D cls [(q 0, .inr (6, fSecrets q)), (q 1, .inl (cy 0, 10, .inl (va_cpy (fun _ => 0) (fun _ => 0) (0 : Int32).toNatClampNeg (0 : Int32).toNatClampNeg (10 : Int32).toNatClampNeg))), (q 2, .inl (cy 0, 10, .inl (fun _ => 0))), (q 3, .inl (cy 0, 16, .inl (fun _ => 0))), (q 4, .inl (cy 0, 10, .inl (fun _ => 0))), (q 5, .inl (cy 0, 10, .inl (fun _ => 0))), (q 6, .inl (cy 0, 10, .inl (fun _ => 0))), (q 7, .inl (cy 0, 5, .inl (fun _ => 0))), (t 0, .inr (6, fSecrets t)), (t 1, .inl (cy 0, 10, .inl (fun _ => 0))), (t 2, .inl (cy 0, 10, .inl (fun _ => 0))), (t 3, .inl (cy 0, 16, .inl (fun _ => 0))), (t 4, .inl (cy 0, 10, .inl (fun _ => 0))), (t 5, .inl (cy 0, 10, .inl (fun _ => 0))), (t 6, .inl (cy 0, 10, .inl (fun _ => 0))), (t 7, .inl (cy 0, 5, .inl (fun _ => 0)))] H := hP
  have hD : va_D A [(q 0, .inr (6, fSecrets q)), (q 1, .inl (cy 0, 10, .inl (va_cpy (fun _ => 0) (fun _ => 0) (0 : Int32).toNatClampNeg (0 : Int32).toNatClampNeg (10 : Int32).toNatClampNeg))), (q 2, .inl (cy 0, 10, .inl (fun _ => 0))), (q 3, .inl (cy 0, 16, .inl (fun _ => 0))), (q 4, .inl (cy 0, 10, .inl (fun _ => 0))), (q 5, .inl (cy 0, 10, .inl (fun _ => 0))), (q 6, .inl (cy 0, 10, .inl (fun _ => 0))), (q 7, .inl (cy 0, 5, .inl (fun _ => 0))), (t 0, .inr (6, fSecrets t)), (t 1, .inl (cy 0, 10, .inl (fun _ => 0))), (t 2, .inl (cy 0, 10, .inl (fun _ => 0))), (t 3, .inl (cy 0, 16, .inl (fun _ => 0))), (t 4, .inl (cy 0, 10, .inl (fun _ => 0))), (t 5, .inl (cy 0, 10, .inl (fun _ => 0))), (t 6, .inl (cy 0, 10, .inl (fun _ => 0))), (t 7, .inl (cy 0, 5, .inl (fun _ => 0)))] := hD
  refine lv_aload_n hx hb dd_X6_become_15 rfl (lv_at hl 1 rfl) ?_
  refine wk_get (v := .ref (t 2)) Sx ef_6 hK hP 8 rfl rfl 1 (by decide) kk_229 rfl dd_X6_become_16 ?_
  refine lv_iconst (v := 0) hx hb dd_X6_become_19 (by decide) ?_
  refine lv_aload_n hx hb dd_X6_become_20 rfl (lv_at hl 0 rfl) ?_
  refine wk_get (v := .ref (q 2)) Sx ef_6 hK hP 0 rfl rfl 1 (by decide) kk_229 rfl dd_X6_become_21 ?_
  refine lv_iconst (v := 0) hx hb dd_X6_become_24 (by decide) ?_
  refine lv_bipush (v := 10) hx hb dd_X6_become_25 (by decide) ?_
  refine va_copyi (ty := .int) hx hb (Sx.2.2.1.trans hl.1.symm) Sx.2.2.2.1 (Sx.2.2.2.2 _ kk_1081) (Sx.2.2.2.2 _ kk_468) (Sx.2.2.2.2 _ kk_467) (Sx.2.2.2.2 _ kk_15) hK hP hD hS 10 2 0 0 rfl rfl rfl rfl rfl (by decide) (by decide) (by decide) (Nat.le_of_ble_eq_true rfl) (Nat.le_of_ble_eq_true rfl) (fun _ _ => rfl) (Nat.le_of_ble_eq_true rfl) (Nat.le_of_ble_eq_true rfl) dd_X6_become_27 (fun H locs hP hD hS => ?_)
  have hP : va_P D cls [(q 0, .inr (6, fSecrets q)), (q 1, .inl (cy 0, 10, .inl (va_cpy (fun _ => 0) (fun _ => 0) (0 : Int32).toNatClampNeg (0 : Int32).toNatClampNeg (10 : Int32).toNatClampNeg))), (q 2, .inl (cy 0, 10, .inl (va_cpy (fun _ => 0) (fun _ => 0) (0 : Int32).toNatClampNeg (0 : Int32).toNatClampNeg (10 : Int32).toNatClampNeg))), (q 3, .inl (cy 0, 16, .inl (fun _ => 0))), (q 4, .inl (cy 0, 10, .inl (fun _ => 0))), (q 5, .inl (cy 0, 10, .inl (fun _ => 0))), (q 6, .inl (cy 0, 10, .inl (fun _ => 0))), (q 7, .inl (cy 0, 5, .inl (fun _ => 0))), (t 0, .inr (6, fSecrets t)), (t 1, .inl (cy 0, 10, .inl (fun _ => 0))), (t 2, .inl (cy 0, 10, .inl (fun _ => 0))), (t 3, .inl (cy 0, 16, .inl (fun _ => 0))), (t 4, .inl (cy 0, 10, .inl (fun _ => 0))), (t 5, .inl (cy 0, 10, .inl (fun _ => 0))), (t 6, .inl (cy 0, 10, .inl (fun _ => 0))), (t 7, .inl (cy 0, 5, .inl (fun _ => 0)))] H := hP
  have hD : va_D A [(q 0, .inr (6, fSecrets q)), (q 1, .inl (cy 0, 10, .inl (va_cpy (fun _ => 0) (fun _ => 0) (0 : Int32).toNatClampNeg (0 : Int32).toNatClampNeg (10 : Int32).toNatClampNeg))), (q 2, .inl (cy 0, 10, .inl (va_cpy (fun _ => 0) (fun _ => 0) (0 : Int32).toNatClampNeg (0 : Int32).toNatClampNeg (10 : Int32).toNatClampNeg))), (q 3, .inl (cy 0, 16, .inl (fun _ => 0))), (q 4, .inl (cy 0, 10, .inl (fun _ => 0))), (q 5, .inl (cy 0, 10, .inl (fun _ => 0))), (q 6, .inl (cy 0, 10, .inl (fun _ => 0))), (q 7, .inl (cy 0, 5, .inl (fun _ => 0))), (t 0, .inr (6, fSecrets t)), (t 1, .inl (cy 0, 10, .inl (fun _ => 0))), (t 2, .inl (cy 0, 10, .inl (fun _ => 0))), (t 3, .inl (cy 0, 16, .inl (fun _ => 0))), (t 4, .inl (cy 0, 10, .inl (fun _ => 0))), (t 5, .inl (cy 0, 10, .inl (fun _ => 0))), (t 6, .inl (cy 0, 10, .inl (fun _ => 0))), (t 7, .inl (cy 0, 5, .inl (fun _ => 0)))] := hD
  refine lv_aload_n hx hb dd_X6_become_30 rfl (lv_at hl 1 rfl) ?_
  refine wk_get (v := .ref (t 3)) Sx ef_6 hK hP 8 rfl rfl 3 (by decide) kk_232 rfl dd_X6_become_31 ?_
  refine lv_iconst (v := 0) hx hb dd_X6_become_34 (by decide) ?_
  refine lv_aload_n hx hb dd_X6_become_35 rfl (lv_at hl 0 rfl) ?_
  refine wk_get (v := .ref (q 3)) Sx ef_6 hK hP 0 rfl rfl 3 (by decide) kk_232 rfl dd_X6_become_36 ?_
  refine lv_iconst (v := 0) hx hb dd_X6_become_39 (by decide) ?_
  refine lv_bipush (v := 16) hx hb dd_X6_become_40 (by decide) ?_
  refine va_copyi (ty := .int) hx hb (Sx.2.2.1.trans hl.1.symm) Sx.2.2.2.1 (Sx.2.2.2.2 _ kk_1081) (Sx.2.2.2.2 _ kk_468) (Sx.2.2.2.2 _ kk_467) (Sx.2.2.2.2 _ kk_15) hK hP hD hS 11 3 0 0 rfl rfl rfl rfl rfl (by decide) (by decide) (by decide) (Nat.le_of_ble_eq_true rfl) (Nat.le_of_ble_eq_true rfl) (fun _ _ => rfl) (Nat.le_of_ble_eq_true rfl) (Nat.le_of_ble_eq_true rfl) dd_X6_become_42 (fun H locs hP hD hS => ?_)
  have hP : va_P D cls [(q 0, .inr (6, fSecrets q)), (q 1, .inl (cy 0, 10, .inl (va_cpy (fun _ => 0) (fun _ => 0) (0 : Int32).toNatClampNeg (0 : Int32).toNatClampNeg (10 : Int32).toNatClampNeg))), (q 2, .inl (cy 0, 10, .inl (va_cpy (fun _ => 0) (fun _ => 0) (0 : Int32).toNatClampNeg (0 : Int32).toNatClampNeg (10 : Int32).toNatClampNeg))), (q 3, .inl (cy 0, 16, .inl (va_cpy (fun _ => 0) (fun _ => 0) (0 : Int32).toNatClampNeg (0 : Int32).toNatClampNeg (16 : Int32).toNatClampNeg))), (q 4, .inl (cy 0, 10, .inl (fun _ => 0))), (q 5, .inl (cy 0, 10, .inl (fun _ => 0))), (q 6, .inl (cy 0, 10, .inl (fun _ => 0))), (q 7, .inl (cy 0, 5, .inl (fun _ => 0))), (t 0, .inr (6, fSecrets t)), (t 1, .inl (cy 0, 10, .inl (fun _ => 0))), (t 2, .inl (cy 0, 10, .inl (fun _ => 0))), (t 3, .inl (cy 0, 16, .inl (fun _ => 0))), (t 4, .inl (cy 0, 10, .inl (fun _ => 0))), (t 5, .inl (cy 0, 10, .inl (fun _ => 0))), (t 6, .inl (cy 0, 10, .inl (fun _ => 0))), (t 7, .inl (cy 0, 5, .inl (fun _ => 0)))] H := hP
  have hD : va_D A [(q 0, .inr (6, fSecrets q)), (q 1, .inl (cy 0, 10, .inl (va_cpy (fun _ => 0) (fun _ => 0) (0 : Int32).toNatClampNeg (0 : Int32).toNatClampNeg (10 : Int32).toNatClampNeg))), (q 2, .inl (cy 0, 10, .inl (va_cpy (fun _ => 0) (fun _ => 0) (0 : Int32).toNatClampNeg (0 : Int32).toNatClampNeg (10 : Int32).toNatClampNeg))), (q 3, .inl (cy 0, 16, .inl (va_cpy (fun _ => 0) (fun _ => 0) (0 : Int32).toNatClampNeg (0 : Int32).toNatClampNeg (16 : Int32).toNatClampNeg))), (q 4, .inl (cy 0, 10, .inl (fun _ => 0))), (q 5, .inl (cy 0, 10, .inl (fun _ => 0))), (q 6, .inl (cy 0, 10, .inl (fun _ => 0))), (q 7, .inl (cy 0, 5, .inl (fun _ => 0))), (t 0, .inr (6, fSecrets t)), (t 1, .inl (cy 0, 10, .inl (fun _ => 0))), (t 2, .inl (cy 0, 10, .inl (fun _ => 0))), (t 3, .inl (cy 0, 16, .inl (fun _ => 0))), (t 4, .inl (cy 0, 10, .inl (fun _ => 0))), (t 5, .inl (cy 0, 10, .inl (fun _ => 0))), (t 6, .inl (cy 0, 10, .inl (fun _ => 0))), (t 7, .inl (cy 0, 5, .inl (fun _ => 0)))] := hD
  refine lv_aload_n hx hb dd_X6_become_45 rfl (lv_at hl 0 rfl) ?_
  refine lv_aload_n hx hb dd_X6_become_46 rfl (lv_at hl 1 rfl) ?_
  refine wk_get (v := .int 0) Sx ef_6 hK hP 8 rfl rfl 2 (by decide) kk_230 rfl dd_X6_become_47 ?_
  refine wk_put (ws' := [(q 0, .inr (6, fSecrets q)), (q 1, .inl (cy 0, 10, .inl (va_cpy (fun _ => 0) (fun _ => 0) (0 : Int32).toNatClampNeg (0 : Int32).toNatClampNeg (10 : Int32).toNatClampNeg))), (q 2, .inl (cy 0, 10, .inl (va_cpy (fun _ => 0) (fun _ => 0) (0 : Int32).toNatClampNeg (0 : Int32).toNatClampNeg (10 : Int32).toNatClampNeg))), (q 3, .inl (cy 0, 16, .inl (va_cpy (fun _ => 0) (fun _ => 0) (0 : Int32).toNatClampNeg (0 : Int32).toNatClampNeg (16 : Int32).toNatClampNeg))), (q 4, .inl (cy 0, 10, .inl (fun _ => 0))), (q 5, .inl (cy 0, 10, .inl (fun _ => 0))), (q 6, .inl (cy 0, 10, .inl (fun _ => 0))), (q 7, .inl (cy 0, 5, .inl (fun _ => 0))), (t 0, .inr (6, fSecrets t)), (t 1, .inl (cy 0, 10, .inl (fun _ => 0))), (t 2, .inl (cy 0, 10, .inl (fun _ => 0))), (t 3, .inl (cy 0, 16, .inl (fun _ => 0))), (t 4, .inl (cy 0, 10, .inl (fun _ => 0))), (t 5, .inl (cy 0, 10, .inl (fun _ => 0))), (t 6, .inl (cy 0, 10, .inl (fun _ => 0))), (t 7, .inl (cy 0, 5, .inl (fun _ => 0)))]) Sx ef_6 hK hP hD hS 0 rfl rfl 2 (by decide) kk_230 rfl rfl rfl (Nat.le_of_ble_eq_true rfl) dd_X6_become_50 rfl (fun H locs hP hD hS => ?_)
  exact hc_vret Sx hr hlocks dd_X6_become_53 hS () trivial p_nil d_nil
set_option maxHeartbeats 4000000 in
set_option maxRecDepth 100000 in
theorem c_Hall_become (l : Launch) (D : va_G) (cy : Nat → ClassId) (q : Nat → Nat) (t : Nat → Nat) : HC l my_X1_become mb_X1_become 2 ((none : Option Jvm.ClassFile.FieldType)) (rmD 2 0 0) D (TY cy) [.ref (q 0), .ref (t 0)] NX [(q 0, .inr (1, fHall q)), (q 1, .inr (10, fThings (fun k => q (1 + k)))), (q 2, .inl (cy 0, 30, .inl (fun _ => 0))), (q 3, .inl (cy 0, 30, .inl (fun _ => 0))), (q 4, .inl (cy 0, 30, .inl (fun _ => 0))), (q 5, .inl (cy 0, 30, .inl (fun _ => 0))), (q 6, .inl (cy 0, 30, .inl (fun _ => 0))), (q 7, .inl (cy 0, 30, .inl (fun _ => 0))), (q 8, .inl (cy 0, 30, .inl (fun _ => 0))), (q 9, .inr (2, fLadies (fun k => q (9 + k)))), (q 10, .inl (cy 0, 5, .inl (fun _ => 0))), (q 11, .inl (cy 0, 5, .inl (fun _ => 0))), (q 12, .inl (cy 0, 5, .inl (fun _ => 0))), (q 13, .inr (3, fLaws (fun k => q (13 + k)))), (q 14, .inl (cy 0, 30, .inl (fun _ => 0))), (q 15, .inl (cy 0, 5, .inl (fun _ => 0))), (q 16, .inr (0, fBuyers (fun k => q (16 + k)))), (q 17, .inl (cy 0, 12, .inl (fun _ => 0))), (q 18, .inl (cy 0, 12, .inl (fun _ => 0))), (q 19, .inl (cy 0, 12, .inl (fun _ => 0))), (q 20, .inl (cy 0, 12, .inl (fun _ => 0))), (q 21, .inl (cy 0, 12, .inl (fun _ => 0))), (q 22, .inr (8, fSightings (fun k => q (22 + k)))), (q 23, .inl (cy 0, 20, .inl (fun _ => 0))), (q 24, .inl (cy 0, 20, .inl (fun _ => 0))), (q 25, .inl (cy 0, 20, .inl (fun _ => 0))), (q 26, .inl (cy 0, 20, .inl (fun _ => 0))), (q 27, .inl (cy 0, 20, .inl (fun _ => 0))), (q 28, .inl (cy 0, 20, .inl (fun _ => 0))), (q 29, .inl (cy 0, 20, .inl (fun _ => 0))), (q 30, .inr (6, fSecrets (fun k => q (30 + k)))), (q 31, .inl (cy 0, 10, .inl (fun _ => 0))), (q 32, .inl (cy 0, 10, .inl (fun _ => 0))), (q 33, .inl (cy 0, 16, .inl (fun _ => 0))), (q 34, .inl (cy 0, 10, .inl (fun _ => 0))), (q 35, .inl (cy 0, 10, .inl (fun _ => 0))), (q 36, .inl (cy 0, 10, .inl (fun _ => 0))), (q 37, .inl (cy 0, 5, .inl (fun _ => 0))), (q 38, .inl (cy 0, 5, .inl (fun _ => 0))), (q 39, .inl (cy 0, 25, .inl (fun _ => 0))), (q 40, .inl (cy 0, 32, .inl (fun _ => 0))), (t 0, .inr (1, fHall t)), (t 1, .inr (10, fThings (fun k => t (1 + k)))), (t 2, .inl (cy 0, 30, .inl (fun _ => 0))), (t 3, .inl (cy 0, 30, .inl (fun _ => 0))), (t 4, .inl (cy 0, 30, .inl (fun _ => 0))), (t 5, .inl (cy 0, 30, .inl (fun _ => 0))), (t 6, .inl (cy 0, 30, .inl (fun _ => 0))), (t 7, .inl (cy 0, 30, .inl (fun _ => 0))), (t 8, .inl (cy 0, 30, .inl (fun _ => 0))), (t 9, .inr (2, fLadies (fun k => t (9 + k)))), (t 10, .inl (cy 0, 5, .inl (fun _ => 0))), (t 11, .inl (cy 0, 5, .inl (fun _ => 0))), (t 12, .inl (cy 0, 5, .inl (fun _ => 0))), (t 13, .inr (3, fLaws (fun k => t (13 + k)))), (t 14, .inl (cy 0, 30, .inl (fun _ => 0))), (t 15, .inl (cy 0, 5, .inl (fun _ => 0))), (t 16, .inr (0, fBuyers (fun k => t (16 + k)))), (t 17, .inl (cy 0, 12, .inl (fun _ => 0))), (t 18, .inl (cy 0, 12, .inl (fun _ => 0))), (t 19, .inl (cy 0, 12, .inl (fun _ => 0))), (t 20, .inl (cy 0, 12, .inl (fun _ => 0))), (t 21, .inl (cy 0, 12, .inl (fun _ => 0))), (t 22, .inr (8, fSightings (fun k => t (22 + k)))), (t 23, .inl (cy 0, 20, .inl (fun _ => 0))), (t 24, .inl (cy 0, 20, .inl (fun _ => 0))), (t 25, .inl (cy 0, 20, .inl (fun _ => 0))), (t 26, .inl (cy 0, 20, .inl (fun _ => 0))), (t 27, .inl (cy 0, 20, .inl (fun _ => 0))), (t 28, .inl (cy 0, 20, .inl (fun _ => 0))), (t 29, .inl (cy 0, 20, .inl (fun _ => 0))), (t 30, .inr (6, fSecrets (fun k => t (30 + k)))), (t 31, .inl (cy 0, 10, .inl (fun _ => 0))), (t 32, .inl (cy 0, 10, .inl (fun _ => 0))), (t 33, .inl (cy 0, 16, .inl (fun _ => 0))), (t 34, .inl (cy 0, 10, .inl (fun _ => 0))), (t 35, .inl (cy 0, 10, .inl (fun _ => 0))), (t 36, .inl (cy 0, 10, .inl (fun _ => 0))), (t 37, .inl (cy 0, 5, .inl (fun _ => 0))), (t 38, .inl (cy 0, 5, .inl (fun _ => 0))), (t 39, .inl (cy 0, 25, .inl (fun _ => 0))), (t 40, .inl (cy 0, 32, .inl (fun _ => 0)))] (QV (S := Unit) D (fun _ => True) (fun _ => [])) := by
  refine hc_intro (by decide) (Nat.le_of_ble_eq_true rfl) (fun p e s m below meth c A ls Sx hr hlocks hin hl hP hD hK hS hA hX => ?_)
  have hx := Sx.1
  have hb := Sx.2.1
  have hl : lv_has ls 2 [(0, .ref (q 0)), (1, .ref (t 0))] := hl
  have hP : va_P D cls [(q 0, .inr (1, fHall q)), (q 1, .inr (10, fThings (fun k => q (1 + k)))), (q 2, .inl (cy 0, 30, .inl (fun _ => 0))), (q 3, .inl (cy 0, 30, .inl (fun _ => 0))), (q 4, .inl (cy 0, 30, .inl (fun _ => 0))), (q 5, .inl (cy 0, 30, .inl (fun _ => 0))), (q 6, .inl (cy 0, 30, .inl (fun _ => 0))), (q 7, .inl (cy 0, 30, .inl (fun _ => 0))), (q 8, .inl (cy 0, 30, .inl (fun _ => 0))), (q 9, .inr (2, fLadies (fun k => q (9 + k)))), (q 10, .inl (cy 0, 5, .inl (fun _ => 0))), (q 11, .inl (cy 0, 5, .inl (fun _ => 0))), (q 12, .inl (cy 0, 5, .inl (fun _ => 0))), (q 13, .inr (3, fLaws (fun k => q (13 + k)))), (q 14, .inl (cy 0, 30, .inl (fun _ => 0))), (q 15, .inl (cy 0, 5, .inl (fun _ => 0))), (q 16, .inr (0, fBuyers (fun k => q (16 + k)))), (q 17, .inl (cy 0, 12, .inl (fun _ => 0))), (q 18, .inl (cy 0, 12, .inl (fun _ => 0))), (q 19, .inl (cy 0, 12, .inl (fun _ => 0))), (q 20, .inl (cy 0, 12, .inl (fun _ => 0))), (q 21, .inl (cy 0, 12, .inl (fun _ => 0))), (q 22, .inr (8, fSightings (fun k => q (22 + k)))), (q 23, .inl (cy 0, 20, .inl (fun _ => 0))), (q 24, .inl (cy 0, 20, .inl (fun _ => 0))), (q 25, .inl (cy 0, 20, .inl (fun _ => 0))), (q 26, .inl (cy 0, 20, .inl (fun _ => 0))), (q 27, .inl (cy 0, 20, .inl (fun _ => 0))), (q 28, .inl (cy 0, 20, .inl (fun _ => 0))), (q 29, .inl (cy 0, 20, .inl (fun _ => 0))), (q 30, .inr (6, fSecrets (fun k => q (30 + k)))), (q 31, .inl (cy 0, 10, .inl (fun _ => 0))), (q 32, .inl (cy 0, 10, .inl (fun _ => 0))), (q 33, .inl (cy 0, 16, .inl (fun _ => 0))), (q 34, .inl (cy 0, 10, .inl (fun _ => 0))), (q 35, .inl (cy 0, 10, .inl (fun _ => 0))), (q 36, .inl (cy 0, 10, .inl (fun _ => 0))), (q 37, .inl (cy 0, 5, .inl (fun _ => 0))), (q 38, .inl (cy 0, 5, .inl (fun _ => 0))), (q 39, .inl (cy 0, 25, .inl (fun _ => 0))), (q 40, .inl (cy 0, 32, .inl (fun _ => 0))), (t 0, .inr (1, fHall t)), (t 1, .inr (10, fThings (fun k => t (1 + k)))), (t 2, .inl (cy 0, 30, .inl (fun _ => 0))), (t 3, .inl (cy 0, 30, .inl (fun _ => 0))), (t 4, .inl (cy 0, 30, .inl (fun _ => 0))), (t 5, .inl (cy 0, 30, .inl (fun _ => 0))), (t 6, .inl (cy 0, 30, .inl (fun _ => 0))), (t 7, .inl (cy 0, 30, .inl (fun _ => 0))), (t 8, .inl (cy 0, 30, .inl (fun _ => 0))), (t 9, .inr (2, fLadies (fun k => t (9 + k)))), (t 10, .inl (cy 0, 5, .inl (fun _ => 0))), (t 11, .inl (cy 0, 5, .inl (fun _ => 0))), (t 12, .inl (cy 0, 5, .inl (fun _ => 0))), (t 13, .inr (3, fLaws (fun k => t (13 + k)))), (t 14, .inl (cy 0, 30, .inl (fun _ => 0))), (t 15, .inl (cy 0, 5, .inl (fun _ => 0))), (t 16, .inr (0, fBuyers (fun k => t (16 + k)))), (t 17, .inl (cy 0, 12, .inl (fun _ => 0))), (t 18, .inl (cy 0, 12, .inl (fun _ => 0))), (t 19, .inl (cy 0, 12, .inl (fun _ => 0))), (t 20, .inl (cy 0, 12, .inl (fun _ => 0))), (t 21, .inl (cy 0, 12, .inl (fun _ => 0))), (t 22, .inr (8, fSightings (fun k => t (22 + k)))), (t 23, .inl (cy 0, 20, .inl (fun _ => 0))), (t 24, .inl (cy 0, 20, .inl (fun _ => 0))), (t 25, .inl (cy 0, 20, .inl (fun _ => 0))), (t 26, .inl (cy 0, 20, .inl (fun _ => 0))), (t 27, .inl (cy 0, 20, .inl (fun _ => 0))), (t 28, .inl (cy 0, 20, .inl (fun _ => 0))), (t 29, .inl (cy 0, 20, .inl (fun _ => 0))), (t 30, .inr (6, fSecrets (fun k => t (30 + k)))), (t 31, .inl (cy 0, 10, .inl (fun _ => 0))), (t 32, .inl (cy 0, 10, .inl (fun _ => 0))), (t 33, .inl (cy 0, 16, .inl (fun _ => 0))), (t 34, .inl (cy 0, 10, .inl (fun _ => 0))), (t 35, .inl (cy 0, 10, .inl (fun _ => 0))), (t 36, .inl (cy 0, 10, .inl (fun _ => 0))), (t 37, .inl (cy 0, 5, .inl (fun _ => 0))), (t 38, .inl (cy 0, 5, .inl (fun _ => 0))), (t 39, .inl (cy 0, 25, .inl (fun _ => 0))), (t 40, .inl (cy 0, 32, .inl (fun _ => 0)))] s.heap := hP
  have hD : va_D A [(q 0, .inr (1, fHall q)), (q 1, .inr (10, fThings (fun k => q (1 + k)))), (q 2, .inl (cy 0, 30, .inl (fun _ => 0))), (q 3, .inl (cy 0, 30, .inl (fun _ => 0))), (q 4, .inl (cy 0, 30, .inl (fun _ => 0))), (q 5, .inl (cy 0, 30, .inl (fun _ => 0))), (q 6, .inl (cy 0, 30, .inl (fun _ => 0))), (q 7, .inl (cy 0, 30, .inl (fun _ => 0))), (q 8, .inl (cy 0, 30, .inl (fun _ => 0))), (q 9, .inr (2, fLadies (fun k => q (9 + k)))), (q 10, .inl (cy 0, 5, .inl (fun _ => 0))), (q 11, .inl (cy 0, 5, .inl (fun _ => 0))), (q 12, .inl (cy 0, 5, .inl (fun _ => 0))), (q 13, .inr (3, fLaws (fun k => q (13 + k)))), (q 14, .inl (cy 0, 30, .inl (fun _ => 0))), (q 15, .inl (cy 0, 5, .inl (fun _ => 0))), (q 16, .inr (0, fBuyers (fun k => q (16 + k)))), (q 17, .inl (cy 0, 12, .inl (fun _ => 0))), (q 18, .inl (cy 0, 12, .inl (fun _ => 0))), (q 19, .inl (cy 0, 12, .inl (fun _ => 0))), (q 20, .inl (cy 0, 12, .inl (fun _ => 0))), (q 21, .inl (cy 0, 12, .inl (fun _ => 0))), (q 22, .inr (8, fSightings (fun k => q (22 + k)))), (q 23, .inl (cy 0, 20, .inl (fun _ => 0))), (q 24, .inl (cy 0, 20, .inl (fun _ => 0))), (q 25, .inl (cy 0, 20, .inl (fun _ => 0))), (q 26, .inl (cy 0, 20, .inl (fun _ => 0))), (q 27, .inl (cy 0, 20, .inl (fun _ => 0))), (q 28, .inl (cy 0, 20, .inl (fun _ => 0))), (q 29, .inl (cy 0, 20, .inl (fun _ => 0))), (q 30, .inr (6, fSecrets (fun k => q (30 + k)))), (q 31, .inl (cy 0, 10, .inl (fun _ => 0))), (q 32, .inl (cy 0, 10, .inl (fun _ => 0))), (q 33, .inl (cy 0, 16, .inl (fun _ => 0))), (q 34, .inl (cy 0, 10, .inl (fun _ => 0))), (q 35, .inl (cy 0, 10, .inl (fun _ => 0))), (q 36, .inl (cy 0, 10, .inl (fun _ => 0))), (q 37, .inl (cy 0, 5, .inl (fun _ => 0))), (q 38, .inl (cy 0, 5, .inl (fun _ => 0))), (q 39, .inl (cy 0, 25, .inl (fun _ => 0))), (q 40, .inl (cy 0, 32, .inl (fun _ => 0))), (t 0, .inr (1, fHall t)), (t 1, .inr (10, fThings (fun k => t (1 + k)))), (t 2, .inl (cy 0, 30, .inl (fun _ => 0))), (t 3, .inl (cy 0, 30, .inl (fun _ => 0))), (t 4, .inl (cy 0, 30, .inl (fun _ => 0))), (t 5, .inl (cy 0, 30, .inl (fun _ => 0))), (t 6, .inl (cy 0, 30, .inl (fun _ => 0))), (t 7, .inl (cy 0, 30, .inl (fun _ => 0))), (t 8, .inl (cy 0, 30, .inl (fun _ => 0))), (t 9, .inr (2, fLadies (fun k => t (9 + k)))), (t 10, .inl (cy 0, 5, .inl (fun _ => 0))), (t 11, .inl (cy 0, 5, .inl (fun _ => 0))), (t 12, .inl (cy 0, 5, .inl (fun _ => 0))), (t 13, .inr (3, fLaws (fun k => t (13 + k)))), (t 14, .inl (cy 0, 30, .inl (fun _ => 0))), (t 15, .inl (cy 0, 5, .inl (fun _ => 0))), (t 16, .inr (0, fBuyers (fun k => t (16 + k)))), (t 17, .inl (cy 0, 12, .inl (fun _ => 0))), (t 18, .inl (cy 0, 12, .inl (fun _ => 0))), (t 19, .inl (cy 0, 12, .inl (fun _ => 0))), (t 20, .inl (cy 0, 12, .inl (fun _ => 0))), (t 21, .inl (cy 0, 12, .inl (fun _ => 0))), (t 22, .inr (8, fSightings (fun k => t (22 + k)))), (t 23, .inl (cy 0, 20, .inl (fun _ => 0))), (t 24, .inl (cy 0, 20, .inl (fun _ => 0))), (t 25, .inl (cy 0, 20, .inl (fun _ => 0))), (t 26, .inl (cy 0, 20, .inl (fun _ => 0))), (t 27, .inl (cy 0, 20, .inl (fun _ => 0))), (t 28, .inl (cy 0, 20, .inl (fun _ => 0))), (t 29, .inl (cy 0, 20, .inl (fun _ => 0))), (t 30, .inr (6, fSecrets (fun k => t (30 + k)))), (t 31, .inl (cy 0, 10, .inl (fun _ => 0))), (t 32, .inl (cy 0, 10, .inl (fun _ => 0))), (t 33, .inl (cy 0, 16, .inl (fun _ => 0))), (t 34, .inl (cy 0, 10, .inl (fun _ => 0))), (t 35, .inl (cy 0, 10, .inl (fun _ => 0))), (t 36, .inl (cy 0, 10, .inl (fun _ => 0))), (t 37, .inl (cy 0, 5, .inl (fun _ => 0))), (t 38, .inl (cy 0, 5, .inl (fun _ => 0))), (t 39, .inl (cy 0, 25, .inl (fun _ => 0))), (t 40, .inl (cy 0, 32, .inl (fun _ => 0)))] := hD
  refine lv_aload_n hx hb dd_X1_become_0 rfl (lv_at hl 0 rfl) ?_
  refine wk_get (v := .ref (q 1)) Sx ef_1 hK hP 0 rfl rfl 0 (by decide) kk_258 rfl dd_X1_become_1 ?_
  refine lv_aload_n hx hb dd_X1_become_4 rfl (lv_at hl 1 rfl) ?_
  refine wk_get (v := .ref (t 1)) Sx ef_1 hK hP 41 rfl rfl 0 (by decide) kk_258 rfl dd_X1_become_5 ?_
  refine hk_v (wr := [(q 0, .inr (1, fHall q)), (q 9, .inr (2, fLadies (fun k => q (9 + k)))), (q 10, .inl (cy 0, 5, .inl (fun _ => 0))), (q 11, .inl (cy 0, 5, .inl (fun _ => 0))), (q 12, .inl (cy 0, 5, .inl (fun _ => 0))), (q 13, .inr (3, fLaws (fun k => q (13 + k)))), (q 14, .inl (cy 0, 30, .inl (fun _ => 0))), (q 15, .inl (cy 0, 5, .inl (fun _ => 0))), (q 16, .inr (0, fBuyers (fun k => q (16 + k)))), (q 17, .inl (cy 0, 12, .inl (fun _ => 0))), (q 18, .inl (cy 0, 12, .inl (fun _ => 0))), (q 19, .inl (cy 0, 12, .inl (fun _ => 0))), (q 20, .inl (cy 0, 12, .inl (fun _ => 0))), (q 21, .inl (cy 0, 12, .inl (fun _ => 0))), (q 22, .inr (8, fSightings (fun k => q (22 + k)))), (q 23, .inl (cy 0, 20, .inl (fun _ => 0))), (q 24, .inl (cy 0, 20, .inl (fun _ => 0))), (q 25, .inl (cy 0, 20, .inl (fun _ => 0))), (q 26, .inl (cy 0, 20, .inl (fun _ => 0))), (q 27, .inl (cy 0, 20, .inl (fun _ => 0))), (q 28, .inl (cy 0, 20, .inl (fun _ => 0))), (q 29, .inl (cy 0, 20, .inl (fun _ => 0))), (q 30, .inr (6, fSecrets (fun k => q (30 + k)))), (q 31, .inl (cy 0, 10, .inl (fun _ => 0))), (q 32, .inl (cy 0, 10, .inl (fun _ => 0))), (q 33, .inl (cy 0, 16, .inl (fun _ => 0))), (q 34, .inl (cy 0, 10, .inl (fun _ => 0))), (q 35, .inl (cy 0, 10, .inl (fun _ => 0))), (q 36, .inl (cy 0, 10, .inl (fun _ => 0))), (q 37, .inl (cy 0, 5, .inl (fun _ => 0))), (q 38, .inl (cy 0, 5, .inl (fun _ => 0))), (q 39, .inl (cy 0, 25, .inl (fun _ => 0))), (q 40, .inl (cy 0, 32, .inl (fun _ => 0))), (t 0, .inr (1, fHall t)), (t 9, .inr (2, fLadies (fun k => t (9 + k)))), (t 10, .inl (cy 0, 5, .inl (fun _ => 0))), (t 11, .inl (cy 0, 5, .inl (fun _ => 0))), (t 12, .inl (cy 0, 5, .inl (fun _ => 0))), (t 13, .inr (3, fLaws (fun k => t (13 + k)))), (t 14, .inl (cy 0, 30, .inl (fun _ => 0))), (t 15, .inl (cy 0, 5, .inl (fun _ => 0))), (t 16, .inr (0, fBuyers (fun k => t (16 + k)))), (t 17, .inl (cy 0, 12, .inl (fun _ => 0))), (t 18, .inl (cy 0, 12, .inl (fun _ => 0))), (t 19, .inl (cy 0, 12, .inl (fun _ => 0))), (t 20, .inl (cy 0, 12, .inl (fun _ => 0))), (t 21, .inl (cy 0, 12, .inl (fun _ => 0))), (t 22, .inr (8, fSightings (fun k => t (22 + k)))), (t 23, .inl (cy 0, 20, .inl (fun _ => 0))), (t 24, .inl (cy 0, 20, .inl (fun _ => 0))), (t 25, .inl (cy 0, 20, .inl (fun _ => 0))), (t 26, .inl (cy 0, 20, .inl (fun _ => 0))), (t 27, .inl (cy 0, 20, .inl (fun _ => 0))), (t 28, .inl (cy 0, 20, .inl (fun _ => 0))), (t 29, .inl (cy 0, 20, .inl (fun _ => 0))), (t 30, .inr (6, fSecrets (fun k => t (30 + k)))), (t 31, .inl (cy 0, 10, .inl (fun _ => 0))), (t 32, .inl (cy 0, 10, .inl (fun _ => 0))), (t 33, .inl (cy 0, 16, .inl (fun _ => 0))), (t 34, .inl (cy 0, 10, .inl (fun _ => 0))), (t 35, .inl (cy 0, 10, .inl (fun _ => 0))), (t 36, .inl (cy 0, 10, .inl (fun _ => 0))), (t 37, .inl (cy 0, 5, .inl (fun _ => 0))), (t 38, .inl (cy 0, 5, .inl (fun _ => 0))), (t 39, .inl (cy 0, 25, .inl (fun _ => 0))), (t 40, .inl (cy 0, 32, .inl (fun _ => 0)))]) (c1 := 0) (s1 := 0) [1, 2, 3, 4, 5, 6, 7, 8, 42, 43, 44, 45, 46, 47, 48, 49] [0, 9, 10, 11, 12, 13, 14, 15, 16, 17, 18, 19, 20, 21, 22, 23, 24, 25, 26, 27, 28, 29, 30, 31, 32, 33, 34, 35, 36, 37, 38, 39, 40, 41, 50, 51, 52, 53, 54, 55, 56, 57, 58, 59, 60, 61, 62, 63, 64, 65, 66, 67, 68, 69, 70, 71, 72, 73, 74, 75, 76, 77, 78, 79, 80, 81] (hc_V [.ref (t 1)] [] [1, 2, 3, 4, 5, 6, 7, 8, 42, 43, 44, 45, 46, 47, 48, 49] Sx hl.1 ws_Hall_145 md_X10_become (c_Things_become l D cy (fun k => q (1 + k)) (fun k => t (1 + k))) ⟨Nat.le_of_ble_eq_true rfl, Nat.le_of_ble_eq_true rfl⟩ hP hD rfl (by decide) hK nx_b (nx_w hX) (va_recv hK hP (ci := 10) (q0 := 1) rfl rfl) rfl rfl (Nat.le_of_ble_eq_true rfl) dd_X1_become_8 ⟨Nat.le_of_ble_eq_true rfl, Nat.le_of_ble_eq_true rfl⟩) hS hA hP hD rfl rfl (by decide) (by decide) rfl rfl (fun u2 H locs hw3 hP hD hS => ?_)
  have hP : va_P D cls [(q 0, .inr (1, fHall q)), (q 9, .inr (2, fLadies (fun k => q (9 + k)))), (q 10, .inl (cy 0, 5, .inl (fun _ => 0))), (q 11, .inl (cy 0, 5, .inl (fun _ => 0))), (q 12, .inl (cy 0, 5, .inl (fun _ => 0))), (q 13, .inr (3, fLaws (fun k => q (13 + k)))), (q 14, .inl (cy 0, 30, .inl (fun _ => 0))), (q 15, .inl (cy 0, 5, .inl (fun _ => 0))), (q 16, .inr (0, fBuyers (fun k => q (16 + k)))), (q 17, .inl (cy 0, 12, .inl (fun _ => 0))), (q 18, .inl (cy 0, 12, .inl (fun _ => 0))), (q 19, .inl (cy 0, 12, .inl (fun _ => 0))), (q 20, .inl (cy 0, 12, .inl (fun _ => 0))), (q 21, .inl (cy 0, 12, .inl (fun _ => 0))), (q 22, .inr (8, fSightings (fun k => q (22 + k)))), (q 23, .inl (cy 0, 20, .inl (fun _ => 0))), (q 24, .inl (cy 0, 20, .inl (fun _ => 0))), (q 25, .inl (cy 0, 20, .inl (fun _ => 0))), (q 26, .inl (cy 0, 20, .inl (fun _ => 0))), (q 27, .inl (cy 0, 20, .inl (fun _ => 0))), (q 28, .inl (cy 0, 20, .inl (fun _ => 0))), (q 29, .inl (cy 0, 20, .inl (fun _ => 0))), (q 30, .inr (6, fSecrets (fun k => q (30 + k)))), (q 31, .inl (cy 0, 10, .inl (fun _ => 0))), (q 32, .inl (cy 0, 10, .inl (fun _ => 0))), (q 33, .inl (cy 0, 16, .inl (fun _ => 0))), (q 34, .inl (cy 0, 10, .inl (fun _ => 0))), (q 35, .inl (cy 0, 10, .inl (fun _ => 0))), (q 36, .inl (cy 0, 10, .inl (fun _ => 0))), (q 37, .inl (cy 0, 5, .inl (fun _ => 0))), (q 38, .inl (cy 0, 5, .inl (fun _ => 0))), (q 39, .inl (cy 0, 25, .inl (fun _ => 0))), (q 40, .inl (cy 0, 32, .inl (fun _ => 0))), (t 0, .inr (1, fHall t)), (t 9, .inr (2, fLadies (fun k => t (9 + k)))), (t 10, .inl (cy 0, 5, .inl (fun _ => 0))), (t 11, .inl (cy 0, 5, .inl (fun _ => 0))), (t 12, .inl (cy 0, 5, .inl (fun _ => 0))), (t 13, .inr (3, fLaws (fun k => t (13 + k)))), (t 14, .inl (cy 0, 30, .inl (fun _ => 0))), (t 15, .inl (cy 0, 5, .inl (fun _ => 0))), (t 16, .inr (0, fBuyers (fun k => t (16 + k)))), (t 17, .inl (cy 0, 12, .inl (fun _ => 0))), (t 18, .inl (cy 0, 12, .inl (fun _ => 0))), (t 19, .inl (cy 0, 12, .inl (fun _ => 0))), (t 20, .inl (cy 0, 12, .inl (fun _ => 0))), (t 21, .inl (cy 0, 12, .inl (fun _ => 0))), (t 22, .inr (8, fSightings (fun k => t (22 + k)))), (t 23, .inl (cy 0, 20, .inl (fun _ => 0))), (t 24, .inl (cy 0, 20, .inl (fun _ => 0))), (t 25, .inl (cy 0, 20, .inl (fun _ => 0))), (t 26, .inl (cy 0, 20, .inl (fun _ => 0))), (t 27, .inl (cy 0, 20, .inl (fun _ => 0))), (t 28, .inl (cy 0, 20, .inl (fun _ => 0))), (t 29, .inl (cy 0, 20, .inl (fun _ => 0))), (t 30, .inr (6, fSecrets (fun k => t (30 + k)))), (t 31, .inl (cy 0, 10, .inl (fun _ => 0))), (t 32, .inl (cy 0, 10, .inl (fun _ => 0))), (t 33, .inl (cy 0, 16, .inl (fun _ => 0))), (t 34, .inl (cy 0, 10, .inl (fun _ => 0))), (t 35, .inl (cy 0, 10, .inl (fun _ => 0))), (t 36, .inl (cy 0, 10, .inl (fun _ => 0))), (t 37, .inl (cy 0, 5, .inl (fun _ => 0))), (t 38, .inl (cy 0, 5, .inl (fun _ => 0))), (t 39, .inl (cy 0, 25, .inl (fun _ => 0))), (t 40, .inl (cy 0, 32, .inl (fun _ => 0)))] H := hP
  have hD : va_D A [(q 0, .inr (1, fHall q)), (q 9, .inr (2, fLadies (fun k => q (9 + k)))), (q 10, .inl (cy 0, 5, .inl (fun _ => 0))), (q 11, .inl (cy 0, 5, .inl (fun _ => 0))), (q 12, .inl (cy 0, 5, .inl (fun _ => 0))), (q 13, .inr (3, fLaws (fun k => q (13 + k)))), (q 14, .inl (cy 0, 30, .inl (fun _ => 0))), (q 15, .inl (cy 0, 5, .inl (fun _ => 0))), (q 16, .inr (0, fBuyers (fun k => q (16 + k)))), (q 17, .inl (cy 0, 12, .inl (fun _ => 0))), (q 18, .inl (cy 0, 12, .inl (fun _ => 0))), (q 19, .inl (cy 0, 12, .inl (fun _ => 0))), (q 20, .inl (cy 0, 12, .inl (fun _ => 0))), (q 21, .inl (cy 0, 12, .inl (fun _ => 0))), (q 22, .inr (8, fSightings (fun k => q (22 + k)))), (q 23, .inl (cy 0, 20, .inl (fun _ => 0))), (q 24, .inl (cy 0, 20, .inl (fun _ => 0))), (q 25, .inl (cy 0, 20, .inl (fun _ => 0))), (q 26, .inl (cy 0, 20, .inl (fun _ => 0))), (q 27, .inl (cy 0, 20, .inl (fun _ => 0))), (q 28, .inl (cy 0, 20, .inl (fun _ => 0))), (q 29, .inl (cy 0, 20, .inl (fun _ => 0))), (q 30, .inr (6, fSecrets (fun k => q (30 + k)))), (q 31, .inl (cy 0, 10, .inl (fun _ => 0))), (q 32, .inl (cy 0, 10, .inl (fun _ => 0))), (q 33, .inl (cy 0, 16, .inl (fun _ => 0))), (q 34, .inl (cy 0, 10, .inl (fun _ => 0))), (q 35, .inl (cy 0, 10, .inl (fun _ => 0))), (q 36, .inl (cy 0, 10, .inl (fun _ => 0))), (q 37, .inl (cy 0, 5, .inl (fun _ => 0))), (q 38, .inl (cy 0, 5, .inl (fun _ => 0))), (q 39, .inl (cy 0, 25, .inl (fun _ => 0))), (q 40, .inl (cy 0, 32, .inl (fun _ => 0))), (t 0, .inr (1, fHall t)), (t 9, .inr (2, fLadies (fun k => t (9 + k)))), (t 10, .inl (cy 0, 5, .inl (fun _ => 0))), (t 11, .inl (cy 0, 5, .inl (fun _ => 0))), (t 12, .inl (cy 0, 5, .inl (fun _ => 0))), (t 13, .inr (3, fLaws (fun k => t (13 + k)))), (t 14, .inl (cy 0, 30, .inl (fun _ => 0))), (t 15, .inl (cy 0, 5, .inl (fun _ => 0))), (t 16, .inr (0, fBuyers (fun k => t (16 + k)))), (t 17, .inl (cy 0, 12, .inl (fun _ => 0))), (t 18, .inl (cy 0, 12, .inl (fun _ => 0))), (t 19, .inl (cy 0, 12, .inl (fun _ => 0))), (t 20, .inl (cy 0, 12, .inl (fun _ => 0))), (t 21, .inl (cy 0, 12, .inl (fun _ => 0))), (t 22, .inr (8, fSightings (fun k => t (22 + k)))), (t 23, .inl (cy 0, 20, .inl (fun _ => 0))), (t 24, .inl (cy 0, 20, .inl (fun _ => 0))), (t 25, .inl (cy 0, 20, .inl (fun _ => 0))), (t 26, .inl (cy 0, 20, .inl (fun _ => 0))), (t 27, .inl (cy 0, 20, .inl (fun _ => 0))), (t 28, .inl (cy 0, 20, .inl (fun _ => 0))), (t 29, .inl (cy 0, 20, .inl (fun _ => 0))), (t 30, .inr (6, fSecrets (fun k => t (30 + k)))), (t 31, .inl (cy 0, 10, .inl (fun _ => 0))), (t 32, .inl (cy 0, 10, .inl (fun _ => 0))), (t 33, .inl (cy 0, 16, .inl (fun _ => 0))), (t 34, .inl (cy 0, 10, .inl (fun _ => 0))), (t 35, .inl (cy 0, 10, .inl (fun _ => 0))), (t 36, .inl (cy 0, 10, .inl (fun _ => 0))), (t 37, .inl (cy 0, 5, .inl (fun _ => 0))), (t 38, .inl (cy 0, 5, .inl (fun _ => 0))), (t 39, .inl (cy 0, 25, .inl (fun _ => 0))), (t 40, .inl (cy 0, 32, .inl (fun _ => 0)))] := hD
  refine lv_aload_n hx hb dd_X1_become_11 rfl (lv_at hl 0 rfl) ?_
  refine wk_get (v := .ref (q 9)) Sx ef_1 hK hP 0 rfl rfl 1 (by decide) kk_261 rfl dd_X1_become_12 ?_
  refine lv_aload_n hx hb dd_X1_become_15 rfl (lv_at hl 1 rfl) ?_
  refine wk_get (v := .ref (t 9)) Sx ef_1 hK hP 33 rfl rfl 1 (by decide) kk_261 rfl dd_X1_become_16 ?_
  refine hk_v (wr := [(q 0, .inr (1, fHall q)), (q 13, .inr (3, fLaws (fun k => q (13 + k)))), (q 14, .inl (cy 0, 30, .inl (fun _ => 0))), (q 15, .inl (cy 0, 5, .inl (fun _ => 0))), (q 16, .inr (0, fBuyers (fun k => q (16 + k)))), (q 17, .inl (cy 0, 12, .inl (fun _ => 0))), (q 18, .inl (cy 0, 12, .inl (fun _ => 0))), (q 19, .inl (cy 0, 12, .inl (fun _ => 0))), (q 20, .inl (cy 0, 12, .inl (fun _ => 0))), (q 21, .inl (cy 0, 12, .inl (fun _ => 0))), (q 22, .inr (8, fSightings (fun k => q (22 + k)))), (q 23, .inl (cy 0, 20, .inl (fun _ => 0))), (q 24, .inl (cy 0, 20, .inl (fun _ => 0))), (q 25, .inl (cy 0, 20, .inl (fun _ => 0))), (q 26, .inl (cy 0, 20, .inl (fun _ => 0))), (q 27, .inl (cy 0, 20, .inl (fun _ => 0))), (q 28, .inl (cy 0, 20, .inl (fun _ => 0))), (q 29, .inl (cy 0, 20, .inl (fun _ => 0))), (q 30, .inr (6, fSecrets (fun k => q (30 + k)))), (q 31, .inl (cy 0, 10, .inl (fun _ => 0))), (q 32, .inl (cy 0, 10, .inl (fun _ => 0))), (q 33, .inl (cy 0, 16, .inl (fun _ => 0))), (q 34, .inl (cy 0, 10, .inl (fun _ => 0))), (q 35, .inl (cy 0, 10, .inl (fun _ => 0))), (q 36, .inl (cy 0, 10, .inl (fun _ => 0))), (q 37, .inl (cy 0, 5, .inl (fun _ => 0))), (q 38, .inl (cy 0, 5, .inl (fun _ => 0))), (q 39, .inl (cy 0, 25, .inl (fun _ => 0))), (q 40, .inl (cy 0, 32, .inl (fun _ => 0))), (t 0, .inr (1, fHall t)), (t 13, .inr (3, fLaws (fun k => t (13 + k)))), (t 14, .inl (cy 0, 30, .inl (fun _ => 0))), (t 15, .inl (cy 0, 5, .inl (fun _ => 0))), (t 16, .inr (0, fBuyers (fun k => t (16 + k)))), (t 17, .inl (cy 0, 12, .inl (fun _ => 0))), (t 18, .inl (cy 0, 12, .inl (fun _ => 0))), (t 19, .inl (cy 0, 12, .inl (fun _ => 0))), (t 20, .inl (cy 0, 12, .inl (fun _ => 0))), (t 21, .inl (cy 0, 12, .inl (fun _ => 0))), (t 22, .inr (8, fSightings (fun k => t (22 + k)))), (t 23, .inl (cy 0, 20, .inl (fun _ => 0))), (t 24, .inl (cy 0, 20, .inl (fun _ => 0))), (t 25, .inl (cy 0, 20, .inl (fun _ => 0))), (t 26, .inl (cy 0, 20, .inl (fun _ => 0))), (t 27, .inl (cy 0, 20, .inl (fun _ => 0))), (t 28, .inl (cy 0, 20, .inl (fun _ => 0))), (t 29, .inl (cy 0, 20, .inl (fun _ => 0))), (t 30, .inr (6, fSecrets (fun k => t (30 + k)))), (t 31, .inl (cy 0, 10, .inl (fun _ => 0))), (t 32, .inl (cy 0, 10, .inl (fun _ => 0))), (t 33, .inl (cy 0, 16, .inl (fun _ => 0))), (t 34, .inl (cy 0, 10, .inl (fun _ => 0))), (t 35, .inl (cy 0, 10, .inl (fun _ => 0))), (t 36, .inl (cy 0, 10, .inl (fun _ => 0))), (t 37, .inl (cy 0, 5, .inl (fun _ => 0))), (t 38, .inl (cy 0, 5, .inl (fun _ => 0))), (t 39, .inl (cy 0, 25, .inl (fun _ => 0))), (t 40, .inl (cy 0, 32, .inl (fun _ => 0)))]) (c1 := 0) (s1 := 0) [1, 2, 3, 4, 34, 35, 36, 37] [0, 5, 6, 7, 8, 9, 10, 11, 12, 13, 14, 15, 16, 17, 18, 19, 20, 21, 22, 23, 24, 25, 26, 27, 28, 29, 30, 31, 32, 33, 38, 39, 40, 41, 42, 43, 44, 45, 46, 47, 48, 49, 50, 51, 52, 53, 54, 55, 56, 57, 58, 59, 60, 61, 62, 63, 64, 65] (hc_V [.ref (t 9)] [] [1, 2, 3, 4, 34, 35, 36, 37] Sx hl.1 ws_Hall_149 md_X2_become (c_Ladies_become l D cy (fun k => q (9 + k)) (fun k => t (9 + k))) ⟨Nat.le_of_ble_eq_true rfl, Nat.le_of_ble_eq_true rfl⟩ hP hD rfl (by decide) hK nx_b (nx_w hX) (va_recv hK hP (ci := 2) (q0 := 1) rfl rfl) rfl rfl (Nat.le_of_ble_eq_true rfl) dd_X1_become_19 ⟨Nat.le_of_ble_eq_true rfl, Nat.le_of_ble_eq_true rfl⟩) hS hA hP hD rfl rfl (by decide) (by decide) rfl rfl (fun u5 H locs hw6 hP hD hS => ?_)
  have hP : va_P D cls [(q 0, .inr (1, fHall q)), (q 13, .inr (3, fLaws (fun k => q (13 + k)))), (q 14, .inl (cy 0, 30, .inl (fun _ => 0))), (q 15, .inl (cy 0, 5, .inl (fun _ => 0))), (q 16, .inr (0, fBuyers (fun k => q (16 + k)))), (q 17, .inl (cy 0, 12, .inl (fun _ => 0))), (q 18, .inl (cy 0, 12, .inl (fun _ => 0))), (q 19, .inl (cy 0, 12, .inl (fun _ => 0))), (q 20, .inl (cy 0, 12, .inl (fun _ => 0))), (q 21, .inl (cy 0, 12, .inl (fun _ => 0))), (q 22, .inr (8, fSightings (fun k => q (22 + k)))), (q 23, .inl (cy 0, 20, .inl (fun _ => 0))), (q 24, .inl (cy 0, 20, .inl (fun _ => 0))), (q 25, .inl (cy 0, 20, .inl (fun _ => 0))), (q 26, .inl (cy 0, 20, .inl (fun _ => 0))), (q 27, .inl (cy 0, 20, .inl (fun _ => 0))), (q 28, .inl (cy 0, 20, .inl (fun _ => 0))), (q 29, .inl (cy 0, 20, .inl (fun _ => 0))), (q 30, .inr (6, fSecrets (fun k => q (30 + k)))), (q 31, .inl (cy 0, 10, .inl (fun _ => 0))), (q 32, .inl (cy 0, 10, .inl (fun _ => 0))), (q 33, .inl (cy 0, 16, .inl (fun _ => 0))), (q 34, .inl (cy 0, 10, .inl (fun _ => 0))), (q 35, .inl (cy 0, 10, .inl (fun _ => 0))), (q 36, .inl (cy 0, 10, .inl (fun _ => 0))), (q 37, .inl (cy 0, 5, .inl (fun _ => 0))), (q 38, .inl (cy 0, 5, .inl (fun _ => 0))), (q 39, .inl (cy 0, 25, .inl (fun _ => 0))), (q 40, .inl (cy 0, 32, .inl (fun _ => 0))), (t 0, .inr (1, fHall t)), (t 13, .inr (3, fLaws (fun k => t (13 + k)))), (t 14, .inl (cy 0, 30, .inl (fun _ => 0))), (t 15, .inl (cy 0, 5, .inl (fun _ => 0))), (t 16, .inr (0, fBuyers (fun k => t (16 + k)))), (t 17, .inl (cy 0, 12, .inl (fun _ => 0))), (t 18, .inl (cy 0, 12, .inl (fun _ => 0))), (t 19, .inl (cy 0, 12, .inl (fun _ => 0))), (t 20, .inl (cy 0, 12, .inl (fun _ => 0))), (t 21, .inl (cy 0, 12, .inl (fun _ => 0))), (t 22, .inr (8, fSightings (fun k => t (22 + k)))), (t 23, .inl (cy 0, 20, .inl (fun _ => 0))), (t 24, .inl (cy 0, 20, .inl (fun _ => 0))), (t 25, .inl (cy 0, 20, .inl (fun _ => 0))), (t 26, .inl (cy 0, 20, .inl (fun _ => 0))), (t 27, .inl (cy 0, 20, .inl (fun _ => 0))), (t 28, .inl (cy 0, 20, .inl (fun _ => 0))), (t 29, .inl (cy 0, 20, .inl (fun _ => 0))), (t 30, .inr (6, fSecrets (fun k => t (30 + k)))), (t 31, .inl (cy 0, 10, .inl (fun _ => 0))), (t 32, .inl (cy 0, 10, .inl (fun _ => 0))), (t 33, .inl (cy 0, 16, .inl (fun _ => 0))), (t 34, .inl (cy 0, 10, .inl (fun _ => 0))), (t 35, .inl (cy 0, 10, .inl (fun _ => 0))), (t 36, .inl (cy 0, 10, .inl (fun _ => 0))), (t 37, .inl (cy 0, 5, .inl (fun _ => 0))), (t 38, .inl (cy 0, 5, .inl (fun _ => 0))), (t 39, .inl (cy 0, 25, .inl (fun _ => 0))), (t 40, .inl (cy 0, 32, .inl (fun _ => 0)))] H := hP
  have hD : va_D A [(q 0, .inr (1, fHall q)), (q 13, .inr (3, fLaws (fun k => q (13 + k)))), (q 14, .inl (cy 0, 30, .inl (fun _ => 0))), (q 15, .inl (cy 0, 5, .inl (fun _ => 0))), (q 16, .inr (0, fBuyers (fun k => q (16 + k)))), (q 17, .inl (cy 0, 12, .inl (fun _ => 0))), (q 18, .inl (cy 0, 12, .inl (fun _ => 0))), (q 19, .inl (cy 0, 12, .inl (fun _ => 0))), (q 20, .inl (cy 0, 12, .inl (fun _ => 0))), (q 21, .inl (cy 0, 12, .inl (fun _ => 0))), (q 22, .inr (8, fSightings (fun k => q (22 + k)))), (q 23, .inl (cy 0, 20, .inl (fun _ => 0))), (q 24, .inl (cy 0, 20, .inl (fun _ => 0))), (q 25, .inl (cy 0, 20, .inl (fun _ => 0))), (q 26, .inl (cy 0, 20, .inl (fun _ => 0))), (q 27, .inl (cy 0, 20, .inl (fun _ => 0))), (q 28, .inl (cy 0, 20, .inl (fun _ => 0))), (q 29, .inl (cy 0, 20, .inl (fun _ => 0))), (q 30, .inr (6, fSecrets (fun k => q (30 + k)))), (q 31, .inl (cy 0, 10, .inl (fun _ => 0))), (q 32, .inl (cy 0, 10, .inl (fun _ => 0))), (q 33, .inl (cy 0, 16, .inl (fun _ => 0))), (q 34, .inl (cy 0, 10, .inl (fun _ => 0))), (q 35, .inl (cy 0, 10, .inl (fun _ => 0))), (q 36, .inl (cy 0, 10, .inl (fun _ => 0))), (q 37, .inl (cy 0, 5, .inl (fun _ => 0))), (q 38, .inl (cy 0, 5, .inl (fun _ => 0))), (q 39, .inl (cy 0, 25, .inl (fun _ => 0))), (q 40, .inl (cy 0, 32, .inl (fun _ => 0))), (t 0, .inr (1, fHall t)), (t 13, .inr (3, fLaws (fun k => t (13 + k)))), (t 14, .inl (cy 0, 30, .inl (fun _ => 0))), (t 15, .inl (cy 0, 5, .inl (fun _ => 0))), (t 16, .inr (0, fBuyers (fun k => t (16 + k)))), (t 17, .inl (cy 0, 12, .inl (fun _ => 0))), (t 18, .inl (cy 0, 12, .inl (fun _ => 0))), (t 19, .inl (cy 0, 12, .inl (fun _ => 0))), (t 20, .inl (cy 0, 12, .inl (fun _ => 0))), (t 21, .inl (cy 0, 12, .inl (fun _ => 0))), (t 22, .inr (8, fSightings (fun k => t (22 + k)))), (t 23, .inl (cy 0, 20, .inl (fun _ => 0))), (t 24, .inl (cy 0, 20, .inl (fun _ => 0))), (t 25, .inl (cy 0, 20, .inl (fun _ => 0))), (t 26, .inl (cy 0, 20, .inl (fun _ => 0))), (t 27, .inl (cy 0, 20, .inl (fun _ => 0))), (t 28, .inl (cy 0, 20, .inl (fun _ => 0))), (t 29, .inl (cy 0, 20, .inl (fun _ => 0))), (t 30, .inr (6, fSecrets (fun k => t (30 + k)))), (t 31, .inl (cy 0, 10, .inl (fun _ => 0))), (t 32, .inl (cy 0, 10, .inl (fun _ => 0))), (t 33, .inl (cy 0, 16, .inl (fun _ => 0))), (t 34, .inl (cy 0, 10, .inl (fun _ => 0))), (t 35, .inl (cy 0, 10, .inl (fun _ => 0))), (t 36, .inl (cy 0, 10, .inl (fun _ => 0))), (t 37, .inl (cy 0, 5, .inl (fun _ => 0))), (t 38, .inl (cy 0, 5, .inl (fun _ => 0))), (t 39, .inl (cy 0, 25, .inl (fun _ => 0))), (t 40, .inl (cy 0, 32, .inl (fun _ => 0)))] := hD
  refine lv_aload_n hx hb dd_X1_become_22 rfl (lv_at hl 0 rfl) ?_
  refine wk_get (v := .ref (q 13)) Sx ef_1 hK hP 0 rfl rfl 2 (by decide) kk_263 rfl dd_X1_become_23 ?_
  refine lv_aload_n hx hb dd_X1_become_26 rfl (lv_at hl 1 rfl) ?_
  refine wk_get (v := .ref (t 13)) Sx ef_1 hK hP 29 rfl rfl 2 (by decide) kk_263 rfl dd_X1_become_27 ?_
  refine hk_v (wr := [(q 0, .inr (1, fHall q)), (q 16, .inr (0, fBuyers (fun k => q (16 + k)))), (q 17, .inl (cy 0, 12, .inl (fun _ => 0))), (q 18, .inl (cy 0, 12, .inl (fun _ => 0))), (q 19, .inl (cy 0, 12, .inl (fun _ => 0))), (q 20, .inl (cy 0, 12, .inl (fun _ => 0))), (q 21, .inl (cy 0, 12, .inl (fun _ => 0))), (q 22, .inr (8, fSightings (fun k => q (22 + k)))), (q 23, .inl (cy 0, 20, .inl (fun _ => 0))), (q 24, .inl (cy 0, 20, .inl (fun _ => 0))), (q 25, .inl (cy 0, 20, .inl (fun _ => 0))), (q 26, .inl (cy 0, 20, .inl (fun _ => 0))), (q 27, .inl (cy 0, 20, .inl (fun _ => 0))), (q 28, .inl (cy 0, 20, .inl (fun _ => 0))), (q 29, .inl (cy 0, 20, .inl (fun _ => 0))), (q 30, .inr (6, fSecrets (fun k => q (30 + k)))), (q 31, .inl (cy 0, 10, .inl (fun _ => 0))), (q 32, .inl (cy 0, 10, .inl (fun _ => 0))), (q 33, .inl (cy 0, 16, .inl (fun _ => 0))), (q 34, .inl (cy 0, 10, .inl (fun _ => 0))), (q 35, .inl (cy 0, 10, .inl (fun _ => 0))), (q 36, .inl (cy 0, 10, .inl (fun _ => 0))), (q 37, .inl (cy 0, 5, .inl (fun _ => 0))), (q 38, .inl (cy 0, 5, .inl (fun _ => 0))), (q 39, .inl (cy 0, 25, .inl (fun _ => 0))), (q 40, .inl (cy 0, 32, .inl (fun _ => 0))), (t 0, .inr (1, fHall t)), (t 16, .inr (0, fBuyers (fun k => t (16 + k)))), (t 17, .inl (cy 0, 12, .inl (fun _ => 0))), (t 18, .inl (cy 0, 12, .inl (fun _ => 0))), (t 19, .inl (cy 0, 12, .inl (fun _ => 0))), (t 20, .inl (cy 0, 12, .inl (fun _ => 0))), (t 21, .inl (cy 0, 12, .inl (fun _ => 0))), (t 22, .inr (8, fSightings (fun k => t (22 + k)))), (t 23, .inl (cy 0, 20, .inl (fun _ => 0))), (t 24, .inl (cy 0, 20, .inl (fun _ => 0))), (t 25, .inl (cy 0, 20, .inl (fun _ => 0))), (t 26, .inl (cy 0, 20, .inl (fun _ => 0))), (t 27, .inl (cy 0, 20, .inl (fun _ => 0))), (t 28, .inl (cy 0, 20, .inl (fun _ => 0))), (t 29, .inl (cy 0, 20, .inl (fun _ => 0))), (t 30, .inr (6, fSecrets (fun k => t (30 + k)))), (t 31, .inl (cy 0, 10, .inl (fun _ => 0))), (t 32, .inl (cy 0, 10, .inl (fun _ => 0))), (t 33, .inl (cy 0, 16, .inl (fun _ => 0))), (t 34, .inl (cy 0, 10, .inl (fun _ => 0))), (t 35, .inl (cy 0, 10, .inl (fun _ => 0))), (t 36, .inl (cy 0, 10, .inl (fun _ => 0))), (t 37, .inl (cy 0, 5, .inl (fun _ => 0))), (t 38, .inl (cy 0, 5, .inl (fun _ => 0))), (t 39, .inl (cy 0, 25, .inl (fun _ => 0))), (t 40, .inl (cy 0, 32, .inl (fun _ => 0)))]) (c1 := 0) (s1 := 0) [1, 2, 3, 30, 31, 32] [0, 4, 5, 6, 7, 8, 9, 10, 11, 12, 13, 14, 15, 16, 17, 18, 19, 20, 21, 22, 23, 24, 25, 26, 27, 28, 29, 33, 34, 35, 36, 37, 38, 39, 40, 41, 42, 43, 44, 45, 46, 47, 48, 49, 50, 51, 52, 53, 54, 55, 56, 57] (hc_V [.ref (t 13)] [] [1, 2, 3, 30, 31, 32] Sx hl.1 ws_Hall_152 md_X3_become (c_Laws_become l D cy (fun k => q (13 + k)) (fun k => t (13 + k))) ⟨Nat.le_of_ble_eq_true rfl, Nat.le_of_ble_eq_true rfl⟩ hP hD rfl (by decide) hK nx_b (nx_w hX) (va_recv hK hP (ci := 3) (q0 := 1) rfl rfl) rfl rfl (Nat.le_of_ble_eq_true rfl) dd_X1_become_30 ⟨Nat.le_of_ble_eq_true rfl, Nat.le_of_ble_eq_true rfl⟩) hS hA hP hD rfl rfl (by decide) (by decide) rfl rfl (fun u8 H locs hw9 hP hD hS => ?_)
  have hP : va_P D cls [(q 0, .inr (1, fHall q)), (q 16, .inr (0, fBuyers (fun k => q (16 + k)))), (q 17, .inl (cy 0, 12, .inl (fun _ => 0))), (q 18, .inl (cy 0, 12, .inl (fun _ => 0))), (q 19, .inl (cy 0, 12, .inl (fun _ => 0))), (q 20, .inl (cy 0, 12, .inl (fun _ => 0))), (q 21, .inl (cy 0, 12, .inl (fun _ => 0))), (q 22, .inr (8, fSightings (fun k => q (22 + k)))), (q 23, .inl (cy 0, 20, .inl (fun _ => 0))), (q 24, .inl (cy 0, 20, .inl (fun _ => 0))), (q 25, .inl (cy 0, 20, .inl (fun _ => 0))), (q 26, .inl (cy 0, 20, .inl (fun _ => 0))), (q 27, .inl (cy 0, 20, .inl (fun _ => 0))), (q 28, .inl (cy 0, 20, .inl (fun _ => 0))), (q 29, .inl (cy 0, 20, .inl (fun _ => 0))), (q 30, .inr (6, fSecrets (fun k => q (30 + k)))), (q 31, .inl (cy 0, 10, .inl (fun _ => 0))), (q 32, .inl (cy 0, 10, .inl (fun _ => 0))), (q 33, .inl (cy 0, 16, .inl (fun _ => 0))), (q 34, .inl (cy 0, 10, .inl (fun _ => 0))), (q 35, .inl (cy 0, 10, .inl (fun _ => 0))), (q 36, .inl (cy 0, 10, .inl (fun _ => 0))), (q 37, .inl (cy 0, 5, .inl (fun _ => 0))), (q 38, .inl (cy 0, 5, .inl (fun _ => 0))), (q 39, .inl (cy 0, 25, .inl (fun _ => 0))), (q 40, .inl (cy 0, 32, .inl (fun _ => 0))), (t 0, .inr (1, fHall t)), (t 16, .inr (0, fBuyers (fun k => t (16 + k)))), (t 17, .inl (cy 0, 12, .inl (fun _ => 0))), (t 18, .inl (cy 0, 12, .inl (fun _ => 0))), (t 19, .inl (cy 0, 12, .inl (fun _ => 0))), (t 20, .inl (cy 0, 12, .inl (fun _ => 0))), (t 21, .inl (cy 0, 12, .inl (fun _ => 0))), (t 22, .inr (8, fSightings (fun k => t (22 + k)))), (t 23, .inl (cy 0, 20, .inl (fun _ => 0))), (t 24, .inl (cy 0, 20, .inl (fun _ => 0))), (t 25, .inl (cy 0, 20, .inl (fun _ => 0))), (t 26, .inl (cy 0, 20, .inl (fun _ => 0))), (t 27, .inl (cy 0, 20, .inl (fun _ => 0))), (t 28, .inl (cy 0, 20, .inl (fun _ => 0))), (t 29, .inl (cy 0, 20, .inl (fun _ => 0))), (t 30, .inr (6, fSecrets (fun k => t (30 + k)))), (t 31, .inl (cy 0, 10, .inl (fun _ => 0))), (t 32, .inl (cy 0, 10, .inl (fun _ => 0))), (t 33, .inl (cy 0, 16, .inl (fun _ => 0))), (t 34, .inl (cy 0, 10, .inl (fun _ => 0))), (t 35, .inl (cy 0, 10, .inl (fun _ => 0))), (t 36, .inl (cy 0, 10, .inl (fun _ => 0))), (t 37, .inl (cy 0, 5, .inl (fun _ => 0))), (t 38, .inl (cy 0, 5, .inl (fun _ => 0))), (t 39, .inl (cy 0, 25, .inl (fun _ => 0))), (t 40, .inl (cy 0, 32, .inl (fun _ => 0)))] H := hP
  have hD : va_D A [(q 0, .inr (1, fHall q)), (q 16, .inr (0, fBuyers (fun k => q (16 + k)))), (q 17, .inl (cy 0, 12, .inl (fun _ => 0))), (q 18, .inl (cy 0, 12, .inl (fun _ => 0))), (q 19, .inl (cy 0, 12, .inl (fun _ => 0))), (q 20, .inl (cy 0, 12, .inl (fun _ => 0))), (q 21, .inl (cy 0, 12, .inl (fun _ => 0))), (q 22, .inr (8, fSightings (fun k => q (22 + k)))), (q 23, .inl (cy 0, 20, .inl (fun _ => 0))), (q 24, .inl (cy 0, 20, .inl (fun _ => 0))), (q 25, .inl (cy 0, 20, .inl (fun _ => 0))), (q 26, .inl (cy 0, 20, .inl (fun _ => 0))), (q 27, .inl (cy 0, 20, .inl (fun _ => 0))), (q 28, .inl (cy 0, 20, .inl (fun _ => 0))), (q 29, .inl (cy 0, 20, .inl (fun _ => 0))), (q 30, .inr (6, fSecrets (fun k => q (30 + k)))), (q 31, .inl (cy 0, 10, .inl (fun _ => 0))), (q 32, .inl (cy 0, 10, .inl (fun _ => 0))), (q 33, .inl (cy 0, 16, .inl (fun _ => 0))), (q 34, .inl (cy 0, 10, .inl (fun _ => 0))), (q 35, .inl (cy 0, 10, .inl (fun _ => 0))), (q 36, .inl (cy 0, 10, .inl (fun _ => 0))), (q 37, .inl (cy 0, 5, .inl (fun _ => 0))), (q 38, .inl (cy 0, 5, .inl (fun _ => 0))), (q 39, .inl (cy 0, 25, .inl (fun _ => 0))), (q 40, .inl (cy 0, 32, .inl (fun _ => 0))), (t 0, .inr (1, fHall t)), (t 16, .inr (0, fBuyers (fun k => t (16 + k)))), (t 17, .inl (cy 0, 12, .inl (fun _ => 0))), (t 18, .inl (cy 0, 12, .inl (fun _ => 0))), (t 19, .inl (cy 0, 12, .inl (fun _ => 0))), (t 20, .inl (cy 0, 12, .inl (fun _ => 0))), (t 21, .inl (cy 0, 12, .inl (fun _ => 0))), (t 22, .inr (8, fSightings (fun k => t (22 + k)))), (t 23, .inl (cy 0, 20, .inl (fun _ => 0))), (t 24, .inl (cy 0, 20, .inl (fun _ => 0))), (t 25, .inl (cy 0, 20, .inl (fun _ => 0))), (t 26, .inl (cy 0, 20, .inl (fun _ => 0))), (t 27, .inl (cy 0, 20, .inl (fun _ => 0))), (t 28, .inl (cy 0, 20, .inl (fun _ => 0))), (t 29, .inl (cy 0, 20, .inl (fun _ => 0))), (t 30, .inr (6, fSecrets (fun k => t (30 + k)))), (t 31, .inl (cy 0, 10, .inl (fun _ => 0))), (t 32, .inl (cy 0, 10, .inl (fun _ => 0))), (t 33, .inl (cy 0, 16, .inl (fun _ => 0))), (t 34, .inl (cy 0, 10, .inl (fun _ => 0))), (t 35, .inl (cy 0, 10, .inl (fun _ => 0))), (t 36, .inl (cy 0, 10, .inl (fun _ => 0))), (t 37, .inl (cy 0, 5, .inl (fun _ => 0))), (t 38, .inl (cy 0, 5, .inl (fun _ => 0))), (t 39, .inl (cy 0, 25, .inl (fun _ => 0))), (t 40, .inl (cy 0, 32, .inl (fun _ => 0)))] := hD
  refine lv_aload_n hx hb dd_X1_become_33 rfl (lv_at hl 0 rfl) ?_
  refine wk_get (v := .ref (q 16)) Sx ef_1 hK hP 0 rfl rfl 3 (by decide) kk_265 rfl dd_X1_become_34 ?_
  refine lv_aload_n hx hb dd_X1_become_37 rfl (lv_at hl 1 rfl) ?_
  refine wk_get (v := .ref (t 16)) Sx ef_1 hK hP 26 rfl rfl 3 (by decide) kk_265 rfl dd_X1_become_38 ?_
  refine hk_v (wr := [(q 0, .inr (1, fHall q)), (q 22, .inr (8, fSightings (fun k => q (22 + k)))), (q 23, .inl (cy 0, 20, .inl (fun _ => 0))), (q 24, .inl (cy 0, 20, .inl (fun _ => 0))), (q 25, .inl (cy 0, 20, .inl (fun _ => 0))), (q 26, .inl (cy 0, 20, .inl (fun _ => 0))), (q 27, .inl (cy 0, 20, .inl (fun _ => 0))), (q 28, .inl (cy 0, 20, .inl (fun _ => 0))), (q 29, .inl (cy 0, 20, .inl (fun _ => 0))), (q 30, .inr (6, fSecrets (fun k => q (30 + k)))), (q 31, .inl (cy 0, 10, .inl (fun _ => 0))), (q 32, .inl (cy 0, 10, .inl (fun _ => 0))), (q 33, .inl (cy 0, 16, .inl (fun _ => 0))), (q 34, .inl (cy 0, 10, .inl (fun _ => 0))), (q 35, .inl (cy 0, 10, .inl (fun _ => 0))), (q 36, .inl (cy 0, 10, .inl (fun _ => 0))), (q 37, .inl (cy 0, 5, .inl (fun _ => 0))), (q 38, .inl (cy 0, 5, .inl (fun _ => 0))), (q 39, .inl (cy 0, 25, .inl (fun _ => 0))), (q 40, .inl (cy 0, 32, .inl (fun _ => 0))), (t 0, .inr (1, fHall t)), (t 22, .inr (8, fSightings (fun k => t (22 + k)))), (t 23, .inl (cy 0, 20, .inl (fun _ => 0))), (t 24, .inl (cy 0, 20, .inl (fun _ => 0))), (t 25, .inl (cy 0, 20, .inl (fun _ => 0))), (t 26, .inl (cy 0, 20, .inl (fun _ => 0))), (t 27, .inl (cy 0, 20, .inl (fun _ => 0))), (t 28, .inl (cy 0, 20, .inl (fun _ => 0))), (t 29, .inl (cy 0, 20, .inl (fun _ => 0))), (t 30, .inr (6, fSecrets (fun k => t (30 + k)))), (t 31, .inl (cy 0, 10, .inl (fun _ => 0))), (t 32, .inl (cy 0, 10, .inl (fun _ => 0))), (t 33, .inl (cy 0, 16, .inl (fun _ => 0))), (t 34, .inl (cy 0, 10, .inl (fun _ => 0))), (t 35, .inl (cy 0, 10, .inl (fun _ => 0))), (t 36, .inl (cy 0, 10, .inl (fun _ => 0))), (t 37, .inl (cy 0, 5, .inl (fun _ => 0))), (t 38, .inl (cy 0, 5, .inl (fun _ => 0))), (t 39, .inl (cy 0, 25, .inl (fun _ => 0))), (t 40, .inl (cy 0, 32, .inl (fun _ => 0)))]) (c1 := 0) (s1 := 0) [1, 2, 3, 4, 5, 6, 27, 28, 29, 30, 31, 32] [0, 7, 8, 9, 10, 11, 12, 13, 14, 15, 16, 17, 18, 19, 20, 21, 22, 23, 24, 25, 26, 33, 34, 35, 36, 37, 38, 39, 40, 41, 42, 43, 44, 45, 46, 47, 48, 49, 50, 51] (hc_V [.ref (t 16)] [] [1, 2, 3, 4, 5, 6, 27, 28, 29, 30, 31, 32] Sx hl.1 ws_Hall_155 md_X0_become (c_Buyers_become l D cy (fun k => q (16 + k)) (fun k => t (16 + k))) ⟨Nat.le_of_ble_eq_true rfl, Nat.le_of_ble_eq_true rfl⟩ hP hD rfl (by decide) hK nx_b (nx_w hX) (va_recv hK hP (ci := 0) (q0 := 1) rfl rfl) rfl rfl (Nat.le_of_ble_eq_true rfl) dd_X1_become_41 ⟨Nat.le_of_ble_eq_true rfl, Nat.le_of_ble_eq_true rfl⟩) hS hA hP hD rfl rfl (by decide) (by decide) rfl rfl (fun u11 H locs hw12 hP hD hS => ?_)
  have hP : va_P D cls [(q 0, .inr (1, fHall q)), (q 22, .inr (8, fSightings (fun k => q (22 + k)))), (q 23, .inl (cy 0, 20, .inl (fun _ => 0))), (q 24, .inl (cy 0, 20, .inl (fun _ => 0))), (q 25, .inl (cy 0, 20, .inl (fun _ => 0))), (q 26, .inl (cy 0, 20, .inl (fun _ => 0))), (q 27, .inl (cy 0, 20, .inl (fun _ => 0))), (q 28, .inl (cy 0, 20, .inl (fun _ => 0))), (q 29, .inl (cy 0, 20, .inl (fun _ => 0))), (q 30, .inr (6, fSecrets (fun k => q (30 + k)))), (q 31, .inl (cy 0, 10, .inl (fun _ => 0))), (q 32, .inl (cy 0, 10, .inl (fun _ => 0))), (q 33, .inl (cy 0, 16, .inl (fun _ => 0))), (q 34, .inl (cy 0, 10, .inl (fun _ => 0))), (q 35, .inl (cy 0, 10, .inl (fun _ => 0))), (q 36, .inl (cy 0, 10, .inl (fun _ => 0))), (q 37, .inl (cy 0, 5, .inl (fun _ => 0))), (q 38, .inl (cy 0, 5, .inl (fun _ => 0))), (q 39, .inl (cy 0, 25, .inl (fun _ => 0))), (q 40, .inl (cy 0, 32, .inl (fun _ => 0))), (t 0, .inr (1, fHall t)), (t 22, .inr (8, fSightings (fun k => t (22 + k)))), (t 23, .inl (cy 0, 20, .inl (fun _ => 0))), (t 24, .inl (cy 0, 20, .inl (fun _ => 0))), (t 25, .inl (cy 0, 20, .inl (fun _ => 0))), (t 26, .inl (cy 0, 20, .inl (fun _ => 0))), (t 27, .inl (cy 0, 20, .inl (fun _ => 0))), (t 28, .inl (cy 0, 20, .inl (fun _ => 0))), (t 29, .inl (cy 0, 20, .inl (fun _ => 0))), (t 30, .inr (6, fSecrets (fun k => t (30 + k)))), (t 31, .inl (cy 0, 10, .inl (fun _ => 0))), (t 32, .inl (cy 0, 10, .inl (fun _ => 0))), (t 33, .inl (cy 0, 16, .inl (fun _ => 0))), (t 34, .inl (cy 0, 10, .inl (fun _ => 0))), (t 35, .inl (cy 0, 10, .inl (fun _ => 0))), (t 36, .inl (cy 0, 10, .inl (fun _ => 0))), (t 37, .inl (cy 0, 5, .inl (fun _ => 0))), (t 38, .inl (cy 0, 5, .inl (fun _ => 0))), (t 39, .inl (cy 0, 25, .inl (fun _ => 0))), (t 40, .inl (cy 0, 32, .inl (fun _ => 0)))] H := hP
  have hD : va_D A [(q 0, .inr (1, fHall q)), (q 22, .inr (8, fSightings (fun k => q (22 + k)))), (q 23, .inl (cy 0, 20, .inl (fun _ => 0))), (q 24, .inl (cy 0, 20, .inl (fun _ => 0))), (q 25, .inl (cy 0, 20, .inl (fun _ => 0))), (q 26, .inl (cy 0, 20, .inl (fun _ => 0))), (q 27, .inl (cy 0, 20, .inl (fun _ => 0))), (q 28, .inl (cy 0, 20, .inl (fun _ => 0))), (q 29, .inl (cy 0, 20, .inl (fun _ => 0))), (q 30, .inr (6, fSecrets (fun k => q (30 + k)))), (q 31, .inl (cy 0, 10, .inl (fun _ => 0))), (q 32, .inl (cy 0, 10, .inl (fun _ => 0))), (q 33, .inl (cy 0, 16, .inl (fun _ => 0))), (q 34, .inl (cy 0, 10, .inl (fun _ => 0))), (q 35, .inl (cy 0, 10, .inl (fun _ => 0))), (q 36, .inl (cy 0, 10, .inl (fun _ => 0))), (q 37, .inl (cy 0, 5, .inl (fun _ => 0))), (q 38, .inl (cy 0, 5, .inl (fun _ => 0))), (q 39, .inl (cy 0, 25, .inl (fun _ => 0))), (q 40, .inl (cy 0, 32, .inl (fun _ => 0))), (t 0, .inr (1, fHall t)), (t 22, .inr (8, fSightings (fun k => t (22 + k)))), (t 23, .inl (cy 0, 20, .inl (fun _ => 0))), (t 24, .inl (cy 0, 20, .inl (fun _ => 0))), (t 25, .inl (cy 0, 20, .inl (fun _ => 0))), (t 26, .inl (cy 0, 20, .inl (fun _ => 0))), (t 27, .inl (cy 0, 20, .inl (fun _ => 0))), (t 28, .inl (cy 0, 20, .inl (fun _ => 0))), (t 29, .inl (cy 0, 20, .inl (fun _ => 0))), (t 30, .inr (6, fSecrets (fun k => t (30 + k)))), (t 31, .inl (cy 0, 10, .inl (fun _ => 0))), (t 32, .inl (cy 0, 10, .inl (fun _ => 0))), (t 33, .inl (cy 0, 16, .inl (fun _ => 0))), (t 34, .inl (cy 0, 10, .inl (fun _ => 0))), (t 35, .inl (cy 0, 10, .inl (fun _ => 0))), (t 36, .inl (cy 0, 10, .inl (fun _ => 0))), (t 37, .inl (cy 0, 5, .inl (fun _ => 0))), (t 38, .inl (cy 0, 5, .inl (fun _ => 0))), (t 39, .inl (cy 0, 25, .inl (fun _ => 0))), (t 40, .inl (cy 0, 32, .inl (fun _ => 0)))] := hD
  refine lv_aload_n hx hb dd_X1_become_44 rfl (lv_at hl 0 rfl) ?_
  refine wk_get (v := .ref (q 22)) Sx ef_1 hK hP 0 rfl rfl 4 (by decide) kk_268 rfl dd_X1_become_45 ?_
  refine lv_aload_n hx hb dd_X1_become_48 rfl (lv_at hl 1 rfl) ?_
  refine wk_get (v := .ref (t 22)) Sx ef_1 hK hP 20 rfl rfl 4 (by decide) kk_268 rfl dd_X1_become_49 ?_
  refine hk_v (wr := [(q 0, .inr (1, fHall q)), (q 30, .inr (6, fSecrets (fun k => q (30 + k)))), (q 31, .inl (cy 0, 10, .inl (fun _ => 0))), (q 32, .inl (cy 0, 10, .inl (fun _ => 0))), (q 33, .inl (cy 0, 16, .inl (fun _ => 0))), (q 34, .inl (cy 0, 10, .inl (fun _ => 0))), (q 35, .inl (cy 0, 10, .inl (fun _ => 0))), (q 36, .inl (cy 0, 10, .inl (fun _ => 0))), (q 37, .inl (cy 0, 5, .inl (fun _ => 0))), (q 38, .inl (cy 0, 5, .inl (fun _ => 0))), (q 39, .inl (cy 0, 25, .inl (fun _ => 0))), (q 40, .inl (cy 0, 32, .inl (fun _ => 0))), (t 0, .inr (1, fHall t)), (t 30, .inr (6, fSecrets (fun k => t (30 + k)))), (t 31, .inl (cy 0, 10, .inl (fun _ => 0))), (t 32, .inl (cy 0, 10, .inl (fun _ => 0))), (t 33, .inl (cy 0, 16, .inl (fun _ => 0))), (t 34, .inl (cy 0, 10, .inl (fun _ => 0))), (t 35, .inl (cy 0, 10, .inl (fun _ => 0))), (t 36, .inl (cy 0, 10, .inl (fun _ => 0))), (t 37, .inl (cy 0, 5, .inl (fun _ => 0))), (t 38, .inl (cy 0, 5, .inl (fun _ => 0))), (t 39, .inl (cy 0, 25, .inl (fun _ => 0))), (t 40, .inl (cy 0, 32, .inl (fun _ => 0)))]) (c1 := 0) (s1 := 0) [1, 2, 3, 4, 5, 6, 7, 8, 21, 22, 23, 24, 25, 26, 27, 28] [0, 9, 10, 11, 12, 13, 14, 15, 16, 17, 18, 19, 20, 29, 30, 31, 32, 33, 34, 35, 36, 37, 38, 39] (hc_V [.ref (t 22)] [] [1, 2, 3, 4, 5, 6, 7, 8, 21, 22, 23, 24, 25, 26, 27, 28] Sx hl.1 ws_Hall_158 md_X8_become (c_Sightings_become l D cy (fun k => q (22 + k)) (fun k => t (22 + k))) ⟨Nat.le_of_ble_eq_true rfl, Nat.le_of_ble_eq_true rfl⟩ hP hD rfl (by decide) hK nx_b (nx_w hX) (va_recv hK hP (ci := 8) (q0 := 1) rfl rfl) rfl rfl (Nat.le_of_ble_eq_true rfl) dd_X1_become_52 ⟨Nat.le_of_ble_eq_true rfl, Nat.le_of_ble_eq_true rfl⟩) hS hA hP hD rfl rfl (by decide) (by decide) rfl rfl (fun u14 H locs hw15 hP hD hS => ?_)
  have hP : va_P D cls [(q 0, .inr (1, fHall q)), (q 30, .inr (6, fSecrets (fun k => q (30 + k)))), (q 31, .inl (cy 0, 10, .inl (fun _ => 0))), (q 32, .inl (cy 0, 10, .inl (fun _ => 0))), (q 33, .inl (cy 0, 16, .inl (fun _ => 0))), (q 34, .inl (cy 0, 10, .inl (fun _ => 0))), (q 35, .inl (cy 0, 10, .inl (fun _ => 0))), (q 36, .inl (cy 0, 10, .inl (fun _ => 0))), (q 37, .inl (cy 0, 5, .inl (fun _ => 0))), (q 38, .inl (cy 0, 5, .inl (fun _ => 0))), (q 39, .inl (cy 0, 25, .inl (fun _ => 0))), (q 40, .inl (cy 0, 32, .inl (fun _ => 0))), (t 0, .inr (1, fHall t)), (t 30, .inr (6, fSecrets (fun k => t (30 + k)))), (t 31, .inl (cy 0, 10, .inl (fun _ => 0))), (t 32, .inl (cy 0, 10, .inl (fun _ => 0))), (t 33, .inl (cy 0, 16, .inl (fun _ => 0))), (t 34, .inl (cy 0, 10, .inl (fun _ => 0))), (t 35, .inl (cy 0, 10, .inl (fun _ => 0))), (t 36, .inl (cy 0, 10, .inl (fun _ => 0))), (t 37, .inl (cy 0, 5, .inl (fun _ => 0))), (t 38, .inl (cy 0, 5, .inl (fun _ => 0))), (t 39, .inl (cy 0, 25, .inl (fun _ => 0))), (t 40, .inl (cy 0, 32, .inl (fun _ => 0)))] H := hP
  have hD : va_D A [(q 0, .inr (1, fHall q)), (q 30, .inr (6, fSecrets (fun k => q (30 + k)))), (q 31, .inl (cy 0, 10, .inl (fun _ => 0))), (q 32, .inl (cy 0, 10, .inl (fun _ => 0))), (q 33, .inl (cy 0, 16, .inl (fun _ => 0))), (q 34, .inl (cy 0, 10, .inl (fun _ => 0))), (q 35, .inl (cy 0, 10, .inl (fun _ => 0))), (q 36, .inl (cy 0, 10, .inl (fun _ => 0))), (q 37, .inl (cy 0, 5, .inl (fun _ => 0))), (q 38, .inl (cy 0, 5, .inl (fun _ => 0))), (q 39, .inl (cy 0, 25, .inl (fun _ => 0))), (q 40, .inl (cy 0, 32, .inl (fun _ => 0))), (t 0, .inr (1, fHall t)), (t 30, .inr (6, fSecrets (fun k => t (30 + k)))), (t 31, .inl (cy 0, 10, .inl (fun _ => 0))), (t 32, .inl (cy 0, 10, .inl (fun _ => 0))), (t 33, .inl (cy 0, 16, .inl (fun _ => 0))), (t 34, .inl (cy 0, 10, .inl (fun _ => 0))), (t 35, .inl (cy 0, 10, .inl (fun _ => 0))), (t 36, .inl (cy 0, 10, .inl (fun _ => 0))), (t 37, .inl (cy 0, 5, .inl (fun _ => 0))), (t 38, .inl (cy 0, 5, .inl (fun _ => 0))), (t 39, .inl (cy 0, 25, .inl (fun _ => 0))), (t 40, .inl (cy 0, 32, .inl (fun _ => 0)))] := hD
  refine lv_aload_n hx hb dd_X1_become_55 rfl (lv_at hl 0 rfl) ?_
  refine wk_get (v := .ref (q 30)) Sx ef_1 hK hP 0 rfl rfl 5 (by decide) kk_270 rfl dd_X1_become_56 ?_
  refine lv_aload_n hx hb dd_X1_become_59 rfl (lv_at hl 1 rfl) ?_
  refine wk_get (v := .ref (t 30)) Sx ef_1 hK hP 12 rfl rfl 5 (by decide) kk_270 rfl dd_X1_become_60 ?_
  refine hk_v (wr := [(q 0, .inr (1, fHall q)), (q 38, .inl (cy 0, 5, .inl (fun _ => 0))), (q 39, .inl (cy 0, 25, .inl (fun _ => 0))), (q 40, .inl (cy 0, 32, .inl (fun _ => 0))), (t 0, .inr (1, fHall t)), (t 38, .inl (cy 0, 5, .inl (fun _ => 0))), (t 39, .inl (cy 0, 25, .inl (fun _ => 0))), (t 40, .inl (cy 0, 32, .inl (fun _ => 0)))]) (c1 := 0) (s1 := 0) [1, 2, 3, 4, 5, 6, 7, 8, 13, 14, 15, 16, 17, 18, 19, 20] [0, 9, 10, 11, 12, 21, 22, 23] (hc_V [.ref (t 30)] [] [1, 2, 3, 4, 5, 6, 7, 8, 13, 14, 15, 16, 17, 18, 19, 20] Sx hl.1 ws_Hall_161 md_X6_become (c_Secrets_become l D cy (fun k => q (30 + k)) (fun k => t (30 + k))) ⟨Nat.le_of_ble_eq_true rfl, Nat.le_of_ble_eq_true rfl⟩ hP hD rfl (by decide) hK nx_b (nx_w hX) (va_recv hK hP (ci := 6) (q0 := 1) rfl rfl) rfl rfl (Nat.le_of_ble_eq_true rfl) dd_X1_become_63 ⟨Nat.le_of_ble_eq_true rfl, Nat.le_of_ble_eq_true rfl⟩) hS hA hP hD rfl rfl (by decide) (by decide) rfl rfl (fun u17 H locs hw18 hP hD hS => ?_)
  have hP : va_P D cls [(q 0, .inr (1, fHall q)), (q 38, .inl (cy 0, 5, .inl (fun _ => 0))), (q 39, .inl (cy 0, 25, .inl (fun _ => 0))), (q 40, .inl (cy 0, 32, .inl (fun _ => 0))), (t 0, .inr (1, fHall t)), (t 38, .inl (cy 0, 5, .inl (fun _ => 0))), (t 39, .inl (cy 0, 25, .inl (fun _ => 0))), (t 40, .inl (cy 0, 32, .inl (fun _ => 0)))] H := hP
  have hD : va_D A [(q 0, .inr (1, fHall q)), (q 38, .inl (cy 0, 5, .inl (fun _ => 0))), (q 39, .inl (cy 0, 25, .inl (fun _ => 0))), (q 40, .inl (cy 0, 32, .inl (fun _ => 0))), (t 0, .inr (1, fHall t)), (t 38, .inl (cy 0, 5, .inl (fun _ => 0))), (t 39, .inl (cy 0, 25, .inl (fun _ => 0))), (t 40, .inl (cy 0, 32, .inl (fun _ => 0)))] := hD
  refine lv_aload_n hx hb dd_X1_become_66 rfl (lv_at hl 1 rfl) ?_
  refine wk_get (v := .ref (t 38)) Sx ef_1 hK hP 4 rfl rfl 6 (by decide) kk_272 rfl dd_X1_become_67 ?_
  refine lv_iconst (v := 0) hx hb dd_X1_become_70 (by decide) ?_
  refine lv_aload_n hx hb dd_X1_become_71 rfl (lv_at hl 0 rfl) ?_
  refine wk_get (v := .ref (q 38)) Sx ef_1 hK hP 0 rfl rfl 6 (by decide) kk_272 rfl dd_X1_become_72 ?_
  refine lv_iconst (v := 0) hx hb dd_X1_become_75 (by decide) ?_
  refine lv_iconst (v := 5) hx hb dd_X1_become_76 (by decide) ?_
  refine va_copyi (ty := .int) hx hb (Sx.2.2.1.trans hl.1.symm) Sx.2.2.2.1 (Sx.2.2.2.2 _ kk_1082) (Sx.2.2.2.2 _ kk_468) (Sx.2.2.2.2 _ kk_467) (Sx.2.2.2.2 _ kk_15) hK hP hD hS 5 1 0 0 rfl rfl rfl rfl rfl (by decide) (by decide) (by decide) (Nat.le_of_ble_eq_true rfl) (Nat.le_of_ble_eq_true rfl) (fun _ _ => rfl) (Nat.le_of_ble_eq_true rfl) (Nat.le_of_ble_eq_true rfl) dd_X1_become_77 (fun H locs hP hD hS => ?_)
  have hP : va_P D cls [(q 0, .inr (1, fHall q)), (q 38, .inl (cy 0, 5, .inl (va_cpy (fun _ => 0) (fun _ => 0) (0 : Int32).toNatClampNeg (0 : Int32).toNatClampNeg (5 : Int32).toNatClampNeg))), (q 39, .inl (cy 0, 25, .inl (fun _ => 0))), (q 40, .inl (cy 0, 32, .inl (fun _ => 0))), (t 0, .inr (1, fHall t)), (t 38, .inl (cy 0, 5, .inl (fun _ => 0))), (t 39, .inl (cy 0, 25, .inl (fun _ => 0))), (t 40, .inl (cy 0, 32, .inl (fun _ => 0)))] H := hP
  have hD : va_D A [(q 0, .inr (1, fHall q)), (q 38, .inl (cy 0, 5, .inl (va_cpy (fun _ => 0) (fun _ => 0) (0 : Int32).toNatClampNeg (0 : Int32).toNatClampNeg (5 : Int32).toNatClampNeg))), (q 39, .inl (cy 0, 25, .inl (fun _ => 0))), (q 40, .inl (cy 0, 32, .inl (fun _ => 0))), (t 0, .inr (1, fHall t)), (t 38, .inl (cy 0, 5, .inl (fun _ => 0))), (t 39, .inl (cy 0, 25, .inl (fun _ => 0))), (t 40, .inl (cy 0, 32, .inl (fun _ => 0)))] := hD
  refine lv_aload_n hx hb dd_X1_become_80 rfl (lv_at hl 0 rfl) ?_
  refine lv_aload_n hx hb dd_X1_become_81 rfl (lv_at hl 1 rfl) ?_
  refine wk_get (v := .int 0) Sx ef_1 hK hP 4 rfl rfl 7 (by decide) kk_274 rfl dd_X1_become_82 ?_
  refine wk_put (ws' := [(q 0, .inr (1, fHall q)), (q 38, .inl (cy 0, 5, .inl (va_cpy (fun _ => 0) (fun _ => 0) (0 : Int32).toNatClampNeg (0 : Int32).toNatClampNeg (5 : Int32).toNatClampNeg))), (q 39, .inl (cy 0, 25, .inl (fun _ => 0))), (q 40, .inl (cy 0, 32, .inl (fun _ => 0))), (t 0, .inr (1, fHall t)), (t 38, .inl (cy 0, 5, .inl (fun _ => 0))), (t 39, .inl (cy 0, 25, .inl (fun _ => 0))), (t 40, .inl (cy 0, 32, .inl (fun _ => 0)))]) Sx ef_1 hK hP hD hS 0 rfl rfl 7 (by decide) kk_274 rfl rfl rfl (Nat.le_of_ble_eq_true rfl) dd_X1_become_85 rfl (fun H locs hP hD hS => ?_)
  refine lv_aload_n hx hb dd_X1_become_88 rfl (lv_at hl 0 rfl) ?_
  refine lv_aload_n hx hb dd_X1_become_89 rfl (lv_at hl 1 rfl) ?_
  refine wk_get (v := .int 12) Sx ef_1 hK hP 4 rfl rfl 8 (by decide) kk_276 rfl dd_X1_become_90 ?_
  refine wk_put (ws' := [(q 0, .inr (1, fHall q)), (q 38, .inl (cy 0, 5, .inl (va_cpy (fun _ => 0) (fun _ => 0) (0 : Int32).toNatClampNeg (0 : Int32).toNatClampNeg (5 : Int32).toNatClampNeg))), (q 39, .inl (cy 0, 25, .inl (fun _ => 0))), (q 40, .inl (cy 0, 32, .inl (fun _ => 0))), (t 0, .inr (1, fHall t)), (t 38, .inl (cy 0, 5, .inl (fun _ => 0))), (t 39, .inl (cy 0, 25, .inl (fun _ => 0))), (t 40, .inl (cy 0, 32, .inl (fun _ => 0)))]) Sx ef_1 hK hP hD hS 0 rfl rfl 8 (by decide) kk_276 rfl rfl rfl (Nat.le_of_ble_eq_true rfl) dd_X1_become_93 rfl (fun H locs hP hD hS => ?_)
  refine lv_aload_n hx hb dd_X1_become_96 rfl (lv_at hl 0 rfl) ?_
  refine lv_aload_n hx hb dd_X1_become_97 rfl (lv_at hl 1 rfl) ?_
  refine wk_get (v := .int 12) Sx ef_1 hK hP 4 rfl rfl 9 (by decide) kk_278 rfl dd_X1_become_98 ?_
  refine wk_put (ws' := [(q 0, .inr (1, fHall q)), (q 38, .inl (cy 0, 5, .inl (va_cpy (fun _ => 0) (fun _ => 0) (0 : Int32).toNatClampNeg (0 : Int32).toNatClampNeg (5 : Int32).toNatClampNeg))), (q 39, .inl (cy 0, 25, .inl (fun _ => 0))), (q 40, .inl (cy 0, 32, .inl (fun _ => 0))), (t 0, .inr (1, fHall t)), (t 38, .inl (cy 0, 5, .inl (fun _ => 0))), (t 39, .inl (cy 0, 25, .inl (fun _ => 0))), (t 40, .inl (cy 0, 32, .inl (fun _ => 0)))]) Sx ef_1 hK hP hD hS 0 rfl rfl 9 (by decide) kk_278 rfl rfl rfl (Nat.le_of_ble_eq_true rfl) dd_X1_become_101 rfl (fun H locs hP hD hS => ?_)
  refine lv_aload_n hx hb dd_X1_become_104 rfl (lv_at hl 0 rfl) ?_
  refine lv_aload_n hx hb dd_X1_become_105 rfl (lv_at hl 1 rfl) ?_
  refine wk_get (v := .int 0) Sx ef_1 hK hP 4 rfl rfl 10 (by decide) kk_280 rfl dd_X1_become_106 ?_
  refine wk_put (ws' := [(q 0, .inr (1, fHall q)), (q 38, .inl (cy 0, 5, .inl (va_cpy (fun _ => 0) (fun _ => 0) (0 : Int32).toNatClampNeg (0 : Int32).toNatClampNeg (5 : Int32).toNatClampNeg))), (q 39, .inl (cy 0, 25, .inl (fun _ => 0))), (q 40, .inl (cy 0, 32, .inl (fun _ => 0))), (t 0, .inr (1, fHall t)), (t 38, .inl (cy 0, 5, .inl (fun _ => 0))), (t 39, .inl (cy 0, 25, .inl (fun _ => 0))), (t 40, .inl (cy 0, 32, .inl (fun _ => 0)))]) Sx ef_1 hK hP hD hS 0 rfl rfl 10 (by decide) kk_280 rfl rfl rfl (Nat.le_of_ble_eq_true rfl) dd_X1_become_109 rfl (fun H locs hP hD hS => ?_)
  refine lv_aload_n hx hb dd_X1_become_112 rfl (lv_at hl 0 rfl) ?_
  refine lv_aload_n hx hb dd_X1_become_113 rfl (lv_at hl 1 rfl) ?_
  refine wk_get (v := .int 0) Sx ef_1 hK hP 4 rfl rfl 11 (by decide) kk_282 rfl dd_X1_become_114 ?_
  refine wk_put (ws' := [(q 0, .inr (1, fHall q)), (q 38, .inl (cy 0, 5, .inl (va_cpy (fun _ => 0) (fun _ => 0) (0 : Int32).toNatClampNeg (0 : Int32).toNatClampNeg (5 : Int32).toNatClampNeg))), (q 39, .inl (cy 0, 25, .inl (fun _ => 0))), (q 40, .inl (cy 0, 32, .inl (fun _ => 0))), (t 0, .inr (1, fHall t)), (t 38, .inl (cy 0, 5, .inl (fun _ => 0))), (t 39, .inl (cy 0, 25, .inl (fun _ => 0))), (t 40, .inl (cy 0, 32, .inl (fun _ => 0)))]) Sx ef_1 hK hP hD hS 0 rfl rfl 11 (by decide) kk_282 rfl rfl rfl (Nat.le_of_ble_eq_true rfl) dd_X1_become_117 rfl (fun H locs hP hD hS => ?_)
  exact hc_vret Sx hr hlocks dd_X1_become_120 hS () trivial p_nil d_nil
