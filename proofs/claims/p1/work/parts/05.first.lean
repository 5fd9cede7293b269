set_option maxHeartbeats 4000000 in
set_option maxRecDepth 100000 in
theorem c_within (l : Launch) (D : va_G) (cy : Nat → ClassId) (v : Int32) (a : Int32) (b : Int32) : PC l my_X11_within mb_X11_within 3 ((some .boolean)) (rmD 1 0 0) D (TY cy) [.int v, .int a, .int b] NS [] (vp_Si (fun r => if2 (a.toInt ≤ v.toInt ∧ v.toInt ≤ b.toInt) 1 0 r)) := by
  refine pc_intro (by decide) (Nat.le_of_ble_eq_true rfl) (fun p e s m below meth c ls Sx hr hlocks hl hP hK hX => ?_)
  have hx := Sx.1
  have hb := Sx.2.1
  have hl : lv_has ls 3 [(0, .int v), (1, .int a), (2, .int b)] := hl
  refine lv_iload_n hx hb dd_X11_within_0 rfl (lv_at hl 0 rfl) ?_
  refine lv_iload_n hx hb dd_X11_within_1 rfl (lv_at hl 1 rfl) ?_
  refine lv_icmp_lt (tgt := 14) hx hb dd_X11_within_2 (by decide) (fun c1 => ?_) (fun c1 => ?_)
  · have fc1 := ci_lt (a := v.toInt) (b := a.toInt) rfl rfl c1
    refine lv_iconst (v := 0) hx hb dd_X11_within_14 (by decide) ?_
    exact pc_ret Sx hr hlocks rfl dd_X11_within_15 (Or.inr ⟨by omega, rfl⟩)
  · have fc1 := ci_nlt (a := v.toInt) (b := a.toInt) rfl rfl c1
    refine lv_iload_n hx hb dd_X11_within_5 rfl (lv_at hl 0 rfl) ?_
    refine lv_iload_n hx hb dd_X11_within_6 rfl (lv_at hl 2 rfl) ?_
    refine lv_icmp_gt (tgt := 14) hx hb dd_X11_within_7 (by decide) (fun c2 => ?_) (fun c2 => ?_)
    · have fc2 := ci_lt (a := b.toInt) (b := v.toInt) rfl rfl c2
      refine lv_iconst (v := 0) hx hb dd_X11_within_14 (by decide) ?_
      exact pc_ret Sx hr hlocks rfl dd_X11_within_15 (Or.inr ⟨by omega, rfl⟩)
    · have fc2 := ci_nlt (a := b.toInt) (b := v.toInt) rfl rfl c2
      refine lv_iconst (v := 1) hx hb dd_X11_within_10 (by decide) ?_
      refine lv_goto (tgt := 15) hx hb dd_X11_within_11 (by decide) ?_
      exact pc_ret Sx hr hlocks rfl dd_X11_within_15 (Or.inl ⟨by omega, rfl⟩)
set_option maxHeartbeats 4000000 in
set_option maxRecDepth 100000 in
theorem c_isShelf (l : Launch) (D : va_G) (cy : Nat → ClassId) (v : Int32) : PC l my_X11_isShelf mb_X11_isShelf 1 ((some .boolean)) (rmD 2 0 0) D (TY cy) [.int v] NS [] (vp_Si (fun r => if2 (0 ≤ v.toInt ∧ v.toInt ≤ 7) 1 0 r)) := by
  refine pc_intro (by decide) (Nat.le_of_ble_eq_true rfl) (fun p e s m below meth c ls Sx hr hlocks hl hP hK hX => ?_)
  have hx := Sx.1
  have hb := Sx.2.1
  have hl : lv_has ls 1 [(0, .int v)] := hl
  refine lv_iload_n hx hb dd_X11_isShelf_0 rfl (lv_at hl 0 rfl) ?_
  refine lv_iconst (v := 0) hx hb dd_X11_isShelf_1 (by decide) ?_
  refine lv_bipush (v := 7) hx hb dd_X11_isShelf_2 (by decide) ?_
  refine pk_i (pc_T [.int v, .int 0, .int 7] [] Sx hl.1 ws_X_59 md_X11_within (c_within l D cy v 0 7) ⟨rfl, rfl⟩ ⟨Nat.le_of_ble_eq_true rfl, Nat.le_of_ble_eq_true rfl⟩ p_nil hK ns_b (ns_w hX) rfl rfl (Nat.le_of_ble_eq_true rfl) dd_X11_isShelf_4 ⟨Nat.le_of_ble_eq_true rfl, Nat.le_of_ble_eq_true rfl⟩) (fun r1 hw2 => ?_)
  rcases hw2 with ⟨hw2, ehw2⟩ | ⟨hw2, ehw2⟩
  · have hl3 : Int32.toInt 0 = 0 := rfl
    have hl4 : Int32.toInt 7 = 7 := rfl
    subst ehw2
    exact pc_ret Sx hr hlocks rfl dd_X11_isShelf_7 (Or.inl ⟨by omega, rfl⟩)
  · have hl5 : Int32.toInt 0 = 0 := rfl
    have hl6 : Int32.toInt 7 = 7 := rfl
    subst ehw2
    exact pc_ret Sx hr hlocks rfl dd_X11_isShelf_7 (Or.inr ⟨by omega, rfl⟩)
set_option maxHeartbeats 4000000 in
set_option maxRecDepth 100000 in
theorem c_isKind (l : Launch) (D : va_G) (cy : Nat → ClassId) (v : Int32) : PC l my_X11_isKind mb_X11_isKind 1 ((some .boolean)) (rmD 2 0 0) D (TY cy) [.int v] NS [] (vp_Si (fun r => if2 (0 ≤ v.toInt ∧ v.toInt ≤ 5) 1 0 r)) := by
  refine pc_intro (by decide) (Nat.le_of_ble_eq_true rfl) (fun p e s m below meth c ls Sx hr hlocks hl hP hK hX => ?_)
  have hx := Sx.1
  have hb := Sx.2.1
  have hl : lv_has ls 1 [(0, .int v)] := hl
  refine lv_iload_n hx hb dd_X11_isKind_0 rfl (lv_at hl 0 rfl) ?_
  refine lv_iconst (v := 0) hx hb dd_X11_isKind_1 (by decide) ?_
  refine lv_iconst (v := 5) hx hb dd_X11_isKind_2 (by decide) ?_
  refine pk_i (pc_T [.int v, .int 0, .int 5] [] Sx hl.1 ws_X_59 md_X11_within (c_within l D cy v 0 5) ⟨rfl, rfl⟩ ⟨Nat.le_of_ble_eq_true rfl, Nat.le_of_ble_eq_true rfl⟩ p_nil hK ns_b (ns_w hX) rfl rfl (Nat.le_of_ble_eq_true rfl) dd_X11_isKind_3 ⟨Nat.le_of_ble_eq_true rfl, Nat.le_of_ble_eq_true rfl⟩) (fun r1 hw2 => ?_)
  rcases hw2 with ⟨hw2, ehw2⟩ | ⟨hw2, ehw2⟩
  · have hl3 : Int32.toInt 0 = 0 := rfl
    have hl4 : Int32.toInt 5 = 5 := rfl
    subst ehw2
    exact pc_ret Sx hr hlocks rfl dd_X11_isKind_6 (Or.inl ⟨by omega, rfl⟩)
  · have hl5 : Int32.toInt 0 = 0 := rfl
    have hl6 : Int32.toInt 5 = 5 := rfl
    subst ehw2
    exact pc_ret Sx hr hlocks rfl dd_X11_isKind_6 (Or.inr ⟨by omega, rfl⟩)
set_option maxHeartbeats 4000000 in
set_option maxRecDepth 100000 in
theorem c_isKinds (l : Launch) (D : va_G) (cy : Nat → ClassId) (v : Int32) : PC l my_X11_isKinds mb_X11_isKinds 1 ((some .boolean)) (rmD 2 0 0) D (TY cy) [.int v] NS [] (vp_Si (fun r => if2 (0 ≤ v.toInt ∧ v.toInt ≤ 63) 1 0 r)) := by
  refine pc_intro (by decide) (Nat.le_of_ble_eq_true rfl) (fun p e s m below meth c ls Sx hr hlocks hl hP hK hX => ?_)
  have hx := Sx.1
  have hb := Sx.2.1
  have hl : lv_has ls 1 [(0, .int v)] := hl
  refine lv_iload_n hx hb dd_X11_isKinds_0 rfl (lv_at hl 0 rfl) ?_
  refine lv_iconst (v := 0) hx hb dd_X11_isKinds_1 (by decide) ?_
  refine lv_bipush (v := 63) hx hb dd_X11_isKinds_2 (by decide) ?_
  refine pk_i (pc_T [.int v, .int 0, .int 63] [] Sx hl.1 ws_X_59 md_X11_within (c_within l D cy v 0 63) ⟨rfl, rfl⟩ ⟨Nat.le_of_ble_eq_true rfl, Nat.le_of_ble_eq_true rfl⟩ p_nil hK ns_b (ns_w hX) rfl rfl (Nat.le_of_ble_eq_true rfl) dd_X11_isKinds_4 ⟨Nat.le_of_ble_eq_true rfl, Nat.le_of_ble_eq_true rfl⟩) (fun r1 hw2 => ?_)
  rcases hw2 with ⟨hw2, ehw2⟩ | ⟨hw2, ehw2⟩
  · have hl3 : Int32.toInt 0 = 0 := rfl
    have hl4 : Int32.toInt 63 = 63 := rfl
    subst ehw2
    exact pc_ret Sx hr hlocks rfl dd_X11_isKinds_7 (Or.inl ⟨by omega, rfl⟩)
  · have hl5 : Int32.toInt 0 = 0 := rfl
    have hl6 : Int32.toInt 63 = 63 := rfl
    subst ehw2
    exact pc_ret Sx hr hlocks rfl dd_X11_isKinds_7 (Or.inr ⟨by omega, rfl⟩)
set_option maxHeartbeats 4000000 in
set_option maxRecDepth 100000 in
theorem c_isHour (l : Launch) (D : va_G) (cy : Nat → ClassId) (v : Int32) : PC l my_X11_isHour mb_X11_isHour 1 ((some .boolean)) (rmD 2 0 0) D (TY cy) [.int v] NS [] (vp_Si (fun r => if2 (0 ≤ v.toInt ∧ v.toInt ≤ 11) 1 0 r)) := by
  refine pc_intro (by decide) (Nat.le_of_ble_eq_true rfl) (fun p e s m below meth c ls Sx hr hlocks hl hP hK hX => ?_)
  have hx := Sx.1
  have hb := Sx.2.1
  have hl : lv_has ls 1 [(0, .int v)] := hl
  refine lv_iload_n hx hb dd_X11_isHour_0 rfl (lv_at hl 0 rfl) ?_
  refine lv_iconst (v := 0) hx hb dd_X11_isHour_1 (by decide) ?_
  refine lv_bipush (v := 11) hx hb dd_X11_isHour_2 (by decide) ?_
  refine pk_i (pc_T [.int v, .int 0, .int 11] [] Sx hl.1 ws_X_59 md_X11_within (c_within l D cy v 0 11) ⟨rfl, rfl⟩ ⟨Nat.le_of_ble_eq_true rfl, Nat.le_of_ble_eq_true rfl⟩ p_nil hK ns_b (ns_w hX) rfl rfl (Nat.le_of_ble_eq_true rfl) dd_X11_isHour_4 ⟨Nat.le_of_ble_eq_true rfl, Nat.le_of_ble_eq_true rfl⟩) (fun r1 hw2 => ?_)
  rcases hw2 with ⟨hw2, ehw2⟩ | ⟨hw2, ehw2⟩
  · have hl3 : Int32.toInt 0 = 0 := rfl
    have hl4 : Int32.toInt 11 = 11 := rfl
    subst ehw2
    exact pc_ret Sx hr hlocks rfl dd_X11_isHour_7 (Or.inl ⟨by omega, rfl⟩)
  · have hl5 : Int32.toInt 0 = 0 := rfl
    have hl6 : Int32.toInt 11 = 11 := rfl
    subst ehw2
    exact pc_ret Sx hr hlocks rfl dd_X11_isHour_7 (Or.inr ⟨by omega, rfl⟩)
set_option maxHeartbeats 4000000 in
set_option maxRecDepth 100000 in
theorem c_isPerson (l : Launch) (D : va_G) (cy : Nat → ClassId) (v : Int32) : PC l my_X11_isPerson mb_X11_isPerson 1 ((some .boolean)) (rmD 2 0 0) D (TY cy) [.int v] NS [] (vp_Si (fun r => if2 (0 ≤ v.toInt ∧ v.toInt ≤ 15) 1 0 r)) := by
  refine pc_intro (by decide) (Nat.le_of_ble_eq_true rfl) (fun p e s m below meth c ls Sx hr hlocks hl hP hK hX => ?_)
  have hx := Sx.1
  have hb := Sx.2.1
  have hl : lv_has ls 1 [(0, .int v)] := hl
  refine lv_iload_n hx hb dd_X11_isPerson_0 rfl (lv_at hl 0 rfl) ?_
  refine lv_iconst (v := 0) hx hb dd_X11_isPerson_1 (by decide) ?_
  refine lv_bipush (v := 15) hx hb dd_X11_isPerson_2 (by decide) ?_
  refine pk_i (pc_T [.int v, .int 0, .int 15] [] Sx hl.1 ws_X_59 md_X11_within (c_within l D cy v 0 15) ⟨rfl, rfl⟩ ⟨Nat.le_of_ble_eq_true rfl, Nat.le_of_ble_eq_true rfl⟩ p_nil hK ns_b (ns_w hX) rfl rfl (Nat.le_of_ble_eq_true rfl) dd_X11_isPerson_4 ⟨Nat.le_of_ble_eq_true rfl, Nat.le_of_ble_eq_true rfl⟩) (fun r1 hw2 => ?_)
  rcases hw2 with ⟨hw2, ehw2⟩ | ⟨hw2, ehw2⟩
  · have hl3 : Int32.toInt 0 = 0 := rfl
    have hl4 : Int32.toInt 15 = 15 := rfl
    subst ehw2
    exact pc_ret Sx hr hlocks rfl dd_X11_isPerson_7 (Or.inl ⟨by omega, rfl⟩)
  · have hl5 : Int32.toInt 0 = 0 := rfl
    have hl6 : Int32.toInt 15 = 15 := rfl
    subst ehw2
    exact pc_ret Sx hr hlocks rfl dd_X11_isPerson_7 (Or.inr ⟨by omega, rfl⟩)
set_option maxHeartbeats 4000000 in
set_option maxRecDepth 100000 in
theorem c_isPersonOrNone (l : Launch) (D : va_G) (cy : Nat → ClassId) (v : Int32) : PC l my_X11_isPersonOrNone mb_X11_isPersonOrNone 1 ((some .boolean)) (rmD 3 0 0) D (TY cy) [.int v] NS [] (vp_Si (fun r => if2 ((-1) ≤ v.toInt ∧ v.toInt ≤ 15) 1 0 r)) := by
  refine pc_intro (by decide) (Nat.le_of_ble_eq_true rfl) (fun p e s m below meth c ls Sx hr hlocks hl hP hK hX => ?_)
  have hx := Sx.1
  have hb := Sx.2.1
  have hl : lv_has ls 1 [(0, .int v)] := hl
  refine lv_iload_n hx hb dd_X11_isPersonOrNone_0 rfl (lv_at hl 0 rfl) ?_
  refine lv_iconst (v := (-1)) hx hb dd_X11_isPersonOrNone_1 (by decide) ?_
  refine lv_icmp_eq (tgt := 12) hx hb dd_X11_isPersonOrNone_2 (by decide) (fun c1 => ?_) (fun c1 => ?_)
  · have fc1 := ci_eq (a := v.toInt) (b := (-1)) rfl rfl c1
    refine lv_iconst (v := 1) hx hb dd_X11_isPersonOrNone_12 (by decide) ?_
    refine lv_goto (tgt := 17) hx hb dd_X11_isPersonOrNone_13 (by decide) ?_
    exact pc_ret Sx hr hlocks rfl dd_X11_isPersonOrNone_17 (Or.inl ⟨by omega, rfl⟩)
  · have fc1 := ci_ne (a := v.toInt) (b := (-1)) rfl rfl c1
    refine lv_iload_n hx hb dd_X11_isPersonOrNone_5 rfl (lv_at hl 0 rfl) ?_
    refine pk_i (pc_T [.int v] [] Sx hl.1 ws_X_339 md_X11_isPerson (c_isPerson l D cy v) ⟨rfl, rfl⟩ ⟨Nat.le_of_ble_eq_true rfl, Nat.le_of_ble_eq_true rfl⟩ p_nil hK ns_b (ns_w hX) rfl rfl (Nat.le_of_ble_eq_true rfl) dd_X11_isPersonOrNone_6 ⟨Nat.le_of_ble_eq_true rfl, Nat.le_of_ble_eq_true rfl⟩) (fun r2 hw3 => ?_)
    rcases hw3 with ⟨hw3, ehw3⟩ | ⟨hw3, ehw3⟩
    · subst ehw3
      refine lv_if_eq (tgt := 16) hx hb dd_X11_isPersonOrNone_9 (by decide) (fun c => absurd c (by decide)) (fun _ => ?_)
      refine lv_iconst (v := 1) hx hb dd_X11_isPersonOrNone_12 (by decide) ?_
      refine lv_goto (tgt := 17) hx hb dd_X11_isPersonOrNone_13 (by decide) ?_
      exact pc_ret Sx hr hlocks rfl dd_X11_isPersonOrNone_17 (Or.inl ⟨by omega, rfl⟩)
    · subst ehw3
      refine lv_if_eq (tgt := 16) hx hb dd_X11_isPersonOrNone_9 (by decide) (fun _ => ?_) (fun c => absurd c (by decide))
      refine lv_iconst (v := 0) hx hb dd_X11_isPersonOrNone_16 (by decide) ?_
      exact pc_ret Sx hr hlocks rfl dd_X11_isPersonOrNone_17 (Or.inr ⟨by omega, rfl⟩)
set_option maxHeartbeats 4000000 in
set_option maxRecDepth 100000 in
theorem c_Shelf_isEmpty (l : Launch) (D : va_G) (cy : Nat → ClassId) (q : Nat → Nat) : PC l my_X7_isEmpty mb_X7_isEmpty 1 ((some .boolean)) (rmD 1 0 0) D (TY cy) [.ref (q 0)] NS [(q 0, .inr (7, fShelf q))] (vp_Si (fun r => r = 1)) := by
  refine pc_intro (by decide) (Nat.le_of_ble_eq_true rfl) (fun p e s m below meth c ls Sx hr hlocks hl hP hK hX => ?_)
  have hx := Sx.1
  have hb := Sx.2.1
  have hl : lv_has ls 1 [(0, .ref (q 0))] := hl
  refine lv_aload_n hx hb dd_X7_isEmpty_0 rfl (lv_at hl 0 rfl) ?_
  refine wk_get (v := .int (-1)) Sx ef_7 hK hP 0 rfl rfl 1 (by decide) kk_370 rfl dd_X7_isEmpty_1 ?_
  refine lv_iconst (v := (-1)) hx hb dd_X7_isEmpty_4 (by decide) ?_
  refine lv_icmp_ne (tgt := 12) hx hb dd_X7_isEmpty_5 (by decide) (fun c => absurd c (by decide)) (fun _ => ?_)
  refine lv_iconst (v := 1) hx hb dd_X7_isEmpty_8 (by decide) ?_
  refine lv_goto (tgt := 13) hx hb dd_X7_isEmpty_9 (by decide) ?_
  exact pc_ret Sx hr hlocks rfl dd_X7_isEmpty_13 rfl
set_option maxHeartbeats 4000000 in
set_option maxRecDepth 100000 in
theorem c_Shelf_hasThing (l : Launch) (D : va_G) (cy : Nat → ClassId) (q : Nat → Nat) : PC l my_X7_hasThing mb_X7_hasThing 1 ((some .boolean)) (rmD 1 0 0) D (TY cy) [.ref (q 0)] NS [(q 0, .inr (7, fShelf q))] (vp_Si (fun r => r = 0)) := by
  refine pc_intro (by decide) (Nat.le_of_ble_eq_true rfl) (fun p e s m below meth c ls Sx hr hlocks hl hP hK hX => ?_)
  have hx := Sx.1
  have hb := Sx.2.1
  have hl : lv_has ls 1 [(0, .ref (q 0))] := hl
  refine lv_aload_n hx hb dd_X7_hasThing_0 rfl (lv_at hl 0 rfl) ?_
  refine wk_get (v := .int (-1)) Sx ef_7 hK hP 0 rfl rfl 1 (by decide) kk_370 rfl dd_X7_hasThing_1 ?_
  refine lv_bipush (v := 10) hx hb dd_X7_hasThing_4 (by decide) ?_
  refine lv_icmp_lt (tgt := 13) hx hb dd_X7_hasThing_6 (by decide) (fun _ => ?_) (fun c => absurd c (by decide))
  refine lv_iconst (v := 0) hx hb dd_X7_hasThing_13 (by decide) ?_
  exact pc_ret Sx hr hlocks rfl dd_X7_hasThing_14 rfl
set_option maxHeartbeats 4000000 in
set_option maxRecDepth 100000 in
theorem c_Shelf_hasRow (l : Launch) (D : va_G) (cy : Nat → ClassId) (q : Nat → Nat) : PC l my_X7_hasRow mb_X7_hasRow 1 ((some .boolean)) (rmD 2 0 0) D (TY cy) [.ref (q 0)] NS [(q 0, .inr (7, fShelf q))] (vp_Si (fun r => r = 0)) := by
  refine pc_intro (by decide) (Nat.le_of_ble_eq_true rfl) (fun p e s m below meth c ls Sx hr hlocks hl hP hK hX => ?_)
  have hx := Sx.1
  have hb := Sx.2.1
  have hl : lv_has ls 1 [(0, .ref (q 0))] := hl
  refine lv_aload_n hx hb dd_X7_hasRow_0 rfl (lv_at hl 0 rfl) ?_
  refine wk_get (v := .int (-1)) Sx ef_7 hK hP 0 rfl rfl 1 (by decide) kk_370 rfl dd_X7_hasRow_1 ?_
  refine lv_iconst (v := 0) hx hb dd_X7_hasRow_4 (by decide) ?_
  refine lv_iconst (v := 4) hx hb dd_X7_hasRow_5 (by decide) ?_
  refine pk_i (pc_TN [.int (-1), .int 0, .int 4] [] Sx hX hl.1 ws_Shelf_22 md_X11_within (c_within l D cy (-1) 0 4) ⟨rfl, rfl⟩ ⟨Nat.le_of_ble_eq_true rfl, Nat.le_of_ble_eq_true rfl⟩ p_nil hK ns_b (ns_w hX) rfl rfl (Nat.le_of_ble_eq_true rfl) dd_X7_hasRow_6 ⟨Nat.le_of_ble_eq_true rfl, Nat.le_of_ble_eq_true rfl⟩) (fun r1 hw2 => ?_)
  rcases hw2 with ⟨hw2, ehw2⟩ | ⟨hw2, ehw2⟩
  · have hl3 : Int32.toInt (-1) = (-1) := rfl
    have hl4 : Int32.toInt 0 = 0 := rfl
    have hl5 : Int32.toInt 4 = 4 := rfl
    exfalso; omega
  · have hl6 : Int32.toInt (-1) = (-1) := rfl
    have hl7 : Int32.toInt 0 = 0 := rfl
    have hl8 : Int32.toInt 4 = 4 := rfl
    subst ehw2
    exact pc_ret Sx hr hlocks rfl dd_X7_hasRow_9 rfl
set_option maxHeartbeats 4000000 in
set_option maxRecDepth 100000 in
theorem c_refuse_2 (l : Launch) (D : va_G) (cy : Nat → ClassId) (q : Nat → Nat) : HC l my_X11_refuse mb_X11_refuse 3 ((some .int)) (rmD 2 0 0) D (TY cy) [.ref (q 0), .int (-2)] NX [(q 0, .inr (11, fX q)), (q 2, .inl (cy 0, 5, .inl (fun _ => 0)))] (QI (S := Unit) D (fun r _ => r = (-2)) (fun _ => [])) := by
  refine hc_intro (by decide) (Nat.le_of_ble_eq_true rfl) (fun p e s m below meth c A ls Sx hr hlocks hin hl hP hD hK hS hA hX => ?_)
  have hx := Sx.1
  have hb := Sx.2.1
  have hl : lv_has ls 3 [(0, .ref (q 0)), (1, .int (-2))] := hl
  have hP : va_P D cls [(q 0, .inr (11, fX q)), (q 2, .inl (cy 0, 5, .inl (fun _ => 0)))] s.heap := hP
  have hD : va_D A [(q 0, .inr (11, fX q)), (q 2, .inl (cy 0, 5, .inl (fun _ => 0)))] := hD
  refine lv_bipush (v := (-2)) hx hb dd_X11_refuse_0 (by decide) ?_
  refine lv_iload_n hx hb dd_X11_refuse_2 rfl (lv_at hl 1 rfl) ?_
  refine lv_isub hx hb dd_X11_refuse_3 ?_
  refine wk_int (v := 0) (by decide) ?_
  refine lv_istore_n (lv' := [(2, .int 0), (0, .ref (q 0)), (1, .int (-2))]) hx hb dd_X11_refuse_4 rfl hl (by decide) rfl (fun ls hl => ?_)
  refine lv_iload_n hx hb dd_X11_refuse_5 rfl (lv_at hl 0 rfl) ?_
  refine lv_iconst (v := 0) hx hb dd_X11_refuse_6 (by decide) ?_
  refine lv_iconst (v := 4) hx hb dd_X11_refuse_7 (by decide) ?_
  refine pk_i (pc_T [.int 0, .int 0, .int 4] [] Sx hl.1 ws_X_59 md_X11_within (c_within l D cy 0 0 4) ⟨rfl, rfl⟩ ⟨Nat.le_of_ble_eq_true rfl, Nat.le_of_ble_eq_true rfl⟩ p_nil hK ns_b (ns_w hX) rfl rfl (Nat.le_of_ble_eq_true rfl) dd_X11_refuse_8 ⟨Nat.le_of_ble_eq_true rfl, Nat.le_of_ble_eq_true rfl⟩) (fun r1 hw2 => ?_)
  rcases hw2 with ⟨hw2, ehw2⟩ | ⟨hw2, ehw2⟩
  · have hl3 : Int32.toInt 0 = 0 := rfl
    have hl4 : Int32.toInt 4 = 4 := rfl
    subst ehw2
    refine lv_if_eq (tgt := 24) hx hb dd_X11_refuse_11 (by decide) (fun c => absurd c (by decide)) (fun _ => ?_)
    refine lv_aload_n hx hb dd_X11_refuse_14 rfl (lv_at hl 1 rfl) ?_
    refine wk_get (v := .ref (q 2)) Sx ef_11 hK hP 0 rfl rfl 1 (by decide) kk_383 rfl dd_X11_refuse_15 ?_
    refine lv_iload_n hx hb dd_X11_refuse_18 rfl (lv_at hl 0 rfl) ?_
    refine lv_dup2_11 hx hb dd_X11_refuse_19 rfl rfl ?_
    have hi5 : vp_in 0 5 := (vi_of (by decide))
    refine va_iald hx hb hK hP 1 0 rfl rfl hi5 dd_X11_refuse_20 ?_
    refine wk_int (v := 0) rfl ?_
    refine lv_iconst (v := 1) hx hb dd_X11_refuse_21 (by decide) ?_
    refine lv_iadd hx hb dd_X11_refuse_22 ?_
    refine wk_int (v := 1) (by decide) ?_
    refine wk_iast (ws' := [(q 0, .inr (11, fX q)), (q 2, .inl (cy 0, 5, .inl (upd (fun _ => 0) (0 : Int32).toNatClampNeg 1)))]) Sx hK hP hD hS 1 0 rfl rfl (vi_of (by decide)) dd_X11_refuse_23 rfl (fun H locs hP hD hS => ?_)
    refine lv_iload_n hx hb dd_X11_refuse_24 rfl (lv_at hl 2 rfl) ?_
    exact hc_ret Sx hr hlocks dd_X11_refuse_25 hS () rfl p_nil d_nil
  · have hl6 : Int32.toInt 0 = 0 := rfl
    have hl7 : Int32.toInt 4 = 4 := rfl
    exfalso; omega
set_option maxHeartbeats 4000000 in
set_option maxRecDepth 100000 in
theorem c_refuse_4 (l : Launch) (D : va_G) (cy : Nat → ClassId) (q : Nat → Nat) : HC l my_X11_refuse mb_X11_refuse 3 ((some .int)) (rmD 2 0 0) D (TY cy) [.ref (q 0), .int (-4)] NX [(q 0, .inr (11, fX q)), (q 2, .inl (cy 0, 5, .inl (fun _ => 0)))] (QI (S := Unit) D (fun r _ => r = (-4)) (fun _ => [])) := by
  refine hc_intro (by decide) (Nat.le_of_ble_eq_true rfl) (fun p e s m below meth c A ls Sx hr hlocks hin hl hP hD hK hS hA hX => ?_)
  have hx := Sx.1
  have hb := Sx.2.1
  have hl : lv_has ls 3 [(0, .ref (q 0)), (1, .int (-4))] := hl
  have hP : va_P D cls [(q 0, .inr (11, fX q)), (q 2, .inl (cy 0, 5, .inl (fun _ => 0)))] s.heap := hP
  have hD : va_D A [(q 0, .inr (11, fX q)), (q 2, .inl (cy 0, 5, .inl (fun _ => 0)))] := hD
  refine lv_bipush (v := (-2)) hx hb dd_X11_refuse_0 (by decide) ?_
  refine lv_iload_n hx hb dd_X11_refuse_2 rfl (lv_at hl 1 rfl) ?_
  refine lv_isub hx hb dd_X11_refuse_3 ?_
  refine wk_int (v := 2) (by decide) ?_
  refine lv_istore_n (lv' := [(2, .int 2), (0, .ref (q 0)), (1, .int (-4))]) hx hb dd_X11_refuse_4 rfl hl (by decide) rfl (fun ls hl => ?_)
  refine lv_iload_n hx hb dd_X11_refuse_5 rfl (lv_at hl 0 rfl) ?_
  refine lv_iconst (v := 0) hx hb dd_X11_refuse_6 (by decide) ?_
  refine lv_iconst (v := 4) hx hb dd_X11_refuse_7 (by decide) ?_
  refine pk_i (pc_T [.int 2, .int 0, .int 4] [] Sx hl.1 ws_X_59 md_X11_within (c_within l D cy 2 0 4) ⟨rfl, rfl⟩ ⟨Nat.le_of_ble_eq_true rfl, Nat.le_of_ble_eq_true rfl⟩ p_nil hK ns_b (ns_w hX) rfl rfl (Nat.le_of_ble_eq_true rfl) dd_X11_refuse_8 ⟨Nat.le_of_ble_eq_true rfl, Nat.le_of_ble_eq_true rfl⟩) (fun r1 hw2 => ?_)
  rcases hw2 with ⟨hw2, ehw2⟩ | ⟨hw2, ehw2⟩
  · have hl3 : Int32.toInt 0 = 0 := rfl
    have hl4 : Int32.toInt 2 = 2 := rfl
    have hl5 : Int32.toInt 4 = 4 := rfl
    subst ehw2
    refine lv_if_eq (tgt := 24) hx hb dd_X11_refuse_11 (by decide) (fun c => absurd c (by decide)) (fun _ => ?_)
    refine lv_aload_n hx hb dd_X11_refuse_14 rfl (lv_at hl 1 rfl) ?_
    refine wk_get (v := .ref (q 2)) Sx ef_11 hK hP 0 rfl rfl 1 (by decide) kk_383 rfl dd_X11_refuse_15 ?_
    refine lv_iload_n hx hb dd_X11_refuse_18 rfl (lv_at hl 0 rfl) ?_
    refine lv_dup2_11 hx hb dd_X11_refuse_19 rfl rfl ?_
    have hi6 : vp_in 2 5 := (vi_of (by decide))
    refine va_iald hx hb hK hP 1 0 rfl rfl hi6 dd_X11_refuse_20 ?_
    refine wk_int (v := 0) rfl ?_
    refine lv_iconst (v := 1) hx hb dd_X11_refuse_21 (by decide) ?_
    refine lv_iadd hx hb dd_X11_refuse_22 ?_
    refine wk_int (v := 1) (by decide) ?_
    refine wk_iast (ws' := [(q 0, .inr (11, fX q)), (q 2, .inl (cy 0, 5, .inl (upd (fun _ => 0) (2 : Int32).toNatClampNeg 1)))]) Sx hK hP hD hS 1 0 rfl rfl (vi_of (by decide)) dd_X11_refuse_23 rfl (fun H locs hP hD hS => ?_)
    refine lv_iload_n hx hb dd_X11_refuse_24 rfl (lv_at hl 2 rfl) ?_
    exact hc_ret Sx hr hlocks dd_X11_refuse_25 hS () rfl p_nil d_nil
  · have hl7 : Int32.toInt 0 = 0 := rfl
    have hl8 : Int32.toInt 2 = 2 := rfl
    have hl9 : Int32.toInt 4 = 4 := rfl
    exfalso; omega
set_option maxHeartbeats 4000000 in
set_option maxRecDepth 100000 in
theorem c_refuse_5 (l : Launch) (D : va_G) (cy : Nat → ClassId) (q : Nat → Nat) : HC l my_X11_refuse mb_X11_refuse 3 ((some .int)) (rmD 2 0 0) D (TY cy) [.ref (q 0), .int (-5)] NX [(q 0, .inr (11, fX q)), (q 2, .inl (cy 0, 5, .inl (fun _ => 0)))] (QI (S := Unit) D (fun r _ => r = (-5)) (fun _ => [])) := by
  refine hc_intro (by decide) (Nat.le_of_ble_eq_true rfl) (fun p e s m below meth c A ls Sx hr hlocks hin hl hP hD hK hS hA hX => ?_)
  have hx := Sx.1
  have hb := Sx.2.1
  have hl : lv_has ls 3 [(0, .ref (q 0)), (1, .int (-5))] := hl
  have hP : va_P D cls [(q 0, .inr (11, fX q)), (q 2, .inl (cy 0, 5, .inl (fun _ => 0)))] s.heap := hP
  have hD : va_D A [(q 0, .inr (11, fX q)), (q 2, .inl (cy 0, 5, .inl (fun _ => 0)))] := hD
  refine lv_bipush (v := (-2)) hx hb dd_X11_refuse_0 (by decide) ?_
  refine lv_iload_n hx hb dd_X11_refuse_2 rfl (lv_at hl 1 rfl) ?_
  refine lv_isub hx hb dd_X11_refuse_3 ?_
  refine wk_int (v := 3) (by decide) ?_
  refine lv_istore_n (lv' := [(2, .int 3), (0, .ref (q 0)), (1, .int (-5))]) hx hb dd_X11_refuse_4 rfl hl (by decide) rfl (fun ls hl => ?_)
  refine lv_iload_n hx hb dd_X11_refuse_5 rfl (lv_at hl 0 rfl) ?_
  refine lv_iconst (v := 0) hx hb dd_X11_refuse_6 (by decide) ?_
  refine lv_iconst (v := 4) hx hb dd_X11_refuse_7 (by decide) ?_
  refine pk_i (pc_T [.int 3, .int 0, .int 4] [] Sx hl.1 ws_X_59 md_X11_within (c_within l D cy 3 0 4) ⟨rfl, rfl⟩ ⟨Nat.le_of_ble_eq_true rfl, Nat.le_of_ble_eq_true rfl⟩ p_nil hK ns_b (ns_w hX) rfl rfl (Nat.le_of_ble_eq_true rfl) dd_X11_refuse_8 ⟨Nat.le_of_ble_eq_true rfl, Nat.le_of_ble_eq_true rfl⟩) (fun r1 hw2 => ?_)
  rcases hw2 with ⟨hw2, ehw2⟩ | ⟨hw2, ehw2⟩
  · have hl3 : Int32.toInt 0 = 0 := rfl
    have hl4 : Int32.toInt 3 = 3 := rfl
    have hl5 : Int32.toInt 4 = 4 := rfl
    subst ehw2
    refine lv_if_eq (tgt := 24) hx hb dd_X11_refuse_11 (by decide) (fun c => absurd c (by decide)) (fun _ => ?_)
    refine lv_aload_n hx hb dd_X11_refuse_14 rfl (lv_at hl 1 rfl) ?_
    refine wk_get (v := .ref (q 2)) Sx ef_11 hK hP 0 rfl rfl 1 (by decide) kk_383 rfl dd_X11_refuse_15 ?_
    refine lv_iload_n hx hb dd_X11_refuse_18 rfl (lv_at hl 0 rfl) ?_
    refine lv_dup2_11 hx hb dd_X11_refuse_19 rfl rfl ?_
    have hi6 : vp_in 3 5 := (vi_of (by decide))
    refine va_iald hx hb hK hP 1 0 rfl rfl hi6 dd_X11_refuse_20 ?_
    refine wk_int (v := 0) rfl ?_
    refine lv_iconst (v := 1) hx hb dd_X11_refuse_21 (by decide) ?_
    refine lv_iadd hx hb dd_X11_refuse_22 ?_
    refine wk_int (v := 1) (by decide) ?_
    refine wk_iast (ws' := [(q 0, .inr (11, fX q)), (q 2, .inl (cy 0, 5, .inl (upd (fun _ => 0) (3 : Int32).toNatClampNeg 1)))]) Sx hK hP hD hS 1 0 rfl rfl (vi_of (by decide)) dd_X11_refuse_23 rfl (fun H locs hP hD hS => ?_)
    refine lv_iload_n hx hb dd_X11_refuse_24 rfl (lv_at hl 2 rfl) ?_
    exact hc_ret Sx hr hlocks dd_X11_refuse_25 hS () rfl p_nil d_nil
  · have hl7 : Int32.toInt 0 = 0 := rfl
    have hl8 : Int32.toInt 3 = 3 := rfl
    have hl9 : Int32.toInt 4 = 4 := rfl
    exfalso; omega
set_option maxHeartbeats 4000000 in
set_option maxRecDepth 100000 in
theorem c_refusalOfRow (l : Launch) (D : va_G) (cy : Nat → ClassId) (q : Nat → Nat) (sf : Int32) : PC l my_X11_refusalOfRow mb_X11_refusalOfRow 2 ((some .int)) (rmD 3 0 0) D (TY cy) [.ref (q 0), .int sf] NS [(q 0, .inr (11, fX q)), (q 1, .inl (cy 4, 8, .inr (.inr (.inr (.inr (shv q)))))), (q 97, .inr (7, fShelf (fun k => q (97 + k)))), (q 98, .inl (cy 2, 40, .inr (.inl (fun _ => 0)))), (q 99, .inr (7, fShelf (fun k => q (99 + k)))), (q 100, .inl (cy 2, 40, .inr (.inl (fun _ => 0)))), (q 101, .inr (7, fShelf (fun k => q (101 + k)))), (q 102, .inl (cy 2, 40, .inr (.inl (fun _ => 0)))), (q 103, .inr (7, fShelf (fun k => q (103 + k)))), (q 104, .inl (cy 2, 40, .inr (.inl (fun _ => 0)))), (q 105, .inr (7, fShelf (fun k => q (105 + k)))), (q 106, .inl (cy 2, 40, .inr (.inl (fun _ => 0)))), (q 107, .inr (7, fShelf (fun k => q (107 + k)))), (q 108, .inl (cy 2, 40, .inr (.inl (fun _ => 0)))), (q 109, .inr (7, fShelf (fun k => q (109 + k)))), (q 110, .inl (cy 2, 40, .inr (.inl (fun _ => 0)))), (q 111, .inr (7, fShelf (fun k => q (111 + k)))), (q 112, .inl (cy 2, 40, .inr (.inl (fun _ => 0))))] (vp_Si (fun r => if2 (0 ≤ sf.toInt ∧ sf.toInt ≤ 7) (-4) (-2) r)) := by
  refine pc_intro (by decide) (Nat.le_of_ble_eq_true rfl) (fun p e s m below meth c ls Sx hr hlocks hl hP hK hX => ?_)
  have hx := Sx.1
  have hb := Sx.2.1
  have hl : lv_has ls 2 [(0, .ref (q 0)), (1, .int sf)] := hl
  refine lv_iload_n hx hb dd_X11_refusalOfRow_0 rfl (lv_at hl 1 rfl) ?_
  refine pk_i (pc_T [.int sf] [] Sx hl.1 ws_X_55 md_X11_isShelf (c_isShelf l D cy sf) ⟨rfl, rfl⟩ ⟨Nat.le_of_ble_eq_true rfl, Nat.le_of_ble_eq_true rfl⟩ p_nil hK ns_b (ns_w hX) rfl rfl (Nat.le_of_ble_eq_true rfl) dd_X11_refusalOfRow_1 ⟨Nat.le_of_ble_eq_true rfl, Nat.le_of_ble_eq_true rfl⟩) (fun r1 hw2 => ?_)
  rcases hw2 with ⟨hw2, ehw2⟩ | ⟨hw2, ehw2⟩
  · subst ehw2
    refine lv_if_ne (tgt := 10) hx hb dd_X11_refusalOfRow_4 (by decide) (fun _ => ?_) (fun c => absurd c (by decide))
    refine lv_aload_n hx hb dd_X11_refusalOfRow_10 rfl (lv_at hl 0 rfl) ?_
    refine wk_get (v := .ref (q 1)) Sx ef_11 hK hP 0 rfl rfl 0 (by decide) kk_382 rfl dd_X11_refusalOfRow_11 ?_
    refine lv_iload_n hx hb dd_X11_refusalOfRow_14 rfl (lv_at hl 1 rfl) ?_
    have hi3 : vp_in sf 8 := (vi_of (by omega))
    refine va_aldq hx hb hK hP 1 4 rfl rfl hi3 dd_X11_refusalOfRow_15 ?_
    obtain ⟨j4, hjj4, ejj4⟩ : ∃ y, y < 8 ∧ sf.toNatClampNeg = y := ⟨_, vi_lt hi3, rfl⟩
    have hpj4 := sh_p (cy := cy) (q := q) (hP.sub [2, 3, 4, 5, 6, 7, 8, 9, 10, 11, 12, 13, 14, 15, 16, 17] rfl) j4 hjj4
    refine wk_val (v := .ref (q (97 + 2 * j4))) (by rw [ejj4, shv_at _ _ hjj4]; rfl) ?_
    refine pk_i (pc_V [] [] Sx hl.1 ws_X_82 md_X7_hasThing (c_Shelf_hasThing l D cy (fun k => q (97 + 2 * j4 + k))) ⟨rfl, rfl⟩ ⟨Nat.le_of_ble_eq_true rfl, Nat.le_of_ble_eq_true rfl⟩ (hpj4.sub [0] rfl) hK ns_b (ns_w hX) (va_recv hK hpj4 (ci := 7) (q0 := 0) rfl rfl) rfl rfl (Nat.le_of_ble_eq_true rfl) dd_X11_refusalOfRow_16 ⟨Nat.le_of_ble_eq_true rfl, Nat.le_of_ble_eq_true rfl⟩) (fun r5 hw6 => ?_)
    subst hw6
    refine lv_if_eq (tgt := 25) hx hb dd_X11_refusalOfRow_19 (by decide) (fun _ => ?_) (fun c => absurd c (by decide))
    refine lv_aload_n hx hb dd_X11_refusalOfRow_25 rfl (lv_at hl 0 rfl) ?_
    refine wk_get (v := .ref (q 1)) Sx ef_11 hK hP 0 rfl rfl 0 (by decide) kk_382 rfl dd_X11_refusalOfRow_26 ?_
    refine lv_iload_n hx hb dd_X11_refusalOfRow_29 rfl (lv_at hl 1 rfl) ?_
    have hi7 : vp_in sf 8 := (vi_of (by omega))
    refine va_aldq hx hb hK hP 1 4 rfl rfl hi7 dd_X11_refusalOfRow_30 ?_
    obtain ⟨j8, hjj8, ejj8⟩ : ∃ y, y < 8 ∧ sf.toNatClampNeg = y := ⟨_, vi_lt hi7, rfl⟩
    have hpj8 := sh_p (cy := cy) (q := q) (hP.sub [2, 3, 4, 5, 6, 7, 8, 9, 10, 11, 12, 13, 14, 15, 16, 17] rfl) j8 hjj8
    refine wk_val (v := .ref (q (97 + 2 * j8))) (by rw [ejj8, shv_at _ _ hjj8]; rfl) ?_
    refine pk_i (pc_V [] [] Sx hl.1 ws_X_92 md_X7_isEmpty (c_Shelf_isEmpty l D cy (fun k => q (97 + 2 * j8 + k))) ⟨rfl, rfl⟩ ⟨Nat.le_of_ble_eq_true rfl, Nat.le_of_ble_eq_true rfl⟩ (hpj8.sub [0] rfl) hK ns_b (ns_w hX) (va_recv hK hpj8 (ci := 7) (q0 := 0) rfl rfl) rfl rfl (Nat.le_of_ble_eq_true rfl) dd_X11_refusalOfRow_31 ⟨Nat.le_of_ble_eq_true rfl, Nat.le_of_ble_eq_true rfl⟩) (fun r9 hw10 => ?_)
    subst hw10
    refine lv_if_eq (tgt := 42) hx hb dd_X11_refusalOfRow_34 (by decide) (fun c => absurd c (by decide)) (fun _ => ?_)
    refine lv_bipush (v := (-4)) hx hb dd_X11_refusalOfRow_37 (by decide) ?_
    refine lv_goto (tgt := 43) hx hb dd_X11_refusalOfRow_39 (by decide) ?_
    exact pc_ret Sx hr hlocks rfl dd_X11_refusalOfRow_43 (Or.inl ⟨by omega, rfl⟩)
  · subst ehw2
    refine lv_if_ne (tgt := 10) hx hb dd_X11_refusalOfRow_4 (by decide) (fun c => absurd c (by decide)) (fun _ => ?_)
    refine lv_bipush (v := (-2)) hx hb dd_X11_refusalOfRow_7 (by decide) ?_
    exact pc_ret Sx hr hlocks rfl dd_X11_refusalOfRow_9 (Or.inr ⟨by omega, rfl⟩)
set_option maxHeartbeats 4000000 in
set_option maxRecDepth 100000 in
theorem c_X_set (l : Launch) (D : va_G) (cy : Nat → ClassId) (q : Nat → Nat) (sf : Int32) (ix : Int32) (lv : Int64) : HC l my_X11_set mb_X11_set 6 ((some .int)) (rmD 4 0 0) D (TY cy) [.ref (q 0), .int sf, .int ix, .long lv] NX [(q 0, .inr (11, fX q)), (q 1, .inl (cy 4, 8, .inr (.inr (.inr (.inr (shv q)))))), (q 2, .inl (cy 0, 5, .inl (fun _ => 0))), (q 97, .inr (7, fShelf (fun k => q (97 + k)))), (q 98, .inl (cy 2, 40, .inr (.inl (fun _ => 0)))), (q 99, .inr (7, fShelf (fun k => q (99 + k)))), (q 100, .inl (cy 2, 40, .inr (.inl (fun _ => 0)))), (q 101, .inr (7, fShelf (fun k => q (101 + k)))), (q 102, .inl (cy 2, 40, .inr (.inl (fun _ => 0)))), (q 103, .inr (7, fShelf (fun k => q (103 + k)))), (q 104, .inl (cy 2, 40, .inr (.inl (fun _ => 0)))), (q 105, .inr (7, fShelf (fun k => q (105 + k)))), (q 106, .inl (cy 2, 40, .inr (.inl (fun _ => 0)))), (q 107, .inr (7, fShelf (fun k => q (107 + k)))), (q 108, .inl (cy 2, 40, .inr (.inl (fun _ => 0)))), (q 109, .inr (7, fShelf (fun k => q (109 + k)))), (q 110, .inl (cy 2, 40, .inr (.inl (fun _ => 0)))), (q 111, .inr (7, fShelf (fun k => q (111 + k)))), (q 112, .inl (cy 2, 40, .inr (.inl (fun _ => 0))))] (QI (S := Unit) D (fun r _ => if2 (0 ≤ sf.toInt ∧ sf.toInt ≤ 7) (-4) (-2) r) (fun _ => [])) := by
  refine hc_intro (by decide) (Nat.le_of_ble_eq_true rfl) (fun p e s m below meth c A ls Sx hr hlocks hin hl hP hD hK hS hA hX => ?_)
  have hx := Sx.1
  have hb := Sx.2.1
  have hl : lv_has ls 6 [(0, .ref (q 0)), (1, .int sf), (2, .int ix), (3, .long lv)] := hl
  have hP : va_P D cls [(q 0, .inr (11, fX q)), (q 1, .inl (cy 4, 8, .inr (.inr (.inr (.inr (shv q)))))), (q 2, .inl (cy 0, 5, .inl (fun _ => 0))), (q 97, .inr (7, fShelf (fun k => q (97 + k)))), (q 98, .inl (cy 2, 40, .inr (.inl (fun _ => 0)))), (q 99, .inr (7, fShelf (fun k => q (99 + k)))), (q 100, .inl (cy 2, 40, .inr (.inl (fun _ => 0)))), (q 101, .inr (7, fShelf (fun k => q (101 + k)))), (q 102, .inl (cy 2, 40, .inr (.inl (fun _ => 0)))), (q 103, .inr (7, fShelf (fun k => q (103 + k)))), (q 104, .inl (cy 2, 40, .inr (.inl (fun _ => 0)))), (q 105, .inr (7, fShelf (fun k => q (105 + k)))), (q 106, .inl (cy 2, 40, .inr (.inl (fun _ => 0)))), (q 107, .inr (7, fShelf (fun k => q (107 + k)))), (q 108, .inl (cy 2, 40, .inr (.inl (fun _ => 0)))), (q 109, .inr (7, fShelf (fun k => q (109 + k)))), (q 110, .inl (cy 2, 40, .inr (.inl (fun _ => 0)))), (q 111, .inr (7, fShelf (fun k => q (111 + k)))), (q 112, .inl (cy 2, 40, .inr (.inl (fun _ => 0))))] s.heap := hP
  have hD : va_D A [(q 0, .inr (11, fX q)), (q 1, .inl (cy 4, 8, .inr (.inr (.inr (.inr (shv q)))))), (q 2, .inl (cy 0, 5, .inl (fun _ => 0))), (q 97, .inr (7, fShelf (fun k => q (97 + k)))), (q 98, .inl (cy 2, 40, .inr (.inl (fun _ => 0)))), (q 99, .inr (7, fShelf (fun k => q (99 + k)))), (q 100, .inl (cy 2, 40, .inr (.inl (fun _ => 0)))), (q 101, .inr (7, fShelf (fun k => q (101 + k)))), (q 102, .inl (cy 2, 40, .inr (.inl (fun _ => 0)))), (q 103, .inr (7, fShelf (fun k => q (103 + k)))), (q 104, .inl (cy 2, 40, .inr (.inl (fun _ => 0)))), (q 105, .inr (7, fShelf (fun k => q (105 + k)))), (q 106, .inl (cy 2, 40, .inr (.inl (fun _ => 0)))), (q 107, .inr (7, fShelf (fun k => q (107 + k)))), (q 108, .inl (cy 2, 40, .inr (.inl (fun _ => 0)))), (q 109, .inr (7, fShelf (fun k => q (109 + k)))), (q 110, .inl (cy 2, 40, .inr (.inl (fun _ => 0)))), (q 111, .inr (7, fShelf (fun k => q (111 + k)))), (q 112, .inl (cy 2, 40, .inr (.inl (fun _ => 0))))] := hD
  refine lv_aload_n hx hb dd_X11_set_0 rfl (lv_at hl 0 rfl) ?_
  refine lv_iload_n hx hb dd_X11_set_1 rfl (lv_at hl 1 rfl) ?_
  refine pk_i (pc_V [.int sf] [] Sx hl.1 ws_X_71 md_X11_refusalOfRow (c_refusalOfRow l D cy q sf) ⟨rfl, rfl⟩ ⟨Nat.le_of_ble_eq_true rfl, Nat.le_of_ble_eq_true rfl⟩ (hP.sub [0, 1, 3, 4, 5, 6, 7, 8, 9, 10, 11, 12, 13, 14, 15, 16, 17, 18] rfl) hK ns_b (ns_w hX) (va_recv hK hP (ci := 11) (q0 := 0) rfl rfl) rfl rfl (Nat.le_of_ble_eq_true rfl) dd_X11_set_2 ⟨Nat.le_of_ble_eq_true rfl, Nat.le_of_ble_eq_true rfl⟩) (fun r1 hw2 => ?_)
  rcases hw2 with ⟨hw2, ehw2⟩ | ⟨hw2, ehw2⟩
  · subst ehw2
    refine lv_istore (lv' := [(5, .int (-4)), (0, .ref (q 0)), (1, .int sf), (2, .int ix), (3, .long lv)]) hx hb dd_X11_set_5 hl (by decide) rfl (fun ls hl => ?_)
    refine lv_iload hx hb dd_X11_set_7 (lv_at hl 0 rfl) ?_
    refine lv_if_eq (tgt := 19) hx hb dd_X11_set_9 (by decide) (fun c => absurd c (by decide)) (fun _ => ?_)
    refine lv_aload_n hx hb dd_X11_set_12 rfl (lv_at hl 1 rfl) ?_
    refine lv_iload hx hb dd_X11_set_13 (lv_at hl 0 rfl) ?_
    refine hk_i (wr := [(q 1, .inl (cy 4, 8, .inr (.inr (.inr (.inr (shv q)))))), (q 97, .inr (7, fShelf (fun k => q (97 + k)))), (q 98, .inl (cy 2, 40, .inr (.inl (fun _ => 0)))), (q 99, .inr (7, fShelf (fun k => q (99 + k)))), (q 100, .inl (cy 2, 40, .inr (.inl (fun _ => 0)))), (q 101, .inr (7, fShelf (fun k => q (101 + k)))), (q 102, .inl (cy 2, 40, .inr (.inl (fun _ => 0)))), (q 103, .inr (7, fShelf (fun k => q (103 + k)))), (q 104, .inl (cy 2, 40, .inr (.inl (fun _ => 0)))), (q 105, .inr (7, fShelf (fun k => q (105 + k)))), (q 106, .inl (cy 2, 40, .inr (.inl (fun _ => 0)))), (q 107, .inr (7, fShelf (fun k => q (107 + k)))), (q 108, .inl (cy 2, 40, .inr (.inl (fun _ => 0)))), (q 109, .inr (7, fShelf (fun k => q (109 + k)))), (q 110, .inl (cy 2, 40, .inr (.inl (fun _ => 0)))), (q 111, .inr (7, fShelf (fun k => q (111 + k)))), (q 112, .inl (cy 2, 40, .inr (.inl (fun _ => 0))))]) (c1 := 0) (s1 := 0) [0, 2] [1, 3, 4, 5, 6, 7, 8, 9, 10, 11, 12, 13, 14, 15, 16, 17, 18] (hc_V [.int (-4)] [] [0, 2] Sx hl.1 ws_X_63 md_X11_refuse (c_refuse_4 l D cy q) ⟨Nat.le_of_ble_eq_true rfl, Nat.le_of_ble_eq_true rfl⟩ hP hD rfl (by decide) hK nx_b (nx_w hX) (va_recv hK hP (ci := 11) (q0 := 0) rfl rfl) rfl rfl (Nat.le_of_ble_eq_true rfl) dd_X11_set_15 ⟨Nat.le_of_ble_eq_true rfl, Nat.le_of_ble_eq_true rfl⟩) hS hA hP hD rfl rfl (by decide) (by decide) rfl rfl (fun r3 u4 H locs hw5 hP hD hS => ?_)
    have hP : va_P D cls [(q 1, .inl (cy 4, 8, .inr (.inr (.inr (.inr (shv q)))))), (q 97, .inr (7, fShelf (fun k => q (97 + k)))), (q 98, .inl (cy 2, 40, .inr (.inl (fun _ => 0)))), (q 99, .inr (7, fShelf (fun k => q (99 + k)))), (q 100, .inl (cy 2, 40, .inr (.inl (fun _ => 0)))), (q 101, .inr (7, fShelf (fun k => q (101 + k)))), (q 102, .inl (cy 2, 40, .inr (.inl (fun _ => 0)))), (q 103, .inr (7, fShelf (fun k => q (103 + k)))), (q 104, .inl (cy 2, 40, .inr (.inl (fun _ => 0)))), (q 105, .inr (7, fShelf (fun k => q (105 + k)))), (q 106, .inl (cy 2, 40, .inr (.inl (fun _ => 0)))), (q 107, .inr (7, fShelf (fun k => q (107 + k)))), (q 108, .inl (cy 2, 40, .inr (.inl (fun _ => 0)))), (q 109, .inr (7, fShelf (fun k => q (109 + k)))), (q 110, .inl (cy 2, 40, .inr (.inl (fun _ => 0)))), (q 111, .inr (7, fShelf (fun k => q (111 + k)))), (q 112, .inl (cy 2, 40, .inr (.inl (fun _ => 0))))] H := hP
    have hD : va_D A [(q 1, .inl (cy 4, 8, .inr (.inr (.inr (.inr (shv q)))))), (q 97, .inr (7, fShelf (fun k => q (97 + k)))), (q 98, .inl (cy 2, 40, .inr (.inl (fun _ => 0)))), (q 99, .inr (7, fShelf (fun k => q (99 + k)))), (q 100, .inl (cy 2, 40, .inr (.inl (fun _ => 0)))), (q 101, .inr (7, fShelf (fun k => q (101 + k)))), (q 102, .inl (cy 2, 40, .inr (.inl (fun _ => 0)))), (q 103, .inr (7, fShelf (fun k => q (103 + k)))), (q 104, .inl (cy 2, 40, .inr (.inl (fun _ => 0)))), (q 105, .inr (7, fShelf (fun k => q (105 + k)))), (q 106, .inl (cy 2, 40, .inr (.inl (fun _ => 0)))), (q 107, .inr (7, fShelf (fun k => q (107 + k)))), (q 108, .inl (cy 2, 40, .inr (.inl (fun _ => 0)))), (q 109, .inr (7, fShelf (fun k => q (109 + k)))), (q 110, .inl (cy 2, 40, .inr (.inl (fun _ => 0)))), (q 111, .inr (7, fShelf (fun k => q (111 + k)))), (q 112, .inl (cy 2, 40, .inr (.inl (fun _ => 0))))] := hD
    subst hw5
    exact hc_ret Sx hr hlocks dd_X11_set_18 hS () (Or.inl ⟨by omega, rfl⟩) p_nil d_nil
  · have hl6 : Int32.toInt (-4) = (-4) := rfl
    subst ehw2
    refine lv_istore (lv' := [(5, .int (-2)), (0, .ref (q 0)), (1, .int sf), (2, .int ix), (3, .long lv)]) hx hb dd_X11_set_5 hl (by decide) rfl (fun ls hl => ?_)
    refine lv_iload hx hb dd_X11_set_7 (lv_at hl 0 rfl) ?_
    refine lv_if_eq (tgt := 19) hx hb dd_X11_set_9 (by decide) (fun c => absurd c (by decide)) (fun _ => ?_)
    refine lv_aload_n hx hb dd_X11_set_12 rfl (lv_at hl 1 rfl) ?_
    refine lv_iload hx hb dd_X11_set_13 (lv_at hl 0 rfl) ?_
    refine hk_i (wr := [(q 1, .inl (cy 4, 8, .inr (.inr (.inr (.inr (shv q)))))), (q 97, .inr (7, fShelf (fun k => q (97 + k)))), (q 98, .inl (cy 2, 40, .inr (.inl (fun _ => 0)))), (q 99, .inr (7, fShelf (fun k => q (99 + k)))), (q 100, .inl (cy 2, 40, .inr (.inl (fun _ => 0)))), (q 101, .inr (7, fShelf (fun k => q (101 + k)))), (q 102, .inl (cy 2, 40, .inr (.inl (fun _ => 0)))), (q 103, .inr (7, fShelf (fun k => q (103 + k)))), (q 104, .inl (cy 2, 40, .inr (.inl (fun _ => 0)))), (q 105, .inr (7, fShelf (fun k => q (105 + k)))), (q 106, .inl (cy 2, 40, .inr (.inl (fun _ => 0)))), (q 107, .inr (7, fShelf (fun k => q (107 + k)))), (q 108, .inl (cy 2, 40, .inr (.inl (fun _ => 0)))), (q 109, .inr (7, fShelf (fun k => q (109 + k)))), (q 110, .inl (cy 2, 40, .inr (.inl (fun _ => 0)))), (q 111, .inr (7, fShelf (fun k => q (111 + k)))), (q 112, .inl (cy 2, 40, .inr (.inl (fun _ => 0))))]) (c1 := 0) (s1 := 0) [0, 2] [1, 3, 4, 5, 6, 7, 8, 9, 10, 11, 12, 13, 14, 15, 16, 17, 18] (hc_V [.int (-2)] [] [0, 2] Sx hl.1 ws_X_63 md_X11_refuse (c_refuse_2 l D cy q) ⟨Nat.le_of_ble_eq_true rfl, Nat.le_of_ble_eq_true rfl⟩ hP hD rfl (by decide) hK nx_b (nx_w hX) (va_recv hK hP (ci := 11) (q0 := 0) rfl rfl) rfl rfl (Nat.le_of_ble_eq_true rfl) dd_X11_set_15 ⟨Nat.le_of_ble_eq_true rfl, Nat.le_of_ble_eq_true rfl⟩) hS hA hP hD rfl rfl (by decide) (by decide) rfl rfl (fun r7 u8 H locs hw9 hP hD hS => ?_)
    have hP : va_P D cls [(q 1, .inl (cy 4, 8, .inr (.inr (.inr (.inr (shv q)))))), (q 97, .inr (7, fShelf (fun k => q (97 + k)))), (q 98, .inl (cy 2, 40, .inr (.inl (fun _ => 0)))), (q 99, .inr (7, fShelf (fun k => q (99 + k)))), (q 100, .inl (cy 2, 40, .inr (.inl (fun _ => 0)))), (q 101, .inr (7, fShelf (fun k => q (101 + k)))), (q 102, .inl (cy 2, 40, .inr (.inl (fun _ => 0)))), (q 103, .inr (7, fShelf (fun k => q (103 + k)))), (q 104, .inl (cy 2, 40, .inr (.inl (fun _ => 0)))), (q 105, .inr (7, fShelf (fun k => q (105 + k)))), (q 106, .inl (cy 2, 40, .inr (.inl (fun _ => 0)))), (q 107, .inr (7, fShelf (fun k => q (107 + k)))), (q 108, .inl (cy 2, 40, .inr (.inl (fun _ => 0)))), (q 109, .inr (7, fShelf (fun k => q (109 + k)))), (q 110, .inl (cy 2, 40, .inr (.inl (fun _ => 0)))), (q 111, .inr (7, fShelf (fun k => q (111 + k)))), (q 112, .inl (cy 2, 40, .inr (.inl (fun _ => 0))))] H := hP
    have hD : va_D A [(q 1, .inl (cy 4, 8, .inr (.inr (.inr (.inr (shv q)))))), (q 97, .inr (7, fShelf (fun k => q (97 + k)))), (q 98, .inl (cy 2, 40, .inr (.inl (fun _ => 0)))), (q 99, .inr (7, fShelf (fun k => q (99 + k)))), (q 100, .inl (cy 2, 40, .inr (.inl (fun _ => 0)))), (q 101, .inr (7, fShelf (fun k => q (101 + k)))), (q 102, .inl (cy 2, 40, .inr (.inl (fun _ => 0)))), (q 103, .inr (7, fShelf (fun k => q (103 + k)))), (q 104, .inl (cy 2, 40, .inr (.inl (fun _ => 0)))), (q 105, .inr (7, fShelf (fun k => q (105 + k)))), (q 106, .inl (cy 2, 40, .inr (.inl (fun _ => 0)))), (q 107, .inr (7, fShelf (fun k => q (107 + k)))), (q 108, .inl (cy 2, 40, .inr (.inl (fun _ => 0)))), (q 109, .inr (7, fShelf (fun k => q (109 + k)))), (q 110, .inl (cy 2, 40, .inr (.inl (fun _ => 0)))), (q 111, .inr (7, fShelf (fun k => q (111 + k)))), (q 112, .inl (cy 2, 40, .inr (.inl (fun _ => 0))))] := hD
    subst hw9
    exact hc_ret Sx hr hlocks dd_X11_set_18 hS () (Or.inr ⟨by omega, rfl⟩) p_nil d_nil
