set_option maxHeartbeats 4000000 in
set_option maxRecDepth 100000 in
theorem c_within {l : Launch} {M : Mem} {Pq : Option gV → Mem → Prop} (v : Int) (lo : Int) (hi : Int) (h1 : inI v) (h2 : inI lo) (h3 : inI hi) (hT : (lo ≤ v ∧ v ≤ hi) → Pq (some (gI 1)) M) (hF : ¬ (lo ≤ v ∧ v ≤ hi) → Pq (some (gI 0)) M) : gCtr l my_X11_within mb_X11_within 3 ((some .boolean)) 1 [gI v, gI lo, gI hi] M Pq := by
  refine g_intro (by decide) (Nat.le_of_ble_eq_true rfl) ?_
  intro p e s m args below meth c D cy q A hK hr hlocks hw
  refine g_sub (L' := [(0, gI v), (1, gI lo), (2, gI hi)]) [0, 1, 2] rfl ?_
  refine g_iloadn (pc := 0) (i := 0) (x := v) hK dd_X11_within_0 rfl rfl ?_
  refine g_iloadn (pc := 1) (i := 1) (x := lo) hK dd_X11_within_1 rfl rfl ?_
  refine g_icmp_lt (pc := 2) (tgt := 14) hK dd_X11_within_2 (by decide) h1 h2 (fun c1 => ?_) (fun c1 => ?_)
  · refine g_iconst (pc := 14) (x := 0) hK dd_X11_within_14 (by decide) ?_
    refine g_iret (pc := 15) hK hr hlocks dd_X11_within_15 rfl ?_
    exact g_finM (hF (by subst_vars; first | assumption | omega | simp_all)) (by first | rfl | (subst_vars; rfl))
  · refine g_iloadn (pc := 5) (i := 0) (x := v) hK dd_X11_within_5 rfl rfl ?_
    refine g_iloadn (pc := 6) (i := 2) (x := hi) hK dd_X11_within_6 rfl rfl ?_
    refine g_icmp_gt (pc := 7) (tgt := 14) hK dd_X11_within_7 (by decide) h1 h3 (fun c2 => ?_) (fun c2 => ?_)
    · refine g_iconst (pc := 14) (x := 0) hK dd_X11_within_14 (by decide) ?_
      refine g_iret (pc := 15) hK hr hlocks dd_X11_within_15 rfl ?_
      exact g_finM (hF (by subst_vars; first | assumption | omega | simp_all)) (by first | rfl | (subst_vars; rfl))
    · refine g_iconst (pc := 10) (x := 1) hK dd_X11_within_10 (by decide) ?_
      refine g_goto (pc := 11) (tgt := 15) hK dd_X11_within_11 (by decide) ?_
      refine g_iret (pc := 15) hK hr hlocks dd_X11_within_15 rfl ?_
      exact g_finM (hT (by subst_vars; first | assumption | omega | simp_all)) (by first | rfl | (subst_vars; rfl))
set_option maxHeartbeats 4000000 in
set_option maxRecDepth 100000 in
theorem c_isShelf {l : Launch} {M : Mem} {Pq : Option gV → Mem → Prop} (x : Int) (h1 : inI x) (hT : (0 ≤ x ∧ x ≤ 7) → Pq (some (gI 1)) M) (hF : ¬ (0 ≤ x ∧ x ≤ 7) → Pq (some (gI 0)) M) : gCtr l my_X11_isShelf mb_X11_isShelf 1 ((some .boolean)) 2 [gI x] M Pq := by
  refine g_intro (by decide) (Nat.le_of_ble_eq_true rfl) ?_
  intro p e s m args below meth c D cy q A hK hr hlocks hw
  refine g_sub (L' := [(0, gI x)]) [0] rfl ?_
  refine g_iloadn (pc := 0) (i := 0) (x := x) hK dd_X11_isShelf_0 rfl rfl ?_
  refine g_iconst (pc := 1) (x := 0) hK dd_X11_isShelf_1 (by decide) ?_
  refine g_bipush (pc := 2) (x := 7) hK dd_X11_isShelf_2 (by decide) ?_
  refine g_callT (pc := 4) (As := [gI x, gI 0, gI 7]) hK ws_X_59 md_X11_within ⟨Nat.zero_le _, Nat.zero_le _⟩ ⟨by decide, by decide⟩ dd_X11_isShelf_4 rfl rfl (Nat.le_of_ble_eq_true rfl) (c_within x 0 7 h1 (by decide) (by decide) (fun c1 => g_r1 ?_) (fun c1 => g_r1 ?_))
  · refine g_iret (pc := 7) hK hr hlocks dd_X11_isShelf_7 rfl ?_
    exact g_finM (hT (by subst_vars; first | assumption | omega | simp_all)) (by first | rfl | (subst_vars; rfl))
  · refine g_iret (pc := 7) hK hr hlocks dd_X11_isShelf_7 rfl ?_
    exact g_finM (hF (by subst_vars; first | assumption | omega | simp_all)) (by first | rfl | (subst_vars; rfl))
set_option maxHeartbeats 4000000 in
set_option maxRecDepth 100000 in
theorem c_isKind {l : Launch} {M : Mem} {Pq : Option gV → Mem → Prop} (x : Int) (h1 : inI x) (hT : (0 ≤ x ∧ x ≤ 5) → Pq (some (gI 1)) M) (hF : ¬ (0 ≤ x ∧ x ≤ 5) → Pq (some (gI 0)) M) : gCtr l my_X11_isKind mb_X11_isKind 1 ((some .boolean)) 2 [gI x] M Pq := by
  refine g_intro (by decide) (Nat.le_of_ble_eq_true rfl) ?_
  intro p e s m args below meth c D cy q A hK hr hlocks hw
  refine g_sub (L' := [(0, gI x)]) [0] rfl ?_
  refine g_iloadn (pc := 0) (i := 0) (x := x) hK dd_X11_isKind_0 rfl rfl ?_
  refine g_iconst (pc := 1) (x := 0) hK dd_X11_isKind_1 (by decide) ?_
  refine g_iconst (pc := 2) (x := 5) hK dd_X11_isKind_2 (by decide) ?_
  refine g_callT (pc := 3) (As := [gI x, gI 0, gI 5]) hK ws_X_59 md_X11_within ⟨Nat.zero_le _, Nat.zero_le _⟩ ⟨by decide, by decide⟩ dd_X11_isKind_3 rfl rfl (Nat.le_of_ble_eq_true rfl) (c_within x 0 5 h1 (by decide) (by decide) (fun c1 => g_r1 ?_) (fun c1 => g_r1 ?_))
  · refine g_iret (pc := 6) hK hr hlocks dd_X11_isKind_6 rfl ?_
    exact g_finM (hT (by subst_vars; first | assumption | omega | simp_all)) (by first | rfl | (subst_vars; rfl))
  · refine g_iret (pc := 6) hK hr hlocks dd_X11_isKind_6 rfl ?_
    exact g_finM (hF (by subst_vars; first | assumption | omega | simp_all)) (by first | rfl | (subst_vars; rfl))
set_option maxHeartbeats 4000000 in
set_option maxRecDepth 100000 in
theorem c_isKinds {l : Launch} {M : Mem} {Pq : Option gV → Mem → Prop} (x : Int) (h1 : inI x) (hT : (0 ≤ x ∧ x ≤ 63) → Pq (some (gI 1)) M) (hF : ¬ (0 ≤ x ∧ x ≤ 63) → Pq (some (gI 0)) M) : gCtr l my_X11_isKinds mb_X11_isKinds 1 ((some .boolean)) 2 [gI x] M Pq := by
  refine g_intro (by decide) (Nat.le_of_ble_eq_true rfl) ?_
  intro p e s m args below meth c D cy q A hK hr hlocks hw
  refine g_sub (L' := [(0, gI x)]) [0] rfl ?_
  refine g_iloadn (pc := 0) (i := 0) (x := x) hK dd_X11_isKinds_0 rfl rfl ?_
  refine g_iconst (pc := 1) (x := 0) hK dd_X11_isKinds_1 (by decide) ?_
  refine g_bipush (pc := 2) (x := 63) hK dd_X11_isKinds_2 (by decide) ?_
  refine g_callT (pc := 4) (As := [gI x, gI 0, gI 63]) hK ws_X_59 md_X11_within ⟨Nat.zero_le _, Nat.zero_le _⟩ ⟨by decide, by decide⟩ dd_X11_isKinds_4 rfl rfl (Nat.le_of_ble_eq_true rfl) (c_within x 0 63 h1 (by decide) (by decide) (fun c1 => g_r1 ?_) (fun c1 => g_r1 ?_))
  · refine g_iret (pc := 7) hK hr hlocks dd_X11_isKinds_7 rfl ?_
    exact g_finM (hT (by subst_vars; first | assumption | omega | simp_all)) (by first | rfl | (subst_vars; rfl))
  · refine g_iret (pc := 7) hK hr hlocks dd_X11_isKinds_7 rfl ?_
    exact g_finM (hF (by subst_vars; first | assumption | omega | simp_all)) (by first | rfl | (subst_vars; rfl))
set_option maxHeartbeats 4000000 in
set_option maxRecDepth 100000 in
theorem c_isHour {l : Launch} {M : Mem} {Pq : Option gV → Mem → Prop} (x : Int) (h1 : inI x) (hT : (0 ≤ x ∧ x ≤ 11) → Pq (some (gI 1)) M) (hF : ¬ (0 ≤ x ∧ x ≤ 11) → Pq (some (gI 0)) M) : gCtr l my_X11_isHour mb_X11_isHour 1 ((some .boolean)) 2 [gI x] M Pq := by
  refine g_intro (by decide) (Nat.le_of_ble_eq_true rfl) ?_
  intro p e s m args below meth c D cy q A hK hr hlocks hw
  refine g_sub (L' := [(0, gI x)]) [0] rfl ?_
  refine g_iloadn (pc := 0) (i := 0) (x := x) hK dd_X11_isHour_0 rfl rfl ?_
  refine g_iconst (pc := 1) (x := 0) hK dd_X11_isHour_1 (by decide) ?_
  refine g_bipush (pc := 2) (x := 11) hK dd_X11_isHour_2 (by decide) ?_
  refine g_callT (pc := 4) (As := [gI x, gI 0, gI 11]) hK ws_X_59 md_X11_within ⟨Nat.zero_le _, Nat.zero_le _⟩ ⟨by decide, by decide⟩ dd_X11_isHour_4 rfl rfl (Nat.le_of_ble_eq_true rfl) (c_within x 0 11 h1 (by decide) (by decide) (fun c1 => g_r1 ?_) (fun c1 => g_r1 ?_))
  · refine g_iret (pc := 7) hK hr hlocks dd_X11_isHour_7 rfl ?_
    exact g_finM (hT (by subst_vars; first | assumption | omega | simp_all)) (by first | rfl | (subst_vars; rfl))
  · refine g_iret (pc := 7) hK hr hlocks dd_X11_isHour_7 rfl ?_
    exact g_finM (hF (by subst_vars; first | assumption | omega | simp_all)) (by first | rfl | (subst_vars; rfl))
set_option maxHeartbeats 4000000 in
set_option maxRecDepth 100000 in
theorem c_isPerson {l : Launch} {M : Mem} {Pq : Option gV → Mem → Prop} (x : Int) (h1 : inI x) (hT : (0 ≤ x ∧ x ≤ 15) → Pq (some (gI 1)) M) (hF : ¬ (0 ≤ x ∧ x ≤ 15) → Pq (some (gI 0)) M) : gCtr l my_X11_isPerson mb_X11_isPerson 1 ((some .boolean)) 2 [gI x] M Pq := by
  refine g_intro (by decide) (Nat.le_of_ble_eq_true rfl) ?_
  intro p e s m args below meth c D cy q A hK hr hlocks hw
  refine g_sub (L' := [(0, gI x)]) [0] rfl ?_
  refine g_iloadn (pc := 0) (i := 0) (x := x) hK dd_X11_isPerson_0 rfl rfl ?_
  refine g_iconst (pc := 1) (x := 0) hK dd_X11_isPerson_1 (by decide) ?_
  refine g_bipush (pc := 2) (x := 15) hK dd_X11_isPerson_2 (by decide) ?_
  refine g_callT (pc := 4) (As := [gI x, gI 0, gI 15]) hK ws_X_59 md_X11_within ⟨Nat.zero_le _, Nat.zero_le _⟩ ⟨by decide, by decide⟩ dd_X11_isPerson_4 rfl rfl (Nat.le_of_ble_eq_true rfl) (c_within x 0 15 h1 (by decide) (by decide) (fun c1 => g_r1 ?_) (fun c1 => g_r1 ?_))
  · refine g_iret (pc := 7) hK hr hlocks dd_X11_isPerson_7 rfl ?_
    exact g_finM (hT (by subst_vars; first | assumption | omega | simp_all)) (by first | rfl | (subst_vars; rfl))
  · refine g_iret (pc := 7) hK hr hlocks dd_X11_isPerson_7 rfl ?_
    exact g_finM (hF (by subst_vars; first | assumption | omega | simp_all)) (by first | rfl | (subst_vars; rfl))
set_option maxHeartbeats 4000000 in
set_option maxRecDepth 100000 in
theorem c_has10 {l : Launch} {M : Mem} {Pq : Option gV → Mem → Prop} (t : Int) (h1 : inI t) (h2 : 0 ≤ M 6 6 ∧ M 6 6 ≤ 30) (hT : (0 ≤ t ∧ t < M 6 6) → Pq (some (gI 1)) M) (hF : ¬ (0 ≤ t ∧ t < M 6 6) → Pq (some (gI 0)) M) : gCtr l my_X10_has mb_X10_has 2 ((some .boolean)) 2 [gR 6, gI t] M Pq := by
  refine g_intro (by decide) (Nat.le_of_ble_eq_true rfl) ?_
  intro p e s m args below meth c D cy q A hK hr hlocks hw
  refine g_sub (L' := [(0, gR 6), (1, gI t)]) [0, 1] rfl ?_
  refine g_iloadn (pc := 0) (i := 1) (x := t) hK dd_X10_has_0 rfl rfl ?_
  refine g_iconst (pc := 1) (x := 0) hK dd_X10_has_1 (by decide) ?_
  refine g_aloadn (pc := 2) (i := 0) (x := 6) hK dd_X10_has_2 rfl rfl ?_
  refine g_geti (pc := 3) (f := (0, 0)) (j := 6) hK (kdm kd_6) rfl ef_10 (by decide) rfl kk_86 nl_6 dd_X10_has_3 rfl (fun x1 ex1 rx1 => ?_)
  refine g_iconst (pc := 6) (x := 1) hK dd_X10_has_6 (by decide) ?_
  refine g_isub (pc := 7) (z := x1 - 1) hK dd_X10_has_7 rfl ?_
  refine g_callTN (pc := 8) (As := [gI t, gI 0, gI (x1 - 1)]) hK ws_Things_37 md_X11_within ⟨Nat.zero_le _, Nat.zero_le _⟩ ⟨by decide, by decide⟩ dd_X10_has_8 rfl rfl (Nat.le_of_ble_eq_true rfl) (c_within t 0 (x1 - 1) h1 (by decide) ⟨by omega, by omega⟩ (fun c2 => g_r1 ?_) (fun c2 => g_r1 ?_))
  · refine g_iret (pc := 11) hK hr hlocks dd_X10_has_11 rfl ?_
    exact g_finM (hT (by subst_vars; first | assumption | omega | simp_all)) (by first | rfl | (subst_vars; rfl))
  · refine g_iret (pc := 11) hK hr hlocks dd_X10_has_11 rfl ?_
    exact g_finM (hF (by subst_vars; first | assumption | omega | simp_all)) (by first | rfl | (subst_vars; rfl))
set_option maxHeartbeats 4000000 in
set_option maxRecDepth 100000 in
theorem c_hasBit {l : Launch} {M : Mem} {Pq : Option gV → Mem → Prop} (x : Int) (b : Int) (hT : (hb x b) → Pq (some (gI 1)) M) (hF : ¬ (hb x b) → Pq (some (gI 0)) M) : gCtr l my_X11_hasBit mb_X11_hasBit 2 ((some .boolean)) 1 [gI x, gI b] M Pq := by
  refine g_intro (by decide) (Nat.le_of_ble_eq_true rfl) ?_
  intro p e s m args below meth c D cy q A hK hr hlocks hw
  refine g_sub (L' := [(0, gI x), (1, gI b)]) [0, 1] rfl ?_
  refine g_iloadn (pc := 0) (i := 0) (x := x) hK dd_X11_hasBit_0 rfl rfl ?_
  refine g_iloadn (pc := 1) (i := 1) (x := b) hK dd_X11_hasBit_1 rfl rfl ?_
  refine g_ishr (pc := 2) (z := jshr x b) hK dd_X11_hasBit_2 rfl ?_
  refine g_iconst (pc := 3) (x := 1) hK dd_X11_hasBit_3 (by decide) ?_
  refine g_iand (pc := 4) (z := jand (jshr x b) 1) hK dd_X11_hasBit_4 rfl ?_
  refine g_if_eq (pc := 5) (tgt := 12) hK dd_X11_hasBit_5 (by decide) (jand_in _ _) (fun c1 => ?_) (fun c1 => ?_)
  · refine g_iconst (pc := 12) (x := 0) hK dd_X11_hasBit_12 (by decide) ?_
    refine g_iret (pc := 13) hK hr hlocks dd_X11_hasBit_13 rfl ?_
    exact g_finM (hF (by have hj := jand1 (jshr x b); omega)) (by first | rfl | (subst_vars; rfl))
  · refine g_iconst (pc := 8) (x := 1) hK dd_X11_hasBit_8 (by decide) ?_
    refine g_goto (pc := 9) (tgt := 13) hK dd_X11_hasBit_9 (by decide) ?_
    refine g_iret (pc := 13) hK hr hlocks dd_X11_hasBit_13 rfl ?_
    exact g_finM (hT (by have hj := jand1 (jshr x b); omega)) (by first | rfl | (subst_vars; rfl))
set_option maxHeartbeats 4000000 in
set_option maxRecDepth 100000 in
theorem c_bitCount {l : Launch} {M : Mem} {Pq : Option gV → Mem → Prop} (x : Int) (h1 : 0 ≤ x) (h2 : x ≤ 255) (hQ : Pq (some (gI (bc8 x))) M) : gCtr l my_J6_bitCount_0f7a4 mb_J6_bitCount_0f7a4 1 ((some .int)) 1 [gI x] M Pq := by
  refine g_intro (by decide) (Nat.le_of_ble_eq_true rfl) ?_
  intro p e s m args below meth c D cy q A hK hr hlocks hw
  refine g_sub (L' := [(0, gI x)]) [0] rfl ?_
  refine g_iloadn (pc := 0) (i := 0) (x := x) hK dd_J6_bitCount_0f7a4_0 rfl rfl ?_
  refine g_iloadn (pc := 1) (i := 0) (x := x) hK dd_J6_bitCount_0f7a4_1 rfl rfl ?_
  refine g_iconst (pc := 2) (x := 1) hK dd_J6_bitCount_0f7a4_2 (by decide) ?_
  refine g_iushr (pc := 3) (z := jushr x 1) hK dd_J6_bitCount_0f7a4_3 rfl ?_
  refine g_ldcw (pc := 4) (x := 1431655765) hK kk_510 dd_J6_bitCount_0f7a4_4 (by decide) ?_
  refine g_iand (pc := 7) (z := jand (jushr x 1) 1431655765) hK dd_J6_bitCount_0f7a4_7 rfl ?_
  refine g_isub (pc := 8) (z := x - (jand (jushr x 1) 1431655765)) hK dd_J6_bitCount_0f7a4_8 rfl ?_
  refine g_istoren (pc := 9) (i := 0) (L' := [(0, gI (x - (jand (jushr x 1) 1431655765)))]) hK dd_J6_bitCount_0f7a4_9 rfl (by decide) rfl ?_
  refine g_iloadn (pc := 10) (i := 0) (x := x - (jand (jushr x 1) 1431655765)) hK dd_J6_bitCount_0f7a4_10 rfl rfl ?_
  refine g_ldcw (pc := 11) (x := 858993459) hK kk_511 dd_J6_bitCount_0f7a4_11 (by decide) ?_
  refine g_iand (pc := 14) (z := jand (x - (jand (jushr x 1) 1431655765)) 858993459) hK dd_J6_bitCount_0f7a4_14 rfl ?_
  refine g_iloadn (pc := 15) (i := 0) (x := x - (jand (jushr x 1) 1431655765)) hK dd_J6_bitCount_0f7a4_15 rfl rfl ?_
  refine g_iconst (pc := 16) (x := 2) hK dd_J6_bitCount_0f7a4_16 (by decide) ?_
  refine g_iushr (pc := 17) (z := jushr (x - (jand (jushr x 1) 1431655765)) 2) hK dd_J6_bitCount_0f7a4_17 rfl ?_
  refine g_ldcw (pc := 18) (x := 858993459) hK kk_511 dd_J6_bitCount_0f7a4_18 (by decide) ?_
  refine g_iand (pc := 21) (z := jand (jushr (x - (jand (jushr x 1) 1431655765)) 2) 858993459) hK dd_J6_bitCount_0f7a4_21 rfl ?_
  refine g_iadd (pc := 22) (z := (jand (x - (jand (jushr x 1) 1431655765)) 858993459) + (jand (jushr (x - (jand (jushr x 1) 1431655765)) 2) 858993459)) hK dd_J6_bitCount_0f7a4_22 rfl ?_
  refine g_istoren (pc := 23) (i := 0) (L' := [(0, gI ((jand (x - (jand (jushr x 1) 1431655765)) 858993459) + (jand (jushr (x - (jand (jushr x 1) 1431655765)) 2) 858993459)))]) hK dd_J6_bitCount_0f7a4_23 rfl (by decide) rfl ?_
  refine g_iloadn (pc := 24) (i := 0) (x := (jand (x - (jand (jushr x 1) 1431655765)) 858993459) + (jand (jushr (x - (jand (jushr x 1) 1431655765)) 2) 858993459)) hK dd_J6_bitCount_0f7a4_24 rfl rfl ?_
  refine g_iloadn (pc := 25) (i := 0) (x := (jand (x - (jand (jushr x 1) 1431655765)) 858993459) + (jand (jushr (x - (jand (jushr x 1) 1431655765)) 2) 858993459)) hK dd_J6_bitCount_0f7a4_25 rfl rfl ?_
  refine g_iconst (pc := 26) (x := 4) hK dd_J6_bitCount_0f7a4_26 (by decide) ?_
  refine g_iushr (pc := 27) (z := jushr ((jand (x - (jand (jushr x 1) 1431655765)) 858993459) + (jand (jushr (x - (jand (jushr x 1) 1431655765)) 2) 858993459)) 4) hK dd_J6_bitCount_0f7a4_27 rfl ?_
  refine g_iadd (pc := 28) (z := ((jand (x - (jand (jushr x 1) 1431655765)) 858993459) + (jand (jushr (x - (jand (jushr x 1) 1431655765)) 2) 858993459)) + (jushr ((jand (x - (jand (jushr x 1) 1431655765)) 858993459) + (jand (jushr (x - (jand (jushr x 1) 1431655765)) 2) 858993459)) 4)) hK dd_J6_bitCount_0f7a4_28 rfl ?_
  refine g_ldcw (pc := 29) (x := 252645135) hK kk_512 dd_J6_bitCount_0f7a4_29 (by decide) ?_
  refine g_iand (pc := 32) (z := jand (((jand (x - (jand (jushr x 1) 1431655765)) 858993459) + (jand (jushr (x - (jand (jushr x 1) 1431655765)) 2) 858993459)) + (jushr ((jand (x - (jand (jushr x 1) 1431655765)) 858993459) + (jand (jushr (x - (jand (jushr x 1) 1431655765)) 2) 858993459)) 4)) 252645135) hK dd_J6_bitCount_0f7a4_32 rfl ?_
  refine g_istoren (pc := 33) (i := 0) (L' := [(0, gI (jand (((jand (x - (jand (jushr x 1) 1431655765)) 858993459) + (jand (jushr (x - (jand (jushr x 1) 1431655765)) 2) 858993459)) + (jushr ((jand (x - (jand (jushr x 1) 1431655765)) 858993459) + (jand (jushr (x - (jand (jushr x 1) 1431655765)) 2) 858993459)) 4)) 252645135))]) hK dd_J6_bitCount_0f7a4_33 rfl (by decide) rfl ?_
  refine g_iloadn (pc := 34) (i := 0) (x := jand (((jand (x - (jand (jushr x 1) 1431655765)) 858993459) + (jand (jushr (x - (jand (jushr x 1) 1431655765)) 2) 858993459)) + (jushr ((jand (x - (jand (jushr x 1) 1431655765)) 858993459) + (jand (jushr (x - (jand (jushr x 1) 1431655765)) 2) 858993459)) 4)) 252645135) hK dd_J6_bitCount_0f7a4_34 rfl rfl ?_
  refine g_iloadn (pc := 35) (i := 0) (x := jand (((jand (x - (jand (jushr x 1) 1431655765)) 858993459) + (jand (jushr (x - (jand (jushr x 1) 1431655765)) 2) 858993459)) + (jushr ((jand (x - (jand (jushr x 1) 1431655765)) 858993459) + (jand (jushr (x - (jand (jushr x 1) 1431655765)) 2) 858993459)) 4)) 252645135) hK dd_J6_bitCount_0f7a4_35 rfl rfl ?_
  refine g_bipush (pc := 36) (x := 8) hK dd_J6_bitCount_0f7a4_36 (by decide) ?_
  refine g_iushr (pc := 38) (z := jushr (jand (((jand (x - (jand (jushr x 1) 1431655765)) 858993459) + (jand (jushr (x - (jand (jushr x 1) 1431655765)) 2) 858993459)) + (jushr ((jand (x - (jand (jushr x 1) 1431655765)) 858993459) + (jand (jushr (x - (jand (jushr x 1) 1431655765)) 2) 858993459)) 4)) 252645135) 8) hK dd_J6_bitCount_0f7a4_38 rfl ?_
  refine g_iadd (pc := 39) (z := (jand (((jand (x - (jand (jushr x 1) 1431655765)) 858993459) + (jand (jushr (x - (jand (jushr x 1) 1431655765)) 2) 858993459)) + (jushr ((jand (x - (jand (jushr x 1) 1431655765)) 858993459) + (jand (jushr (x - (jand (jushr x 1) 1431655765)) 2) 858993459)) 4)) 252645135) + (jushr (jand (((jand (x - (jand (jushr x 1) 1431655765)) 858993459) + (jand (jushr (x - (jand (jushr x 1) 1431655765)) 2) 858993459)) + (jushr ((jand (x - (jand (jushr x 1) 1431655765)) 858993459) + (jand (jushr (x - (jand (jushr x 1) 1431655765)) 2) 858993459)) 4)) 252645135) 8)) hK dd_J6_bitCount_0f7a4_39 rfl ?_
  refine g_istoren (pc := 40) (i := 0) (L' := [(0, gI ((jand (((jand (x - (jand (jushr x 1) 1431655765)) 858993459) + (jand (jushr (x - (jand (jushr x 1) 1431655765)) 2) 858993459)) + (jushr ((jand (x - (jand (jushr x 1) 1431655765)) 858993459) + (jand (jushr (x - (jand (jushr x 1) 1431655765)) 2) 858993459)) 4)) 252645135) + (jushr (jand (((jand (x - (jand (jushr x 1) 1431655765)) 858993459) + (jand (jushr (x - (jand (jushr x 1) 1431655765)) 2) 858993459)) + (jushr ((jand (x - (jand (jushr x 1) 1431655765)) 858993459) + (jand (jushr (x - (jand (jushr x 1) 1431655765)) 2) 858993459)) 4)) 252645135) 8)))]) hK dd_J6_bitCount_0f7a4_40 rfl (by decide) rfl ?_
  refine g_iloadn (pc := 41) (i := 0) (x := (jand (((jand (x - (jand (jushr x 1) 1431655765)) 858993459) + (jand (jushr (x - (jand (jushr x 1) 1431655765)) 2) 858993459)) + (jushr ((jand (x - (jand (jushr x 1) 1431655765)) 858993459) + (jand (jushr (x - (jand (jushr x 1) 1431655765)) 2) 858993459)) 4)) 252645135) + (jushr (jand (((jand (x - (jand (jushr x 1) 1431655765)) 858993459) + (jand (jushr (x - (jand (jushr x 1) 1431655765)) 2) 858993459)) + (jushr ((jand (x - (jand (jushr x 1) 1431655765)) 858993459) + (jand (jushr (x - (jand (jushr x 1) 1431655765)) 2) 858993459)) 4)) 252645135) 8)) hK dd_J6_bitCount_0f7a4_41 rfl rfl ?_
  refine g_iloadn (pc := 42) (i := 0) (x := (jand (((jand (x - (jand (jushr x 1) 1431655765)) 858993459) + (jand (jushr (x - (jand (jushr x 1) 1431655765)) 2) 858993459)) + (jushr ((jand (x - (jand (jushr x 1) 1431655765)) 858993459) + (jand (jushr (x - (jand (jushr x 1) 1431655765)) 2) 858993459)) 4)) 252645135) + (jushr (jand (((jand (x - (jand (jushr x 1) 1431655765)) 858993459) + (jand (jushr (x - (jand (jushr x 1) 1431655765)) 2) 858993459)) + (jushr ((jand (x - (jand (jushr x 1) 1431655765)) 858993459) + (jand (jushr (x - (jand (jushr x 1) 1431655765)) 2) 858993459)) 4)) 252645135) 8)) hK dd_J6_bitCount_0f7a4_42 rfl rfl ?_
  refine g_bipush (pc := 43) (x := 16) hK dd_J6_bitCount_0f7a4_43 (by decide) ?_
  refine g_iushr (pc := 45) (z := jushr ((jand (((jand (x - (jand (jushr x 1) 1431655765)) 858993459) + (jand (jushr (x - (jand (jushr x 1) 1431655765)) 2) 858993459)) + (jushr ((jand (x - (jand (jushr x 1) 1431655765)) 858993459) + (jand (jushr (x - (jand (jushr x 1) 1431655765)) 2) 858993459)) 4)) 252645135) + (jushr (jand (((jand (x - (jand (jushr x 1) 1431655765)) 858993459) + (jand (jushr (x - (jand (jushr x 1) 1431655765)) 2) 858993459)) + (jushr ((jand (x - (jand (jushr x 1) 1431655765)) 858993459) + (jand (jushr (x - (jand (jushr x 1) 1431655765)) 2) 858993459)) 4)) 252645135) 8)) 16) hK dd_J6_bitCount_0f7a4_45 rfl ?_
  refine g_iadd (pc := 46) (z := ((jand (((jand (x - (jand (jushr x 1) 1431655765)) 858993459) + (jand (jushr (x - (jand (jushr x 1) 1431655765)) 2) 858993459)) + (jushr ((jand (x - (jand (jushr x 1) 1431655765)) 858993459) + (jand (jushr (x - (jand (jushr x 1) 1431655765)) 2) 858993459)) 4)) 252645135) + (jushr (jand (((jand (x - (jand (jushr x 1) 1431655765)) 858993459) + (jand (jushr (x - (jand (jushr x 1) 1431655765)) 2) 858993459)) + (jushr ((jand (x - (jand (jushr x 1) 1431655765)) 858993459) + (jand (jushr (x - (jand (jushr x 1) 1431655765)) 2) 858993459)) 4)) 252645135) 8)) + (jushr ((jand (((jand (x - (jand (jushr x 1) 1431655765)) 858993459) + (jand (jushr (x - (jand (jushr x 1) 1431655765)) 2) 858993459)) + (jushr ((jand (x - (jand (jushr x 1) 1431655765)) 858993459) + (jand (jushr (x - (jand (jushr x 1) 1431655765)) 2) 858993459)) 4)) 252645135) + (jushr (jand (((jand (x - (jand (jushr x 1) 1431655765)) 858993459) + (jand (jushr (x - (jand (jushr x 1) 1431655765)) 2) 858993459)) + (jushr ((jand (x - (jand (jushr x 1) 1431655765)) 858993459) + (jand (jushr (x - (jand (jushr x 1) 1431655765)) 2) 858993459)) 4)) 252645135) 8)) 16)) hK dd_J6_bitCount_0f7a4_46 rfl ?_
  refine g_istoren (pc := 47) (i := 0) (L' := [(0, gI (((jand (((jand (x - (jand (jushr x 1) 1431655765)) 858993459) + (jand (jushr (x - (jand (jushr x 1) 1431655765)) 2) 858993459)) + (jushr ((jand (x - (jand (jushr x 1) 1431655765)) 858993459) + (jand (jushr (x - (jand (jushr x 1) 1431655765)) 2) 858993459)) 4)) 252645135) + (jushr (jand (((jand (x - (jand (jushr x 1) 1431655765)) 858993459) + (jand (jushr (x - (jand (jushr x 1) 1431655765)) 2) 858993459)) + (jushr ((jand (x - (jand (jushr x 1) 1431655765)) 858993459) + (jand (jushr (x - (jand (jushr x 1) 1431655765)) 2) 858993459)) 4)) 252645135) 8)) + (jushr ((jand (((jand (x - (jand (jushr x 1) 1431655765)) 858993459) + (jand (jushr (x - (jand (jushr x 1) 1431655765)) 2) 858993459)) + (jushr ((jand (x - (jand (jushr x 1) 1431655765)) 858993459) + (jand (jushr (x - (jand (jushr x 1) 1431655765)) 2) 858993459)) 4)) 252645135) + (jushr (jand (((jand (x - (jand (jushr x 1) 1431655765)) 858993459) + (jand (jushr (x - (jand (jushr x 1) 1431655765)) 2) 858993459)) + (jushr ((jand (x - (jand (jushr x 1) 1431655765)) 858993459) + (jand (jushr (x - (jand (jushr x 1) 1431655765)) 2) 858993459)) 4)) 252645135) 8)) 16)))]) hK dd_J6_bitCount_0f7a4_47 rfl (by decide) rfl ?_
  refine g_iloadn (pc := 48) (i := 0) (x := ((jand (((jand (x - (jand (jushr x 1) 1431655765)) 858993459) + (jand (jushr (x - (jand (jushr x 1) 1431655765)) 2) 858993459)) + (jushr ((jand (x - (jand (jushr x 1) 1431655765)) 858993459) + (jand (jushr (x - (jand (jushr x 1) 1431655765)) 2) 858993459)) 4)) 252645135) + (jushr (jand (((jand (x - (jand (jushr x 1) 1431655765)) 858993459) + (jand (jushr (x - (jand (jushr x 1) 1431655765)) 2) 858993459)) + (jushr ((jand (x - (jand (jushr x 1) 1431655765)) 858993459) + (jand (jushr (x - (jand (jushr x 1) 1431655765)) 2) 858993459)) 4)) 252645135) 8)) + (jushr ((jand (((jand (x - (jand (jushr x 1) 1431655765)) 858993459) + (jand (jushr (x - (jand (jushr x 1) 1431655765)) 2) 858993459)) + (jushr ((jand (x - (jand (jushr x 1) 1431655765)) 858993459) + (jand (jushr (x - (jand (jushr x 1) 1431655765)) 2) 858993459)) 4)) 252645135) + (jushr (jand (((jand (x - (jand (jushr x 1) 1431655765)) 858993459) + (jand (jushr (x - (jand (jushr x 1) 1431655765)) 2) 858993459)) + (jushr ((jand (x - (jand (jushr x 1) 1431655765)) 858993459) + (jand (jushr (x - (jand (jushr x 1) 1431655765)) 2) 858993459)) 4)) 252645135) 8)) 16)) hK dd_J6_bitCount_0f7a4_48 rfl rfl ?_
  refine g_bipush (pc := 49) (x := 63) hK dd_J6_bitCount_0f7a4_49 (by decide) ?_
  refine g_iand (pc := 51) (z := jand (((jand (((jand (x - (jand (jushr x 1) 1431655765)) 858993459) + (jand (jushr (x - (jand (jushr x 1) 1431655765)) 2) 858993459)) + (jushr ((jand (x - (jand (jushr x 1) 1431655765)) 858993459) + (jand (jushr (x - (jand (jushr x 1) 1431655765)) 2) 858993459)) 4)) 252645135) + (jushr (jand (((jand (x - (jand (jushr x 1) 1431655765)) 858993459) + (jand (jushr (x - (jand (jushr x 1) 1431655765)) 2) 858993459)) + (jushr ((jand (x - (jand (jushr x 1) 1431655765)) 858993459) + (jand (jushr (x - (jand (jushr x 1) 1431655765)) 2) 858993459)) 4)) 252645135) 8)) + (jushr ((jand (((jand (x - (jand (jushr x 1) 1431655765)) 858993459) + (jand (jushr (x - (jand (jushr x 1) 1431655765)) 2) 858993459)) + (jushr ((jand (x - (jand (jushr x 1) 1431655765)) 858993459) + (jand (jushr (x - (jand (jushr x 1) 1431655765)) 2) 858993459)) 4)) 252645135) + (jushr (jand (((jand (x - (jand (jushr x 1) 1431655765)) 858993459) + (jand (jushr (x - (jand (jushr x 1) 1431655765)) 2) 858993459)) + (jushr ((jand (x - (jand (jushr x 1) 1431655765)) 858993459) + (jand (jushr (x - (jand (jushr x 1) 1431655765)) 2) 858993459)) 4)) 252645135) 8)) 16)) 63) hK dd_J6_bitCount_0f7a4_51 rfl ?_
  refine g_iret (pc := 52) hK hr hlocks dd_J6_bitCount_0f7a4_52 rfl ?_
  exact g_fin hQ (by exact bcj_eq h1 h2) (by first | rfl | (subst_vars; rfl))
set_option maxHeartbeats 4000000 in
set_option maxRecDepth 100000 in
theorem c_isSold {l : Launch} {M : Mem} {Pq : Option gV → Mem → Prop} (t : Int) (h1 : 0 ≤ t) (h2 : t < 30) (hT : (M 11 t.toNat ≠ -1) → Pq (some (gI 1)) M) (hF : ¬ (M 11 t.toNat ≠ -1) → Pq (some (gI 0)) M) : gCtr l my_X10_isSold mb_X10_isSold 2 ((some .boolean)) 1 [gR 6, gI t] M Pq := by
  refine g_intro (by decide) (Nat.le_of_ble_eq_true rfl) ?_
  intro p e s m args below meth c D cy q A hK hr hlocks hw
  refine g_sub (L' := [(0, gR 6), (1, gI t)]) [0, 1] rfl ?_
  refine g_aloadn (pc := 0) (i := 0) (x := 6) hK dd_X10_isSold_0 rfl rfl ?_
  refine g_getv (pc := 1) (f := (1, 5)) (j := 4) (v := gR 11) hK (kdm kd_6) rfl ef_10 (by decide) rfl kk_79 dd_X10_isSold_1 rfl ?_
  refine g_iloadn (pc := 4) (i := 1) (x := t) hK dd_X10_isSold_4 rfl rfl ?_
  refine g_iald (pc := 5) hK (kdm kd_11) nl_11 (by decide) dd_X10_isSold_5 (by omega) (by omega) (fun x1 ex1 rx1 => ?_)
  refine g_iconst (pc := 6) (x := (-1)) hK dd_X10_isSold_6 (by decide) ?_
  refine g_icmp_eq (pc := 7) (tgt := 14) hK dd_X10_isSold_7 (by decide) rx1 (by decide) (fun c2 => ?_) (fun c2 => ?_)
  · refine g_iconst (pc := 14) (x := 0) hK dd_X10_isSold_14 (by decide) ?_
    refine g_iret (pc := 15) hK hr hlocks dd_X10_isSold_15 rfl ?_
    exact g_finM (hF (by subst_vars; first | assumption | omega | simp_all)) (by first | rfl | (subst_vars; rfl))
  · refine g_iconst (pc := 10) (x := 1) hK dd_X10_isSold_10 (by decide) ?_
    refine g_goto (pc := 11) (tgt := 15) hK dd_X10_isSold_11 (by decide) ?_
    refine g_iret (pc := 15) hK hr hlocks dd_X10_isSold_15 rfl ?_
    exact g_finM (hT (by subst_vars; first | assumption | omega | simp_all)) (by first | rfl | (subst_vars; rfl))
set_option maxHeartbeats 4000000 in
set_option maxRecDepth 100000 in
theorem c_isOffered {l : Launch} {M : Mem} {Pq : Option gV → Mem → Prop} (t : Int) (h1 : 0 ≤ t) (h2 : t < 30) (hT : (M 10 t.toNat ≠ -1 ∧ M 11 t.toNat = -1) → Pq (some (gI 1)) M) (hF : ¬ (M 10 t.toNat ≠ -1 ∧ M 11 t.toNat = -1) → Pq (some (gI 0)) M) : gCtr l my_X10_isOffered mb_X10_isOffered 2 ((some .boolean)) 2 [gR 6, gI t] M Pq := by
  refine g_intro (by decide) (Nat.le_of_ble_eq_true rfl) ?_
  intro p e s m args below meth c D cy q A hK hr hlocks hw
  refine g_sub (L' := [(0, gR 6), (1, gI t)]) [0, 1] rfl ?_
  refine g_aloadn (pc := 0) (i := 0) (x := 6) hK dd_X10_isOffered_0 rfl rfl ?_
  refine g_getv (pc := 1) (f := (1, 4)) (j := 3) (v := gR 10) hK (kdm kd_6) rfl ef_10 (by decide) rfl kk_74 dd_X10_isOffered_1 rfl ?_
  refine g_iloadn (pc := 4) (i := 1) (x := t) hK dd_X10_isOffered_4 rfl rfl ?_
  refine g_iald (pc := 5) hK (kdm kd_10) nl_10 (by decide) dd_X10_isOffered_5 (by omega) (by omega) (fun x1 ex1 rx1 => ?_)
  refine g_iconst (pc := 6) (x := (-1)) hK dd_X10_isOffered_6 (by decide) ?_
  refine g_icmp_eq (pc := 7) (tgt := 22) hK dd_X10_isOffered_7 (by decide) rx1 (by decide) (fun c2 => ?_) (fun c2 => ?_)
  · refine g_iconst (pc := 22) (x := 0) hK dd_X10_isOffered_22 (by decide) ?_
    refine g_iret (pc := 23) hK hr hlocks dd_X10_isOffered_23 rfl ?_
    exact g_finM (hF (by subst_vars; first | assumption | omega | simp_all)) (by first | rfl | (subst_vars; rfl))
  · refine g_aloadn (pc := 10) (i := 0) (x := 6) hK dd_X10_isOffered_10 rfl rfl ?_
    refine g_iloadn (pc := 11) (i := 1) (x := t) hK dd_X10_isOffered_11 rfl rfl ?_
    refine g_callV (pc := 12) (As := [gI t]) hK ws_Things_41 md_X10_isSold ⟨Nat.zero_le _, Nat.zero_le _⟩ ⟨by decide, by decide⟩ (kdm kd_6) rfl rfl dd_X10_isOffered_12 rfl rfl (Nat.le_of_ble_eq_true rfl) (c_isSold t (show 0 ≤ t by omega) (show t < 30 by omega) (fun c3 => g_r1 ?_) (fun c3 => g_r1 ?_))
    · refine g_if_ne (pc := 15) (tgt := 22) hK dd_X10_isOffered_15 (by decide) (by decide) (fun _ => ?_) (fun c4 => absurd (by decide) c4)
      refine g_iconst (pc := 22) (x := 0) hK dd_X10_isOffered_22 (by decide) ?_
      refine g_iret (pc := 23) hK hr hlocks dd_X10_isOffered_23 rfl ?_
      exact g_finM (hF (by subst_vars; first | assumption | omega | simp_all)) (by first | rfl | (subst_vars; rfl))
    · refine g_if_ne (pc := 15) (tgt := 22) hK dd_X10_isOffered_15 (by decide) (by decide) (fun c5 => absurd c5 (by decide)) (fun _ => ?_)
      refine g_iconst (pc := 18) (x := 1) hK dd_X10_isOffered_18 (by decide) ?_
      refine g_goto (pc := 19) (tgt := 23) hK dd_X10_isOffered_19 (by decide) ?_
      refine g_iret (pc := 23) hK hr hlocks dd_X10_isOffered_23 rfl ?_
      exact g_finM (hT (by subst_vars; first | assumption | omega | simp_all)) (by first | rfl | (subst_vars; rfl))
set_option maxHeartbeats 4000000 in
set_option maxRecDepth 100000 in
theorem c_isOfKinds {l : Launch} {M : Mem} {Pq : Option gV → Mem → Prop} (t : Int) (ks : Int) (h1 : 0 ≤ t) (h2 : t < 30) (hT : (hb ks (M 7 t.toNat)) → Pq (some (gI 1)) M) (hF : ¬ (hb ks (M 7 t.toNat)) → Pq (some (gI 0)) M) : gCtr l my_X10_isOfKinds mb_X10_isOfKinds 3 ((some .boolean)) 2 [gR 6, gI t, gI ks] M Pq := by
  refine g_intro (by decide) (Nat.le_of_ble_eq_true rfl) ?_
  intro p e s m args below meth c D cy q A hK hr hlocks hw
  refine g_sub (L' := [(0, gR 6), (1, gI t), (2, gI ks)]) [0, 1, 2] rfl ?_
  refine g_iloadn (pc := 0) (i := 2) (x := ks) hK dd_X10_isOfKinds_0 rfl rfl ?_
  refine g_aloadn (pc := 1) (i := 0) (x := 6) hK dd_X10_isOfKinds_1 rfl rfl ?_
  refine g_getv (pc := 2) (f := (1, 1)) (j := 0) (v := gR 7) hK (kdm kd_6) rfl ef_10 (by decide) rfl kk_66 dd_X10_isOfKinds_2 rfl ?_
  refine g_iloadn (pc := 5) (i := 1) (x := t) hK dd_X10_isOfKinds_5 rfl rfl ?_
  refine g_iald (pc := 6) hK (kdm kd_7) nl_7 (by decide) dd_X10_isOfKinds_6 (by omega) (by omega) (fun x1 ex1 rx1 => ?_)
  refine g_callTN (pc := 7) (As := [gI ks, gI x1]) hK ws_Things_45 md_X11_hasBit ⟨Nat.zero_le _, Nat.zero_le _⟩ ⟨by decide, by decide⟩ dd_X10_isOfKinds_7 rfl rfl (Nat.le_of_ble_eq_true rfl) (c_hasBit ks x1 (fun c2 => g_r1 ?_) (fun c2 => g_r1 ?_))
  · refine g_iret (pc := 10) hK hr hlocks dd_X10_isOfKinds_10 rfl ?_
    exact g_finM (hT (by subst_vars; first | assumption | omega | simp_all)) (by first | rfl | (subst_vars; rfl))
  · refine g_iret (pc := 10) hK hr hlocks dd_X10_isOfKinds_10 rfl ?_
    exact g_finM (hF (by subst_vars; first | assumption | omega | simp_all)) (by first | rfl | (subst_vars; rfl))
set_option maxHeartbeats 4000000 in
set_option maxRecDepth 100000 in
theorem c_lidWorth {l : Launch} {M : Mem} {Pq : Option gV → Mem → Prop} (t : Int) (h1 : 0 ≤ t) (h2 : t < 30) (hQ : Pq (some (gI (lidW (M 9 t.toNat)))) M) : gCtr l my_X10_lidWorth mb_X10_lidWorth 2 ((some .int)) 2 [gR 6, gI t] M Pq := by
  refine g_intro (by decide) (Nat.le_of_ble_eq_true rfl) ?_
  intro p e s m args below meth c D cy q A hK hr hlocks hw
  refine g_sub (L' := [(0, gR 6), (1, gI t)]) [0, 1] rfl ?_
  refine g_aloadn (pc := 0) (i := 0) (x := 6) hK dd_X10_lidWorth_0 rfl rfl ?_
  refine g_getv (pc := 1) (f := (1, 3)) (j := 2) (v := gR 9) hK (kdm kd_6) rfl ef_10 (by decide) rfl kk_72 dd_X10_lidWorth_1 rfl ?_
  refine g_iloadn (pc := 4) (i := 1) (x := t) hK dd_X10_lidWorth_4 rfl rfl ?_
  refine g_iald (pc := 5) hK (kdm kd_9) nl_9 (by decide) dd_X10_lidWorth_5 (by omega) (by omega) (fun x1 ex1 rx1 => ?_)
  refine g_bipush (pc := 6) (x := 7) hK dd_X10_lidWorth_6 (by decide) ?_
  refine g_callTN (pc := 8) (As := [gI x1, gI 7]) hK ws_Things_45 md_X11_hasBit ⟨Nat.zero_le _, Nat.zero_le _⟩ ⟨by decide, by decide⟩ dd_X10_lidWorth_8 rfl rfl (Nat.le_of_ble_eq_true rfl) (c_hasBit x1 7 (fun c2 => g_r1 ?_) (fun c2 => g_r1 ?_))
  · refine g_if_eq (pc := 11) (tgt := 18) hK dd_X10_lidWorth_11 (by decide) (by decide) (fun c3 => absurd c3 (by decide)) (fun _ => ?_)
    refine g_iconst (pc := 14) (x := 0) hK dd_X10_lidWorth_14 (by decide) ?_
    refine g_goto (pc := 15) (tgt := 20) hK dd_X10_lidWorth_15 (by decide) ?_
    refine g_iret (pc := 20) hK hr hlocks dd_X10_lidWorth_20 rfl ?_
    exact g_fin hQ (by unfold lidW; simp_all) (by first | rfl | (subst_vars; rfl))
  · refine g_if_eq (pc := 11) (tgt := 18) hK dd_X10_lidWorth_11 (by decide) (by decide) (fun _ => ?_) (fun c4 => absurd (by decide) c4)
    refine g_bipush (pc := 18) (x := 50) hK dd_X10_lidWorth_18 (by decide) ?_
    refine g_iret (pc := 20) hK hr hlocks dd_X10_lidWorth_20 rfl ?_
    exact g_fin hQ (by unfold lidW; simp_all) (by first | rfl | (subst_vars; rfl))
set_option maxHeartbeats 4000000 in
set_option maxRecDepth 100000 in
theorem c_chinaWorth {l : Launch} {M : Mem} {Pq : Option gV → Mem → Prop} (t : Int) (h1 : 0 ≤ t) (h2 : t < 30) (h3 : 0 ≤ M 8 t.toNat ∧ M 8 t.toNat ≤ 999) (h4 : 0 ≤ M 9 t.toNat ∧ M 9 t.toNat ≤ 255) (hQ : Pq (some (gI (chW (M 8 t.toNat) (M 9 t.toNat)))) M) : gCtr l my_X10_chinaWorth mb_X10_chinaWorth 2 ((some .int)) 2 [gR 6, gI t] M Pq := by
  refine g_intro (by decide) (Nat.le_of_ble_eq_true rfl) ?_
  intro p e s m args below meth c D cy q A hK hr hlocks hw
  refine g_sub (L' := [(0, gR 6), (1, gI t)]) [0, 1] rfl ?_
  refine g_iconst (pc := 0) (x := 0) hK dd_X10_chinaWorth_0 (by decide) ?_
  refine g_aloadn (pc := 1) (i := 0) (x := 6) hK dd_X10_chinaWorth_1 rfl rfl ?_
  refine g_getv (pc := 2) (f := (1, 2)) (j := 1) (v := gR 8) hK (kdm kd_6) rfl ef_10 (by decide) rfl kk_70 dd_X10_chinaWorth_2 rfl ?_
  refine g_iloadn (pc := 5) (i := 1) (x := t) hK dd_X10_chinaWorth_5 rfl rfl ?_
  refine g_iald (pc := 6) hK (kdm kd_8) nl_8 (by decide) dd_X10_chinaWorth_6 (by omega) (by omega) (fun x1 ex1 rx1 => ?_)
  refine g_aloadn (pc := 7) (i := 0) (x := 6) hK dd_X10_chinaWorth_7 rfl rfl ?_
  refine g_getv (pc := 8) (f := (1, 2)) (j := 1) (v := gR 8) hK (kdm kd_6) rfl ef_10 (by decide) rfl kk_70 dd_X10_chinaWorth_8 rfl ?_
  refine g_iloadn (pc := 11) (i := 1) (x := t) hK dd_X10_chinaWorth_11 rfl rfl ?_
  refine g_iald (pc := 12) hK (kdm kd_8) nl_8 (by decide) dd_X10_chinaWorth_12 (by omega) (by omega) (fun x2 ex2 rx2 => ?_)
  refine g_bipush (pc := 13) (x := 10) hK dd_X10_chinaWorth_13 (by decide) ?_
  refine g_idiv (pc := 15) (z := x2.tdiv 10) hK dd_X10_chinaWorth_15 rx2 (by decide) (by decide) rfl ?_
  refine g_aloadn (pc := 16) (i := 0) (x := 6) hK dd_X10_chinaWorth_16 rfl rfl ?_
  refine g_getv (pc := 17) (f := (1, 3)) (j := 2) (v := gR 9) hK (kdm kd_6) rfl ef_10 (by decide) rfl kk_72 dd_X10_chinaWorth_17 rfl ?_
  refine g_iloadn (pc := 20) (i := 1) (x := t) hK dd_X10_chinaWorth_20 rfl rfl ?_
  refine g_iald (pc := 21) hK (kdm kd_9) nl_9 (by decide) dd_X10_chinaWorth_21 (by omega) (by omega) (fun x3 ex3 rx3 => ?_)
  refine g_callT (pc := 22) (As := [gI x3]) hK ws_Things_68 md_J6_bitCount_0f7a4 ⟨Nat.zero_le _, Nat.zero_le _⟩ ⟨by decide, by decide⟩ dd_X10_chinaWorth_22 rfl rfl (Nat.le_of_ble_eq_true rfl) (c_bitCount x3 (show 0 ≤ x3 by omega) (show x3 ≤ 255 by omega) (g_r1 ?_))
  refine g_imul (pc := 25) (z := (x2.tdiv 10) * (bc8 x3)) hK dd_X10_chinaWorth_25 rfl ?_
  refine g_isub (pc := 26) (z := x1 - ((x2.tdiv 10) * (bc8 x3))) hK dd_X10_chinaWorth_26 rfl ?_
  have hm := mulb (a := x2.tdiv 10) (b := bc8 x3) (td_in (by omega) 10 (by decide)).1 (by have := (td_in (w := x2) (by omega) 10 (by decide)).2; omega) (bc8_in _).1 (bc8_in _).2
  refine g_mmax (pc := 27) hK ws_Things_73 (by decide) ⟨by omega, by omega⟩ ⟨by decide, by decide⟩ ⟨Nat.zero_le _, Nat.zero_le _⟩ (Nat.le_of_ble_eq_true rfl) dd_X10_chinaWorth_27 ?_
  refine g_topI (fun y4 ey4 => ?_)
  refine g_iret (pc := 30) hK hr hlocks dd_X10_chinaWorth_30 rfl ?_
  exact g_fin hQ (by subst_vars; rfl) (by first | rfl | (subst_vars; rfl))
set_option maxHeartbeats 4000000 in
set_option maxRecDepth 100000 in
theorem c_asVase {l : Launch} {M : Mem} {Pq : Option gV → Mem → Prop} (t : Int) (v : Int) (h1 : 0 ≤ t) (h2 : t < 30) (h3 : 0 ≤ v ∧ v ≤ 999) (hQ : Pq (some (gI (asV (M 9 t.toNat) v))) M) : gCtr l my_X10_asVase mb_X10_asVase 3 ((some .int)) 2 [gR 6, gI t, gI v] M Pq := by
  refine g_intro (by decide) (Nat.le_of_ble_eq_true rfl) ?_
  intro p e s m args below meth c D cy q A hK hr hlocks hw
  refine g_sub (L' := [(0, gR 6), (1, gI t), (2, gI v)]) [0, 1, 2] rfl ?_
  refine g_aloadn (pc := 0) (i := 0) (x := 6) hK dd_X10_asVase_0 rfl rfl ?_
  refine g_getv (pc := 1) (f := (1, 3)) (j := 2) (v := gR 9) hK (kdm kd_6) rfl ef_10 (by decide) rfl kk_72 dd_X10_asVase_1 rfl ?_
  refine g_iloadn (pc := 4) (i := 1) (x := t) hK dd_X10_asVase_4 rfl rfl ?_
  refine g_iald (pc := 5) hK (kdm kd_9) nl_9 (by decide) dd_X10_asVase_5 (by omega) (by omega) (fun x1 ex1 rx1 => ?_)
  refine g_iconst (pc := 6) (x := 0) hK dd_X10_asVase_6 (by decide) ?_
  refine g_callTN (pc := 7) (As := [gI x1, gI 0]) hK ws_Things_45 md_X11_hasBit ⟨Nat.zero_le _, Nat.zero_le _⟩ ⟨by decide, by decide⟩ dd_X10_asVase_7 rfl rfl (Nat.le_of_ble_eq_true rfl) (c_hasBit x1 0 (fun c2 => g_r1 ?_) (fun c2 => g_r1 ?_))
  · refine g_if_eq (pc := 10) (tgt := 19) hK dd_X10_asVase_10 (by decide) (by decide) (fun c3 => absurd c3 (by decide)) (fun _ => ?_)
    refine g_iloadn (pc := 13) (i := 2) (x := v) hK dd_X10_asVase_13 rfl rfl ?_
    refine g_iconst (pc := 14) (x := 2) hK dd_X10_asVase_14 (by decide) ?_
    refine g_idiv (pc := 15) (z := v.tdiv 2) hK dd_X10_asVase_15 ⟨by omega, by omega⟩ (by decide) (by decide) rfl ?_
    refine g_goto (pc := 16) (tgt := 20) hK dd_X10_asVase_16 (by decide) ?_
    refine g_iret (pc := 20) hK hr hlocks dd_X10_asVase_20 rfl ?_
    exact g_fin hQ (by unfold asV; simp_all) (by first | rfl | (subst_vars; rfl))
  · refine g_if_eq (pc := 10) (tgt := 19) hK dd_X10_asVase_10 (by decide) (by decide) (fun _ => ?_) (fun c4 => absurd (by decide) c4)
    refine g_iloadn (pc := 19) (i := 2) (x := v) hK dd_X10_asVase_19 rfl rfl ?_
    refine g_iret (pc := 20) hK hr hlocks dd_X10_asVase_20 rfl ?_
    exact g_fin hQ (by unfold asV; simp_all) (by first | rfl | (subst_vars; rfl))
set_option maxHeartbeats 4000000 in
set_option maxRecDepth 100000 in
theorem c_trueWorth {l : Launch} {M : Mem} {Pq : Option gV → Mem → Prop} (t : Int) (h1 : 0 ≤ t) (h2 : t < 30) (hth : thOK M) (hQ : Pq (some (gI (TW (M 7 t.toNat) (M 8 t.toNat) (M 9 t.toNat)))) M) : gCtr l my_X10_trueWorth mb_X10_trueWorth 2 ((some .int)) 3 [gR 6, gI t] M Pq := by
  refine g_intro (by decide) (Nat.le_of_ble_eq_true rfl) ?_
  intro p e s m args below meth c D cy q A hK hr hlocks hw
  refine g_sub (L' := [(0, gR 6), (1, gI t)]) [0, 1] rfl ?_
  have h3 := thW hth (tn30 h1 h2)
  have h4 := thC hth (tn30 h1 h2)
  refine g_aloadn (pc := 0) (i := 0) (x := 6) hK dd_X10_trueWorth_0 rfl rfl ?_
  refine g_getv (pc := 1) (f := (1, 1)) (j := 0) (v := gR 7) hK (kdm kd_6) rfl ef_10 (by decide) rfl kk_66 dd_X10_trueWorth_1 rfl ?_
  refine g_iloadn (pc := 4) (i := 1) (x := t) hK dd_X10_trueWorth_4 rfl rfl ?_
  refine g_iald (pc := 5) hK (kdm kd_7) nl_7 (by decide) dd_X10_trueWorth_5 (by omega) (by omega) (fun x1 ex1 rx1 => ?_)
  rcases (show (x1 < 1 ∨ 4 < x1) ∨ x1 = 1 ∨ x1 = 2 ∨ x1 = 3 ∨ x1 = 4 by omega) with c2 | c2 | c2 | c2 | c2
  · refine g_tabOut (pc := 6) (tgt := 83) hK dd_X10_trueWorth_6 rx1 c2 (by decide) ?_
    refine g_aloadn (pc := 83) (i := 0) (x := 6) hK dd_X10_trueWorth_83 rfl rfl ?_
    refine g_getv (pc := 84) (f := (1, 2)) (j := 1) (v := gR 8) hK (kdm kd_6) rfl ef_10 (by decide) rfl kk_70 dd_X10_trueWorth_84 rfl ?_
    refine g_iloadn (pc := 87) (i := 1) (x := t) hK dd_X10_trueWorth_87 rfl rfl ?_
    refine g_iald (pc := 88) hK (kdm kd_8) nl_8 (by decide) dd_X10_trueWorth_88 (by omega) (by omega) (fun x3 ex3 rx3 => ?_)
    refine g_iret (pc := 89) hK hr hlocks dd_X10_trueWorth_89 rfl ?_
    exact g_fin hQ (by (first | rw [TW_0 (by omega)] | rw [TW_1 (by omega)] | rw [TW_2 (by omega)] | rw [TW_3 (by omega)] | rw [TW_4 (by omega)]); subst_vars; first | rfl | omega) (by first | rfl | (subst_vars; rfl))
  · refine g_tabIn (pc := 6) (tgt := 36) hK dd_X10_trueWorth_6 rx1 (by omega) (by omega) (by rw [c2]; rfl) (by decide) ?_
    refine g_aloadn (pc := 36) (i := 0) (x := 6) hK dd_X10_trueWorth_36 rfl rfl ?_
    refine g_iloadn (pc := 37) (i := 1) (x := t) hK dd_X10_trueWorth_37 rfl rfl ?_
    refine g_callV (pc := 38) (As := [gI t]) hK ws_Things_52 md_X10_chinaWorth ⟨Nat.zero_le _, Nat.zero_le _⟩ ⟨by decide, by decide⟩ (kdm kd_6) rfl rfl dd_X10_trueWorth_38 rfl rfl (Nat.le_of_ble_eq_true rfl) (c_chinaWorth t (show 0 ≤ t by omega) (show t < 30 by omega) (show 0 ≤ M 8 t.toNat ∧ M 8 t.toNat ≤ 999 by omega) (show 0 ≤ M 9 t.toNat ∧ M 9 t.toNat ≤ 255 by omega) (g_r1 ?_))
    refine g_topI (fun y4 ey4 => ?_)
    refine g_iret (pc := 41) hK hr hlocks dd_X10_trueWorth_41 rfl ?_
    exact g_fin hQ (by (first | rw [TW_0 (by omega)] | rw [TW_1 (by omega)] | rw [TW_2 (by omega)] | rw [TW_3 (by omega)] | rw [TW_4 (by omega)]); subst_vars; first | rfl | omega) (by first | rfl | (subst_vars; rfl))
  · refine g_tabIn (pc := 6) (tgt := 42) hK dd_X10_trueWorth_6 rx1 (by omega) (by omega) (by rw [c2]; rfl) (by decide) ?_
    refine g_aloadn (pc := 42) (i := 0) (x := 6) hK dd_X10_trueWorth_42 rfl rfl ?_
    refine g_iloadn (pc := 43) (i := 1) (x := t) hK dd_X10_trueWorth_43 rfl rfl ?_
    refine g_aloadn (pc := 44) (i := 0) (x := 6) hK dd_X10_trueWorth_44 rfl rfl ?_
    refine g_iloadn (pc := 45) (i := 1) (x := t) hK dd_X10_trueWorth_45 rfl rfl ?_
    refine g_callV (pc := 46) (As := [gI t]) hK ws_Things_52 md_X10_chinaWorth ⟨Nat.zero_le _, Nat.zero_le _⟩ ⟨by decide, by decide⟩ (kdm kd_6) rfl rfl dd_X10_trueWorth_46 rfl rfl (Nat.le_of_ble_eq_true rfl) (c_chinaWorth t (show 0 ≤ t by omega) (show t < 30 by omega) (show 0 ≤ M 8 t.toNat ∧ M 8 t.toNat ≤ 999 by omega) (show 0 ≤ M 9 t.toNat ∧ M 9 t.toNat ≤ 255 by omega) (g_r1 ?_))
    refine g_topI (fun y5 ey5 => ?_)
    have hcw := chW_in h3.1 (M 9 t.toNat)
    refine g_callV (pc := 49) (As := [gI t, gI y5]) hK ws_Things_56 md_X10_asVase ⟨Nat.zero_le _, Nat.zero_le _⟩ ⟨by decide, by decide⟩ (kdm kd_6) rfl rfl dd_X10_trueWorth_49 rfl rfl (Nat.le_of_ble_eq_true rfl) (c_asVase t y5 (show 0 ≤ t by omega) (show t < 30 by omega) (show 0 ≤ y5 ∧ y5 ≤ 999 by omega) (g_r1 ?_))
    refine g_topI (fun y6 ey6 => ?_)
    refine g_iret (pc := 52) hK hr hlocks dd_X10_trueWorth_52 rfl ?_
    exact g_fin hQ (by (first | rw [TW_0 (by omega)] | rw [TW_1 (by omega)] | rw [TW_2 (by omega)] | rw [TW_3 (by omega)] | rw [TW_4 (by omega)]); subst_vars; first | rfl | omega) (by first | rfl | (subst_vars; rfl))
  · refine g_tabIn (pc := 6) (tgt := 53) hK dd_X10_trueWorth_6 rx1 (by omega) (by omega) (by rw [c2]; rfl) (by decide) ?_
    refine g_aloadn (pc := 53) (i := 0) (x := 6) hK dd_X10_trueWorth_53 rfl rfl ?_
    refine g_iloadn (pc := 54) (i := 1) (x := t) hK dd_X10_trueWorth_54 rfl rfl ?_
    refine g_aloadn (pc := 55) (i := 0) (x := 6) hK dd_X10_trueWorth_55 rfl rfl ?_
    refine g_iloadn (pc := 56) (i := 1) (x := t) hK dd_X10_trueWorth_56 rfl rfl ?_
    refine g_callV (pc := 57) (As := [gI t]) hK ws_Things_52 md_X10_chinaWorth ⟨Nat.zero_le _, Nat.zero_le _⟩ ⟨by decide, by decide⟩ (kdm kd_6) rfl rfl dd_X10_trueWorth_57 rfl rfl (Nat.le_of_ble_eq_true rfl) (c_chinaWorth t (show 0 ≤ t by omega) (show t < 30 by omega) (show 0 ≤ M 8 t.toNat ∧ M 8 t.toNat ≤ 999 by omega) (show 0 ≤ M 9 t.toNat ∧ M 9 t.toNat ≤ 255 by omega) (g_r1 ?_))
    refine g_topI (fun y7 ey7 => ?_)
    have hcw := chW_in h3.1 (M 9 t.toNat)
    refine g_callV (pc := 60) (As := [gI t, gI y7]) hK ws_Things_56 md_X10_asVase ⟨Nat.zero_le _, Nat.zero_le _⟩ ⟨by decide, by decide⟩ (kdm kd_6) rfl rfl dd_X10_trueWorth_60 rfl rfl (Nat.le_of_ble_eq_true rfl) (c_asVase t y7 (show 0 ≤ t by omega) (show t < 30 by omega) (show 0 ≤ y7 ∧ y7 ≤ 999 by omega) (g_r1 ?_))
    refine g_topI (fun y8 ey8 => ?_)
    refine g_aloadn (pc := 63) (i := 0) (x := 6) hK dd_X10_trueWorth_63 rfl rfl ?_
    refine g_iloadn (pc := 64) (i := 1) (x := t) hK dd_X10_trueWorth_64 rfl rfl ?_
    refine g_callV (pc := 65) (As := [gI t]) hK ws_Things_60 md_X10_lidWorth ⟨Nat.zero_le _, Nat.zero_le _⟩ ⟨by decide, by decide⟩ (kdm kd_6) rfl rfl dd_X10_trueWorth_65 rfl rfl (Nat.le_of_ble_eq_true rfl) (c_lidWorth t (show 0 ≤ t by omega) (show t < 30 by omega) (g_r1 ?_))
    refine g_topI (fun y9 ey9 => ?_)
    refine g_iadd (pc := 68) (z := y8 + y9) hK dd_X10_trueWorth_68 rfl ?_
    refine g_iret (pc := 69) hK hr hlocks dd_X10_trueWorth_69 rfl ?_
    exact g_fin hQ (by (first | rw [TW_0 (by omega)] | rw [TW_1 (by omega)] | rw [TW_2 (by omega)] | rw [TW_3 (by omega)] | rw [TW_4 (by omega)]); subst_vars; first | rfl | omega) (by first | rfl | (subst_vars; rfl))
  · refine g_tabIn (pc := 6) (tgt := 70) hK dd_X10_trueWorth_6 rx1 (by omega) (by omega) (by rw [c2]; rfl) (by decide) ?_
    refine g_aloadn (pc := 70) (i := 0) (x := 6) hK dd_X10_trueWorth_70 rfl rfl ?_
    refine g_getv (pc := 71) (f := (1, 2)) (j := 1) (v := gR 8) hK (kdm kd_6) rfl ef_10 (by decide) rfl kk_70 dd_X10_trueWorth_71 rfl ?_
    refine g_iloadn (pc := 74) (i := 1) (x := t) hK dd_X10_trueWorth_74 rfl rfl ?_
    refine g_iald (pc := 75) hK (kdm kd_8) nl_8 (by decide) dd_X10_trueWorth_75 (by omega) (by omega) (fun x10 ex10 rx10 => ?_)
    refine g_sipush (pc := 76) (x := 200) hK dd_X10_trueWorth_76 (by decide) ?_
    refine g_mmin (pc := 79) hK ws_Things_63 rx10 (by decide) ⟨by decide, by decide⟩ ⟨Nat.zero_le _, Nat.zero_le _⟩ (Nat.le_of_ble_eq_true rfl) dd_X10_trueWorth_79 ?_
    refine g_topI (fun y11 ey11 => ?_)
    refine g_iret (pc := 82) hK hr hlocks dd_X10_trueWorth_82 rfl ?_
    exact g_fin hQ (by (first | rw [TW_0 (by omega)] | rw [TW_1 (by omega)] | rw [TW_2 (by omega)] | rw [TW_3 (by omega)] | rw [TW_4 (by omega)]); subst_vars; first | rfl | omega) (by first | rfl | (subst_vars; rfl))
