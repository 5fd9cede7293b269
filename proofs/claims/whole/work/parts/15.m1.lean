set_option maxHeartbeats 4000000 in
set_option maxRecDepth 100000 in
theorem d_no_2 {l : Launch} {M : Mem} {Pq : Option gV → Mem → Prop} (hrg : rgOK M) (hQ : Pq (some (gI (-2))) (rg M 2)) : gCtr l my_X12_no mb_X12_no 2 ((some .int)) 1 [gR 200, gI (-2)] M Pq := by
  refine g_intro (by decide) (Nat.le_of_ble_eq_true rfl) ?_
  intro p e s m args below meth c D cy q A hK hr hlocks hw
  refine g_sub (L' := [(0, gR 200), (1, gI (-2))]) [0, 1] rfl ?_
  have hr2 := hrg 2 (by decide)
  refine g_aloadn (pc := 0) (i := 0) (x := 200) hK dd_X12_no_0 rfl rfl ?_
  refine g_getv (pc := 1) (f := (1, 37)) (j := 36) (v := gR 237) hK (kdm kd_200) rfl ef_12 (by decide) rfl kk_1137 dd_X12_no_1 rfl ?_
  refine g_iloadn (pc := 4) (i := 1) (x := (-2)) hK dd_X12_no_4 rfl rfl ?_
  refine g_ineg (pc := 5) (z := 2) hK dd_X12_no_5 rfl ?_
  refine g_dup2 (pc := 6) hK dd_X12_no_6 rfl rfl ?_
  refine g_iald (pc := 7) hK (kdm kd_237) nl_237 (by decide) dd_X12_no_7 (by omega) (by omega) (fun x1 ex1 rx1 => ?_)
  replace ex1 : x1 = M 237 2 := ex1
  refine g_iconst (pc := 8) (x := 1) hK dd_X12_no_8 (by decide) ?_
  refine g_iadd (pc := 9) (z := x1 + 1) hK dd_X12_no_9 rfl ?_
  refine g_iast (pc := 10) hK (kdm kd_237) nl_237 (by decide) (by decide) dd_X12_no_10 (by omega) (by omega) ⟨by omega, by omega⟩ ?_
  refine g_iloadn (pc := 11) (i := 1) (x := (-2)) hK dd_X12_no_11 rfl rfl ?_
  refine g_iret (pc := 12) hK hr hlocks dd_X12_no_12 rfl ?_
  exact g_fin hQ (by first | rfl | omega | (subst_vars; first | rfl | omega)) (by first | rfl | (subst_vars; rfl))
set_option maxHeartbeats 4000000 in
set_option maxRecDepth 100000 in
theorem d_no_3 {l : Launch} {M : Mem} {Pq : Option gV → Mem → Prop} (hrg : rgOK M) (hQ : Pq (some (gI (-3))) (rg M 3)) : gCtr l my_X12_no mb_X12_no 2 ((some .int)) 1 [gR 200, gI (-3)] M Pq := by
  refine g_intro (by decide) (Nat.le_of_ble_eq_true rfl) ?_
  intro p e s m args below meth c D cy q A hK hr hlocks hw
  refine g_sub (L' := [(0, gR 200), (1, gI (-3))]) [0, 1] rfl ?_
  have hr3 := hrg 3 (by decide)
  refine g_aloadn (pc := 0) (i := 0) (x := 200) hK dd_X12_no_0 rfl rfl ?_
  refine g_getv (pc := 1) (f := (1, 37)) (j := 36) (v := gR 237) hK (kdm kd_200) rfl ef_12 (by decide) rfl kk_1137 dd_X12_no_1 rfl ?_
  refine g_iloadn (pc := 4) (i := 1) (x := (-3)) hK dd_X12_no_4 rfl rfl ?_
  refine g_ineg (pc := 5) (z := 3) hK dd_X12_no_5 rfl ?_
  refine g_dup2 (pc := 6) hK dd_X12_no_6 rfl rfl ?_
  refine g_iald (pc := 7) hK (kdm kd_237) nl_237 (by decide) dd_X12_no_7 (by omega) (by omega) (fun x1 ex1 rx1 => ?_)
  replace ex1 : x1 = M 237 3 := ex1
  refine g_iconst (pc := 8) (x := 1) hK dd_X12_no_8 (by decide) ?_
  refine g_iadd (pc := 9) (z := x1 + 1) hK dd_X12_no_9 rfl ?_
  refine g_iast (pc := 10) hK (kdm kd_237) nl_237 (by decide) (by decide) dd_X12_no_10 (by omega) (by omega) ⟨by omega, by omega⟩ ?_
  refine g_iloadn (pc := 11) (i := 1) (x := (-3)) hK dd_X12_no_11 rfl rfl ?_
  refine g_iret (pc := 12) hK hr hlocks dd_X12_no_12 rfl ?_
  exact g_fin hQ (by first | rfl | omega | (subst_vars; first | rfl | omega)) (by first | rfl | (subst_vars; rfl))
set_option maxHeartbeats 4000000 in
set_option maxRecDepth 100000 in
theorem d_no_4 {l : Launch} {M : Mem} {Pq : Option gV → Mem → Prop} (hrg : rgOK M) (hQ : Pq (some (gI (-4))) (rg M 4)) : gCtr l my_X12_no mb_X12_no 2 ((some .int)) 1 [gR 200, gI (-4)] M Pq := by
  refine g_intro (by decide) (Nat.le_of_ble_eq_true rfl) ?_
  intro p e s m args below meth c D cy q A hK hr hlocks hw
  refine g_sub (L' := [(0, gR 200), (1, gI (-4))]) [0, 1] rfl ?_
  have hr4 := hrg 4 (by decide)
  refine g_aloadn (pc := 0) (i := 0) (x := 200) hK dd_X12_no_0 rfl rfl ?_
  refine g_getv (pc := 1) (f := (1, 37)) (j := 36) (v := gR 237) hK (kdm kd_200) rfl ef_12 (by decide) rfl kk_1137 dd_X12_no_1 rfl ?_
  refine g_iloadn (pc := 4) (i := 1) (x := (-4)) hK dd_X12_no_4 rfl rfl ?_
  refine g_ineg (pc := 5) (z := 4) hK dd_X12_no_5 rfl ?_
  refine g_dup2 (pc := 6) hK dd_X12_no_6 rfl rfl ?_
  refine g_iald (pc := 7) hK (kdm kd_237) nl_237 (by decide) dd_X12_no_7 (by omega) (by omega) (fun x1 ex1 rx1 => ?_)
  replace ex1 : x1 = M 237 4 := ex1
  refine g_iconst (pc := 8) (x := 1) hK dd_X12_no_8 (by decide) ?_
  refine g_iadd (pc := 9) (z := x1 + 1) hK dd_X12_no_9 rfl ?_
  refine g_iast (pc := 10) hK (kdm kd_237) nl_237 (by decide) (by decide) dd_X12_no_10 (by omega) (by omega) ⟨by omega, by omega⟩ ?_
  refine g_iloadn (pc := 11) (i := 1) (x := (-4)) hK dd_X12_no_11 rfl rfl ?_
  refine g_iret (pc := 12) hK hr hlocks dd_X12_no_12 rfl ?_
  exact g_fin hQ (by first | rfl | omega | (subst_vars; first | rfl | omega)) (by first | rfl | (subst_vars; rfl))
set_option maxHeartbeats 4000000 in
set_option maxRecDepth 100000 in
theorem d_no_5 {l : Launch} {M : Mem} {Pq : Option gV → Mem → Prop} (hrg : rgOK M) (hQ : Pq (some (gI (-5))) (rg M 5)) : gCtr l my_X12_no mb_X12_no 2 ((some .int)) 1 [gR 200, gI (-5)] M Pq := by
  refine g_intro (by decide) (Nat.le_of_ble_eq_true rfl) ?_
  intro p e s m args below meth c D cy q A hK hr hlocks hw
  refine g_sub (L' := [(0, gR 200), (1, gI (-5))]) [0, 1] rfl ?_
  have hr5 := hrg 5 (by decide)
  refine g_aloadn (pc := 0) (i := 0) (x := 200) hK dd_X12_no_0 rfl rfl ?_
  refine g_getv (pc := 1) (f := (1, 37)) (j := 36) (v := gR 237) hK (kdm kd_200) rfl ef_12 (by decide) rfl kk_1137 dd_X12_no_1 rfl ?_
  refine g_iloadn (pc := 4) (i := 1) (x := (-5)) hK dd_X12_no_4 rfl rfl ?_
  refine g_ineg (pc := 5) (z := 5) hK dd_X12_no_5 rfl ?_
  refine g_dup2 (pc := 6) hK dd_X12_no_6 rfl rfl ?_
  refine g_iald (pc := 7) hK (kdm kd_237) nl_237 (by decide) dd_X12_no_7 (by omega) (by omega) (fun x1 ex1 rx1 => ?_)
  replace ex1 : x1 = M 237 5 := ex1
  refine g_iconst (pc := 8) (x := 1) hK dd_X12_no_8 (by decide) ?_
  refine g_iadd (pc := 9) (z := x1 + 1) hK dd_X12_no_9 rfl ?_
  refine g_iast (pc := 10) hK (kdm kd_237) nl_237 (by decide) (by decide) dd_X12_no_10 (by omega) (by omega) ⟨by omega, by omega⟩ ?_
  refine g_iloadn (pc := 11) (i := 1) (x := (-5)) hK dd_X12_no_11 rfl rfl ?_
  refine g_iret (pc := 12) hK hr hlocks dd_X12_no_12 rfl ?_
  exact g_fin hQ (by first | rfl | omega | (subst_vars; first | rfl | omega)) (by first | rfl | (subst_vars; rfl))
set_option maxHeartbeats 4000000 in
set_option maxRecDepth 100000 in
theorem d_no_6 {l : Launch} {M : Mem} {Pq : Option gV → Mem → Prop} (hrg : rgOK M) (hQ : Pq (some (gI (-6))) (rg M 6)) : gCtr l my_X12_no mb_X12_no 2 ((some .int)) 1 [gR 200, gI (-6)] M Pq := by
  refine g_intro (by decide) (Nat.le_of_ble_eq_true rfl) ?_
  intro p e s m args below meth c D cy q A hK hr hlocks hw
  refine g_sub (L' := [(0, gR 200), (1, gI (-6))]) [0, 1] rfl ?_
  have hr6 := hrg 6 (by decide)
  refine g_aloadn (pc := 0) (i := 0) (x := 200) hK dd_X12_no_0 rfl rfl ?_
  refine g_getv (pc := 1) (f := (1, 37)) (j := 36) (v := gR 237) hK (kdm kd_200) rfl ef_12 (by decide) rfl kk_1137 dd_X12_no_1 rfl ?_
  refine g_iloadn (pc := 4) (i := 1) (x := (-6)) hK dd_X12_no_4 rfl rfl ?_
  refine g_ineg (pc := 5) (z := 6) hK dd_X12_no_5 rfl ?_
  refine g_dup2 (pc := 6) hK dd_X12_no_6 rfl rfl ?_
  refine g_iald (pc := 7) hK (kdm kd_237) nl_237 (by decide) dd_X12_no_7 (by omega) (by omega) (fun x1 ex1 rx1 => ?_)
  replace ex1 : x1 = M 237 6 := ex1
  refine g_iconst (pc := 8) (x := 1) hK dd_X12_no_8 (by decide) ?_
  refine g_iadd (pc := 9) (z := x1 + 1) hK dd_X12_no_9 rfl ?_
  refine g_iast (pc := 10) hK (kdm kd_237) nl_237 (by decide) (by decide) dd_X12_no_10 (by omega) (by omega) ⟨by omega, by omega⟩ ?_
  refine g_iloadn (pc := 11) (i := 1) (x := (-6)) hK dd_X12_no_11 rfl rfl ?_
  refine g_iret (pc := 12) hK hr hlocks dd_X12_no_12 rfl ?_
  exact g_fin hQ (by first | rfl | omega | (subst_vars; first | rfl | omega)) (by first | rfl | (subst_vars; rfl))
set_option maxHeartbeats 4000000 in
set_option maxRecDepth 100000 in
theorem d_isShelf {l : Launch} {M : Mem} {Pq : Option gV → Mem → Prop} (x : Int) (h1 : inI x) (hT : (0 ≤ x ∧ x < 8) → Pq (some (gI 1)) M) (hF : ¬ (0 ≤ x ∧ x < 8) → Pq (some (gI 0)) M) : gCtr l my_X12_isShelf mb_X12_isShelf 2 ((some .boolean)) 1 [gR 200, gI x] M Pq := by
  refine g_intro (by decide) (Nat.le_of_ble_eq_true rfl) ?_
  intro p e s m args below meth c D cy q A hK hr hlocks hw
  refine g_sub (L' := [(0, gR 200), (1, gI x)]) [0, 1] rfl ?_
  refine g_iloadn (pc := 0) (i := 1) (x := x) hK dd_X12_isShelf_0 rfl rfl ?_
  refine g_if_lt (pc := 1) (tgt := 14) hK dd_X12_isShelf_1 (by decide) h1 (fun c1 => ?_) (fun c1 => ?_)
  · refine g_iconst (pc := 14) (x := 0) hK dd_X12_isShelf_14 (by decide) ?_
    refine g_iret (pc := 15) hK hr hlocks dd_X12_isShelf_15 rfl ?_
    exact g_finM (hF (by subst_vars; first | assumption | omega | simp_all)) (by first | rfl | (subst_vars; rfl))
  · refine g_iloadn (pc := 4) (i := 1) (x := x) hK dd_X12_isShelf_4 rfl rfl ?_
    refine g_bipush (pc := 5) (x := 8) hK dd_X12_isShelf_5 (by decide) ?_
    refine g_icmp_ge (pc := 7) (tgt := 14) hK dd_X12_isShelf_7 (by decide) h1 (by decide) (fun c2 => ?_) (fun c2 => ?_)
    · refine g_iconst (pc := 14) (x := 0) hK dd_X12_isShelf_14 (by decide) ?_
      refine g_iret (pc := 15) hK hr hlocks dd_X12_isShelf_15 rfl ?_
      exact g_finM (hF (by subst_vars; first | assumption | omega | simp_all)) (by first | rfl | (subst_vars; rfl))
    · refine g_iconst (pc := 10) (x := 1) hK dd_X12_isShelf_10 (by decide) ?_
      refine g_goto (pc := 11) (tgt := 15) hK dd_X12_isShelf_11 (by decide) ?_
      refine g_iret (pc := 15) hK hr hlocks dd_X12_isShelf_15 rfl ?_
      exact g_finM (hT (by subst_vars; first | assumption | omega | simp_all)) (by first | rfl | (subst_vars; rfl))
set_option maxHeartbeats 4000000 in
set_option maxRecDepth 100000 in
theorem d_isHour {l : Launch} {M : Mem} {Pq : Option gV → Mem → Prop} (x : Int) (h1 : inI x) (hT : (0 ≤ x ∧ x < 12) → Pq (some (gI 1)) M) (hF : ¬ (0 ≤ x ∧ x < 12) → Pq (some (gI 0)) M) : gCtr l my_X12_isHour mb_X12_isHour 2 ((some .boolean)) 1 [gR 200, gI x] M Pq := by
  refine g_intro (by decide) (Nat.le_of_ble_eq_true rfl) ?_
  intro p e s m args below meth c D cy q A hK hr hlocks hw
  refine g_sub (L' := [(0, gR 200), (1, gI x)]) [0, 1] rfl ?_
  refine g_iloadn (pc := 0) (i := 1) (x := x) hK dd_X12_isHour_0 rfl rfl ?_
  refine g_if_lt (pc := 1) (tgt := 14) hK dd_X12_isHour_1 (by decide) h1 (fun c1 => ?_) (fun c1 => ?_)
  · refine g_iconst (pc := 14) (x := 0) hK dd_X12_isHour_14 (by decide) ?_
    refine g_iret (pc := 15) hK hr hlocks dd_X12_isHour_15 rfl ?_
    exact g_finM (hF (by subst_vars; first | assumption | omega | simp_all)) (by first | rfl | (subst_vars; rfl))
  · refine g_iloadn (pc := 4) (i := 1) (x := x) hK dd_X12_isHour_4 rfl rfl ?_
    refine g_bipush (pc := 5) (x := 12) hK dd_X12_isHour_5 (by decide) ?_
    refine g_icmp_ge (pc := 7) (tgt := 14) hK dd_X12_isHour_7 (by decide) h1 (by decide) (fun c2 => ?_) (fun c2 => ?_)
    · refine g_iconst (pc := 14) (x := 0) hK dd_X12_isHour_14 (by decide) ?_
      refine g_iret (pc := 15) hK hr hlocks dd_X12_isHour_15 rfl ?_
      exact g_finM (hF (by subst_vars; first | assumption | omega | simp_all)) (by first | rfl | (subst_vars; rfl))
    · refine g_iconst (pc := 10) (x := 1) hK dd_X12_isHour_10 (by decide) ?_
      refine g_goto (pc := 11) (tgt := 15) hK dd_X12_isHour_11 (by decide) ?_
      refine g_iret (pc := 15) hK hr hlocks dd_X12_isHour_15 rfl ?_
      exact g_finM (hT (by subst_vars; first | assumption | omega | simp_all)) (by first | rfl | (subst_vars; rfl))
set_option maxHeartbeats 4000000 in
set_option maxRecDepth 100000 in
theorem d_isKind {l : Launch} {M : Mem} {Pq : Option gV → Mem → Prop} (x : Int) (h1 : inI x) (hT : (0 ≤ x ∧ x < 6) → Pq (some (gI 1)) M) (hF : ¬ (0 ≤ x ∧ x < 6) → Pq (some (gI 0)) M) : gCtr l my_X12_isKind mb_X12_isKind 2 ((some .boolean)) 1 [gR 200, gI x] M Pq := by
  refine g_intro (by decide) (Nat.le_of_ble_eq_true rfl) ?_
  intro p e s m args below meth c D cy q A hK hr hlocks hw
  refine g_sub (L' := [(0, gR 200), (1, gI x)]) [0, 1] rfl ?_
  refine g_iloadn (pc := 0) (i := 1) (x := x) hK dd_X12_isKind_0 rfl rfl ?_
  refine g_if_lt (pc := 1) (tgt := 14) hK dd_X12_isKind_1 (by decide) h1 (fun c1 => ?_) (fun c1 => ?_)
  · refine g_iconst (pc := 14) (x := 0) hK dd_X12_isKind_14 (by decide) ?_
    refine g_iret (pc := 15) hK hr hlocks dd_X12_isKind_15 rfl ?_
    exact g_finM (hF (by subst_vars; first | assumption | omega | simp_all)) (by first | rfl | (subst_vars; rfl))
  · refine g_iloadn (pc := 4) (i := 1) (x := x) hK dd_X12_isKind_4 rfl rfl ?_
    refine g_bipush (pc := 5) (x := 6) hK dd_X12_isKind_5 (by decide) ?_
    refine g_icmp_ge (pc := 7) (tgt := 14) hK dd_X12_isKind_7 (by decide) h1 (by decide) (fun c2 => ?_) (fun c2 => ?_)
    · refine g_iconst (pc := 14) (x := 0) hK dd_X12_isKind_14 (by decide) ?_
      refine g_iret (pc := 15) hK hr hlocks dd_X12_isKind_15 rfl ?_
      exact g_finM (hF (by subst_vars; first | assumption | omega | simp_all)) (by first | rfl | (subst_vars; rfl))
    · refine g_iconst (pc := 10) (x := 1) hK dd_X12_isKind_10 (by decide) ?_
      refine g_goto (pc := 11) (tgt := 15) hK dd_X12_isKind_11 (by decide) ?_
      refine g_iret (pc := 15) hK hr hlocks dd_X12_isKind_15 rfl ?_
      exact g_finM (hT (by subst_vars; first | assumption | omega | simp_all)) (by first | rfl | (subst_vars; rfl))
set_option maxHeartbeats 4000000 in
set_option maxRecDepth 100000 in
theorem d_areKinds {l : Launch} {M : Mem} {Pq : Option gV → Mem → Prop} (x : Int) (h1 : inI x) (hT : (0 ≤ x ∧ x < 64) → Pq (some (gI 1)) M) (hF : ¬ (0 ≤ x ∧ x < 64) → Pq (some (gI 0)) M) : gCtr l my_X12_areKinds mb_X12_areKinds 2 ((some .boolean)) 1 [gR 200, gI x] M Pq := by
  refine g_intro (by decide) (Nat.le_of_ble_eq_true rfl) ?_
  intro p e s m args below meth c D cy q A hK hr hlocks hw
  refine g_sub (L' := [(0, gR 200), (1, gI x)]) [0, 1] rfl ?_
  refine g_iloadn (pc := 0) (i := 1) (x := x) hK dd_X12_areKinds_0 rfl rfl ?_
  refine g_if_lt (pc := 1) (tgt := 14) hK dd_X12_areKinds_1 (by decide) h1 (fun c1 => ?_) (fun c1 => ?_)
  · refine g_iconst (pc := 14) (x := 0) hK dd_X12_areKinds_14 (by decide) ?_
    refine g_iret (pc := 15) hK hr hlocks dd_X12_areKinds_15 rfl ?_
    exact g_finM (hF (by subst_vars; first | assumption | omega | simp_all)) (by first | rfl | (subst_vars; rfl))
  · refine g_iloadn (pc := 4) (i := 1) (x := x) hK dd_X12_areKinds_4 rfl rfl ?_
    refine g_bipush (pc := 5) (x := 64) hK dd_X12_areKinds_5 (by decide) ?_
    refine g_icmp_ge (pc := 7) (tgt := 14) hK dd_X12_areKinds_7 (by decide) h1 (by decide) (fun c2 => ?_) (fun c2 => ?_)
    · refine g_iconst (pc := 14) (x := 0) hK dd_X12_areKinds_14 (by decide) ?_
      refine g_iret (pc := 15) hK hr hlocks dd_X12_areKinds_15 rfl ?_
      exact g_finM (hF (by subst_vars; first | assumption | omega | simp_all)) (by first | rfl | (subst_vars; rfl))
    · refine g_iconst (pc := 10) (x := 1) hK dd_X12_areKinds_10 (by decide) ?_
      refine g_goto (pc := 11) (tgt := 15) hK dd_X12_areKinds_11 (by decide) ?_
      refine g_iret (pc := 15) hK hr hlocks dd_X12_areKinds_15 rfl ?_
      exact g_finM (hT (by subst_vars; first | assumption | omega | simp_all)) (by first | rfl | (subst_vars; rfl))
set_option maxHeartbeats 4000000 in
set_option maxRecDepth 100000 in
theorem d_isPerson {l : Launch} {M : Mem} {Pq : Option gV → Mem → Prop} (x : Int) (h1 : inI x) (hT : (0 ≤ x ∧ x < 16) → Pq (some (gI 1)) M) (hF : ¬ (0 ≤ x ∧ x < 16) → Pq (some (gI 0)) M) : gCtr l my_X12_isPerson mb_X12_isPerson 2 ((some .boolean)) 1 [gR 200, gI x] M Pq := by
  refine g_intro (by decide) (Nat.le_of_ble_eq_true rfl) ?_
  intro p e s m args below meth c D cy q A hK hr hlocks hw
  refine g_sub (L' := [(0, gR 200), (1, gI x)]) [0, 1] rfl ?_
  refine g_iloadn (pc := 0) (i := 1) (x := x) hK dd_X12_isPerson_0 rfl rfl ?_
  refine g_if_lt (pc := 1) (tgt := 14) hK dd_X12_isPerson_1 (by decide) h1 (fun c1 => ?_) (fun c1 => ?_)
  · refine g_iconst (pc := 14) (x := 0) hK dd_X12_isPerson_14 (by decide) ?_
    refine g_iret (pc := 15) hK hr hlocks dd_X12_isPerson_15 rfl ?_
    exact g_finM (hF (by subst_vars; first | assumption | omega | simp_all)) (by first | rfl | (subst_vars; rfl))
  · refine g_iloadn (pc := 4) (i := 1) (x := x) hK dd_X12_isPerson_4 rfl rfl ?_
    refine g_bipush (pc := 5) (x := 16) hK dd_X12_isPerson_5 (by decide) ?_
    refine g_icmp_ge (pc := 7) (tgt := 14) hK dd_X12_isPerson_7 (by decide) h1 (by decide) (fun c2 => ?_) (fun c2 => ?_)
    · refine g_iconst (pc := 14) (x := 0) hK dd_X12_isPerson_14 (by decide) ?_
      refine g_iret (pc := 15) hK hr hlocks dd_X12_isPerson_15 rfl ?_
      exact g_finM (hF (by subst_vars; first | assumption | omega | simp_all)) (by first | rfl | (subst_vars; rfl))
    · refine g_iconst (pc := 10) (x := 1) hK dd_X12_isPerson_10 (by decide) ?_
      refine g_goto (pc := 11) (tgt := 15) hK dd_X12_isPerson_11 (by decide) ?_
      refine g_iret (pc := 15) hK hr hlocks dd_X12_isPerson_15 rfl ?_
      exact g_finM (hT (by subst_vars; first | assumption | omega | simp_all)) (by first | rfl | (subst_vars; rfl))
set_option maxHeartbeats 4000000 in
set_option maxRecDepth 100000 in
theorem d_isThing {l : Launch} {M : Mem} {Pq : Option gV → Mem → Prop} (x : Int) (h1 : inI x) (hT : (0 ≤ x ∧ x < M 200 3) → Pq (some (gI 1)) M) (hF : ¬ (0 ≤ x ∧ x < M 200 3) → Pq (some (gI 0)) M) : gCtr l my_X12_isThing mb_X12_isThing 2 ((some .boolean)) 1 [gR 200, gI x] M Pq := by
  refine g_intro (by decide) (Nat.le_of_ble_eq_true rfl) ?_
  intro p e s m args below meth c D cy q A hK hr hlocks hw
  refine g_sub (L' := [(0, gR 200), (1, gI x)]) [0, 1] rfl ?_
  refine g_iloadn (pc := 0) (i := 1) (x := x) hK dd_X12_isThing_0 rfl rfl ?_
  refine g_if_lt (pc := 1) (tgt := 16) hK dd_X12_isThing_1 (by decide) h1 (fun c1 => ?_) (fun c1 => ?_)
  · refine g_iconst (pc := 16) (x := 0) hK dd_X12_isThing_16 (by decide) ?_
    refine g_iret (pc := 17) hK hr hlocks dd_X12_isThing_17 rfl ?_
    exact g_finM (hF (by subst_vars; first | assumption | omega | simp_all)) (by first | rfl | (subst_vars; rfl))
  · refine g_iloadn (pc := 4) (i := 1) (x := x) hK dd_X12_isThing_4 rfl rfl ?_
    refine g_aloadn (pc := 5) (i := 0) (x := 200) hK dd_X12_isThing_5 rfl rfl ?_
    refine g_geti (pc := 6) (f := (0, 0)) (j := 3) hK (kdm kd_200) rfl ef_12 (by decide) rfl kk_1104 nl_200 dd_X12_isThing_6 rfl (fun x2 ex2 rx2 => ?_)
    refine g_icmp_ge (pc := 9) (tgt := 16) hK dd_X12_isThing_9 (by decide) h1 rx2 (fun c3 => ?_) (fun c3 => ?_)
    · refine g_iconst (pc := 16) (x := 0) hK dd_X12_isThing_16 (by decide) ?_
      refine g_iret (pc := 17) hK hr hlocks dd_X12_isThing_17 rfl ?_
      exact g_finM (hF (by subst_vars; first | assumption | omega | simp_all)) (by first | rfl | (subst_vars; rfl))
    · refine g_iconst (pc := 12) (x := 1) hK dd_X12_isThing_12 (by decide) ?_
      refine g_goto (pc := 13) (tgt := 17) hK dd_X12_isThing_13 (by decide) ?_
      refine g_iret (pc := 17) hK hr hlocks dd_X12_isThing_17 rfl ?_
      exact g_finM (hT (by subst_vars; first | assumption | omega | simp_all)) (by first | rfl | (subst_vars; rfl))
set_option maxHeartbeats 4000000 in
set_option maxRecDepth 100000 in
theorem d_isLady {l : Launch} {M : Mem} {Pq : Option gV → Mem → Prop} (x : Int) (h1 : inI x) (hT : (0 ≤ x ∧ x < M 200 10) → Pq (some (gI 1)) M) (hF : ¬ (0 ≤ x ∧ x < M 200 10) → Pq (some (gI 0)) M) : gCtr l my_X12_isLady mb_X12_isLady 2 ((some .boolean)) 1 [gR 200, gI x] M Pq := by
  refine g_intro (by decide) (Nat.le_of_ble_eq_true rfl) ?_
  intro p e s m args below meth c D cy q A hK hr hlocks hw
  refine g_sub (L' := [(0, gR 200), (1, gI x)]) [0, 1] rfl ?_
  refine g_iloadn (pc := 0) (i := 1) (x := x) hK dd_X12_isLady_0 rfl rfl ?_
  refine g_if_lt (pc := 1) (tgt := 16) hK dd_X12_isLady_1 (by decide) h1 (fun c1 => ?_) (fun c1 => ?_)
  · refine g_iconst (pc := 16) (x := 0) hK dd_X12_isLady_16 (by decide) ?_
    refine g_iret (pc := 17) hK hr hlocks dd_X12_isLady_17 rfl ?_
    exact g_finM (hF (by subst_vars; first | assumption | omega | simp_all)) (by first | rfl | (subst_vars; rfl))
  · refine g_iloadn (pc := 4) (i := 1) (x := x) hK dd_X12_isLady_4 rfl rfl ?_
    refine g_aloadn (pc := 5) (i := 0) (x := 200) hK dd_X12_isLady_5 rfl rfl ?_
    refine g_geti (pc := 6) (f := (0, 0)) (j := 10) hK (kdm kd_200) rfl ef_12 (by decide) rfl kk_1111 nl_200 dd_X12_isLady_6 rfl (fun x2 ex2 rx2 => ?_)
    refine g_icmp_ge (pc := 9) (tgt := 16) hK dd_X12_isLady_9 (by decide) h1 rx2 (fun c3 => ?_) (fun c3 => ?_)
    · refine g_iconst (pc := 16) (x := 0) hK dd_X12_isLady_16 (by decide) ?_
      refine g_iret (pc := 17) hK hr hlocks dd_X12_isLady_17 rfl ?_
      exact g_finM (hF (by subst_vars; first | assumption | omega | simp_all)) (by first | rfl | (subst_vars; rfl))
    · refine g_iconst (pc := 12) (x := 1) hK dd_X12_isLady_12 (by decide) ?_
      refine g_goto (pc := 13) (tgt := 17) hK dd_X12_isLady_13 (by decide) ?_
      refine g_iret (pc := 17) hK hr hlocks dd_X12_isLady_17 rfl ?_
      exact g_finM (hT (by subst_vars; first | assumption | omega | simp_all)) (by first | rfl | (subst_vars; rfl))
set_option maxHeartbeats 4000000 in
set_option maxRecDepth 100000 in
theorem d_isLaw {l : Launch} {M : Mem} {Pq : Option gV → Mem → Prop} (x : Int) (h1 : inI x) (hT : (0 ≤ x ∧ x < M 200 14) → Pq (some (gI 1)) M) (hF : ¬ (0 ≤ x ∧ x < M 200 14) → Pq (some (gI 0)) M) : gCtr l my_X12_isLaw mb_X12_isLaw 2 ((some .boolean)) 1 [gR 200, gI x] M Pq := by
  refine g_intro (by decide) (Nat.le_of_ble_eq_true rfl) ?_
  intro p e s m args below meth c D cy q A hK hr hlocks hw
  refine g_sub (L' := [(0, gR 200), (1, gI x)]) [0, 1] rfl ?_
  refine g_iloadn (pc := 0) (i := 1) (x := x) hK dd_X12_isLaw_0 rfl rfl ?_
  refine g_if_lt (pc := 1) (tgt := 16) hK dd_X12_isLaw_1 (by decide) h1 (fun c1 => ?_) (fun c1 => ?_)
  · refine g_iconst (pc := 16) (x := 0) hK dd_X12_isLaw_16 (by decide) ?_
    refine g_iret (pc := 17) hK hr hlocks dd_X12_isLaw_17 rfl ?_
    exact g_finM (hF (by subst_vars; first | assumption | omega | simp_all)) (by first | rfl | (subst_vars; rfl))
  · refine g_iloadn (pc := 4) (i := 1) (x := x) hK dd_X12_isLaw_4 rfl rfl ?_
    refine g_aloadn (pc := 5) (i := 0) (x := 200) hK dd_X12_isLaw_5 rfl rfl ?_
    refine g_geti (pc := 6) (f := (0, 0)) (j := 14) hK (kdm kd_200) rfl ef_12 (by decide) rfl kk_1115 nl_200 dd_X12_isLaw_6 rfl (fun x2 ex2 rx2 => ?_)
    refine g_icmp_ge (pc := 9) (tgt := 16) hK dd_X12_isLaw_9 (by decide) h1 rx2 (fun c3 => ?_) (fun c3 => ?_)
    · refine g_iconst (pc := 16) (x := 0) hK dd_X12_isLaw_16 (by decide) ?_
      refine g_iret (pc := 17) hK hr hlocks dd_X12_isLaw_17 rfl ?_
      exact g_finM (hF (by subst_vars; first | assumption | omega | simp_all)) (by first | rfl | (subst_vars; rfl))
    · refine g_iconst (pc := 12) (x := 1) hK dd_X12_isLaw_12 (by decide) ?_
      refine g_goto (pc := 13) (tgt := 17) hK dd_X12_isLaw_13 (by decide) ?_
      refine g_iret (pc := 17) hK hr hlocks dd_X12_isLaw_17 rfl ?_
      exact g_finM (hT (by subst_vars; first | assumption | omega | simp_all)) (by first | rfl | (subst_vars; rfl))
set_option maxHeartbeats 4000000 in
set_option maxRecDepth 100000 in
theorem d_isBuyer {l : Launch} {M : Mem} {Pq : Option gV → Mem → Prop} (x : Int) (h1 : inI x) (hT : (0 ≤ x ∧ x < M 200 18) → Pq (some (gI 1)) M) (hF : ¬ (0 ≤ x ∧ x < M 200 18) → Pq (some (gI 0)) M) : gCtr l my_X12_isBuyer mb_X12_isBuyer 2 ((some .boolean)) 1 [gR 200, gI x] M Pq := by
  refine g_intro (by decide) (Nat.le_of_ble_eq_true rfl) ?_
  intro p e s m args below meth c D cy q A hK hr hlocks hw
  refine g_sub (L' := [(0, gR 200), (1, gI x)]) [0, 1] rfl ?_
  refine g_iloadn (pc := 0) (i := 1) (x := x) hK dd_X12_isBuyer_0 rfl rfl ?_
  refine g_if_lt (pc := 1) (tgt := 16) hK dd_X12_isBuyer_1 (by decide) h1 (fun c1 => ?_) (fun c1 => ?_)
  · refine g_iconst (pc := 16) (x := 0) hK dd_X12_isBuyer_16 (by decide) ?_
    refine g_iret (pc := 17) hK hr hlocks dd_X12_isBuyer_17 rfl ?_
    exact g_finM (hF (by subst_vars; first | assumption | omega | simp_all)) (by first | rfl | (subst_vars; rfl))
  · refine g_iloadn (pc := 4) (i := 1) (x := x) hK dd_X12_isBuyer_4 rfl rfl ?_
    refine g_aloadn (pc := 5) (i := 0) (x := 200) hK dd_X12_isBuyer_5 rfl rfl ?_
    refine g_geti (pc := 6) (f := (0, 0)) (j := 18) hK (kdm kd_200) rfl ef_12 (by decide) rfl kk_1119 nl_200 dd_X12_isBuyer_6 rfl (fun x2 ex2 rx2 => ?_)
    refine g_icmp_ge (pc := 9) (tgt := 16) hK dd_X12_isBuyer_9 (by decide) h1 rx2 (fun c3 => ?_) (fun c3 => ?_)
    · refine g_iconst (pc := 16) (x := 0) hK dd_X12_isBuyer_16 (by decide) ?_
      refine g_iret (pc := 17) hK hr hlocks dd_X12_isBuyer_17 rfl ?_
      exact g_finM (hF (by subst_vars; first | assumption | omega | simp_all)) (by first | rfl | (subst_vars; rfl))
    · refine g_iconst (pc := 12) (x := 1) hK dd_X12_isBuyer_12 (by decide) ?_
      refine g_goto (pc := 13) (tgt := 17) hK dd_X12_isBuyer_13 (by decide) ?_
      refine g_iret (pc := 17) hK hr hlocks dd_X12_isBuyer_17 rfl ?_
      exact g_finM (hT (by subst_vars; first | assumption | omega | simp_all)) (by first | rfl | (subst_vars; rfl))
set_option maxHeartbeats 4000000 in
set_option maxRecDepth 100000 in
theorem d_isOf {l : Launch} {M : Mem} {Pq : Option gV → Mem → Prop} (x : Int) (b : Int) (hT : (hb x b) → Pq (some (gI 1)) M) (hF : ¬ (hb x b) → Pq (some (gI 0)) M) : gCtr l my_X12_isOf mb_X12_isOf 3 ((some .boolean)) 1 [gR 200, gI x, gI b] M Pq := by
  refine g_intro (by decide) (Nat.le_of_ble_eq_true rfl) ?_
  intro p e s m args below meth c D cy q A hK hr hlocks hw
  refine g_sub (L' := [(0, gR 200), (1, gI x), (2, gI b)]) [0, 1, 2] rfl ?_
  refine g_iloadn (pc := 0) (i := 1) (x := x) hK dd_X12_isOf_0 rfl rfl ?_
  refine g_iloadn (pc := 1) (i := 2) (x := b) hK dd_X12_isOf_1 rfl rfl ?_
  refine g_ishr (pc := 2) (z := jshr x b) hK dd_X12_isOf_2 rfl ?_
  refine g_iconst (pc := 3) (x := 1) hK dd_X12_isOf_3 (by decide) ?_
  refine g_iand (pc := 4) (z := jand (jshr x b) 1) hK dd_X12_isOf_4 rfl ?_
  refine g_iconst (pc := 5) (x := 1) hK dd_X12_isOf_5 (by decide) ?_
  refine g_icmp_ne (pc := 6) (tgt := 13) hK dd_X12_isOf_6 (by decide) (jand_in _ _) (by decide) (fun c1 => ?_) (fun c1 => ?_)
  · refine g_iconst (pc := 13) (x := 0) hK dd_X12_isOf_13 (by decide) ?_
    refine g_iret (pc := 14) hK hr hlocks dd_X12_isOf_14 rfl ?_
    exact g_finM (hF (by have hj := jand1 (jshr x b); omega)) (by first | rfl | (subst_vars; rfl))
  · refine g_iconst (pc := 9) (x := 1) hK dd_X12_isOf_9 (by decide) ?_
    refine g_goto (pc := 10) (tgt := 14) hK dd_X12_isOf_10 (by decide) ?_
    refine g_iret (pc := 14) hK hr hlocks dd_X12_isOf_14 rfl ?_
    exact g_finM (hT (by have hj := jand1 (jshr x b); omega)) (by first | rfl | (subst_vars; rfl))
set_option maxHeartbeats 4000000 in
set_option maxRecDepth 100000 in
theorem d_isRow {l : Launch} {M : Mem} {Pq : Option gV → Mem → Prop} (sf : Int) (h1 : 0 ≤ sf) (h2 : sf < 8) (hT : (100 ≤ M 201 sf.toNat) → Pq (some (gI 1)) M) (hF : ¬ (100 ≤ M 201 sf.toNat) → Pq (some (gI 0)) M) : gCtr l my_X12_isRow mb_X12_isRow 2 ((some .boolean)) 1 [gR 200, gI sf] M Pq := by
  refine g_intro (by decide) (Nat.le_of_ble_eq_true rfl) ?_
  intro p e s m args below meth c D cy q A hK hr hlocks hw
  refine g_sub (L' := [(0, gR 200), (1, gI sf)]) [0, 1] rfl ?_
  refine g_aloadn (pc := 0) (i := 0) (x := 200) hK dd_X12_isRow_0 rfl rfl ?_
  refine g_getv (pc := 1) (f := (1, 1)) (j := 0) (v := gR 201) hK (kdm kd_200) rfl ef_12 (by decide) rfl kk_1101 dd_X12_isRow_1 rfl ?_
  refine g_iloadn (pc := 4) (i := 1) (x := sf) hK dd_X12_isRow_4 rfl rfl ?_
  refine g_iald (pc := 5) hK (kdm kd_201) nl_201 (by decide) dd_X12_isRow_5 (by omega) (by omega) (fun x1 ex1 rx1 => ?_)
  refine g_bipush (pc := 6) (x := 100) hK dd_X12_isRow_6 (by decide) ?_
  refine g_icmp_lt (pc := 8) (tgt := 15) hK dd_X12_isRow_8 (by decide) rx1 (by decide) (fun c2 => ?_) (fun c2 => ?_)
  · refine g_iconst (pc := 15) (x := 0) hK dd_X12_isRow_15 (by decide) ?_
    refine g_iret (pc := 16) hK hr hlocks dd_X12_isRow_16 rfl ?_
    exact g_finM (hF (by subst_vars; first | assumption | omega | simp_all)) (by first | rfl | (subst_vars; rfl))
  · refine g_iconst (pc := 11) (x := 1) hK dd_X12_isRow_11 (by decide) ?_
    refine g_goto (pc := 12) (tgt := 16) hK dd_X12_isRow_12 (by decide) ?_
    refine g_iret (pc := 16) hK hr hlocks dd_X12_isRow_16 rfl ?_
    exact g_finM (hT (by subst_vars; first | assumption | omega | simp_all)) (by first | rfl | (subst_vars; rfl))
set_option maxHeartbeats 4000000 in
set_option maxRecDepth 100000 in
theorem d_holdsThing {l : Launch} {M : Mem} {Pq : Option gV → Mem → Prop} (sf : Int) (h1 : 0 ≤ sf) (h2 : sf < 8) (hT : (0 ≤ M 201 sf.toNat ∧ M 201 sf.toNat < 100) → Pq (some (gI 1)) M) (hF : ¬ (0 ≤ M 201 sf.toNat ∧ M 201 sf.toNat < 100) → Pq (some (gI 0)) M) : gCtr l my_X12_holdsThing mb_X12_holdsThing 2 ((some .boolean)) 1 [gR 200, gI sf] M Pq := by
  refine g_intro (by decide) (Nat.le_of_ble_eq_true rfl) ?_
  intro p e s m args below meth c D cy q A hK hr hlocks hw
  refine g_sub (L' := [(0, gR 200), (1, gI sf)]) [0, 1] rfl ?_
  refine g_aloadn (pc := 0) (i := 0) (x := 200) hK dd_X12_holdsThing_0 rfl rfl ?_
  refine g_getv (pc := 1) (f := (1, 1)) (j := 0) (v := gR 201) hK (kdm kd_200) rfl ef_12 (by decide) rfl kk_1101 dd_X12_holdsThing_1 rfl ?_
  refine g_iloadn (pc := 4) (i := 1) (x := sf) hK dd_X12_holdsThing_4 rfl rfl ?_
  refine g_iald (pc := 5) hK (kdm kd_201) nl_201 (by decide) dd_X12_holdsThing_5 (by omega) (by omega) (fun x1 ex1 rx1 => ?_)
  refine g_if_lt (pc := 6) (tgt := 24) hK dd_X12_holdsThing_6 (by decide) rx1 (fun c2 => ?_) (fun c2 => ?_)
  · refine g_iconst (pc := 24) (x := 0) hK dd_X12_holdsThing_24 (by decide) ?_
    refine g_iret (pc := 25) hK hr hlocks dd_X12_holdsThing_25 rfl ?_
    exact g_finM (hF (by subst_vars; first | assumption | omega | simp_all)) (by first | rfl | (subst_vars; rfl))
  · refine g_aloadn (pc := 9) (i := 0) (x := 200) hK dd_X12_holdsThing_9 rfl rfl ?_
    refine g_getv (pc := 10) (f := (1, 1)) (j := 0) (v := gR 201) hK (kdm kd_200) rfl ef_12 (by decide) rfl kk_1101 dd_X12_holdsThing_10 rfl ?_
    refine g_iloadn (pc := 13) (i := 1) (x := sf) hK dd_X12_holdsThing_13 rfl rfl ?_
    refine g_iald (pc := 14) hK (kdm kd_201) nl_201 (by decide) dd_X12_holdsThing_14 (by omega) (by omega) (fun x3 ex3 rx3 => ?_)
    refine g_bipush (pc := 15) (x := 100) hK dd_X12_holdsThing_15 (by decide) ?_
    refine g_icmp_ge (pc := 17) (tgt := 24) hK dd_X12_holdsThing_17 (by decide) rx3 (by decide) (fun c4 => ?_) (fun c4 => ?_)
    · refine g_iconst (pc := 24) (x := 0) hK dd_X12_holdsThing_24 (by decide) ?_
      refine g_iret (pc := 25) hK hr hlocks dd_X12_holdsThing_25 rfl ?_
      exact g_finM (hF (by subst_vars; first | assumption | omega | simp_all)) (by first | rfl | (subst_vars; rfl))
    · refine g_iconst (pc := 20) (x := 1) hK dd_X12_holdsThing_20 (by decide) ?_
      refine g_goto (pc := 21) (tgt := 25) hK dd_X12_holdsThing_21 (by decide) ?_
      refine g_iret (pc := 25) hK hr hlocks dd_X12_holdsThing_25 rfl ?_
      exact g_finM (hT (by subst_vars; first | assumption | omega | simp_all)) (by first | rfl | (subst_vars; rfl))
set_option maxHeartbeats 4000000 in
set_option maxRecDepth 100000 in
theorem d_noRow {l : Launch} {M : Mem} {Pq : Option gV → Mem → Prop} (sf : Int) (hs : inI sf) (hB : (¬ (0 ≤ sf ∧ sf < 8)) → Pq (some (gI (-2))) M) (hO : ((0 ≤ sf ∧ sf < 8) ∧ 0 ≤ M 201 sf.toNat ∧ M 201 sf.toNat < 100) → Pq (some (gI (-3))) M) (hN : ((0 ≤ sf ∧ sf < 8) ∧ M 201 sf.toNat < 0) → Pq (some (gI (-4))) M) (hF : ((0 ≤ sf ∧ sf < 8) ∧ 100 ≤ M 201 sf.toNat) → Pq (some (gI 0)) M) : gCtr l my_X12_noRow mb_X12_noRow 2 ((some .int)) 2 [gR 200, gI sf] M Pq := by
  refine g_intro (by decide) (Nat.le_of_ble_eq_true rfl) ?_
  intro p e s m args below meth c D cy q A hK hr hlocks hw
  refine g_sub (L' := [(0, gR 200), (1, gI sf)]) [0, 1] rfl ?_
  refine g_aloadn (pc := 0) (i := 0) (x := 200) hK dd_X12_noRow_0 rfl rfl ?_
  refine g_iloadn (pc := 1) (i := 1) (x := sf) hK dd_X12_noRow_1 rfl rfl ?_
  refine g_callV (pc := 2) (As := [gI sf]) hK ws_M_148 md_X12_isShelf ⟨Nat.zero_le _, Nat.zero_le _⟩ ⟨by decide, by decide⟩ (kdm kd_200) rfl rfl dd_X12_noRow_2 rfl rfl (Nat.le_of_ble_eq_true rfl) (d_isShelf sf hs (fun c1 => g_r1 ?_) (fun c1 => g_r1 ?_))
  · refine g_if_ne (pc := 5) (tgt := 11) hK dd_X12_noRow_5 (by decide) (by decide) (fun _ => ?_) (fun c2 => absurd (by decide) c2)
    refine g_aloadn (pc := 11) (i := 0) (x := 200) hK dd_X12_noRow_11 rfl rfl ?_
    refine g_iloadn (pc := 12) (i := 1) (x := sf) hK dd_X12_noRow_12 rfl rfl ?_
    refine g_callV (pc := 13) (As := [gI sf]) hK ws_M_156 md_X12_holdsThing ⟨Nat.zero_le _, Nat.zero_le _⟩ ⟨by decide, by decide⟩ (kdm kd_200) rfl rfl dd_X12_noRow_13 rfl rfl (Nat.le_of_ble_eq_true rfl) (d_holdsThing sf (by omega) (by omega) (fun c3 => g_r1 ?_) (fun c3 => g_r1 ?_))
    · refine g_if_eq (pc := 16) (tgt := 22) hK dd_X12_noRow_16 (by decide) (by decide) (fun c4 => absurd c4 (by decide)) (fun _ => ?_)
      refine g_bipush (pc := 19) (x := (-3)) hK dd_X12_noRow_19 (by decide) ?_
      refine g_iret (pc := 21) hK hr hlocks dd_X12_noRow_21 rfl ?_
      first | exact g_fin (hO (by first | omega | (subst_vars; omega) | exact ⟨by first | assumption | omega | (subst_vars; first | assumption | omega), by first | assumption | omega | (subst_vars; first | assumption | omega)⟩)) (by first | rfl | omega | (subst_vars; first | rfl | omega)) (by first | rfl | (subst_vars; rfl)) | (exfalso; omega)
    · refine g_if_eq (pc := 16) (tgt := 22) hK dd_X12_noRow_16 (by decide) (by decide) (fun _ => ?_) (fun c5 => absurd (by decide) c5)
      refine g_aloadn (pc := 22) (i := 0) (x := 200) hK dd_X12_noRow_22 rfl rfl ?_
      refine g_getv (pc := 23) (f := (1, 1)) (j := 0) (v := gR 201) hK (kdm kd_200) rfl ef_12 (by decide) rfl kk_1101 dd_X12_noRow_23 rfl ?_
      refine g_iloadn (pc := 26) (i := 1) (x := sf) hK dd_X12_noRow_26 rfl rfl ?_
      refine g_iald (pc := 27) hK (kdm kd_201) nl_201 (by decide) dd_X12_noRow_27 (by omega) (by omega) (fun x6 ex6 rx6 => ?_)
      refine g_if_ge (pc := 28) (tgt := 36) hK dd_X12_noRow_28 (by decide) rx6 (fun c7 => ?_) (fun c7 => ?_)
      · refine g_iconst (pc := 36) (x := 0) hK dd_X12_noRow_36 (by decide) ?_
        refine g_iret (pc := 37) hK hr hlocks dd_X12_noRow_37 rfl ?_
        first | exact g_fin (hF (by first | omega | (subst_vars; omega) | exact ⟨by first | assumption | omega | (subst_vars; first | assumption | omega), by first | assumption | omega | (subst_vars; first | assumption | omega)⟩)) (by first | rfl | omega | (subst_vars; first | rfl | omega)) (by first | rfl | (subst_vars; rfl)) | (exfalso; omega)
      · refine g_bipush (pc := 31) (x := (-4)) hK dd_X12_noRow_31 (by decide) ?_
        refine g_goto (pc := 33) (tgt := 37) hK dd_X12_noRow_33 (by decide) ?_
        refine g_iret (pc := 37) hK hr hlocks dd_X12_noRow_37 rfl ?_
        first | exact g_fin (hN (by first | omega | (subst_vars; omega) | exact ⟨by first | assumption | omega | (subst_vars; first | assumption | omega), by first | assumption | omega | (subst_vars; first | assumption | omega)⟩)) (by first | rfl | omega | (subst_vars; first | rfl | omega)) (by first | rfl | (subst_vars; rfl)) | (exfalso; omega)
  · refine g_if_ne (pc := 5) (tgt := 11) hK dd_X12_noRow_5 (by decide) (by decide) (fun c8 => absurd c8 (by decide)) (fun _ => ?_)
    refine g_bipush (pc := 8) (x := (-2)) hK dd_X12_noRow_8 (by decide) ?_
    refine g_iret (pc := 10) hK hr hlocks dd_X12_noRow_10 rfl ?_
    first | exact g_fin (hB (by first | omega | (subst_vars; omega) | exact ⟨by first | assumption | omega | (subst_vars; first | assumption | omega), by first | assumption | omega | (subst_vars; first | assumption | omega)⟩)) (by first | rfl | omega | (subst_vars; first | rfl | omega)) (by first | rfl | (subst_vars; rfl)) | (exfalso; omega)
set_option maxHeartbeats 4000000 in
set_option maxRecDepth 100000 in
theorem y_row {l : Launch} {M : Mem} {Pq : Option gV → Mem → Prop} (sf : Int) (so : Int) (n : Int) (h_sf : inI sf) (h_so : inI so) (h_n : inI n) (hrg : rgOK M) (hB : (¬ ((0 ≤ sf ∧ sf < 8) ∧ (0 ≤ so ∧ so ≤ 4) ∧ 0 ≤ n ∧ n ≤ 40)) → Pq (some (gI (-2))) (rg M 2)) (hY : ((0 ≤ sf ∧ sf < 8) ∧ (0 ≤ so ∧ so ≤ 4) ∧ 0 ≤ n ∧ n ≤ 40) → Pq (some (gI 1)) (cp (up (up M 201 sf.toNat (100 + so)) 202 sf.toNat n) 203 (fun _ => 0) 0 (40 * sf).toNat 40)) : gCtr l my_X12_row mb_X12_row 5 ((some .int)) 2 [gR 200, gI sf, gI so, gI n] M Pq := by
  refine g_intro (by decide) (Nat.le_of_ble_eq_true rfl) ?_
  intro p e s m args below meth c D cy q A hK hr hlocks hw
  refine g_sub (L' := [(0, gR 200), (1, gI sf), (2, gI so), (3, gI n)]) [0, 1, 2, 3] rfl ?_
  refine g_aloadn (pc := 0) (i := 0) (x := 200) hK dd_X12_row_0 rfl rfl ?_
  refine g_iloadn (pc := 1) (i := 1) (x := sf) hK dd_X12_row_1 rfl rfl ?_
  refine g_callV (pc := 2) (As := [gI sf]) hK ws_M_148 md_X12_isShelf ⟨Nat.zero_le _, Nat.zero_le _⟩ ⟨by decide, by decide⟩ (kdm kd_200) rfl rfl dd_X12_row_2 rfl rfl (Nat.le_of_ble_eq_true rfl) (d_isShelf sf h_sf (fun c1 => g_r1 ?_) (fun c1 => g_r1 ?_))
  · refine g_if_eq (pc := 5) (tgt := 27) hK dd_X12_row_5 (by decide) (by decide) (fun c2 => absurd c2 (by decide)) (fun _ => ?_)
    refine g_iloadn (pc := 8) (i := 2) (x := so) hK dd_X12_row_8 rfl rfl ?_
    refine g_if_lt (pc := 9) (tgt := 27) hK dd_X12_row_9 (by decide) h_so (fun c3 => ?_) (fun c3 => ?_)
    · refine g_aloadn (pc := 27) (i := 0) (x := 200) hK dd_X12_row_27 rfl rfl ?_
      refine g_bipush (pc := 28) (x := (-2)) hK dd_X12_row_28 (by decide) ?_
      refine g_callV (pc := 30) (As := [gI (-2)]) hK ws_M_152 md_X12_no ⟨Nat.zero_le _, Nat.zero_le _⟩ ⟨by decide, by decide⟩ (kdm kd_200) rfl rfl dd_X12_row_30 rfl rfl (Nat.le_of_ble_eq_true rfl) (d_no_2 hrg (g_r1 ?_))
      refine g_iret (pc := 33) hK hr hlocks dd_X12_row_33 rfl ?_
      first | exact g_fin (hB (by first | omega | (subst_vars; omega) | exact ⟨by first | assumption | omega | (subst_vars; first | assumption | omega), by first | assumption | omega | (subst_vars; first | assumption | omega)⟩)) (by first | rfl | omega | (subst_vars; first | rfl | omega)) (by first | rfl | (subst_vars; rfl)) | (exfalso; omega)
    · refine g_iloadn (pc := 12) (i := 2) (x := so) hK dd_X12_row_12 rfl rfl ?_
      refine g_iconst (pc := 13) (x := 4) hK dd_X12_row_13 (by decide) ?_
      refine g_icmp_gt (pc := 14) (tgt := 27) hK dd_X12_row_14 (by decide) h_so (by decide) (fun c4 => ?_) (fun c4 => ?_)
      · refine g_aloadn (pc := 27) (i := 0) (x := 200) hK dd_X12_row_27 rfl rfl ?_
        refine g_bipush (pc := 28) (x := (-2)) hK dd_X12_row_28 (by decide) ?_
        refine g_callV (pc := 30) (As := [gI (-2)]) hK ws_M_152 md_X12_no ⟨Nat.zero_le _, Nat.zero_le _⟩ ⟨by decide, by decide⟩ (kdm kd_200) rfl rfl dd_X12_row_30 rfl rfl (Nat.le_of_ble_eq_true rfl) (d_no_2 hrg (g_r1 ?_))
        refine g_iret (pc := 33) hK hr hlocks dd_X12_row_33 rfl ?_
        first | exact g_fin (hB (by first | omega | (subst_vars; omega) | exact ⟨by first | assumption | omega | (subst_vars; first | assumption | omega), by first | assumption | omega | (subst_vars; first | assumption | omega)⟩)) (by first | rfl | omega | (subst_vars; first | rfl | omega)) (by first | rfl | (subst_vars; rfl)) | (exfalso; omega)
      · refine g_iloadn (pc := 17) (i := 3) (x := n) hK dd_X12_row_17 rfl rfl ?_
        refine g_if_lt (pc := 18) (tgt := 27) hK dd_X12_row_18 (by decide) h_n (fun c5 => ?_) (fun c5 => ?_)
        · refine g_aloadn (pc := 27) (i := 0) (x := 200) hK dd_X12_row_27 rfl rfl ?_
          refine g_bipush (pc := 28) (x := (-2)) hK dd_X12_row_28 (by decide) ?_
          refine g_callV (pc := 30) (As := [gI (-2)]) hK ws_M_152 md_X12_no ⟨Nat.zero_le _, Nat.zero_le _⟩ ⟨by decide, by decide⟩ (kdm kd_200) rfl rfl dd_X12_row_30 rfl rfl (Nat.le_of_ble_eq_true rfl) (d_no_2 hrg (g_r1 ?_))
          refine g_iret (pc := 33) hK hr hlocks dd_X12_row_33 rfl ?_
          first | exact g_fin (hB (by first | omega | (subst_vars; omega) | exact ⟨by first | assumption | omega | (subst_vars; first | assumption | omega), by first | assumption | omega | (subst_vars; first | assumption | omega)⟩)) (by first | rfl | omega | (subst_vars; first | rfl | omega)) (by first | rfl | (subst_vars; rfl)) | (exfalso; omega)
        · refine g_iloadn (pc := 21) (i := 3) (x := n) hK dd_X12_row_21 rfl rfl ?_
          refine g_bipush (pc := 22) (x := 40) hK dd_X12_row_22 (by decide) ?_
          refine g_icmp_le (pc := 24) (tgt := 34) hK dd_X12_row_24 (by decide) h_n (by decide) (fun c6 => ?_) (fun c6 => ?_)
          · refine g_aloadn (pc := 34) (i := 0) (x := 200) hK dd_X12_row_34 rfl rfl ?_
            refine g_getv (pc := 35) (f := (1, 1)) (j := 0) (v := gR 201) hK (kdm kd_200) rfl ef_12 (by decide) rfl kk_1101 dd_X12_row_35 rfl ?_
            refine g_iloadn (pc := 38) (i := 1) (x := sf) hK dd_X12_row_38 rfl rfl ?_
            refine g_bipush (pc := 39) (x := 100) hK dd_X12_row_39 (by decide) ?_
            refine g_iloadn (pc := 41) (i := 2) (x := so) hK dd_X12_row_41 rfl rfl ?_
            refine g_iadd (pc := 42) (z := 100 + so) hK dd_X12_row_42 rfl ?_
            refine g_iast (pc := 43) hK (kdm kd_201) nl_201 (by decide) (by decide) dd_X12_row_43 (by omega) (by omega) ⟨by omega, by omega⟩ ?_
            refine g_aloadn (pc := 44) (i := 0) (x := 200) hK dd_X12_row_44 rfl rfl ?_
            refine g_getv (pc := 45) (f := (1, 2)) (j := 1) (v := gR 202) hK (kdm kd_200) rfl ef_12 (by decide) rfl kk_1102 dd_X12_row_45 rfl ?_
            refine g_iloadn (pc := 48) (i := 1) (x := sf) hK dd_X12_row_48 rfl rfl ?_
            refine g_iloadn (pc := 49) (i := 3) (x := n) hK dd_X12_row_49 rfl rfl ?_
            refine g_iast (pc := 50) hK (kdm kd_202) nl_202 (by decide) (by decide) dd_X12_row_50 (by omega) (by omega) h_n ?_
            refine g_iconst (pc := 51) (x := 0) hK dd_X12_row_51 (by decide) ?_
            refine g_istore (pc := 52) (i := 4) (L' := [(0, gR 200), (1, gI sf), (2, gI so), (3, gI n), (4, gI 0)]) hK dd_X12_row_52 (by decide) rfl ?_
            have lp9 : ∀ (n7 : Nat) (i : Int), (0 ≤ i ∧ i ≤ 40) → (40 - i).toNat < n7 → G p l e (rmD 2) s m args below meth c D cy q A 0 0 5 (MQ below (gQc D cy q A Pq) args s 0 0 A) 54 [(0, gR 200), (1, gI sf), (2, gI so), (3, gI n), (4, gI i)] [] (cp (up (up M 201 sf.toNat (100 + so)) 202 sf.toNat n) 203 (fun _ => 0) 0 (40 * sf).toNat i.toNat) := by
              intro n7
              induction n7 with
              | zero => intro i iv10 hm11; exact absurd hm11 (Nat.not_lt_zero _)
              | succ n7 ih8 =>
                intro i iv10 hm11
                refine g_iload (pc := 54) (i := 4) (x := i) hK dd_X12_row_54 rfl ?_
                refine g_bipush (pc := 56) (x := 40) hK dd_X12_row_56 (by decide) ?_
                refine g_icmp_ge (pc := 58) (tgt := 80) hK dd_X12_row_58 (by decide) ⟨by omega, by omega⟩ (by decide) (fun c12 => ?_) (fun c12 => ?_)
                · refine g_iconst (pc := 80) (x := 1) hK dd_X12_row_80 (by decide) ?_
                  refine g_iret (pc := 81) hK hr hlocks dd_X12_row_81 rfl ?_
                  first | exact g_fin (hY (by first | omega | (subst_vars; omega) | exact ⟨by first | assumption | omega | (subst_vars; first | assumption | omega), by first | assumption | omega | (subst_vars; first | assumption | omega)⟩)) (by first | rfl | omega | (subst_vars; first | rfl | omega)) (by rw [show i = 40 by omega]; rfl) | (exfalso; omega)
                · refine g_aloadn (pc := 61) (i := 0) (x := 200) hK dd_X12_row_61 rfl rfl ?_
                  refine g_getv (pc := 62) (f := (1, 3)) (j := 2) (v := gR 203) hK (kdm kd_200) rfl ef_12 (by decide) rfl kk_1103 dd_X12_row_62 rfl ?_
                  refine g_bipush (pc := 65) (x := 40) hK dd_X12_row_65 (by decide) ?_
                  refine g_iloadn (pc := 67) (i := 1) (x := sf) hK dd_X12_row_67 rfl rfl ?_
                  refine g_imul (pc := 68) (z := 40 * sf) hK dd_X12_row_68 rfl ?_
                  refine g_iload (pc := 69) (i := 4) (x := i) hK dd_X12_row_69 rfl ?_
                  refine g_iadd (pc := 71) (z := (40 * sf) + i) hK dd_X12_row_71 rfl ?_
                  refine g_lconst (pc := 72) (x := 0) hK dd_X12_row_72 (by decide) ?_
                  refine g_last (pc := 73) hK (kdm kd_203) yl_203 (by decide) (by decide) dd_X12_row_73 (by omega) (by omega) (by decide) ?_
                  refine g_iinc (pc := 74) (i := 4) (y := i + 1) (L' := [(0, gR 200), (1, gI sf), (2, gI so), (3, gI n), (4, gI (i + 1))]) hK dd_X12_row_74 rfl rfl (by decide) rfl ?_
                  refine g_goto (pc := 77) (tgt := 54) hK dd_X12_row_77 (by decide) ?_
                  refine g_sub (L' := [(0, gR 200), (1, gI sf), (2, gI so), (3, gI n), (4, gI (i + 1))]) [0, 1, 2, 3, 4] rfl ?_
                  refine g_mem (M2 := cp (up (up M 201 sf.toNat (100 + so)) 202 sf.toNat n) 203 (fun _ => 0) 0 (40 * sf).toNat (i + 1).toNat) (by rw [tn1 (by omega), show (40 * sf + i).toNat = (40 * sf).toNat + i.toNat by omega]; exact cp_as rfl) ?_
                  exact ih8 (i + 1) (by omega) (by omega)
            refine g_mem (M2 := cp (up (up M 201 sf.toNat (100 + so)) 202 sf.toNat n) 203 (fun _ => 0) 0 (40 * sf).toNat (0 : Int).toNat) (cp_0.symm) ?_
            refine g_sub (L' := [(0, gR 200), (1, gI sf), (2, gI so), (3, gI n), (4, gI 0)]) [0, 1, 2, 3, 4] rfl ?_
            exact lp9 _ 0 (by omega) (Nat.lt_succ_self _)
          · refine g_aloadn (pc := 27) (i := 0) (x := 200) hK dd_X12_row_27 rfl rfl ?_
            refine g_bipush (pc := 28) (x := (-2)) hK dd_X12_row_28 (by decide) ?_
            refine g_callV (pc := 30) (As := [gI (-2)]) hK ws_M_152 md_X12_no ⟨Nat.zero_le _, Nat.zero_le _⟩ ⟨by decide, by decide⟩ (kdm kd_200) rfl rfl dd_X12_row_30 rfl rfl (Nat.le_of_ble_eq_true rfl) (d_no_2 hrg (g_r1 ?_))
            refine g_iret (pc := 33) hK hr hlocks dd_X12_row_33 rfl ?_
            first | exact g_fin (hB (by first | omega | (subst_vars; omega) | exact ⟨by first | assumption | omega | (subst_vars; first | assumption | omega), by first | assumption | omega | (subst_vars; first | assumption | omega)⟩)) (by first | rfl | omega | (subst_vars; first | rfl | omega)) (by first | rfl | (subst_vars; rfl)) | (exfalso; omega)
  · refine g_if_eq (pc := 5) (tgt := 27) hK dd_X12_row_5 (by decide) (by decide) (fun _ => ?_) (fun c13 => absurd (by decide) c13)
    refine g_aloadn (pc := 27) (i := 0) (x := 200) hK dd_X12_row_27 rfl rfl ?_
    refine g_bipush (pc := 28) (x := (-2)) hK dd_X12_row_28 (by decide) ?_
    refine g_callV (pc := 30) (As := [gI (-2)]) hK ws_M_152 md_X12_no ⟨Nat.zero_le _, Nat.zero_le _⟩ ⟨by decide, by decide⟩ (kdm kd_200) rfl rfl dd_X12_row_30 rfl rfl (Nat.le_of_ble_eq_true rfl) (d_no_2 hrg (g_r1 ?_))
    refine g_iret (pc := 33) hK hr hlocks dd_X12_row_33 rfl ?_
    first | exact g_fin (hB (by first | omega | (subst_vars; omega) | exact ⟨by first | assumption | omega | (subst_vars; first | assumption | omega), by first | assumption | omega | (subst_vars; first | assumption | omega)⟩)) (by first | rfl | omega | (subst_vars; first | rfl | omega)) (by first | rfl | (subst_vars; rfl)) | (exfalso; omega)
set_option maxHeartbeats 4000000 in
set_option maxRecDepth 100000 in
theorem y_set {l : Launch} {M : Mem} {Pq : Option gV → Mem → Prop} (sf : Int) (i : Int) (v : Int) (h_sf : inI sf) (h_i : inI i) (h_v : inL v) (hrg : rgOK M) (hho : hoOK M) (hmc : 0 ≤ M 200 3 ∧ M 200 3 ≤ 30) (hB : (¬ (0 ≤ sf ∧ sf < 8)) → Pq (some (gI (-2))) (rg M 2)) (hO : ((0 ≤ sf ∧ sf < 8) ∧ 0 ≤ M 201 sf.toNat ∧ M 201 sf.toNat < 100) → Pq (some (gI (-3))) (rg M 3)) (hN : ((0 ≤ sf ∧ sf < 8) ∧ M 201 sf.toNat < 0) → Pq (some (gI (-4))) (rg M 4)) (hI : (((0 ≤ sf ∧ sf < 8) ∧ 100 ≤ M 201 sf.toNat) ∧ ¬ (0 ≤ i ∧ i < M 202 sf.toNat)) → Pq (some (gI (-2))) (rg M 2)) (hY : (((0 ≤ sf ∧ sf < 8) ∧ 100 ≤ M 201 sf.toNat) ∧ 0 ≤ i ∧ i < M 202 sf.toNat) → Pq (some (gI 1)) (up M 203 (40 * sf + i).toNat (ctS (M 201 sf.toNat - 100) v))) : gCtr l my_X12_set mb_X12_set 9 ((some .int)) 3 [gR 200, gI sf, gI i, gL v] M Pq := by
  refine g_intro (by decide) (Nat.le_of_ble_eq_true rfl) ?_
  intro p e s m args below meth c D cy q A hK hr hlocks hw
  refine g_sub (L' := [(0, gR 200), (1, gI sf), (2, gI i), (3, gL v)]) [0, 1, 2, 3] rfl ?_
  refine g_aloadn (pc := 0) (i := 0) (x := 200) hK dd_X12_set_0 rfl rfl ?_
  refine g_iloadn (pc := 1) (i := 1) (x := sf) hK dd_X12_set_1 rfl rfl ?_
  refine g_callV (pc := 2) (As := [gI sf]) hK ws_M_159 md_X12_noRow ⟨Nat.zero_le _, Nat.zero_le _⟩ ⟨by decide, by decide⟩ (kdm kd_200) rfl rfl dd_X12_set_2 rfl rfl (Nat.le_of_ble_eq_true rfl) (d_noRow sf h_sf (fun c1 => g_r1 ?_) (fun c2 => g_r1 ?_) (fun c3 => g_r1 ?_) (fun c4 => g_r1 ?_))
  · refine g_istore (pc := 5) (i := 5) (L' := [(0, gR 200), (1, gI sf), (2, gI i), (3, gL v), (5, gI (-2))]) hK dd_X12_set_5 (by decide) rfl ?_
    refine g_iload (pc := 7) (i := 5) (x := (-2)) hK dd_X12_set_7 rfl ?_
    refine g_if_ge (pc := 9) (tgt := 19) hK dd_X12_set_9 (by decide) (by decide) (fun c5 => absurd c5 (by decide)) (fun _ => ?_)
    refine g_aloadn (pc := 12) (i := 0) (x := 200) hK dd_X12_set_12 rfl rfl ?_
    refine g_iload (pc := 13) (i := 5) (x := (-2)) hK dd_X12_set_13 rfl ?_
    refine g_callV (pc := 15) (As := [gI (-2)]) hK ws_M_152 md_X12_no ⟨Nat.zero_le _, Nat.zero_le _⟩ ⟨by decide, by decide⟩ (kdm kd_200) rfl rfl dd_X12_set_15 rfl rfl (Nat.le_of_ble_eq_true rfl) (d_no_2 hrg (g_r1 ?_))
    refine g_iret (pc := 18) hK hr hlocks dd_X12_set_18 rfl ?_
    first | exact g_fin (hB (by first | omega | (subst_vars; omega) | exact ⟨by first | assumption | omega | (subst_vars; first | assumption | omega), by first | assumption | omega | (subst_vars; first | assumption | omega)⟩)) (by first | rfl | omega | (subst_vars; first | rfl | omega)) (by first | rfl | (subst_vars; rfl)) | exact g_fin (hI (by first | omega | (subst_vars; omega) | exact ⟨by first | assumption | omega | (subst_vars; first | assumption | omega), by first | assumption | omega | (subst_vars; first | assumption | omega)⟩)) (by first | rfl | omega | (subst_vars; first | rfl | omega)) (by first | rfl | (subst_vars; rfl)) | (exfalso; omega)
  · refine g_istore (pc := 5) (i := 5) (L' := [(0, gR 200), (1, gI sf), (2, gI i), (3, gL v), (5, gI (-3))]) hK dd_X12_set_5 (by decide) rfl ?_
    refine g_iload (pc := 7) (i := 5) (x := (-3)) hK dd_X12_set_7 rfl ?_
    refine g_if_ge (pc := 9) (tgt := 19) hK dd_X12_set_9 (by decide) (by decide) (fun c6 => absurd c6 (by decide)) (fun _ => ?_)
    refine g_aloadn (pc := 12) (i := 0) (x := 200) hK dd_X12_set_12 rfl rfl ?_
    refine g_iload (pc := 13) (i := 5) (x := (-3)) hK dd_X12_set_13 rfl ?_
    refine g_callV (pc := 15) (As := [gI (-3)]) hK ws_M_152 md_X12_no ⟨Nat.zero_le _, Nat.zero_le _⟩ ⟨by decide, by decide⟩ (kdm kd_200) rfl rfl dd_X12_set_15 rfl rfl (Nat.le_of_ble_eq_true rfl) (d_no_3 hrg (g_r1 ?_))
    refine g_iret (pc := 18) hK hr hlocks dd_X12_set_18 rfl ?_
    first | exact g_fin (hO (by first | omega | (subst_vars; omega) | exact ⟨by first | assumption | omega | (subst_vars; first | assumption | omega), by first | assumption | omega | (subst_vars; first | assumption | omega)⟩)) (by first | rfl | omega | (subst_vars; first | rfl | omega)) (by first | rfl | (subst_vars; rfl)) | (exfalso; omega)
  · refine g_istore (pc := 5) (i := 5) (L' := [(0, gR 200), (1, gI sf), (2, gI i), (3, gL v), (5, gI (-4))]) hK dd_X12_set_5 (by decide) rfl ?_
    refine g_iload (pc := 7) (i := 5) (x := (-4)) hK dd_X12_set_7 rfl ?_
    refine g_if_ge (pc := 9) (tgt := 19) hK dd_X12_set_9 (by decide) (by decide) (fun c7 => absurd c7 (by decide)) (fun _ => ?_)
    refine g_aloadn (pc := 12) (i := 0) (x := 200) hK dd_X12_set_12 rfl rfl ?_
    refine g_iload (pc := 13) (i := 5) (x := (-4)) hK dd_X12_set_13 rfl ?_
    refine g_callV (pc := 15) (As := [gI (-4)]) hK ws_M_152 md_X12_no ⟨Nat.zero_le _, Nat.zero_le _⟩ ⟨by decide, by decide⟩ (kdm kd_200) rfl rfl dd_X12_set_15 rfl rfl (Nat.le_of_ble_eq_true rfl) (d_no_4 hrg (g_r1 ?_))
    refine g_iret (pc := 18) hK hr hlocks dd_X12_set_18 rfl ?_
    first | exact g_fin (hN (by first | omega | (subst_vars; omega) | exact ⟨by first | assumption | omega | (subst_vars; first | assumption | omega), by first | assumption | omega | (subst_vars; first | assumption | omega)⟩)) (by first | rfl | omega | (subst_vars; first | rfl | omega)) (by first | rfl | (subst_vars; rfl)) | (exfalso; omega)
  · have hs_ := hho sf.toNat (by omega)
    refine g_istore (pc := 5) (i := 5) (L' := [(0, gR 200), (1, gI sf), (2, gI i), (3, gL v), (5, gI 0)]) hK dd_X12_set_5 (by decide) rfl ?_
    refine g_iload (pc := 7) (i := 5) (x := 0) hK dd_X12_set_7 rfl ?_
    refine g_if_ge (pc := 9) (tgt := 19) hK dd_X12_set_9 (by decide) (by decide) (fun _ => ?_) (fun c8 => absurd (by decide) c8)
    refine g_iloadn (pc := 19) (i := 2) (x := i) hK dd_X12_set_19 rfl rfl ?_
    refine g_if_lt (pc := 20) (tgt := 33) hK dd_X12_set_20 (by decide) h_i (fun c9 => ?_) (fun c9 => ?_)
    · refine g_aloadn (pc := 33) (i := 0) (x := 200) hK dd_X12_set_33 rfl rfl ?_
      refine g_bipush (pc := 34) (x := (-2)) hK dd_X12_set_34 (by decide) ?_
      refine g_callV (pc := 36) (As := [gI (-2)]) hK ws_M_152 md_X12_no ⟨Nat.zero_le _, Nat.zero_le _⟩ ⟨by decide, by decide⟩ (kdm kd_200) rfl rfl dd_X12_set_36 rfl rfl (Nat.le_of_ble_eq_true rfl) (d_no_2 hrg (g_r1 ?_))
      refine g_iret (pc := 39) hK hr hlocks dd_X12_set_39 rfl ?_
      first | exact g_fin (hB (by first | omega | (subst_vars; omega) | exact ⟨by first | assumption | omega | (subst_vars; first | assumption | omega), by first | assumption | omega | (subst_vars; first | assumption | omega)⟩)) (by first | rfl | omega | (subst_vars; first | rfl | omega)) (by first | rfl | (subst_vars; rfl)) | exact g_fin (hI (by first | omega | (subst_vars; omega) | exact ⟨by first | assumption | omega | (subst_vars; first | assumption | omega), by first | assumption | omega | (subst_vars; first | assumption | omega)⟩)) (by first | rfl | omega | (subst_vars; first | rfl | omega)) (by first | rfl | (subst_vars; rfl)) | (exfalso; omega)
    · refine g_iloadn (pc := 23) (i := 2) (x := i) hK dd_X12_set_23 rfl rfl ?_
      refine g_aloadn (pc := 24) (i := 0) (x := 200) hK dd_X12_set_24 rfl rfl ?_
      refine g_getv (pc := 25) (f := (1, 2)) (j := 1) (v := gR 202) hK (kdm kd_200) rfl ef_12 (by decide) rfl kk_1102 dd_X12_set_25 rfl ?_
      refine g_iloadn (pc := 28) (i := 1) (x := sf) hK dd_X12_set_28 rfl rfl ?_
      refine g_iald (pc := 29) hK (kdm kd_202) nl_202 (by decide) dd_X12_set_29 (by omega) (by omega) (fun x10 ex10 rx10 => ?_)
      refine g_icmp_lt (pc := 30) (tgt := 40) hK dd_X12_set_30 (by decide) h_i rx10 (fun c11 => ?_) (fun c11 => ?_)
      · refine g_aloadn (pc := 40) (i := 0) (x := 200) hK dd_X12_set_40 rfl rfl ?_
        refine g_getv (pc := 41) (f := (1, 1)) (j := 0) (v := gR 201) hK (kdm kd_200) rfl ef_12 (by decide) rfl kk_1101 dd_X12_set_41 rfl ?_
        refine g_iloadn (pc := 44) (i := 1) (x := sf) hK dd_X12_set_44 rfl rfl ?_
        refine g_iald (pc := 45) hK (kdm kd_201) nl_201 (by decide) dd_X12_set_45 (by omega) (by omega) (fun x12 ex12 rx12 => ?_)
        refine g_bipush (pc := 46) (x := 100) hK dd_X12_set_46 (by decide) ?_
        refine g_isub (pc := 48) (z := x12 - 100) hK dd_X12_set_48 rfl ?_
        refine g_istore (pc := 49) (i := 6) (L' := [(0, gR 200), (1, gI sf), (2, gI i), (3, gL v), (5, gI 0), (6, gI (x12 - 100))]) hK dd_X12_set_49 (by decide) rfl ?_
        refine g_lloadn (pc := 51) (i := 3) (x := v) hK dd_X12_set_51 rfl rfl ?_
        refine g_lstore (pc := 52) (i := 7) (L' := [(0, gR 200), (1, gI sf), (2, gI i), (3, gL v), (5, gI 0), (6, gI (x12 - 100)), (7, gL v)]) hK dd_X12_set_52 (by decide) rfl ?_
        refine g_iload (pc := 54) (i := 6) (x := x12 - 100) hK dd_X12_set_54 rfl ?_
        refine g_if_ne (pc := 56) (tgt := 65) hK dd_X12_set_56 (by decide) ⟨by omega, by omega⟩ (fun c13 => ?_) (fun c13 => ?_)
        · refine g_iload (pc := 65) (i := 6) (x := x12 - 100) hK dd_X12_set_65 rfl ?_
          refine g_iconst (pc := 67) (x := 1) hK dd_X12_set_67 (by decide) ?_
          refine g_icmp_ne (pc := 68) (tgt := 77) hK dd_X12_set_68 (by decide) ⟨by omega, by omega⟩ (by decide) (fun c14 => ?_) (fun c14 => ?_)
          · refine g_iload (pc := 77) (i := 6) (x := x12 - 100) hK dd_X12_set_77 rfl ?_
            refine g_iconst (pc := 79) (x := 2) hK dd_X12_set_79 (by decide) ?_
            refine g_icmp_ne (pc := 80) (tgt := 88) hK dd_X12_set_80 (by decide) ⟨by omega, by omega⟩ (by decide) (fun c15 => ?_) (fun c15 => ?_)
            · refine g_iload (pc := 88) (i := 6) (x := x12 - 100) hK dd_X12_set_88 rfl ?_
              refine g_iconst (pc := 90) (x := 4) hK dd_X12_set_90 (by decide) ?_
              refine g_icmp_ne (pc := 91) (tgt := 107) hK dd_X12_set_91 (by decide) ⟨by omega, by omega⟩ (by decide) (fun c16 => ?_) (fun c16 => ?_)
              · refine g_aloadn (pc := 107) (i := 0) (x := 200) hK dd_X12_set_107 rfl rfl ?_
                refine g_getv (pc := 108) (f := (1, 3)) (j := 2) (v := gR 203) hK (kdm kd_200) rfl ef_12 (by decide) rfl kk_1103 dd_X12_set_108 rfl ?_
                refine g_bipush (pc := 111) (x := 40) hK dd_X12_set_111 (by decide) ?_
                refine g_iloadn (pc := 113) (i := 1) (x := sf) hK dd_X12_set_113 rfl rfl ?_
                refine g_imul (pc := 114) (z := 40 * sf) hK dd_X12_set_114 rfl ?_
                refine g_iloadn (pc := 115) (i := 2) (x := i) hK dd_X12_set_115 rfl rfl ?_
                refine g_iadd (pc := 116) (z := (40 * sf) + i) hK dd_X12_set_116 rfl ?_
                refine g_lload (pc := 117) (i := 7) (x := v) hK dd_X12_set_117 rfl ?_
                refine g_last (pc := 119) hK (kdm kd_203) yl_203 (by decide) (by decide) dd_X12_set_119 (by omega) (by omega) h_v ?_
                refine g_iconst (pc := 120) (x := 1) hK dd_X12_set_120 (by decide) ?_
                refine g_iret (pc := 121) hK hr hlocks dd_X12_set_121 rfl ?_
                first | exact g_fin (hY (by first | omega | (subst_vars; omega) | exact ⟨by first | assumption | omega | (subst_vars; first | assumption | omega), by first | assumption | omega | (subst_vars; first | assumption | omega)⟩)) (by first | rfl | omega | (subst_vars; first | rfl | omega)) (by first | rfl | (rw [ctS_0 (by omega)]) | (rw [ctS_1 (by omega)]) | (rw [ctS_2 (by omega)]) | (rw [ctS_3 (by omega)]) | (rw [ctS_4 (by omega), if_pos (by omega)]) | (rw [ctS_4 (by omega), if_neg (by omega)])) | (exfalso; omega)
              · refine g_lloadn (pc := 94) (i := 3) (x := v) hK dd_X12_set_94 rfl rfl ?_
                refine g_lconst (pc := 95) (x := 0) hK dd_X12_set_95 (by decide) ?_
                rcases Int.lt_trichotomy v 0 with c17 | c18 | c19
                · refine g_lcmp (pc := 96) (z := (-1)) hK dd_X12_set_96 h_v (by decide) (by rw [if_neg (by omega), if_neg (by omega)]) ?_
                  refine g_if_eq (pc := 97) (tgt := 104) hK dd_X12_set_97 (by decide) (by decide) (fun c20 => absurd c20 (by decide)) (fun _ => ?_)
                  refine g_lconst (pc := 100) (x := 1) hK dd_X12_set_100 (by decide) ?_
                  refine g_goto (pc := 101) (tgt := 105) hK dd_X12_set_101 (by decide) ?_
                  refine g_lstore (pc := 105) (i := 7) (L' := [(0, gR 200), (1, gI sf), (2, gI i), (3, gL v), (5, gI 0), (6, gI (x12 - 100)), (7, gL 1)]) hK dd_X12_set_105 (by decide) rfl ?_
                  refine g_aloadn (pc := 107) (i := 0) (x := 200) hK dd_X12_set_107 rfl rfl ?_
                  refine g_getv (pc := 108) (f := (1, 3)) (j := 2) (v := gR 203) hK (kdm kd_200) rfl ef_12 (by decide) rfl kk_1103 dd_X12_set_108 rfl ?_
                  refine g_bipush (pc := 111) (x := 40) hK dd_X12_set_111 (by decide) ?_
                  refine g_iloadn (pc := 113) (i := 1) (x := sf) hK dd_X12_set_113 rfl rfl ?_
                  refine g_imul (pc := 114) (z := 40 * sf) hK dd_X12_set_114 rfl ?_
                  refine g_iloadn (pc := 115) (i := 2) (x := i) hK dd_X12_set_115 rfl rfl ?_
                  refine g_iadd (pc := 116) (z := (40 * sf) + i) hK dd_X12_set_116 rfl ?_
                  refine g_lload (pc := 117) (i := 7) (x := 1) hK dd_X12_set_117 rfl ?_
                  refine g_last (pc := 119) hK (kdm kd_203) yl_203 (by decide) (by decide) dd_X12_set_119 (by omega) (by omega) (by decide) ?_
                  refine g_iconst (pc := 120) (x := 1) hK dd_X12_set_120 (by decide) ?_
                  refine g_iret (pc := 121) hK hr hlocks dd_X12_set_121 rfl ?_
                  first | exact g_fin (hY (by first | omega | (subst_vars; omega) | exact ⟨by first | assumption | omega | (subst_vars; first | assumption | omega), by first | assumption | omega | (subst_vars; first | assumption | omega)⟩)) (by first | rfl | omega | (subst_vars; first | rfl | omega)) (by first | rfl | (rw [ctS_0 (by omega)]) | (rw [ctS_1 (by omega)]) | (rw [ctS_2 (by omega)]) | (rw [ctS_3 (by omega)]) | (rw [ctS_4 (by omega), if_pos (by omega)]) | (rw [ctS_4 (by omega), if_neg (by omega)])) | (exfalso; omega)
                · refine g_lcmp (pc := 96) (z := 0) hK dd_X12_set_96 h_v (by decide) (by rw [if_neg (by omega), if_pos c18]) ?_
                  refine g_if_eq (pc := 97) (tgt := 104) hK dd_X12_set_97 (by decide) (by decide) (fun _ => ?_) (fun c21 => absurd (by decide) c21)
                  refine g_lconst (pc := 104) (x := 0) hK dd_X12_set_104 (by decide) ?_
                  refine g_lstore (pc := 105) (i := 7) (L' := [(0, gR 200), (1, gI sf), (2, gI i), (3, gL v), (5, gI 0), (6, gI (x12 - 100)), (7, gL 0)]) hK dd_X12_set_105 (by decide) rfl ?_
                  refine g_aloadn (pc := 107) (i := 0) (x := 200) hK dd_X12_set_107 rfl rfl ?_
                  refine g_getv (pc := 108) (f := (1, 3)) (j := 2) (v := gR 203) hK (kdm kd_200) rfl ef_12 (by decide) rfl kk_1103 dd_X12_set_108 rfl ?_
                  refine g_bipush (pc := 111) (x := 40) hK dd_X12_set_111 (by decide) ?_
                  refine g_iloadn (pc := 113) (i := 1) (x := sf) hK dd_X12_set_113 rfl rfl ?_
                  refine g_imul (pc := 114) (z := 40 * sf) hK dd_X12_set_114 rfl ?_
                  refine g_iloadn (pc := 115) (i := 2) (x := i) hK dd_X12_set_115 rfl rfl ?_
                  refine g_iadd (pc := 116) (z := (40 * sf) + i) hK dd_X12_set_116 rfl ?_
                  refine g_lload (pc := 117) (i := 7) (x := 0) hK dd_X12_set_117 rfl ?_
                  refine g_last (pc := 119) hK (kdm kd_203) yl_203 (by decide) (by decide) dd_X12_set_119 (by omega) (by omega) (by decide) ?_
                  refine g_iconst (pc := 120) (x := 1) hK dd_X12_set_120 (by decide) ?_
                  refine g_iret (pc := 121) hK hr hlocks dd_X12_set_121 rfl ?_
                  first | exact g_fin (hY (by first | omega | (subst_vars; omega) | exact ⟨by first | assumption | omega | (subst_vars; first | assumption | omega), by first | assumption | omega | (subst_vars; first | assumption | omega)⟩)) (by first | rfl | omega | (subst_vars; first | rfl | omega)) (by first | rfl | (rw [ctS_0 (by omega)]) | (rw [ctS_1 (by omega)]) | (rw [ctS_2 (by omega)]) | (rw [ctS_3 (by omega)]) | (rw [ctS_4 (by omega), if_pos (by omega)]) | (rw [ctS_4 (by omega), if_neg (by omega)])) | (exfalso; omega)
                · refine g_lcmp (pc := 96) (z := 1) hK dd_X12_set_96 h_v (by decide) (by rw [if_pos (by omega)]) ?_
                  refine g_if_eq (pc := 97) (tgt := 104) hK dd_X12_set_97 (by decide) (by decide) (fun c22 => absurd c22 (by decide)) (fun _ => ?_)
                  refine g_lconst (pc := 100) (x := 1) hK dd_X12_set_100 (by decide) ?_
                  refine g_goto (pc := 101) (tgt := 105) hK dd_X12_set_101 (by decide) ?_
                  refine g_lstore (pc := 105) (i := 7) (L' := [(0, gR 200), (1, gI sf), (2, gI i), (3, gL v), (5, gI 0), (6, gI (x12 - 100)), (7, gL 1)]) hK dd_X12_set_105 (by decide) rfl ?_
                  refine g_aloadn (pc := 107) (i := 0) (x := 200) hK dd_X12_set_107 rfl rfl ?_
                  refine g_getv (pc := 108) (f := (1, 3)) (j := 2) (v := gR 203) hK (kdm kd_200) rfl ef_12 (by decide) rfl kk_1103 dd_X12_set_108 rfl ?_
                  refine g_bipush (pc := 111) (x := 40) hK dd_X12_set_111 (by decide) ?_
                  refine g_iloadn (pc := 113) (i := 1) (x := sf) hK dd_X12_set_113 rfl rfl ?_
                  refine g_imul (pc := 114) (z := 40 * sf) hK dd_X12_set_114 rfl ?_
                  refine g_iloadn (pc := 115) (i := 2) (x := i) hK dd_X12_set_115 rfl rfl ?_
                  refine g_iadd (pc := 116) (z := (40 * sf) + i) hK dd_X12_set_116 rfl ?_
                  refine g_lload (pc := 117) (i := 7) (x := 1) hK dd_X12_set_117 rfl ?_
                  refine g_last (pc := 119) hK (kdm kd_203) yl_203 (by decide) (by decide) dd_X12_set_119 (by omega) (by omega) (by decide) ?_
                  refine g_iconst (pc := 120) (x := 1) hK dd_X12_set_120 (by decide) ?_
                  refine g_iret (pc := 121) hK hr hlocks dd_X12_set_121 rfl ?_
                  first | exact g_fin (hY (by first | omega | (subst_vars; omega) | exact ⟨by first | assumption | omega | (subst_vars; first | assumption | omega), by first | assumption | omega | (subst_vars; first | assumption | omega)⟩)) (by first | rfl | omega | (subst_vars; first | rfl | omega)) (by first | rfl | (rw [ctS_0 (by omega)]) | (rw [ctS_1 (by omega)]) | (rw [ctS_2 (by omega)]) | (rw [ctS_3 (by omega)]) | (rw [ctS_4 (by omega), if_pos (by omega)]) | (rw [ctS_4 (by omega), if_neg (by omega)])) | (exfalso; omega)
            · refine g_lloadn (pc := 83) (i := 3) (x := v) hK dd_X12_set_83 rfl rfl ?_
              refine g_l2i (pc := 84) (z := ji v) hK dd_X12_set_84 (ji_eq _) ?_
              refine g_i2l (pc := 85) hK dd_X12_set_85 (ji_in _) ?_
              refine g_lstore (pc := 86) (i := 7) (L' := [(0, gR 200), (1, gI sf), (2, gI i), (3, gL v), (5, gI 0), (6, gI (x12 - 100)), (7, gL (ji v))]) hK dd_X12_set_86 (by decide) rfl ?_
              refine g_iload (pc := 88) (i := 6) (x := x12 - 100) hK dd_X12_set_88 rfl ?_
              refine g_iconst (pc := 90) (x := 4) hK dd_X12_set_90 (by decide) ?_
              refine g_icmp_ne (pc := 91) (tgt := 107) hK dd_X12_set_91 (by decide) ⟨by omega, by omega⟩ (by decide) (fun c23 => ?_) (fun c23 => absurd c23 (by omega))
              refine g_aloadn (pc := 107) (i := 0) (x := 200) hK dd_X12_set_107 rfl rfl ?_
              refine g_getv (pc := 108) (f := (1, 3)) (j := 2) (v := gR 203) hK (kdm kd_200) rfl ef_12 (by decide) rfl kk_1103 dd_X12_set_108 rfl ?_
              refine g_bipush (pc := 111) (x := 40) hK dd_X12_set_111 (by decide) ?_
              refine g_iloadn (pc := 113) (i := 1) (x := sf) hK dd_X12_set_113 rfl rfl ?_
              refine g_imul (pc := 114) (z := 40 * sf) hK dd_X12_set_114 rfl ?_
              refine g_iloadn (pc := 115) (i := 2) (x := i) hK dd_X12_set_115 rfl rfl ?_
              refine g_iadd (pc := 116) (z := (40 * sf) + i) hK dd_X12_set_116 rfl ?_
              refine g_lload (pc := 117) (i := 7) (x := ji v) hK dd_X12_set_117 rfl ?_
              refine g_last (pc := 119) hK (kdm kd_203) yl_203 (by decide) (by decide) dd_X12_set_119 (by omega) (by omega) (inL_of (ji_in _)) ?_
              refine g_iconst (pc := 120) (x := 1) hK dd_X12_set_120 (by decide) ?_
              refine g_iret (pc := 121) hK hr hlocks dd_X12_set_121 rfl ?_
              first | exact g_fin (hY (by first | omega | (subst_vars; omega) | exact ⟨by first | assumption | omega | (subst_vars; first | assumption | omega), by first | assumption | omega | (subst_vars; first | assumption | omega)⟩)) (by first | rfl | omega | (subst_vars; first | rfl | omega)) (by first | rfl | (rw [ctS_0 (by omega)]) | (rw [ctS_1 (by omega)]) | (rw [ctS_2 (by omega)]) | (rw [ctS_3 (by omega)]) | (rw [ctS_4 (by omega), if_pos (by omega)]) | (rw [ctS_4 (by omega), if_neg (by omega)])) | (exfalso; omega)
          · refine g_lloadn (pc := 71) (i := 3) (x := v) hK dd_X12_set_71 rfl rfl ?_
            refine g_l2i (pc := 72) (z := ji v) hK dd_X12_set_72 (ji_eq _) ?_
            refine g_i2s (pc := 73) (z := js (ji v)) hK dd_X12_set_73 (js_eq _) ?_
            refine g_i2l (pc := 74) hK dd_X12_set_74 (js_in _) ?_
            refine g_lstore (pc := 75) (i := 7) (L' := [(0, gR 200), (1, gI sf), (2, gI i), (3, gL v), (5, gI 0), (6, gI (x12 - 100)), (7, gL (js (ji v)))]) hK dd_X12_set_75 (by decide) rfl ?_
            refine g_iload (pc := 77) (i := 6) (x := x12 - 100) hK dd_X12_set_77 rfl ?_
            refine g_iconst (pc := 79) (x := 2) hK dd_X12_set_79 (by decide) ?_
            refine g_icmp_ne (pc := 80) (tgt := 88) hK dd_X12_set_80 (by decide) ⟨by omega, by omega⟩ (by decide) (fun c24 => ?_) (fun c24 => absurd c24 (by omega))
            refine g_iload (pc := 88) (i := 6) (x := x12 - 100) hK dd_X12_set_88 rfl ?_
            refine g_iconst (pc := 90) (x := 4) hK dd_X12_set_90 (by decide) ?_
            refine g_icmp_ne (pc := 91) (tgt := 107) hK dd_X12_set_91 (by decide) ⟨by omega, by omega⟩ (by decide) (fun c25 => ?_) (fun c25 => absurd c25 (by omega))
            refine g_aloadn (pc := 107) (i := 0) (x := 200) hK dd_X12_set_107 rfl rfl ?_
            refine g_getv (pc := 108) (f := (1, 3)) (j := 2) (v := gR 203) hK (kdm kd_200) rfl ef_12 (by decide) rfl kk_1103 dd_X12_set_108 rfl ?_
            refine g_bipush (pc := 111) (x := 40) hK dd_X12_set_111 (by decide) ?_
            refine g_iloadn (pc := 113) (i := 1) (x := sf) hK dd_X12_set_113 rfl rfl ?_
            refine g_imul (pc := 114) (z := 40 * sf) hK dd_X12_set_114 rfl ?_
            refine g_iloadn (pc := 115) (i := 2) (x := i) hK dd_X12_set_115 rfl rfl ?_
            refine g_iadd (pc := 116) (z := (40 * sf) + i) hK dd_X12_set_116 rfl ?_
            refine g_lload (pc := 117) (i := 7) (x := js (ji v)) hK dd_X12_set_117 rfl ?_
            refine g_last (pc := 119) hK (kdm kd_203) yl_203 (by decide) (by decide) dd_X12_set_119 (by omega) (by omega) (inL_of (js_in _)) ?_
            refine g_iconst (pc := 120) (x := 1) hK dd_X12_set_120 (by decide) ?_
            refine g_iret (pc := 121) hK hr hlocks dd_X12_set_121 rfl ?_
            first | exact g_fin (hY (by first | omega | (subst_vars; omega) | exact ⟨by first | assumption | omega | (subst_vars; first | assumption | omega), by first | assumption | omega | (subst_vars; first | assumption | omega)⟩)) (by first | rfl | omega | (subst_vars; first | rfl | omega)) (by first | rfl | (rw [ctS_0 (by omega)]) | (rw [ctS_1 (by omega)]) | (rw [ctS_2 (by omega)]) | (rw [ctS_3 (by omega)]) | (rw [ctS_4 (by omega), if_pos (by omega)]) | (rw [ctS_4 (by omega), if_neg (by omega)])) | (exfalso; omega)
        · refine g_lloadn (pc := 59) (i := 3) (x := v) hK dd_X12_set_59 rfl rfl ?_
          refine g_l2i (pc := 60) (z := ji v) hK dd_X12_set_60 (ji_eq _) ?_
          refine g_i2b (pc := 61) (z := jb (ji v)) hK dd_X12_set_61 (jb_eq _) ?_
          refine g_i2l (pc := 62) hK dd_X12_set_62 (jb_in _) ?_
          refine g_lstore (pc := 63) (i := 7) (L' := [(0, gR 200), (1, gI sf), (2, gI i), (3, gL v), (5, gI 0), (6, gI (x12 - 100)), (7, gL (jb (ji v)))]) hK dd_X12_set_63 (by decide) rfl ?_
          refine g_iload (pc := 65) (i := 6) (x := x12 - 100) hK dd_X12_set_65 rfl ?_
          refine g_iconst (pc := 67) (x := 1) hK dd_X12_set_67 (by decide) ?_
          refine g_icmp_ne (pc := 68) (tgt := 77) hK dd_X12_set_68 (by decide) ⟨by omega, by omega⟩ (by decide) (fun c26 => ?_) (fun c26 => absurd c26 (by omega))
          refine g_iload (pc := 77) (i := 6) (x := x12 - 100) hK dd_X12_set_77 rfl ?_
          refine g_iconst (pc := 79) (x := 2) hK dd_X12_set_79 (by decide) ?_
          refine g_icmp_ne (pc := 80) (tgt := 88) hK dd_X12_set_80 (by decide) ⟨by omega, by omega⟩ (by decide) (fun c27 => ?_) (fun c27 => absurd c27 (by omega))
          refine g_iload (pc := 88) (i := 6) (x := x12 - 100) hK dd_X12_set_88 rfl ?_
          refine g_iconst (pc := 90) (x := 4) hK dd_X12_set_90 (by decide) ?_
          refine g_icmp_ne (pc := 91) (tgt := 107) hK dd_X12_set_91 (by decide) ⟨by omega, by omega⟩ (by decide) (fun c28 => ?_) (fun c28 => absurd c28 (by omega))
          refine g_aloadn (pc := 107) (i := 0) (x := 200) hK dd_X12_set_107 rfl rfl ?_
          refine g_getv (pc := 108) (f := (1, 3)) (j := 2) (v := gR 203) hK (kdm kd_200) rfl ef_12 (by decide) rfl kk_1103 dd_X12_set_108 rfl ?_
          refine g_bipush (pc := 111) (x := 40) hK dd_X12_set_111 (by decide) ?_
          refine g_iloadn (pc := 113) (i := 1) (x := sf) hK dd_X12_set_113 rfl rfl ?_
          refine g_imul (pc := 114) (z := 40 * sf) hK dd_X12_set_114 rfl ?_
          refine g_iloadn (pc := 115) (i := 2) (x := i) hK dd_X12_set_115 rfl rfl ?_
          refine g_iadd (pc := 116) (z := (40 * sf) + i) hK dd_X12_set_116 rfl ?_
          refine g_lload (pc := 117) (i := 7) (x := jb (ji v)) hK dd_X12_set_117 rfl ?_
          refine g_last (pc := 119) hK (kdm kd_203) yl_203 (by decide) (by decide) dd_X12_set_119 (by omega) (by omega) (inL_of (jb_in _)) ?_
          refine g_iconst (pc := 120) (x := 1) hK dd_X12_set_120 (by decide) ?_
          refine g_iret (pc := 121) hK hr hlocks dd_X12_set_121 rfl ?_
          first | exact g_fin (hY (by first | omega | (subst_vars; omega) | exact ⟨by first | assumption | omega | (subst_vars; first | assumption | omega), by first | assumption | omega | (subst_vars; first | assumption | omega)⟩)) (by first | rfl | omega | (subst_vars; first | rfl | omega)) (by first | rfl | (rw [ctS_0 (by omega)]) | (rw [ctS_1 (by omega)]) | (rw [ctS_2 (by omega)]) | (rw [ctS_3 (by omega)]) | (rw [ctS_4 (by omega), if_pos (by omega)]) | (rw [ctS_4 (by omega), if_neg (by omega)])) | (exfalso; omega)
      · refine g_aloadn (pc := 33) (i := 0) (x := 200) hK dd_X12_set_33 rfl rfl ?_
        refine g_bipush (pc := 34) (x := (-2)) hK dd_X12_set_34 (by decide) ?_
        refine g_callV (pc := 36) (As := [gI (-2)]) hK ws_M_152 md_X12_no ⟨Nat.zero_le _, Nat.zero_le _⟩ ⟨by decide, by decide⟩ (kdm kd_200) rfl rfl dd_X12_set_36 rfl rfl (Nat.le_of_ble_eq_true rfl) (d_no_2 hrg (g_r1 ?_))
        refine g_iret (pc := 39) hK hr hlocks dd_X12_set_39 rfl ?_
        first | exact g_fin (hB (by first | omega | (subst_vars; omega) | exact ⟨by first | assumption | omega | (subst_vars; first | assumption | omega), by first | assumption | omega | (subst_vars; first | assumption | omega)⟩)) (by first | rfl | omega | (subst_vars; first | rfl | omega)) (by first | rfl | (subst_vars; rfl)) | exact g_fin (hI (by first | omega | (subst_vars; omega) | exact ⟨by first | assumption | omega | (subst_vars; first | assumption | omega), by first | assumption | omega | (subst_vars; first | assumption | omega)⟩)) (by first | rfl | omega | (subst_vars; first | rfl | omega)) (by first | rfl | (subst_vars; rfl)) | (exfalso; omega)
set_option maxHeartbeats 4000000 in
set_option maxRecDepth 100000 in
theorem y_element {l : Launch} {M : Mem} {Pq : Option gV → Mem → Prop} (sf : Int) (i : Int) (h_sf : inI sf) (h_i : inI i) (hho : hoOK M) (hmc : 0 ≤ M 200 3 ∧ M 200 3 ≤ 30) (hB : (¬ ((0 ≤ sf ∧ sf < 8) ∧ 100 ≤ M 201 sf.toNat ∧ 0 ≤ i ∧ i < M 202 sf.toNat)) → Pq (some (gL 0)) M) (hY : ((0 ≤ sf ∧ sf < 8) ∧ 100 ≤ M 201 sf.toNat ∧ 0 ≤ i ∧ i < M 202 sf.toNat) → Pq (some (gL (M 203 (40 * sf + i).toNat))) M) : gCtr l my_X12_element mb_X12_element 3 ((some .long)) 2 [gR 200, gI sf, gI i] M Pq := by
  refine g_intro (by decide) (Nat.le_of_ble_eq_true rfl) ?_
  intro p e s m args below meth c D cy q A hK hr hlocks hw
  refine g_sub (L' := [(0, gR 200), (1, gI sf), (2, gI i)]) [0, 1, 2] rfl ?_
  refine g_aloadn (pc := 0) (i := 0) (x := 200) hK dd_X12_element_0 rfl rfl ?_
  refine g_iloadn (pc := 1) (i := 1) (x := sf) hK dd_X12_element_1 rfl rfl ?_
  refine g_callV (pc := 2) (As := [gI sf]) hK ws_M_148 md_X12_isShelf ⟨Nat.zero_le _, Nat.zero_le _⟩ ⟨by decide, by decide⟩ (kdm kd_200) rfl rfl dd_X12_element_2 rfl rfl (Nat.le_of_ble_eq_true rfl) (d_isShelf sf h_sf (fun c1 => g_r1 ?_) (fun c1 => g_r1 ?_))
  · refine g_if_eq (pc := 5) (tgt := 30) hK dd_X12_element_5 (by decide) (by decide) (fun c2 => absurd c2 (by decide)) (fun _ => ?_)
    refine g_aloadn (pc := 8) (i := 0) (x := 200) hK dd_X12_element_8 rfl rfl ?_
    refine g_iloadn (pc := 9) (i := 1) (x := sf) hK dd_X12_element_9 rfl rfl ?_
    refine g_callV (pc := 10) (As := [gI sf]) hK ws_M_162 md_X12_isRow ⟨Nat.zero_le _, Nat.zero_le _⟩ ⟨by decide, by decide⟩ (kdm kd_200) rfl rfl dd_X12_element_10 rfl rfl (Nat.le_of_ble_eq_true rfl) (d_isRow sf (by omega) (by omega) (fun c3 => g_r1 ?_) (fun c3 => g_r1 ?_))
    · refine g_if_eq (pc := 13) (tgt := 30) hK dd_X12_element_13 (by decide) (by decide) (fun c4 => absurd c4 (by decide)) (fun _ => ?_)
      refine g_iloadn (pc := 16) (i := 2) (x := i) hK dd_X12_element_16 rfl rfl ?_
      refine g_if_lt (pc := 17) (tgt := 30) hK dd_X12_element_17 (by decide) h_i (fun c5 => ?_) (fun c5 => ?_)
      · refine g_lconst (pc := 30) (x := 0) hK dd_X12_element_30 (by decide) ?_
        refine g_lret (pc := 31) hK hr hlocks dd_X12_element_31 ?_
        first | exact g_finL (hB (by first | omega | (subst_vars; omega) | exact ⟨by first | assumption | omega | (subst_vars; first | assumption | omega), by first | assumption | omega | (subst_vars; first | assumption | omega)⟩)) (by first | rfl | omega | (subst_vars; first | rfl | omega)) (by first | rfl | (subst_vars; rfl)) | exact g_finL (hY (by first | omega | (subst_vars; omega) | exact ⟨by first | assumption | omega | (subst_vars; first | assumption | omega), by first | assumption | omega | (subst_vars; first | assumption | omega)⟩)) (by first | rfl | omega | (subst_vars; first | rfl | omega)) (by first | rfl | (subst_vars; rfl)) | (exfalso; omega)
      · refine g_iloadn (pc := 20) (i := 2) (x := i) hK dd_X12_element_20 rfl rfl ?_
        refine g_aloadn (pc := 21) (i := 0) (x := 200) hK dd_X12_element_21 rfl rfl ?_
        refine g_getv (pc := 22) (f := (1, 2)) (j := 1) (v := gR 202) hK (kdm kd_200) rfl ef_12 (by decide) rfl kk_1102 dd_X12_element_22 rfl ?_
        refine g_iloadn (pc := 25) (i := 1) (x := sf) hK dd_X12_element_25 rfl rfl ?_
        refine g_iald (pc := 26) hK (kdm kd_202) nl_202 (by decide) dd_X12_element_26 (by omega) (by omega) (fun x6 ex6 rx6 => ?_)
        refine g_icmp_lt (pc := 27) (tgt := 32) hK dd_X12_element_27 (by decide) h_i rx6 (fun c7 => ?_) (fun c7 => ?_)
        · refine g_aloadn (pc := 32) (i := 0) (x := 200) hK dd_X12_element_32 rfl rfl ?_
          refine g_getv (pc := 33) (f := (1, 3)) (j := 2) (v := gR 203) hK (kdm kd_200) rfl ef_12 (by decide) rfl kk_1103 dd_X12_element_33 rfl ?_
          refine g_bipush (pc := 36) (x := 40) hK dd_X12_element_36 (by decide) ?_
          refine g_iloadn (pc := 38) (i := 1) (x := sf) hK dd_X12_element_38 rfl rfl ?_
          refine g_imul (pc := 39) (z := 40 * sf) hK dd_X12_element_39 rfl ?_
          refine g_iloadn (pc := 40) (i := 2) (x := i) hK dd_X12_element_40 rfl rfl ?_
          refine g_iadd (pc := 41) (z := (40 * sf) + i) hK dd_X12_element_41 rfl ?_
          have hs_ := hho sf.toNat (by omega)
          refine g_lald (pc := 42) hK (kdm kd_203) yl_203 (by decide) dd_X12_element_42 (by omega) (by omega) (fun x8 ex8 rx8 => ?_)
          refine g_lret (pc := 43) hK hr hlocks dd_X12_element_43 ?_
          first | exact g_finL (hB (by first | omega | (subst_vars; omega) | exact ⟨by first | assumption | omega | (subst_vars; first | assumption | omega), by first | assumption | omega | (subst_vars; first | assumption | omega)⟩)) (by first | rfl | omega | (subst_vars; first | rfl | omega)) (by first | rfl | (subst_vars; rfl)) | exact g_finL (hY (by first | omega | (subst_vars; omega) | exact ⟨by first | assumption | omega | (subst_vars; first | assumption | omega), by first | assumption | omega | (subst_vars; first | assumption | omega)⟩)) (by first | rfl | omega | (subst_vars; first | rfl | omega)) (by first | rfl | (subst_vars; rfl)) | (exfalso; omega)
        · refine g_lconst (pc := 30) (x := 0) hK dd_X12_element_30 (by decide) ?_
          refine g_lret (pc := 31) hK hr hlocks dd_X12_element_31 ?_
          first | exact g_finL (hB (by first | omega | (subst_vars; omega) | exact ⟨by first | assumption | omega | (subst_vars; first | assumption | omega), by first | assumption | omega | (subst_vars; first | assumption | omega)⟩)) (by first | rfl | omega | (subst_vars; first | rfl | omega)) (by first | rfl | (subst_vars; rfl)) | exact g_finL (hY (by first | omega | (subst_vars; omega) | exact ⟨by first | assumption | omega | (subst_vars; first | assumption | omega), by first | assumption | omega | (subst_vars; first | assumption | omega)⟩)) (by first | rfl | omega | (subst_vars; first | rfl | omega)) (by first | rfl | (subst_vars; rfl)) | (exfalso; omega)
    · refine g_if_eq (pc := 13) (tgt := 30) hK dd_X12_element_13 (by decide) (by decide) (fun _ => ?_) (fun c9 => absurd (by decide) c9)
      refine g_lconst (pc := 30) (x := 0) hK dd_X12_element_30 (by decide) ?_
      refine g_lret (pc := 31) hK hr hlocks dd_X12_element_31 ?_
      first | exact g_finL (hB (by first | omega | (subst_vars; omega) | exact ⟨by first | assumption | omega | (subst_vars; first | assumption | omega), by first | assumption | omega | (subst_vars; first | assumption | omega)⟩)) (by first | rfl | omega | (subst_vars; first | rfl | omega)) (by first | rfl | (subst_vars; rfl)) | exact g_finL (hY (by first | omega | (subst_vars; omega) | exact ⟨by first | assumption | omega | (subst_vars; first | assumption | omega), by first | assumption | omega | (subst_vars; first | assumption | omega)⟩)) (by first | rfl | omega | (subst_vars; first | rfl | omega)) (by first | rfl | (subst_vars; rfl)) | (exfalso; omega)
  · refine g_if_eq (pc := 5) (tgt := 30) hK dd_X12_element_5 (by decide) (by decide) (fun _ => ?_) (fun c10 => absurd (by decide) c10)
    refine g_lconst (pc := 30) (x := 0) hK dd_X12_element_30 (by decide) ?_
    refine g_lret (pc := 31) hK hr hlocks dd_X12_element_31 ?_
    first | exact g_finL (hB (by first | omega | (subst_vars; omega) | exact ⟨by first | assumption | omega | (subst_vars; first | assumption | omega), by first | assumption | omega | (subst_vars; first | assumption | omega)⟩)) (by first | rfl | omega | (subst_vars; first | rfl | omega)) (by first | rfl | (subst_vars; rfl)) | exact g_finL (hY (by first | omega | (subst_vars; omega) | exact ⟨by first | assumption | omega | (subst_vars; first | assumption | omega), by first | assumption | omega | (subst_vars; first | assumption | omega)⟩)) (by first | rfl | omega | (subst_vars; first | rfl | omega)) (by first | rfl | (subst_vars; rfl)) | (exfalso; omega)
set_option maxHeartbeats 4000000 in
set_option maxRecDepth 100000 in
theorem y_holds {l : Launch} {M : Mem} {Pq : Option gV → Mem → Prop} (sf : Int) (h_sf : inI sf) (hB : (¬ ((0 ≤ sf ∧ sf < 8) ∧ 0 ≤ M 201 sf.toNat)) → Pq (some (gI (-1))) M) (hR : ((0 ≤ sf ∧ sf < 8) ∧ 100 ≤ M 201 sf.toNat) → Pq (some (gI (M 201 sf.toNat - 100))) M) (hT : ((0 ≤ sf ∧ sf < 8) ∧ 0 ≤ M 201 sf.toNat ∧ M 201 sf.toNat < 100) → Pq (some (gI (10 + M 201 sf.toNat))) M) : gCtr l my_X12_holds mb_X12_holds 2 ((some .int)) 2 [gR 200, gI sf] M Pq := by
  refine g_intro (by decide) (Nat.le_of_ble_eq_true rfl) ?_
  intro p e s m args below meth c D cy q A hK hr hlocks hw
  refine g_sub (L' := [(0, gR 200), (1, gI sf)]) [0, 1] rfl ?_
  refine g_aloadn (pc := 0) (i := 0) (x := 200) hK dd_X12_holds_0 rfl rfl ?_
  refine g_iloadn (pc := 1) (i := 1) (x := sf) hK dd_X12_holds_1 rfl rfl ?_
  refine g_callV (pc := 2) (As := [gI sf]) hK ws_M_148 md_X12_isShelf ⟨Nat.zero_le _, Nat.zero_le _⟩ ⟨by decide, by decide⟩ (kdm kd_200) rfl rfl dd_X12_holds_2 rfl rfl (Nat.le_of_ble_eq_true rfl) (d_isShelf sf h_sf (fun c1 => g_r1 ?_) (fun c1 => g_r1 ?_))
  · refine g_if_eq (pc := 5) (tgt := 17) hK dd_X12_holds_5 (by decide) (by decide) (fun c2 => absurd c2 (by decide)) (fun _ => ?_)
    refine g_aloadn (pc := 8) (i := 0) (x := 200) hK dd_X12_holds_8 rfl rfl ?_
    refine g_getv (pc := 9) (f := (1, 1)) (j := 0) (v := gR 201) hK (kdm kd_200) rfl ef_12 (by decide) rfl kk_1101 dd_X12_holds_9 rfl ?_
    refine g_iloadn (pc := 12) (i := 1) (x := sf) hK dd_X12_holds_12 rfl rfl ?_
    refine g_iald (pc := 13) hK (kdm kd_201) nl_201 (by decide) dd_X12_holds_13 (by omega) (by omega) (fun x3 ex3 rx3 => ?_)
    refine g_if_ge (pc := 14) (tgt := 19) hK dd_X12_holds_14 (by decide) rx3 (fun c4 => ?_) (fun c4 => ?_)
    · refine g_aloadn (pc := 19) (i := 0) (x := 200) hK dd_X12_holds_19 rfl rfl ?_
      refine g_iloadn (pc := 20) (i := 1) (x := sf) hK dd_X12_holds_20 rfl rfl ?_
      refine g_callV (pc := 21) (As := [gI sf]) hK ws_M_162 md_X12_isRow ⟨Nat.zero_le _, Nat.zero_le _⟩ ⟨by decide, by decide⟩ (kdm kd_200) rfl rfl dd_X12_holds_21 rfl rfl (Nat.le_of_ble_eq_true rfl) (d_isRow sf (by omega) (by omega) (fun c5 => g_r1 ?_) (fun c5 => g_r1 ?_))
      · refine g_if_eq (pc := 24) (tgt := 39) hK dd_X12_holds_24 (by decide) (by decide) (fun c6 => absurd c6 (by decide)) (fun _ => ?_)
        refine g_aloadn (pc := 27) (i := 0) (x := 200) hK dd_X12_holds_27 rfl rfl ?_
        refine g_getv (pc := 28) (f := (1, 1)) (j := 0) (v := gR 201) hK (kdm kd_200) rfl ef_12 (by decide) rfl kk_1101 dd_X12_holds_28 rfl ?_
        refine g_iloadn (pc := 31) (i := 1) (x := sf) hK dd_X12_holds_31 rfl rfl ?_
        refine g_iald (pc := 32) hK (kdm kd_201) nl_201 (by decide) dd_X12_holds_32 (by omega) (by omega) (fun x7 ex7 rx7 => ?_)
        refine g_bipush (pc := 33) (x := 100) hK dd_X12_holds_33 (by decide) ?_
        refine g_isub (pc := 35) (z := x7 - 100) hK dd_X12_holds_35 rfl ?_
        refine g_goto (pc := 36) (tgt := 48) hK dd_X12_holds_36 (by decide) ?_
        refine g_iret (pc := 48) hK hr hlocks dd_X12_holds_48 rfl ?_
        first | exact g_fin (hB (by first | omega | (subst_vars; omega) | exact ⟨by first | assumption | omega | (subst_vars; first | assumption | omega), by first | assumption | omega | (subst_vars; first | assumption | omega)⟩)) (by first | rfl | omega | (subst_vars; first | rfl | omega)) (by first | rfl | (subst_vars; rfl)) | exact g_fin (hR (by first | omega | (subst_vars; omega) | exact ⟨by first | assumption | omega | (subst_vars; first | assumption | omega), by first | assumption | omega | (subst_vars; first | assumption | omega)⟩)) (by first | rfl | omega | (subst_vars; first | rfl | omega)) (by first | rfl | (subst_vars; rfl)) | exact g_fin (hT (by first | omega | (subst_vars; omega) | exact ⟨by first | assumption | omega | (subst_vars; first | assumption | omega), by first | assumption | omega | (subst_vars; first | assumption | omega)⟩)) (by first | rfl | omega | (subst_vars; first | rfl | omega)) (by first | rfl | (subst_vars; rfl)) | (exfalso; omega)
      · refine g_if_eq (pc := 24) (tgt := 39) hK dd_X12_holds_24 (by decide) (by decide) (fun _ => ?_) (fun c8 => absurd (by decide) c8)
        refine g_bipush (pc := 39) (x := 10) hK dd_X12_holds_39 (by decide) ?_
        refine g_aloadn (pc := 41) (i := 0) (x := 200) hK dd_X12_holds_41 rfl rfl ?_
        refine g_getv (pc := 42) (f := (1, 1)) (j := 0) (v := gR 201) hK (kdm kd_200) rfl ef_12 (by decide) rfl kk_1101 dd_X12_holds_42 rfl ?_
        refine g_iloadn (pc := 45) (i := 1) (x := sf) hK dd_X12_holds_45 rfl rfl ?_
        refine g_iald (pc := 46) hK (kdm kd_201) nl_201 (by decide) dd_X12_holds_46 (by omega) (by omega) (fun x9 ex9 rx9 => ?_)
        refine g_iadd (pc := 47) (z := 10 + x9) hK dd_X12_holds_47 rfl ?_
        refine g_iret (pc := 48) hK hr hlocks dd_X12_holds_48 rfl ?_
        first | exact g_fin (hB (by first | omega | (subst_vars; omega) | exact ⟨by first | assumption | omega | (subst_vars; first | assumption | omega), by first | assumption | omega | (subst_vars; first | assumption | omega)⟩)) (by first | rfl | omega | (subst_vars; first | rfl | omega)) (by first | rfl | (subst_vars; rfl)) | exact g_fin (hR (by first | omega | (subst_vars; omega) | exact ⟨by first | assumption | omega | (subst_vars; first | assumption | omega), by first | assumption | omega | (subst_vars; first | assumption | omega)⟩)) (by first | rfl | omega | (subst_vars; first | rfl | omega)) (by first | rfl | (subst_vars; rfl)) | exact g_fin (hT (by first | omega | (subst_vars; omega) | exact ⟨by first | assumption | omega | (subst_vars; first | assumption | omega), by first | assumption | omega | (subst_vars; first | assumption | omega)⟩)) (by first | rfl | omega | (subst_vars; first | rfl | omega)) (by first | rfl | (subst_vars; rfl)) | (exfalso; omega)
    · refine g_iconst (pc := 17) (x := (-1)) hK dd_X12_holds_17 (by decide) ?_
      refine g_iret (pc := 18) hK hr hlocks dd_X12_holds_18 rfl ?_
      first | exact g_fin (hB (by first | omega | (subst_vars; omega) | exact ⟨by first | assumption | omega | (subst_vars; first | assumption | omega), by first | assumption | omega | (subst_vars; first | assumption | omega)⟩)) (by first | rfl | omega | (subst_vars; first | rfl | omega)) (by first | rfl | (subst_vars; rfl)) | exact g_fin (hR (by first | omega | (subst_vars; omega) | exact ⟨by first | assumption | omega | (subst_vars; first | assumption | omega), by first | assumption | omega | (subst_vars; first | assumption | omega)⟩)) (by first | rfl | omega | (subst_vars; first | rfl | omega)) (by first | rfl | (subst_vars; rfl)) | exact g_fin (hT (by first | omega | (subst_vars; omega) | exact ⟨by first | assumption | omega | (subst_vars; first | assumption | omega), by first | assumption | omega | (subst_vars; first | assumption | omega)⟩)) (by first | rfl | omega | (subst_vars; first | rfl | omega)) (by first | rfl | (subst_vars; rfl)) | (exfalso; omega)
  · refine g_if_eq (pc := 5) (tgt := 17) hK dd_X12_holds_5 (by decide) (by decide) (fun _ => ?_) (fun c10 => absurd (by decide) c10)
    refine g_iconst (pc := 17) (x := (-1)) hK dd_X12_holds_17 (by decide) ?_
    refine g_iret (pc := 18) hK hr hlocks dd_X12_holds_18 rfl ?_
    first | exact g_fin (hB (by first | omega | (subst_vars; omega) | exact ⟨by first | assumption | omega | (subst_vars; first | assumption | omega), by first | assumption | omega | (subst_vars; first | assumption | omega)⟩)) (by first | rfl | omega | (subst_vars; first | rfl | omega)) (by first | rfl | (subst_vars; rfl)) | exact g_fin (hR (by first | omega | (subst_vars; omega) | exact ⟨by first | assumption | omega | (subst_vars; first | assumption | omega), by first | assumption | omega | (subst_vars; first | assumption | omega)⟩)) (by first | rfl | omega | (subst_vars; first | rfl | omega)) (by first | rfl | (subst_vars; rfl)) | exact g_fin (hT (by first | omega | (subst_vars; omega) | exact ⟨by first | assumption | omega | (subst_vars; first | assumption | omega), by first | assumption | omega | (subst_vars; first | assumption | omega)⟩)) (by first | rfl | omega | (subst_vars; first | rfl | omega)) (by first | rfl | (subst_vars; rfl)) | (exfalso; omega)
set_option maxHeartbeats 4000000 in
set_option maxRecDepth 100000 in
theorem y_show {l : Launch} {M : Mem} {Pq : Option gV → Mem → Prop} (sf : Int) (t : Int) (h_sf : inI sf) (h_t : inI t) (hrg : rgOK M) (hB : (¬ ((0 ≤ sf ∧ sf < 8) ∧ (t = -1 ∨ (0 ≤ t ∧ t < M 200 3)))) → Pq (some (gI (-2))) (rg M 2)) (hY : ((0 ≤ sf ∧ sf < 8) ∧ (t = -1 ∨ (0 ≤ t ∧ t < M 200 3))) → Pq (some (gI 1)) (up M 201 sf.toNat t)) : gCtr l my_X12_show mb_X12_show 3 ((some .int)) 2 [gR 200, gI sf, gI t] M Pq := by
  refine g_intro (by decide) (Nat.le_of_ble_eq_true rfl) ?_
  intro p e s m args below meth c D cy q A hK hr hlocks hw
  refine g_sub (L' := [(0, gR 200), (1, gI sf), (2, gI t)]) [0, 1, 2] rfl ?_
  refine g_aloadn (pc := 0) (i := 0) (x := 200) hK dd_X12_show_0 rfl rfl ?_
  refine g_iloadn (pc := 1) (i := 1) (x := sf) hK dd_X12_show_1 rfl rfl ?_
  refine g_callV (pc := 2) (As := [gI sf]) hK ws_M_148 md_X12_isShelf ⟨Nat.zero_le _, Nat.zero_le _⟩ ⟨by decide, by decide⟩ (kdm kd_200) rfl rfl dd_X12_show_2 rfl rfl (Nat.le_of_ble_eq_true rfl) (d_isShelf sf h_sf (fun c1 => g_r1 ?_) (fun c1 => g_r1 ?_))
  · refine g_if_eq (pc := 5) (tgt := 21) hK dd_X12_show_5 (by decide) (by decide) (fun c2 => absurd c2 (by decide)) (fun _ => ?_)
    refine g_iloadn (pc := 8) (i := 2) (x := t) hK dd_X12_show_8 rfl rfl ?_
    refine g_iconst (pc := 9) (x := (-1)) hK dd_X12_show_9 (by decide) ?_
    refine g_icmp_eq (pc := 10) (tgt := 28) hK dd_X12_show_10 (by decide) h_t (by decide) (fun c3 => ?_) (fun c3 => ?_)
    · refine g_aloadn (pc := 28) (i := 0) (x := 200) hK dd_X12_show_28 rfl rfl ?_
      refine g_getv (pc := 29) (f := (1, 1)) (j := 0) (v := gR 201) hK (kdm kd_200) rfl ef_12 (by decide) rfl kk_1101 dd_X12_show_29 rfl ?_
      refine g_iloadn (pc := 32) (i := 1) (x := sf) hK dd_X12_show_32 rfl rfl ?_
      refine g_iloadn (pc := 33) (i := 2) (x := t) hK dd_X12_show_33 rfl rfl ?_
      refine g_iast (pc := 34) hK (kdm kd_201) nl_201 (by decide) (by decide) dd_X12_show_34 (by omega) (by omega) h_t ?_
      refine g_iconst (pc := 35) (x := 1) hK dd_X12_show_35 (by decide) ?_
      refine g_iret (pc := 36) hK hr hlocks dd_X12_show_36 rfl ?_
      first | exact g_fin (hY (by first | omega | (subst_vars; omega) | exact ⟨by first | assumption | omega | (subst_vars; first | assumption | omega), by first | assumption | omega | (subst_vars; first | assumption | omega)⟩)) (by first | rfl | omega | (subst_vars; first | rfl | omega)) (by first | rfl | (subst_vars; rfl)) | (exfalso; omega)
    · refine g_aloadn (pc := 13) (i := 0) (x := 200) hK dd_X12_show_13 rfl rfl ?_
      refine g_iloadn (pc := 14) (i := 2) (x := t) hK dd_X12_show_14 rfl rfl ?_
      refine g_callV (pc := 15) (As := [gI t]) hK ws_M_165 md_X12_isThing ⟨Nat.zero_le _, Nat.zero_le _⟩ ⟨by decide, by decide⟩ (kdm kd_200) rfl rfl dd_X12_show_15 rfl rfl (Nat.le_of_ble_eq_true rfl) (d_isThing t h_t (fun c4 => g_r1 ?_) (fun c4 => g_r1 ?_))
      · refine g_if_ne (pc := 18) (tgt := 28) hK dd_X12_show_18 (by decide) (by decide) (fun _ => ?_) (fun c5 => absurd (by decide) c5)
        refine g_aloadn (pc := 28) (i := 0) (x := 200) hK dd_X12_show_28 rfl rfl ?_
        refine g_getv (pc := 29) (f := (1, 1)) (j := 0) (v := gR 201) hK (kdm kd_200) rfl ef_12 (by decide) rfl kk_1101 dd_X12_show_29 rfl ?_
        refine g_iloadn (pc := 32) (i := 1) (x := sf) hK dd_X12_show_32 rfl rfl ?_
        refine g_iloadn (pc := 33) (i := 2) (x := t) hK dd_X12_show_33 rfl rfl ?_
        refine g_iast (pc := 34) hK (kdm kd_201) nl_201 (by decide) (by decide) dd_X12_show_34 (by omega) (by omega) h_t ?_
        refine g_iconst (pc := 35) (x := 1) hK dd_X12_show_35 (by decide) ?_
        refine g_iret (pc := 36) hK hr hlocks dd_X12_show_36 rfl ?_
        first | exact g_fin (hY (by first | omega | (subst_vars; omega) | exact ⟨by first | assumption | omega | (subst_vars; first | assumption | omega), by first | assumption | omega | (subst_vars; first | assumption | omega)⟩)) (by first | rfl | omega | (subst_vars; first | rfl | omega)) (by first | rfl | (subst_vars; rfl)) | (exfalso; omega)
      · refine g_if_ne (pc := 18) (tgt := 28) hK dd_X12_show_18 (by decide) (by decide) (fun c6 => absurd c6 (by decide)) (fun _ => ?_)
        refine g_aloadn (pc := 21) (i := 0) (x := 200) hK dd_X12_show_21 rfl rfl ?_
        refine g_bipush (pc := 22) (x := (-2)) hK dd_X12_show_22 (by decide) ?_
        refine g_callV (pc := 24) (As := [gI (-2)]) hK ws_M_152 md_X12_no ⟨Nat.zero_le _, Nat.zero_le _⟩ ⟨by decide, by decide⟩ (kdm kd_200) rfl rfl dd_X12_show_24 rfl rfl (Nat.le_of_ble_eq_true rfl) (d_no_2 hrg (g_r1 ?_))
        refine g_iret (pc := 27) hK hr hlocks dd_X12_show_27 rfl ?_
        first | exact g_fin (hB (by first | omega | (subst_vars; omega) | exact ⟨by first | assumption | omega | (subst_vars; first | assumption | omega), by first | assumption | omega | (subst_vars; first | assumption | omega)⟩)) (by first | rfl | omega | (subst_vars; first | rfl | omega)) (by first | rfl | (subst_vars; rfl)) | (exfalso; omega)
  · refine g_if_eq (pc := 5) (tgt := 21) hK dd_X12_show_5 (by decide) (by decide) (fun _ => ?_) (fun c7 => absurd (by decide) c7)
    refine g_aloadn (pc := 21) (i := 0) (x := 200) hK dd_X12_show_21 rfl rfl ?_
    refine g_bipush (pc := 22) (x := (-2)) hK dd_X12_show_22 (by decide) ?_
    refine g_callV (pc := 24) (As := [gI (-2)]) hK ws_M_152 md_X12_no ⟨Nat.zero_le _, Nat.zero_le _⟩ ⟨by decide, by decide⟩ (kdm kd_200) rfl rfl dd_X12_show_24 rfl rfl (Nat.le_of_ble_eq_true rfl) (d_no_2 hrg (g_r1 ?_))
    refine g_iret (pc := 27) hK hr hlocks dd_X12_show_27 rfl ?_
    first | exact g_fin (hB (by first | omega | (subst_vars; omega) | exact ⟨by first | assumption | omega | (subst_vars; first | assumption | omega), by first | assumption | omega | (subst_vars; first | assumption | omega)⟩)) (by first | rfl | omega | (subst_vars; first | rfl | omega)) (by first | rfl | (subst_vars; rfl)) | (exfalso; omega)
set_option maxHeartbeats 4000000 in
set_option maxRecDepth 100000 in
theorem d_isUnder {l : Launch} {M : Mem} {Pq : Option gV → Mem → Prop} (k : Int) (a : Int) (h1 : inI k) (h2 : inI a) (hT : (undr k a) → Pq (some (gI 1)) M) (hF : ¬ (undr k a) → Pq (some (gI 0)) M) : gCtr l my_X12_isUnder mb_X12_isUnder 3 ((some .boolean)) 1 [gR 200, gI k, gI a] M Pq := by
  refine g_intro (by decide) (Nat.le_of_ble_eq_true rfl) ?_
  intro p e s m args below meth c D cy q A hK hr hlocks hw
  refine g_sub (L' := [(0, gR 200), (1, gI k), (2, gI a)]) [0, 1, 2] rfl ?_
  refine g_iloadn (pc := 0) (i := 2) (x := a) hK dd_X12_isUnder_0 rfl rfl ?_
  refine g_if_eq (pc := 1) (tgt := 9) hK dd_X12_isUnder_1 (by decide) h2 (fun c1 => ?_) (fun c1 => ?_)
  · refine g_iconst (pc := 9) (x := 1) hK dd_X12_isUnder_9 (by decide) ?_
    refine g_iret (pc := 10) hK hr hlocks dd_X12_isUnder_10 rfl ?_
    exact g_finM (hT (by unfold undr; omega)) (by first | rfl | (subst_vars; rfl))
  · refine g_iloadn (pc := 4) (i := 1) (x := k) hK dd_X12_isUnder_4 rfl rfl ?_
    refine g_iloadn (pc := 5) (i := 2) (x := a) hK dd_X12_isUnder_5 rfl rfl ?_
    refine g_icmp_ne (pc := 6) (tgt := 11) hK dd_X12_isUnder_6 (by decide) h1 h2 (fun c2 => ?_) (fun c2 => ?_)
    · refine g_iloadn (pc := 11) (i := 2) (x := a) hK dd_X12_isUnder_11 rfl rfl ?_
      refine g_iconst (pc := 12) (x := 1) hK dd_X12_isUnder_12 (by decide) ?_
      refine g_icmp_ne (pc := 13) (tgt := 32) hK dd_X12_isUnder_13 (by decide) h2 (by decide) (fun c3 => ?_) (fun c3 => ?_)
      · refine g_iloadn (pc := 32) (i := 2) (x := a) hK dd_X12_isUnder_32 rfl rfl ?_
        refine g_iconst (pc := 33) (x := 2) hK dd_X12_isUnder_33 (by decide) ?_
        refine g_icmp_ne (pc := 34) (tgt := 46) hK dd_X12_isUnder_34 (by decide) h2 (by decide) (fun c4 => ?_) (fun c4 => ?_)
        · refine g_iconst (pc := 46) (x := 0) hK dd_X12_isUnder_46 (by decide) ?_
          refine g_iret (pc := 47) hK hr hlocks dd_X12_isUnder_47 rfl ?_
          exact g_finM (hF (by unfold undr; omega)) (by first | rfl | (subst_vars; rfl))
        · refine g_iloadn (pc := 37) (i := 1) (x := k) hK dd_X12_isUnder_37 rfl rfl ?_
          refine g_iconst (pc := 38) (x := 3) hK dd_X12_isUnder_38 (by decide) ?_
          refine g_icmp_ne (pc := 39) (tgt := 46) hK dd_X12_isUnder_39 (by decide) h1 (by decide) (fun c5 => ?_) (fun c5 => ?_)
          · refine g_iconst (pc := 46) (x := 0) hK dd_X12_isUnder_46 (by decide) ?_
            refine g_iret (pc := 47) hK hr hlocks dd_X12_isUnder_47 rfl ?_
            exact g_finM (hF (by unfold undr; omega)) (by first | rfl | (subst_vars; rfl))
          · refine g_iconst (pc := 42) (x := 1) hK dd_X12_isUnder_42 (by decide) ?_
            refine g_goto (pc := 43) (tgt := 47) hK dd_X12_isUnder_43 (by decide) ?_
            refine g_iret (pc := 47) hK hr hlocks dd_X12_isUnder_47 rfl ?_
            exact g_finM (hT (by unfold undr; omega)) (by first | rfl | (subst_vars; rfl))
      · refine g_iloadn (pc := 16) (i := 1) (x := k) hK dd_X12_isUnder_16 rfl rfl ?_
        refine g_iconst (pc := 17) (x := 2) hK dd_X12_isUnder_17 (by decide) ?_
        refine g_icmp_eq (pc := 18) (tgt := 26) hK dd_X12_isUnder_18 (by decide) h1 (by decide) (fun c6 => ?_) (fun c6 => ?_)
        · refine g_iconst (pc := 26) (x := 1) hK dd_X12_isUnder_26 (by decide) ?_
          refine g_goto (pc := 27) (tgt := 31) hK dd_X12_isUnder_27 (by decide) ?_
          refine g_iret (pc := 31) hK hr hlocks dd_X12_isUnder_31 rfl ?_
          exact g_finM (hT (by unfold undr; omega)) (by first | rfl | (subst_vars; rfl))
        · refine g_iloadn (pc := 21) (i := 1) (x := k) hK dd_X12_isUnder_21 rfl rfl ?_
          refine g_iconst (pc := 22) (x := 3) hK dd_X12_isUnder_22 (by decide) ?_
          refine g_icmp_ne (pc := 23) (tgt := 30) hK dd_X12_isUnder_23 (by decide) h1 (by decide) (fun c7 => ?_) (fun c7 => ?_)
          · refine g_iconst (pc := 30) (x := 0) hK dd_X12_isUnder_30 (by decide) ?_
            refine g_iret (pc := 31) hK hr hlocks dd_X12_isUnder_31 rfl ?_
            exact g_finM (hF (by unfold undr; omega)) (by first | rfl | (subst_vars; rfl))
          · refine g_iconst (pc := 26) (x := 1) hK dd_X12_isUnder_26 (by decide) ?_
            refine g_goto (pc := 27) (tgt := 31) hK dd_X12_isUnder_27 (by decide) ?_
            refine g_iret (pc := 31) hK hr hlocks dd_X12_isUnder_31 rfl ?_
            exact g_finM (hT (by unfold undr; omega)) (by first | rfl | (subst_vars; rfl))
    · refine g_iconst (pc := 9) (x := 1) hK dd_X12_isUnder_9 (by decide) ?_
      refine g_iret (pc := 10) hK hr hlocks dd_X12_isUnder_10 rfl ?_
      exact g_finM (hT (by unfold undr; omega)) (by first | rfl | (subst_vars; rfl))
set_option maxHeartbeats 4000000 in
set_option maxRecDepth 100000 in
theorem d_chipsOf {l : Launch} {M : Mem} {Pq : Option gV → Mem → Prop} (t : Int) (h1 : 0 ≤ t) (h2 : t < 30) (hQ : Pq (some (gI (bc8 (M 207 t.toNat)))) M) : gCtr l my_X12_chipsOf mb_X12_chipsOf 4 ((some .int)) 2 [gR 200, gI t] M Pq := by
  refine g_intro (by decide) (Nat.le_of_ble_eq_true rfl) ?_
  intro p e s m args below meth c D cy q A hK hr hlocks hw
  refine g_sub (L' := [(0, gR 200), (1, gI t)]) [0, 1] rfl ?_
  refine g_iconst (pc := 0) (x := 0) hK dd_X12_chipsOf_0 (by decide) ?_
  refine g_istoren (pc := 1) (i := 2) (L' := [(0, gR 200), (1, gI t), (2, gI 0)]) hK dd_X12_chipsOf_1 rfl (by decide) rfl ?_
  refine g_iconst (pc := 2) (x := 0) hK dd_X12_chipsOf_2 (by decide) ?_
  refine g_istoren (pc := 3) (i := 3) (L' := [(0, gR 200), (1, gI t), (2, gI 0), (3, gI 0)]) hK dd_X12_chipsOf_3 rfl (by decide) rfl ?_
  have lp3 : ∀ (n1 : Nat) (n : Int) (ci : Int), (0 ≤ ci ∧ ci ≤ 8) → (n = cnt8 (M 207 t.toNat) ci.toNat) → (8 - ci).toNat < n1 → G p l e (rmD 2) s m args below meth c D cy q A 0 0 4 (MQ below (gQc D cy q A Pq) args s 0 0 A) 4 [(0, gR 200), (1, gI t), (2, gI n), (3, gI ci)] [] M := by
    intro n1
    induction n1 with
    | zero => intro n ci iv4 iv5 hm6; exact absurd hm6 (Nat.not_lt_zero _)
    | succ n1 ih2 =>
      intro n ci iv4 iv5 hm6
      have hcn := cnt8_in (M 207 t.toNat) ci.toNat
      refine g_iloadn (pc := 4) (i := 3) (x := ci) hK dd_X12_chipsOf_4 rfl rfl ?_
      refine g_bipush (pc := 5) (x := 8) hK dd_X12_chipsOf_5 (by decide) ?_
      refine g_icmp_ge (pc := 7) (tgt := 33) hK dd_X12_chipsOf_7 (by decide) ⟨by omega, by omega⟩ (by decide) (fun c7 => ?_) (fun c7 => ?_)
      · refine g_iloadn (pc := 33) (i := 2) (x := n) hK dd_X12_chipsOf_33 rfl rfl ?_
        refine g_iret (pc := 34) hK hr hlocks dd_X12_chipsOf_34 rfl ?_
        exact g_fin hQ (by (have h8 := cnt8_8 (M 207 t.toNat); rw [show (8 : Nat) = ci.toNat by omega] at h8; omega)) (by first | rfl | (subst_vars; rfl))
      · refine g_aloadn (pc := 10) (i := 0) (x := 200) hK dd_X12_chipsOf_10 rfl rfl ?_
        refine g_aloadn (pc := 11) (i := 0) (x := 200) hK dd_X12_chipsOf_11 rfl rfl ?_
        refine g_getv (pc := 12) (f := (1, 7)) (j := 6) (v := gR 207) hK (kdm kd_200) rfl ef_12 (by decide) rfl kk_1107 dd_X12_chipsOf_12 rfl ?_
        refine g_iloadn (pc := 15) (i := 1) (x := t) hK dd_X12_chipsOf_15 rfl rfl ?_
        refine g_iald (pc := 16) hK (kdm kd_207) nl_207 (by decide) dd_X12_chipsOf_16 (by omega) (by omega) (fun x8 ex8 rx8 => ?_)
        refine g_iloadn (pc := 17) (i := 3) (x := ci) hK dd_X12_chipsOf_17 rfl rfl ?_
        refine g_callV (pc := 18) (As := [gI x8, gI ci]) hK ws_M_181 md_X12_isOf ⟨Nat.zero_le _, Nat.zero_le _⟩ ⟨by decide, by decide⟩ (kdm kd_200) rfl rfl dd_X12_chipsOf_18 rfl rfl (Nat.le_of_ble_eq_true rfl) (d_isOf x8 ci (fun c9 => g_r1 ?_) (fun c9 => g_r1 ?_))
        · refine g_if_eq (pc := 21) (tgt := 27) hK dd_X12_chipsOf_21 (by decide) (by decide) (fun c10 => absurd c10 (by decide)) (fun _ => ?_)
          refine g_iinc (pc := 24) (i := 2) (y := n + 1) (L' := [(0, gR 200), (1, gI t), (2, gI (n + 1)), (3, gI ci)]) hK dd_X12_chipsOf_24 rfl rfl (by decide) rfl ?_
          refine g_iinc (pc := 27) (i := 3) (y := ci + 1) (L' := [(0, gR 200), (1, gI t), (2, gI (n + 1)), (3, gI (ci + 1))]) hK dd_X12_chipsOf_27 rfl rfl (by decide) rfl ?_
          refine g_goto (pc := 30) (tgt := 4) hK dd_X12_chipsOf_30 (by decide) ?_
          refine g_sub (L' := [(0, gR 200), (1, gI t), (2, gI (n + 1)), (3, gI (ci + 1))]) [0, 1, 2, 3] rfl ?_
          exact ih2 (n + 1) (ci + 1) (by omega) (by subst_vars; rw [tn1 (by omega)]; simp only [cnt8]; rw [show ((ci.toNat : Nat) : Int) = ci by omega]; first | (rw [if_pos (by assumption)]) | (rw [if_neg (by assumption)]; omega)) (by omega)
        · refine g_if_eq (pc := 21) (tgt := 27) hK dd_X12_chipsOf_21 (by decide) (by decide) (fun _ => ?_) (fun c11 => absurd (by decide) c11)
          refine g_iinc (pc := 27) (i := 3) (y := ci + 1) (L' := [(0, gR 200), (1, gI t), (2, gI n), (3, gI (ci + 1))]) hK dd_X12_chipsOf_27 rfl rfl (by decide) rfl ?_
          refine g_goto (pc := 30) (tgt := 4) hK dd_X12_chipsOf_30 (by decide) ?_
          refine g_sub (L' := [(0, gR 200), (1, gI t), (2, gI n), (3, gI (ci + 1))]) [0, 1, 2, 3] rfl ?_
          exact ih2 n (ci + 1) (by omega) (by subst_vars; rw [tn1 (by omega)]; simp only [cnt8]; rw [show ((ci.toNat : Nat) : Int) = ci by omega]; first | (rw [if_pos (by assumption)]) | (rw [if_neg (by assumption)]; omega)) (by omega)
  refine g_sub (L' := [(0, gR 200), (1, gI t), (2, gI 0), (3, gI 0)]) [0, 1, 2, 3] rfl ?_
  exact lp3 _ 0 0 (by omega) (rfl) (Nat.lt_succ_self _)
set_option maxHeartbeats 4000000 in
set_option maxRecDepth 100000 in
theorem d_trueWorth {l : Launch} {M : Mem} {Pq : Option gV → Mem → Prop} (t : Int) (h1 : 0 ≤ t) (h2 : t < 30) (hthm : thOKm M) (hQ : Pq (some (gI (TW (M 205 t.toNat) (M 206 t.toNat) (M 207 t.toNat)))) M) : gCtr l my_X12_trueWorth mb_X12_trueWorth 5 ((some .int)) 3 [gR 200, gI t] M Pq := by
  refine g_intro (by decide) (Nat.le_of_ble_eq_true rfl) ?_
  intro p e s m args below meth c D cy q A hK hr hlocks hw
  refine g_sub (L' := [(0, gR 200), (1, gI t)]) [0, 1] rfl ?_
  have hk := (hthm t.toNat (by omega)).1
  have hwt := (hthm t.toNat (by omega)).2.1
  have hb8 := bc8_in (M 207 t.toNat)
  have hmb := mulb (a := (M 206 t.toNat).tdiv 10) (b := bc8 (M 207 t.toNat)) (td_in (by omega) 10 (by decide)).1 (by have := (td_in (w := M 206 t.toNat) (by omega) 10 (by decide)).2; omega) hb8.1 hb8.2
  have hmc := Int.mul_comm (bc8 (M 207 t.toNat)) ((M 206 t.toNat).tdiv 10)
  refine g_aloadn (pc := 0) (i := 0) (x := 200) hK dd_X12_trueWorth_0 rfl rfl ?_
  refine g_getv (pc := 1) (f := (1, 5)) (j := 4) (v := gR 205) hK (kdm kd_200) rfl ef_12 (by decide) rfl kk_1105 dd_X12_trueWorth_1 rfl ?_
  refine g_iloadn (pc := 4) (i := 1) (x := t) hK dd_X12_trueWorth_4 rfl rfl ?_
  refine g_iald (pc := 5) hK (kdm kd_205) nl_205 (by decide) dd_X12_trueWorth_5 (by omega) (by omega) (fun x1 ex1 rx1 => ?_)
  refine g_istoren (pc := 6) (i := 2) (L' := [(0, gR 200), (1, gI t), (2, gI x1)]) hK dd_X12_trueWorth_6 rfl (by decide) rfl ?_
  refine g_aloadn (pc := 7) (i := 0) (x := 200) hK dd_X12_trueWorth_7 rfl rfl ?_
  refine g_getv (pc := 8) (f := (1, 6)) (j := 5) (v := gR 206) hK (kdm kd_200) rfl ef_12 (by decide) rfl kk_1106 dd_X12_trueWorth_8 rfl ?_
  refine g_iloadn (pc := 11) (i := 1) (x := t) hK dd_X12_trueWorth_11 rfl rfl ?_
  refine g_iald (pc := 12) hK (kdm kd_206) nl_206 (by decide) dd_X12_trueWorth_12 (by omega) (by omega) (fun x2 ex2 rx2 => ?_)
  refine g_istoren (pc := 13) (i := 3) (L' := [(0, gR 200), (1, gI t), (2, gI x1), (3, gI x2)]) hK dd_X12_trueWorth_13 rfl (by decide) rfl ?_
  refine g_iloadn (pc := 14) (i := 2) (x := x1) hK dd_X12_trueWorth_14 rfl rfl ?_
  refine g_if_eq (pc := 15) (tgt := 23) hK dd_X12_trueWorth_15 (by decide) rx1 (fun c3 => ?_) (fun c3 => ?_)
  · refine g_iloadn (pc := 23) (i := 3) (x := x2) hK dd_X12_trueWorth_23 rfl rfl ?_
    refine g_iret (pc := 24) hK hr hlocks dd_X12_trueWorth_24 rfl ?_
    exact g_fin hQ (by subst_vars; first | (rw [TW_0 (by omega)]) | (rw [TW_4 (by omega)]; first | rw [if_pos (by omega)] | rw [if_neg (by omega)]) | (rw [TW_1 (by omega), hv]) | (rw [TW_2 (by omega), hv]; unfold asV; first | (rw [if_pos (by assumption)]; done) | (rw [if_neg (by assumption)]; done) | (rw [if_pos (by assumption)]; rfl)) | (rw [TW_3 (by omega), hv]; unfold asV lidW; (first | rw [if_pos (by assumption)] | rw [if_neg (by assumption)]); (first | rw [if_pos (by assumption)] | rw [if_neg (by assumption)]); first | rfl | omega | done)) (by first | rfl | (subst_vars; rfl))
  · refine g_iloadn (pc := 18) (i := 2) (x := x1) hK dd_X12_trueWorth_18 rfl rfl ?_
    refine g_iconst (pc := 19) (x := 5) hK dd_X12_trueWorth_19 (by decide) ?_
    refine g_icmp_ne (pc := 20) (tgt := 25) hK dd_X12_trueWorth_20 (by decide) rx1 (by decide) (fun c4 => ?_) (fun c4 => ?_)
    · refine g_iloadn (pc := 25) (i := 2) (x := x1) hK dd_X12_trueWorth_25 rfl rfl ?_
      refine g_iconst (pc := 26) (x := 4) hK dd_X12_trueWorth_26 (by decide) ?_
      refine g_icmp_ne (pc := 27) (tgt := 45) hK dd_X12_trueWorth_27 (by decide) rx1 (by decide) (fun c5 => ?_) (fun c5 => ?_)
      · refine g_iloadn (pc := 45) (i := 3) (x := x2) hK dd_X12_trueWorth_45 rfl rfl ?_
        refine g_aloadn (pc := 46) (i := 0) (x := 200) hK dd_X12_trueWorth_46 rfl rfl ?_
        refine g_iloadn (pc := 47) (i := 1) (x := t) hK dd_X12_trueWorth_47 rfl rfl ?_
        refine g_callV (pc := 48) (As := [gI t]) hK ws_M_178 md_X12_chipsOf ⟨Nat.zero_le _, Nat.zero_le _⟩ ⟨by decide, by decide⟩ (kdm kd_200) rfl rfl dd_X12_trueWorth_48 rfl rfl (Nat.le_of_ble_eq_true rfl) (d_chipsOf t (by omega) (by omega) (g_r1 ?_))
        refine g_topI (fun y6 ey6 => ?_)
        refine g_iloadn (pc := 51) (i := 3) (x := x2) hK dd_X12_trueWorth_51 rfl rfl ?_
        refine g_bipush (pc := 52) (x := 10) hK dd_X12_trueWorth_52 (by decide) ?_
        refine g_idiv (pc := 54) (z := x2.tdiv 10) hK dd_X12_trueWorth_54 rx2 (by decide) (by decide) rfl ?_
        have hm_ := mulb (a := x2.tdiv 10) (b := y6) (by subst_vars; exact (td_in (by omega) 10 (by decide)).1) (by have := (td_in (w := M 206 t.toNat) (by omega) 10 (by decide)).2; subst_vars; omega) (by omega) (by omega)
        have hmc2 := Int.mul_comm (x2.tdiv 10) (y6)
        refine g_imul (pc := 55) (z := y6 * (x2.tdiv 10)) hK dd_X12_trueWorth_55 rfl ?_
        refine g_isub (pc := 56) (z := x2 - (y6 * (x2.tdiv 10))) hK dd_X12_trueWorth_56 rfl ?_
        refine g_istore (pc := 57) (i := 4) (L' := [(0, gR 200), (1, gI t), (2, gI x1), (3, gI x2), (4, gI (x2 - (y6 * (x2.tdiv 10))))]) hK dd_X12_trueWorth_57 (by decide) rfl ?_
        refine g_iload (pc := 59) (i := 4) (x := x2 - (y6 * (x2.tdiv 10))) hK dd_X12_trueWorth_59 rfl ?_
        refine g_if_ge (pc := 61) (tgt := 67) hK dd_X12_trueWorth_61 (by decide) ⟨by omega, by omega⟩ (fun c7 => ?_) (fun c7 => ?_)
        · have hv : chW (M 206 t.toNat) (M 207 t.toNat) = x2 - (y6 * (x2.tdiv 10)) := by unfold chW; have hmc := Int.mul_comm (bc8 (M 207 t.toNat)) ((M 206 t.toNat).tdiv 10); subst_vars; split <;> omega
          refine g_iloadn (pc := 67) (i := 2) (x := x1) hK dd_X12_trueWorth_67 rfl rfl ?_
          refine g_iconst (pc := 68) (x := 1) hK dd_X12_trueWorth_68 (by decide) ?_
          refine g_icmp_ne (pc := 69) (tgt := 75) hK dd_X12_trueWorth_69 (by decide) rx1 (by decide) (fun c8 => ?_) (fun c8 => ?_)
          · refine g_aloadn (pc := 75) (i := 0) (x := 200) hK dd_X12_trueWorth_75 rfl rfl ?_
            refine g_aloadn (pc := 76) (i := 0) (x := 200) hK dd_X12_trueWorth_76 rfl rfl ?_
            refine g_getv (pc := 77) (f := (1, 7)) (j := 6) (v := gR 207) hK (kdm kd_200) rfl ef_12 (by decide) rfl kk_1107 dd_X12_trueWorth_77 rfl ?_
            refine g_iloadn (pc := 80) (i := 1) (x := t) hK dd_X12_trueWorth_80 rfl rfl ?_
            refine g_iald (pc := 81) hK (kdm kd_207) nl_207 (by decide) dd_X12_trueWorth_81 (by omega) (by omega) (fun x9 ex9 rx9 => ?_)
            refine g_iconst (pc := 82) (x := 0) hK dd_X12_trueWorth_82 (by decide) ?_
            refine g_callV (pc := 83) (As := [gI x9, gI 0]) hK ws_M_181 md_X12_isOf ⟨Nat.zero_le _, Nat.zero_le _⟩ ⟨by decide, by decide⟩ (kdm kd_200) rfl rfl dd_X12_trueWorth_83 rfl rfl (Nat.le_of_ble_eq_true rfl) (d_isOf x9 0 (fun c10 => g_r1 ?_) (fun c10 => g_r1 ?_))
            · refine g_if_eq (pc := 86) (tgt := 95) hK dd_X12_trueWorth_86 (by decide) (by decide) (fun c11 => absurd c11 (by decide)) (fun _ => ?_)
              refine g_iload (pc := 89) (i := 4) (x := x2 - (y6 * (x2.tdiv 10))) hK dd_X12_trueWorth_89 rfl ?_
              refine g_iconst (pc := 91) (x := 2) hK dd_X12_trueWorth_91 (by decide) ?_
              refine g_idiv (pc := 92) (z := (x2 - (y6 * (x2.tdiv 10))).tdiv 2) hK dd_X12_trueWorth_92 ⟨by omega, by omega⟩ (by decide) (by decide) rfl ?_
              refine g_istore (pc := 93) (i := 4) (L' := [(0, gR 200), (1, gI t), (2, gI x1), (3, gI x2), (4, gI ((x2 - (y6 * (x2.tdiv 10))).tdiv 2))]) hK dd_X12_trueWorth_93 (by decide) rfl ?_
              refine g_iloadn (pc := 95) (i := 2) (x := x1) hK dd_X12_trueWorth_95 rfl rfl ?_
              refine g_iconst (pc := 96) (x := 3) hK dd_X12_trueWorth_96 (by decide) ?_
              refine g_icmp_ne (pc := 97) (tgt := 118) hK dd_X12_trueWorth_97 (by decide) rx1 (by decide) (fun c12 => ?_) (fun c12 => ?_)
              · refine g_iload (pc := 118) (i := 4) (x := (x2 - (y6 * (x2.tdiv 10))).tdiv 2) hK dd_X12_trueWorth_118 rfl ?_
                refine g_iret (pc := 120) hK hr hlocks dd_X12_trueWorth_120 rfl ?_
                exact g_fin hQ (by subst_vars; first | (rw [TW_0 (by omega)]) | (rw [TW_4 (by omega)]; first | rw [if_pos (by omega)] | rw [if_neg (by omega)]) | (rw [TW_1 (by omega), hv]) | (rw [TW_2 (by omega), hv]; unfold asV; first | (rw [if_pos (by assumption)]; done) | (rw [if_neg (by assumption)]; done) | (rw [if_pos (by assumption)]; rfl)) | (rw [TW_3 (by omega), hv]; unfold asV lidW; (first | rw [if_pos (by assumption)] | rw [if_neg (by assumption)]); (first | rw [if_pos (by assumption)] | rw [if_neg (by assumption)]); first | rfl | omega | done)) (by first | rfl | (subst_vars; rfl))
              · refine g_aloadn (pc := 100) (i := 0) (x := 200) hK dd_X12_trueWorth_100 rfl rfl ?_
                refine g_aloadn (pc := 101) (i := 0) (x := 200) hK dd_X12_trueWorth_101 rfl rfl ?_
                refine g_getv (pc := 102) (f := (1, 7)) (j := 6) (v := gR 207) hK (kdm kd_200) rfl ef_12 (by decide) rfl kk_1107 dd_X12_trueWorth_102 rfl ?_
                refine g_iloadn (pc := 105) (i := 1) (x := t) hK dd_X12_trueWorth_105 rfl rfl ?_
                refine g_iald (pc := 106) hK (kdm kd_207) nl_207 (by decide) dd_X12_trueWorth_106 (by omega) (by omega) (fun x13 ex13 rx13 => ?_)
                refine g_bipush (pc := 107) (x := 7) hK dd_X12_trueWorth_107 (by decide) ?_
                refine g_callV (pc := 109) (As := [gI x13, gI 7]) hK ws_M_181 md_X12_isOf ⟨Nat.zero_le _, Nat.zero_le _⟩ ⟨by decide, by decide⟩ (kdm kd_200) rfl rfl dd_X12_trueWorth_109 rfl rfl (Nat.le_of_ble_eq_true rfl) (d_isOf x13 7 (fun c14 => g_r1 ?_) (fun c14 => g_r1 ?_))
                · refine g_if_ne (pc := 112) (tgt := 118) hK dd_X12_trueWorth_112 (by decide) (by decide) (fun _ => ?_) (fun c15 => absurd (by decide) c15)
                  refine g_iload (pc := 118) (i := 4) (x := (x2 - (y6 * (x2.tdiv 10))).tdiv 2) hK dd_X12_trueWorth_118 rfl ?_
                  refine g_iret (pc := 120) hK hr hlocks dd_X12_trueWorth_120 rfl ?_
                  exact g_fin hQ (by subst_vars; first | (rw [TW_0 (by omega)]) | (rw [TW_4 (by omega)]; first | rw [if_pos (by omega)] | rw [if_neg (by omega)]) | (rw [TW_1 (by omega), hv]) | (rw [TW_2 (by omega), hv]; unfold asV; first | (rw [if_pos (by assumption)]; done) | (rw [if_neg (by assumption)]; done) | (rw [if_pos (by assumption)]; rfl)) | (rw [TW_3 (by omega), hv]; unfold asV lidW; (first | rw [if_pos (by assumption)] | rw [if_neg (by assumption)]); (first | rw [if_pos (by assumption)] | rw [if_neg (by assumption)]); first | rfl | omega | done)) (by first | rfl | (subst_vars; rfl))
                · refine g_if_ne (pc := 112) (tgt := 118) hK dd_X12_trueWorth_112 (by decide) (by decide) (fun c16 => absurd c16 (by decide)) (fun _ => ?_)
                  refine g_iinc (pc := 115) (i := 4) (y := ((x2 - (y6 * (x2.tdiv 10))).tdiv 2) + 50) (L' := [(0, gR 200), (1, gI t), (2, gI x1), (3, gI x2), (4, gI (((x2 - (y6 * (x2.tdiv 10))).tdiv 2) + 50))]) hK dd_X12_trueWorth_115 rfl rfl (by decide) rfl ?_
                  refine g_iload (pc := 118) (i := 4) (x := ((x2 - (y6 * (x2.tdiv 10))).tdiv 2) + 50) hK dd_X12_trueWorth_118 rfl ?_
                  refine g_iret (pc := 120) hK hr hlocks dd_X12_trueWorth_120 rfl ?_
                  exact g_fin hQ (by subst_vars; first | (rw [TW_0 (by omega)]) | (rw [TW_4 (by omega)]; first | rw [if_pos (by omega)] | rw [if_neg (by omega)]) | (rw [TW_1 (by omega), hv]) | (rw [TW_2 (by omega), hv]; unfold asV; first | (rw [if_pos (by assumption)]; done) | (rw [if_neg (by assumption)]; done) | (rw [if_pos (by assumption)]; rfl)) | (rw [TW_3 (by omega), hv]; unfold asV lidW; (first | rw [if_pos (by assumption)] | rw [if_neg (by assumption)]); (first | rw [if_pos (by assumption)] | rw [if_neg (by assumption)]); first | rfl | omega | done)) (by first | rfl | (subst_vars; rfl))
            · refine g_if_eq (pc := 86) (tgt := 95) hK dd_X12_trueWorth_86 (by decide) (by decide) (fun _ => ?_) (fun c17 => absurd (by decide) c17)
              refine g_iloadn (pc := 95) (i := 2) (x := x1) hK dd_X12_trueWorth_95 rfl rfl ?_
              refine g_iconst (pc := 96) (x := 3) hK dd_X12_trueWorth_96 (by decide) ?_
              refine g_icmp_ne (pc := 97) (tgt := 118) hK dd_X12_trueWorth_97 (by decide) rx1 (by decide) (fun c18 => ?_) (fun c18 => ?_)
              · refine g_iload (pc := 118) (i := 4) (x := x2 - (y6 * (x2.tdiv 10))) hK dd_X12_trueWorth_118 rfl ?_
                refine g_iret (pc := 120) hK hr hlocks dd_X12_trueWorth_120 rfl ?_
                exact g_fin hQ (by subst_vars; first | (rw [TW_0 (by omega)]) | (rw [TW_4 (by omega)]; first | rw [if_pos (by omega)] | rw [if_neg (by omega)]) | (rw [TW_1 (by omega), hv]) | (rw [TW_2 (by omega), hv]; unfold asV; first | (rw [if_pos (by assumption)]; done) | (rw [if_neg (by assumption)]; done) | (rw [if_pos (by assumption)]; rfl)) | (rw [TW_3 (by omega), hv]; unfold asV lidW; (first | rw [if_pos (by assumption)] | rw [if_neg (by assumption)]); (first | rw [if_pos (by assumption)] | rw [if_neg (by assumption)]); first | rfl | omega | done)) (by first | rfl | (subst_vars; rfl))
              · refine g_aloadn (pc := 100) (i := 0) (x := 200) hK dd_X12_trueWorth_100 rfl rfl ?_
                refine g_aloadn (pc := 101) (i := 0) (x := 200) hK dd_X12_trueWorth_101 rfl rfl ?_
                refine g_getv (pc := 102) (f := (1, 7)) (j := 6) (v := gR 207) hK (kdm kd_200) rfl ef_12 (by decide) rfl kk_1107 dd_X12_trueWorth_102 rfl ?_
                refine g_iloadn (pc := 105) (i := 1) (x := t) hK dd_X12_trueWorth_105 rfl rfl ?_
                refine g_iald (pc := 106) hK (kdm kd_207) nl_207 (by decide) dd_X12_trueWorth_106 (by omega) (by omega) (fun x19 ex19 rx19 => ?_)
                refine g_bipush (pc := 107) (x := 7) hK dd_X12_trueWorth_107 (by decide) ?_
                refine g_callV (pc := 109) (As := [gI x19, gI 7]) hK ws_M_181 md_X12_isOf ⟨Nat.zero_le _, Nat.zero_le _⟩ ⟨by decide, by decide⟩ (kdm kd_200) rfl rfl dd_X12_trueWorth_109 rfl rfl (Nat.le_of_ble_eq_true rfl) (d_isOf x19 7 (fun c20 => g_r1 ?_) (fun c20 => g_r1 ?_))
                · refine g_if_ne (pc := 112) (tgt := 118) hK dd_X12_trueWorth_112 (by decide) (by decide) (fun _ => ?_) (fun c21 => absurd (by decide) c21)
                  refine g_iload (pc := 118) (i := 4) (x := x2 - (y6 * (x2.tdiv 10))) hK dd_X12_trueWorth_118 rfl ?_
                  refine g_iret (pc := 120) hK hr hlocks dd_X12_trueWorth_120 rfl ?_
                  exact g_fin hQ (by subst_vars; first | (rw [TW_0 (by omega)]) | (rw [TW_4 (by omega)]; first | rw [if_pos (by omega)] | rw [if_neg (by omega)]) | (rw [TW_1 (by omega), hv]) | (rw [TW_2 (by omega), hv]; unfold asV; first | (rw [if_pos (by assumption)]; done) | (rw [if_neg (by assumption)]; done) | (rw [if_pos (by assumption)]; rfl)) | (rw [TW_3 (by omega), hv]; unfold asV lidW; (first | rw [if_pos (by assumption)] | rw [if_neg (by assumption)]); (first | rw [if_pos (by assumption)] | rw [if_neg (by assumption)]); first | rfl | omega | done)) (by first | rfl | (subst_vars; rfl))
                · refine g_if_ne (pc := 112) (tgt := 118) hK dd_X12_trueWorth_112 (by decide) (by decide) (fun c22 => absurd c22 (by decide)) (fun _ => ?_)
                  refine g_iinc (pc := 115) (i := 4) (y := (x2 - (y6 * (x2.tdiv 10))) + 50) (L' := [(0, gR 200), (1, gI t), (2, gI x1), (3, gI x2), (4, gI ((x2 - (y6 * (x2.tdiv 10))) + 50))]) hK dd_X12_trueWorth_115 rfl rfl (by decide) rfl ?_
                  refine g_iload (pc := 118) (i := 4) (x := (x2 - (y6 * (x2.tdiv 10))) + 50) hK dd_X12_trueWorth_118 rfl ?_
                  refine g_iret (pc := 120) hK hr hlocks dd_X12_trueWorth_120 rfl ?_
                  exact g_fin hQ (by subst_vars; first | (rw [TW_0 (by omega)]) | (rw [TW_4 (by omega)]; first | rw [if_pos (by omega)] | rw [if_neg (by omega)]) | (rw [TW_1 (by omega), hv]) | (rw [TW_2 (by omega), hv]; unfold asV; first | (rw [if_pos (by assumption)]; done) | (rw [if_neg (by assumption)]; done) | (rw [if_pos (by assumption)]; rfl)) | (rw [TW_3 (by omega), hv]; unfold asV lidW; (first | rw [if_pos (by assumption)] | rw [if_neg (by assumption)]); (first | rw [if_pos (by assumption)] | rw [if_neg (by assumption)]); first | rfl | omega | done)) (by first | rfl | (subst_vars; rfl))
          · refine g_iload (pc := 72) (i := 4) (x := x2 - (y6 * (x2.tdiv 10))) hK dd_X12_trueWorth_72 rfl ?_
            refine g_iret (pc := 74) hK hr hlocks dd_X12_trueWorth_74 rfl ?_
            exact g_fin hQ (by subst_vars; first | (rw [TW_0 (by omega)]) | (rw [TW_4 (by omega)]; first | rw [if_pos (by omega)] | rw [if_neg (by omega)]) | (rw [TW_1 (by omega), hv]) | (rw [TW_2 (by omega), hv]; unfold asV; first | (rw [if_pos (by assumption)]; done) | (rw [if_neg (by assumption)]; done) | (rw [if_pos (by assumption)]; rfl)) | (rw [TW_3 (by omega), hv]; unfold asV lidW; (first | rw [if_pos (by assumption)] | rw [if_neg (by assumption)]); (first | rw [if_pos (by assumption)] | rw [if_neg (by assumption)]); first | rfl | omega | done)) (by first | rfl | (subst_vars; rfl))
        · refine g_iconst (pc := 64) (x := 0) hK dd_X12_trueWorth_64 (by decide) ?_
          refine g_istore (pc := 65) (i := 4) (L' := [(0, gR 200), (1, gI t), (2, gI x1), (3, gI x2), (4, gI 0)]) hK dd_X12_trueWorth_65 (by decide) rfl ?_
          have hv : chW (M 206 t.toNat) (M 207 t.toNat) = 0 := by unfold chW; have hmc := Int.mul_comm (bc8 (M 207 t.toNat)) ((M 206 t.toNat).tdiv 10); subst_vars; split <;> omega
          refine g_iloadn (pc := 67) (i := 2) (x := x1) hK dd_X12_trueWorth_67 rfl rfl ?_
          refine g_iconst (pc := 68) (x := 1) hK dd_X12_trueWorth_68 (by decide) ?_
          refine g_icmp_ne (pc := 69) (tgt := 75) hK dd_X12_trueWorth_69 (by decide) rx1 (by decide) (fun c23 => ?_) (fun c23 => ?_)
          · refine g_aloadn (pc := 75) (i := 0) (x := 200) hK dd_X12_trueWorth_75 rfl rfl ?_
            refine g_aloadn (pc := 76) (i := 0) (x := 200) hK dd_X12_trueWorth_76 rfl rfl ?_
            refine g_getv (pc := 77) (f := (1, 7)) (j := 6) (v := gR 207) hK (kdm kd_200) rfl ef_12 (by decide) rfl kk_1107 dd_X12_trueWorth_77 rfl ?_
            refine g_iloadn (pc := 80) (i := 1) (x := t) hK dd_X12_trueWorth_80 rfl rfl ?_
            refine g_iald (pc := 81) hK (kdm kd_207) nl_207 (by decide) dd_X12_trueWorth_81 (by omega) (by omega) (fun x24 ex24 rx24 => ?_)
            refine g_iconst (pc := 82) (x := 0) hK dd_X12_trueWorth_82 (by decide) ?_
            refine g_callV (pc := 83) (As := [gI x24, gI 0]) hK ws_M_181 md_X12_isOf ⟨Nat.zero_le _, Nat.zero_le _⟩ ⟨by decide, by decide⟩ (kdm kd_200) rfl rfl dd_X12_trueWorth_83 rfl rfl (Nat.le_of_ble_eq_true rfl) (d_isOf x24 0 (fun c25 => g_r1 ?_) (fun c25 => g_r1 ?_))
            · refine g_if_eq (pc := 86) (tgt := 95) hK dd_X12_trueWorth_86 (by decide) (by decide) (fun c26 => absurd c26 (by decide)) (fun _ => ?_)
              refine g_iload (pc := 89) (i := 4) (x := 0) hK dd_X12_trueWorth_89 rfl ?_
              refine g_iconst (pc := 91) (x := 2) hK dd_X12_trueWorth_91 (by decide) ?_
              refine g_idiv (pc := 92) (z := 0) hK dd_X12_trueWorth_92 (by decide) (by decide) (by decide) rfl ?_
              refine g_istore (pc := 93) (i := 4) (L' := [(0, gR 200), (1, gI t), (2, gI x1), (3, gI x2), (4, gI 0)]) hK dd_X12_trueWorth_93 (by decide) rfl ?_
              refine g_iloadn (pc := 95) (i := 2) (x := x1) hK dd_X12_trueWorth_95 rfl rfl ?_
              refine g_iconst (pc := 96) (x := 3) hK dd_X12_trueWorth_96 (by decide) ?_
              refine g_icmp_ne (pc := 97) (tgt := 118) hK dd_X12_trueWorth_97 (by decide) rx1 (by decide) (fun c27 => ?_) (fun c27 => ?_)
              · refine g_iload (pc := 118) (i := 4) (x := 0) hK dd_X12_trueWorth_118 rfl ?_
                refine g_iret (pc := 120) hK hr hlocks dd_X12_trueWorth_120 rfl ?_
                exact g_fin hQ (by subst_vars; first | (rw [TW_0 (by omega)]) | (rw [TW_4 (by omega)]; first | rw [if_pos (by omega)] | rw [if_neg (by omega)]) | (rw [TW_1 (by omega), hv]) | (rw [TW_2 (by omega), hv]; unfold asV; first | (rw [if_pos (by assumption)]; done) | (rw [if_neg (by assumption)]; done) | (rw [if_pos (by assumption)]; rfl)) | (rw [TW_3 (by omega), hv]; unfold asV lidW; (first | rw [if_pos (by assumption)] | rw [if_neg (by assumption)]); (first | rw [if_pos (by assumption)] | rw [if_neg (by assumption)]); first | rfl | omega | done)) (by first | rfl | (subst_vars; rfl))
              · refine g_aloadn (pc := 100) (i := 0) (x := 200) hK dd_X12_trueWorth_100 rfl rfl ?_
                refine g_aloadn (pc := 101) (i := 0) (x := 200) hK dd_X12_trueWorth_101 rfl rfl ?_
                refine g_getv (pc := 102) (f := (1, 7)) (j := 6) (v := gR 207) hK (kdm kd_200) rfl ef_12 (by decide) rfl kk_1107 dd_X12_trueWorth_102 rfl ?_
                refine g_iloadn (pc := 105) (i := 1) (x := t) hK dd_X12_trueWorth_105 rfl rfl ?_
                refine g_iald (pc := 106) hK (kdm kd_207) nl_207 (by decide) dd_X12_trueWorth_106 (by omega) (by omega) (fun x28 ex28 rx28 => ?_)
                refine g_bipush (pc := 107) (x := 7) hK dd_X12_trueWorth_107 (by decide) ?_
                refine g_callV (pc := 109) (As := [gI x28, gI 7]) hK ws_M_181 md_X12_isOf ⟨Nat.zero_le _, Nat.zero_le _⟩ ⟨by decide, by decide⟩ (kdm kd_200) rfl rfl dd_X12_trueWorth_109 rfl rfl (Nat.le_of_ble_eq_true rfl) (d_isOf x28 7 (fun c29 => g_r1 ?_) (fun c29 => g_r1 ?_))
                · refine g_if_ne (pc := 112) (tgt := 118) hK dd_X12_trueWorth_112 (by decide) (by decide) (fun _ => ?_) (fun c30 => absurd (by decide) c30)
                  refine g_iload (pc := 118) (i := 4) (x := 0) hK dd_X12_trueWorth_118 rfl ?_
                  refine g_iret (pc := 120) hK hr hlocks dd_X12_trueWorth_120 rfl ?_
                  exact g_fin hQ (by subst_vars; first | (rw [TW_0 (by omega)]) | (rw [TW_4 (by omega)]; first | rw [if_pos (by omega)] | rw [if_neg (by omega)]) | (rw [TW_1 (by omega), hv]) | (rw [TW_2 (by omega), hv]; unfold asV; first | (rw [if_pos (by assumption)]; done) | (rw [if_neg (by assumption)]; done) | (rw [if_pos (by assumption)]; rfl)) | (rw [TW_3 (by omega), hv]; unfold asV lidW; (first | rw [if_pos (by assumption)] | rw [if_neg (by assumption)]); (first | rw [if_pos (by assumption)] | rw [if_neg (by assumption)]); first | rfl | omega | done)) (by first | rfl | (subst_vars; rfl))
                · refine g_if_ne (pc := 112) (tgt := 118) hK dd_X12_trueWorth_112 (by decide) (by decide) (fun c31 => absurd c31 (by decide)) (fun _ => ?_)
                  refine g_iinc (pc := 115) (i := 4) (y := 50) (L' := [(0, gR 200), (1, gI t), (2, gI x1), (3, gI x2), (4, gI 50)]) hK dd_X12_trueWorth_115 rfl rfl (by decide) rfl ?_
                  refine g_iload (pc := 118) (i := 4) (x := 50) hK dd_X12_trueWorth_118 rfl ?_
                  refine g_iret (pc := 120) hK hr hlocks dd_X12_trueWorth_120 rfl ?_
                  exact g_fin hQ (by subst_vars; first | (rw [TW_0 (by omega)]) | (rw [TW_4 (by omega)]; first | rw [if_pos (by omega)] | rw [if_neg (by omega)]) | (rw [TW_1 (by omega), hv]) | (rw [TW_2 (by omega), hv]; unfold asV; first | (rw [if_pos (by assumption)]; done) | (rw [if_neg (by assumption)]; done) | (rw [if_pos (by assumption)]; rfl)) | (rw [TW_3 (by omega), hv]; unfold asV lidW; (first | rw [if_pos (by assumption)] | rw [if_neg (by assumption)]); (first | rw [if_pos (by assumption)] | rw [if_neg (by assumption)]); first | rfl | omega | done)) (by first | rfl | (subst_vars; rfl))
            · refine g_if_eq (pc := 86) (tgt := 95) hK dd_X12_trueWorth_86 (by decide) (by decide) (fun _ => ?_) (fun c32 => absurd (by decide) c32)
              refine g_iloadn (pc := 95) (i := 2) (x := x1) hK dd_X12_trueWorth_95 rfl rfl ?_
              refine g_iconst (pc := 96) (x := 3) hK dd_X12_trueWorth_96 (by decide) ?_
              refine g_icmp_ne (pc := 97) (tgt := 118) hK dd_X12_trueWorth_97 (by decide) rx1 (by decide) (fun c33 => ?_) (fun c33 => ?_)
              · refine g_iload (pc := 118) (i := 4) (x := 0) hK dd_X12_trueWorth_118 rfl ?_
                refine g_iret (pc := 120) hK hr hlocks dd_X12_trueWorth_120 rfl ?_
                exact g_fin hQ (by subst_vars; first | (rw [TW_0 (by omega)]) | (rw [TW_4 (by omega)]; first | rw [if_pos (by omega)] | rw [if_neg (by omega)]) | (rw [TW_1 (by omega), hv]) | (rw [TW_2 (by omega), hv]; unfold asV; first | (rw [if_pos (by assumption)]; done) | (rw [if_neg (by assumption)]; done) | (rw [if_pos (by assumption)]; rfl)) | (rw [TW_3 (by omega), hv]; unfold asV lidW; (first | rw [if_pos (by assumption)] | rw [if_neg (by assumption)]); (first | rw [if_pos (by assumption)] | rw [if_neg (by assumption)]); first | rfl | omega | done)) (by first | rfl | (subst_vars; rfl))
              · refine g_aloadn (pc := 100) (i := 0) (x := 200) hK dd_X12_trueWorth_100 rfl rfl ?_
                refine g_aloadn (pc := 101) (i := 0) (x := 200) hK dd_X12_trueWorth_101 rfl rfl ?_
                refine g_getv (pc := 102) (f := (1, 7)) (j := 6) (v := gR 207) hK (kdm kd_200) rfl ef_12 (by decide) rfl kk_1107 dd_X12_trueWorth_102 rfl ?_
                refine g_iloadn (pc := 105) (i := 1) (x := t) hK dd_X12_trueWorth_105 rfl rfl ?_
                refine g_iald (pc := 106) hK (kdm kd_207) nl_207 (by decide) dd_X12_trueWorth_106 (by omega) (by omega) (fun x34 ex34 rx34 => ?_)
                refine g_bipush (pc := 107) (x := 7) hK dd_X12_trueWorth_107 (by decide) ?_
                refine g_callV (pc := 109) (As := [gI x34, gI 7]) hK ws_M_181 md_X12_isOf ⟨Nat.zero_le _, Nat.zero_le _⟩ ⟨by decide, by decide⟩ (kdm kd_200) rfl rfl dd_X12_trueWorth_109 rfl rfl (Nat.le_of_ble_eq_true rfl) (d_isOf x34 7 (fun c35 => g_r1 ?_) (fun c35 => g_r1 ?_))
                · refine g_if_ne (pc := 112) (tgt := 118) hK dd_X12_trueWorth_112 (by decide) (by decide) (fun _ => ?_) (fun c36 => absurd (by decide) c36)
                  refine g_iload (pc := 118) (i := 4) (x := 0) hK dd_X12_trueWorth_118 rfl ?_
                  refine g_iret (pc := 120) hK hr hlocks dd_X12_trueWorth_120 rfl ?_
                  exact g_fin hQ (by subst_vars; first | (rw [TW_0 (by omega)]) | (rw [TW_4 (by omega)]; first | rw [if_pos (by omega)] | rw [if_neg (by omega)]) | (rw [TW_1 (by omega), hv]) | (rw [TW_2 (by omega), hv]; unfold asV; first | (rw [if_pos (by assumption)]; done) | (rw [if_neg (by assumption)]; done) | (rw [if_pos (by assumption)]; rfl)) | (rw [TW_3 (by omega), hv]; unfold asV lidW; (first | rw [if_pos (by assumption)] | rw [if_neg (by assumption)]); (first | rw [if_pos (by assumption)] | rw [if_neg (by assumption)]); first | rfl | omega | done)) (by first | rfl | (subst_vars; rfl))
                · refine g_if_ne (pc := 112) (tgt := 118) hK dd_X12_trueWorth_112 (by decide) (by decide) (fun c37 => absurd c37 (by decide)) (fun _ => ?_)
                  refine g_iinc (pc := 115) (i := 4) (y := 50) (L' := [(0, gR 200), (1, gI t), (2, gI x1), (3, gI x2), (4, gI 50)]) hK dd_X12_trueWorth_115 rfl rfl (by decide) rfl ?_
                  refine g_iload (pc := 118) (i := 4) (x := 50) hK dd_X12_trueWorth_118 rfl ?_
                  refine g_iret (pc := 120) hK hr hlocks dd_X12_trueWorth_120 rfl ?_
                  exact g_fin hQ (by subst_vars; first | (rw [TW_0 (by omega)]) | (rw [TW_4 (by omega)]; first | rw [if_pos (by omega)] | rw [if_neg (by omega)]) | (rw [TW_1 (by omega), hv]) | (rw [TW_2 (by omega), hv]; unfold asV; first | (rw [if_pos (by assumption)]; done) | (rw [if_neg (by assumption)]; done) | (rw [if_pos (by assumption)]; rfl)) | (rw [TW_3 (by omega), hv]; unfold asV lidW; (first | rw [if_pos (by assumption)] | rw [if_neg (by assumption)]); (first | rw [if_pos (by assumption)] | rw [if_neg (by assumption)]); first | rfl | omega | done)) (by first | rfl | (subst_vars; rfl))
          · refine g_iload (pc := 72) (i := 4) (x := 0) hK dd_X12_trueWorth_72 rfl ?_
            refine g_iret (pc := 74) hK hr hlocks dd_X12_trueWorth_74 rfl ?_
            exact g_fin hQ (by subst_vars; first | (rw [TW_0 (by omega)]) | (rw [TW_4 (by omega)]; first | rw [if_pos (by omega)] | rw [if_neg (by omega)]) | (rw [TW_1 (by omega), hv]) | (rw [TW_2 (by omega), hv]; unfold asV; first | (rw [if_pos (by assumption)]; done) | (rw [if_neg (by assumption)]; done) | (rw [if_pos (by assumption)]; rfl)) | (rw [TW_3 (by omega), hv]; unfold asV lidW; (first | rw [if_pos (by assumption)] | rw [if_neg (by assumption)]); (first | rw [if_pos (by assumption)] | rw [if_neg (by assumption)]); first | rfl | omega | done)) (by first | rfl | (subst_vars; rfl))
      · refine g_iloadn (pc := 30) (i := 3) (x := x2) hK dd_X12_trueWorth_30 rfl rfl ?_
        refine g_sipush (pc := 31) (x := 200) hK dd_X12_trueWorth_31 (by decide) ?_
        refine g_icmp_le (pc := 34) (tgt := 43) hK dd_X12_trueWorth_34 (by decide) rx2 (by decide) (fun c38 => ?_) (fun c38 => ?_)
        · refine g_iloadn (pc := 43) (i := 3) (x := x2) hK dd_X12_trueWorth_43 rfl rfl ?_
          refine g_iret (pc := 44) hK hr hlocks dd_X12_trueWorth_44 rfl ?_
          exact g_fin hQ (by subst_vars; first | (rw [TW_0 (by omega)]) | (rw [TW_4 (by omega)]; first | rw [if_pos (by omega)] | rw [if_neg (by omega)]) | (rw [TW_1 (by omega), hv]) | (rw [TW_2 (by omega), hv]; unfold asV; first | (rw [if_pos (by assumption)]; done) | (rw [if_neg (by assumption)]; done) | (rw [if_pos (by assumption)]; rfl)) | (rw [TW_3 (by omega), hv]; unfold asV lidW; (first | rw [if_pos (by assumption)] | rw [if_neg (by assumption)]); (first | rw [if_pos (by assumption)] | rw [if_neg (by assumption)]); first | rfl | omega | done)) (by first | rfl | (subst_vars; rfl))
        · refine g_sipush (pc := 37) (x := 200) hK dd_X12_trueWorth_37 (by decide) ?_
          refine g_goto (pc := 40) (tgt := 44) hK dd_X12_trueWorth_40 (by decide) ?_
          refine g_iret (pc := 44) hK hr hlocks dd_X12_trueWorth_44 rfl ?_
          exact g_fin hQ (by subst_vars; first | (rw [TW_0 (by omega)]) | (rw [TW_4 (by omega)]; first | rw [if_pos (by omega)] | rw [if_neg (by omega)]) | (rw [TW_1 (by omega), hv]) | (rw [TW_2 (by omega), hv]; unfold asV; first | (rw [if_pos (by assumption)]; done) | (rw [if_neg (by assumption)]; done) | (rw [if_pos (by assumption)]; rfl)) | (rw [TW_3 (by omega), hv]; unfold asV lidW; (first | rw [if_pos (by assumption)] | rw [if_neg (by assumption)]); (first | rw [if_pos (by assumption)] | rw [if_neg (by assumption)]); first | rfl | omega | done)) (by first | rfl | (subst_vars; rfl))
    · refine g_iloadn (pc := 23) (i := 3) (x := x2) hK dd_X12_trueWorth_23 rfl rfl ?_
      refine g_iret (pc := 24) hK hr hlocks dd_X12_trueWorth_24 rfl ?_
      exact g_fin hQ (by subst_vars; first | (rw [TW_0 (by omega)]) | (rw [TW_4 (by omega)]; first | rw [if_pos (by omega)] | rw [if_neg (by omega)]) | (rw [TW_1 (by omega), hv]) | (rw [TW_2 (by omega), hv]; unfold asV; first | (rw [if_pos (by assumption)]; done) | (rw [if_neg (by assumption)]; done) | (rw [if_pos (by assumption)]; rfl)) | (rw [TW_3 (by omega), hv]; unfold asV lidW; (first | rw [if_pos (by assumption)] | rw [if_neg (by assumption)]); (first | rw [if_pos (by assumption)] | rw [if_neg (by assumption)]); first | rfl | omega | done)) (by first | rfl | (subst_vars; rfl))
set_option maxHeartbeats 4000000 in
set_option maxRecDepth 100000 in
theorem y_thing {l : Launch} {M : Mem} {Pq : Option gV → Mem → Prop} (k : Int) (w : Int) (ch : Int) (h_k : inI k) (h_w : inI w) (h_ch : inI ch) (hrg : rgOK M) (hmc : 0 ≤ M 200 3 ∧ M 200 3 ≤ 30) (hB : (¬ ((0 ≤ k ∧ k < 6) ∧ (0 ≤ w ∧ w ≤ 999) ∧ 0 ≤ ch ∧ ch ≤ 255)) → Pq (some (gI (-2))) (rg M 2)) (hF : (((0 ≤ k ∧ k < 6) ∧ (0 ≤ w ∧ w ≤ 999) ∧ 0 ≤ ch ∧ ch ≤ 255) ∧ M 200 3 = 30) → Pq (some (gI (-6))) (rg M 6)) (hY : (((0 ≤ k ∧ k < 6) ∧ (0 ≤ w ∧ w ≤ 999) ∧ 0 ≤ ch ∧ ch ≤ 255) ∧ ¬ M 200 3 = 30) → Pq (some (gI (M 200 3))) (addM M k w ch)) : gCtr l my_X12_thing mb_X12_thing 5 ((some .int)) 2 [gR 200, gI k, gI w, gI ch] M Pq := by
  refine g_intro (by decide) (Nat.le_of_ble_eq_true rfl) ?_
  intro p e s m args below meth c D cy q A hK hr hlocks hw
  refine g_sub (L' := [(0, gR 200), (1, gI k), (2, gI w), (3, gI ch)]) [0, 1, 2, 3] rfl ?_
  refine g_aloadn (pc := 0) (i := 0) (x := 200) hK dd_X12_thing_0 rfl rfl ?_
  refine g_iloadn (pc := 1) (i := 1) (x := k) hK dd_X12_thing_1 rfl rfl ?_
  refine g_callV (pc := 2) (As := [gI k]) hK ws_M_168 md_X12_isKind ⟨Nat.zero_le _, Nat.zero_le _⟩ ⟨by decide, by decide⟩ (kdm kd_200) rfl rfl dd_X12_thing_2 rfl rfl (Nat.le_of_ble_eq_true rfl) (d_isKind k h_k (fun c1 => g_r1 ?_) (fun c1 => g_r1 ?_))
  · refine g_if_eq (pc := 5) (tgt := 30) hK dd_X12_thing_5 (by decide) (by decide) (fun c2 => absurd c2 (by decide)) (fun _ => ?_)
    refine g_iloadn (pc := 8) (i := 2) (x := w) hK dd_X12_thing_8 rfl rfl ?_
    refine g_if_lt (pc := 9) (tgt := 30) hK dd_X12_thing_9 (by decide) h_w (fun c3 => ?_) (fun c3 => ?_)
    · refine g_aloadn (pc := 30) (i := 0) (x := 200) hK dd_X12_thing_30 rfl rfl ?_
      refine g_bipush (pc := 31) (x := (-2)) hK dd_X12_thing_31 (by decide) ?_
      refine g_callV (pc := 33) (As := [gI (-2)]) hK ws_M_152 md_X12_no ⟨Nat.zero_le _, Nat.zero_le _⟩ ⟨by decide, by decide⟩ (kdm kd_200) rfl rfl dd_X12_thing_33 rfl rfl (Nat.le_of_ble_eq_true rfl) (d_no_2 hrg (g_r1 ?_))
      refine g_iret (pc := 36) hK hr hlocks dd_X12_thing_36 rfl ?_
      first | exact g_fin (hB (by first | omega | (subst_vars; omega) | exact ⟨by first | assumption | omega | (subst_vars; first | assumption | omega), by first | assumption | omega | (subst_vars; first | assumption | omega)⟩)) (by first | rfl | omega | (subst_vars; first | rfl | omega)) (by first | rfl | (subst_vars; rfl)) | exact g_fin (hY (by first | omega | (subst_vars; omega) | exact ⟨by first | assumption | omega | (subst_vars; first | assumption | omega), by first | assumption | omega | (subst_vars; first | assumption | omega)⟩)) (by first | rfl | omega | (subst_vars; first | rfl | omega)) (by first | rfl | (subst_vars; rfl)) | (exfalso; omega)
    · refine g_iloadn (pc := 12) (i := 2) (x := w) hK dd_X12_thing_12 rfl rfl ?_
      refine g_sipush (pc := 13) (x := 999) hK dd_X12_thing_13 (by decide) ?_
      refine g_icmp_gt (pc := 16) (tgt := 30) hK dd_X12_thing_16 (by decide) h_w (by decide) (fun c4 => ?_) (fun c4 => ?_)
      · refine g_aloadn (pc := 30) (i := 0) (x := 200) hK dd_X12_thing_30 rfl rfl ?_
        refine g_bipush (pc := 31) (x := (-2)) hK dd_X12_thing_31 (by decide) ?_
        refine g_callV (pc := 33) (As := [gI (-2)]) hK ws_M_152 md_X12_no ⟨Nat.zero_le _, Nat.zero_le _⟩ ⟨by decide, by decide⟩ (kdm kd_200) rfl rfl dd_X12_thing_33 rfl rfl (Nat.le_of_ble_eq_true rfl) (d_no_2 hrg (g_r1 ?_))
        refine g_iret (pc := 36) hK hr hlocks dd_X12_thing_36 rfl ?_
        first | exact g_fin (hB (by first | omega | (subst_vars; omega) | exact ⟨by first | assumption | omega | (subst_vars; first | assumption | omega), by first | assumption | omega | (subst_vars; first | assumption | omega)⟩)) (by first | rfl | omega | (subst_vars; first | rfl | omega)) (by first | rfl | (subst_vars; rfl)) | exact g_fin (hY (by first | omega | (subst_vars; omega) | exact ⟨by first | assumption | omega | (subst_vars; first | assumption | omega), by first | assumption | omega | (subst_vars; first | assumption | omega)⟩)) (by first | rfl | omega | (subst_vars; first | rfl | omega)) (by first | rfl | (subst_vars; rfl)) | (exfalso; omega)
      · refine g_iloadn (pc := 19) (i := 3) (x := ch) hK dd_X12_thing_19 rfl rfl ?_
        refine g_if_lt (pc := 20) (tgt := 30) hK dd_X12_thing_20 (by decide) h_ch (fun c5 => ?_) (fun c5 => ?_)
        · refine g_aloadn (pc := 30) (i := 0) (x := 200) hK dd_X12_thing_30 rfl rfl ?_
          refine g_bipush (pc := 31) (x := (-2)) hK dd_X12_thing_31 (by decide) ?_
          refine g_callV (pc := 33) (As := [gI (-2)]) hK ws_M_152 md_X12_no ⟨Nat.zero_le _, Nat.zero_le _⟩ ⟨by decide, by decide⟩ (kdm kd_200) rfl rfl dd_X12_thing_33 rfl rfl (Nat.le_of_ble_eq_true rfl) (d_no_2 hrg (g_r1 ?_))
          refine g_iret (pc := 36) hK hr hlocks dd_X12_thing_36 rfl ?_
          first | exact g_fin (hB (by first | omega | (subst_vars; omega) | exact ⟨by first | assumption | omega | (subst_vars; first | assumption | omega), by first | assumption | omega | (subst_vars; first | assumption | omega)⟩)) (by first | rfl | omega | (subst_vars; first | rfl | omega)) (by first | rfl | (subst_vars; rfl)) | exact g_fin (hY (by first | omega | (subst_vars; omega) | exact ⟨by first | assumption | omega | (subst_vars; first | assumption | omega), by first | assumption | omega | (subst_vars; first | assumption | omega)⟩)) (by first | rfl | omega | (subst_vars; first | rfl | omega)) (by first | rfl | (subst_vars; rfl)) | (exfalso; omega)
        · refine g_iloadn (pc := 23) (i := 3) (x := ch) hK dd_X12_thing_23 rfl rfl ?_
          refine g_sipush (pc := 24) (x := 255) hK dd_X12_thing_24 (by decide) ?_
          refine g_icmp_le (pc := 27) (tgt := 37) hK dd_X12_thing_27 (by decide) h_ch (by decide) (fun c6 => ?_) (fun c6 => ?_)
          · refine g_aloadn (pc := 37) (i := 0) (x := 200) hK dd_X12_thing_37 rfl rfl ?_
            refine g_geti (pc := 38) (f := (0, 0)) (j := 3) hK (kdm kd_200) rfl ef_12 (by decide) rfl kk_1104 nl_200 dd_X12_thing_38 rfl (fun x7 ex7 rx7 => ?_)
            refine g_bipush (pc := 41) (x := 30) hK dd_X12_thing_41 (by decide) ?_
            refine g_icmp_ne (pc := 43) (tgt := 53) hK dd_X12_thing_43 (by decide) rx7 (by decide) (fun c8 => ?_) (fun c8 => ?_)
            · refine g_aloadn (pc := 53) (i := 0) (x := 200) hK dd_X12_thing_53 rfl rfl ?_
              refine g_dup (pc := 54) hK dd_X12_thing_54 rfl ?_
              refine g_geti (pc := 55) (f := (0, 0)) (j := 3) hK (kdm kd_200) rfl ef_12 (by decide) rfl kk_1104 nl_200 dd_X12_thing_55 rfl (fun x9 ex9 rx9 => ?_)
              refine g_dupx1 (pc := 58) hK dd_X12_thing_58 rfl rfl ?_
              refine g_iconst (pc := 59) (x := 1) hK dd_X12_thing_59 (by decide) ?_
              refine g_iadd (pc := 60) (z := x9 + 1) hK dd_X12_thing_60 rfl ?_
              refine g_puti (pc := 61) (f := (0, 0)) (j := 3) (ty := .int) hK (kdm kd_200) rfl ef_12 (by decide) rfl kk_1104 nl_200 (by decide) dd_X12_thing_61 rfl rfl rfl rfl rfl ⟨by omega, by omega⟩ ?_
              refine g_istore (pc := 64) (i := 4) (L' := [(0, gR 200), (1, gI k), (2, gI w), (3, gI ch), (4, gI x9)]) hK dd_X12_thing_64 (by decide) rfl ?_
              refine g_aloadn (pc := 66) (i := 0) (x := 200) hK dd_X12_thing_66 rfl rfl ?_
              refine g_getv (pc := 67) (f := (1, 5)) (j := 4) (v := gR 205) hK (kdm kd_200) rfl ef_12 (by decide) rfl kk_1105 dd_X12_thing_67 rfl ?_
              refine g_iload (pc := 70) (i := 4) (x := x9) hK dd_X12_thing_70 rfl ?_
              refine g_iloadn (pc := 72) (i := 1) (x := k) hK dd_X12_thing_72 rfl rfl ?_
              refine g_iast (pc := 73) hK (kdm kd_205) nl_205 (by decide) (by decide) dd_X12_thing_73 (by omega) (by omega) h_k ?_
              refine g_aloadn (pc := 74) (i := 0) (x := 200) hK dd_X12_thing_74 rfl rfl ?_
              refine g_getv (pc := 75) (f := (1, 6)) (j := 5) (v := gR 206) hK (kdm kd_200) rfl ef_12 (by decide) rfl kk_1106 dd_X12_thing_75 rfl ?_
              refine g_iload (pc := 78) (i := 4) (x := x9) hK dd_X12_thing_78 rfl ?_
              refine g_iloadn (pc := 80) (i := 2) (x := w) hK dd_X12_thing_80 rfl rfl ?_
              refine g_iast (pc := 81) hK (kdm kd_206) nl_206 (by decide) (by decide) dd_X12_thing_81 (by omega) (by omega) h_w ?_
              refine g_aloadn (pc := 82) (i := 0) (x := 200) hK dd_X12_thing_82 rfl rfl ?_
              refine g_getv (pc := 83) (f := (1, 7)) (j := 6) (v := gR 207) hK (kdm kd_200) rfl ef_12 (by decide) rfl kk_1107 dd_X12_thing_83 rfl ?_
              refine g_iload (pc := 86) (i := 4) (x := x9) hK dd_X12_thing_86 rfl ?_
              refine g_iloadn (pc := 88) (i := 3) (x := ch) hK dd_X12_thing_88 rfl rfl ?_
              refine g_iast (pc := 89) hK (kdm kd_207) nl_207 (by decide) (by decide) dd_X12_thing_89 (by omega) (by omega) h_ch ?_
              refine g_aloadn (pc := 90) (i := 0) (x := 200) hK dd_X12_thing_90 rfl rfl ?_
              refine g_getv (pc := 91) (f := (1, 8)) (j := 7) (v := gR 208) hK (kdm kd_200) rfl ef_12 (by decide) rfl kk_1108 dd_X12_thing_91 rfl ?_
              refine g_iload (pc := 94) (i := 4) (x := x9) hK dd_X12_thing_94 rfl ?_
              refine g_iconst (pc := 96) (x := (-1)) hK dd_X12_thing_96 (by decide) ?_
              refine g_iast (pc := 97) hK (kdm kd_208) nl_208 (by decide) (by decide) dd_X12_thing_97 (by omega) (by omega) (by decide) ?_
              refine g_aloadn (pc := 98) (i := 0) (x := 200) hK dd_X12_thing_98 rfl rfl ?_
              refine g_getv (pc := 99) (f := (1, 9)) (j := 8) (v := gR 209) hK (kdm kd_200) rfl ef_12 (by decide) rfl kk_1109 dd_X12_thing_99 rfl ?_
              refine g_iload (pc := 102) (i := 4) (x := x9) hK dd_X12_thing_102 rfl ?_
              refine g_iconst (pc := 104) (x := (-1)) hK dd_X12_thing_104 (by decide) ?_
              refine g_iast (pc := 105) hK (kdm kd_209) nl_209 (by decide) (by decide) dd_X12_thing_105 (by omega) (by omega) (by decide) ?_
              refine g_aloadn (pc := 106) (i := 0) (x := 200) hK dd_X12_thing_106 rfl rfl ?_
              refine g_getv (pc := 107) (f := (1, 10)) (j := 9) (v := gR 210) hK (kdm kd_200) rfl ef_12 (by decide) rfl kk_1110 dd_X12_thing_107 rfl ?_
              refine g_iload (pc := 110) (i := 4) (x := x9) hK dd_X12_thing_110 rfl ?_
              refine g_iconst (pc := 112) (x := (-1)) hK dd_X12_thing_112 (by decide) ?_
              refine g_iast (pc := 113) hK (kdm kd_210) nl_210 (by decide) (by decide) dd_X12_thing_113 (by omega) (by omega) (by decide) ?_
              refine g_iload (pc := 114) (i := 4) (x := x9) hK dd_X12_thing_114 rfl ?_
              refine g_iret (pc := 116) hK hr hlocks dd_X12_thing_116 rfl ?_
              first | exact g_fin (hB (by first | omega | (subst_vars; omega) | exact ⟨by first | assumption | omega | (subst_vars; first | assumption | omega), by first | assumption | omega | (subst_vars; first | assumption | omega)⟩)) (by first | rfl | omega | (subst_vars; first | rfl | omega)) (by first | rfl | (subst_vars; rfl)) | exact g_fin (hF (by first | omega | (subst_vars; omega) | exact ⟨by first | assumption | omega | (subst_vars; first | assumption | omega), by first | assumption | omega | (subst_vars; first | assumption | omega)⟩)) (by first | rfl | omega | (subst_vars; first | rfl | omega)) (by first | rfl | (subst_vars; rfl)) | exact g_fin (hY (by first | omega | (subst_vars; omega) | exact ⟨by first | assumption | omega | (subst_vars; first | assumption | omega), by first | assumption | omega | (subst_vars; first | assumption | omega)⟩)) (by first | rfl | omega | (subst_vars; first | rfl | omega)) (by first | rfl | (subst_vars; rfl)) | (exfalso; omega)
            · refine g_aloadn (pc := 46) (i := 0) (x := 200) hK dd_X12_thing_46 rfl rfl ?_
              refine g_bipush (pc := 47) (x := (-6)) hK dd_X12_thing_47 (by decide) ?_
              refine g_callV (pc := 49) (As := [gI (-6)]) hK ws_M_152 md_X12_no ⟨Nat.zero_le _, Nat.zero_le _⟩ ⟨by decide, by decide⟩ (kdm kd_200) rfl rfl dd_X12_thing_49 rfl rfl (Nat.le_of_ble_eq_true rfl) (d_no_6 hrg (g_r1 ?_))
              refine g_iret (pc := 52) hK hr hlocks dd_X12_thing_52 rfl ?_
              first | exact g_fin (hF (by first | omega | (subst_vars; omega) | exact ⟨by first | assumption | omega | (subst_vars; first | assumption | omega), by first | assumption | omega | (subst_vars; first | assumption | omega)⟩)) (by first | rfl | omega | (subst_vars; first | rfl | omega)) (by first | rfl | (subst_vars; rfl)) | exact g_fin (hY (by first | omega | (subst_vars; omega) | exact ⟨by first | assumption | omega | (subst_vars; first | assumption | omega), by first | assumption | omega | (subst_vars; first | assumption | omega)⟩)) (by first | rfl | omega | (subst_vars; first | rfl | omega)) (by first | rfl | (subst_vars; rfl)) | (exfalso; omega)
          · refine g_aloadn (pc := 30) (i := 0) (x := 200) hK dd_X12_thing_30 rfl rfl ?_
            refine g_bipush (pc := 31) (x := (-2)) hK dd_X12_thing_31 (by decide) ?_
            refine g_callV (pc := 33) (As := [gI (-2)]) hK ws_M_152 md_X12_no ⟨Nat.zero_le _, Nat.zero_le _⟩ ⟨by decide, by decide⟩ (kdm kd_200) rfl rfl dd_X12_thing_33 rfl rfl (Nat.le_of_ble_eq_true rfl) (d_no_2 hrg (g_r1 ?_))
            refine g_iret (pc := 36) hK hr hlocks dd_X12_thing_36 rfl ?_
            first | exact g_fin (hB (by first | omega | (subst_vars; omega) | exact ⟨by first | assumption | omega | (subst_vars; first | assumption | omega), by first | assumption | omega | (subst_vars; first | assumption | omega)⟩)) (by first | rfl | omega | (subst_vars; first | rfl | omega)) (by first | rfl | (subst_vars; rfl)) | exact g_fin (hY (by first | omega | (subst_vars; omega) | exact ⟨by first | assumption | omega | (subst_vars; first | assumption | omega), by first | assumption | omega | (subst_vars; first | assumption | omega)⟩)) (by first | rfl | omega | (subst_vars; first | rfl | omega)) (by first | rfl | (subst_vars; rfl)) | (exfalso; omega)
  · refine g_if_eq (pc := 5) (tgt := 30) hK dd_X12_thing_5 (by decide) (by decide) (fun _ => ?_) (fun c10 => absurd (by decide) c10)
    refine g_aloadn (pc := 30) (i := 0) (x := 200) hK dd_X12_thing_30 rfl rfl ?_
    refine g_bipush (pc := 31) (x := (-2)) hK dd_X12_thing_31 (by decide) ?_
    refine g_callV (pc := 33) (As := [gI (-2)]) hK ws_M_152 md_X12_no ⟨Nat.zero_le _, Nat.zero_le _⟩ ⟨by decide, by decide⟩ (kdm kd_200) rfl rfl dd_X12_thing_33 rfl rfl (Nat.le_of_ble_eq_true rfl) (d_no_2 hrg (g_r1 ?_))
    refine g_iret (pc := 36) hK hr hlocks dd_X12_thing_36 rfl ?_
    first | exact g_fin (hB (by first | omega | (subst_vars; omega) | exact ⟨by first | assumption | omega | (subst_vars; first | assumption | omega), by first | assumption | omega | (subst_vars; first | assumption | omega)⟩)) (by first | rfl | omega | (subst_vars; first | rfl | omega)) (by first | rfl | (subst_vars; rfl)) | exact g_fin (hY (by first | omega | (subst_vars; omega) | exact ⟨by first | assumption | omega | (subst_vars; first | assumption | omega), by first | assumption | omega | (subst_vars; first | assumption | omega)⟩)) (by first | rfl | omega | (subst_vars; first | rfl | omega)) (by first | rfl | (subst_vars; rfl)) | (exfalso; omega)
set_option maxHeartbeats 4000000 in
set_option maxRecDepth 100000 in
theorem y_says {l : Launch} {M : Mem} {Pq : Option gV → Mem → Prop} (sf : Int) (k : Int) (h_sf : inI sf) (h_k : inI k) (hrg : rgOK M) (hho : hoOK M) (hmc : 0 ≤ M 200 3 ∧ M 200 3 ≤ 30) (hthm : thOKm M) (hB : (¬ ((0 ≤ sf ∧ sf < 8) ∧ 0 ≤ k ∧ k < 6)) → Pq (some (gI (-2))) (rg M 2)) (hR : (((0 ≤ sf ∧ sf < 8) ∧ 0 ≤ k ∧ k < 6) ∧ 100 ≤ M 201 sf.toNat) → Pq (some (gI (-3))) (rg M 3)) (hN : (((0 ≤ sf ∧ sf < 8) ∧ 0 ≤ k ∧ k < 6) ∧ M 201 sf.toNat < 0) → Pq (some (gI (-4))) (rg M 4)) (hO : ((((0 ≤ sf ∧ sf < 8) ∧ 0 ≤ k ∧ k < 6) ∧ 0 ≤ M 201 sf.toNat ∧ M 201 sf.toNat < 100) ∧ ¬ undr (M 205 (M 201 sf.toNat).toNat) k) → Pq (some (gI (-3))) (rg M 3)) (hY : ((((0 ≤ sf ∧ sf < 8) ∧ 0 ≤ k ∧ k < 6) ∧ 0 ≤ M 201 sf.toNat ∧ M 201 sf.toNat < 100) ∧ undr (M 205 (M 201 sf.toNat).toNat) k) → Pq (some (gI (wrd k (M 205 (M 201 sf.toNat).toNat) (M 206 (M 201 sf.toNat).toNat) (M 207 (M 201 sf.toNat).toNat)))) M) : gCtr l my_X12_says mb_X12_says 4 ((some .int)) 4 [gR 200, gI sf, gI k] M Pq := by
  refine g_intro (by decide) (Nat.le_of_ble_eq_true rfl) ?_
  intro p e s m args below meth c D cy q A hK hr hlocks hw
  refine g_sub (L' := [(0, gR 200), (1, gI sf), (2, gI k)]) [0, 1, 2] rfl ?_
  refine g_aloadn (pc := 0) (i := 0) (x := 200) hK dd_X12_says_0 rfl rfl ?_
  refine g_iloadn (pc := 1) (i := 1) (x := sf) hK dd_X12_says_1 rfl rfl ?_
  refine g_callV (pc := 2) (As := [gI sf]) hK ws_M_148 md_X12_isShelf ⟨Nat.zero_le _, Nat.zero_le _⟩ ⟨by decide, by decide⟩ (kdm kd_200) rfl rfl dd_X12_says_2 rfl rfl (Nat.le_of_ble_eq_true rfl) (d_isShelf sf h_sf (fun c1 => g_r1 ?_) (fun c1 => g_r1 ?_))
  · refine g_if_eq (pc := 5) (tgt := 16) hK dd_X12_says_5 (by decide) (by decide) (fun c2 => absurd c2 (by decide)) (fun _ => ?_)
    refine g_aloadn (pc := 8) (i := 0) (x := 200) hK dd_X12_says_8 rfl rfl ?_
    refine g_iloadn (pc := 9) (i := 2) (x := k) hK dd_X12_says_9 rfl rfl ?_
    refine g_callV (pc := 10) (As := [gI k]) hK ws_M_168 md_X12_isKind ⟨Nat.zero_le _, Nat.zero_le _⟩ ⟨by decide, by decide⟩ (kdm kd_200) rfl rfl dd_X12_says_10 rfl rfl (Nat.le_of_ble_eq_true rfl) (d_isKind k h_k (fun c3 => g_r1 ?_) (fun c3 => g_r1 ?_))
    · refine g_if_ne (pc := 13) (tgt := 23) hK dd_X12_says_13 (by decide) (by decide) (fun _ => ?_) (fun c4 => absurd (by decide) c4)
      have hs_ := hho sf.toNat (by omega)
      refine g_aloadn (pc := 23) (i := 0) (x := 200) hK dd_X12_says_23 rfl rfl ?_
      refine g_iloadn (pc := 24) (i := 1) (x := sf) hK dd_X12_says_24 rfl rfl ?_
      refine g_callV (pc := 25) (As := [gI sf]) hK ws_M_162 md_X12_isRow ⟨Nat.zero_le _, Nat.zero_le _⟩ ⟨by decide, by decide⟩ (kdm kd_200) rfl rfl dd_X12_says_25 rfl rfl (Nat.le_of_ble_eq_true rfl) (d_isRow sf (by omega) (by omega) (fun c5 => g_r1 ?_) (fun c5 => g_r1 ?_))
      · refine g_if_eq (pc := 28) (tgt := 38) hK dd_X12_says_28 (by decide) (by decide) (fun c6 => absurd c6 (by decide)) (fun _ => ?_)
        refine g_aloadn (pc := 31) (i := 0) (x := 200) hK dd_X12_says_31 rfl rfl ?_
        refine g_bipush (pc := 32) (x := (-3)) hK dd_X12_says_32 (by decide) ?_
        refine g_callV (pc := 34) (As := [gI (-3)]) hK ws_M_152 md_X12_no ⟨Nat.zero_le _, Nat.zero_le _⟩ ⟨by decide, by decide⟩ (kdm kd_200) rfl rfl dd_X12_says_34 rfl rfl (Nat.le_of_ble_eq_true rfl) (d_no_3 hrg (g_r1 ?_))
        refine g_iret (pc := 37) hK hr hlocks dd_X12_says_37 rfl ?_
        first | exact g_fin (hR (by first | omega | (subst_vars; omega) | exact ⟨by first | assumption | omega | (subst_vars; first | assumption | omega), by first | assumption | omega | (subst_vars; first | assumption | omega)⟩)) (by first | rfl | omega | (subst_vars; first | rfl | omega)) (by first | rfl | (subst_vars; rfl)) | exact g_fin (hO (by refine ⟨by omega, ?_⟩; subst_vars; assumption)) (by first | rfl | omega | (subst_vars; first | rfl | omega)) (by first | rfl | (subst_vars; rfl)) | exact g_fin (hY (by refine ⟨by omega, ?_⟩; subst_vars; assumption)) (by (first | rw [wrd_0 (by omega)] | rw [wrd_1 (by omega)] | rw [wrd_2 (by omega)] | rw [wrd_3 (by omega)] | rw [wrd_4 (by omega)] | rw [wrd_5 (by omega)]); subst_vars; first | rfl | exact hb0_val _ (by assumption) | (rw [if_pos (by omega)]; done) | (rw [if_neg (by omega)]; done) | (split <;> omega) | (unfold lidW; first | rw [if_pos (by assumption)] | rw [if_neg (by assumption)])) (by first | rfl | (subst_vars; rfl)) | (exfalso; omega)
      · refine g_if_eq (pc := 28) (tgt := 38) hK dd_X12_says_28 (by decide) (by decide) (fun _ => ?_) (fun c7 => absurd (by decide) c7)
        refine g_aloadn (pc := 38) (i := 0) (x := 200) hK dd_X12_says_38 rfl rfl ?_
        refine g_getv (pc := 39) (f := (1, 1)) (j := 0) (v := gR 201) hK (kdm kd_200) rfl ef_12 (by decide) rfl kk_1101 dd_X12_says_39 rfl ?_
        refine g_iloadn (pc := 42) (i := 1) (x := sf) hK dd_X12_says_42 rfl rfl ?_
        refine g_iald (pc := 43) hK (kdm kd_201) nl_201 (by decide) dd_X12_says_43 (by omega) (by omega) (fun x8 ex8 rx8 => ?_)
        refine g_if_ge (pc := 44) (tgt := 54) hK dd_X12_says_44 (by decide) rx8 (fun c9 => ?_) (fun c9 => ?_)
        · refine g_aloadn (pc := 54) (i := 0) (x := 200) hK dd_X12_says_54 rfl rfl ?_
          refine g_getv (pc := 55) (f := (1, 1)) (j := 0) (v := gR 201) hK (kdm kd_200) rfl ef_12 (by decide) rfl kk_1101 dd_X12_says_55 rfl ?_
          refine g_iloadn (pc := 58) (i := 1) (x := sf) hK dd_X12_says_58 rfl rfl ?_
          refine g_iald (pc := 59) hK (kdm kd_201) nl_201 (by decide) dd_X12_says_59 (by omega) (by omega) (fun x10 ex10 rx10 => ?_)
          refine g_istoren (pc := 60) (i := 3) (L' := [(0, gR 200), (1, gI sf), (2, gI k), (3, gI x10)]) hK dd_X12_says_60 rfl (by decide) rfl ?_
          refine g_aloadn (pc := 61) (i := 0) (x := 200) hK dd_X12_says_61 rfl rfl ?_
          refine g_aloadn (pc := 62) (i := 0) (x := 200) hK dd_X12_says_62 rfl rfl ?_
          refine g_getv (pc := 63) (f := (1, 5)) (j := 4) (v := gR 205) hK (kdm kd_200) rfl ef_12 (by decide) rfl kk_1105 dd_X12_says_63 rfl ?_
          refine g_iloadn (pc := 66) (i := 3) (x := x10) hK dd_X12_says_66 rfl rfl ?_
          refine g_iald (pc := 67) hK (kdm kd_205) nl_205 (by decide) dd_X12_says_67 (by omega) (by omega) (fun x11 ex11 rx11 => ?_)
          refine g_iloadn (pc := 68) (i := 2) (x := k) hK dd_X12_says_68 rfl rfl ?_
          refine g_callV (pc := 69) (As := [gI x11, gI k]) hK ws_M_171 md_X12_isUnder ⟨Nat.zero_le _, Nat.zero_le _⟩ ⟨by decide, by decide⟩ (kdm kd_200) rfl rfl dd_X12_says_69 rfl rfl (Nat.le_of_ble_eq_true rfl) (d_isUnder x11 k rx11 h_k (fun c12 => g_r1 ?_) (fun c12 => g_r1 ?_))
          · refine g_if_ne (pc := 72) (tgt := 82) hK dd_X12_says_72 (by decide) (by decide) (fun _ => ?_) (fun c13 => absurd (by decide) c13)
            refine g_iloadn (pc := 82) (i := 2) (x := k) hK dd_X12_says_82 rfl rfl ?_
            refine g_if_ne (pc := 83) (tgt := 92) hK dd_X12_says_83 (by decide) h_k (fun c14 => ?_) (fun c14 => ?_)
            · refine g_iloadn (pc := 92) (i := 2) (x := k) hK dd_X12_says_92 rfl rfl ?_
              refine g_iconst (pc := 93) (x := 1) hK dd_X12_says_93 (by decide) ?_
              refine g_icmp_ne (pc := 94) (tgt := 103) hK dd_X12_says_94 (by decide) h_k (by decide) (fun c15 => ?_) (fun c15 => ?_)
              · refine g_iloadn (pc := 103) (i := 2) (x := k) hK dd_X12_says_103 rfl rfl ?_
                refine g_iconst (pc := 104) (x := 2) hK dd_X12_says_104 (by decide) ?_
                refine g_icmp_ne (pc := 105) (tgt := 117) hK dd_X12_says_105 (by decide) h_k (by decide) (fun c16 => ?_) (fun c16 => ?_)
                · refine g_iloadn (pc := 117) (i := 2) (x := k) hK dd_X12_says_117 rfl rfl ?_
                  refine g_iconst (pc := 118) (x := 3) hK dd_X12_says_118 (by decide) ?_
                  refine g_icmp_ne (pc := 119) (tgt := 144) hK dd_X12_says_119 (by decide) h_k (by decide) (fun c17 => ?_) (fun c17 => ?_)
                  · refine g_iloadn (pc := 144) (i := 2) (x := k) hK dd_X12_says_144 rfl rfl ?_
                    refine g_iconst (pc := 145) (x := 4) hK dd_X12_says_145 (by decide) ?_
                    refine g_icmp_ne (pc := 146) (tgt := 176) hK dd_X12_says_146 (by decide) h_k (by decide) (fun c18 => ?_) (fun c18 => ?_)
                    · refine g_aloadn (pc := 176) (i := 0) (x := 200) hK dd_X12_says_176 rfl rfl ?_
                      refine g_getv (pc := 177) (f := (1, 6)) (j := 5) (v := gR 206) hK (kdm kd_200) rfl ef_12 (by decide) rfl kk_1106 dd_X12_says_177 rfl ?_
                      refine g_iloadn (pc := 180) (i := 3) (x := x10) hK dd_X12_says_180 rfl rfl ?_
                      refine g_iald (pc := 181) hK (kdm kd_206) nl_206 (by decide) dd_X12_says_181 (by omega) (by omega) (fun x19 ex19 rx19 => ?_)
                      refine g_iret (pc := 182) hK hr hlocks dd_X12_says_182 rfl ?_
                      first | exact g_fin (hB (by first | omega | (subst_vars; omega) | exact ⟨by first | assumption | omega | (subst_vars; first | assumption | omega), by first | assumption | omega | (subst_vars; first | assumption | omega)⟩)) (by first | rfl | omega | (subst_vars; first | rfl | omega)) (by first | rfl | (subst_vars; rfl)) | exact g_fin (hR (by first | omega | (subst_vars; omega) | exact ⟨by first | assumption | omega | (subst_vars; first | assumption | omega), by first | assumption | omega | (subst_vars; first | assumption | omega)⟩)) (by first | rfl | omega | (subst_vars; first | rfl | omega)) (by first | rfl | (subst_vars; rfl)) | exact g_fin (hN (by first | omega | (subst_vars; omega) | exact ⟨by first | assumption | omega | (subst_vars; first | assumption | omega), by first | assumption | omega | (subst_vars; first | assumption | omega)⟩)) (by first | rfl | omega | (subst_vars; first | rfl | omega)) (by first | rfl | (subst_vars; rfl)) | exact g_fin (hO (by refine ⟨by omega, ?_⟩; subst_vars; assumption)) (by first | rfl | omega | (subst_vars; first | rfl | omega)) (by first | rfl | (subst_vars; rfl)) | exact g_fin (hY (by refine ⟨by omega, ?_⟩; subst_vars; assumption)) (by (first | rw [wrd_0 (by omega)] | rw [wrd_1 (by omega)] | rw [wrd_2 (by omega)] | rw [wrd_3 (by omega)] | rw [wrd_4 (by omega)] | rw [wrd_5 (by omega)]); subst_vars; first | rfl | exact hb0_val _ (by assumption) | (rw [if_pos (by omega)]; done) | (rw [if_neg (by omega)]; done) | (split <;> omega) | (unfold lidW; first | rw [if_pos (by assumption)] | rw [if_neg (by assumption)])) (by first | rfl | (subst_vars; rfl)) | (exfalso; omega)
                    · refine g_aloadn (pc := 149) (i := 0) (x := 200) hK dd_X12_says_149 rfl rfl ?_
                      refine g_getv (pc := 150) (f := (1, 6)) (j := 5) (v := gR 206) hK (kdm kd_200) rfl ef_12 (by decide) rfl kk_1106 dd_X12_says_150 rfl ?_
                      refine g_iloadn (pc := 153) (i := 3) (x := x10) hK dd_X12_says_153 rfl rfl ?_
                      refine g_iald (pc := 154) hK (kdm kd_206) nl_206 (by decide) dd_X12_says_154 (by omega) (by omega) (fun x20 ex20 rx20 => ?_)
                      refine g_sipush (pc := 155) (x := 200) hK dd_X12_says_155 (by decide) ?_
                      refine g_icmp_le (pc := 158) (tgt := 174) hK dd_X12_says_158 (by decide) rx20 (by decide) (fun c21 => ?_) (fun c21 => ?_)
                      · refine g_iconst (pc := 174) (x := 0) hK dd_X12_says_174 (by decide) ?_
                        refine g_iret (pc := 175) hK hr hlocks dd_X12_says_175 rfl ?_
                        first | exact g_fin (hY (by refine ⟨by omega, ?_⟩; subst_vars; assumption)) (by (first | rw [wrd_0 (by omega)] | rw [wrd_1 (by omega)] | rw [wrd_2 (by omega)] | rw [wrd_3 (by omega)] | rw [wrd_4 (by omega)] | rw [wrd_5 (by omega)]); subst_vars; first | rfl | exact hb0_val _ (by assumption) | (rw [if_pos (by omega)]; done) | (rw [if_neg (by omega)]; done) | (split <;> omega) | (unfold lidW; first | rw [if_pos (by assumption)] | rw [if_neg (by assumption)])) (by first | rfl | (subst_vars; rfl)) | (exfalso; omega)
                      · refine g_aloadn (pc := 161) (i := 0) (x := 200) hK dd_X12_says_161 rfl rfl ?_
                        refine g_getv (pc := 162) (f := (1, 6)) (j := 5) (v := gR 206) hK (kdm kd_200) rfl ef_12 (by decide) rfl kk_1106 dd_X12_says_162 rfl ?_
                        refine g_iloadn (pc := 165) (i := 3) (x := x10) hK dd_X12_says_165 rfl rfl ?_
                        refine g_iald (pc := 166) hK (kdm kd_206) nl_206 (by decide) dd_X12_says_166 (by omega) (by omega) (fun x22 ex22 rx22 => ?_)
                        refine g_sipush (pc := 167) (x := 200) hK dd_X12_says_167 (by decide) ?_
                        refine g_isub (pc := 170) (z := x22 - 200) hK dd_X12_says_170 rfl ?_
                        refine g_goto (pc := 171) (tgt := 175) hK dd_X12_says_171 (by decide) ?_
                        refine g_iret (pc := 175) hK hr hlocks dd_X12_says_175 rfl ?_
                        first | exact g_fin (hB (by first | omega | (subst_vars; omega) | exact ⟨by first | assumption | omega | (subst_vars; first | assumption | omega), by first | assumption | omega | (subst_vars; first | assumption | omega)⟩)) (by first | rfl | omega | (subst_vars; first | rfl | omega)) (by first | rfl | (subst_vars; rfl)) | exact g_fin (hR (by first | omega | (subst_vars; omega) | exact ⟨by first | assumption | omega | (subst_vars; first | assumption | omega), by first | assumption | omega | (subst_vars; first | assumption | omega)⟩)) (by first | rfl | omega | (subst_vars; first | rfl | omega)) (by first | rfl | (subst_vars; rfl)) | exact g_fin (hN (by first | omega | (subst_vars; omega) | exact ⟨by first | assumption | omega | (subst_vars; first | assumption | omega), by first | assumption | omega | (subst_vars; first | assumption | omega)⟩)) (by first | rfl | omega | (subst_vars; first | rfl | omega)) (by first | rfl | (subst_vars; rfl)) | exact g_fin (hO (by refine ⟨by omega, ?_⟩; subst_vars; assumption)) (by first | rfl | omega | (subst_vars; first | rfl | omega)) (by first | rfl | (subst_vars; rfl)) | exact g_fin (hY (by refine ⟨by omega, ?_⟩; subst_vars; assumption)) (by (first | rw [wrd_0 (by omega)] | rw [wrd_1 (by omega)] | rw [wrd_2 (by omega)] | rw [wrd_3 (by omega)] | rw [wrd_4 (by omega)] | rw [wrd_5 (by omega)]); subst_vars; first | rfl | exact hb0_val _ (by assumption) | (rw [if_pos (by omega)]; done) | (rw [if_neg (by omega)]; done) | (split <;> omega) | (unfold lidW; first | rw [if_pos (by assumption)] | rw [if_neg (by assumption)])) (by first | rfl | (subst_vars; rfl)) | (exfalso; omega)
                  · refine g_aloadn (pc := 122) (i := 0) (x := 200) hK dd_X12_says_122 rfl rfl ?_
                    refine g_aloadn (pc := 123) (i := 0) (x := 200) hK dd_X12_says_123 rfl rfl ?_
                    refine g_getv (pc := 124) (f := (1, 7)) (j := 6) (v := gR 207) hK (kdm kd_200) rfl ef_12 (by decide) rfl kk_1107 dd_X12_says_124 rfl ?_
                    refine g_iloadn (pc := 127) (i := 3) (x := x10) hK dd_X12_says_127 rfl rfl ?_
                    refine g_iald (pc := 128) hK (kdm kd_207) nl_207 (by decide) dd_X12_says_128 (by omega) (by omega) (fun x23 ex23 rx23 => ?_)
                    refine g_bipush (pc := 129) (x := 7) hK dd_X12_says_129 (by decide) ?_
                    refine g_callV (pc := 131) (As := [gI x23, gI 7]) hK ws_M_181 md_X12_isOf ⟨Nat.zero_le _, Nat.zero_le _⟩ ⟨by decide, by decide⟩ (kdm kd_200) rfl rfl dd_X12_says_131 rfl rfl (Nat.le_of_ble_eq_true rfl) (d_isOf x23 7 (fun c24 => g_r1 ?_) (fun c24 => g_r1 ?_))
                    · refine g_if_eq (pc := 134) (tgt := 141) hK dd_X12_says_134 (by decide) (by decide) (fun c25 => absurd c25 (by decide)) (fun _ => ?_)
                      refine g_iconst (pc := 137) (x := 0) hK dd_X12_says_137 (by decide) ?_
                      refine g_goto (pc := 138) (tgt := 143) hK dd_X12_says_138 (by decide) ?_
                      refine g_iret (pc := 143) hK hr hlocks dd_X12_says_143 rfl ?_
                      first | exact g_fin (hY (by refine ⟨by omega, ?_⟩; subst_vars; assumption)) (by (first | rw [wrd_0 (by omega)] | rw [wrd_1 (by omega)] | rw [wrd_2 (by omega)] | rw [wrd_3 (by omega)] | rw [wrd_4 (by omega)] | rw [wrd_5 (by omega)]); subst_vars; first | rfl | exact hb0_val _ (by assumption) | (rw [if_pos (by omega)]; done) | (rw [if_neg (by omega)]; done) | (split <;> omega) | (unfold lidW; first | rw [if_pos (by assumption)] | rw [if_neg (by assumption)])) (by first | rfl | (subst_vars; rfl)) | (exfalso; omega)
                    · refine g_if_eq (pc := 134) (tgt := 141) hK dd_X12_says_134 (by decide) (by decide) (fun _ => ?_) (fun c26 => absurd (by decide) c26)
                      refine g_bipush (pc := 141) (x := 50) hK dd_X12_says_141 (by decide) ?_
                      refine g_iret (pc := 143) hK hr hlocks dd_X12_says_143 rfl ?_
                      first | exact g_fin (hY (by refine ⟨by omega, ?_⟩; subst_vars; assumption)) (by (first | rw [wrd_0 (by omega)] | rw [wrd_1 (by omega)] | rw [wrd_2 (by omega)] | rw [wrd_3 (by omega)] | rw [wrd_4 (by omega)] | rw [wrd_5 (by omega)]); subst_vars; first | rfl | exact hb0_val _ (by assumption) | (rw [if_pos (by omega)]; done) | (rw [if_neg (by omega)]; done) | (split <;> omega) | (unfold lidW; first | rw [if_pos (by assumption)] | rw [if_neg (by assumption)])) (by first | rfl | (subst_vars; rfl)) | (exfalso; omega)
                · refine g_aloadn (pc := 108) (i := 0) (x := 200) hK dd_X12_says_108 rfl rfl ?_
                  refine g_getv (pc := 109) (f := (1, 7)) (j := 6) (v := gR 207) hK (kdm kd_200) rfl ef_12 (by decide) rfl kk_1107 dd_X12_says_109 rfl ?_
                  refine g_iloadn (pc := 112) (i := 3) (x := x10) hK dd_X12_says_112 rfl rfl ?_
                  refine g_iald (pc := 113) hK (kdm kd_207) nl_207 (by decide) dd_X12_says_113 (by omega) (by omega) (fun x27 ex27 rx27 => ?_)
                  refine g_iconst (pc := 114) (x := 1) hK dd_X12_says_114 (by decide) ?_
                  refine g_iand (pc := 115) (z := jand x27 1) hK dd_X12_says_115 rfl ?_
                  have hj1 := jand1 (x27)
                  refine g_iret (pc := 116) hK hr hlocks dd_X12_says_116 rfl ?_
                  first | exact g_fin (hB (by first | omega | (subst_vars; omega) | exact ⟨by first | assumption | omega | (subst_vars; first | assumption | omega), by first | assumption | omega | (subst_vars; first | assumption | omega)⟩)) (by first | rfl | omega | (subst_vars; first | rfl | omega)) (by first | rfl | (subst_vars; rfl)) | exact g_fin (hR (by first | omega | (subst_vars; omega) | exact ⟨by first | assumption | omega | (subst_vars; first | assumption | omega), by first | assumption | omega | (subst_vars; first | assumption | omega)⟩)) (by first | rfl | omega | (subst_vars; first | rfl | omega)) (by first | rfl | (subst_vars; rfl)) | exact g_fin (hN (by first | omega | (subst_vars; omega) | exact ⟨by first | assumption | omega | (subst_vars; first | assumption | omega), by first | assumption | omega | (subst_vars; first | assumption | omega)⟩)) (by first | rfl | omega | (subst_vars; first | rfl | omega)) (by first | rfl | (subst_vars; rfl)) | exact g_fin (hO (by refine ⟨by omega, ?_⟩; subst_vars; assumption)) (by first | rfl | omega | (subst_vars; first | rfl | omega)) (by first | rfl | (subst_vars; rfl)) | exact g_fin (hY (by refine ⟨by omega, ?_⟩; subst_vars; assumption)) (by (first | rw [wrd_0 (by omega)] | rw [wrd_1 (by omega)] | rw [wrd_2 (by omega)] | rw [wrd_3 (by omega)] | rw [wrd_4 (by omega)] | rw [wrd_5 (by omega)]); subst_vars; first | rfl | exact hb0_val _ (by assumption) | (rw [if_pos (by omega)]; done) | (rw [if_neg (by omega)]; done) | (split <;> omega) | (unfold lidW; first | rw [if_pos (by assumption)] | rw [if_neg (by assumption)])) (by first | rfl | (subst_vars; rfl)) | (exfalso; omega)
              · refine g_aloadn (pc := 97) (i := 0) (x := 200) hK dd_X12_says_97 rfl rfl ?_
                refine g_iloadn (pc := 98) (i := 3) (x := x10) hK dd_X12_says_98 rfl rfl ?_
                refine g_callV (pc := 99) (As := [gI x10]) hK ws_M_178 md_X12_chipsOf ⟨Nat.zero_le _, Nat.zero_le _⟩ ⟨by decide, by decide⟩ (kdm kd_200) rfl rfl dd_X12_says_99 rfl rfl (Nat.le_of_ble_eq_true rfl) (d_chipsOf x10 (by omega) (by omega) (g_r1 ?_))
                refine g_topI (fun y28 ey28 => ?_)
                refine g_iret (pc := 102) hK hr hlocks dd_X12_says_102 rfl ?_
                first | exact g_fin (hB (by first | omega | (subst_vars; omega) | exact ⟨by first | assumption | omega | (subst_vars; first | assumption | omega), by first | assumption | omega | (subst_vars; first | assumption | omega)⟩)) (by first | rfl | omega | (subst_vars; first | rfl | omega)) (by first | rfl | (subst_vars; rfl)) | exact g_fin (hR (by first | omega | (subst_vars; omega) | exact ⟨by first | assumption | omega | (subst_vars; first | assumption | omega), by first | assumption | omega | (subst_vars; first | assumption | omega)⟩)) (by first | rfl | omega | (subst_vars; first | rfl | omega)) (by first | rfl | (subst_vars; rfl)) | exact g_fin (hN (by first | omega | (subst_vars; omega) | exact ⟨by first | assumption | omega | (subst_vars; first | assumption | omega), by first | assumption | omega | (subst_vars; first | assumption | omega)⟩)) (by first | rfl | omega | (subst_vars; first | rfl | omega)) (by first | rfl | (subst_vars; rfl)) | exact g_fin (hO (by refine ⟨by omega, ?_⟩; subst_vars; assumption)) (by first | rfl | omega | (subst_vars; first | rfl | omega)) (by first | rfl | (subst_vars; rfl)) | exact g_fin (hY (by refine ⟨by omega, ?_⟩; subst_vars; assumption)) (by (first | rw [wrd_0 (by omega)] | rw [wrd_1 (by omega)] | rw [wrd_2 (by omega)] | rw [wrd_3 (by omega)] | rw [wrd_4 (by omega)] | rw [wrd_5 (by omega)]); subst_vars; first | rfl | exact hb0_val _ (by assumption) | (rw [if_pos (by omega)]; done) | (rw [if_neg (by omega)]; done) | (split <;> omega) | (unfold lidW; first | rw [if_pos (by assumption)] | rw [if_neg (by assumption)])) (by first | rfl | (subst_vars; rfl)) | (exfalso; omega)
            · refine g_aloadn (pc := 86) (i := 0) (x := 200) hK dd_X12_says_86 rfl rfl ?_
              refine g_iloadn (pc := 87) (i := 3) (x := x10) hK dd_X12_says_87 rfl rfl ?_
              refine g_callV (pc := 88) (As := [gI x10]) hK ws_M_175 md_X12_trueWorth ⟨Nat.zero_le _, Nat.zero_le _⟩ ⟨by decide, by decide⟩ (kdm kd_200) rfl rfl dd_X12_says_88 rfl rfl (Nat.le_of_ble_eq_true rfl) (d_trueWorth x10 (by omega) (by omega) hthm (g_r1 ?_))
              refine g_topI (fun y29 ey29 => ?_)
              refine g_iret (pc := 91) hK hr hlocks dd_X12_says_91 rfl ?_
              first | exact g_fin (hB (by first | omega | (subst_vars; omega) | exact ⟨by first | assumption | omega | (subst_vars; first | assumption | omega), by first | assumption | omega | (subst_vars; first | assumption | omega)⟩)) (by first | rfl | omega | (subst_vars; first | rfl | omega)) (by first | rfl | (subst_vars; rfl)) | exact g_fin (hR (by first | omega | (subst_vars; omega) | exact ⟨by first | assumption | omega | (subst_vars; first | assumption | omega), by first | assumption | omega | (subst_vars; first | assumption | omega)⟩)) (by first | rfl | omega | (subst_vars; first | rfl | omega)) (by first | rfl | (subst_vars; rfl)) | exact g_fin (hN (by first | omega | (subst_vars; omega) | exact ⟨by first | assumption | omega | (subst_vars; first | assumption | omega), by first | assumption | omega | (subst_vars; first | assumption | omega)⟩)) (by first | rfl | omega | (subst_vars; first | rfl | omega)) (by first | rfl | (subst_vars; rfl)) | exact g_fin (hO (by refine ⟨by omega, ?_⟩; subst_vars; assumption)) (by first | rfl | omega | (subst_vars; first | rfl | omega)) (by first | rfl | (subst_vars; rfl)) | exact g_fin (hY (by refine ⟨by omega, ?_⟩; subst_vars; assumption)) (by (first | rw [wrd_0 (by omega)] | rw [wrd_1 (by omega)] | rw [wrd_2 (by omega)] | rw [wrd_3 (by omega)] | rw [wrd_4 (by omega)] | rw [wrd_5 (by omega)]); subst_vars; first | rfl | exact hb0_val _ (by assumption) | (rw [if_pos (by omega)]; done) | (rw [if_neg (by omega)]; done) | (split <;> omega) | (unfold lidW; first | rw [if_pos (by assumption)] | rw [if_neg (by assumption)])) (by first | rfl | (subst_vars; rfl)) | (exfalso; omega)
          · refine g_if_ne (pc := 72) (tgt := 82) hK dd_X12_says_72 (by decide) (by decide) (fun c30 => absurd c30 (by decide)) (fun _ => ?_)
            refine g_aloadn (pc := 75) (i := 0) (x := 200) hK dd_X12_says_75 rfl rfl ?_
            refine g_bipush (pc := 76) (x := (-3)) hK dd_X12_says_76 (by decide) ?_
            refine g_callV (pc := 78) (As := [gI (-3)]) hK ws_M_152 md_X12_no ⟨Nat.zero_le _, Nat.zero_le _⟩ ⟨by decide, by decide⟩ (kdm kd_200) rfl rfl dd_X12_says_78 rfl rfl (Nat.le_of_ble_eq_true rfl) (d_no_3 hrg (g_r1 ?_))
            refine g_iret (pc := 81) hK hr hlocks dd_X12_says_81 rfl ?_
            first | exact g_fin (hR (by first | omega | (subst_vars; omega) | exact ⟨by first | assumption | omega | (subst_vars; first | assumption | omega), by first | assumption | omega | (subst_vars; first | assumption | omega)⟩)) (by first | rfl | omega | (subst_vars; first | rfl | omega)) (by first | rfl | (subst_vars; rfl)) | exact g_fin (hO (by refine ⟨by omega, ?_⟩; subst_vars; assumption)) (by first | rfl | omega | (subst_vars; first | rfl | omega)) (by first | rfl | (subst_vars; rfl)) | exact g_fin (hY (by refine ⟨by omega, ?_⟩; subst_vars; assumption)) (by (first | rw [wrd_0 (by omega)] | rw [wrd_1 (by omega)] | rw [wrd_2 (by omega)] | rw [wrd_3 (by omega)] | rw [wrd_4 (by omega)] | rw [wrd_5 (by omega)]); subst_vars; first | rfl | exact hb0_val _ (by assumption) | (rw [if_pos (by omega)]; done) | (rw [if_neg (by omega)]; done) | (split <;> omega) | (unfold lidW; first | rw [if_pos (by assumption)] | rw [if_neg (by assumption)])) (by first | rfl | (subst_vars; rfl)) | (exfalso; omega)
        · refine g_aloadn (pc := 47) (i := 0) (x := 200) hK dd_X12_says_47 rfl rfl ?_
          refine g_bipush (pc := 48) (x := (-4)) hK dd_X12_says_48 (by decide) ?_
          refine g_callV (pc := 50) (As := [gI (-4)]) hK ws_M_152 md_X12_no ⟨Nat.zero_le _, Nat.zero_le _⟩ ⟨by decide, by decide⟩ (kdm kd_200) rfl rfl dd_X12_says_50 rfl rfl (Nat.le_of_ble_eq_true rfl) (d_no_4 hrg (g_r1 ?_))
          refine g_iret (pc := 53) hK hr hlocks dd_X12_says_53 rfl ?_
          first | exact g_fin (hN (by first | omega | (subst_vars; omega) | exact ⟨by first | assumption | omega | (subst_vars; first | assumption | omega), by first | assumption | omega | (subst_vars; first | assumption | omega)⟩)) (by first | rfl | omega | (subst_vars; first | rfl | omega)) (by first | rfl | (subst_vars; rfl)) | exact g_fin (hY (by refine ⟨by omega, ?_⟩; subst_vars; assumption)) (by (first | rw [wrd_0 (by omega)] | rw [wrd_1 (by omega)] | rw [wrd_2 (by omega)] | rw [wrd_3 (by omega)] | rw [wrd_4 (by omega)] | rw [wrd_5 (by omega)]); subst_vars; first | rfl | exact hb0_val _ (by assumption) | (rw [if_pos (by omega)]; done) | (rw [if_neg (by omega)]; done) | (split <;> omega) | (unfold lidW; first | rw [if_pos (by assumption)] | rw [if_neg (by assumption)])) (by first | rfl | (subst_vars; rfl)) | (exfalso; omega)
    · refine g_if_ne (pc := 13) (tgt := 23) hK dd_X12_says_13 (by decide) (by decide) (fun c31 => absurd c31 (by decide)) (fun _ => ?_)
      refine g_aloadn (pc := 16) (i := 0) (x := 200) hK dd_X12_says_16 rfl rfl ?_
      refine g_bipush (pc := 17) (x := (-2)) hK dd_X12_says_17 (by decide) ?_
      refine g_callV (pc := 19) (As := [gI (-2)]) hK ws_M_152 md_X12_no ⟨Nat.zero_le _, Nat.zero_le _⟩ ⟨by decide, by decide⟩ (kdm kd_200) rfl rfl dd_X12_says_19 rfl rfl (Nat.le_of_ble_eq_true rfl) (d_no_2 hrg (g_r1 ?_))
      refine g_iret (pc := 22) hK hr hlocks dd_X12_says_22 rfl ?_
      first | exact g_fin (hB (by first | omega | (subst_vars; omega) | exact ⟨by first | assumption | omega | (subst_vars; first | assumption | omega), by first | assumption | omega | (subst_vars; first | assumption | omega)⟩)) (by first | rfl | omega | (subst_vars; first | rfl | omega)) (by first | rfl | (subst_vars; rfl)) | exact g_fin (hY (by refine ⟨by omega, ?_⟩; subst_vars; assumption)) (by (first | rw [wrd_0 (by omega)] | rw [wrd_1 (by omega)] | rw [wrd_2 (by omega)] | rw [wrd_3 (by omega)] | rw [wrd_4 (by omega)] | rw [wrd_5 (by omega)]); subst_vars; first | rfl | exact hb0_val _ (by assumption) | (rw [if_pos (by omega)]; done) | (rw [if_neg (by omega)]; done) | (split <;> omega) | (unfold lidW; first | rw [if_pos (by assumption)] | rw [if_neg (by assumption)])) (by first | rfl | (subst_vars; rfl)) | (exfalso; omega)
  · refine g_if_eq (pc := 5) (tgt := 16) hK dd_X12_says_5 (by decide) (by decide) (fun _ => ?_) (fun c32 => absurd (by decide) c32)
    refine g_aloadn (pc := 16) (i := 0) (x := 200) hK dd_X12_says_16 rfl rfl ?_
    refine g_bipush (pc := 17) (x := (-2)) hK dd_X12_says_17 (by decide) ?_
    refine g_callV (pc := 19) (As := [gI (-2)]) hK ws_M_152 md_X12_no ⟨Nat.zero_le _, Nat.zero_le _⟩ ⟨by decide, by decide⟩ (kdm kd_200) rfl rfl dd_X12_says_19 rfl rfl (Nat.le_of_ble_eq_true rfl) (d_no_2 hrg (g_r1 ?_))
    refine g_iret (pc := 22) hK hr hlocks dd_X12_says_22 rfl ?_
    first | exact g_fin (hB (by first | omega | (subst_vars; omega) | exact ⟨by first | assumption | omega | (subst_vars; first | assumption | omega), by first | assumption | omega | (subst_vars; first | assumption | omega)⟩)) (by first | rfl | omega | (subst_vars; first | rfl | omega)) (by first | rfl | (subst_vars; rfl)) | exact g_fin (hY (by refine ⟨by omega, ?_⟩; subst_vars; assumption)) (by (first | rw [wrd_0 (by omega)] | rw [wrd_1 (by omega)] | rw [wrd_2 (by omega)] | rw [wrd_3 (by omega)] | rw [wrd_4 (by omega)] | rw [wrd_5 (by omega)]); subst_vars; first | rfl | exact hb0_val _ (by assumption) | (rw [if_pos (by omega)]; done) | (rw [if_neg (by omega)]; done) | (split <;> omega) | (unfold lidW; first | rw [if_pos (by assumption)] | rw [if_neg (by assumption)])) (by first | rfl | (subst_vars; rfl)) | (exfalso; omega)
set_option maxHeartbeats 4000000 in
set_option maxRecDepth 100000 in
theorem y_thingOf {l : Launch} {M : Mem} {Pq : Option gV → Mem → Prop} (t : Int) (wh : Int) (h_t : inI t) (h_wh : inI wh) (hrg : rgOK M) (hmc : 0 ≤ M 200 3 ∧ M 200 3 ≤ 30) (hthm : thOKm M) (hB : (¬ ((0 ≤ t ∧ t < M 200 3) ∧ 0 ≤ wh ∧ wh ≤ 6)) → Pq (some (gI (-2))) (rg M 2)) (h0 : ((0 ≤ t ∧ t < M 200 3) ∧ wh = 0) → Pq (some (gI (M 205 t.toNat))) M) (h1 : ((0 ≤ t ∧ t < M 200 3) ∧ wh = 1) → Pq (some (gI (M 206 t.toNat))) M) (h2 : ((0 ≤ t ∧ t < M 200 3) ∧ wh = 2) → Pq (some (gI (M 207 t.toNat))) M) (h3 : ((0 ≤ t ∧ t < M 200 3) ∧ wh = 3) → Pq (some (gI (TW (M 205 t.toNat) (M 206 t.toNat) (M 207 t.toNat)))) M) (h4 : ((0 ≤ t ∧ t < M 200 3) ∧ wh = 4) → Pq (some (gI (M 208 t.toNat))) M) (h5 : ((0 ≤ t ∧ t < M 200 3) ∧ wh = 5) → Pq (some (gI (M 209 t.toNat))) M) (h6 : ((0 ≤ t ∧ t < M 200 3) ∧ wh = 6) → Pq (some (gI (M 210 t.toNat))) M) : gCtr l my_X12_thingOf mb_X12_thingOf 3 ((some .int)) 4 [gR 200, gI t, gI wh] M Pq := by
  refine g_intro (by decide) (Nat.le_of_ble_eq_true rfl) ?_
  intro p e s m args below meth c D cy q A hK hr hlocks hw
  refine g_sub (L' := [(0, gR 200), (1, gI t), (2, gI wh)]) [0, 1, 2] rfl ?_
  refine g_aloadn (pc := 0) (i := 0) (x := 200) hK dd_X12_thingOf_0 rfl rfl ?_
  refine g_iloadn (pc := 1) (i := 1) (x := t) hK dd_X12_thingOf_1 rfl rfl ?_
  refine g_callV (pc := 2) (As := [gI t]) hK ws_M_165 md_X12_isThing ⟨Nat.zero_le _, Nat.zero_le _⟩ ⟨by decide, by decide⟩ (kdm kd_200) rfl rfl dd_X12_thingOf_2 rfl rfl (Nat.le_of_ble_eq_true rfl) (d_isThing t h_t (fun c1 => g_r1 ?_) (fun c1 => g_r1 ?_))
  · refine g_if_eq (pc := 5) (tgt := 18) hK dd_X12_thingOf_5 (by decide) (by decide) (fun c2 => absurd c2 (by decide)) (fun _ => ?_)
    refine g_iloadn (pc := 8) (i := 2) (x := wh) hK dd_X12_thingOf_8 rfl rfl ?_
    refine g_if_lt (pc := 9) (tgt := 18) hK dd_X12_thingOf_9 (by decide) h_wh (fun c3 => ?_) (fun c3 => ?_)
    · refine g_aloadn (pc := 18) (i := 0) (x := 200) hK dd_X12_thingOf_18 rfl rfl ?_
      refine g_bipush (pc := 19) (x := (-2)) hK dd_X12_thingOf_19 (by decide) ?_
      refine g_callV (pc := 21) (As := [gI (-2)]) hK ws_M_152 md_X12_no ⟨Nat.zero_le _, Nat.zero_le _⟩ ⟨by decide, by decide⟩ (kdm kd_200) rfl rfl dd_X12_thingOf_21 rfl rfl (Nat.le_of_ble_eq_true rfl) (d_no_2 hrg (g_r1 ?_))
      refine g_iret (pc := 24) hK hr hlocks dd_X12_thingOf_24 rfl ?_
      first | exact g_fin (hB (by first | omega | (subst_vars; omega) | exact ⟨by first | assumption | omega | (subst_vars; first | assumption | omega), by first | assumption | omega | (subst_vars; first | assumption | omega)⟩)) (by first | rfl | omega | (subst_vars; first | rfl | omega)) (by first | rfl | (subst_vars; rfl)) | exact g_fin (h0 (by first | omega | (subst_vars; omega) | exact ⟨by first | assumption | omega | (subst_vars; first | assumption | omega), by first | assumption | omega | (subst_vars; first | assumption | omega)⟩)) (by first | rfl | omega | (subst_vars; first | rfl | omega)) (by first | rfl | (subst_vars; rfl)) | exact g_fin (h1 (by first | omega | (subst_vars; omega) | exact ⟨by first | assumption | omega | (subst_vars; first | assumption | omega), by first | assumption | omega | (subst_vars; first | assumption | omega)⟩)) (by first | rfl | omega | (subst_vars; first | rfl | omega)) (by first | rfl | (subst_vars; rfl)) | exact g_fin (h2 (by first | omega | (subst_vars; omega) | exact ⟨by first | assumption | omega | (subst_vars; first | assumption | omega), by first | assumption | omega | (subst_vars; first | assumption | omega)⟩)) (by first | rfl | omega | (subst_vars; first | rfl | omega)) (by first | rfl | (subst_vars; rfl)) | exact g_fin (h3 (by first | omega | (subst_vars; omega) | exact ⟨by first | assumption | omega | (subst_vars; first | assumption | omega), by first | assumption | omega | (subst_vars; first | assumption | omega)⟩)) (by first | rfl | omega | (subst_vars; first | rfl | omega)) (by first | rfl | (subst_vars; rfl)) | exact g_fin (h4 (by first | omega | (subst_vars; omega) | exact ⟨by first | assumption | omega | (subst_vars; first | assumption | omega), by first | assumption | omega | (subst_vars; first | assumption | omega)⟩)) (by first | rfl | omega | (subst_vars; first | rfl | omega)) (by first | rfl | (subst_vars; rfl)) | exact g_fin (h5 (by first | omega | (subst_vars; omega) | exact ⟨by first | assumption | omega | (subst_vars; first | assumption | omega), by first | assumption | omega | (subst_vars; first | assumption | omega)⟩)) (by first | rfl | omega | (subst_vars; first | rfl | omega)) (by first | rfl | (subst_vars; rfl)) | exact g_fin (h6 (by first | omega | (subst_vars; omega) | exact ⟨by first | assumption | omega | (subst_vars; first | assumption | omega), by first | assumption | omega | (subst_vars; first | assumption | omega)⟩)) (by first | rfl | omega | (subst_vars; first | rfl | omega)) (by first | rfl | (subst_vars; rfl)) | (exfalso; omega)
    · refine g_iloadn (pc := 12) (i := 2) (x := wh) hK dd_X12_thingOf_12 rfl rfl ?_
      refine g_bipush (pc := 13) (x := 6) hK dd_X12_thingOf_13 (by decide) ?_
      refine g_icmp_le (pc := 15) (tgt := 25) hK dd_X12_thingOf_15 (by decide) h_wh (by decide) (fun c4 => ?_) (fun c4 => ?_)
      · refine g_iloadn (pc := 25) (i := 2) (x := wh) hK dd_X12_thingOf_25 rfl rfl ?_
        refine g_if_ne (pc := 26) (tgt := 36) hK dd_X12_thingOf_26 (by decide) h_wh (fun c5 => ?_) (fun c5 => ?_)
        · refine g_iloadn (pc := 36) (i := 2) (x := wh) hK dd_X12_thingOf_36 rfl rfl ?_
          refine g_iconst (pc := 37) (x := 1) hK dd_X12_thingOf_37 (by decide) ?_
          refine g_icmp_ne (pc := 38) (tgt := 48) hK dd_X12_thingOf_38 (by decide) h_wh (by decide) (fun c6 => ?_) (fun c6 => ?_)
          · refine g_iloadn (pc := 48) (i := 2) (x := wh) hK dd_X12_thingOf_48 rfl rfl ?_
            refine g_iconst (pc := 49) (x := 2) hK dd_X12_thingOf_49 (by decide) ?_
            refine g_icmp_ne (pc := 50) (tgt := 60) hK dd_X12_thingOf_50 (by decide) h_wh (by decide) (fun c7 => ?_) (fun c7 => ?_)
            · refine g_iloadn (pc := 60) (i := 2) (x := wh) hK dd_X12_thingOf_60 rfl rfl ?_
              refine g_iconst (pc := 61) (x := 3) hK dd_X12_thingOf_61 (by decide) ?_
              refine g_icmp_ne (pc := 62) (tgt := 71) hK dd_X12_thingOf_62 (by decide) h_wh (by decide) (fun c8 => ?_) (fun c8 => ?_)
              · refine g_iloadn (pc := 71) (i := 2) (x := wh) hK dd_X12_thingOf_71 rfl rfl ?_
                refine g_iconst (pc := 72) (x := 4) hK dd_X12_thingOf_72 (by decide) ?_
                refine g_icmp_ne (pc := 73) (tgt := 83) hK dd_X12_thingOf_73 (by decide) h_wh (by decide) (fun c9 => ?_) (fun c9 => ?_)
                · refine g_iloadn (pc := 83) (i := 2) (x := wh) hK dd_X12_thingOf_83 rfl rfl ?_
                  refine g_iconst (pc := 84) (x := 5) hK dd_X12_thingOf_84 (by decide) ?_
                  refine g_icmp_ne (pc := 85) (tgt := 97) hK dd_X12_thingOf_85 (by decide) h_wh (by decide) (fun c10 => ?_) (fun c10 => ?_)
                  · refine g_aloadn (pc := 97) (i := 0) (x := 200) hK dd_X12_thingOf_97 rfl rfl ?_
                    refine g_getv (pc := 98) (f := (1, 10)) (j := 9) (v := gR 210) hK (kdm kd_200) rfl ef_12 (by decide) rfl kk_1110 dd_X12_thingOf_98 rfl ?_
                    refine g_iloadn (pc := 101) (i := 1) (x := t) hK dd_X12_thingOf_101 rfl rfl ?_
                    refine g_iald (pc := 102) hK (kdm kd_210) nl_210 (by decide) dd_X12_thingOf_102 (by omega) (by omega) (fun x11 ex11 rx11 => ?_)
                    refine g_iret (pc := 103) hK hr hlocks dd_X12_thingOf_103 rfl ?_
                    first | exact g_fin (hB (by first | omega | (subst_vars; omega) | exact ⟨by first | assumption | omega | (subst_vars; first | assumption | omega), by first | assumption | omega | (subst_vars; first | assumption | omega)⟩)) (by first | rfl | omega | (subst_vars; first | rfl | omega)) (by first | rfl | (subst_vars; rfl)) | exact g_fin (h0 (by first | omega | (subst_vars; omega) | exact ⟨by first | assumption | omega | (subst_vars; first | assumption | omega), by first | assumption | omega | (subst_vars; first | assumption | omega)⟩)) (by first | rfl | omega | (subst_vars; first | rfl | omega)) (by first | rfl | (subst_vars; rfl)) | exact g_fin (h1 (by first | omega | (subst_vars; omega) | exact ⟨by first | assumption | omega | (subst_vars; first | assumption | omega), by first | assumption | omega | (subst_vars; first | assumption | omega)⟩)) (by first | rfl | omega | (subst_vars; first | rfl | omega)) (by first | rfl | (subst_vars; rfl)) | exact g_fin (h2 (by first | omega | (subst_vars; omega) | exact ⟨by first | assumption | omega | (subst_vars; first | assumption | omega), by first | assumption | omega | (subst_vars; first | assumption | omega)⟩)) (by first | rfl | omega | (subst_vars; first | rfl | omega)) (by first | rfl | (subst_vars; rfl)) | exact g_fin (h3 (by first | omega | (subst_vars; omega) | exact ⟨by first | assumption | omega | (subst_vars; first | assumption | omega), by first | assumption | omega | (subst_vars; first | assumption | omega)⟩)) (by first | rfl | omega | (subst_vars; first | rfl | omega)) (by first | rfl | (subst_vars; rfl)) | exact g_fin (h4 (by first | omega | (subst_vars; omega) | exact ⟨by first | assumption | omega | (subst_vars; first | assumption | omega), by first | assumption | omega | (subst_vars; first | assumption | omega)⟩)) (by first | rfl | omega | (subst_vars; first | rfl | omega)) (by first | rfl | (subst_vars; rfl)) | exact g_fin (h5 (by first | omega | (subst_vars; omega) | exact ⟨by first | assumption | omega | (subst_vars; first | assumption | omega), by first | assumption | omega | (subst_vars; first | assumption | omega)⟩)) (by first | rfl | omega | (subst_vars; first | rfl | omega)) (by first | rfl | (subst_vars; rfl)) | exact g_fin (h6 (by first | omega | (subst_vars; omega) | exact ⟨by first | assumption | omega | (subst_vars; first | assumption | omega), by first | assumption | omega | (subst_vars; first | assumption | omega)⟩)) (by first | rfl | omega | (subst_vars; first | rfl | omega)) (by first | rfl | (subst_vars; rfl)) | (exfalso; omega)
                  · refine g_aloadn (pc := 88) (i := 0) (x := 200) hK dd_X12_thingOf_88 rfl rfl ?_
                    refine g_getv (pc := 89) (f := (1, 9)) (j := 8) (v := gR 209) hK (kdm kd_200) rfl ef_12 (by decide) rfl kk_1109 dd_X12_thingOf_89 rfl ?_
                    refine g_iloadn (pc := 92) (i := 1) (x := t) hK dd_X12_thingOf_92 rfl rfl ?_
                    refine g_iald (pc := 93) hK (kdm kd_209) nl_209 (by decide) dd_X12_thingOf_93 (by omega) (by omega) (fun x12 ex12 rx12 => ?_)
                    refine g_goto (pc := 94) (tgt := 103) hK dd_X12_thingOf_94 (by decide) ?_
                    refine g_iret (pc := 103) hK hr hlocks dd_X12_thingOf_103 rfl ?_
                    first | exact g_fin (hB (by first | omega | (subst_vars; omega) | exact ⟨by first | assumption | omega | (subst_vars; first | assumption | omega), by first | assumption | omega | (subst_vars; first | assumption | omega)⟩)) (by first | rfl | omega | (subst_vars; first | rfl | omega)) (by first | rfl | (subst_vars; rfl)) | exact g_fin (h0 (by first | omega | (subst_vars; omega) | exact ⟨by first | assumption | omega | (subst_vars; first | assumption | omega), by first | assumption | omega | (subst_vars; first | assumption | omega)⟩)) (by first | rfl | omega | (subst_vars; first | rfl | omega)) (by first | rfl | (subst_vars; rfl)) | exact g_fin (h1 (by first | omega | (subst_vars; omega) | exact ⟨by first | assumption | omega | (subst_vars; first | assumption | omega), by first | assumption | omega | (subst_vars; first | assumption | omega)⟩)) (by first | rfl | omega | (subst_vars; first | rfl | omega)) (by first | rfl | (subst_vars; rfl)) | exact g_fin (h2 (by first | omega | (subst_vars; omega) | exact ⟨by first | assumption | omega | (subst_vars; first | assumption | omega), by first | assumption | omega | (subst_vars; first | assumption | omega)⟩)) (by first | rfl | omega | (subst_vars; first | rfl | omega)) (by first | rfl | (subst_vars; rfl)) | exact g_fin (h3 (by first | omega | (subst_vars; omega) | exact ⟨by first | assumption | omega | (subst_vars; first | assumption | omega), by first | assumption | omega | (subst_vars; first | assumption | omega)⟩)) (by first | rfl | omega | (subst_vars; first | rfl | omega)) (by first | rfl | (subst_vars; rfl)) | exact g_fin (h4 (by first | omega | (subst_vars; omega) | exact ⟨by first | assumption | omega | (subst_vars; first | assumption | omega), by first | assumption | omega | (subst_vars; first | assumption | omega)⟩)) (by first | rfl | omega | (subst_vars; first | rfl | omega)) (by first | rfl | (subst_vars; rfl)) | exact g_fin (h5 (by first | omega | (subst_vars; omega) | exact ⟨by first | assumption | omega | (subst_vars; first | assumption | omega), by first | assumption | omega | (subst_vars; first | assumption | omega)⟩)) (by first | rfl | omega | (subst_vars; first | rfl | omega)) (by first | rfl | (subst_vars; rfl)) | exact g_fin (h6 (by first | omega | (subst_vars; omega) | exact ⟨by first | assumption | omega | (subst_vars; first | assumption | omega), by first | assumption | omega | (subst_vars; first | assumption | omega)⟩)) (by first | rfl | omega | (subst_vars; first | rfl | omega)) (by first | rfl | (subst_vars; rfl)) | (exfalso; omega)
                · refine g_aloadn (pc := 76) (i := 0) (x := 200) hK dd_X12_thingOf_76 rfl rfl ?_
                  refine g_getv (pc := 77) (f := (1, 8)) (j := 7) (v := gR 208) hK (kdm kd_200) rfl ef_12 (by decide) rfl kk_1108 dd_X12_thingOf_77 rfl ?_
                  refine g_iloadn (pc := 80) (i := 1) (x := t) hK dd_X12_thingOf_80 rfl rfl ?_
                  refine g_iald (pc := 81) hK (kdm kd_208) nl_208 (by decide) dd_X12_thingOf_81 (by omega) (by omega) (fun x13 ex13 rx13 => ?_)
                  refine g_iret (pc := 82) hK hr hlocks dd_X12_thingOf_82 rfl ?_
                  first | exact g_fin (hB (by first | omega | (subst_vars; omega) | exact ⟨by first | assumption | omega | (subst_vars; first | assumption | omega), by first | assumption | omega | (subst_vars; first | assumption | omega)⟩)) (by first | rfl | omega | (subst_vars; first | rfl | omega)) (by first | rfl | (subst_vars; rfl)) | exact g_fin (h0 (by first | omega | (subst_vars; omega) | exact ⟨by first | assumption | omega | (subst_vars; first | assumption | omega), by first | assumption | omega | (subst_vars; first | assumption | omega)⟩)) (by first | rfl | omega | (subst_vars; first | rfl | omega)) (by first | rfl | (subst_vars; rfl)) | exact g_fin (h1 (by first | omega | (subst_vars; omega) | exact ⟨by first | assumption | omega | (subst_vars; first | assumption | omega), by first | assumption | omega | (subst_vars; first | assumption | omega)⟩)) (by first | rfl | omega | (subst_vars; first | rfl | omega)) (by first | rfl | (subst_vars; rfl)) | exact g_fin (h2 (by first | omega | (subst_vars; omega) | exact ⟨by first | assumption | omega | (subst_vars; first | assumption | omega), by first | assumption | omega | (subst_vars; first | assumption | omega)⟩)) (by first | rfl | omega | (subst_vars; first | rfl | omega)) (by first | rfl | (subst_vars; rfl)) | exact g_fin (h3 (by first | omega | (subst_vars; omega) | exact ⟨by first | assumption | omega | (subst_vars; first | assumption | omega), by first | assumption | omega | (subst_vars; first | assumption | omega)⟩)) (by first | rfl | omega | (subst_vars; first | rfl | omega)) (by first | rfl | (subst_vars; rfl)) | exact g_fin (h4 (by first | omega | (subst_vars; omega) | exact ⟨by first | assumption | omega | (subst_vars; first | assumption | omega), by first | assumption | omega | (subst_vars; first | assumption | omega)⟩)) (by first | rfl | omega | (subst_vars; first | rfl | omega)) (by first | rfl | (subst_vars; rfl)) | exact g_fin (h5 (by first | omega | (subst_vars; omega) | exact ⟨by first | assumption | omega | (subst_vars; first | assumption | omega), by first | assumption | omega | (subst_vars; first | assumption | omega)⟩)) (by first | rfl | omega | (subst_vars; first | rfl | omega)) (by first | rfl | (subst_vars; rfl)) | exact g_fin (h6 (by first | omega | (subst_vars; omega) | exact ⟨by first | assumption | omega | (subst_vars; first | assumption | omega), by first | assumption | omega | (subst_vars; first | assumption | omega)⟩)) (by first | rfl | omega | (subst_vars; first | rfl | omega)) (by first | rfl | (subst_vars; rfl)) | (exfalso; omega)
              · refine g_aloadn (pc := 65) (i := 0) (x := 200) hK dd_X12_thingOf_65 rfl rfl ?_
                refine g_iloadn (pc := 66) (i := 1) (x := t) hK dd_X12_thingOf_66 rfl rfl ?_
                refine g_callV (pc := 67) (As := [gI t]) hK ws_M_175 md_X12_trueWorth ⟨Nat.zero_le _, Nat.zero_le _⟩ ⟨by decide, by decide⟩ (kdm kd_200) rfl rfl dd_X12_thingOf_67 rfl rfl (Nat.le_of_ble_eq_true rfl) (d_trueWorth t (by omega) (by omega) hthm (g_r1 ?_))
                refine g_topI (fun y14 ey14 => ?_)
                refine g_iret (pc := 70) hK hr hlocks dd_X12_thingOf_70 rfl ?_
                first | exact g_fin (hB (by first | omega | (subst_vars; omega) | exact ⟨by first | assumption | omega | (subst_vars; first | assumption | omega), by first | assumption | omega | (subst_vars; first | assumption | omega)⟩)) (by first | rfl | omega | (subst_vars; first | rfl | omega)) (by first | rfl | (subst_vars; rfl)) | exact g_fin (h0 (by first | omega | (subst_vars; omega) | exact ⟨by first | assumption | omega | (subst_vars; first | assumption | omega), by first | assumption | omega | (subst_vars; first | assumption | omega)⟩)) (by first | rfl | omega | (subst_vars; first | rfl | omega)) (by first | rfl | (subst_vars; rfl)) | exact g_fin (h1 (by first | omega | (subst_vars; omega) | exact ⟨by first | assumption | omega | (subst_vars; first | assumption | omega), by first | assumption | omega | (subst_vars; first | assumption | omega)⟩)) (by first | rfl | omega | (subst_vars; first | rfl | omega)) (by first | rfl | (subst_vars; rfl)) | exact g_fin (h2 (by first | omega | (subst_vars; omega) | exact ⟨by first | assumption | omega | (subst_vars; first | assumption | omega), by first | assumption | omega | (subst_vars; first | assumption | omega)⟩)) (by first | rfl | omega | (subst_vars; first | rfl | omega)) (by first | rfl | (subst_vars; rfl)) | exact g_fin (h3 (by first | omega | (subst_vars; omega) | exact ⟨by first | assumption | omega | (subst_vars; first | assumption | omega), by first | assumption | omega | (subst_vars; first | assumption | omega)⟩)) (by first | rfl | omega | (subst_vars; first | rfl | omega)) (by first | rfl | (subst_vars; rfl)) | exact g_fin (h4 (by first | omega | (subst_vars; omega) | exact ⟨by first | assumption | omega | (subst_vars; first | assumption | omega), by first | assumption | omega | (subst_vars; first | assumption | omega)⟩)) (by first | rfl | omega | (subst_vars; first | rfl | omega)) (by first | rfl | (subst_vars; rfl)) | exact g_fin (h5 (by first | omega | (subst_vars; omega) | exact ⟨by first | assumption | omega | (subst_vars; first | assumption | omega), by first | assumption | omega | (subst_vars; first | assumption | omega)⟩)) (by first | rfl | omega | (subst_vars; first | rfl | omega)) (by first | rfl | (subst_vars; rfl)) | exact g_fin (h6 (by first | omega | (subst_vars; omega) | exact ⟨by first | assumption | omega | (subst_vars; first | assumption | omega), by first | assumption | omega | (subst_vars; first | assumption | omega)⟩)) (by first | rfl | omega | (subst_vars; first | rfl | omega)) (by first | rfl | (subst_vars; rfl)) | (exfalso; omega)
            · refine g_aloadn (pc := 53) (i := 0) (x := 200) hK dd_X12_thingOf_53 rfl rfl ?_
              refine g_getv (pc := 54) (f := (1, 7)) (j := 6) (v := gR 207) hK (kdm kd_200) rfl ef_12 (by decide) rfl kk_1107 dd_X12_thingOf_54 rfl ?_
              refine g_iloadn (pc := 57) (i := 1) (x := t) hK dd_X12_thingOf_57 rfl rfl ?_
              refine g_iald (pc := 58) hK (kdm kd_207) nl_207 (by decide) dd_X12_thingOf_58 (by omega) (by omega) (fun x15 ex15 rx15 => ?_)
              refine g_iret (pc := 59) hK hr hlocks dd_X12_thingOf_59 rfl ?_
              first | exact g_fin (hB (by first | omega | (subst_vars; omega) | exact ⟨by first | assumption | omega | (subst_vars; first | assumption | omega), by first | assumption | omega | (subst_vars; first | assumption | omega)⟩)) (by first | rfl | omega | (subst_vars; first | rfl | omega)) (by first | rfl | (subst_vars; rfl)) | exact g_fin (h0 (by first | omega | (subst_vars; omega) | exact ⟨by first | assumption | omega | (subst_vars; first | assumption | omega), by first | assumption | omega | (subst_vars; first | assumption | omega)⟩)) (by first | rfl | omega | (subst_vars; first | rfl | omega)) (by first | rfl | (subst_vars; rfl)) | exact g_fin (h1 (by first | omega | (subst_vars; omega) | exact ⟨by first | assumption | omega | (subst_vars; first | assumption | omega), by first | assumption | omega | (subst_vars; first | assumption | omega)⟩)) (by first | rfl | omega | (subst_vars; first | rfl | omega)) (by first | rfl | (subst_vars; rfl)) | exact g_fin (h2 (by first | omega | (subst_vars; omega) | exact ⟨by first | assumption | omega | (subst_vars; first | assumption | omega), by first | assumption | omega | (subst_vars; first | assumption | omega)⟩)) (by first | rfl | omega | (subst_vars; first | rfl | omega)) (by first | rfl | (subst_vars; rfl)) | exact g_fin (h3 (by first | omega | (subst_vars; omega) | exact ⟨by first | assumption | omega | (subst_vars; first | assumption | omega), by first | assumption | omega | (subst_vars; first | assumption | omega)⟩)) (by first | rfl | omega | (subst_vars; first | rfl | omega)) (by first | rfl | (subst_vars; rfl)) | exact g_fin (h4 (by first | omega | (subst_vars; omega) | exact ⟨by first | assumption | omega | (subst_vars; first | assumption | omega), by first | assumption | omega | (subst_vars; first | assumption | omega)⟩)) (by first | rfl | omega | (subst_vars; first | rfl | omega)) (by first | rfl | (subst_vars; rfl)) | exact g_fin (h5 (by first | omega | (subst_vars; omega) | exact ⟨by first | assumption | omega | (subst_vars; first | assumption | omega), by first | assumption | omega | (subst_vars; first | assumption | omega)⟩)) (by first | rfl | omega | (subst_vars; first | rfl | omega)) (by first | rfl | (subst_vars; rfl)) | exact g_fin (h6 (by first | omega | (subst_vars; omega) | exact ⟨by first | assumption | omega | (subst_vars; first | assumption | omega), by first | assumption | omega | (subst_vars; first | assumption | omega)⟩)) (by first | rfl | omega | (subst_vars; first | rfl | omega)) (by first | rfl | (subst_vars; rfl)) | (exfalso; omega)
          · refine g_aloadn (pc := 41) (i := 0) (x := 200) hK dd_X12_thingOf_41 rfl rfl ?_
            refine g_getv (pc := 42) (f := (1, 6)) (j := 5) (v := gR 206) hK (kdm kd_200) rfl ef_12 (by decide) rfl kk_1106 dd_X12_thingOf_42 rfl ?_
            refine g_iloadn (pc := 45) (i := 1) (x := t) hK dd_X12_thingOf_45 rfl rfl ?_
            refine g_iald (pc := 46) hK (kdm kd_206) nl_206 (by decide) dd_X12_thingOf_46 (by omega) (by omega) (fun x16 ex16 rx16 => ?_)
            refine g_iret (pc := 47) hK hr hlocks dd_X12_thingOf_47 rfl ?_
            first | exact g_fin (hB (by first | omega | (subst_vars; omega) | exact ⟨by first | assumption | omega | (subst_vars; first | assumption | omega), by first | assumption | omega | (subst_vars; first | assumption | omega)⟩)) (by first | rfl | omega | (subst_vars; first | rfl | omega)) (by first | rfl | (subst_vars; rfl)) | exact g_fin (h0 (by first | omega | (subst_vars; omega) | exact ⟨by first | assumption | omega | (subst_vars; first | assumption | omega), by first | assumption | omega | (subst_vars; first | assumption | omega)⟩)) (by first | rfl | omega | (subst_vars; first | rfl | omega)) (by first | rfl | (subst_vars; rfl)) | exact g_fin (h1 (by first | omega | (subst_vars; omega) | exact ⟨by first | assumption | omega | (subst_vars; first | assumption | omega), by first | assumption | omega | (subst_vars; first | assumption | omega)⟩)) (by first | rfl | omega | (subst_vars; first | rfl | omega)) (by first | rfl | (subst_vars; rfl)) | exact g_fin (h2 (by first | omega | (subst_vars; omega) | exact ⟨by first | assumption | omega | (subst_vars; first | assumption | omega), by first | assumption | omega | (subst_vars; first | assumption | omega)⟩)) (by first | rfl | omega | (subst_vars; first | rfl | omega)) (by first | rfl | (subst_vars; rfl)) | exact g_fin (h3 (by first | omega | (subst_vars; omega) | exact ⟨by first | assumption | omega | (subst_vars; first | assumption | omega), by first | assumption | omega | (subst_vars; first | assumption | omega)⟩)) (by first | rfl | omega | (subst_vars; first | rfl | omega)) (by first | rfl | (subst_vars; rfl)) | exact g_fin (h4 (by first | omega | (subst_vars; omega) | exact ⟨by first | assumption | omega | (subst_vars; first | assumption | omega), by first | assumption | omega | (subst_vars; first | assumption | omega)⟩)) (by first | rfl | omega | (subst_vars; first | rfl | omega)) (by first | rfl | (subst_vars; rfl)) | exact g_fin (h5 (by first | omega | (subst_vars; omega) | exact ⟨by first | assumption | omega | (subst_vars; first | assumption | omega), by first | assumption | omega | (subst_vars; first | assumption | omega)⟩)) (by first | rfl | omega | (subst_vars; first | rfl | omega)) (by first | rfl | (subst_vars; rfl)) | exact g_fin (h6 (by first | omega | (subst_vars; omega) | exact ⟨by first | assumption | omega | (subst_vars; first | assumption | omega), by first | assumption | omega | (subst_vars; first | assumption | omega)⟩)) (by first | rfl | omega | (subst_vars; first | rfl | omega)) (by first | rfl | (subst_vars; rfl)) | (exfalso; omega)
        · refine g_aloadn (pc := 29) (i := 0) (x := 200) hK dd_X12_thingOf_29 rfl rfl ?_
          refine g_getv (pc := 30) (f := (1, 5)) (j := 4) (v := gR 205) hK (kdm kd_200) rfl ef_12 (by decide) rfl kk_1105 dd_X12_thingOf_30 rfl ?_
          refine g_iloadn (pc := 33) (i := 1) (x := t) hK dd_X12_thingOf_33 rfl rfl ?_
          refine g_iald (pc := 34) hK (kdm kd_205) nl_205 (by decide) dd_X12_thingOf_34 (by omega) (by omega) (fun x17 ex17 rx17 => ?_)
          refine g_iret (pc := 35) hK hr hlocks dd_X12_thingOf_35 rfl ?_
          first | exact g_fin (hB (by first | omega | (subst_vars; omega) | exact ⟨by first | assumption | omega | (subst_vars; first | assumption | omega), by first | assumption | omega | (subst_vars; first | assumption | omega)⟩)) (by first | rfl | omega | (subst_vars; first | rfl | omega)) (by first | rfl | (subst_vars; rfl)) | exact g_fin (h0 (by first | omega | (subst_vars; omega) | exact ⟨by first | assumption | omega | (subst_vars; first | assumption | omega), by first | assumption | omega | (subst_vars; first | assumption | omega)⟩)) (by first | rfl | omega | (subst_vars; first | rfl | omega)) (by first | rfl | (subst_vars; rfl)) | exact g_fin (h1 (by first | omega | (subst_vars; omega) | exact ⟨by first | assumption | omega | (subst_vars; first | assumption | omega), by first | assumption | omega | (subst_vars; first | assumption | omega)⟩)) (by first | rfl | omega | (subst_vars; first | rfl | omega)) (by first | rfl | (subst_vars; rfl)) | exact g_fin (h2 (by first | omega | (subst_vars; omega) | exact ⟨by first | assumption | omega | (subst_vars; first | assumption | omega), by first | assumption | omega | (subst_vars; first | assumption | omega)⟩)) (by first | rfl | omega | (subst_vars; first | rfl | omega)) (by first | rfl | (subst_vars; rfl)) | exact g_fin (h3 (by first | omega | (subst_vars; omega) | exact ⟨by first | assumption | omega | (subst_vars; first | assumption | omega), by first | assumption | omega | (subst_vars; first | assumption | omega)⟩)) (by first | rfl | omega | (subst_vars; first | rfl | omega)) (by first | rfl | (subst_vars; rfl)) | exact g_fin (h4 (by first | omega | (subst_vars; omega) | exact ⟨by first | assumption | omega | (subst_vars; first | assumption | omega), by first | assumption | omega | (subst_vars; first | assumption | omega)⟩)) (by first | rfl | omega | (subst_vars; first | rfl | omega)) (by first | rfl | (subst_vars; rfl)) | exact g_fin (h5 (by first | omega | (subst_vars; omega) | exact ⟨by first | assumption | omega | (subst_vars; first | assumption | omega), by first | assumption | omega | (subst_vars; first | assumption | omega)⟩)) (by first | rfl | omega | (subst_vars; first | rfl | omega)) (by first | rfl | (subst_vars; rfl)) | exact g_fin (h6 (by first | omega | (subst_vars; omega) | exact ⟨by first | assumption | omega | (subst_vars; first | assumption | omega), by first | assumption | omega | (subst_vars; first | assumption | omega)⟩)) (by first | rfl | omega | (subst_vars; first | rfl | omega)) (by first | rfl | (subst_vars; rfl)) | (exfalso; omega)
      · refine g_aloadn (pc := 18) (i := 0) (x := 200) hK dd_X12_thingOf_18 rfl rfl ?_
        refine g_bipush (pc := 19) (x := (-2)) hK dd_X12_thingOf_19 (by decide) ?_
        refine g_callV (pc := 21) (As := [gI (-2)]) hK ws_M_152 md_X12_no ⟨Nat.zero_le _, Nat.zero_le _⟩ ⟨by decide, by decide⟩ (kdm kd_200) rfl rfl dd_X12_thingOf_21 rfl rfl (Nat.le_of_ble_eq_true rfl) (d_no_2 hrg (g_r1 ?_))
        refine g_iret (pc := 24) hK hr hlocks dd_X12_thingOf_24 rfl ?_
        first | exact g_fin (hB (by first | omega | (subst_vars; omega) | exact ⟨by first | assumption | omega | (subst_vars; first | assumption | omega), by first | assumption | omega | (subst_vars; first | assumption | omega)⟩)) (by first | rfl | omega | (subst_vars; first | rfl | omega)) (by first | rfl | (subst_vars; rfl)) | exact g_fin (h0 (by first | omega | (subst_vars; omega) | exact ⟨by first | assumption | omega | (subst_vars; first | assumption | omega), by first | assumption | omega | (subst_vars; first | assumption | omega)⟩)) (by first | rfl | omega | (subst_vars; first | rfl | omega)) (by first | rfl | (subst_vars; rfl)) | exact g_fin (h1 (by first | omega | (subst_vars; omega) | exact ⟨by first | assumption | omega | (subst_vars; first | assumption | omega), by first | assumption | omega | (subst_vars; first | assumption | omega)⟩)) (by first | rfl | omega | (subst_vars; first | rfl | omega)) (by first | rfl | (subst_vars; rfl)) | exact g_fin (h2 (by first | omega | (subst_vars; omega) | exact ⟨by first | assumption | omega | (subst_vars; first | assumption | omega), by first | assumption | omega | (subst_vars; first | assumption | omega)⟩)) (by first | rfl | omega | (subst_vars; first | rfl | omega)) (by first | rfl | (subst_vars; rfl)) | exact g_fin (h3 (by first | omega | (subst_vars; omega) | exact ⟨by first | assumption | omega | (subst_vars; first | assumption | omega), by first | assumption | omega | (subst_vars; first | assumption | omega)⟩)) (by first | rfl | omega | (subst_vars; first | rfl | omega)) (by first | rfl | (subst_vars; rfl)) | exact g_fin (h4 (by first | omega | (subst_vars; omega) | exact ⟨by first | assumption | omega | (subst_vars; first | assumption | omega), by first | assumption | omega | (subst_vars; first | assumption | omega)⟩)) (by first | rfl | omega | (subst_vars; first | rfl | omega)) (by first | rfl | (subst_vars; rfl)) | exact g_fin (h5 (by first | omega | (subst_vars; omega) | exact ⟨by first | assumption | omega | (subst_vars; first | assumption | omega), by first | assumption | omega | (subst_vars; first | assumption | omega)⟩)) (by first | rfl | omega | (subst_vars; first | rfl | omega)) (by first | rfl | (subst_vars; rfl)) | exact g_fin (h6 (by first | omega | (subst_vars; omega) | exact ⟨by first | assumption | omega | (subst_vars; first | assumption | omega), by first | assumption | omega | (subst_vars; first | assumption | omega)⟩)) (by first | rfl | omega | (subst_vars; first | rfl | omega)) (by first | rfl | (subst_vars; rfl)) | (exfalso; omega)
  · refine g_if_eq (pc := 5) (tgt := 18) hK dd_X12_thingOf_5 (by decide) (by decide) (fun _ => ?_) (fun c18 => absurd (by decide) c18)
    refine g_aloadn (pc := 18) (i := 0) (x := 200) hK dd_X12_thingOf_18 rfl rfl ?_
    refine g_bipush (pc := 19) (x := (-2)) hK dd_X12_thingOf_19 (by decide) ?_
    refine g_callV (pc := 21) (As := [gI (-2)]) hK ws_M_152 md_X12_no ⟨Nat.zero_le _, Nat.zero_le _⟩ ⟨by decide, by decide⟩ (kdm kd_200) rfl rfl dd_X12_thingOf_21 rfl rfl (Nat.le_of_ble_eq_true rfl) (d_no_2 hrg (g_r1 ?_))
    refine g_iret (pc := 24) hK hr hlocks dd_X12_thingOf_24 rfl ?_
    first | exact g_fin (hB (by first | omega | (subst_vars; omega) | exact ⟨by first | assumption | omega | (subst_vars; first | assumption | omega), by first | assumption | omega | (subst_vars; first | assumption | omega)⟩)) (by first | rfl | omega | (subst_vars; first | rfl | omega)) (by first | rfl | (subst_vars; rfl)) | exact g_fin (h0 (by first | omega | (subst_vars; omega) | exact ⟨by first | assumption | omega | (subst_vars; first | assumption | omega), by first | assumption | omega | (subst_vars; first | assumption | omega)⟩)) (by first | rfl | omega | (subst_vars; first | rfl | omega)) (by first | rfl | (subst_vars; rfl)) | exact g_fin (h1 (by first | omega | (subst_vars; omega) | exact ⟨by first | assumption | omega | (subst_vars; first | assumption | omega), by first | assumption | omega | (subst_vars; first | assumption | omega)⟩)) (by first | rfl | omega | (subst_vars; first | rfl | omega)) (by first | rfl | (subst_vars; rfl)) | exact g_fin (h2 (by first | omega | (subst_vars; omega) | exact ⟨by first | assumption | omega | (subst_vars; first | assumption | omega), by first | assumption | omega | (subst_vars; first | assumption | omega)⟩)) (by first | rfl | omega | (subst_vars; first | rfl | omega)) (by first | rfl | (subst_vars; rfl)) | exact g_fin (h3 (by first | omega | (subst_vars; omega) | exact ⟨by first | assumption | omega | (subst_vars; first | assumption | omega), by first | assumption | omega | (subst_vars; first | assumption | omega)⟩)) (by first | rfl | omega | (subst_vars; first | rfl | omega)) (by first | rfl | (subst_vars; rfl)) | exact g_fin (h4 (by first | omega | (subst_vars; omega) | exact ⟨by first | assumption | omega | (subst_vars; first | assumption | omega), by first | assumption | omega | (subst_vars; first | assumption | omega)⟩)) (by first | rfl | omega | (subst_vars; first | rfl | omega)) (by first | rfl | (subst_vars; rfl)) | exact g_fin (h5 (by first | omega | (subst_vars; omega) | exact ⟨by first | assumption | omega | (subst_vars; first | assumption | omega), by first | assumption | omega | (subst_vars; first | assumption | omega)⟩)) (by first | rfl | omega | (subst_vars; first | rfl | omega)) (by first | rfl | (subst_vars; rfl)) | exact g_fin (h6 (by first | omega | (subst_vars; omega) | exact ⟨by first | assumption | omega | (subst_vars; first | assumption | omega), by first | assumption | omega | (subst_vars; first | assumption | omega)⟩)) (by first | rfl | omega | (subst_vars; first | rfl | omega)) (by first | rfl | (subst_vars; rfl)) | (exfalso; omega)
set_option maxHeartbeats 4000000 in
set_option maxRecDepth 100000 in
theorem y_chip {l : Launch} {M : Mem} {Pq : Option gV → Mem → Prop} (t : Int) (ci : Int) (h_t : inI t) (h_ci : inI ci) (hrg : rgOK M) (hmc : 0 ≤ M 200 3 ∧ M 200 3 ≤ 30) (hB : (¬ ((0 ≤ t ∧ t < M 200 3) ∧ 0 ≤ ci ∧ ci ≤ 7)) → Pq (some (gI (-2))) (rg M 2)) (h0 : (((0 ≤ t ∧ t < M 200 3) ∧ 0 ≤ ci ∧ ci ≤ 7) ∧ hb (M 207 t.toNat) ci) → Pq (some (gI 0)) M) (hY : (((0 ≤ t ∧ t < M 200 3) ∧ 0 ≤ ci ∧ ci ≤ 7) ∧ ¬ hb (M 207 t.toNat) ci) → Pq (some (gI 1)) (up M 207 t.toNat (jor (M 207 t.toNat) (jshl 1 ci)))) : gCtr l my_X12_chip mb_X12_chip 3 ((some .int)) 2 [gR 200, gI t, gI ci] M Pq := by
  refine g_intro (by decide) (Nat.le_of_ble_eq_true rfl) ?_
  intro p e s m args below meth c D cy q A hK hr hlocks hw
  refine g_sub (L' := [(0, gR 200), (1, gI t), (2, gI ci)]) [0, 1, 2] rfl ?_
  refine g_aloadn (pc := 0) (i := 0) (x := 200) hK dd_X12_chip_0 rfl rfl ?_
  refine g_iloadn (pc := 1) (i := 1) (x := t) hK dd_X12_chip_1 rfl rfl ?_
  refine g_callV (pc := 2) (As := [gI t]) hK ws_M_165 md_X12_isThing ⟨Nat.zero_le _, Nat.zero_le _⟩ ⟨by decide, by decide⟩ (kdm kd_200) rfl rfl dd_X12_chip_2 rfl rfl (Nat.le_of_ble_eq_true rfl) (d_isThing t h_t (fun c1 => g_r1 ?_) (fun c1 => g_r1 ?_))
  · refine g_if_eq (pc := 5) (tgt := 18) hK dd_X12_chip_5 (by decide) (by decide) (fun c2 => absurd c2 (by decide)) (fun _ => ?_)
    refine g_iloadn (pc := 8) (i := 2) (x := ci) hK dd_X12_chip_8 rfl rfl ?_
    refine g_if_lt (pc := 9) (tgt := 18) hK dd_X12_chip_9 (by decide) h_ci (fun c3 => ?_) (fun c3 => ?_)
    · refine g_aloadn (pc := 18) (i := 0) (x := 200) hK dd_X12_chip_18 rfl rfl ?_
      refine g_bipush (pc := 19) (x := (-2)) hK dd_X12_chip_19 (by decide) ?_
      refine g_callV (pc := 21) (As := [gI (-2)]) hK ws_M_152 md_X12_no ⟨Nat.zero_le _, Nat.zero_le _⟩ ⟨by decide, by decide⟩ (kdm kd_200) rfl rfl dd_X12_chip_21 rfl rfl (Nat.le_of_ble_eq_true rfl) (d_no_2 hrg (g_r1 ?_))
      refine g_iret (pc := 24) hK hr hlocks dd_X12_chip_24 rfl ?_
      first | exact g_fin (hB (by first | omega | (subst_vars; omega) | exact ⟨by first | assumption | omega | (subst_vars; first | assumption | omega), by first | assumption | omega | (subst_vars; first | assumption | omega)⟩)) (by first | rfl | omega | (subst_vars; first | rfl | omega)) (by first | rfl | (subst_vars; rfl)) | (exfalso; omega)
    · refine g_iloadn (pc := 12) (i := 2) (x := ci) hK dd_X12_chip_12 rfl rfl ?_
      refine g_bipush (pc := 13) (x := 7) hK dd_X12_chip_13 (by decide) ?_
      refine g_icmp_le (pc := 15) (tgt := 25) hK dd_X12_chip_15 (by decide) h_ci (by decide) (fun c4 => ?_) (fun c4 => ?_)
      · refine g_aloadn (pc := 25) (i := 0) (x := 200) hK dd_X12_chip_25 rfl rfl ?_
        refine g_aloadn (pc := 26) (i := 0) (x := 200) hK dd_X12_chip_26 rfl rfl ?_
        refine g_getv (pc := 27) (f := (1, 7)) (j := 6) (v := gR 207) hK (kdm kd_200) rfl ef_12 (by decide) rfl kk_1107 dd_X12_chip_27 rfl ?_
        refine g_iloadn (pc := 30) (i := 1) (x := t) hK dd_X12_chip_30 rfl rfl ?_
        refine g_iald (pc := 31) hK (kdm kd_207) nl_207 (by decide) dd_X12_chip_31 (by omega) (by omega) (fun x5 ex5 rx5 => ?_)
        refine g_iloadn (pc := 32) (i := 2) (x := ci) hK dd_X12_chip_32 rfl rfl ?_
        refine g_callV (pc := 33) (As := [gI x5, gI ci]) hK ws_M_181 md_X12_isOf ⟨Nat.zero_le _, Nat.zero_le _⟩ ⟨by decide, by decide⟩ (kdm kd_200) rfl rfl dd_X12_chip_33 rfl rfl (Nat.le_of_ble_eq_true rfl) (d_isOf x5 ci (fun c6 => g_r1 ?_) (fun c6 => g_r1 ?_))
        · refine g_if_eq (pc := 36) (tgt := 41) hK dd_X12_chip_36 (by decide) (by decide) (fun c7 => absurd c7 (by decide)) (fun _ => ?_)
          refine g_iconst (pc := 39) (x := 0) hK dd_X12_chip_39 (by decide) ?_
          refine g_iret (pc := 40) hK hr hlocks dd_X12_chip_40 rfl ?_
          first | exact g_fin (h0 (by first | omega | (subst_vars; omega) | exact ⟨by first | assumption | omega | (subst_vars; first | assumption | omega), by first | assumption | omega | (subst_vars; first | assumption | omega)⟩)) (by first | rfl | omega | (subst_vars; first | rfl | omega)) (by first | rfl | (subst_vars; rfl)) | (exfalso; omega)
        · refine g_if_eq (pc := 36) (tgt := 41) hK dd_X12_chip_36 (by decide) (by decide) (fun _ => ?_) (fun c8 => absurd (by decide) c8)
          refine g_aloadn (pc := 41) (i := 0) (x := 200) hK dd_X12_chip_41 rfl rfl ?_
          refine g_getv (pc := 42) (f := (1, 7)) (j := 6) (v := gR 207) hK (kdm kd_200) rfl ef_12 (by decide) rfl kk_1107 dd_X12_chip_42 rfl ?_
          refine g_iloadn (pc := 45) (i := 1) (x := t) hK dd_X12_chip_45 rfl rfl ?_
          refine g_dup2 (pc := 46) hK dd_X12_chip_46 rfl rfl ?_
          refine g_iald (pc := 47) hK (kdm kd_207) nl_207 (by decide) dd_X12_chip_47 (by omega) (by omega) (fun x9 ex9 rx9 => ?_)
          refine g_iconst (pc := 48) (x := 1) hK dd_X12_chip_48 (by decide) ?_
          refine g_iloadn (pc := 49) (i := 2) (x := ci) hK dd_X12_chip_49 rfl rfl ?_
          refine g_ishl (pc := 50) (z := jshl 1 ci) hK dd_X12_chip_50 rfl ?_
          refine g_ior (pc := 51) (z := jor x9 (jshl 1 ci)) hK dd_X12_chip_51 rfl ?_
          refine g_iast (pc := 52) hK (kdm kd_207) nl_207 (by decide) (by decide) dd_X12_chip_52 (by omega) (by omega) (jor_in _ _) ?_
          refine g_iconst (pc := 53) (x := 1) hK dd_X12_chip_53 (by decide) ?_
          refine g_iret (pc := 54) hK hr hlocks dd_X12_chip_54 rfl ?_
          first | exact g_fin (hY (by first | omega | (subst_vars; omega) | exact ⟨by first | assumption | omega | (subst_vars; first | assumption | omega), by first | assumption | omega | (subst_vars; first | assumption | omega)⟩)) (by first | rfl | omega | (subst_vars; first | rfl | omega)) (by first | rfl | (subst_vars; rfl)) | (exfalso; omega)
      · refine g_aloadn (pc := 18) (i := 0) (x := 200) hK dd_X12_chip_18 rfl rfl ?_
        refine g_bipush (pc := 19) (x := (-2)) hK dd_X12_chip_19 (by decide) ?_
        refine g_callV (pc := 21) (As := [gI (-2)]) hK ws_M_152 md_X12_no ⟨Nat.zero_le _, Nat.zero_le _⟩ ⟨by decide, by decide⟩ (kdm kd_200) rfl rfl dd_X12_chip_21 rfl rfl (Nat.le_of_ble_eq_true rfl) (d_no_2 hrg (g_r1 ?_))
        refine g_iret (pc := 24) hK hr hlocks dd_X12_chip_24 rfl ?_
        first | exact g_fin (hB (by first | omega | (subst_vars; omega) | exact ⟨by first | assumption | omega | (subst_vars; first | assumption | omega), by first | assumption | omega | (subst_vars; first | assumption | omega)⟩)) (by first | rfl | omega | (subst_vars; first | rfl | omega)) (by first | rfl | (subst_vars; rfl)) | (exfalso; omega)
  · refine g_if_eq (pc := 5) (tgt := 18) hK dd_X12_chip_5 (by decide) (by decide) (fun _ => ?_) (fun c10 => absurd (by decide) c10)
    refine g_aloadn (pc := 18) (i := 0) (x := 200) hK dd_X12_chip_18 rfl rfl ?_
    refine g_bipush (pc := 19) (x := (-2)) hK dd_X12_chip_19 (by decide) ?_
    refine g_callV (pc := 21) (As := [gI (-2)]) hK ws_M_152 md_X12_no ⟨Nat.zero_le _, Nat.zero_le _⟩ ⟨by decide, by decide⟩ (kdm kd_200) rfl rfl dd_X12_chip_21 rfl rfl (Nat.le_of_ble_eq_true rfl) (d_no_2 hrg (g_r1 ?_))
    refine g_iret (pc := 24) hK hr hlocks dd_X12_chip_24 rfl ?_
    first | exact g_fin (hB (by first | omega | (subst_vars; omega) | exact ⟨by first | assumption | omega | (subst_vars; first | assumption | omega), by first | assumption | omega | (subst_vars; first | assumption | omega)⟩)) (by first | rfl | omega | (subst_vars; first | rfl | omega)) (by first | rfl | (subst_vars; rfl)) | (exfalso; omega)
set_option maxHeartbeats 4000000 in
set_option maxRecDepth 100000 in
theorem y_lady {l : Launch} {M : Mem} {Pq : Option gV → Mem → Prop} (ks : Int) (g : Int) (h_ks : inI ks) (h_g : inI g) (hrg : rgOK M) (hmlc : 0 ≤ M 200 10 ∧ M 200 10 ≤ 5) (hB : (¬ ((0 ≤ ks ∧ ks < 64) ∧ 0 ≤ g ∧ g ≤ 999)) → Pq (some (gI (-2))) (rg M 2)) (hF : (((0 ≤ ks ∧ ks < 64) ∧ 0 ≤ g ∧ g ≤ 999) ∧ M 200 10 = 5) → Pq (some (gI (-6))) (rg M 6)) (hY : (((0 ≤ ks ∧ ks < 64) ∧ 0 ≤ g ∧ g ≤ 999) ∧ ¬ M 200 10 = 5) → Pq (some (gI (M 200 10))) (up (up (up (up M 212 (M 200 10).toNat ks) 213 (M 200 10).toNat g) 214 (M 200 10).toNat (-1)) 200 10 (M 200 10 + 1))) : gCtr l my_X12_lady mb_X12_lady 3 ((some .int)) 2 [gR 200, gI ks, gI g] M Pq := by
  refine g_intro (by decide) (Nat.le_of_ble_eq_true rfl) ?_
  intro p e s m args below meth c D cy q A hK hr hlocks hw
  refine g_sub (L' := [(0, gR 200), (1, gI ks), (2, gI g)]) [0, 1, 2] rfl ?_
  refine g_aloadn (pc := 0) (i := 0) (x := 200) hK dd_X12_lady_0 rfl rfl ?_
  refine g_iloadn (pc := 1) (i := 1) (x := ks) hK dd_X12_lady_1 rfl rfl ?_
  refine g_callV (pc := 2) (As := [gI ks]) hK ws_M_190 md_X12_areKinds ⟨Nat.zero_le _, Nat.zero_le _⟩ ⟨by decide, by decide⟩ (kdm kd_200) rfl rfl dd_X12_lady_2 rfl rfl (Nat.le_of_ble_eq_true rfl) (d_areKinds ks h_ks (fun c1 => g_r1 ?_) (fun c1 => g_r1 ?_))
  · refine g_if_eq (pc := 5) (tgt := 19) hK dd_X12_lady_5 (by decide) (by decide) (fun c2 => absurd c2 (by decide)) (fun _ => ?_)
    refine g_iloadn (pc := 8) (i := 2) (x := g) hK dd_X12_lady_8 rfl rfl ?_
    refine g_if_lt (pc := 9) (tgt := 19) hK dd_X12_lady_9 (by decide) h_g (fun c3 => ?_) (fun c3 => ?_)
    · refine g_aloadn (pc := 19) (i := 0) (x := 200) hK dd_X12_lady_19 rfl rfl ?_
      refine g_bipush (pc := 20) (x := (-2)) hK dd_X12_lady_20 (by decide) ?_
      refine g_callV (pc := 22) (As := [gI (-2)]) hK ws_M_152 md_X12_no ⟨Nat.zero_le _, Nat.zero_le _⟩ ⟨by decide, by decide⟩ (kdm kd_200) rfl rfl dd_X12_lady_22 rfl rfl (Nat.le_of_ble_eq_true rfl) (d_no_2 hrg (g_r1 ?_))
      refine g_iret (pc := 25) hK hr hlocks dd_X12_lady_25 rfl ?_
      first | exact g_fin (hB (by first | omega | (subst_vars; omega) | exact ⟨by first | assumption | omega | (subst_vars; first | assumption | omega), by first | assumption | omega | (subst_vars; first | assumption | omega)⟩)) (by first | rfl | omega | (subst_vars; first | rfl | omega)) (by first | rfl | (subst_vars; rfl)) | exact g_fin (hY (by first | omega | (subst_vars; omega) | exact ⟨by first | assumption | omega | (subst_vars; first | assumption | omega), by first | assumption | omega | (subst_vars; first | assumption | omega)⟩)) (by first | rfl | omega | (subst_vars; first | rfl | omega)) (by first | rfl | (subst_vars; rfl)) | (exfalso; omega)
    · refine g_iloadn (pc := 12) (i := 2) (x := g) hK dd_X12_lady_12 rfl rfl ?_
      refine g_sipush (pc := 13) (x := 999) hK dd_X12_lady_13 (by decide) ?_
      refine g_icmp_le (pc := 16) (tgt := 26) hK dd_X12_lady_16 (by decide) h_g (by decide) (fun c4 => ?_) (fun c4 => ?_)
      · refine g_aloadn (pc := 26) (i := 0) (x := 200) hK dd_X12_lady_26 rfl rfl ?_
        refine g_geti (pc := 27) (f := (0, 0)) (j := 10) hK (kdm kd_200) rfl ef_12 (by decide) rfl kk_1111 nl_200 dd_X12_lady_27 rfl (fun x5 ex5 rx5 => ?_)
        refine g_iconst (pc := 30) (x := 5) hK dd_X12_lady_30 (by decide) ?_
        refine g_icmp_ne (pc := 31) (tgt := 41) hK dd_X12_lady_31 (by decide) rx5 (by decide) (fun c6 => ?_) (fun c6 => ?_)
        · refine g_aloadn (pc := 41) (i := 0) (x := 200) hK dd_X12_lady_41 rfl rfl ?_
          refine g_getv (pc := 42) (f := (1, 12)) (j := 11) (v := gR 212) hK (kdm kd_200) rfl ef_12 (by decide) rfl kk_1112 dd_X12_lady_42 rfl ?_
          refine g_aloadn (pc := 45) (i := 0) (x := 200) hK dd_X12_lady_45 rfl rfl ?_
          refine g_geti (pc := 46) (f := (0, 0)) (j := 10) hK (kdm kd_200) rfl ef_12 (by decide) rfl kk_1111 nl_200 dd_X12_lady_46 rfl (fun x7 ex7 rx7 => ?_)
          refine g_iloadn (pc := 49) (i := 1) (x := ks) hK dd_X12_lady_49 rfl rfl ?_
          refine g_iast (pc := 50) hK (kdm kd_212) nl_212 (by decide) (by decide) dd_X12_lady_50 (by omega) (by omega) h_ks ?_
          refine g_aloadn (pc := 51) (i := 0) (x := 200) hK dd_X12_lady_51 rfl rfl ?_
          refine g_getv (pc := 52) (f := (1, 13)) (j := 12) (v := gR 213) hK (kdm kd_200) rfl ef_12 (by decide) rfl kk_1113 dd_X12_lady_52 rfl ?_
          refine g_aloadn (pc := 55) (i := 0) (x := 200) hK dd_X12_lady_55 rfl rfl ?_
          refine g_geti (pc := 56) (f := (0, 0)) (j := 10) hK (kdm kd_200) rfl ef_12 (by decide) rfl kk_1111 nl_200 dd_X12_lady_56 rfl (fun x8 ex8 rx8 => ?_)
          replace ex8 : x8 = M 200 10 := ex8
          refine g_iloadn (pc := 59) (i := 2) (x := g) hK dd_X12_lady_59 rfl rfl ?_
          refine g_iast (pc := 60) hK (kdm kd_213) nl_213 (by decide) (by decide) dd_X12_lady_60 (by omega) (by omega) h_g ?_
          refine g_aloadn (pc := 61) (i := 0) (x := 200) hK dd_X12_lady_61 rfl rfl ?_
          refine g_getv (pc := 62) (f := (1, 14)) (j := 13) (v := gR 214) hK (kdm kd_200) rfl ef_12 (by decide) rfl kk_1114 dd_X12_lady_62 rfl ?_
          refine g_aloadn (pc := 65) (i := 0) (x := 200) hK dd_X12_lady_65 rfl rfl ?_
          refine g_geti (pc := 66) (f := (0, 0)) (j := 10) hK (kdm kd_200) rfl ef_12 (by decide) rfl kk_1111 nl_200 dd_X12_lady_66 rfl (fun x9 ex9 rx9 => ?_)
          replace ex9 : x9 = M 200 10 := ex9
          refine g_iconst (pc := 69) (x := (-1)) hK dd_X12_lady_69 (by decide) ?_
          refine g_iast (pc := 70) hK (kdm kd_214) nl_214 (by decide) (by decide) dd_X12_lady_70 (by omega) (by omega) (by decide) ?_
          refine g_aloadn (pc := 71) (i := 0) (x := 200) hK dd_X12_lady_71 rfl rfl ?_
          refine g_dup (pc := 72) hK dd_X12_lady_72 rfl ?_
          refine g_geti (pc := 73) (f := (0, 0)) (j := 10) hK (kdm kd_200) rfl ef_12 (by decide) rfl kk_1111 nl_200 dd_X12_lady_73 rfl (fun x10 ex10 rx10 => ?_)
          replace ex10 : x10 = M 200 10 := ex10
          refine g_dupx1 (pc := 76) hK dd_X12_lady_76 rfl rfl ?_
          refine g_iconst (pc := 77) (x := 1) hK dd_X12_lady_77 (by decide) ?_
          refine g_iadd (pc := 78) (z := x10 + 1) hK dd_X12_lady_78 rfl ?_
          refine g_puti (pc := 79) (f := (0, 0)) (j := 10) (ty := .int) hK (kdm kd_200) rfl ef_12 (by decide) rfl kk_1111 nl_200 (by decide) dd_X12_lady_79 rfl rfl rfl rfl rfl ⟨by omega, by omega⟩ ?_
          refine g_iret (pc := 82) hK hr hlocks dd_X12_lady_82 rfl ?_
          first | exact g_fin (hB (by first | omega | (subst_vars; omega) | exact ⟨by first | assumption | omega | (subst_vars; first | assumption | omega), by first | assumption | omega | (subst_vars; first | assumption | omega)⟩)) (by first | rfl | omega | (subst_vars; first | rfl | omega)) (by first | rfl | (subst_vars; rfl)) | exact g_fin (hF (by first | omega | (subst_vars; omega) | exact ⟨by first | assumption | omega | (subst_vars; first | assumption | omega), by first | assumption | omega | (subst_vars; first | assumption | omega)⟩)) (by first | rfl | omega | (subst_vars; first | rfl | omega)) (by first | rfl | (subst_vars; rfl)) | exact g_fin (hY (by first | omega | (subst_vars; omega) | exact ⟨by first | assumption | omega | (subst_vars; first | assumption | omega), by first | assumption | omega | (subst_vars; first | assumption | omega)⟩)) (by first | rfl | omega | (subst_vars; first | rfl | omega)) (by first | rfl | (subst_vars; rfl)) | (exfalso; omega)
        · refine g_aloadn (pc := 34) (i := 0) (x := 200) hK dd_X12_lady_34 rfl rfl ?_
          refine g_bipush (pc := 35) (x := (-6)) hK dd_X12_lady_35 (by decide) ?_
          refine g_callV (pc := 37) (As := [gI (-6)]) hK ws_M_152 md_X12_no ⟨Nat.zero_le _, Nat.zero_le _⟩ ⟨by decide, by decide⟩ (kdm kd_200) rfl rfl dd_X12_lady_37 rfl rfl (Nat.le_of_ble_eq_true rfl) (d_no_6 hrg (g_r1 ?_))
          refine g_iret (pc := 40) hK hr hlocks dd_X12_lady_40 rfl ?_
          first | exact g_fin (hF (by first | omega | (subst_vars; omega) | exact ⟨by first | assumption | omega | (subst_vars; first | assumption | omega), by first | assumption | omega | (subst_vars; first | assumption | omega)⟩)) (by first | rfl | omega | (subst_vars; first | rfl | omega)) (by first | rfl | (subst_vars; rfl)) | exact g_fin (hY (by first | omega | (subst_vars; omega) | exact ⟨by first | assumption | omega | (subst_vars; first | assumption | omega), by first | assumption | omega | (subst_vars; first | assumption | omega)⟩)) (by first | rfl | omega | (subst_vars; first | rfl | omega)) (by first | rfl | (subst_vars; rfl)) | (exfalso; omega)
      · refine g_aloadn (pc := 19) (i := 0) (x := 200) hK dd_X12_lady_19 rfl rfl ?_
        refine g_bipush (pc := 20) (x := (-2)) hK dd_X12_lady_20 (by decide) ?_
        refine g_callV (pc := 22) (As := [gI (-2)]) hK ws_M_152 md_X12_no ⟨Nat.zero_le _, Nat.zero_le _⟩ ⟨by decide, by decide⟩ (kdm kd_200) rfl rfl dd_X12_lady_22 rfl rfl (Nat.le_of_ble_eq_true rfl) (d_no_2 hrg (g_r1 ?_))
        refine g_iret (pc := 25) hK hr hlocks dd_X12_lady_25 rfl ?_
        first | exact g_fin (hB (by first | omega | (subst_vars; omega) | exact ⟨by first | assumption | omega | (subst_vars; first | assumption | omega), by first | assumption | omega | (subst_vars; first | assumption | omega)⟩)) (by first | rfl | omega | (subst_vars; first | rfl | omega)) (by first | rfl | (subst_vars; rfl)) | exact g_fin (hY (by first | omega | (subst_vars; omega) | exact ⟨by first | assumption | omega | (subst_vars; first | assumption | omega), by first | assumption | omega | (subst_vars; first | assumption | omega)⟩)) (by first | rfl | omega | (subst_vars; first | rfl | omega)) (by first | rfl | (subst_vars; rfl)) | (exfalso; omega)
  · refine g_if_eq (pc := 5) (tgt := 19) hK dd_X12_lady_5 (by decide) (by decide) (fun _ => ?_) (fun c11 => absurd (by decide) c11)
    refine g_aloadn (pc := 19) (i := 0) (x := 200) hK dd_X12_lady_19 rfl rfl ?_
    refine g_bipush (pc := 20) (x := (-2)) hK dd_X12_lady_20 (by decide) ?_
    refine g_callV (pc := 22) (As := [gI (-2)]) hK ws_M_152 md_X12_no ⟨Nat.zero_le _, Nat.zero_le _⟩ ⟨by decide, by decide⟩ (kdm kd_200) rfl rfl dd_X12_lady_22 rfl rfl (Nat.le_of_ble_eq_true rfl) (d_no_2 hrg (g_r1 ?_))
    refine g_iret (pc := 25) hK hr hlocks dd_X12_lady_25 rfl ?_
    first | exact g_fin (hB (by first | omega | (subst_vars; omega) | exact ⟨by first | assumption | omega | (subst_vars; first | assumption | omega), by first | assumption | omega | (subst_vars; first | assumption | omega)⟩)) (by first | rfl | omega | (subst_vars; first | rfl | omega)) (by first | rfl | (subst_vars; rfl)) | exact g_fin (hY (by first | omega | (subst_vars; omega) | exact ⟨by first | assumption | omega | (subst_vars; first | assumption | omega), by first | assumption | omega | (subst_vars; first | assumption | omega)⟩)) (by first | rfl | omega | (subst_vars; first | rfl | omega)) (by first | rfl | (subst_vars; rfl)) | (exfalso; omega)
set_option maxHeartbeats 4000000 in
set_option maxRecDepth 100000 in
theorem y_goes {l : Launch} {M : Mem} {Pq : Option gV → Mem → Prop} (la : Int) (lw : Int) (h_la : inI la) (h_lw : inI lw) (hrg : rgOK M) (hmlc : 0 ≤ M 200 10 ∧ M 200 10 ≤ 5) (hmwc : 0 ≤ M 200 14 ∧ M 200 14 ≤ 6) (hB : (¬ ((0 ≤ la ∧ la < M 200 10) ∧ (lw = -1 ∨ (0 ≤ lw ∧ lw < M 200 14)))) → Pq (some (gI (-2))) (rg M 2)) (hY : ((0 ≤ la ∧ la < M 200 10) ∧ (lw = -1 ∨ (0 ≤ lw ∧ lw < M 200 14))) → Pq (some (gI (M 214 la.toNat))) (up M 214 la.toNat lw)) : gCtr l my_X12_goes mb_X12_goes 4 ((some .int)) 2 [gR 200, gI la, gI lw] M Pq := by
  refine g_intro (by decide) (Nat.le_of_ble_eq_true rfl) ?_
  intro p e s m args below meth c D cy q A hK hr hlocks hw
  refine g_sub (L' := [(0, gR 200), (1, gI la), (2, gI lw)]) [0, 1, 2] rfl ?_
  refine g_aloadn (pc := 0) (i := 0) (x := 200) hK dd_X12_goes_0 rfl rfl ?_
  refine g_iloadn (pc := 1) (i := 1) (x := la) hK dd_X12_goes_1 rfl rfl ?_
  refine g_callV (pc := 2) (As := [gI la]) hK ws_M_193 md_X12_isLady ⟨Nat.zero_le _, Nat.zero_le _⟩ ⟨by decide, by decide⟩ (kdm kd_200) rfl rfl dd_X12_goes_2 rfl rfl (Nat.le_of_ble_eq_true rfl) (d_isLady la h_la (fun c1 => g_r1 ?_) (fun c1 => g_r1 ?_))
  · refine g_if_eq (pc := 5) (tgt := 21) hK dd_X12_goes_5 (by decide) (by decide) (fun c2 => absurd c2 (by decide)) (fun _ => ?_)
    refine g_iloadn (pc := 8) (i := 2) (x := lw) hK dd_X12_goes_8 rfl rfl ?_
    refine g_iconst (pc := 9) (x := (-1)) hK dd_X12_goes_9 (by decide) ?_
    refine g_icmp_eq (pc := 10) (tgt := 28) hK dd_X12_goes_10 (by decide) h_lw (by decide) (fun c3 => ?_) (fun c3 => ?_)
    · refine g_aloadn (pc := 28) (i := 0) (x := 200) hK dd_X12_goes_28 rfl rfl ?_
      refine g_getv (pc := 29) (f := (1, 14)) (j := 13) (v := gR 214) hK (kdm kd_200) rfl ef_12 (by decide) rfl kk_1114 dd_X12_goes_29 rfl ?_
      refine g_iloadn (pc := 32) (i := 1) (x := la) hK dd_X12_goes_32 rfl rfl ?_
      refine g_iald (pc := 33) hK (kdm kd_214) nl_214 (by decide) dd_X12_goes_33 (by omega) (by omega) (fun x4 ex4 rx4 => ?_)
      refine g_istoren (pc := 34) (i := 3) (L' := [(0, gR 200), (1, gI la), (2, gI lw), (3, gI x4)]) hK dd_X12_goes_34 rfl (by decide) rfl ?_
      refine g_aloadn (pc := 35) (i := 0) (x := 200) hK dd_X12_goes_35 rfl rfl ?_
      refine g_getv (pc := 36) (f := (1, 14)) (j := 13) (v := gR 214) hK (kdm kd_200) rfl ef_12 (by decide) rfl kk_1114 dd_X12_goes_36 rfl ?_
      refine g_iloadn (pc := 39) (i := 1) (x := la) hK dd_X12_goes_39 rfl rfl ?_
      refine g_iloadn (pc := 40) (i := 2) (x := lw) hK dd_X12_goes_40 rfl rfl ?_
      refine g_iast (pc := 41) hK (kdm kd_214) nl_214 (by decide) (by decide) dd_X12_goes_41 (by omega) (by omega) h_lw ?_
      refine g_iloadn (pc := 42) (i := 3) (x := x4) hK dd_X12_goes_42 rfl rfl ?_
      refine g_iret (pc := 43) hK hr hlocks dd_X12_goes_43 rfl ?_
      first | exact g_fin (hB (by first | omega | (subst_vars; omega) | exact ⟨by first | assumption | omega | (subst_vars; first | assumption | omega), by first | assumption | omega | (subst_vars; first | assumption | omega)⟩)) (by first | rfl | omega | (subst_vars; first | rfl | omega)) (by first | rfl | (subst_vars; rfl)) | exact g_fin (hY (by first | omega | (subst_vars; omega) | exact ⟨by first | assumption | omega | (subst_vars; first | assumption | omega), by first | assumption | omega | (subst_vars; first | assumption | omega)⟩)) (by first | rfl | omega | (subst_vars; first | rfl | omega)) (by first | rfl | (subst_vars; rfl)) | (exfalso; omega)
    · refine g_aloadn (pc := 13) (i := 0) (x := 200) hK dd_X12_goes_13 rfl rfl ?_
      refine g_iloadn (pc := 14) (i := 2) (x := lw) hK dd_X12_goes_14 rfl rfl ?_
      refine g_callV (pc := 15) (As := [gI lw]) hK ws_M_196 md_X12_isLaw ⟨Nat.zero_le _, Nat.zero_le _⟩ ⟨by decide, by decide⟩ (kdm kd_200) rfl rfl dd_X12_goes_15 rfl rfl (Nat.le_of_ble_eq_true rfl) (d_isLaw lw h_lw (fun c5 => g_r1 ?_) (fun c5 => g_r1 ?_))
      · refine g_if_ne (pc := 18) (tgt := 28) hK dd_X12_goes_18 (by decide) (by decide) (fun _ => ?_) (fun c6 => absurd (by decide) c6)
        refine g_aloadn (pc := 28) (i := 0) (x := 200) hK dd_X12_goes_28 rfl rfl ?_
        refine g_getv (pc := 29) (f := (1, 14)) (j := 13) (v := gR 214) hK (kdm kd_200) rfl ef_12 (by decide) rfl kk_1114 dd_X12_goes_29 rfl ?_
        refine g_iloadn (pc := 32) (i := 1) (x := la) hK dd_X12_goes_32 rfl rfl ?_
        refine g_iald (pc := 33) hK (kdm kd_214) nl_214 (by decide) dd_X12_goes_33 (by omega) (by omega) (fun x7 ex7 rx7 => ?_)
        refine g_istoren (pc := 34) (i := 3) (L' := [(0, gR 200), (1, gI la), (2, gI lw), (3, gI x7)]) hK dd_X12_goes_34 rfl (by decide) rfl ?_
        refine g_aloadn (pc := 35) (i := 0) (x := 200) hK dd_X12_goes_35 rfl rfl ?_
        refine g_getv (pc := 36) (f := (1, 14)) (j := 13) (v := gR 214) hK (kdm kd_200) rfl ef_12 (by decide) rfl kk_1114 dd_X12_goes_36 rfl ?_
        refine g_iloadn (pc := 39) (i := 1) (x := la) hK dd_X12_goes_39 rfl rfl ?_
        refine g_iloadn (pc := 40) (i := 2) (x := lw) hK dd_X12_goes_40 rfl rfl ?_
        refine g_iast (pc := 41) hK (kdm kd_214) nl_214 (by decide) (by decide) dd_X12_goes_41 (by omega) (by omega) h_lw ?_
        refine g_iloadn (pc := 42) (i := 3) (x := x7) hK dd_X12_goes_42 rfl rfl ?_
        refine g_iret (pc := 43) hK hr hlocks dd_X12_goes_43 rfl ?_
        first | exact g_fin (hB (by first | omega | (subst_vars; omega) | exact ⟨by first | assumption | omega | (subst_vars; first | assumption | omega), by first | assumption | omega | (subst_vars; first | assumption | omega)⟩)) (by first | rfl | omega | (subst_vars; first | rfl | omega)) (by first | rfl | (subst_vars; rfl)) | exact g_fin (hY (by first | omega | (subst_vars; omega) | exact ⟨by first | assumption | omega | (subst_vars; first | assumption | omega), by first | assumption | omega | (subst_vars; first | assumption | omega)⟩)) (by first | rfl | omega | (subst_vars; first | rfl | omega)) (by first | rfl | (subst_vars; rfl)) | (exfalso; omega)
      · refine g_if_ne (pc := 18) (tgt := 28) hK dd_X12_goes_18 (by decide) (by decide) (fun c8 => absurd c8 (by decide)) (fun _ => ?_)
        refine g_aloadn (pc := 21) (i := 0) (x := 200) hK dd_X12_goes_21 rfl rfl ?_
        refine g_bipush (pc := 22) (x := (-2)) hK dd_X12_goes_22 (by decide) ?_
        refine g_callV (pc := 24) (As := [gI (-2)]) hK ws_M_152 md_X12_no ⟨Nat.zero_le _, Nat.zero_le _⟩ ⟨by decide, by decide⟩ (kdm kd_200) rfl rfl dd_X12_goes_24 rfl rfl (Nat.le_of_ble_eq_true rfl) (d_no_2 hrg (g_r1 ?_))
        refine g_iret (pc := 27) hK hr hlocks dd_X12_goes_27 rfl ?_
        first | exact g_fin (hB (by first | omega | (subst_vars; omega) | exact ⟨by first | assumption | omega | (subst_vars; first | assumption | omega), by first | assumption | omega | (subst_vars; first | assumption | omega)⟩)) (by first | rfl | omega | (subst_vars; first | rfl | omega)) (by first | rfl | (subst_vars; rfl)) | exact g_fin (hY (by first | omega | (subst_vars; omega) | exact ⟨by first | assumption | omega | (subst_vars; first | assumption | omega), by first | assumption | omega | (subst_vars; first | assumption | omega)⟩)) (by first | rfl | omega | (subst_vars; first | rfl | omega)) (by first | rfl | (subst_vars; rfl)) | (exfalso; omega)
  · refine g_if_eq (pc := 5) (tgt := 21) hK dd_X12_goes_5 (by decide) (by decide) (fun _ => ?_) (fun c9 => absurd (by decide) c9)
    refine g_aloadn (pc := 21) (i := 0) (x := 200) hK dd_X12_goes_21 rfl rfl ?_
    refine g_bipush (pc := 22) (x := (-2)) hK dd_X12_goes_22 (by decide) ?_
    refine g_callV (pc := 24) (As := [gI (-2)]) hK ws_M_152 md_X12_no ⟨Nat.zero_le _, Nat.zero_le _⟩ ⟨by decide, by decide⟩ (kdm kd_200) rfl rfl dd_X12_goes_24 rfl rfl (Nat.le_of_ble_eq_true rfl) (d_no_2 hrg (g_r1 ?_))
    refine g_iret (pc := 27) hK hr hlocks dd_X12_goes_27 rfl ?_
    first | exact g_fin (hB (by first | omega | (subst_vars; omega) | exact ⟨by first | assumption | omega | (subst_vars; first | assumption | omega), by first | assumption | omega | (subst_vars; first | assumption | omega)⟩)) (by first | rfl | omega | (subst_vars; first | rfl | omega)) (by first | rfl | (subst_vars; rfl)) | exact g_fin (hY (by first | omega | (subst_vars; omega) | exact ⟨by first | assumption | omega | (subst_vars; first | assumption | omega), by first | assumption | omega | (subst_vars; first | assumption | omega)⟩)) (by first | rfl | omega | (subst_vars; first | rfl | omega)) (by first | rfl | (subst_vars; rfl)) | (exfalso; omega)
set_option maxHeartbeats 4000000 in
set_option maxRecDepth 100000 in
theorem y_wipe {l : Launch} {M : Mem} {Pq : Option gV → Mem → Prop}  (hY : Pq (some (gI (M 200 16))) (up M 200 16 0)) : gCtr l my_X12_wipe mb_X12_wipe 2 ((some .int)) 1 [gR 200] M Pq := by
  refine g_intro (by decide) (Nat.le_of_ble_eq_true rfl) ?_
  intro p e s m args below meth c D cy q A hK hr hlocks hw
  refine g_sub (L' := [(0, gR 200)]) [0] rfl ?_
  refine g_aloadn (pc := 0) (i := 0) (x := 200) hK dd_X12_wipe_0 rfl rfl ?_
  refine g_geti (pc := 1) (f := (0, 0)) (j := 16) hK (kdm kd_200) rfl ef_12 (by decide) rfl kk_1117 nl_200 dd_X12_wipe_1 rfl (fun x1 ex1 rx1 => ?_)
  refine g_istoren (pc := 4) (i := 1) (L' := [(0, gR 200), (1, gI x1)]) hK dd_X12_wipe_4 rfl (by decide) rfl ?_
  refine g_aloadn (pc := 5) (i := 0) (x := 200) hK dd_X12_wipe_5 rfl rfl ?_
  refine g_iconst (pc := 6) (x := 0) hK dd_X12_wipe_6 (by decide) ?_
  refine g_puti (pc := 7) (f := (0, 0)) (j := 16) (ty := .int) hK (kdm kd_200) rfl ef_12 (by decide) rfl kk_1117 nl_200 (by decide) dd_X12_wipe_7 rfl rfl rfl rfl rfl (by decide) ?_
  refine g_iloadn (pc := 10) (i := 1) (x := x1) hK dd_X12_wipe_10 rfl rfl ?_
  refine g_iret (pc := 11) hK hr hlocks dd_X12_wipe_11 rfl ?_
  first | exact g_fin (hY) (by first | rfl | omega | (subst_vars; first | rfl | omega)) (by first | rfl | (subst_vars; rfl)) | (exfalso; omega)
set_option maxHeartbeats 4000000 in
set_option maxRecDepth 100000 in
theorem y_lawOf {l : Launch} {M : Mem} {Pq : Option gV → Mem → Prop} (lw : Int) (wh : Int) (h_lw : inI lw) (h_wh : inI wh) (hrg : rgOK M) (hmwc : 0 ≤ M 200 14 ∧ M 200 14 ≤ 6) (hB : (¬ ((0 ≤ lw ∧ lw < M 200 14) ∧ 0 ≤ wh ∧ wh ≤ 4)) → Pq (some (gI (-2))) (rg M 2)) (hY : ((0 ≤ lw ∧ lw < M 200 14) ∧ 0 ≤ wh ∧ wh ≤ 4) → Pq (some (gI (M 216 (5 * lw + wh).toNat))) M) : gCtr l my_X12_lawOf mb_X12_lawOf 3 ((some .int)) 2 [gR 200, gI lw, gI wh] M Pq := by
  refine g_intro (by decide) (Nat.le_of_ble_eq_true rfl) ?_
  intro p e s m args below meth c D cy q A hK hr hlocks hw
  refine g_sub (L' := [(0, gR 200), (1, gI lw), (2, gI wh)]) [0, 1, 2] rfl ?_
  refine g_aloadn (pc := 0) (i := 0) (x := 200) hK dd_X12_lawOf_0 rfl rfl ?_
  refine g_iloadn (pc := 1) (i := 1) (x := lw) hK dd_X12_lawOf_1 rfl rfl ?_
  refine g_callV (pc := 2) (As := [gI lw]) hK ws_M_196 md_X12_isLaw ⟨Nat.zero_le _, Nat.zero_le _⟩ ⟨by decide, by decide⟩ (kdm kd_200) rfl rfl dd_X12_lawOf_2 rfl rfl (Nat.le_of_ble_eq_true rfl) (d_isLaw lw h_lw (fun c1 => g_r1 ?_) (fun c1 => g_r1 ?_))
  · refine g_if_eq (pc := 5) (tgt := 17) hK dd_X12_lawOf_5 (by decide) (by decide) (fun c2 => absurd c2 (by decide)) (fun _ => ?_)
    refine g_iloadn (pc := 8) (i := 2) (x := wh) hK dd_X12_lawOf_8 rfl rfl ?_
    refine g_if_lt (pc := 9) (tgt := 17) hK dd_X12_lawOf_9 (by decide) h_wh (fun c3 => ?_) (fun c3 => ?_)
    · refine g_aloadn (pc := 17) (i := 0) (x := 200) hK dd_X12_lawOf_17 rfl rfl ?_
      refine g_bipush (pc := 18) (x := (-2)) hK dd_X12_lawOf_18 (by decide) ?_
      refine g_callV (pc := 20) (As := [gI (-2)]) hK ws_M_152 md_X12_no ⟨Nat.zero_le _, Nat.zero_le _⟩ ⟨by decide, by decide⟩ (kdm kd_200) rfl rfl dd_X12_lawOf_20 rfl rfl (Nat.le_of_ble_eq_true rfl) (d_no_2 hrg (g_r1 ?_))
      refine g_iret (pc := 23) hK hr hlocks dd_X12_lawOf_23 rfl ?_
      first | exact g_fin (hB (by first | omega | (subst_vars; omega) | exact ⟨by first | assumption | omega | (subst_vars; first | assumption | omega), by first | assumption | omega | (subst_vars; first | assumption | omega)⟩)) (by first | rfl | omega | (subst_vars; first | rfl | omega)) (by first | rfl | (subst_vars; rfl)) | exact g_fin (hY (by first | omega | (subst_vars; omega) | exact ⟨by first | assumption | omega | (subst_vars; first | assumption | omega), by first | assumption | omega | (subst_vars; first | assumption | omega)⟩)) (by first | rfl | omega | (subst_vars; first | rfl | omega)) (by first | rfl | (subst_vars; rfl)) | (exfalso; omega)
    · refine g_iloadn (pc := 12) (i := 2) (x := wh) hK dd_X12_lawOf_12 rfl rfl ?_
      refine g_iconst (pc := 13) (x := 4) hK dd_X12_lawOf_13 (by decide) ?_
      refine g_icmp_le (pc := 14) (tgt := 24) hK dd_X12_lawOf_14 (by decide) h_wh (by decide) (fun c4 => ?_) (fun c4 => ?_)
      · refine g_aloadn (pc := 24) (i := 0) (x := 200) hK dd_X12_lawOf_24 rfl rfl ?_
        refine g_getv (pc := 25) (f := (1, 16)) (j := 15) (v := gR 216) hK (kdm kd_200) rfl ef_12 (by decide) rfl kk_1116 dd_X12_lawOf_25 rfl ?_
        refine g_iconst (pc := 28) (x := 5) hK dd_X12_lawOf_28 (by decide) ?_
        refine g_iloadn (pc := 29) (i := 1) (x := lw) hK dd_X12_lawOf_29 rfl rfl ?_
        refine g_imul (pc := 30) (z := 5 * lw) hK dd_X12_lawOf_30 rfl ?_
        refine g_iloadn (pc := 31) (i := 2) (x := wh) hK dd_X12_lawOf_31 rfl rfl ?_
        refine g_iadd (pc := 32) (z := (5 * lw) + wh) hK dd_X12_lawOf_32 rfl ?_
        refine g_iald (pc := 33) hK (kdm kd_216) nl_216 (by decide) dd_X12_lawOf_33 (by omega) (by omega) (fun x5 ex5 rx5 => ?_)
        refine g_iret (pc := 34) hK hr hlocks dd_X12_lawOf_34 rfl ?_
        first | exact g_fin (hB (by first | omega | (subst_vars; omega) | exact ⟨by first | assumption | omega | (subst_vars; first | assumption | omega), by first | assumption | omega | (subst_vars; first | assumption | omega)⟩)) (by first | rfl | omega | (subst_vars; first | rfl | omega)) (by first | rfl | (subst_vars; rfl)) | exact g_fin (hY (by first | omega | (subst_vars; omega) | exact ⟨by first | assumption | omega | (subst_vars; first | assumption | omega), by first | assumption | omega | (subst_vars; first | assumption | omega)⟩)) (by first | rfl | omega | (subst_vars; first | rfl | omega)) (by first | rfl | (subst_vars; rfl)) | (exfalso; omega)
      · refine g_aloadn (pc := 17) (i := 0) (x := 200) hK dd_X12_lawOf_17 rfl rfl ?_
        refine g_bipush (pc := 18) (x := (-2)) hK dd_X12_lawOf_18 (by decide) ?_
        refine g_callV (pc := 20) (As := [gI (-2)]) hK ws_M_152 md_X12_no ⟨Nat.zero_le _, Nat.zero_le _⟩ ⟨by decide, by decide⟩ (kdm kd_200) rfl rfl dd_X12_lawOf_20 rfl rfl (Nat.le_of_ble_eq_true rfl) (d_no_2 hrg (g_r1 ?_))
        refine g_iret (pc := 23) hK hr hlocks dd_X12_lawOf_23 rfl ?_
        first | exact g_fin (hB (by first | omega | (subst_vars; omega) | exact ⟨by first | assumption | omega | (subst_vars; first | assumption | omega), by first | assumption | omega | (subst_vars; first | assumption | omega)⟩)) (by first | rfl | omega | (subst_vars; first | rfl | omega)) (by first | rfl | (subst_vars; rfl)) | exact g_fin (hY (by first | omega | (subst_vars; omega) | exact ⟨by first | assumption | omega | (subst_vars; first | assumption | omega), by first | assumption | omega | (subst_vars; first | assumption | omega)⟩)) (by first | rfl | omega | (subst_vars; first | rfl | omega)) (by first | rfl | (subst_vars; rfl)) | (exfalso; omega)
  · refine g_if_eq (pc := 5) (tgt := 17) hK dd_X12_lawOf_5 (by decide) (by decide) (fun _ => ?_) (fun c6 => absurd (by decide) c6)
    refine g_aloadn (pc := 17) (i := 0) (x := 200) hK dd_X12_lawOf_17 rfl rfl ?_
    refine g_bipush (pc := 18) (x := (-2)) hK dd_X12_lawOf_18 (by decide) ?_
    refine g_callV (pc := 20) (As := [gI (-2)]) hK ws_M_152 md_X12_no ⟨Nat.zero_le _, Nat.zero_le _⟩ ⟨by decide, by decide⟩ (kdm kd_200) rfl rfl dd_X12_lawOf_20 rfl rfl (Nat.le_of_ble_eq_true rfl) (d_no_2 hrg (g_r1 ?_))
    refine g_iret (pc := 23) hK hr hlocks dd_X12_lawOf_23 rfl ?_
    first | exact g_fin (hB (by first | omega | (subst_vars; omega) | exact ⟨by first | assumption | omega | (subst_vars; first | assumption | omega), by first | assumption | omega | (subst_vars; first | assumption | omega)⟩)) (by first | rfl | omega | (subst_vars; first | rfl | omega)) (by first | rfl | (subst_vars; rfl)) | exact g_fin (hY (by first | omega | (subst_vars; omega) | exact ⟨by first | assumption | omega | (subst_vars; first | assumption | omega), by first | assumption | omega | (subst_vars; first | assumption | omega)⟩)) (by first | rfl | omega | (subst_vars; first | rfl | omega)) (by first | rfl | (subst_vars; rfl)) | (exfalso; omega)
set_option maxHeartbeats 4000000 in
set_option maxRecDepth 100000 in
theorem y_mark {l : Launch} {M : Mem} {Pq : Option gV → Mem → Prop} (t : Int) (v : Int) (h_t : inI t) (h_v : inI v) (hrg : rgOK M) (hmc : 0 ≤ M 200 3 ∧ M 200 3 ≤ 30) (hB : (¬ ((0 ≤ t ∧ t < M 200 3) ∧ -1 ≤ v ∧ v ≤ 999)) → Pq (some (gI (-2))) (rg M 2)) (hS : (((0 ≤ t ∧ t < M 200 3) ∧ -1 ≤ v ∧ v ≤ 999) ∧ 0 ≤ M 209 t.toNat) → Pq (some (gI (-5))) (rg M 5)) (hY : (((0 ≤ t ∧ t < M 200 3) ∧ -1 ≤ v ∧ v ≤ 999) ∧ M 209 t.toNat < 0) → Pq (some (gI (M 208 t.toNat))) (up M 208 t.toNat v)) : gCtr l my_X12_mark mb_X12_mark 4 ((some .int)) 2 [gR 200, gI t, gI v] M Pq := by
  refine g_intro (by decide) (Nat.le_of_ble_eq_true rfl) ?_
  intro p e s m args below meth c D cy q A hK hr hlocks hw
  refine g_sub (L' := [(0, gR 200), (1, gI t), (2, gI v)]) [0, 1, 2] rfl ?_
  refine g_aloadn (pc := 0) (i := 0) (x := 200) hK dd_X12_mark_0 rfl rfl ?_
  refine g_iloadn (pc := 1) (i := 1) (x := t) hK dd_X12_mark_1 rfl rfl ?_
  refine g_callV (pc := 2) (As := [gI t]) hK ws_M_165 md_X12_isThing ⟨Nat.zero_le _, Nat.zero_le _⟩ ⟨by decide, by decide⟩ (kdm kd_200) rfl rfl dd_X12_mark_2 rfl rfl (Nat.le_of_ble_eq_true rfl) (d_isThing t h_t (fun c1 => g_r1 ?_) (fun c1 => g_r1 ?_))
  · refine g_if_eq (pc := 5) (tgt := 20) hK dd_X12_mark_5 (by decide) (by decide) (fun c2 => absurd c2 (by decide)) (fun _ => ?_)
    refine g_iloadn (pc := 8) (i := 2) (x := v) hK dd_X12_mark_8 rfl rfl ?_
    refine g_iconst (pc := 9) (x := (-1)) hK dd_X12_mark_9 (by decide) ?_
    refine g_icmp_lt (pc := 10) (tgt := 20) hK dd_X12_mark_10 (by decide) h_v (by decide) (fun c3 => ?_) (fun c3 => ?_)
    · refine g_aloadn (pc := 20) (i := 0) (x := 200) hK dd_X12_mark_20 rfl rfl ?_
      refine g_bipush (pc := 21) (x := (-2)) hK dd_X12_mark_21 (by decide) ?_
      refine g_callV (pc := 23) (As := [gI (-2)]) hK ws_M_152 md_X12_no ⟨Nat.zero_le _, Nat.zero_le _⟩ ⟨by decide, by decide⟩ (kdm kd_200) rfl rfl dd_X12_mark_23 rfl rfl (Nat.le_of_ble_eq_true rfl) (d_no_2 hrg (g_r1 ?_))
      refine g_iret (pc := 26) hK hr hlocks dd_X12_mark_26 rfl ?_
      first | exact g_fin (hB (by first | omega | (subst_vars; omega) | exact ⟨by first | assumption | omega | (subst_vars; first | assumption | omega), by first | assumption | omega | (subst_vars; first | assumption | omega)⟩)) (by first | rfl | omega | (subst_vars; first | rfl | omega)) (by first | rfl | (subst_vars; rfl)) | exact g_fin (hY (by first | omega | (subst_vars; omega) | exact ⟨by first | assumption | omega | (subst_vars; first | assumption | omega), by first | assumption | omega | (subst_vars; first | assumption | omega)⟩)) (by first | rfl | omega | (subst_vars; first | rfl | omega)) (by first | rfl | (subst_vars; rfl)) | (exfalso; omega)
    · refine g_iloadn (pc := 13) (i := 2) (x := v) hK dd_X12_mark_13 rfl rfl ?_
      refine g_sipush (pc := 14) (x := 999) hK dd_X12_mark_14 (by decide) ?_
      refine g_icmp_le (pc := 17) (tgt := 27) hK dd_X12_mark_17 (by decide) h_v (by decide) (fun c4 => ?_) (fun c4 => ?_)
      · refine g_aloadn (pc := 27) (i := 0) (x := 200) hK dd_X12_mark_27 rfl rfl ?_
        refine g_getv (pc := 28) (f := (1, 9)) (j := 8) (v := gR 209) hK (kdm kd_200) rfl ef_12 (by decide) rfl kk_1109 dd_X12_mark_28 rfl ?_
        refine g_iloadn (pc := 31) (i := 1) (x := t) hK dd_X12_mark_31 rfl rfl ?_
        refine g_iald (pc := 32) hK (kdm kd_209) nl_209 (by decide) dd_X12_mark_32 (by omega) (by omega) (fun x5 ex5 rx5 => ?_)
        refine g_if_lt (pc := 33) (tgt := 43) hK dd_X12_mark_33 (by decide) rx5 (fun c6 => ?_) (fun c6 => ?_)
        · refine g_aloadn (pc := 43) (i := 0) (x := 200) hK dd_X12_mark_43 rfl rfl ?_
          refine g_getv (pc := 44) (f := (1, 8)) (j := 7) (v := gR 208) hK (kdm kd_200) rfl ef_12 (by decide) rfl kk_1108 dd_X12_mark_44 rfl ?_
          refine g_iloadn (pc := 47) (i := 1) (x := t) hK dd_X12_mark_47 rfl rfl ?_
          refine g_iald (pc := 48) hK (kdm kd_208) nl_208 (by decide) dd_X12_mark_48 (by omega) (by omega) (fun x7 ex7 rx7 => ?_)
          refine g_istoren (pc := 49) (i := 3) (L' := [(0, gR 200), (1, gI t), (2, gI v), (3, gI x7)]) hK dd_X12_mark_49 rfl (by decide) rfl ?_
          refine g_aloadn (pc := 50) (i := 0) (x := 200) hK dd_X12_mark_50 rfl rfl ?_
          refine g_getv (pc := 51) (f := (1, 8)) (j := 7) (v := gR 208) hK (kdm kd_200) rfl ef_12 (by decide) rfl kk_1108 dd_X12_mark_51 rfl ?_
          refine g_iloadn (pc := 54) (i := 1) (x := t) hK dd_X12_mark_54 rfl rfl ?_
          refine g_iloadn (pc := 55) (i := 2) (x := v) hK dd_X12_mark_55 rfl rfl ?_
          refine g_iast (pc := 56) hK (kdm kd_208) nl_208 (by decide) (by decide) dd_X12_mark_56 (by omega) (by omega) h_v ?_
          refine g_iloadn (pc := 57) (i := 3) (x := x7) hK dd_X12_mark_57 rfl rfl ?_
          refine g_iret (pc := 58) hK hr hlocks dd_X12_mark_58 rfl ?_
          first | exact g_fin (hB (by first | omega | (subst_vars; omega) | exact ⟨by first | assumption | omega | (subst_vars; first | assumption | omega), by first | assumption | omega | (subst_vars; first | assumption | omega)⟩)) (by first | rfl | omega | (subst_vars; first | rfl | omega)) (by first | rfl | (subst_vars; rfl)) | exact g_fin (hS (by first | omega | (subst_vars; omega) | exact ⟨by first | assumption | omega | (subst_vars; first | assumption | omega), by first | assumption | omega | (subst_vars; first | assumption | omega)⟩)) (by first | rfl | omega | (subst_vars; first | rfl | omega)) (by first | rfl | (subst_vars; rfl)) | exact g_fin (hY (by first | omega | (subst_vars; omega) | exact ⟨by first | assumption | omega | (subst_vars; first | assumption | omega), by first | assumption | omega | (subst_vars; first | assumption | omega)⟩)) (by first | rfl | omega | (subst_vars; first | rfl | omega)) (by first | rfl | (subst_vars; rfl)) | (exfalso; omega)
        · refine g_aloadn (pc := 36) (i := 0) (x := 200) hK dd_X12_mark_36 rfl rfl ?_
          refine g_bipush (pc := 37) (x := (-5)) hK dd_X12_mark_37 (by decide) ?_
          refine g_callV (pc := 39) (As := [gI (-5)]) hK ws_M_152 md_X12_no ⟨Nat.zero_le _, Nat.zero_le _⟩ ⟨by decide, by decide⟩ (kdm kd_200) rfl rfl dd_X12_mark_39 rfl rfl (Nat.le_of_ble_eq_true rfl) (d_no_5 hrg (g_r1 ?_))
          refine g_iret (pc := 42) hK hr hlocks dd_X12_mark_42 rfl ?_
          first | exact g_fin (hS (by first | omega | (subst_vars; omega) | exact ⟨by first | assumption | omega | (subst_vars; first | assumption | omega), by first | assumption | omega | (subst_vars; first | assumption | omega)⟩)) (by first | rfl | omega | (subst_vars; first | rfl | omega)) (by first | rfl | (subst_vars; rfl)) | exact g_fin (hY (by first | omega | (subst_vars; omega) | exact ⟨by first | assumption | omega | (subst_vars; first | assumption | omega), by first | assumption | omega | (subst_vars; first | assumption | omega)⟩)) (by first | rfl | omega | (subst_vars; first | rfl | omega)) (by first | rfl | (subst_vars; rfl)) | (exfalso; omega)
      · refine g_aloadn (pc := 20) (i := 0) (x := 200) hK dd_X12_mark_20 rfl rfl ?_
        refine g_bipush (pc := 21) (x := (-2)) hK dd_X12_mark_21 (by decide) ?_
        refine g_callV (pc := 23) (As := [gI (-2)]) hK ws_M_152 md_X12_no ⟨Nat.zero_le _, Nat.zero_le _⟩ ⟨by decide, by decide⟩ (kdm kd_200) rfl rfl dd_X12_mark_23 rfl rfl (Nat.le_of_ble_eq_true rfl) (d_no_2 hrg (g_r1 ?_))
        refine g_iret (pc := 26) hK hr hlocks dd_X12_mark_26 rfl ?_
        first | exact g_fin (hB (by first | omega | (subst_vars; omega) | exact ⟨by first | assumption | omega | (subst_vars; first | assumption | omega), by first | assumption | omega | (subst_vars; first | assumption | omega)⟩)) (by first | rfl | omega | (subst_vars; first | rfl | omega)) (by first | rfl | (subst_vars; rfl)) | exact g_fin (hY (by first | omega | (subst_vars; omega) | exact ⟨by first | assumption | omega | (subst_vars; first | assumption | omega), by first | assumption | omega | (subst_vars; first | assumption | omega)⟩)) (by first | rfl | omega | (subst_vars; first | rfl | omega)) (by first | rfl | (subst_vars; rfl)) | (exfalso; omega)
  · refine g_if_eq (pc := 5) (tgt := 20) hK dd_X12_mark_5 (by decide) (by decide) (fun _ => ?_) (fun c8 => absurd (by decide) c8)
    refine g_aloadn (pc := 20) (i := 0) (x := 200) hK dd_X12_mark_20 rfl rfl ?_
    refine g_bipush (pc := 21) (x := (-2)) hK dd_X12_mark_21 (by decide) ?_
    refine g_callV (pc := 23) (As := [gI (-2)]) hK ws_M_152 md_X12_no ⟨Nat.zero_le _, Nat.zero_le _⟩ ⟨by decide, by decide⟩ (kdm kd_200) rfl rfl dd_X12_mark_23 rfl rfl (Nat.le_of_ble_eq_true rfl) (d_no_2 hrg (g_r1 ?_))
    refine g_iret (pc := 26) hK hr hlocks dd_X12_mark_26 rfl ?_
    first | exact g_fin (hB (by first | omega | (subst_vars; omega) | exact ⟨by first | assumption | omega | (subst_vars; first | assumption | omega), by first | assumption | omega | (subst_vars; first | assumption | omega)⟩)) (by first | rfl | omega | (subst_vars; first | rfl | omega)) (by first | rfl | (subst_vars; rfl)) | exact g_fin (hY (by first | omega | (subst_vars; omega) | exact ⟨by first | assumption | omega | (subst_vars; first | assumption | omega), by first | assumption | omega | (subst_vars; first | assumption | omega)⟩)) (by first | rfl | omega | (subst_vars; first | rfl | omega)) (by first | rfl | (subst_vars; rfl)) | (exfalso; omega)
set_option maxHeartbeats 4000000 in
set_option maxRecDepth 100000 in
theorem y_buyer {l : Launch} {M : Mem} {Pq : Option gV → Mem → Prop} (ho : Int) (pu : Int) (ks : Int) (ey : Int) (h_ho : inI ho) (h_pu : inI pu) (h_ks : inI ks) (h_ey : inI ey) (hrg : rgOK M) (hmbc : 0 ≤ M 200 18 ∧ M 200 18 ≤ 12) (hB : (¬ ((0 ≤ ho ∧ ho < 12) ∧ (0 ≤ pu ∧ pu ≤ 9999) ∧ (0 ≤ ks ∧ ks < 64) ∧ 0 ≤ ey ∧ ey ≤ 300)) → Pq (some (gI (-2))) (rg M 2)) (hF : (((0 ≤ ho ∧ ho < 12) ∧ (0 ≤ pu ∧ pu ≤ 9999) ∧ (0 ≤ ks ∧ ks < 64) ∧ 0 ≤ ey ∧ ey ≤ 300) ∧ M 200 18 = 12) → Pq (some (gI (-6))) (rg M 6)) (hY : (((0 ≤ ho ∧ ho < 12) ∧ (0 ≤ pu ∧ pu ≤ 9999) ∧ (0 ≤ ks ∧ ks < 64) ∧ 0 ≤ ey ∧ ey ≤ 300) ∧ ¬ M 200 18 = 12) → Pq (some (gI (M 200 18))) (up (up (up (up (up (up M 220 (M 200 18).toNat ho) 221 (M 200 18).toNat pu) 222 (M 200 18).toNat ks) 223 (M 200 18).toNat ey) 224 (M 200 18).toNat 0) 200 18 (M 200 18 + 1))) : gCtr l my_X12_buyer mb_X12_buyer 5 ((some .int)) 2 [gR 200, gI ho, gI pu, gI ks, gI ey] M Pq := by
  refine g_intro (by decide) (Nat.le_of_ble_eq_true rfl) ?_
  intro p e s m args below meth c D cy q A hK hr hlocks hw
  refine g_sub (L' := [(0, gR 200), (1, gI ho), (2, gI pu), (3, gI ks), (4, gI ey)]) [0, 1, 2, 3, 4] rfl ?_
  refine g_aloadn (pc := 0) (i := 0) (x := 200) hK dd_X12_buyer_0 rfl rfl ?_
  refine g_iloadn (pc := 1) (i := 1) (x := ho) hK dd_X12_buyer_1 rfl rfl ?_
  refine g_callV (pc := 2) (As := [gI ho]) hK ws_M_248 md_X12_isHour ⟨Nat.zero_le _, Nat.zero_le _⟩ ⟨by decide, by decide⟩ (kdm kd_200) rfl rfl dd_X12_buyer_2 rfl rfl (Nat.le_of_ble_eq_true rfl) (d_isHour ho h_ho (fun c1 => g_r1 ?_) (fun c1 => g_r1 ?_))
  · refine g_if_eq (pc := 5) (tgt := 40) hK dd_X12_buyer_5 (by decide) (by decide) (fun c2 => absurd c2 (by decide)) (fun _ => ?_)
    refine g_iloadn (pc := 8) (i := 2) (x := pu) hK dd_X12_buyer_8 rfl rfl ?_
    refine g_if_lt (pc := 9) (tgt := 40) hK dd_X12_buyer_9 (by decide) h_pu (fun c3 => ?_) (fun c3 => ?_)
    · refine g_aloadn (pc := 40) (i := 0) (x := 200) hK dd_X12_buyer_40 rfl rfl ?_
      refine g_bipush (pc := 41) (x := (-2)) hK dd_X12_buyer_41 (by decide) ?_
      refine g_callV (pc := 43) (As := [gI (-2)]) hK ws_M_152 md_X12_no ⟨Nat.zero_le _, Nat.zero_le _⟩ ⟨by decide, by decide⟩ (kdm kd_200) rfl rfl dd_X12_buyer_43 rfl rfl (Nat.le_of_ble_eq_true rfl) (d_no_2 hrg (g_r1 ?_))
      refine g_iret (pc := 46) hK hr hlocks dd_X12_buyer_46 rfl ?_
      first | exact g_fin (hB (by first | omega | (subst_vars; omega) | exact ⟨by first | assumption | omega | (subst_vars; first | assumption | omega), by first | assumption | omega | (subst_vars; first | assumption | omega)⟩)) (by first | rfl | omega | (subst_vars; first | rfl | omega)) (by first | rfl | (subst_vars; rfl)) | exact g_fin (hY (by first | omega | (subst_vars; omega) | exact ⟨by first | assumption | omega | (subst_vars; first | assumption | omega), by first | assumption | omega | (subst_vars; first | assumption | omega)⟩)) (by first | rfl | omega | (subst_vars; first | rfl | omega)) (by first | rfl | (subst_vars; rfl)) | (exfalso; omega)
    · refine g_iloadn (pc := 12) (i := 2) (x := pu) hK dd_X12_buyer_12 rfl rfl ?_
      refine g_sipush (pc := 13) (x := 9999) hK dd_X12_buyer_13 (by decide) ?_
      refine g_icmp_gt (pc := 16) (tgt := 40) hK dd_X12_buyer_16 (by decide) h_pu (by decide) (fun c4 => ?_) (fun c4 => ?_)
      · refine g_aloadn (pc := 40) (i := 0) (x := 200) hK dd_X12_buyer_40 rfl rfl ?_
        refine g_bipush (pc := 41) (x := (-2)) hK dd_X12_buyer_41 (by decide) ?_
        refine g_callV (pc := 43) (As := [gI (-2)]) hK ws_M_152 md_X12_no ⟨Nat.zero_le _, Nat.zero_le _⟩ ⟨by decide, by decide⟩ (kdm kd_200) rfl rfl dd_X12_buyer_43 rfl rfl (Nat.le_of_ble_eq_true rfl) (d_no_2 hrg (g_r1 ?_))
        refine g_iret (pc := 46) hK hr hlocks dd_X12_buyer_46 rfl ?_
        first | exact g_fin (hB (by first | omega | (subst_vars; omega) | exact ⟨by first | assumption | omega | (subst_vars; first | assumption | omega), by first | assumption | omega | (subst_vars; first | assumption | omega)⟩)) (by first | rfl | omega | (subst_vars; first | rfl | omega)) (by first | rfl | (subst_vars; rfl)) | exact g_fin (hY (by first | omega | (subst_vars; omega) | exact ⟨by first | assumption | omega | (subst_vars; first | assumption | omega), by first | assumption | omega | (subst_vars; first | assumption | omega)⟩)) (by first | rfl | omega | (subst_vars; first | rfl | omega)) (by first | rfl | (subst_vars; rfl)) | (exfalso; omega)
      · refine g_aloadn (pc := 19) (i := 0) (x := 200) hK dd_X12_buyer_19 rfl rfl ?_
        refine g_iloadn (pc := 20) (i := 3) (x := ks) hK dd_X12_buyer_20 rfl rfl ?_
        refine g_callV (pc := 21) (As := [gI ks]) hK ws_M_190 md_X12_areKinds ⟨Nat.zero_le _, Nat.zero_le _⟩ ⟨by decide, by decide⟩ (kdm kd_200) rfl rfl dd_X12_buyer_21 rfl rfl (Nat.le_of_ble_eq_true rfl) (d_areKinds ks h_ks (fun c5 => g_r1 ?_) (fun c5 => g_r1 ?_))
        · refine g_if_eq (pc := 24) (tgt := 40) hK dd_X12_buyer_24 (by decide) (by decide) (fun c6 => absurd c6 (by decide)) (fun _ => ?_)
          refine g_iload (pc := 27) (i := 4) (x := ey) hK dd_X12_buyer_27 rfl ?_
          refine g_if_lt (pc := 29) (tgt := 40) hK dd_X12_buyer_29 (by decide) h_ey (fun c7 => ?_) (fun c7 => ?_)
          · refine g_aloadn (pc := 40) (i := 0) (x := 200) hK dd_X12_buyer_40 rfl rfl ?_
            refine g_bipush (pc := 41) (x := (-2)) hK dd_X12_buyer_41 (by decide) ?_
            refine g_callV (pc := 43) (As := [gI (-2)]) hK ws_M_152 md_X12_no ⟨Nat.zero_le _, Nat.zero_le _⟩ ⟨by decide, by decide⟩ (kdm kd_200) rfl rfl dd_X12_buyer_43 rfl rfl (Nat.le_of_ble_eq_true rfl) (d_no_2 hrg (g_r1 ?_))
            refine g_iret (pc := 46) hK hr hlocks dd_X12_buyer_46 rfl ?_
            first | exact g_fin (hB (by first | omega | (subst_vars; omega) | exact ⟨by first | assumption | omega | (subst_vars; first | assumption | omega), by first | assumption | omega | (subst_vars; first | assumption | omega)⟩)) (by first | rfl | omega | (subst_vars; first | rfl | omega)) (by first | rfl | (subst_vars; rfl)) | exact g_fin (hY (by first | omega | (subst_vars; omega) | exact ⟨by first | assumption | omega | (subst_vars; first | assumption | omega), by first | assumption | omega | (subst_vars; first | assumption | omega)⟩)) (by first | rfl | omega | (subst_vars; first | rfl | omega)) (by first | rfl | (subst_vars; rfl)) | (exfalso; omega)
          · refine g_iload (pc := 32) (i := 4) (x := ey) hK dd_X12_buyer_32 rfl ?_
            refine g_sipush (pc := 34) (x := 300) hK dd_X12_buyer_34 (by decide) ?_
            refine g_icmp_le (pc := 37) (tgt := 47) hK dd_X12_buyer_37 (by decide) h_ey (by decide) (fun c8 => ?_) (fun c8 => ?_)
            · refine g_aloadn (pc := 47) (i := 0) (x := 200) hK dd_X12_buyer_47 rfl rfl ?_
              refine g_geti (pc := 48) (f := (0, 0)) (j := 18) hK (kdm kd_200) rfl ef_12 (by decide) rfl kk_1119 nl_200 dd_X12_buyer_48 rfl (fun x9 ex9 rx9 => ?_)
              refine g_bipush (pc := 51) (x := 12) hK dd_X12_buyer_51 (by decide) ?_
              refine g_icmp_ne (pc := 53) (tgt := 63) hK dd_X12_buyer_53 (by decide) rx9 (by decide) (fun c10 => ?_) (fun c10 => ?_)
              · refine g_aloadn (pc := 63) (i := 0) (x := 200) hK dd_X12_buyer_63 rfl rfl ?_
                refine g_getv (pc := 64) (f := (1, 20)) (j := 19) (v := gR 220) hK (kdm kd_200) rfl ef_12 (by decide) rfl kk_1120 dd_X12_buyer_64 rfl ?_
                refine g_aloadn (pc := 67) (i := 0) (x := 200) hK dd_X12_buyer_67 rfl rfl ?_
                refine g_geti (pc := 68) (f := (0, 0)) (j := 18) hK (kdm kd_200) rfl ef_12 (by decide) rfl kk_1119 nl_200 dd_X12_buyer_68 rfl (fun x11 ex11 rx11 => ?_)
                refine g_iloadn (pc := 71) (i := 1) (x := ho) hK dd_X12_buyer_71 rfl rfl ?_
                refine g_iast (pc := 72) hK (kdm kd_220) nl_220 (by decide) (by decide) dd_X12_buyer_72 (by omega) (by omega) h_ho ?_
                refine g_aloadn (pc := 73) (i := 0) (x := 200) hK dd_X12_buyer_73 rfl rfl ?_
                refine g_getv (pc := 74) (f := (1, 21)) (j := 20) (v := gR 221) hK (kdm kd_200) rfl ef_12 (by decide) rfl kk_1121 dd_X12_buyer_74 rfl ?_
                refine g_aloadn (pc := 77) (i := 0) (x := 200) hK dd_X12_buyer_77 rfl rfl ?_
                refine g_geti (pc := 78) (f := (0, 0)) (j := 18) hK (kdm kd_200) rfl ef_12 (by decide) rfl kk_1119 nl_200 dd_X12_buyer_78 rfl (fun x12 ex12 rx12 => ?_)
                replace ex12 : x12 = M 200 18 := ex12
                refine g_iloadn (pc := 81) (i := 2) (x := pu) hK dd_X12_buyer_81 rfl rfl ?_
                refine g_iast (pc := 82) hK (kdm kd_221) nl_221 (by decide) (by decide) dd_X12_buyer_82 (by omega) (by omega) h_pu ?_
                refine g_aloadn (pc := 83) (i := 0) (x := 200) hK dd_X12_buyer_83 rfl rfl ?_
                refine g_getv (pc := 84) (f := (1, 22)) (j := 21) (v := gR 222) hK (kdm kd_200) rfl ef_12 (by decide) rfl kk_1122 dd_X12_buyer_84 rfl ?_
                refine g_aloadn (pc := 87) (i := 0) (x := 200) hK dd_X12_buyer_87 rfl rfl ?_
                refine g_geti (pc := 88) (f := (0, 0)) (j := 18) hK (kdm kd_200) rfl ef_12 (by decide) rfl kk_1119 nl_200 dd_X12_buyer_88 rfl (fun x13 ex13 rx13 => ?_)
                replace ex13 : x13 = M 200 18 := ex13
                refine g_iloadn (pc := 91) (i := 3) (x := ks) hK dd_X12_buyer_91 rfl rfl ?_
                refine g_iast (pc := 92) hK (kdm kd_222) nl_222 (by decide) (by decide) dd_X12_buyer_92 (by omega) (by omega) h_ks ?_
                refine g_aloadn (pc := 93) (i := 0) (x := 200) hK dd_X12_buyer_93 rfl rfl ?_
                refine g_getv (pc := 94) (f := (1, 23)) (j := 22) (v := gR 223) hK (kdm kd_200) rfl ef_12 (by decide) rfl kk_1123 dd_X12_buyer_94 rfl ?_
                refine g_aloadn (pc := 97) (i := 0) (x := 200) hK dd_X12_buyer_97 rfl rfl ?_
                refine g_geti (pc := 98) (f := (0, 0)) (j := 18) hK (kdm kd_200) rfl ef_12 (by decide) rfl kk_1119 nl_200 dd_X12_buyer_98 rfl (fun x14 ex14 rx14 => ?_)
                replace ex14 : x14 = M 200 18 := ex14
                refine g_iload (pc := 101) (i := 4) (x := ey) hK dd_X12_buyer_101 rfl ?_
                refine g_iast (pc := 103) hK (kdm kd_223) nl_223 (by decide) (by decide) dd_X12_buyer_103 (by omega) (by omega) h_ey ?_
                refine g_aloadn (pc := 104) (i := 0) (x := 200) hK dd_X12_buyer_104 rfl rfl ?_
                refine g_getv (pc := 105) (f := (1, 24)) (j := 23) (v := gR 224) hK (kdm kd_200) rfl ef_12 (by decide) rfl kk_1124 dd_X12_buyer_105 rfl ?_
                refine g_aloadn (pc := 108) (i := 0) (x := 200) hK dd_X12_buyer_108 rfl rfl ?_
                refine g_geti (pc := 109) (f := (0, 0)) (j := 18) hK (kdm kd_200) rfl ef_12 (by decide) rfl kk_1119 nl_200 dd_X12_buyer_109 rfl (fun x15 ex15 rx15 => ?_)
                replace ex15 : x15 = M 200 18 := ex15
                refine g_iconst (pc := 112) (x := 0) hK dd_X12_buyer_112 (by decide) ?_
                refine g_iast (pc := 113) hK (kdm kd_224) nl_224 (by decide) (by decide) dd_X12_buyer_113 (by omega) (by omega) (by decide) ?_
                refine g_aloadn (pc := 114) (i := 0) (x := 200) hK dd_X12_buyer_114 rfl rfl ?_
                refine g_dup (pc := 115) hK dd_X12_buyer_115 rfl ?_
                refine g_geti (pc := 116) (f := (0, 0)) (j := 18) hK (kdm kd_200) rfl ef_12 (by decide) rfl kk_1119 nl_200 dd_X12_buyer_116 rfl (fun x16 ex16 rx16 => ?_)
                replace ex16 : x16 = M 200 18 := ex16
                refine g_dupx1 (pc := 119) hK dd_X12_buyer_119 rfl rfl ?_
                refine g_iconst (pc := 120) (x := 1) hK dd_X12_buyer_120 (by decide) ?_
                refine g_iadd (pc := 121) (z := x16 + 1) hK dd_X12_buyer_121 rfl ?_
                refine g_puti (pc := 122) (f := (0, 0)) (j := 18) (ty := .int) hK (kdm kd_200) rfl ef_12 (by decide) rfl kk_1119 nl_200 (by decide) dd_X12_buyer_122 rfl rfl rfl rfl rfl ⟨by omega, by omega⟩ ?_
                refine g_iret (pc := 125) hK hr hlocks dd_X12_buyer_125 rfl ?_
                first | exact g_fin (hB (by first | omega | (subst_vars; omega) | exact ⟨by first | assumption | omega | (subst_vars; first | assumption | omega), by first | assumption | omega | (subst_vars; first | assumption | omega)⟩)) (by first | rfl | omega | (subst_vars; first | rfl | omega)) (by first | rfl | (subst_vars; rfl)) | exact g_fin (hF (by first | omega | (subst_vars; omega) | exact ⟨by first | assumption | omega | (subst_vars; first | assumption | omega), by first | assumption | omega | (subst_vars; first | assumption | omega)⟩)) (by first | rfl | omega | (subst_vars; first | rfl | omega)) (by first | rfl | (subst_vars; rfl)) | exact g_fin (hY (by first | omega | (subst_vars; omega) | exact ⟨by first | assumption | omega | (subst_vars; first | assumption | omega), by first | assumption | omega | (subst_vars; first | assumption | omega)⟩)) (by first | rfl | omega | (subst_vars; first | rfl | omega)) (by first | rfl | (subst_vars; rfl)) | (exfalso; omega)
              · refine g_aloadn (pc := 56) (i := 0) (x := 200) hK dd_X12_buyer_56 rfl rfl ?_
                refine g_bipush (pc := 57) (x := (-6)) hK dd_X12_buyer_57 (by decide) ?_
                refine g_callV (pc := 59) (As := [gI (-6)]) hK ws_M_152 md_X12_no ⟨Nat.zero_le _, Nat.zero_le _⟩ ⟨by decide, by decide⟩ (kdm kd_200) rfl rfl dd_X12_buyer_59 rfl rfl (Nat.le_of_ble_eq_true rfl) (d_no_6 hrg (g_r1 ?_))
                refine g_iret (pc := 62) hK hr hlocks dd_X12_buyer_62 rfl ?_
                first | exact g_fin (hF (by first | omega | (subst_vars; omega) | exact ⟨by first | assumption | omega | (subst_vars; first | assumption | omega), by first | assumption | omega | (subst_vars; first | assumption | omega)⟩)) (by first | rfl | omega | (subst_vars; first | rfl | omega)) (by first | rfl | (subst_vars; rfl)) | exact g_fin (hY (by first | omega | (subst_vars; omega) | exact ⟨by first | assumption | omega | (subst_vars; first | assumption | omega), by first | assumption | omega | (subst_vars; first | assumption | omega)⟩)) (by first | rfl | omega | (subst_vars; first | rfl | omega)) (by first | rfl | (subst_vars; rfl)) | (exfalso; omega)
            · refine g_aloadn (pc := 40) (i := 0) (x := 200) hK dd_X12_buyer_40 rfl rfl ?_
              refine g_bipush (pc := 41) (x := (-2)) hK dd_X12_buyer_41 (by decide) ?_
              refine g_callV (pc := 43) (As := [gI (-2)]) hK ws_M_152 md_X12_no ⟨Nat.zero_le _, Nat.zero_le _⟩ ⟨by decide, by decide⟩ (kdm kd_200) rfl rfl dd_X12_buyer_43 rfl rfl (Nat.le_of_ble_eq_true rfl) (d_no_2 hrg (g_r1 ?_))
              refine g_iret (pc := 46) hK hr hlocks dd_X12_buyer_46 rfl ?_
              first | exact g_fin (hB (by first | omega | (subst_vars; omega) | exact ⟨by first | assumption | omega | (subst_vars; first | assumption | omega), by first | assumption | omega | (subst_vars; first | assumption | omega)⟩)) (by first | rfl | omega | (subst_vars; first | rfl | omega)) (by first | rfl | (subst_vars; rfl)) | exact g_fin (hY (by first | omega | (subst_vars; omega) | exact ⟨by first | assumption | omega | (subst_vars; first | assumption | omega), by first | assumption | omega | (subst_vars; first | assumption | omega)⟩)) (by first | rfl | omega | (subst_vars; first | rfl | omega)) (by first | rfl | (subst_vars; rfl)) | (exfalso; omega)
        · refine g_if_eq (pc := 24) (tgt := 40) hK dd_X12_buyer_24 (by decide) (by decide) (fun _ => ?_) (fun c17 => absurd (by decide) c17)
          refine g_aloadn (pc := 40) (i := 0) (x := 200) hK dd_X12_buyer_40 rfl rfl ?_
          refine g_bipush (pc := 41) (x := (-2)) hK dd_X12_buyer_41 (by decide) ?_
          refine g_callV (pc := 43) (As := [gI (-2)]) hK ws_M_152 md_X12_no ⟨Nat.zero_le _, Nat.zero_le _⟩ ⟨by decide, by decide⟩ (kdm kd_200) rfl rfl dd_X12_buyer_43 rfl rfl (Nat.le_of_ble_eq_true rfl) (d_no_2 hrg (g_r1 ?_))
          refine g_iret (pc := 46) hK hr hlocks dd_X12_buyer_46 rfl ?_
          first | exact g_fin (hB (by first | omega | (subst_vars; omega) | exact ⟨by first | assumption | omega | (subst_vars; first | assumption | omega), by first | assumption | omega | (subst_vars; first | assumption | omega)⟩)) (by first | rfl | omega | (subst_vars; first | rfl | omega)) (by first | rfl | (subst_vars; rfl)) | exact g_fin (hY (by first | omega | (subst_vars; omega) | exact ⟨by first | assumption | omega | (subst_vars; first | assumption | omega), by first | assumption | omega | (subst_vars; first | assumption | omega)⟩)) (by first | rfl | omega | (subst_vars; first | rfl | omega)) (by first | rfl | (subst_vars; rfl)) | (exfalso; omega)
  · refine g_if_eq (pc := 5) (tgt := 40) hK dd_X12_buyer_5 (by decide) (by decide) (fun _ => ?_) (fun c18 => absurd (by decide) c18)
    refine g_aloadn (pc := 40) (i := 0) (x := 200) hK dd_X12_buyer_40 rfl rfl ?_
    refine g_bipush (pc := 41) (x := (-2)) hK dd_X12_buyer_41 (by decide) ?_
    refine g_callV (pc := 43) (As := [gI (-2)]) hK ws_M_152 md_X12_no ⟨Nat.zero_le _, Nat.zero_le _⟩ ⟨by decide, by decide⟩ (kdm kd_200) rfl rfl dd_X12_buyer_43 rfl rfl (Nat.le_of_ble_eq_true rfl) (d_no_2 hrg (g_r1 ?_))
    refine g_iret (pc := 46) hK hr hlocks dd_X12_buyer_46 rfl ?_
    first | exact g_fin (hB (by first | omega | (subst_vars; omega) | exact ⟨by first | assumption | omega | (subst_vars; first | assumption | omega), by first | assumption | omega | (subst_vars; first | assumption | omega)⟩)) (by first | rfl | omega | (subst_vars; first | rfl | omega)) (by first | rfl | (subst_vars; rfl)) | exact g_fin (hY (by first | omega | (subst_vars; omega) | exact ⟨by first | assumption | omega | (subst_vars; first | assumption | omega), by first | assumption | omega | (subst_vars; first | assumption | omega)⟩)) (by first | rfl | omega | (subst_vars; first | rfl | omega)) (by first | rfl | (subst_vars; rfl)) | (exfalso; omega)
set_option maxHeartbeats 4000000 in
set_option maxRecDepth 100000 in
theorem y_buyerOf {l : Launch} {M : Mem} {Pq : Option gV → Mem → Prop} (b : Int) (wh : Int) (h_b : inI b) (h_wh : inI wh) (hrg : rgOK M) (hmbc : 0 ≤ M 200 18 ∧ M 200 18 ≤ 12) (hB : (¬ ((0 ≤ b ∧ b < M 200 18) ∧ 0 ≤ wh ∧ wh ≤ 4)) → Pq (some (gI (-2))) (rg M 2)) (h0 : ((0 ≤ b ∧ b < M 200 18) ∧ wh = 0) → Pq (some (gI (M 220 b.toNat))) M) (h1 : ((0 ≤ b ∧ b < M 200 18) ∧ wh = 1) → Pq (some (gI (M 221 b.toNat))) M) (h2 : ((0 ≤ b ∧ b < M 200 18) ∧ wh = 2) → Pq (some (gI (M 222 b.toNat))) M) (h3 : ((0 ≤ b ∧ b < M 200 18) ∧ wh = 3) → Pq (some (gI (M 223 b.toNat))) M) (h4 : ((0 ≤ b ∧ b < M 200 18) ∧ wh = 4) → Pq (some (gI (M 224 b.toNat))) M) : gCtr l my_X12_buyerOf mb_X12_buyerOf 3 ((some .int)) 2 [gR 200, gI b, gI wh] M Pq := by
  refine g_intro (by decide) (Nat.le_of_ble_eq_true rfl) ?_
  intro p e s m args below meth c D cy q A hK hr hlocks hw
  refine g_sub (L' := [(0, gR 200), (1, gI b), (2, gI wh)]) [0, 1, 2] rfl ?_
  refine g_aloadn (pc := 0) (i := 0) (x := 200) hK dd_X12_buyerOf_0 rfl rfl ?_
  refine g_iloadn (pc := 1) (i := 1) (x := b) hK dd_X12_buyerOf_1 rfl rfl ?_
  refine g_callV (pc := 2) (As := [gI b]) hK ws_M_251 md_X12_isBuyer ⟨Nat.zero_le _, Nat.zero_le _⟩ ⟨by decide, by decide⟩ (kdm kd_200) rfl rfl dd_X12_buyerOf_2 rfl rfl (Nat.le_of_ble_eq_true rfl) (d_isBuyer b h_b (fun c1 => g_r1 ?_) (fun c1 => g_r1 ?_))
  · refine g_if_eq (pc := 5) (tgt := 17) hK dd_X12_buyerOf_5 (by decide) (by decide) (fun c2 => absurd c2 (by decide)) (fun _ => ?_)
    refine g_iloadn (pc := 8) (i := 2) (x := wh) hK dd_X12_buyerOf_8 rfl rfl ?_
    refine g_if_lt (pc := 9) (tgt := 17) hK dd_X12_buyerOf_9 (by decide) h_wh (fun c3 => ?_) (fun c3 => ?_)
    · refine g_aloadn (pc := 17) (i := 0) (x := 200) hK dd_X12_buyerOf_17 rfl rfl ?_
      refine g_bipush (pc := 18) (x := (-2)) hK dd_X12_buyerOf_18 (by decide) ?_
      refine g_callV (pc := 20) (As := [gI (-2)]) hK ws_M_152 md_X12_no ⟨Nat.zero_le _, Nat.zero_le _⟩ ⟨by decide, by decide⟩ (kdm kd_200) rfl rfl dd_X12_buyerOf_20 rfl rfl (Nat.le_of_ble_eq_true rfl) (d_no_2 hrg (g_r1 ?_))
      refine g_iret (pc := 23) hK hr hlocks dd_X12_buyerOf_23 rfl ?_
      first | exact g_fin (hB (by first | omega | (subst_vars; omega) | exact ⟨by first | assumption | omega | (subst_vars; first | assumption | omega), by first | assumption | omega | (subst_vars; first | assumption | omega)⟩)) (by first | rfl | omega | (subst_vars; first | rfl | omega)) (by first | rfl | (subst_vars; rfl)) | exact g_fin (h0 (by first | omega | (subst_vars; omega) | exact ⟨by first | assumption | omega | (subst_vars; first | assumption | omega), by first | assumption | omega | (subst_vars; first | assumption | omega)⟩)) (by first | rfl | omega | (subst_vars; first | rfl | omega)) (by first | rfl | (subst_vars; rfl)) | exact g_fin (h1 (by first | omega | (subst_vars; omega) | exact ⟨by first | assumption | omega | (subst_vars; first | assumption | omega), by first | assumption | omega | (subst_vars; first | assumption | omega)⟩)) (by first | rfl | omega | (subst_vars; first | rfl | omega)) (by first | rfl | (subst_vars; rfl)) | exact g_fin (h2 (by first | omega | (subst_vars; omega) | exact ⟨by first | assumption | omega | (subst_vars; first | assumption | omega), by first | assumption | omega | (subst_vars; first | assumption | omega)⟩)) (by first | rfl | omega | (subst_vars; first | rfl | omega)) (by first | rfl | (subst_vars; rfl)) | exact g_fin (h3 (by first | omega | (subst_vars; omega) | exact ⟨by first | assumption | omega | (subst_vars; first | assumption | omega), by first | assumption | omega | (subst_vars; first | assumption | omega)⟩)) (by first | rfl | omega | (subst_vars; first | rfl | omega)) (by first | rfl | (subst_vars; rfl)) | exact g_fin (h4 (by first | omega | (subst_vars; omega) | exact ⟨by first | assumption | omega | (subst_vars; first | assumption | omega), by first | assumption | omega | (subst_vars; first | assumption | omega)⟩)) (by first | rfl | omega | (subst_vars; first | rfl | omega)) (by first | rfl | (subst_vars; rfl)) | (exfalso; omega)
    · refine g_iloadn (pc := 12) (i := 2) (x := wh) hK dd_X12_buyerOf_12 rfl rfl ?_
      refine g_iconst (pc := 13) (x := 4) hK dd_X12_buyerOf_13 (by decide) ?_
      refine g_icmp_le (pc := 14) (tgt := 24) hK dd_X12_buyerOf_14 (by decide) h_wh (by decide) (fun c4 => ?_) (fun c4 => ?_)
      · refine g_iloadn (pc := 24) (i := 2) (x := wh) hK dd_X12_buyerOf_24 rfl rfl ?_
        refine g_if_ne (pc := 25) (tgt := 35) hK dd_X12_buyerOf_25 (by decide) h_wh (fun c5 => ?_) (fun c5 => ?_)
        · refine g_iloadn (pc := 35) (i := 2) (x := wh) hK dd_X12_buyerOf_35 rfl rfl ?_
          refine g_iconst (pc := 36) (x := 1) hK dd_X12_buyerOf_36 (by decide) ?_
          refine g_icmp_ne (pc := 37) (tgt := 47) hK dd_X12_buyerOf_37 (by decide) h_wh (by decide) (fun c6 => ?_) (fun c6 => ?_)
          · refine g_iloadn (pc := 47) (i := 2) (x := wh) hK dd_X12_buyerOf_47 rfl rfl ?_
            refine g_iconst (pc := 48) (x := 2) hK dd_X12_buyerOf_48 (by decide) ?_
            refine g_icmp_ne (pc := 49) (tgt := 59) hK dd_X12_buyerOf_49 (by decide) h_wh (by decide) (fun c7 => ?_) (fun c7 => ?_)
            · refine g_iloadn (pc := 59) (i := 2) (x := wh) hK dd_X12_buyerOf_59 rfl rfl ?_
              refine g_iconst (pc := 60) (x := 3) hK dd_X12_buyerOf_60 (by decide) ?_
              refine g_icmp_ne (pc := 61) (tgt := 73) hK dd_X12_buyerOf_61 (by decide) h_wh (by decide) (fun c8 => ?_) (fun c8 => ?_)
              · refine g_aloadn (pc := 73) (i := 0) (x := 200) hK dd_X12_buyerOf_73 rfl rfl ?_
                refine g_getv (pc := 74) (f := (1, 24)) (j := 23) (v := gR 224) hK (kdm kd_200) rfl ef_12 (by decide) rfl kk_1124 dd_X12_buyerOf_74 rfl ?_
                refine g_iloadn (pc := 77) (i := 1) (x := b) hK dd_X12_buyerOf_77 rfl rfl ?_
                refine g_iald (pc := 78) hK (kdm kd_224) nl_224 (by decide) dd_X12_buyerOf_78 (by omega) (by omega) (fun x9 ex9 rx9 => ?_)
                refine g_iret (pc := 79) hK hr hlocks dd_X12_buyerOf_79 rfl ?_
                first | exact g_fin (hB (by first | omega | (subst_vars; omega) | exact ⟨by first | assumption | omega | (subst_vars; first | assumption | omega), by first | assumption | omega | (subst_vars; first | assumption | omega)⟩)) (by first | rfl | omega | (subst_vars; first | rfl | omega)) (by first | rfl | (subst_vars; rfl)) | exact g_fin (h0 (by first | omega | (subst_vars; omega) | exact ⟨by first | assumption | omega | (subst_vars; first | assumption | omega), by first | assumption | omega | (subst_vars; first | assumption | omega)⟩)) (by first | rfl | omega | (subst_vars; first | rfl | omega)) (by first | rfl | (subst_vars; rfl)) | exact g_fin (h1 (by first | omega | (subst_vars; omega) | exact ⟨by first | assumption | omega | (subst_vars; first | assumption | omega), by first | assumption | omega | (subst_vars; first | assumption | omega)⟩)) (by first | rfl | omega | (subst_vars; first | rfl | omega)) (by first | rfl | (subst_vars; rfl)) | exact g_fin (h2 (by first | omega | (subst_vars; omega) | exact ⟨by first | assumption | omega | (subst_vars; first | assumption | omega), by first | assumption | omega | (subst_vars; first | assumption | omega)⟩)) (by first | rfl | omega | (subst_vars; first | rfl | omega)) (by first | rfl | (subst_vars; rfl)) | exact g_fin (h3 (by first | omega | (subst_vars; omega) | exact ⟨by first | assumption | omega | (subst_vars; first | assumption | omega), by first | assumption | omega | (subst_vars; first | assumption | omega)⟩)) (by first | rfl | omega | (subst_vars; first | rfl | omega)) (by first | rfl | (subst_vars; rfl)) | exact g_fin (h4 (by first | omega | (subst_vars; omega) | exact ⟨by first | assumption | omega | (subst_vars; first | assumption | omega), by first | assumption | omega | (subst_vars; first | assumption | omega)⟩)) (by first | rfl | omega | (subst_vars; first | rfl | omega)) (by first | rfl | (subst_vars; rfl)) | (exfalso; omega)
              · refine g_aloadn (pc := 64) (i := 0) (x := 200) hK dd_X12_buyerOf_64 rfl rfl ?_
                refine g_getv (pc := 65) (f := (1, 23)) (j := 22) (v := gR 223) hK (kdm kd_200) rfl ef_12 (by decide) rfl kk_1123 dd_X12_buyerOf_65 rfl ?_
                refine g_iloadn (pc := 68) (i := 1) (x := b) hK dd_X12_buyerOf_68 rfl rfl ?_
                refine g_iald (pc := 69) hK (kdm kd_223) nl_223 (by decide) dd_X12_buyerOf_69 (by omega) (by omega) (fun x10 ex10 rx10 => ?_)
                refine g_goto (pc := 70) (tgt := 79) hK dd_X12_buyerOf_70 (by decide) ?_
                refine g_iret (pc := 79) hK hr hlocks dd_X12_buyerOf_79 rfl ?_
                first | exact g_fin (hB (by first | omega | (subst_vars; omega) | exact ⟨by first | assumption | omega | (subst_vars; first | assumption | omega), by first | assumption | omega | (subst_vars; first | assumption | omega)⟩)) (by first | rfl | omega | (subst_vars; first | rfl | omega)) (by first | rfl | (subst_vars; rfl)) | exact g_fin (h0 (by first | omega | (subst_vars; omega) | exact ⟨by first | assumption | omega | (subst_vars; first | assumption | omega), by first | assumption | omega | (subst_vars; first | assumption | omega)⟩)) (by first | rfl | omega | (subst_vars; first | rfl | omega)) (by first | rfl | (subst_vars; rfl)) | exact g_fin (h1 (by first | omega | (subst_vars; omega) | exact ⟨by first | assumption | omega | (subst_vars; first | assumption | omega), by first | assumption | omega | (subst_vars; first | assumption | omega)⟩)) (by first | rfl | omega | (subst_vars; first | rfl | omega)) (by first | rfl | (subst_vars; rfl)) | exact g_fin (h2 (by first | omega | (subst_vars; omega) | exact ⟨by first | assumption | omega | (subst_vars; first | assumption | omega), by first | assumption | omega | (subst_vars; first | assumption | omega)⟩)) (by first | rfl | omega | (subst_vars; first | rfl | omega)) (by first | rfl | (subst_vars; rfl)) | exact g_fin (h3 (by first | omega | (subst_vars; omega) | exact ⟨by first | assumption | omega | (subst_vars; first | assumption | omega), by first | assumption | omega | (subst_vars; first | assumption | omega)⟩)) (by first | rfl | omega | (subst_vars; first | rfl | omega)) (by first | rfl | (subst_vars; rfl)) | exact g_fin (h4 (by first | omega | (subst_vars; omega) | exact ⟨by first | assumption | omega | (subst_vars; first | assumption | omega), by first | assumption | omega | (subst_vars; first | assumption | omega)⟩)) (by first | rfl | omega | (subst_vars; first | rfl | omega)) (by first | rfl | (subst_vars; rfl)) | (exfalso; omega)
            · refine g_aloadn (pc := 52) (i := 0) (x := 200) hK dd_X12_buyerOf_52 rfl rfl ?_
              refine g_getv (pc := 53) (f := (1, 22)) (j := 21) (v := gR 222) hK (kdm kd_200) rfl ef_12 (by decide) rfl kk_1122 dd_X12_buyerOf_53 rfl ?_
              refine g_iloadn (pc := 56) (i := 1) (x := b) hK dd_X12_buyerOf_56 rfl rfl ?_
              refine g_iald (pc := 57) hK (kdm kd_222) nl_222 (by decide) dd_X12_buyerOf_57 (by omega) (by omega) (fun x11 ex11 rx11 => ?_)
              refine g_iret (pc := 58) hK hr hlocks dd_X12_buyerOf_58 rfl ?_
              first | exact g_fin (hB (by first | omega | (subst_vars; omega) | exact ⟨by first | assumption | omega | (subst_vars; first | assumption | omega), by first | assumption | omega | (subst_vars; first | assumption | omega)⟩)) (by first | rfl | omega | (subst_vars; first | rfl | omega)) (by first | rfl | (subst_vars; rfl)) | exact g_fin (h0 (by first | omega | (subst_vars; omega) | exact ⟨by first | assumption | omega | (subst_vars; first | assumption | omega), by first | assumption | omega | (subst_vars; first | assumption | omega)⟩)) (by first | rfl | omega | (subst_vars; first | rfl | omega)) (by first | rfl | (subst_vars; rfl)) | exact g_fin (h1 (by first | omega | (subst_vars; omega) | exact ⟨by first | assumption | omega | (subst_vars; first | assumption | omega), by first | assumption | omega | (subst_vars; first | assumption | omega)⟩)) (by first | rfl | omega | (subst_vars; first | rfl | omega)) (by first | rfl | (subst_vars; rfl)) | exact g_fin (h2 (by first | omega | (subst_vars; omega) | exact ⟨by first | assumption | omega | (subst_vars; first | assumption | omega), by first | assumption | omega | (subst_vars; first | assumption | omega)⟩)) (by first | rfl | omega | (subst_vars; first | rfl | omega)) (by first | rfl | (subst_vars; rfl)) | exact g_fin (h3 (by first | omega | (subst_vars; omega) | exact ⟨by first | assumption | omega | (subst_vars; first | assumption | omega), by first | assumption | omega | (subst_vars; first | assumption | omega)⟩)) (by first | rfl | omega | (subst_vars; first | rfl | omega)) (by first | rfl | (subst_vars; rfl)) | exact g_fin (h4 (by first | omega | (subst_vars; omega) | exact ⟨by first | assumption | omega | (subst_vars; first | assumption | omega), by first | assumption | omega | (subst_vars; first | assumption | omega)⟩)) (by first | rfl | omega | (subst_vars; first | rfl | omega)) (by first | rfl | (subst_vars; rfl)) | (exfalso; omega)
          · refine g_aloadn (pc := 40) (i := 0) (x := 200) hK dd_X12_buyerOf_40 rfl rfl ?_
            refine g_getv (pc := 41) (f := (1, 21)) (j := 20) (v := gR 221) hK (kdm kd_200) rfl ef_12 (by decide) rfl kk_1121 dd_X12_buyerOf_41 rfl ?_
            refine g_iloadn (pc := 44) (i := 1) (x := b) hK dd_X12_buyerOf_44 rfl rfl ?_
            refine g_iald (pc := 45) hK (kdm kd_221) nl_221 (by decide) dd_X12_buyerOf_45 (by omega) (by omega) (fun x12 ex12 rx12 => ?_)
            refine g_iret (pc := 46) hK hr hlocks dd_X12_buyerOf_46 rfl ?_
            first | exact g_fin (hB (by first | omega | (subst_vars; omega) | exact ⟨by first | assumption | omega | (subst_vars; first | assumption | omega), by first | assumption | omega | (subst_vars; first | assumption | omega)⟩)) (by first | rfl | omega | (subst_vars; first | rfl | omega)) (by first | rfl | (subst_vars; rfl)) | exact g_fin (h0 (by first | omega | (subst_vars; omega) | exact ⟨by first | assumption | omega | (subst_vars; first | assumption | omega), by first | assumption | omega | (subst_vars; first | assumption | omega)⟩)) (by first | rfl | omega | (subst_vars; first | rfl | omega)) (by first | rfl | (subst_vars; rfl)) | exact g_fin (h1 (by first | omega | (subst_vars; omega) | exact ⟨by first | assumption | omega | (subst_vars; first | assumption | omega), by first | assumption | omega | (subst_vars; first | assumption | omega)⟩)) (by first | rfl | omega | (subst_vars; first | rfl | omega)) (by first | rfl | (subst_vars; rfl)) | exact g_fin (h2 (by first | omega | (subst_vars; omega) | exact ⟨by first | assumption | omega | (subst_vars; first | assumption | omega), by first | assumption | omega | (subst_vars; first | assumption | omega)⟩)) (by first | rfl | omega | (subst_vars; first | rfl | omega)) (by first | rfl | (subst_vars; rfl)) | exact g_fin (h3 (by first | omega | (subst_vars; omega) | exact ⟨by first | assumption | omega | (subst_vars; first | assumption | omega), by first | assumption | omega | (subst_vars; first | assumption | omega)⟩)) (by first | rfl | omega | (subst_vars; first | rfl | omega)) (by first | rfl | (subst_vars; rfl)) | exact g_fin (h4 (by first | omega | (subst_vars; omega) | exact ⟨by first | assumption | omega | (subst_vars; first | assumption | omega), by first | assumption | omega | (subst_vars; first | assumption | omega)⟩)) (by first | rfl | omega | (subst_vars; first | rfl | omega)) (by first | rfl | (subst_vars; rfl)) | (exfalso; omega)
        · refine g_aloadn (pc := 28) (i := 0) (x := 200) hK dd_X12_buyerOf_28 rfl rfl ?_
          refine g_getv (pc := 29) (f := (1, 20)) (j := 19) (v := gR 220) hK (kdm kd_200) rfl ef_12 (by decide) rfl kk_1120 dd_X12_buyerOf_29 rfl ?_
          refine g_iloadn (pc := 32) (i := 1) (x := b) hK dd_X12_buyerOf_32 rfl rfl ?_
          refine g_iald (pc := 33) hK (kdm kd_220) nl_220 (by decide) dd_X12_buyerOf_33 (by omega) (by omega) (fun x13 ex13 rx13 => ?_)
          refine g_iret (pc := 34) hK hr hlocks dd_X12_buyerOf_34 rfl ?_
          first | exact g_fin (hB (by first | omega | (subst_vars; omega) | exact ⟨by first | assumption | omega | (subst_vars; first | assumption | omega), by first | assumption | omega | (subst_vars; first | assumption | omega)⟩)) (by first | rfl | omega | (subst_vars; first | rfl | omega)) (by first | rfl | (subst_vars; rfl)) | exact g_fin (h0 (by first | omega | (subst_vars; omega) | exact ⟨by first | assumption | omega | (subst_vars; first | assumption | omega), by first | assumption | omega | (subst_vars; first | assumption | omega)⟩)) (by first | rfl | omega | (subst_vars; first | rfl | omega)) (by first | rfl | (subst_vars; rfl)) | exact g_fin (h1 (by first | omega | (subst_vars; omega) | exact ⟨by first | assumption | omega | (subst_vars; first | assumption | omega), by first | assumption | omega | (subst_vars; first | assumption | omega)⟩)) (by first | rfl | omega | (subst_vars; first | rfl | omega)) (by first | rfl | (subst_vars; rfl)) | exact g_fin (h2 (by first | omega | (subst_vars; omega) | exact ⟨by first | assumption | omega | (subst_vars; first | assumption | omega), by first | assumption | omega | (subst_vars; first | assumption | omega)⟩)) (by first | rfl | omega | (subst_vars; first | rfl | omega)) (by first | rfl | (subst_vars; rfl)) | exact g_fin (h3 (by first | omega | (subst_vars; omega) | exact ⟨by first | assumption | omega | (subst_vars; first | assumption | omega), by first | assumption | omega | (subst_vars; first | assumption | omega)⟩)) (by first | rfl | omega | (subst_vars; first | rfl | omega)) (by first | rfl | (subst_vars; rfl)) | exact g_fin (h4 (by first | omega | (subst_vars; omega) | exact ⟨by first | assumption | omega | (subst_vars; first | assumption | omega), by first | assumption | omega | (subst_vars; first | assumption | omega)⟩)) (by first | rfl | omega | (subst_vars; first | rfl | omega)) (by first | rfl | (subst_vars; rfl)) | (exfalso; omega)
      · refine g_aloadn (pc := 17) (i := 0) (x := 200) hK dd_X12_buyerOf_17 rfl rfl ?_
        refine g_bipush (pc := 18) (x := (-2)) hK dd_X12_buyerOf_18 (by decide) ?_
        refine g_callV (pc := 20) (As := [gI (-2)]) hK ws_M_152 md_X12_no ⟨Nat.zero_le _, Nat.zero_le _⟩ ⟨by decide, by decide⟩ (kdm kd_200) rfl rfl dd_X12_buyerOf_20 rfl rfl (Nat.le_of_ble_eq_true rfl) (d_no_2 hrg (g_r1 ?_))
        refine g_iret (pc := 23) hK hr hlocks dd_X12_buyerOf_23 rfl ?_
        first | exact g_fin (hB (by first | omega | (subst_vars; omega) | exact ⟨by first | assumption | omega | (subst_vars; first | assumption | omega), by first | assumption | omega | (subst_vars; first | assumption | omega)⟩)) (by first | rfl | omega | (subst_vars; first | rfl | omega)) (by first | rfl | (subst_vars; rfl)) | exact g_fin (h0 (by first | omega | (subst_vars; omega) | exact ⟨by first | assumption | omega | (subst_vars; first | assumption | omega), by first | assumption | omega | (subst_vars; first | assumption | omega)⟩)) (by first | rfl | omega | (subst_vars; first | rfl | omega)) (by first | rfl | (subst_vars; rfl)) | exact g_fin (h1 (by first | omega | (subst_vars; omega) | exact ⟨by first | assumption | omega | (subst_vars; first | assumption | omega), by first | assumption | omega | (subst_vars; first | assumption | omega)⟩)) (by first | rfl | omega | (subst_vars; first | rfl | omega)) (by first | rfl | (subst_vars; rfl)) | exact g_fin (h2 (by first | omega | (subst_vars; omega) | exact ⟨by first | assumption | omega | (subst_vars; first | assumption | omega), by first | assumption | omega | (subst_vars; first | assumption | omega)⟩)) (by first | rfl | omega | (subst_vars; first | rfl | omega)) (by first | rfl | (subst_vars; rfl)) | exact g_fin (h3 (by first | omega | (subst_vars; omega) | exact ⟨by first | assumption | omega | (subst_vars; first | assumption | omega), by first | assumption | omega | (subst_vars; first | assumption | omega)⟩)) (by first | rfl | omega | (subst_vars; first | rfl | omega)) (by first | rfl | (subst_vars; rfl)) | exact g_fin (h4 (by first | omega | (subst_vars; omega) | exact ⟨by first | assumption | omega | (subst_vars; first | assumption | omega), by first | assumption | omega | (subst_vars; first | assumption | omega)⟩)) (by first | rfl | omega | (subst_vars; first | rfl | omega)) (by first | rfl | (subst_vars; rfl)) | (exfalso; omega)
  · refine g_if_eq (pc := 5) (tgt := 17) hK dd_X12_buyerOf_5 (by decide) (by decide) (fun _ => ?_) (fun c14 => absurd (by decide) c14)
    refine g_aloadn (pc := 17) (i := 0) (x := 200) hK dd_X12_buyerOf_17 rfl rfl ?_
    refine g_bipush (pc := 18) (x := (-2)) hK dd_X12_buyerOf_18 (by decide) ?_
    refine g_callV (pc := 20) (As := [gI (-2)]) hK ws_M_152 md_X12_no ⟨Nat.zero_le _, Nat.zero_le _⟩ ⟨by decide, by decide⟩ (kdm kd_200) rfl rfl dd_X12_buyerOf_20 rfl rfl (Nat.le_of_ble_eq_true rfl) (d_no_2 hrg (g_r1 ?_))
    refine g_iret (pc := 23) hK hr hlocks dd_X12_buyerOf_23 rfl ?_
    first | exact g_fin (hB (by first | omega | (subst_vars; omega) | exact ⟨by first | assumption | omega | (subst_vars; first | assumption | omega), by first | assumption | omega | (subst_vars; first | assumption | omega)⟩)) (by first | rfl | omega | (subst_vars; first | rfl | omega)) (by first | rfl | (subst_vars; rfl)) | exact g_fin (h0 (by first | omega | (subst_vars; omega) | exact ⟨by first | assumption | omega | (subst_vars; first | assumption | omega), by first | assumption | omega | (subst_vars; first | assumption | omega)⟩)) (by first | rfl | omega | (subst_vars; first | rfl | omega)) (by first | rfl | (subst_vars; rfl)) | exact g_fin (h1 (by first | omega | (subst_vars; omega) | exact ⟨by first | assumption | omega | (subst_vars; first | assumption | omega), by first | assumption | omega | (subst_vars; first | assumption | omega)⟩)) (by first | rfl | omega | (subst_vars; first | rfl | omega)) (by first | rfl | (subst_vars; rfl)) | exact g_fin (h2 (by first | omega | (subst_vars; omega) | exact ⟨by first | assumption | omega | (subst_vars; first | assumption | omega), by first | assumption | omega | (subst_vars; first | assumption | omega)⟩)) (by first | rfl | omega | (subst_vars; first | rfl | omega)) (by first | rfl | (subst_vars; rfl)) | exact g_fin (h3 (by first | omega | (subst_vars; omega) | exact ⟨by first | assumption | omega | (subst_vars; first | assumption | omega), by first | assumption | omega | (subst_vars; first | assumption | omega)⟩)) (by first | rfl | omega | (subst_vars; first | rfl | omega)) (by first | rfl | (subst_vars; rfl)) | exact g_fin (h4 (by first | omega | (subst_vars; omega) | exact ⟨by first | assumption | omega | (subst_vars; first | assumption | omega), by first | assumption | omega | (subst_vars; first | assumption | omega)⟩)) (by first | rfl | omega | (subst_vars; first | rfl | omega)) (by first | rfl | (subst_vars; rfl)) | (exfalso; omega)
set_option maxHeartbeats 4000000 in
set_option maxRecDepth 100000 in
theorem y_turn {l : Launch} {M : Mem} {Pq : Option gV → Mem → Prop} (wh : Int) (ho : Int) (h_wh : inI wh) (h_ho : inI ho) (hrg : rgOK M) (hB : (¬ ((0 ≤ wh ∧ wh ≤ 1) ∧ 0 ≤ ho ∧ ho ≤ 12)) → Pq (some (gI (-2))) (rg M 2)) (hY : ((0 ≤ wh ∧ wh ≤ 1) ∧ 0 ≤ ho ∧ ho ≤ 12) → Pq (some (gI (M 236 wh.toNat))) (up M 236 wh.toNat ho)) : gCtr l my_X12_turn mb_X12_turn 4 ((some .int)) 2 [gR 200, gI wh, gI ho] M Pq := by
  refine g_intro (by decide) (Nat.le_of_ble_eq_true rfl) ?_
  intro p e s m args below meth c D cy q A hK hr hlocks hw
  refine g_sub (L' := [(0, gR 200), (1, gI wh), (2, gI ho)]) [0, 1, 2] rfl ?_
  refine g_iloadn (pc := 0) (i := 1) (x := wh) hK dd_X12_turn_0 rfl rfl ?_
  refine g_if_lt (pc := 1) (tgt := 19) hK dd_X12_turn_1 (by decide) h_wh (fun c1 => ?_) (fun c1 => ?_)
  · refine g_aloadn (pc := 19) (i := 0) (x := 200) hK dd_X12_turn_19 rfl rfl ?_
    refine g_bipush (pc := 20) (x := (-2)) hK dd_X12_turn_20 (by decide) ?_
    refine g_callV (pc := 22) (As := [gI (-2)]) hK ws_M_152 md_X12_no ⟨Nat.zero_le _, Nat.zero_le _⟩ ⟨by decide, by decide⟩ (kdm kd_200) rfl rfl dd_X12_turn_22 rfl rfl (Nat.le_of_ble_eq_true rfl) (d_no_2 hrg (g_r1 ?_))
    refine g_iret (pc := 25) hK hr hlocks dd_X12_turn_25 rfl ?_
    first | exact g_fin (hB (by first | omega | (subst_vars; omega) | exact ⟨by first | assumption | omega | (subst_vars; first | assumption | omega), by first | assumption | omega | (subst_vars; first | assumption | omega)⟩)) (by first | rfl | omega | (subst_vars; first | rfl | omega)) (by first | rfl | (subst_vars; rfl)) | exact g_fin (hY (by first | omega | (subst_vars; omega) | exact ⟨by first | assumption | omega | (subst_vars; first | assumption | omega), by first | assumption | omega | (subst_vars; first | assumption | omega)⟩)) (by first | rfl | omega | (subst_vars; first | rfl | omega)) (by first | rfl | (subst_vars; rfl)) | (exfalso; omega)
  · refine g_iloadn (pc := 4) (i := 1) (x := wh) hK dd_X12_turn_4 rfl rfl ?_
    refine g_iconst (pc := 5) (x := 1) hK dd_X12_turn_5 (by decide) ?_
    refine g_icmp_gt (pc := 6) (tgt := 19) hK dd_X12_turn_6 (by decide) h_wh (by decide) (fun c2 => ?_) (fun c2 => ?_)
    · refine g_aloadn (pc := 19) (i := 0) (x := 200) hK dd_X12_turn_19 rfl rfl ?_
      refine g_bipush (pc := 20) (x := (-2)) hK dd_X12_turn_20 (by decide) ?_
      refine g_callV (pc := 22) (As := [gI (-2)]) hK ws_M_152 md_X12_no ⟨Nat.zero_le _, Nat.zero_le _⟩ ⟨by decide, by decide⟩ (kdm kd_200) rfl rfl dd_X12_turn_22 rfl rfl (Nat.le_of_ble_eq_true rfl) (d_no_2 hrg (g_r1 ?_))
      refine g_iret (pc := 25) hK hr hlocks dd_X12_turn_25 rfl ?_
      first | exact g_fin (hB (by first | omega | (subst_vars; omega) | exact ⟨by first | assumption | omega | (subst_vars; first | assumption | omega), by first | assumption | omega | (subst_vars; first | assumption | omega)⟩)) (by first | rfl | omega | (subst_vars; first | rfl | omega)) (by first | rfl | (subst_vars; rfl)) | exact g_fin (hY (by first | omega | (subst_vars; omega) | exact ⟨by first | assumption | omega | (subst_vars; first | assumption | omega), by first | assumption | omega | (subst_vars; first | assumption | omega)⟩)) (by first | rfl | omega | (subst_vars; first | rfl | omega)) (by first | rfl | (subst_vars; rfl)) | (exfalso; omega)
    · refine g_iloadn (pc := 9) (i := 2) (x := ho) hK dd_X12_turn_9 rfl rfl ?_
      refine g_if_lt (pc := 10) (tgt := 19) hK dd_X12_turn_10 (by decide) h_ho (fun c3 => ?_) (fun c3 => ?_)
      · refine g_aloadn (pc := 19) (i := 0) (x := 200) hK dd_X12_turn_19 rfl rfl ?_
        refine g_bipush (pc := 20) (x := (-2)) hK dd_X12_turn_20 (by decide) ?_
        refine g_callV (pc := 22) (As := [gI (-2)]) hK ws_M_152 md_X12_no ⟨Nat.zero_le _, Nat.zero_le _⟩ ⟨by decide, by decide⟩ (kdm kd_200) rfl rfl dd_X12_turn_22 rfl rfl (Nat.le_of_ble_eq_true rfl) (d_no_2 hrg (g_r1 ?_))
        refine g_iret (pc := 25) hK hr hlocks dd_X12_turn_25 rfl ?_
        first | exact g_fin (hB (by first | omega | (subst_vars; omega) | exact ⟨by first | assumption | omega | (subst_vars; first | assumption | omega), by first | assumption | omega | (subst_vars; first | assumption | omega)⟩)) (by first | rfl | omega | (subst_vars; first | rfl | omega)) (by first | rfl | (subst_vars; rfl)) | exact g_fin (hY (by first | omega | (subst_vars; omega) | exact ⟨by first | assumption | omega | (subst_vars; first | assumption | omega), by first | assumption | omega | (subst_vars; first | assumption | omega)⟩)) (by first | rfl | omega | (subst_vars; first | rfl | omega)) (by first | rfl | (subst_vars; rfl)) | (exfalso; omega)
      · refine g_iloadn (pc := 13) (i := 2) (x := ho) hK dd_X12_turn_13 rfl rfl ?_
        refine g_bipush (pc := 14) (x := 12) hK dd_X12_turn_14 (by decide) ?_
        refine g_icmp_le (pc := 16) (tgt := 26) hK dd_X12_turn_16 (by decide) h_ho (by decide) (fun c4 => ?_) (fun c4 => ?_)
        · refine g_aloadn (pc := 26) (i := 0) (x := 200) hK dd_X12_turn_26 rfl rfl ?_
          refine g_getv (pc := 27) (f := (1, 36)) (j := 35) (v := gR 236) hK (kdm kd_200) rfl ef_12 (by decide) rfl kk_1136 dd_X12_turn_27 rfl ?_
          refine g_iloadn (pc := 30) (i := 1) (x := wh) hK dd_X12_turn_30 rfl rfl ?_
          refine g_iald (pc := 31) hK (kdm kd_236) nl_236 (by decide) dd_X12_turn_31 (by omega) (by omega) (fun x5 ex5 rx5 => ?_)
          refine g_istoren (pc := 32) (i := 3) (L' := [(0, gR 200), (1, gI wh), (2, gI ho), (3, gI x5)]) hK dd_X12_turn_32 rfl (by decide) rfl ?_
          refine g_aloadn (pc := 33) (i := 0) (x := 200) hK dd_X12_turn_33 rfl rfl ?_
          refine g_getv (pc := 34) (f := (1, 36)) (j := 35) (v := gR 236) hK (kdm kd_200) rfl ef_12 (by decide) rfl kk_1136 dd_X12_turn_34 rfl ?_
          refine g_iloadn (pc := 37) (i := 1) (x := wh) hK dd_X12_turn_37 rfl rfl ?_
          refine g_iloadn (pc := 38) (i := 2) (x := ho) hK dd_X12_turn_38 rfl rfl ?_
          refine g_iast (pc := 39) hK (kdm kd_236) nl_236 (by decide) (by decide) dd_X12_turn_39 (by omega) (by omega) h_ho ?_
          refine g_iloadn (pc := 40) (i := 3) (x := x5) hK dd_X12_turn_40 rfl rfl ?_
          refine g_iret (pc := 41) hK hr hlocks dd_X12_turn_41 rfl ?_
          first | exact g_fin (hB (by first | omega | (subst_vars; omega) | exact ⟨by first | assumption | omega | (subst_vars; first | assumption | omega), by first | assumption | omega | (subst_vars; first | assumption | omega)⟩)) (by first | rfl | omega | (subst_vars; first | rfl | omega)) (by first | rfl | (subst_vars; rfl)) | exact g_fin (hY (by first | omega | (subst_vars; omega) | exact ⟨by first | assumption | omega | (subst_vars; first | assumption | omega), by first | assumption | omega | (subst_vars; first | assumption | omega)⟩)) (by first | rfl | omega | (subst_vars; first | rfl | omega)) (by first | rfl | (subst_vars; rfl)) | (exfalso; omega)
        · refine g_aloadn (pc := 19) (i := 0) (x := 200) hK dd_X12_turn_19 rfl rfl ?_
          refine g_bipush (pc := 20) (x := (-2)) hK dd_X12_turn_20 (by decide) ?_
          refine g_callV (pc := 22) (As := [gI (-2)]) hK ws_M_152 md_X12_no ⟨Nat.zero_le _, Nat.zero_le _⟩ ⟨by decide, by decide⟩ (kdm kd_200) rfl rfl dd_X12_turn_22 rfl rfl (Nat.le_of_ble_eq_true rfl) (d_no_2 hrg (g_r1 ?_))
          refine g_iret (pc := 25) hK hr hlocks dd_X12_turn_25 rfl ?_
          first | exact g_fin (hB (by first | omega | (subst_vars; omega) | exact ⟨by first | assumption | omega | (subst_vars; first | assumption | omega), by first | assumption | omega | (subst_vars; first | assumption | omega)⟩)) (by first | rfl | omega | (subst_vars; first | rfl | omega)) (by first | rfl | (subst_vars; rfl)) | exact g_fin (hY (by first | omega | (subst_vars; omega) | exact ⟨by first | assumption | omega | (subst_vars; first | assumption | omega), by first | assumption | omega | (subst_vars; first | assumption | omega)⟩)) (by first | rfl | omega | (subst_vars; first | rfl | omega)) (by first | rfl | (subst_vars; rfl)) | (exfalso; omega)
set_option maxHeartbeats 4000000 in
set_option maxRecDepth 100000 in
theorem y_morning {l : Launch} {M : Mem} {Pq : Option gV → Mem → Prop}  (hY : Pq (some (gI (M 236 2))) (up (up M 236 2 0) 236 3 0)) : gCtr l my_X12_morning mb_X12_morning 2 ((some .int)) 1 [gR 200] M Pq := by
  refine g_intro (by decide) (Nat.le_of_ble_eq_true rfl) ?_
  intro p e s m args below meth c D cy q A hK hr hlocks hw
  refine g_sub (L' := [(0, gR 200)]) [0] rfl ?_
  refine g_aloadn (pc := 0) (i := 0) (x := 200) hK dd_X12_morning_0 rfl rfl ?_
  refine g_getv (pc := 1) (f := (1, 36)) (j := 35) (v := gR 236) hK (kdm kd_200) rfl ef_12 (by decide) rfl kk_1136 dd_X12_morning_1 rfl ?_
  refine g_iconst (pc := 4) (x := 2) hK dd_X12_morning_4 (by decide) ?_
  refine g_iald (pc := 5) hK (kdm kd_236) nl_236 (by decide) dd_X12_morning_5 (by omega) (by omega) (fun x1 ex1 rx1 => ?_)
  replace ex1 : x1 = M 236 2 := ex1
  refine g_istoren (pc := 6) (i := 1) (L' := [(0, gR 200), (1, gI x1)]) hK dd_X12_morning_6 rfl (by decide) rfl ?_
  refine g_aloadn (pc := 7) (i := 0) (x := 200) hK dd_X12_morning_7 rfl rfl ?_
  refine g_getv (pc := 8) (f := (1, 36)) (j := 35) (v := gR 236) hK (kdm kd_200) rfl ef_12 (by decide) rfl kk_1136 dd_X12_morning_8 rfl ?_
  refine g_iconst (pc := 11) (x := 2) hK dd_X12_morning_11 (by decide) ?_
  refine g_iconst (pc := 12) (x := 0) hK dd_X12_morning_12 (by decide) ?_
  refine g_iast (pc := 13) hK (kdm kd_236) nl_236 (by decide) (by decide) dd_X12_morning_13 (by omega) (by omega) (by decide) ?_
  refine g_aloadn (pc := 14) (i := 0) (x := 200) hK dd_X12_morning_14 rfl rfl ?_
  refine g_getv (pc := 15) (f := (1, 36)) (j := 35) (v := gR 236) hK (kdm kd_200) rfl ef_12 (by decide) rfl kk_1136 dd_X12_morning_15 rfl ?_
  refine g_iconst (pc := 18) (x := 3) hK dd_X12_morning_18 (by decide) ?_
  refine g_iconst (pc := 19) (x := 0) hK dd_X12_morning_19 (by decide) ?_
  refine g_iast (pc := 20) hK (kdm kd_236) nl_236 (by decide) (by decide) dd_X12_morning_20 (by omega) (by omega) (by decide) ?_
  refine g_iloadn (pc := 21) (i := 1) (x := x1) hK dd_X12_morning_21 rfl rfl ?_
  refine g_iret (pc := 22) hK hr hlocks dd_X12_morning_22 rfl ?_
  first | exact g_fin (hY) (by first | rfl | omega | (subst_vars; first | rfl | omega)) (by first | rfl | (subst_vars; rfl)) | (exfalso; omega)
set_option maxHeartbeats 4000000 in
set_option maxRecDepth 100000 in
theorem y_table {l : Launch} {M : Mem} {Pq : Option gV → Mem → Prop} (ks : Int) (h_ks : inI ks) (hrg : rgOK M) (hmtc : 0 ≤ M 200 24 ∧ M 200 24 ≤ 5) (hB : (¬ (0 ≤ ks ∧ ks < 64)) → Pq (some (gI (-2))) (rg M 2)) (hF : ((0 ≤ ks ∧ ks < 64) ∧ M 200 24 = 5) → Pq (some (gI (-6))) (rg M 6)) (hY : ((0 ≤ ks ∧ ks < 64) ∧ ¬ M 200 24 = 5) → Pq (some (gI (M 200 24))) (up (up M 226 (M 200 24).toNat ks) 200 24 (M 200 24 + 1))) : gCtr l my_X12_table mb_X12_table 2 ((some .int)) 2 [gR 200, gI ks] M Pq := by
  refine g_intro (by decide) (Nat.le_of_ble_eq_true rfl) ?_
  intro p e s m args below meth c D cy q A hK hr hlocks hw
  refine g_sub (L' := [(0, gR 200), (1, gI ks)]) [0, 1] rfl ?_
  refine g_aloadn (pc := 0) (i := 0) (x := 200) hK dd_X12_table_0 rfl rfl ?_
  refine g_iloadn (pc := 1) (i := 1) (x := ks) hK dd_X12_table_1 rfl rfl ?_
  refine g_callV (pc := 2) (As := [gI ks]) hK ws_M_190 md_X12_areKinds ⟨Nat.zero_le _, Nat.zero_le _⟩ ⟨by decide, by decide⟩ (kdm kd_200) rfl rfl dd_X12_table_2 rfl rfl (Nat.le_of_ble_eq_true rfl) (d_areKinds ks h_ks (fun c1 => g_r1 ?_) (fun c1 => g_r1 ?_))
  · refine g_if_ne (pc := 5) (tgt := 15) hK dd_X12_table_5 (by decide) (by decide) (fun _ => ?_) (fun c2 => absurd (by decide) c2)
    refine g_aloadn (pc := 15) (i := 0) (x := 200) hK dd_X12_table_15 rfl rfl ?_
    refine g_geti (pc := 16) (f := (0, 0)) (j := 24) hK (kdm kd_200) rfl ef_12 (by decide) rfl kk_1125 nl_200 dd_X12_table_16 rfl (fun x3 ex3 rx3 => ?_)
    refine g_iconst (pc := 19) (x := 5) hK dd_X12_table_19 (by decide) ?_
    refine g_icmp_ne (pc := 20) (tgt := 30) hK dd_X12_table_20 (by decide) rx3 (by decide) (fun c4 => ?_) (fun c4 => ?_)
    · refine g_aloadn (pc := 30) (i := 0) (x := 200) hK dd_X12_table_30 rfl rfl ?_
      refine g_getv (pc := 31) (f := (1, 26)) (j := 25) (v := gR 226) hK (kdm kd_200) rfl ef_12 (by decide) rfl kk_1126 dd_X12_table_31 rfl ?_
      refine g_aloadn (pc := 34) (i := 0) (x := 200) hK dd_X12_table_34 rfl rfl ?_
      refine g_geti (pc := 35) (f := (0, 0)) (j := 24) hK (kdm kd_200) rfl ef_12 (by decide) rfl kk_1125 nl_200 dd_X12_table_35 rfl (fun x5 ex5 rx5 => ?_)
      refine g_iloadn (pc := 38) (i := 1) (x := ks) hK dd_X12_table_38 rfl rfl ?_
      refine g_iast (pc := 39) hK (kdm kd_226) nl_226 (by decide) (by decide) dd_X12_table_39 (by omega) (by omega) h_ks ?_
      refine g_aloadn (pc := 40) (i := 0) (x := 200) hK dd_X12_table_40 rfl rfl ?_
      refine g_dup (pc := 41) hK dd_X12_table_41 rfl ?_
      refine g_geti (pc := 42) (f := (0, 0)) (j := 24) hK (kdm kd_200) rfl ef_12 (by decide) rfl kk_1125 nl_200 dd_X12_table_42 rfl (fun x6 ex6 rx6 => ?_)
      replace ex6 : x6 = M 200 24 := ex6
      refine g_dupx1 (pc := 45) hK dd_X12_table_45 rfl rfl ?_
      refine g_iconst (pc := 46) (x := 1) hK dd_X12_table_46 (by decide) ?_
      refine g_iadd (pc := 47) (z := x6 + 1) hK dd_X12_table_47 rfl ?_
      refine g_puti (pc := 48) (f := (0, 0)) (j := 24) (ty := .int) hK (kdm kd_200) rfl ef_12 (by decide) rfl kk_1125 nl_200 (by decide) dd_X12_table_48 rfl rfl rfl rfl rfl ⟨by omega, by omega⟩ ?_
      refine g_iret (pc := 51) hK hr hlocks dd_X12_table_51 rfl ?_
      first | exact g_fin (hB (by first | omega | (subst_vars; omega) | exact ⟨by first | assumption | omega | (subst_vars; first | assumption | omega), by first | assumption | omega | (subst_vars; first | assumption | omega)⟩)) (by first | rfl | omega | (subst_vars; first | rfl | omega)) (by first | rfl | (subst_vars; rfl)) | exact g_fin (hF (by first | omega | (subst_vars; omega) | exact ⟨by first | assumption | omega | (subst_vars; first | assumption | omega), by first | assumption | omega | (subst_vars; first | assumption | omega)⟩)) (by first | rfl | omega | (subst_vars; first | rfl | omega)) (by first | rfl | (subst_vars; rfl)) | exact g_fin (hY (by first | omega | (subst_vars; omega) | exact ⟨by first | assumption | omega | (subst_vars; first | assumption | omega), by first | assumption | omega | (subst_vars; first | assumption | omega)⟩)) (by first | rfl | omega | (subst_vars; first | rfl | omega)) (by first | rfl | (subst_vars; rfl)) | (exfalso; omega)
    · refine g_aloadn (pc := 23) (i := 0) (x := 200) hK dd_X12_table_23 rfl rfl ?_
      refine g_bipush (pc := 24) (x := (-6)) hK dd_X12_table_24 (by decide) ?_
      refine g_callV (pc := 26) (As := [gI (-6)]) hK ws_M_152 md_X12_no ⟨Nat.zero_le _, Nat.zero_le _⟩ ⟨by decide, by decide⟩ (kdm kd_200) rfl rfl dd_X12_table_26 rfl rfl (Nat.le_of_ble_eq_true rfl) (d_no_6 hrg (g_r1 ?_))
      refine g_iret (pc := 29) hK hr hlocks dd_X12_table_29 rfl ?_
      first | exact g_fin (hF (by first | omega | (subst_vars; omega) | exact ⟨by first | assumption | omega | (subst_vars; first | assumption | omega), by first | assumption | omega | (subst_vars; first | assumption | omega)⟩)) (by first | rfl | omega | (subst_vars; first | rfl | omega)) (by first | rfl | (subst_vars; rfl)) | exact g_fin (hY (by first | omega | (subst_vars; omega) | exact ⟨by first | assumption | omega | (subst_vars; first | assumption | omega), by first | assumption | omega | (subst_vars; first | assumption | omega)⟩)) (by first | rfl | omega | (subst_vars; first | rfl | omega)) (by first | rfl | (subst_vars; rfl)) | (exfalso; omega)
  · refine g_if_ne (pc := 5) (tgt := 15) hK dd_X12_table_5 (by decide) (by decide) (fun c7 => absurd c7 (by decide)) (fun _ => ?_)
    refine g_aloadn (pc := 8) (i := 0) (x := 200) hK dd_X12_table_8 rfl rfl ?_
    refine g_bipush (pc := 9) (x := (-2)) hK dd_X12_table_9 (by decide) ?_
    refine g_callV (pc := 11) (As := [gI (-2)]) hK ws_M_152 md_X12_no ⟨Nat.zero_le _, Nat.zero_le _⟩ ⟨by decide, by decide⟩ (kdm kd_200) rfl rfl dd_X12_table_11 rfl rfl (Nat.le_of_ble_eq_true rfl) (d_no_2 hrg (g_r1 ?_))
    refine g_iret (pc := 14) hK hr hlocks dd_X12_table_14 rfl ?_
    first | exact g_fin (hB (by first | omega | (subst_vars; omega) | exact ⟨by first | assumption | omega | (subst_vars; first | assumption | omega), by first | assumption | omega | (subst_vars; first | assumption | omega)⟩)) (by first | rfl | omega | (subst_vars; first | rfl | omega)) (by first | rfl | (subst_vars; rfl)) | exact g_fin (hY (by first | omega | (subst_vars; omega) | exact ⟨by first | assumption | omega | (subst_vars; first | assumption | omega), by first | assumption | omega | (subst_vars; first | assumption | omega)⟩)) (by first | rfl | omega | (subst_vars; first | rfl | omega)) (by first | rfl | (subst_vars; rfl)) | (exfalso; omega)
set_option maxHeartbeats 4000000 in
set_option maxRecDepth 100000 in
theorem y_sight {l : Launch} {M : Mem} {Pq : Option gV → Mem → Prop} (y : Int) (ch : Int) (g : Int) (b : Int) (h_y : inI y) (h_ch : inI ch) (h_g : inI g) (h_b : inI b) (hrg : rgOK M) (hmsc : 0 ≤ M 200 26 ∧ M 200 26 ≤ 20) (hB : (¬ ((0 ≤ y ∧ y ≤ 99) ∧ (0 ≤ ch ∧ ch ≤ 255) ∧ (-1 ≤ g ∧ g ≤ 15) ∧ -1 ≤ b ∧ b ≤ 15)) → Pq (some (gI (-2))) (rg M 2)) (hF : (((0 ≤ y ∧ y ≤ 99) ∧ (0 ≤ ch ∧ ch ≤ 255) ∧ (-1 ≤ g ∧ g ≤ 15) ∧ -1 ≤ b ∧ b ≤ 15) ∧ M 200 26 = 20) → Pq (some (gI (-6))) (rg M 6)) (hY : (((0 ≤ y ∧ y ≤ 99) ∧ (0 ≤ ch ∧ ch ≤ 255) ∧ (-1 ≤ g ∧ g ≤ 15) ∧ -1 ≤ b ∧ b ≤ 15) ∧ ¬ M 200 26 = 20) → Pq (some (gI (M 200 26))) (up (up (up (up (up M 228 (M 200 26).toNat y) 229 (M 200 26).toNat ch) 230 (M 200 26).toNat g) 231 (M 200 26).toNat b) 200 26 (M 200 26 + 1))) : gCtr l my_X12_sight mb_X12_sight 5 ((some .int)) 2 [gR 200, gI y, gI ch, gI g, gI b] M Pq := by
  refine g_intro (by decide) (Nat.le_of_ble_eq_true rfl) ?_
  intro p e s m args below meth c D cy q A hK hr hlocks hw
  refine g_sub (L' := [(0, gR 200), (1, gI y), (2, gI ch), (3, gI g), (4, gI b)]) [0, 1, 2, 3, 4] rfl ?_
  refine g_iloadn (pc := 0) (i := 1) (x := y) hK dd_X12_sight_0 rfl rfl ?_
  refine g_if_lt (pc := 1) (tgt := 21) hK dd_X12_sight_1 (by decide) h_y (fun c1 => ?_) (fun c1 => ?_)
  · refine g_aloadn (pc := 21) (i := 0) (x := 200) hK dd_X12_sight_21 rfl rfl ?_
    refine g_bipush (pc := 22) (x := (-2)) hK dd_X12_sight_22 (by decide) ?_
    refine g_callV (pc := 24) (As := [gI (-2)]) hK ws_M_152 md_X12_no ⟨Nat.zero_le _, Nat.zero_le _⟩ ⟨by decide, by decide⟩ (kdm kd_200) rfl rfl dd_X12_sight_24 rfl rfl (Nat.le_of_ble_eq_true rfl) (d_no_2 hrg (g_r1 ?_))
    refine g_iret (pc := 27) hK hr hlocks dd_X12_sight_27 rfl ?_
    first | exact g_fin (hB (by first | omega | (subst_vars; omega) | exact ⟨by first | assumption | omega | (subst_vars; first | assumption | omega), by first | assumption | omega | (subst_vars; first | assumption | omega)⟩)) (by first | rfl | omega | (subst_vars; first | rfl | omega)) (by first | rfl | (subst_vars; rfl)) | exact g_fin (hY (by first | omega | (subst_vars; omega) | exact ⟨by first | assumption | omega | (subst_vars; first | assumption | omega), by first | assumption | omega | (subst_vars; first | assumption | omega)⟩)) (by first | rfl | omega | (subst_vars; first | rfl | omega)) (by first | rfl | (subst_vars; rfl)) | (exfalso; omega)
  · refine g_iloadn (pc := 4) (i := 1) (x := y) hK dd_X12_sight_4 rfl rfl ?_
    refine g_bipush (pc := 5) (x := 99) hK dd_X12_sight_5 (by decide) ?_
    refine g_icmp_gt (pc := 7) (tgt := 21) hK dd_X12_sight_7 (by decide) h_y (by decide) (fun c2 => ?_) (fun c2 => ?_)
    · refine g_aloadn (pc := 21) (i := 0) (x := 200) hK dd_X12_sight_21 rfl rfl ?_
      refine g_bipush (pc := 22) (x := (-2)) hK dd_X12_sight_22 (by decide) ?_
      refine g_callV (pc := 24) (As := [gI (-2)]) hK ws_M_152 md_X12_no ⟨Nat.zero_le _, Nat.zero_le _⟩ ⟨by decide, by decide⟩ (kdm kd_200) rfl rfl dd_X12_sight_24 rfl rfl (Nat.le_of_ble_eq_true rfl) (d_no_2 hrg (g_r1 ?_))
      refine g_iret (pc := 27) hK hr hlocks dd_X12_sight_27 rfl ?_
      first | exact g_fin (hB (by first | omega | (subst_vars; omega) | exact ⟨by first | assumption | omega | (subst_vars; first | assumption | omega), by first | assumption | omega | (subst_vars; first | assumption | omega)⟩)) (by first | rfl | omega | (subst_vars; first | rfl | omega)) (by first | rfl | (subst_vars; rfl)) | exact g_fin (hY (by first | omega | (subst_vars; omega) | exact ⟨by first | assumption | omega | (subst_vars; first | assumption | omega), by first | assumption | omega | (subst_vars; first | assumption | omega)⟩)) (by first | rfl | omega | (subst_vars; first | rfl | omega)) (by first | rfl | (subst_vars; rfl)) | (exfalso; omega)
    · refine g_iloadn (pc := 10) (i := 2) (x := ch) hK dd_X12_sight_10 rfl rfl ?_
      refine g_if_lt (pc := 11) (tgt := 21) hK dd_X12_sight_11 (by decide) h_ch (fun c3 => ?_) (fun c3 => ?_)
      · refine g_aloadn (pc := 21) (i := 0) (x := 200) hK dd_X12_sight_21 rfl rfl ?_
        refine g_bipush (pc := 22) (x := (-2)) hK dd_X12_sight_22 (by decide) ?_
        refine g_callV (pc := 24) (As := [gI (-2)]) hK ws_M_152 md_X12_no ⟨Nat.zero_le _, Nat.zero_le _⟩ ⟨by decide, by decide⟩ (kdm kd_200) rfl rfl dd_X12_sight_24 rfl rfl (Nat.le_of_ble_eq_true rfl) (d_no_2 hrg (g_r1 ?_))
        refine g_iret (pc := 27) hK hr hlocks dd_X12_sight_27 rfl ?_
        first | exact g_fin (hB (by first | omega | (subst_vars; omega) | exact ⟨by first | assumption | omega | (subst_vars; first | assumption | omega), by first | assumption | omega | (subst_vars; first | assumption | omega)⟩)) (by first | rfl | omega | (subst_vars; first | rfl | omega)) (by first | rfl | (subst_vars; rfl)) | exact g_fin (hY (by first | omega | (subst_vars; omega) | exact ⟨by first | assumption | omega | (subst_vars; first | assumption | omega), by first | assumption | omega | (subst_vars; first | assumption | omega)⟩)) (by first | rfl | omega | (subst_vars; first | rfl | omega)) (by first | rfl | (subst_vars; rfl)) | (exfalso; omega)
      · refine g_iloadn (pc := 14) (i := 2) (x := ch) hK dd_X12_sight_14 rfl rfl ?_
        refine g_sipush (pc := 15) (x := 255) hK dd_X12_sight_15 (by decide) ?_
        refine g_icmp_le (pc := 18) (tgt := 28) hK dd_X12_sight_18 (by decide) h_ch (by decide) (fun c4 => ?_) (fun c4 => ?_)
        · refine g_iloadn (pc := 28) (i := 3) (x := g) hK dd_X12_sight_28 rfl rfl ?_
          refine g_iconst (pc := 29) (x := (-1)) hK dd_X12_sight_29 (by decide) ?_
          refine g_icmp_eq (pc := 30) (tgt := 41) hK dd_X12_sight_30 (by decide) h_g (by decide) (fun c5 => ?_) (fun c5 => ?_)
          · refine g_iload (pc := 41) (i := 4) (x := b) hK dd_X12_sight_41 rfl ?_
            refine g_iconst (pc := 43) (x := (-1)) hK dd_X12_sight_43 (by decide) ?_
            refine g_icmp_eq (pc := 44) (tgt := 63) hK dd_X12_sight_44 (by decide) h_b (by decide) (fun c6 => ?_) (fun c6 => ?_)
            · refine g_aloadn (pc := 63) (i := 0) (x := 200) hK dd_X12_sight_63 rfl rfl ?_
              refine g_geti (pc := 64) (f := (0, 0)) (j := 26) hK (kdm kd_200) rfl ef_12 (by decide) rfl kk_1127 nl_200 dd_X12_sight_64 rfl (fun x7 ex7 rx7 => ?_)
              refine g_bipush (pc := 67) (x := 20) hK dd_X12_sight_67 (by decide) ?_
              refine g_icmp_ne (pc := 69) (tgt := 79) hK dd_X12_sight_69 (by decide) rx7 (by decide) (fun c8 => ?_) (fun c8 => ?_)
              · refine g_aloadn (pc := 79) (i := 0) (x := 200) hK dd_X12_sight_79 rfl rfl ?_
                refine g_getv (pc := 80) (f := (1, 28)) (j := 27) (v := gR 228) hK (kdm kd_200) rfl ef_12 (by decide) rfl kk_1128 dd_X12_sight_80 rfl ?_
                refine g_aloadn (pc := 83) (i := 0) (x := 200) hK dd_X12_sight_83 rfl rfl ?_
                refine g_geti (pc := 84) (f := (0, 0)) (j := 26) hK (kdm kd_200) rfl ef_12 (by decide) rfl kk_1127 nl_200 dd_X12_sight_84 rfl (fun x9 ex9 rx9 => ?_)
                refine g_iloadn (pc := 87) (i := 1) (x := y) hK dd_X12_sight_87 rfl rfl ?_
                refine g_iast (pc := 88) hK (kdm kd_228) nl_228 (by decide) (by decide) dd_X12_sight_88 (by omega) (by omega) h_y ?_
                refine g_aloadn (pc := 89) (i := 0) (x := 200) hK dd_X12_sight_89 rfl rfl ?_
                refine g_getv (pc := 90) (f := (1, 29)) (j := 28) (v := gR 229) hK (kdm kd_200) rfl ef_12 (by decide) rfl kk_1129 dd_X12_sight_90 rfl ?_
                refine g_aloadn (pc := 93) (i := 0) (x := 200) hK dd_X12_sight_93 rfl rfl ?_
                refine g_geti (pc := 94) (f := (0, 0)) (j := 26) hK (kdm kd_200) rfl ef_12 (by decide) rfl kk_1127 nl_200 dd_X12_sight_94 rfl (fun x10 ex10 rx10 => ?_)
                replace ex10 : x10 = M 200 26 := ex10
                refine g_iloadn (pc := 97) (i := 2) (x := ch) hK dd_X12_sight_97 rfl rfl ?_
                refine g_iast (pc := 98) hK (kdm kd_229) nl_229 (by decide) (by decide) dd_X12_sight_98 (by omega) (by omega) h_ch ?_
                refine g_aloadn (pc := 99) (i := 0) (x := 200) hK dd_X12_sight_99 rfl rfl ?_
                refine g_getv (pc := 100) (f := (1, 30)) (j := 29) (v := gR 230) hK (kdm kd_200) rfl ef_12 (by decide) rfl kk_1130 dd_X12_sight_100 rfl ?_
                refine g_aloadn (pc := 103) (i := 0) (x := 200) hK dd_X12_sight_103 rfl rfl ?_
                refine g_geti (pc := 104) (f := (0, 0)) (j := 26) hK (kdm kd_200) rfl ef_12 (by decide) rfl kk_1127 nl_200 dd_X12_sight_104 rfl (fun x11 ex11 rx11 => ?_)
                replace ex11 : x11 = M 200 26 := ex11
                refine g_iloadn (pc := 107) (i := 3) (x := g) hK dd_X12_sight_107 rfl rfl ?_
                refine g_iast (pc := 108) hK (kdm kd_230) nl_230 (by decide) (by decide) dd_X12_sight_108 (by omega) (by omega) h_g ?_
                refine g_aloadn (pc := 109) (i := 0) (x := 200) hK dd_X12_sight_109 rfl rfl ?_
                refine g_getv (pc := 110) (f := (1, 31)) (j := 30) (v := gR 231) hK (kdm kd_200) rfl ef_12 (by decide) rfl kk_1131 dd_X12_sight_110 rfl ?_
                refine g_aloadn (pc := 113) (i := 0) (x := 200) hK dd_X12_sight_113 rfl rfl ?_
                refine g_geti (pc := 114) (f := (0, 0)) (j := 26) hK (kdm kd_200) rfl ef_12 (by decide) rfl kk_1127 nl_200 dd_X12_sight_114 rfl (fun x12 ex12 rx12 => ?_)
                replace ex12 : x12 = M 200 26 := ex12
                refine g_iload (pc := 117) (i := 4) (x := b) hK dd_X12_sight_117 rfl ?_
                refine g_iast (pc := 119) hK (kdm kd_231) nl_231 (by decide) (by decide) dd_X12_sight_119 (by omega) (by omega) h_b ?_
                refine g_aloadn (pc := 120) (i := 0) (x := 200) hK dd_X12_sight_120 rfl rfl ?_
                refine g_dup (pc := 121) hK dd_X12_sight_121 rfl ?_
                refine g_geti (pc := 122) (f := (0, 0)) (j := 26) hK (kdm kd_200) rfl ef_12 (by decide) rfl kk_1127 nl_200 dd_X12_sight_122 rfl (fun x13 ex13 rx13 => ?_)
                replace ex13 : x13 = M 200 26 := ex13
                refine g_dupx1 (pc := 125) hK dd_X12_sight_125 rfl rfl ?_
                refine g_iconst (pc := 126) (x := 1) hK dd_X12_sight_126 (by decide) ?_
                refine g_iadd (pc := 127) (z := x13 + 1) hK dd_X12_sight_127 rfl ?_
                refine g_puti (pc := 128) (f := (0, 0)) (j := 26) (ty := .int) hK (kdm kd_200) rfl ef_12 (by decide) rfl kk_1127 nl_200 (by decide) dd_X12_sight_128 rfl rfl rfl rfl rfl ⟨by omega, by omega⟩ ?_
                refine g_iret (pc := 131) hK hr hlocks dd_X12_sight_131 rfl ?_
                first | exact g_fin (hB (by first | omega | (subst_vars; omega) | exact ⟨by first | assumption | omega | (subst_vars; first | assumption | omega), by first | assumption | omega | (subst_vars; first | assumption | omega)⟩)) (by first | rfl | omega | (subst_vars; first | rfl | omega)) (by first | rfl | (subst_vars; rfl)) | exact g_fin (hF (by first | omega | (subst_vars; omega) | exact ⟨by first | assumption | omega | (subst_vars; first | assumption | omega), by first | assumption | omega | (subst_vars; first | assumption | omega)⟩)) (by first | rfl | omega | (subst_vars; first | rfl | omega)) (by first | rfl | (subst_vars; rfl)) | exact g_fin (hY (by first | omega | (subst_vars; omega) | exact ⟨by first | assumption | omega | (subst_vars; first | assumption | omega), by first | assumption | omega | (subst_vars; first | assumption | omega)⟩)) (by first | rfl | omega | (subst_vars; first | rfl | omega)) (by first | rfl | (subst_vars; rfl)) | (exfalso; omega)
              · refine g_aloadn (pc := 72) (i := 0) (x := 200) hK dd_X12_sight_72 rfl rfl ?_
                refine g_bipush (pc := 73) (x := (-6)) hK dd_X12_sight_73 (by decide) ?_
                refine g_callV (pc := 75) (As := [gI (-6)]) hK ws_M_152 md_X12_no ⟨Nat.zero_le _, Nat.zero_le _⟩ ⟨by decide, by decide⟩ (kdm kd_200) rfl rfl dd_X12_sight_75 rfl rfl (Nat.le_of_ble_eq_true rfl) (d_no_6 hrg (g_r1 ?_))
                refine g_iret (pc := 78) hK hr hlocks dd_X12_sight_78 rfl ?_
                first | exact g_fin (hF (by first | omega | (subst_vars; omega) | exact ⟨by first | assumption | omega | (subst_vars; first | assumption | omega), by first | assumption | omega | (subst_vars; first | assumption | omega)⟩)) (by first | rfl | omega | (subst_vars; first | rfl | omega)) (by first | rfl | (subst_vars; rfl)) | exact g_fin (hY (by first | omega | (subst_vars; omega) | exact ⟨by first | assumption | omega | (subst_vars; first | assumption | omega), by first | assumption | omega | (subst_vars; first | assumption | omega)⟩)) (by first | rfl | omega | (subst_vars; first | rfl | omega)) (by first | rfl | (subst_vars; rfl)) | (exfalso; omega)
            · refine g_aloadn (pc := 47) (i := 0) (x := 200) hK dd_X12_sight_47 rfl rfl ?_
              refine g_iload (pc := 48) (i := 4) (x := b) hK dd_X12_sight_48 rfl ?_
              refine g_callV (pc := 50) (As := [gI b]) hK ws_M_276 md_X12_isPerson ⟨Nat.zero_le _, Nat.zero_le _⟩ ⟨by decide, by decide⟩ (kdm kd_200) rfl rfl dd_X12_sight_50 rfl rfl (Nat.le_of_ble_eq_true rfl) (d_isPerson b h_b (fun c14 => g_r1 ?_) (fun c14 => g_r1 ?_))
              · refine g_if_ne (pc := 53) (tgt := 63) hK dd_X12_sight_53 (by decide) (by decide) (fun _ => ?_) (fun c15 => absurd (by decide) c15)
                refine g_aloadn (pc := 63) (i := 0) (x := 200) hK dd_X12_sight_63 rfl rfl ?_
                refine g_geti (pc := 64) (f := (0, 0)) (j := 26) hK (kdm kd_200) rfl ef_12 (by decide) rfl kk_1127 nl_200 dd_X12_sight_64 rfl (fun x16 ex16 rx16 => ?_)
                refine g_bipush (pc := 67) (x := 20) hK dd_X12_sight_67 (by decide) ?_
                refine g_icmp_ne (pc := 69) (tgt := 79) hK dd_X12_sight_69 (by decide) rx16 (by decide) (fun c17 => ?_) (fun c17 => ?_)
                · refine g_aloadn (pc := 79) (i := 0) (x := 200) hK dd_X12_sight_79 rfl rfl ?_
                  refine g_getv (pc := 80) (f := (1, 28)) (j := 27) (v := gR 228) hK (kdm kd_200) rfl ef_12 (by decide) rfl kk_1128 dd_X12_sight_80 rfl ?_
                  refine g_aloadn (pc := 83) (i := 0) (x := 200) hK dd_X12_sight_83 rfl rfl ?_
                  refine g_geti (pc := 84) (f := (0, 0)) (j := 26) hK (kdm kd_200) rfl ef_12 (by decide) rfl kk_1127 nl_200 dd_X12_sight_84 rfl (fun x18 ex18 rx18 => ?_)
                  refine g_iloadn (pc := 87) (i := 1) (x := y) hK dd_X12_sight_87 rfl rfl ?_
                  refine g_iast (pc := 88) hK (kdm kd_228) nl_228 (by decide) (by decide) dd_X12_sight_88 (by omega) (by omega) h_y ?_
                  refine g_aloadn (pc := 89) (i := 0) (x := 200) hK dd_X12_sight_89 rfl rfl ?_
                  refine g_getv (pc := 90) (f := (1, 29)) (j := 28) (v := gR 229) hK (kdm kd_200) rfl ef_12 (by decide) rfl kk_1129 dd_X12_sight_90 rfl ?_
                  refine g_aloadn (pc := 93) (i := 0) (x := 200) hK dd_X12_sight_93 rfl rfl ?_
                  refine g_geti (pc := 94) (f := (0, 0)) (j := 26) hK (kdm kd_200) rfl ef_12 (by decide) rfl kk_1127 nl_200 dd_X12_sight_94 rfl (fun x19 ex19 rx19 => ?_)
                  replace ex19 : x19 = M 200 26 := ex19
                  refine g_iloadn (pc := 97) (i := 2) (x := ch) hK dd_X12_sight_97 rfl rfl ?_
                  refine g_iast (pc := 98) hK (kdm kd_229) nl_229 (by decide) (by decide) dd_X12_sight_98 (by omega) (by omega) h_ch ?_
                  refine g_aloadn (pc := 99) (i := 0) (x := 200) hK dd_X12_sight_99 rfl rfl ?_
                  refine g_getv (pc := 100) (f := (1, 30)) (j := 29) (v := gR 230) hK (kdm kd_200) rfl ef_12 (by decide) rfl kk_1130 dd_X12_sight_100 rfl ?_
                  refine g_aloadn (pc := 103) (i := 0) (x := 200) hK dd_X12_sight_103 rfl rfl ?_
                  refine g_geti (pc := 104) (f := (0, 0)) (j := 26) hK (kdm kd_200) rfl ef_12 (by decide) rfl kk_1127 nl_200 dd_X12_sight_104 rfl (fun x20 ex20 rx20 => ?_)
                  replace ex20 : x20 = M 200 26 := ex20
                  refine g_iloadn (pc := 107) (i := 3) (x := g) hK dd_X12_sight_107 rfl rfl ?_
                  refine g_iast (pc := 108) hK (kdm kd_230) nl_230 (by decide) (by decide) dd_X12_sight_108 (by omega) (by omega) h_g ?_
                  refine g_aloadn (pc := 109) (i := 0) (x := 200) hK dd_X12_sight_109 rfl rfl ?_
                  refine g_getv (pc := 110) (f := (1, 31)) (j := 30) (v := gR 231) hK (kdm kd_200) rfl ef_12 (by decide) rfl kk_1131 dd_X12_sight_110 rfl ?_
                  refine g_aloadn (pc := 113) (i := 0) (x := 200) hK dd_X12_sight_113 rfl rfl ?_
                  refine g_geti (pc := 114) (f := (0, 0)) (j := 26) hK (kdm kd_200) rfl ef_12 (by decide) rfl kk_1127 nl_200 dd_X12_sight_114 rfl (fun x21 ex21 rx21 => ?_)
                  replace ex21 : x21 = M 200 26 := ex21
                  refine g_iload (pc := 117) (i := 4) (x := b) hK dd_X12_sight_117 rfl ?_
                  refine g_iast (pc := 119) hK (kdm kd_231) nl_231 (by decide) (by decide) dd_X12_sight_119 (by omega) (by omega) h_b ?_
                  refine g_aloadn (pc := 120) (i := 0) (x := 200) hK dd_X12_sight_120 rfl rfl ?_
                  refine g_dup (pc := 121) hK dd_X12_sight_121 rfl ?_
                  refine g_geti (pc := 122) (f := (0, 0)) (j := 26) hK (kdm kd_200) rfl ef_12 (by decide) rfl kk_1127 nl_200 dd_X12_sight_122 rfl (fun x22 ex22 rx22 => ?_)
                  replace ex22 : x22 = M 200 26 := ex22
                  refine g_dupx1 (pc := 125) hK dd_X12_sight_125 rfl rfl ?_
                  refine g_iconst (pc := 126) (x := 1) hK dd_X12_sight_126 (by decide) ?_
                  refine g_iadd (pc := 127) (z := x22 + 1) hK dd_X12_sight_127 rfl ?_
                  refine g_puti (pc := 128) (f := (0, 0)) (j := 26) (ty := .int) hK (kdm kd_200) rfl ef_12 (by decide) rfl kk_1127 nl_200 (by decide) dd_X12_sight_128 rfl rfl rfl rfl rfl ⟨by omega, by omega⟩ ?_
                  refine g_iret (pc := 131) hK hr hlocks dd_X12_sight_131 rfl ?_
                  first | exact g_fin (hB (by first | omega | (subst_vars; omega) | exact ⟨by first | assumption | omega | (subst_vars; first | assumption | omega), by first | assumption | omega | (subst_vars; first | assumption | omega)⟩)) (by first | rfl | omega | (subst_vars; first | rfl | omega)) (by first | rfl | (subst_vars; rfl)) | exact g_fin (hF (by first | omega | (subst_vars; omega) | exact ⟨by first | assumption | omega | (subst_vars; first | assumption | omega), by first | assumption | omega | (subst_vars; first | assumption | omega)⟩)) (by first | rfl | omega | (subst_vars; first | rfl | omega)) (by first | rfl | (subst_vars; rfl)) | exact g_fin (hY (by first | omega | (subst_vars; omega) | exact ⟨by first | assumption | omega | (subst_vars; first | assumption | omega), by first | assumption | omega | (subst_vars; first | assumption | omega)⟩)) (by first | rfl | omega | (subst_vars; first | rfl | omega)) (by first | rfl | (subst_vars; rfl)) | (exfalso; omega)
                · refine g_aloadn (pc := 72) (i := 0) (x := 200) hK dd_X12_sight_72 rfl rfl ?_
                  refine g_bipush (pc := 73) (x := (-6)) hK dd_X12_sight_73 (by decide) ?_
                  refine g_callV (pc := 75) (As := [gI (-6)]) hK ws_M_152 md_X12_no ⟨Nat.zero_le _, Nat.zero_le _⟩ ⟨by decide, by decide⟩ (kdm kd_200) rfl rfl dd_X12_sight_75 rfl rfl (Nat.le_of_ble_eq_true rfl) (d_no_6 hrg (g_r1 ?_))
                  refine g_iret (pc := 78) hK hr hlocks dd_X12_sight_78 rfl ?_
                  first | exact g_fin (hF (by first | omega | (subst_vars; omega) | exact ⟨by first | assumption | omega | (subst_vars; first | assumption | omega), by first | assumption | omega | (subst_vars; first | assumption | omega)⟩)) (by first | rfl | omega | (subst_vars; first | rfl | omega)) (by first | rfl | (subst_vars; rfl)) | exact g_fin (hY (by first | omega | (subst_vars; omega) | exact ⟨by first | assumption | omega | (subst_vars; first | assumption | omega), by first | assumption | omega | (subst_vars; first | assumption | omega)⟩)) (by first | rfl | omega | (subst_vars; first | rfl | omega)) (by first | rfl | (subst_vars; rfl)) | (exfalso; omega)
              · refine g_if_ne (pc := 53) (tgt := 63) hK dd_X12_sight_53 (by decide) (by decide) (fun c23 => absurd c23 (by decide)) (fun _ => ?_)
                refine g_aloadn (pc := 56) (i := 0) (x := 200) hK dd_X12_sight_56 rfl rfl ?_
                refine g_bipush (pc := 57) (x := (-2)) hK dd_X12_sight_57 (by decide) ?_
                refine g_callV (pc := 59) (As := [gI (-2)]) hK ws_M_152 md_X12_no ⟨Nat.zero_le _, Nat.zero_le _⟩ ⟨by decide, by decide⟩ (kdm kd_200) rfl rfl dd_X12_sight_59 rfl rfl (Nat.le_of_ble_eq_true rfl) (d_no_2 hrg (g_r1 ?_))
                refine g_iret (pc := 62) hK hr hlocks dd_X12_sight_62 rfl ?_
                first | exact g_fin (hB (by first | omega | (subst_vars; omega) | exact ⟨by first | assumption | omega | (subst_vars; first | assumption | omega), by first | assumption | omega | (subst_vars; first | assumption | omega)⟩)) (by first | rfl | omega | (subst_vars; first | rfl | omega)) (by first | rfl | (subst_vars; rfl)) | exact g_fin (hY (by first | omega | (subst_vars; omega) | exact ⟨by first | assumption | omega | (subst_vars; first | assumption | omega), by first | assumption | omega | (subst_vars; first | assumption | omega)⟩)) (by first | rfl | omega | (subst_vars; first | rfl | omega)) (by first | rfl | (subst_vars; rfl)) | (exfalso; omega)
          · refine g_aloadn (pc := 33) (i := 0) (x := 200) hK dd_X12_sight_33 rfl rfl ?_
            refine g_iloadn (pc := 34) (i := 3) (x := g) hK dd_X12_sight_34 rfl rfl ?_
            refine g_callV (pc := 35) (As := [gI g]) hK ws_M_276 md_X12_isPerson ⟨Nat.zero_le _, Nat.zero_le _⟩ ⟨by decide, by decide⟩ (kdm kd_200) rfl rfl dd_X12_sight_35 rfl rfl (Nat.le_of_ble_eq_true rfl) (d_isPerson g h_g (fun c24 => g_r1 ?_) (fun c24 => g_r1 ?_))
            · refine g_if_eq (pc := 38) (tgt := 56) hK dd_X12_sight_38 (by decide) (by decide) (fun c25 => absurd c25 (by decide)) (fun _ => ?_)
              refine g_iload (pc := 41) (i := 4) (x := b) hK dd_X12_sight_41 rfl ?_
              refine g_iconst (pc := 43) (x := (-1)) hK dd_X12_sight_43 (by decide) ?_
              refine g_icmp_eq (pc := 44) (tgt := 63) hK dd_X12_sight_44 (by decide) h_b (by decide) (fun c26 => ?_) (fun c26 => ?_)
              · refine g_aloadn (pc := 63) (i := 0) (x := 200) hK dd_X12_sight_63 rfl rfl ?_
                refine g_geti (pc := 64) (f := (0, 0)) (j := 26) hK (kdm kd_200) rfl ef_12 (by decide) rfl kk_1127 nl_200 dd_X12_sight_64 rfl (fun x27 ex27 rx27 => ?_)
                refine g_bipush (pc := 67) (x := 20) hK dd_X12_sight_67 (by decide) ?_
                refine g_icmp_ne (pc := 69) (tgt := 79) hK dd_X12_sight_69 (by decide) rx27 (by decide) (fun c28 => ?_) (fun c28 => ?_)
                · refine g_aloadn (pc := 79) (i := 0) (x := 200) hK dd_X12_sight_79 rfl rfl ?_
                  refine g_getv (pc := 80) (f := (1, 28)) (j := 27) (v := gR 228) hK (kdm kd_200) rfl ef_12 (by decide) rfl kk_1128 dd_X12_sight_80 rfl ?_
                  refine g_aloadn (pc := 83) (i := 0) (x := 200) hK dd_X12_sight_83 rfl rfl ?_
                  refine g_geti (pc := 84) (f := (0, 0)) (j := 26) hK (kdm kd_200) rfl ef_12 (by decide) rfl kk_1127 nl_200 dd_X12_sight_84 rfl (fun x29 ex29 rx29 => ?_)
                  refine g_iloadn (pc := 87) (i := 1) (x := y) hK dd_X12_sight_87 rfl rfl ?_
                  refine g_iast (pc := 88) hK (kdm kd_228) nl_228 (by decide) (by decide) dd_X12_sight_88 (by omega) (by omega) h_y ?_
                  refine g_aloadn (pc := 89) (i := 0) (x := 200) hK dd_X12_sight_89 rfl rfl ?_
                  refine g_getv (pc := 90) (f := (1, 29)) (j := 28) (v := gR 229) hK (kdm kd_200) rfl ef_12 (by decide) rfl kk_1129 dd_X12_sight_90 rfl ?_
                  refine g_aloadn (pc := 93) (i := 0) (x := 200) hK dd_X12_sight_93 rfl rfl ?_
                  refine g_geti (pc := 94) (f := (0, 0)) (j := 26) hK (kdm kd_200) rfl ef_12 (by decide) rfl kk_1127 nl_200 dd_X12_sight_94 rfl (fun x30 ex30 rx30 => ?_)
                  replace ex30 : x30 = M 200 26 := ex30
                  refine g_iloadn (pc := 97) (i := 2) (x := ch) hK dd_X12_sight_97 rfl rfl ?_
                  refine g_iast (pc := 98) hK (kdm kd_229) nl_229 (by decide) (by decide) dd_X12_sight_98 (by omega) (by omega) h_ch ?_
                  refine g_aloadn (pc := 99) (i := 0) (x := 200) hK dd_X12_sight_99 rfl rfl ?_
                  refine g_getv (pc := 100) (f := (1, 30)) (j := 29) (v := gR 230) hK (kdm kd_200) rfl ef_12 (by decide) rfl kk_1130 dd_X12_sight_100 rfl ?_
                  refine g_aloadn (pc := 103) (i := 0) (x := 200) hK dd_X12_sight_103 rfl rfl ?_
                  refine g_geti (pc := 104) (f := (0, 0)) (j := 26) hK (kdm kd_200) rfl ef_12 (by decide) rfl kk_1127 nl_200 dd_X12_sight_104 rfl (fun x31 ex31 rx31 => ?_)
                  replace ex31 : x31 = M 200 26 := ex31
                  refine g_iloadn (pc := 107) (i := 3) (x := g) hK dd_X12_sight_107 rfl rfl ?_
                  refine g_iast (pc := 108) hK (kdm kd_230) nl_230 (by decide) (by decide) dd_X12_sight_108 (by omega) (by omega) h_g ?_
                  refine g_aloadn (pc := 109) (i := 0) (x := 200) hK dd_X12_sight_109 rfl rfl ?_
                  refine g_getv (pc := 110) (f := (1, 31)) (j := 30) (v := gR 231) hK (kdm kd_200) rfl ef_12 (by decide) rfl kk_1131 dd_X12_sight_110 rfl ?_
                  refine g_aloadn (pc := 113) (i := 0) (x := 200) hK dd_X12_sight_113 rfl rfl ?_
                  refine g_geti (pc := 114) (f := (0, 0)) (j := 26) hK (kdm kd_200) rfl ef_12 (by decide) rfl kk_1127 nl_200 dd_X12_sight_114 rfl (fun x32 ex32 rx32 => ?_)
                  replace ex32 : x32 = M 200 26 := ex32
                  refine g_iload (pc := 117) (i := 4) (x := b) hK dd_X12_sight_117 rfl ?_
                  refine g_iast (pc := 119) hK (kdm kd_231) nl_231 (by decide) (by decide) dd_X12_sight_119 (by omega) (by omega) h_b ?_
                  refine g_aloadn (pc := 120) (i := 0) (x := 200) hK dd_X12_sight_120 rfl rfl ?_
                  refine g_dup (pc := 121) hK dd_X12_sight_121 rfl ?_
                  refine g_geti (pc := 122) (f := (0, 0)) (j := 26) hK (kdm kd_200) rfl ef_12 (by decide) rfl kk_1127 nl_200 dd_X12_sight_122 rfl (fun x33 ex33 rx33 => ?_)
                  replace ex33 : x33 = M 200 26 := ex33
                  refine g_dupx1 (pc := 125) hK dd_X12_sight_125 rfl rfl ?_
                  refine g_iconst (pc := 126) (x := 1) hK dd_X12_sight_126 (by decide) ?_
                  refine g_iadd (pc := 127) (z := x33 + 1) hK dd_X12_sight_127 rfl ?_
                  refine g_puti (pc := 128) (f := (0, 0)) (j := 26) (ty := .int) hK (kdm kd_200) rfl ef_12 (by decide) rfl kk_1127 nl_200 (by decide) dd_X12_sight_128 rfl rfl rfl rfl rfl ⟨by omega, by omega⟩ ?_
                  refine g_iret (pc := 131) hK hr hlocks dd_X12_sight_131 rfl ?_
                  first | exact g_fin (hB (by first | omega | (subst_vars; omega) | exact ⟨by first | assumption | omega | (subst_vars; first | assumption | omega), by first | assumption | omega | (subst_vars; first | assumption | omega)⟩)) (by first | rfl | omega | (subst_vars; first | rfl | omega)) (by first | rfl | (subst_vars; rfl)) | exact g_fin (hF (by first | omega | (subst_vars; omega) | exact ⟨by first | assumption | omega | (subst_vars; first | assumption | omega), by first | assumption | omega | (subst_vars; first | assumption | omega)⟩)) (by first | rfl | omega | (subst_vars; first | rfl | omega)) (by first | rfl | (subst_vars; rfl)) | exact g_fin (hY (by first | omega | (subst_vars; omega) | exact ⟨by first | assumption | omega | (subst_vars; first | assumption | omega), by first | assumption | omega | (subst_vars; first | assumption | omega)⟩)) (by first | rfl | omega | (subst_vars; first | rfl | omega)) (by first | rfl | (subst_vars; rfl)) | (exfalso; omega)
                · refine g_aloadn (pc := 72) (i := 0) (x := 200) hK dd_X12_sight_72 rfl rfl ?_
                  refine g_bipush (pc := 73) (x := (-6)) hK dd_X12_sight_73 (by decide) ?_
                  refine g_callV (pc := 75) (As := [gI (-6)]) hK ws_M_152 md_X12_no ⟨Nat.zero_le _, Nat.zero_le _⟩ ⟨by decide, by decide⟩ (kdm kd_200) rfl rfl dd_X12_sight_75 rfl rfl (Nat.le_of_ble_eq_true rfl) (d_no_6 hrg (g_r1 ?_))
                  refine g_iret (pc := 78) hK hr hlocks dd_X12_sight_78 rfl ?_
                  first | exact g_fin (hF (by first | omega | (subst_vars; omega) | exact ⟨by first | assumption | omega | (subst_vars; first | assumption | omega), by first | assumption | omega | (subst_vars; first | assumption | omega)⟩)) (by first | rfl | omega | (subst_vars; first | rfl | omega)) (by first | rfl | (subst_vars; rfl)) | exact g_fin (hY (by first | omega | (subst_vars; omega) | exact ⟨by first | assumption | omega | (subst_vars; first | assumption | omega), by first | assumption | omega | (subst_vars; first | assumption | omega)⟩)) (by first | rfl | omega | (subst_vars; first | rfl | omega)) (by first | rfl | (subst_vars; rfl)) | (exfalso; omega)
              · refine g_aloadn (pc := 47) (i := 0) (x := 200) hK dd_X12_sight_47 rfl rfl ?_
                refine g_iload (pc := 48) (i := 4) (x := b) hK dd_X12_sight_48 rfl ?_
                refine g_callV (pc := 50) (As := [gI b]) hK ws_M_276 md_X12_isPerson ⟨Nat.zero_le _, Nat.zero_le _⟩ ⟨by decide, by decide⟩ (kdm kd_200) rfl rfl dd_X12_sight_50 rfl rfl (Nat.le_of_ble_eq_true rfl) (d_isPerson b h_b (fun c34 => g_r1 ?_) (fun c34 => g_r1 ?_))
                · refine g_if_ne (pc := 53) (tgt := 63) hK dd_X12_sight_53 (by decide) (by decide) (fun _ => ?_) (fun c35 => absurd (by decide) c35)
                  refine g_aloadn (pc := 63) (i := 0) (x := 200) hK dd_X12_sight_63 rfl rfl ?_
                  refine g_geti (pc := 64) (f := (0, 0)) (j := 26) hK (kdm kd_200) rfl ef_12 (by decide) rfl kk_1127 nl_200 dd_X12_sight_64 rfl (fun x36 ex36 rx36 => ?_)
                  refine g_bipush (pc := 67) (x := 20) hK dd_X12_sight_67 (by decide) ?_
                  refine g_icmp_ne (pc := 69) (tgt := 79) hK dd_X12_sight_69 (by decide) rx36 (by decide) (fun c37 => ?_) (fun c37 => ?_)
                  · refine g_aloadn (pc := 79) (i := 0) (x := 200) hK dd_X12_sight_79 rfl rfl ?_
                    refine g_getv (pc := 80) (f := (1, 28)) (j := 27) (v := gR 228) hK (kdm kd_200) rfl ef_12 (by decide) rfl kk_1128 dd_X12_sight_80 rfl ?_
                    refine g_aloadn (pc := 83) (i := 0) (x := 200) hK dd_X12_sight_83 rfl rfl ?_
                    refine g_geti (pc := 84) (f := (0, 0)) (j := 26) hK (kdm kd_200) rfl ef_12 (by decide) rfl kk_1127 nl_200 dd_X12_sight_84 rfl (fun x38 ex38 rx38 => ?_)
                    refine g_iloadn (pc := 87) (i := 1) (x := y) hK dd_X12_sight_87 rfl rfl ?_
                    refine g_iast (pc := 88) hK (kdm kd_228) nl_228 (by decide) (by decide) dd_X12_sight_88 (by omega) (by omega) h_y ?_
                    refine g_aloadn (pc := 89) (i := 0) (x := 200) hK dd_X12_sight_89 rfl rfl ?_
                    refine g_getv (pc := 90) (f := (1, 29)) (j := 28) (v := gR 229) hK (kdm kd_200) rfl ef_12 (by decide) rfl kk_1129 dd_X12_sight_90 rfl ?_
                    refine g_aloadn (pc := 93) (i := 0) (x := 200) hK dd_X12_sight_93 rfl rfl ?_
                    refine g_geti (pc := 94) (f := (0, 0)) (j := 26) hK (kdm kd_200) rfl ef_12 (by decide) rfl kk_1127 nl_200 dd_X12_sight_94 rfl (fun x39 ex39 rx39 => ?_)
                    replace ex39 : x39 = M 200 26 := ex39
                    refine g_iloadn (pc := 97) (i := 2) (x := ch) hK dd_X12_sight_97 rfl rfl ?_
                    refine g_iast (pc := 98) hK (kdm kd_229) nl_229 (by decide) (by decide) dd_X12_sight_98 (by omega) (by omega) h_ch ?_
                    refine g_aloadn (pc := 99) (i := 0) (x := 200) hK dd_X12_sight_99 rfl rfl ?_
                    refine g_getv (pc := 100) (f := (1, 30)) (j := 29) (v := gR 230) hK (kdm kd_200) rfl ef_12 (by decide) rfl kk_1130 dd_X12_sight_100 rfl ?_
                    refine g_aloadn (pc := 103) (i := 0) (x := 200) hK dd_X12_sight_103 rfl rfl ?_
                    refine g_geti (pc := 104) (f := (0, 0)) (j := 26) hK (kdm kd_200) rfl ef_12 (by decide) rfl kk_1127 nl_200 dd_X12_sight_104 rfl (fun x40 ex40 rx40 => ?_)
                    replace ex40 : x40 = M 200 26 := ex40
                    refine g_iloadn (pc := 107) (i := 3) (x := g) hK dd_X12_sight_107 rfl rfl ?_
                    refine g_iast (pc := 108) hK (kdm kd_230) nl_230 (by decide) (by decide) dd_X12_sight_108 (by omega) (by omega) h_g ?_
                    refine g_aloadn (pc := 109) (i := 0) (x := 200) hK dd_X12_sight_109 rfl rfl ?_
                    refine g_getv (pc := 110) (f := (1, 31)) (j := 30) (v := gR 231) hK (kdm kd_200) rfl ef_12 (by decide) rfl kk_1131 dd_X12_sight_110 rfl ?_
                    refine g_aloadn (pc := 113) (i := 0) (x := 200) hK dd_X12_sight_113 rfl rfl ?_
                    refine g_geti (pc := 114) (f := (0, 0)) (j := 26) hK (kdm kd_200) rfl ef_12 (by decide) rfl kk_1127 nl_200 dd_X12_sight_114 rfl (fun x41 ex41 rx41 => ?_)
                    replace ex41 : x41 = M 200 26 := ex41
                    refine g_iload (pc := 117) (i := 4) (x := b) hK dd_X12_sight_117 rfl ?_
                    refine g_iast (pc := 119) hK (kdm kd_231) nl_231 (by decide) (by decide) dd_X12_sight_119 (by omega) (by omega) h_b ?_
                    refine g_aloadn (pc := 120) (i := 0) (x := 200) hK dd_X12_sight_120 rfl rfl ?_
                    refine g_dup (pc := 121) hK dd_X12_sight_121 rfl ?_
                    refine g_geti (pc := 122) (f := (0, 0)) (j := 26) hK (kdm kd_200) rfl ef_12 (by decide) rfl kk_1127 nl_200 dd_X12_sight_122 rfl (fun x42 ex42 rx42 => ?_)
                    replace ex42 : x42 = M 200 26 := ex42
                    refine g_dupx1 (pc := 125) hK dd_X12_sight_125 rfl rfl ?_
                    refine g_iconst (pc := 126) (x := 1) hK dd_X12_sight_126 (by decide) ?_
                    refine g_iadd (pc := 127) (z := x42 + 1) hK dd_X12_sight_127 rfl ?_
                    refine g_puti (pc := 128) (f := (0, 0)) (j := 26) (ty := .int) hK (kdm kd_200) rfl ef_12 (by decide) rfl kk_1127 nl_200 (by decide) dd_X12_sight_128 rfl rfl rfl rfl rfl ⟨by omega, by omega⟩ ?_
                    refine g_iret (pc := 131) hK hr hlocks dd_X12_sight_131 rfl ?_
                    first | exact g_fin (hB (by first | omega | (subst_vars; omega) | exact ⟨by first | assumption | omega | (subst_vars; first | assumption | omega), by first | assumption | omega | (subst_vars; first | assumption | omega)⟩)) (by first | rfl | omega | (subst_vars; first | rfl | omega)) (by first | rfl | (subst_vars; rfl)) | exact g_fin (hF (by first | omega | (subst_vars; omega) | exact ⟨by first | assumption | omega | (subst_vars; first | assumption | omega), by first | assumption | omega | (subst_vars; first | assumption | omega)⟩)) (by first | rfl | omega | (subst_vars; first | rfl | omega)) (by first | rfl | (subst_vars; rfl)) | exact g_fin (hY (by first | omega | (subst_vars; omega) | exact ⟨by first | assumption | omega | (subst_vars; first | assumption | omega), by first | assumption | omega | (subst_vars; first | assumption | omega)⟩)) (by first | rfl | omega | (subst_vars; first | rfl | omega)) (by first | rfl | (subst_vars; rfl)) | (exfalso; omega)
                  · refine g_aloadn (pc := 72) (i := 0) (x := 200) hK dd_X12_sight_72 rfl rfl ?_
                    refine g_bipush (pc := 73) (x := (-6)) hK dd_X12_sight_73 (by decide) ?_
                    refine g_callV (pc := 75) (As := [gI (-6)]) hK ws_M_152 md_X12_no ⟨Nat.zero_le _, Nat.zero_le _⟩ ⟨by decide, by decide⟩ (kdm kd_200) rfl rfl dd_X12_sight_75 rfl rfl (Nat.le_of_ble_eq_true rfl) (d_no_6 hrg (g_r1 ?_))
                    refine g_iret (pc := 78) hK hr hlocks dd_X12_sight_78 rfl ?_
                    first | exact g_fin (hF (by first | omega | (subst_vars; omega) | exact ⟨by first | assumption | omega | (subst_vars; first | assumption | omega), by first | assumption | omega | (subst_vars; first | assumption | omega)⟩)) (by first | rfl | omega | (subst_vars; first | rfl | omega)) (by first | rfl | (subst_vars; rfl)) | exact g_fin (hY (by first | omega | (subst_vars; omega) | exact ⟨by first | assumption | omega | (subst_vars; first | assumption | omega), by first | assumption | omega | (subst_vars; first | assumption | omega)⟩)) (by first | rfl | omega | (subst_vars; first | rfl | omega)) (by first | rfl | (subst_vars; rfl)) | (exfalso; omega)
                · refine g_if_ne (pc := 53) (tgt := 63) hK dd_X12_sight_53 (by decide) (by decide) (fun c43 => absurd c43 (by decide)) (fun _ => ?_)
                  refine g_aloadn (pc := 56) (i := 0) (x := 200) hK dd_X12_sight_56 rfl rfl ?_
                  refine g_bipush (pc := 57) (x := (-2)) hK dd_X12_sight_57 (by decide) ?_
                  refine g_callV (pc := 59) (As := [gI (-2)]) hK ws_M_152 md_X12_no ⟨Nat.zero_le _, Nat.zero_le _⟩ ⟨by decide, by decide⟩ (kdm kd_200) rfl rfl dd_X12_sight_59 rfl rfl (Nat.le_of_ble_eq_true rfl) (d_no_2 hrg (g_r1 ?_))
                  refine g_iret (pc := 62) hK hr hlocks dd_X12_sight_62 rfl ?_
                  first | exact g_fin (hB (by first | omega | (subst_vars; omega) | exact ⟨by first | assumption | omega | (subst_vars; first | assumption | omega), by first | assumption | omega | (subst_vars; first | assumption | omega)⟩)) (by first | rfl | omega | (subst_vars; first | rfl | omega)) (by first | rfl | (subst_vars; rfl)) | exact g_fin (hY (by first | omega | (subst_vars; omega) | exact ⟨by first | assumption | omega | (subst_vars; first | assumption | omega), by first | assumption | omega | (subst_vars; first | assumption | omega)⟩)) (by first | rfl | omega | (subst_vars; first | rfl | omega)) (by first | rfl | (subst_vars; rfl)) | (exfalso; omega)
            · refine g_if_eq (pc := 38) (tgt := 56) hK dd_X12_sight_38 (by decide) (by decide) (fun _ => ?_) (fun c44 => absurd (by decide) c44)
              refine g_aloadn (pc := 56) (i := 0) (x := 200) hK dd_X12_sight_56 rfl rfl ?_
              refine g_bipush (pc := 57) (x := (-2)) hK dd_X12_sight_57 (by decide) ?_
              refine g_callV (pc := 59) (As := [gI (-2)]) hK ws_M_152 md_X12_no ⟨Nat.zero_le _, Nat.zero_le _⟩ ⟨by decide, by decide⟩ (kdm kd_200) rfl rfl dd_X12_sight_59 rfl rfl (Nat.le_of_ble_eq_true rfl) (d_no_2 hrg (g_r1 ?_))
              refine g_iret (pc := 62) hK hr hlocks dd_X12_sight_62 rfl ?_
              first | exact g_fin (hB (by first | omega | (subst_vars; omega) | exact ⟨by first | assumption | omega | (subst_vars; first | assumption | omega), by first | assumption | omega | (subst_vars; first | assumption | omega)⟩)) (by first | rfl | omega | (subst_vars; first | rfl | omega)) (by first | rfl | (subst_vars; rfl)) | exact g_fin (hY (by first | omega | (subst_vars; omega) | exact ⟨by first | assumption | omega | (subst_vars; first | assumption | omega), by first | assumption | omega | (subst_vars; first | assumption | omega)⟩)) (by first | rfl | omega | (subst_vars; first | rfl | omega)) (by first | rfl | (subst_vars; rfl)) | (exfalso; omega)
        · refine g_aloadn (pc := 21) (i := 0) (x := 200) hK dd_X12_sight_21 rfl rfl ?_
          refine g_bipush (pc := 22) (x := (-2)) hK dd_X12_sight_22 (by decide) ?_
          refine g_callV (pc := 24) (As := [gI (-2)]) hK ws_M_152 md_X12_no ⟨Nat.zero_le _, Nat.zero_le _⟩ ⟨by decide, by decide⟩ (kdm kd_200) rfl rfl dd_X12_sight_24 rfl rfl (Nat.le_of_ble_eq_true rfl) (d_no_2 hrg (g_r1 ?_))
          refine g_iret (pc := 27) hK hr hlocks dd_X12_sight_27 rfl ?_
          first | exact g_fin (hB (by first | omega | (subst_vars; omega) | exact ⟨by first | assumption | omega | (subst_vars; first | assumption | omega), by first | assumption | omega | (subst_vars; first | assumption | omega)⟩)) (by first | rfl | omega | (subst_vars; first | rfl | omega)) (by first | rfl | (subst_vars; rfl)) | exact g_fin (hY (by first | omega | (subst_vars; omega) | exact ⟨by first | assumption | omega | (subst_vars; first | assumption | omega), by first | assumption | omega | (subst_vars; first | assumption | omega)⟩)) (by first | rfl | omega | (subst_vars; first | rfl | omega)) (by first | rfl | (subst_vars; rfl)) | (exfalso; omega)
set_option maxHeartbeats 4000000 in
set_option maxRecDepth 100000 in
theorem d_mayBecome {l : Launch} {M : Mem} {Pq : Option gV → Mem → Prop} (i : Int) (j : Int) (h1 : 0 ≤ i ∧ i < 20) (h2 : 0 ≤ j ∧ j < 20) (hT : (mbe (M 228) (M 229) (M 230) (M 231) i.toNat j.toNat) → Pq (some (gI 1)) M) (hF : ¬ (mbe (M 228) (M 229) (M 230) (M 231) i.toNat j.toNat) → Pq (some (gI 0)) M) : gCtr l my_X12_mayBecome mb_X12_mayBecome 3 ((some .boolean)) 1 [gR 200, gI i, gI j] M Pq := by
  refine g_intro (by decide) (Nat.le_of_ble_eq_true rfl) ?_
  intro p e s m args below meth c D cy q A hK hr hlocks hw
  refine g_sub (L' := [(0, gR 200), (1, gI i), (2, gI j)]) [0, 1, 2] rfl ?_
  refine g_aloadn (pc := 0) (i := 0) (x := 200) hK dd_X12_mayBecome_0 rfl rfl ?_
  refine g_getv (pc := 1) (f := (1, 28)) (j := 27) (v := gR 228) hK (kdm kd_200) rfl ef_12 (by decide) rfl kk_1128 dd_X12_mayBecome_1 rfl ?_
  refine g_iloadn (pc := 4) (i := 1) (x := i) hK dd_X12_mayBecome_4 rfl rfl ?_
  refine g_iald (pc := 5) hK (kdm kd_228) nl_228 (by decide) dd_X12_mayBecome_5 (by omega) (by omega) (fun x1 ex1 rx1 => ?_)
  refine g_aloadn (pc := 6) (i := 0) (x := 200) hK dd_X12_mayBecome_6 rfl rfl ?_
  refine g_getv (pc := 7) (f := (1, 28)) (j := 27) (v := gR 228) hK (kdm kd_200) rfl ef_12 (by decide) rfl kk_1128 dd_X12_mayBecome_7 rfl ?_
  refine g_iloadn (pc := 10) (i := 2) (x := j) hK dd_X12_mayBecome_10 rfl rfl ?_
  refine g_iald (pc := 11) hK (kdm kd_228) nl_228 (by decide) dd_X12_mayBecome_11 (by omega) (by omega) (fun x2 ex2 rx2 => ?_)
  refine g_icmp_ge (pc := 12) (tgt := 33) hK dd_X12_mayBecome_12 (by decide) rx1 rx2 (fun c3 => ?_) (fun c3 => ?_)
  · refine g_iconst (pc := 33) (x := 0) hK dd_X12_mayBecome_33 (by decide) ?_
    refine g_iret (pc := 34) hK hr hlocks dd_X12_mayBecome_34 rfl ?_
    exact g_finM (hF (by unfold mbe; subst_vars; omega)) (by first | rfl | (subst_vars; rfl))
  · refine g_aloadn (pc := 15) (i := 0) (x := 200) hK dd_X12_mayBecome_15 rfl rfl ?_
    refine g_getv (pc := 16) (f := (1, 29)) (j := 28) (v := gR 229) hK (kdm kd_200) rfl ef_12 (by decide) rfl kk_1129 dd_X12_mayBecome_16 rfl ?_
    refine g_iloadn (pc := 19) (i := 1) (x := i) hK dd_X12_mayBecome_19 rfl rfl ?_
    refine g_iald (pc := 20) hK (kdm kd_229) nl_229 (by decide) dd_X12_mayBecome_20 (by omega) (by omega) (fun x4 ex4 rx4 => ?_)
    refine g_aloadn (pc := 21) (i := 0) (x := 200) hK dd_X12_mayBecome_21 rfl rfl ?_
    refine g_getv (pc := 22) (f := (1, 29)) (j := 28) (v := gR 229) hK (kdm kd_200) rfl ef_12 (by decide) rfl kk_1129 dd_X12_mayBecome_22 rfl ?_
    refine g_iloadn (pc := 25) (i := 2) (x := j) hK dd_X12_mayBecome_25 rfl rfl ?_
    refine g_iald (pc := 26) hK (kdm kd_229) nl_229 (by decide) dd_X12_mayBecome_26 (by omega) (by omega) (fun x5 ex5 rx5 => ?_)
    refine g_iconst (pc := 27) (x := (-1)) hK dd_X12_mayBecome_27 (by decide) ?_
    refine g_ixor (pc := 28) (z := jxor x5 (-1)) hK dd_X12_mayBecome_28 rfl ?_
    refine g_iand (pc := 29) (z := jand x4 (jxor x5 (-1))) hK dd_X12_mayBecome_29 rfl ?_
    refine g_if_eq (pc := 30) (tgt := 35) hK dd_X12_mayBecome_30 (by decide) (jand_in _ _) (fun c6 => ?_) (fun c6 => ?_)
    · refine g_aloadn (pc := 35) (i := 0) (x := 200) hK dd_X12_mayBecome_35 rfl rfl ?_
      refine g_getv (pc := 36) (f := (1, 31)) (j := 30) (v := gR 231) hK (kdm kd_200) rfl ef_12 (by decide) rfl kk_1131 dd_X12_mayBecome_36 rfl ?_
      refine g_iloadn (pc := 39) (i := 1) (x := i) hK dd_X12_mayBecome_39 rfl rfl ?_
      refine g_iald (pc := 40) hK (kdm kd_231) nl_231 (by decide) dd_X12_mayBecome_40 (by omega) (by omega) (fun x7 ex7 rx7 => ?_)
      refine g_iconst (pc := 41) (x := (-1)) hK dd_X12_mayBecome_41 (by decide) ?_
      refine g_icmp_eq (pc := 42) (tgt := 70) hK dd_X12_mayBecome_42 (by decide) rx7 (by decide) (fun c8 => ?_) (fun c8 => ?_)
      · refine g_iconst (pc := 70) (x := 1) hK dd_X12_mayBecome_70 (by decide) ?_
        refine g_goto (pc := 71) (tgt := 75) hK dd_X12_mayBecome_71 (by decide) ?_
        refine g_iret (pc := 75) hK hr hlocks dd_X12_mayBecome_75 rfl ?_
        exact g_finM (hT (by unfold mbe; subst_vars; omega)) (by first | rfl | (subst_vars; rfl))
      · refine g_aloadn (pc := 45) (i := 0) (x := 200) hK dd_X12_mayBecome_45 rfl rfl ?_
        refine g_getv (pc := 46) (f := (1, 30)) (j := 29) (v := gR 230) hK (kdm kd_200) rfl ef_12 (by decide) rfl kk_1130 dd_X12_mayBecome_46 rfl ?_
        refine g_iloadn (pc := 49) (i := 2) (x := j) hK dd_X12_mayBecome_49 rfl rfl ?_
        refine g_iald (pc := 50) hK (kdm kd_230) nl_230 (by decide) dd_X12_mayBecome_50 (by omega) (by omega) (fun x9 ex9 rx9 => ?_)
        refine g_iconst (pc := 51) (x := (-1)) hK dd_X12_mayBecome_51 (by decide) ?_
        refine g_icmp_eq (pc := 52) (tgt := 70) hK dd_X12_mayBecome_52 (by decide) rx9 (by decide) (fun c10 => ?_) (fun c10 => ?_)
        · refine g_iconst (pc := 70) (x := 1) hK dd_X12_mayBecome_70 (by decide) ?_
          refine g_goto (pc := 71) (tgt := 75) hK dd_X12_mayBecome_71 (by decide) ?_
          refine g_iret (pc := 75) hK hr hlocks dd_X12_mayBecome_75 rfl ?_
          exact g_finM (hT (by unfold mbe; subst_vars; omega)) (by first | rfl | (subst_vars; rfl))
        · refine g_aloadn (pc := 55) (i := 0) (x := 200) hK dd_X12_mayBecome_55 rfl rfl ?_
          refine g_getv (pc := 56) (f := (1, 31)) (j := 30) (v := gR 231) hK (kdm kd_200) rfl ef_12 (by decide) rfl kk_1131 dd_X12_mayBecome_56 rfl ?_
          refine g_iloadn (pc := 59) (i := 1) (x := i) hK dd_X12_mayBecome_59 rfl rfl ?_
          refine g_iald (pc := 60) hK (kdm kd_231) nl_231 (by decide) dd_X12_mayBecome_60 (by omega) (by omega) (fun x11 ex11 rx11 => ?_)
          refine g_aloadn (pc := 61) (i := 0) (x := 200) hK dd_X12_mayBecome_61 rfl rfl ?_
          refine g_getv (pc := 62) (f := (1, 30)) (j := 29) (v := gR 230) hK (kdm kd_200) rfl ef_12 (by decide) rfl kk_1130 dd_X12_mayBecome_62 rfl ?_
          refine g_iloadn (pc := 65) (i := 2) (x := j) hK dd_X12_mayBecome_65 rfl rfl ?_
          refine g_iald (pc := 66) hK (kdm kd_230) nl_230 (by decide) dd_X12_mayBecome_66 (by omega) (by omega) (fun x12 ex12 rx12 => ?_)
          refine g_icmp_ne (pc := 67) (tgt := 74) hK dd_X12_mayBecome_67 (by decide) rx11 rx12 (fun c13 => ?_) (fun c13 => ?_)
          · refine g_iconst (pc := 74) (x := 0) hK dd_X12_mayBecome_74 (by decide) ?_
            refine g_iret (pc := 75) hK hr hlocks dd_X12_mayBecome_75 rfl ?_
            exact g_finM (hF (by unfold mbe; subst_vars; omega)) (by first | rfl | (subst_vars; rfl))
          · refine g_iconst (pc := 70) (x := 1) hK dd_X12_mayBecome_70 (by decide) ?_
            refine g_goto (pc := 71) (tgt := 75) hK dd_X12_mayBecome_71 (by decide) ?_
            refine g_iret (pc := 75) hK hr hlocks dd_X12_mayBecome_75 rfl ?_
            exact g_finM (hT (by unfold mbe; subst_vars; omega)) (by first | rfl | (subst_vars; rfl))
    · refine g_iconst (pc := 33) (x := 0) hK dd_X12_mayBecome_33 (by decide) ?_
      refine g_iret (pc := 34) hK hr hlocks dd_X12_mayBecome_34 rfl ?_
      exact g_finM (hF (by unfold mbe; subst_vars; omega)) (by first | rfl | (subst_vars; rfl))
set_option maxHeartbeats 4000000 in
set_option maxRecDepth 100000 in
theorem y_same {l : Launch} {M : Mem} {Pq : Option gV → Mem → Prop} (i : Int) (j : Int) (h_i : inI i) (h_j : inI j) (hrg : rgOK M) (hmsc : 0 ≤ M 200 26 ∧ M 200 26 ≤ 20) (hB : (¬ ((0 ≤ i ∧ i < M 200 26) ∧ 0 ≤ j ∧ j < M 200 26)) → Pq (some (gI (-2))) (rg M 2)) (hY : (((0 ≤ i ∧ i < M 200 26) ∧ 0 ≤ j ∧ j < M 200 26) ∧ mbe (M 228) (M 229) (M 230) (M 231) i.toNat j.toNat) → Pq (some (gI 1)) M) (hN : (((0 ≤ i ∧ i < M 200 26) ∧ 0 ≤ j ∧ j < M 200 26) ∧ ¬ mbe (M 228) (M 229) (M 230) (M 231) i.toNat j.toNat) → Pq (some (gI 0)) M) : gCtr l my_X12_same mb_X12_same 3 ((some .int)) 2 [gR 200, gI i, gI j] M Pq := by
  refine g_intro (by decide) (Nat.le_of_ble_eq_true rfl) ?_
  intro p e s m args below meth c D cy q A hK hr hlocks hw
  refine g_sub (L' := [(0, gR 200), (1, gI i), (2, gI j)]) [0, 1, 2] rfl ?_
  refine g_iloadn (pc := 0) (i := 1) (x := i) hK dd_X12_same_0 rfl rfl ?_
  refine g_if_lt (pc := 1) (tgt := 24) hK dd_X12_same_1 (by decide) h_i (fun c1 => ?_) (fun c1 => ?_)
  · refine g_aloadn (pc := 24) (i := 0) (x := 200) hK dd_X12_same_24 rfl rfl ?_
    refine g_bipush (pc := 25) (x := (-2)) hK dd_X12_same_25 (by decide) ?_
    refine g_callV (pc := 27) (As := [gI (-2)]) hK ws_M_152 md_X12_no ⟨Nat.zero_le _, Nat.zero_le _⟩ ⟨by decide, by decide⟩ (kdm kd_200) rfl rfl dd_X12_same_27 rfl rfl (Nat.le_of_ble_eq_true rfl) (d_no_2 hrg (g_r1 ?_))
    refine g_iret (pc := 30) hK hr hlocks dd_X12_same_30 rfl ?_
    first | exact g_fin (hB (by first | omega | (subst_vars; omega) | exact ⟨by first | assumption | omega | (subst_vars; first | assumption | omega), by first | assumption | omega | (subst_vars; first | assumption | omega)⟩)) (by first | rfl | omega | (subst_vars; first | rfl | omega)) (by first | rfl | (subst_vars; rfl)) | (exfalso; omega)
  · refine g_iloadn (pc := 4) (i := 1) (x := i) hK dd_X12_same_4 rfl rfl ?_
    refine g_aloadn (pc := 5) (i := 0) (x := 200) hK dd_X12_same_5 rfl rfl ?_
    refine g_geti (pc := 6) (f := (0, 0)) (j := 26) hK (kdm kd_200) rfl ef_12 (by decide) rfl kk_1127 nl_200 dd_X12_same_6 rfl (fun x2 ex2 rx2 => ?_)
    refine g_icmp_ge (pc := 9) (tgt := 24) hK dd_X12_same_9 (by decide) h_i rx2 (fun c3 => ?_) (fun c3 => ?_)
    · refine g_aloadn (pc := 24) (i := 0) (x := 200) hK dd_X12_same_24 rfl rfl ?_
      refine g_bipush (pc := 25) (x := (-2)) hK dd_X12_same_25 (by decide) ?_
      refine g_callV (pc := 27) (As := [gI (-2)]) hK ws_M_152 md_X12_no ⟨Nat.zero_le _, Nat.zero_le _⟩ ⟨by decide, by decide⟩ (kdm kd_200) rfl rfl dd_X12_same_27 rfl rfl (Nat.le_of_ble_eq_true rfl) (d_no_2 hrg (g_r1 ?_))
      refine g_iret (pc := 30) hK hr hlocks dd_X12_same_30 rfl ?_
      first | exact g_fin (hB (by first | omega | (subst_vars; omega) | exact ⟨by first | assumption | omega | (subst_vars; first | assumption | omega), by first | assumption | omega | (subst_vars; first | assumption | omega)⟩)) (by first | rfl | omega | (subst_vars; first | rfl | omega)) (by first | rfl | (subst_vars; rfl)) | (exfalso; omega)
    · refine g_iloadn (pc := 12) (i := 2) (x := j) hK dd_X12_same_12 rfl rfl ?_
      refine g_if_lt (pc := 13) (tgt := 24) hK dd_X12_same_13 (by decide) h_j (fun c4 => ?_) (fun c4 => ?_)
      · refine g_aloadn (pc := 24) (i := 0) (x := 200) hK dd_X12_same_24 rfl rfl ?_
        refine g_bipush (pc := 25) (x := (-2)) hK dd_X12_same_25 (by decide) ?_
        refine g_callV (pc := 27) (As := [gI (-2)]) hK ws_M_152 md_X12_no ⟨Nat.zero_le _, Nat.zero_le _⟩ ⟨by decide, by decide⟩ (kdm kd_200) rfl rfl dd_X12_same_27 rfl rfl (Nat.le_of_ble_eq_true rfl) (d_no_2 hrg (g_r1 ?_))
        refine g_iret (pc := 30) hK hr hlocks dd_X12_same_30 rfl ?_
        first | exact g_fin (hB (by first | omega | (subst_vars; omega) | exact ⟨by first | assumption | omega | (subst_vars; first | assumption | omega), by first | assumption | omega | (subst_vars; first | assumption | omega)⟩)) (by first | rfl | omega | (subst_vars; first | rfl | omega)) (by first | rfl | (subst_vars; rfl)) | (exfalso; omega)
      · refine g_iloadn (pc := 16) (i := 2) (x := j) hK dd_X12_same_16 rfl rfl ?_
        refine g_aloadn (pc := 17) (i := 0) (x := 200) hK dd_X12_same_17 rfl rfl ?_
        refine g_geti (pc := 18) (f := (0, 0)) (j := 26) hK (kdm kd_200) rfl ef_12 (by decide) rfl kk_1127 nl_200 dd_X12_same_18 rfl (fun x5 ex5 rx5 => ?_)
        refine g_icmp_lt (pc := 21) (tgt := 31) hK dd_X12_same_21 (by decide) h_j rx5 (fun c6 => ?_) (fun c6 => ?_)
        · refine g_aloadn (pc := 31) (i := 0) (x := 200) hK dd_X12_same_31 rfl rfl ?_
          refine g_iloadn (pc := 32) (i := 1) (x := i) hK dd_X12_same_32 rfl rfl ?_
          refine g_iloadn (pc := 33) (i := 2) (x := j) hK dd_X12_same_33 rfl rfl ?_
          refine g_callV (pc := 34) (As := [gI i, gI j]) hK ws_M_282 md_X12_mayBecome ⟨Nat.zero_le _, Nat.zero_le _⟩ ⟨by decide, by decide⟩ (kdm kd_200) rfl rfl dd_X12_same_34 rfl rfl (Nat.le_of_ble_eq_true rfl) (d_mayBecome i j (show 0 ≤ i ∧ i < 20 by omega) (show 0 ≤ j ∧ j < 20 by omega) (fun c7 => g_r1 ?_) (fun c7 => g_r1 ?_))
          · refine g_if_eq (pc := 37) (tgt := 44) hK dd_X12_same_37 (by decide) (by decide) (fun c8 => absurd c8 (by decide)) (fun _ => ?_)
            refine g_iconst (pc := 40) (x := 1) hK dd_X12_same_40 (by decide) ?_
            refine g_goto (pc := 41) (tgt := 45) hK dd_X12_same_41 (by decide) ?_
            refine g_iret (pc := 45) hK hr hlocks dd_X12_same_45 rfl ?_
            first | exact g_fin (hY (by first | omega | (subst_vars; omega) | exact ⟨by first | assumption | omega | (subst_vars; first | assumption | omega), by first | assumption | omega | (subst_vars; first | assumption | omega)⟩)) (by first | rfl | omega | (subst_vars; first | rfl | omega)) (by first | rfl | (subst_vars; rfl)) | (exfalso; omega)
          · refine g_if_eq (pc := 37) (tgt := 44) hK dd_X12_same_37 (by decide) (by decide) (fun _ => ?_) (fun c9 => absurd (by decide) c9)
            refine g_iconst (pc := 44) (x := 0) hK dd_X12_same_44 (by decide) ?_
            refine g_iret (pc := 45) hK hr hlocks dd_X12_same_45 rfl ?_
            first | exact g_fin (hN (by first | omega | (subst_vars; omega) | exact ⟨by first | assumption | omega | (subst_vars; first | assumption | omega), by first | assumption | omega | (subst_vars; first | assumption | omega)⟩)) (by first | rfl | omega | (subst_vars; first | rfl | omega)) (by first | rfl | (subst_vars; rfl)) | (exfalso; omega)
        · refine g_aloadn (pc := 24) (i := 0) (x := 200) hK dd_X12_same_24 rfl rfl ?_
          refine g_bipush (pc := 25) (x := (-2)) hK dd_X12_same_25 (by decide) ?_
          refine g_callV (pc := 27) (As := [gI (-2)]) hK ws_M_152 md_X12_no ⟨Nat.zero_le _, Nat.zero_le _⟩ ⟨by decide, by decide⟩ (kdm kd_200) rfl rfl dd_X12_same_27 rfl rfl (Nat.le_of_ble_eq_true rfl) (d_no_2 hrg (g_r1 ?_))
          refine g_iret (pc := 30) hK hr hlocks dd_X12_same_30 rfl ?_
          first | exact g_fin (hB (by first | omega | (subst_vars; omega) | exact ⟨by first | assumption | omega | (subst_vars; first | assumption | omega), by first | assumption | omega | (subst_vars; first | assumption | omega)⟩)) (by first | rfl | omega | (subst_vars; first | rfl | omega)) (by first | rfl | (subst_vars; rfl)) | (exfalso; omega)
set_option maxHeartbeats 4000000 in
set_option maxRecDepth 100000 in
theorem y_secret {l : Launch} {M : Mem} {Pq : Option gV → Mem → Prop} (t : Int) (pe : Int) (h_t : inI t) (h_pe : inI pe) (hrg : rgOK M) (hmc : 0 ≤ M 200 3 ∧ M 200 3 ≤ 30) (hmec : 0 ≤ M 200 31 ∧ M 200 31 ≤ 10) (hB : (¬ ((0 ≤ t ∧ t < M 200 3) ∧ 0 ≤ pe ∧ pe < 16)) → Pq (some (gI (-2))) (rg M 2)) (hF : (((0 ≤ t ∧ t < M 200 3) ∧ 0 ≤ pe ∧ pe < 16) ∧ M 200 31 = 10) → Pq (some (gI (-6))) (rg M 6)) (hY : (((0 ≤ t ∧ t < M 200 3) ∧ 0 ≤ pe ∧ pe < 16) ∧ ¬ M 200 31 = 10) → Pq (some (gI (M 200 31))) (up (up (up M 233 (M 200 31).toNat t) 234 (M 200 31).toNat pe) 200 31 (M 200 31 + 1))) : gCtr l my_X12_secret mb_X12_secret 3 ((some .int)) 2 [gR 200, gI t, gI pe] M Pq := by
  refine g_intro (by decide) (Nat.le_of_ble_eq_true rfl) ?_
  intro p e s m args below meth c D cy q A hK hr hlocks hw
  refine g_sub (L' := [(0, gR 200), (1, gI t), (2, gI pe)]) [0, 1, 2] rfl ?_
  refine g_aloadn (pc := 0) (i := 0) (x := 200) hK dd_X12_secret_0 rfl rfl ?_
  refine g_iloadn (pc := 1) (i := 1) (x := t) hK dd_X12_secret_1 rfl rfl ?_
  refine g_callV (pc := 2) (As := [gI t]) hK ws_M_165 md_X12_isThing ⟨Nat.zero_le _, Nat.zero_le _⟩ ⟨by decide, by decide⟩ (kdm kd_200) rfl rfl dd_X12_secret_2 rfl rfl (Nat.le_of_ble_eq_true rfl) (d_isThing t h_t (fun c1 => g_r1 ?_) (fun c1 => g_r1 ?_))
  · refine g_if_eq (pc := 5) (tgt := 16) hK dd_X12_secret_5 (by decide) (by decide) (fun c2 => absurd c2 (by decide)) (fun _ => ?_)
    refine g_aloadn (pc := 8) (i := 0) (x := 200) hK dd_X12_secret_8 rfl rfl ?_
    refine g_iloadn (pc := 9) (i := 2) (x := pe) hK dd_X12_secret_9 rfl rfl ?_
    refine g_callV (pc := 10) (As := [gI pe]) hK ws_M_276 md_X12_isPerson ⟨Nat.zero_le _, Nat.zero_le _⟩ ⟨by decide, by decide⟩ (kdm kd_200) rfl rfl dd_X12_secret_10 rfl rfl (Nat.le_of_ble_eq_true rfl) (d_isPerson pe h_pe (fun c3 => g_r1 ?_) (fun c3 => g_r1 ?_))
    · refine g_if_ne (pc := 13) (tgt := 23) hK dd_X12_secret_13 (by decide) (by decide) (fun _ => ?_) (fun c4 => absurd (by decide) c4)
      refine g_aloadn (pc := 23) (i := 0) (x := 200) hK dd_X12_secret_23 rfl rfl ?_
      refine g_geti (pc := 24) (f := (0, 0)) (j := 31) hK (kdm kd_200) rfl ef_12 (by decide) rfl kk_1132 nl_200 dd_X12_secret_24 rfl (fun x5 ex5 rx5 => ?_)
      refine g_bipush (pc := 27) (x := 10) hK dd_X12_secret_27 (by decide) ?_
      refine g_icmp_ne (pc := 29) (tgt := 39) hK dd_X12_secret_29 (by decide) rx5 (by decide) (fun c6 => ?_) (fun c6 => ?_)
      · refine g_aloadn (pc := 39) (i := 0) (x := 200) hK dd_X12_secret_39 rfl rfl ?_
        refine g_getv (pc := 40) (f := (1, 33)) (j := 32) (v := gR 233) hK (kdm kd_200) rfl ef_12 (by decide) rfl kk_1133 dd_X12_secret_40 rfl ?_
        refine g_aloadn (pc := 43) (i := 0) (x := 200) hK dd_X12_secret_43 rfl rfl ?_
        refine g_geti (pc := 44) (f := (0, 0)) (j := 31) hK (kdm kd_200) rfl ef_12 (by decide) rfl kk_1132 nl_200 dd_X12_secret_44 rfl (fun x7 ex7 rx7 => ?_)
        refine g_iloadn (pc := 47) (i := 1) (x := t) hK dd_X12_secret_47 rfl rfl ?_
        refine g_iast (pc := 48) hK (kdm kd_233) nl_233 (by decide) (by decide) dd_X12_secret_48 (by omega) (by omega) h_t ?_
        refine g_aloadn (pc := 49) (i := 0) (x := 200) hK dd_X12_secret_49 rfl rfl ?_
        refine g_getv (pc := 50) (f := (1, 34)) (j := 33) (v := gR 234) hK (kdm kd_200) rfl ef_12 (by decide) rfl kk_1134 dd_X12_secret_50 rfl ?_
        refine g_aloadn (pc := 53) (i := 0) (x := 200) hK dd_X12_secret_53 rfl rfl ?_
        refine g_geti (pc := 54) (f := (0, 0)) (j := 31) hK (kdm kd_200) rfl ef_12 (by decide) rfl kk_1132 nl_200 dd_X12_secret_54 rfl (fun x8 ex8 rx8 => ?_)
        replace ex8 : x8 = M 200 31 := ex8
        refine g_iloadn (pc := 57) (i := 2) (x := pe) hK dd_X12_secret_57 rfl rfl ?_
        refine g_iast (pc := 58) hK (kdm kd_234) nl_234 (by decide) (by decide) dd_X12_secret_58 (by omega) (by omega) h_pe ?_
        refine g_aloadn (pc := 59) (i := 0) (x := 200) hK dd_X12_secret_59 rfl rfl ?_
        refine g_dup (pc := 60) hK dd_X12_secret_60 rfl ?_
        refine g_geti (pc := 61) (f := (0, 0)) (j := 31) hK (kdm kd_200) rfl ef_12 (by decide) rfl kk_1132 nl_200 dd_X12_secret_61 rfl (fun x9 ex9 rx9 => ?_)
        replace ex9 : x9 = M 200 31 := ex9
        refine g_dupx1 (pc := 64) hK dd_X12_secret_64 rfl rfl ?_
        refine g_iconst (pc := 65) (x := 1) hK dd_X12_secret_65 (by decide) ?_
        refine g_iadd (pc := 66) (z := x9 + 1) hK dd_X12_secret_66 rfl ?_
        refine g_puti (pc := 67) (f := (0, 0)) (j := 31) (ty := .int) hK (kdm kd_200) rfl ef_12 (by decide) rfl kk_1132 nl_200 (by decide) dd_X12_secret_67 rfl rfl rfl rfl rfl ⟨by omega, by omega⟩ ?_
        refine g_iret (pc := 70) hK hr hlocks dd_X12_secret_70 rfl ?_
        first | exact g_fin (hB (by first | omega | (subst_vars; omega) | exact ⟨by first | assumption | omega | (subst_vars; first | assumption | omega), by first | assumption | omega | (subst_vars; first | assumption | omega)⟩)) (by first | rfl | omega | (subst_vars; first | rfl | omega)) (by first | rfl | (subst_vars; rfl)) | exact g_fin (hF (by first | omega | (subst_vars; omega) | exact ⟨by first | assumption | omega | (subst_vars; first | assumption | omega), by first | assumption | omega | (subst_vars; first | assumption | omega)⟩)) (by first | rfl | omega | (subst_vars; first | rfl | omega)) (by first | rfl | (subst_vars; rfl)) | exact g_fin (hY (by first | omega | (subst_vars; omega) | exact ⟨by first | assumption | omega | (subst_vars; first | assumption | omega), by first | assumption | omega | (subst_vars; first | assumption | omega)⟩)) (by first | rfl | omega | (subst_vars; first | rfl | omega)) (by first | rfl | (subst_vars; rfl)) | (exfalso; omega)
      · refine g_aloadn (pc := 32) (i := 0) (x := 200) hK dd_X12_secret_32 rfl rfl ?_
        refine g_bipush (pc := 33) (x := (-6)) hK dd_X12_secret_33 (by decide) ?_
        refine g_callV (pc := 35) (As := [gI (-6)]) hK ws_M_152 md_X12_no ⟨Nat.zero_le _, Nat.zero_le _⟩ ⟨by decide, by decide⟩ (kdm kd_200) rfl rfl dd_X12_secret_35 rfl rfl (Nat.le_of_ble_eq_true rfl) (d_no_6 hrg (g_r1 ?_))
        refine g_iret (pc := 38) hK hr hlocks dd_X12_secret_38 rfl ?_
        first | exact g_fin (hF (by first | omega | (subst_vars; omega) | exact ⟨by first | assumption | omega | (subst_vars; first | assumption | omega), by first | assumption | omega | (subst_vars; first | assumption | omega)⟩)) (by first | rfl | omega | (subst_vars; first | rfl | omega)) (by first | rfl | (subst_vars; rfl)) | exact g_fin (hY (by first | omega | (subst_vars; omega) | exact ⟨by first | assumption | omega | (subst_vars; first | assumption | omega), by first | assumption | omega | (subst_vars; first | assumption | omega)⟩)) (by first | rfl | omega | (subst_vars; first | rfl | omega)) (by first | rfl | (subst_vars; rfl)) | (exfalso; omega)
    · refine g_if_ne (pc := 13) (tgt := 23) hK dd_X12_secret_13 (by decide) (by decide) (fun c10 => absurd c10 (by decide)) (fun _ => ?_)
      refine g_aloadn (pc := 16) (i := 0) (x := 200) hK dd_X12_secret_16 rfl rfl ?_
      refine g_bipush (pc := 17) (x := (-2)) hK dd_X12_secret_17 (by decide) ?_
      refine g_callV (pc := 19) (As := [gI (-2)]) hK ws_M_152 md_X12_no ⟨Nat.zero_le _, Nat.zero_le _⟩ ⟨by decide, by decide⟩ (kdm kd_200) rfl rfl dd_X12_secret_19 rfl rfl (Nat.le_of_ble_eq_true rfl) (d_no_2 hrg (g_r1 ?_))
      refine g_iret (pc := 22) hK hr hlocks dd_X12_secret_22 rfl ?_
      first | exact g_fin (hB (by first | omega | (subst_vars; omega) | exact ⟨by first | assumption | omega | (subst_vars; first | assumption | omega), by first | assumption | omega | (subst_vars; first | assumption | omega)⟩)) (by first | rfl | omega | (subst_vars; first | rfl | omega)) (by first | rfl | (subst_vars; rfl)) | exact g_fin (hY (by first | omega | (subst_vars; omega) | exact ⟨by first | assumption | omega | (subst_vars; first | assumption | omega), by first | assumption | omega | (subst_vars; first | assumption | omega)⟩)) (by first | rfl | omega | (subst_vars; first | rfl | omega)) (by first | rfl | (subst_vars; rfl)) | (exfalso; omega)
  · refine g_if_eq (pc := 5) (tgt := 16) hK dd_X12_secret_5 (by decide) (by decide) (fun _ => ?_) (fun c11 => absurd (by decide) c11)
    refine g_aloadn (pc := 16) (i := 0) (x := 200) hK dd_X12_secret_16 rfl rfl ?_
    refine g_bipush (pc := 17) (x := (-2)) hK dd_X12_secret_17 (by decide) ?_
    refine g_callV (pc := 19) (As := [gI (-2)]) hK ws_M_152 md_X12_no ⟨Nat.zero_le _, Nat.zero_le _⟩ ⟨by decide, by decide⟩ (kdm kd_200) rfl rfl dd_X12_secret_19 rfl rfl (Nat.le_of_ble_eq_true rfl) (d_no_2 hrg (g_r1 ?_))
    refine g_iret (pc := 22) hK hr hlocks dd_X12_secret_22 rfl ?_
    first | exact g_fin (hB (by first | omega | (subst_vars; omega) | exact ⟨by first | assumption | omega | (subst_vars; first | assumption | omega), by first | assumption | omega | (subst_vars; first | assumption | omega)⟩)) (by first | rfl | omega | (subst_vars; first | rfl | omega)) (by first | rfl | (subst_vars; rfl)) | exact g_fin (hY (by first | omega | (subst_vars; omega) | exact ⟨by first | assumption | omega | (subst_vars; first | assumption | omega), by first | assumption | omega | (subst_vars; first | assumption | omega)⟩)) (by first | rfl | omega | (subst_vars; first | rfl | omega)) (by first | rfl | (subst_vars; rfl)) | (exfalso; omega)
set_option maxHeartbeats 4000000 in
set_option maxRecDepth 100000 in
theorem y_looks {l : Launch} {M : Mem} {Pq : Option gV → Mem → Prop} (pe : Int) (ta : Int) (h_pe : inI pe) (h_ta : inI ta) (hrg : rgOK M) (hB : (¬ ((0 ≤ pe ∧ pe < 16) ∧ 0 ≤ ta ∧ ta ≤ 31)) → Pq (some (gI (-2))) (rg M 2)) (hY : ((0 ≤ pe ∧ pe < 16) ∧ 0 ≤ ta ∧ ta ≤ 31) → Pq (some (gI (M 235 pe.toNat))) (up M 235 pe.toNat ta)) : gCtr l my_X12_looks mb_X12_looks 4 ((some .int)) 2 [gR 200, gI pe, gI ta] M Pq := by
  refine g_intro (by decide) (Nat.le_of_ble_eq_true rfl) ?_
  intro p e s m args below meth c D cy q A hK hr hlocks hw
  refine g_sub (L' := [(0, gR 200), (1, gI pe), (2, gI ta)]) [0, 1, 2] rfl ?_
  refine g_aloadn (pc := 0) (i := 0) (x := 200) hK dd_X12_looks_0 rfl rfl ?_
  refine g_iloadn (pc := 1) (i := 1) (x := pe) hK dd_X12_looks_1 rfl rfl ?_
  refine g_callV (pc := 2) (As := [gI pe]) hK ws_M_276 md_X12_isPerson ⟨Nat.zero_le _, Nat.zero_le _⟩ ⟨by decide, by decide⟩ (kdm kd_200) rfl rfl dd_X12_looks_2 rfl rfl (Nat.le_of_ble_eq_true rfl) (d_isPerson pe h_pe (fun c1 => g_r1 ?_) (fun c1 => g_r1 ?_))
  · refine g_if_eq (pc := 5) (tgt := 18) hK dd_X12_looks_5 (by decide) (by decide) (fun c2 => absurd c2 (by decide)) (fun _ => ?_)
    refine g_iloadn (pc := 8) (i := 2) (x := ta) hK dd_X12_looks_8 rfl rfl ?_
    refine g_if_lt (pc := 9) (tgt := 18) hK dd_X12_looks_9 (by decide) h_ta (fun c3 => ?_) (fun c3 => ?_)
    · refine g_aloadn (pc := 18) (i := 0) (x := 200) hK dd_X12_looks_18 rfl rfl ?_
      refine g_bipush (pc := 19) (x := (-2)) hK dd_X12_looks_19 (by decide) ?_
      refine g_callV (pc := 21) (As := [gI (-2)]) hK ws_M_152 md_X12_no ⟨Nat.zero_le _, Nat.zero_le _⟩ ⟨by decide, by decide⟩ (kdm kd_200) rfl rfl dd_X12_looks_21 rfl rfl (Nat.le_of_ble_eq_true rfl) (d_no_2 hrg (g_r1 ?_))
      refine g_iret (pc := 24) hK hr hlocks dd_X12_looks_24 rfl ?_
      first | exact g_fin (hB (by first | omega | (subst_vars; omega) | exact ⟨by first | assumption | omega | (subst_vars; first | assumption | omega), by first | assumption | omega | (subst_vars; first | assumption | omega)⟩)) (by first | rfl | omega | (subst_vars; first | rfl | omega)) (by first | rfl | (subst_vars; rfl)) | exact g_fin (hY (by first | omega | (subst_vars; omega) | exact ⟨by first | assumption | omega | (subst_vars; first | assumption | omega), by first | assumption | omega | (subst_vars; first | assumption | omega)⟩)) (by first | rfl | omega | (subst_vars; first | rfl | omega)) (by first | rfl | (subst_vars; rfl)) | (exfalso; omega)
    · refine g_iloadn (pc := 12) (i := 2) (x := ta) hK dd_X12_looks_12 rfl rfl ?_
      refine g_bipush (pc := 13) (x := 31) hK dd_X12_looks_13 (by decide) ?_
      refine g_icmp_le (pc := 15) (tgt := 25) hK dd_X12_looks_15 (by decide) h_ta (by decide) (fun c4 => ?_) (fun c4 => ?_)
      · refine g_aloadn (pc := 25) (i := 0) (x := 200) hK dd_X12_looks_25 rfl rfl ?_
        refine g_getv (pc := 26) (f := (1, 35)) (j := 34) (v := gR 235) hK (kdm kd_200) rfl ef_12 (by decide) rfl kk_1135 dd_X12_looks_26 rfl ?_
        refine g_iloadn (pc := 29) (i := 1) (x := pe) hK dd_X12_looks_29 rfl rfl ?_
        refine g_iald (pc := 30) hK (kdm kd_235) nl_235 (by decide) dd_X12_looks_30 (by omega) (by omega) (fun x5 ex5 rx5 => ?_)
        refine g_istoren (pc := 31) (i := 3) (L' := [(0, gR 200), (1, gI pe), (2, gI ta), (3, gI x5)]) hK dd_X12_looks_31 rfl (by decide) rfl ?_
        refine g_aloadn (pc := 32) (i := 0) (x := 200) hK dd_X12_looks_32 rfl rfl ?_
        refine g_getv (pc := 33) (f := (1, 35)) (j := 34) (v := gR 235) hK (kdm kd_200) rfl ef_12 (by decide) rfl kk_1135 dd_X12_looks_33 rfl ?_
        refine g_iloadn (pc := 36) (i := 1) (x := pe) hK dd_X12_looks_36 rfl rfl ?_
        refine g_iloadn (pc := 37) (i := 2) (x := ta) hK dd_X12_looks_37 rfl rfl ?_
        refine g_iast (pc := 38) hK (kdm kd_235) nl_235 (by decide) (by decide) dd_X12_looks_38 (by omega) (by omega) h_ta ?_
        refine g_iloadn (pc := 39) (i := 3) (x := x5) hK dd_X12_looks_39 rfl rfl ?_
        refine g_iret (pc := 40) hK hr hlocks dd_X12_looks_40 rfl ?_
        first | exact g_fin (hB (by first | omega | (subst_vars; omega) | exact ⟨by first | assumption | omega | (subst_vars; first | assumption | omega), by first | assumption | omega | (subst_vars; first | assumption | omega)⟩)) (by first | rfl | omega | (subst_vars; first | rfl | omega)) (by first | rfl | (subst_vars; rfl)) | exact g_fin (hY (by first | omega | (subst_vars; omega) | exact ⟨by first | assumption | omega | (subst_vars; first | assumption | omega), by first | assumption | omega | (subst_vars; first | assumption | omega)⟩)) (by first | rfl | omega | (subst_vars; first | rfl | omega)) (by first | rfl | (subst_vars; rfl)) | (exfalso; omega)
      · refine g_aloadn (pc := 18) (i := 0) (x := 200) hK dd_X12_looks_18 rfl rfl ?_
        refine g_bipush (pc := 19) (x := (-2)) hK dd_X12_looks_19 (by decide) ?_
        refine g_callV (pc := 21) (As := [gI (-2)]) hK ws_M_152 md_X12_no ⟨Nat.zero_le _, Nat.zero_le _⟩ ⟨by decide, by decide⟩ (kdm kd_200) rfl rfl dd_X12_looks_21 rfl rfl (Nat.le_of_ble_eq_true rfl) (d_no_2 hrg (g_r1 ?_))
        refine g_iret (pc := 24) hK hr hlocks dd_X12_looks_24 rfl ?_
        first | exact g_fin (hB (by first | omega | (subst_vars; omega) | exact ⟨by first | assumption | omega | (subst_vars; first | assumption | omega), by first | assumption | omega | (subst_vars; first | assumption | omega)⟩)) (by first | rfl | omega | (subst_vars; first | rfl | omega)) (by first | rfl | (subst_vars; rfl)) | exact g_fin (hY (by first | omega | (subst_vars; omega) | exact ⟨by first | assumption | omega | (subst_vars; first | assumption | omega), by first | assumption | omega | (subst_vars; first | assumption | omega)⟩)) (by first | rfl | omega | (subst_vars; first | rfl | omega)) (by first | rfl | (subst_vars; rfl)) | (exfalso; omega)
  · refine g_if_eq (pc := 5) (tgt := 18) hK dd_X12_looks_5 (by decide) (by decide) (fun _ => ?_) (fun c6 => absurd (by decide) c6)
    refine g_aloadn (pc := 18) (i := 0) (x := 200) hK dd_X12_looks_18 rfl rfl ?_
    refine g_bipush (pc := 19) (x := (-2)) hK dd_X12_looks_19 (by decide) ?_
    refine g_callV (pc := 21) (As := [gI (-2)]) hK ws_M_152 md_X12_no ⟨Nat.zero_le _, Nat.zero_le _⟩ ⟨by decide, by decide⟩ (kdm kd_200) rfl rfl dd_X12_looks_21 rfl rfl (Nat.le_of_ble_eq_true rfl) (d_no_2 hrg (g_r1 ?_))
    refine g_iret (pc := 24) hK hr hlocks dd_X12_looks_24 rfl ?_
    first | exact g_fin (hB (by first | omega | (subst_vars; omega) | exact ⟨by first | assumption | omega | (subst_vars; first | assumption | omega), by first | assumption | omega | (subst_vars; first | assumption | omega)⟩)) (by first | rfl | omega | (subst_vars; first | rfl | omega)) (by first | rfl | (subst_vars; rfl)) | exact g_fin (hY (by first | omega | (subst_vars; omega) | exact ⟨by first | assumption | omega | (subst_vars; first | assumption | omega), by first | assumption | omega | (subst_vars; first | assumption | omega)⟩)) (by first | rfl | omega | (subst_vars; first | rfl | omega)) (by first | rfl | (subst_vars; rfl)) | (exfalso; omega)
