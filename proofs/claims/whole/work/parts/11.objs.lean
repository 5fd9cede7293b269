set_option maxHeartbeats 4000000 in
set_option maxRecDepth 100000 in
theorem c_has_14 {l : Launch} {M : Mem} {Pq : Option gV → Mem → Prop} (t : Int) (h1 : inI t) (h2 : 0 ≤ M 14 3 ∧ M 14 3 ≤ 5) (hT : (0 ≤ t ∧ t < M 14 3) → Pq (some (gI 1)) M) (hF : ¬ (0 ≤ t ∧ t < M 14 3) → Pq (some (gI 0)) M) : gCtr l my_X2_has mb_X2_has 2 ((some .boolean)) 2 [gR 14, gI t] M Pq := by
  refine g_intro (by decide) (Nat.le_of_ble_eq_true rfl) ?_
  intro p e s m args below meth c D cy q A hK hr hlocks hw
  refine g_sub (L' := [(0, gR 14), (1, gI t)]) [0, 1] rfl ?_
  refine g_iloadn (pc := 0) (i := 1) (x := t) hK dd_X2_has_0 rfl rfl ?_
  refine g_iconst (pc := 1) (x := 0) hK dd_X2_has_1 (by decide) ?_
  refine g_aloadn (pc := 2) (i := 0) (x := 14) hK dd_X2_has_2 rfl rfl ?_
  refine g_geti (pc := 3) (f := (0, 0)) (j := 3) hK (kdm kd_14) rfl ef_2 (by decide) rfl kk_123 nl_14 dd_X2_has_3 rfl (fun x1 ex1 rx1 => ?_)
  refine g_iconst (pc := 6) (x := 1) hK dd_X2_has_6 (by decide) ?_
  refine g_isub (pc := 7) (z := x1 - 1) hK dd_X2_has_7 rfl ?_
  refine g_callTN (pc := 8) (As := [gI t, gI 0, gI (x1 - 1)]) hK ws_Ladies_25 md_X11_within ⟨Nat.zero_le _, Nat.zero_le _⟩ ⟨by decide, by decide⟩ dd_X2_has_8 rfl rfl (Nat.le_of_ble_eq_true rfl) (c_within t 0 (x1 - 1) h1 (by decide) ⟨by omega, by omega⟩ (fun c2 => g_r1 ?_) (fun c2 => g_r1 ?_))
  · refine g_iret (pc := 11) hK hr hlocks dd_X2_has_11 rfl ?_
    exact g_finM (hT (by subst_vars; first | assumption | omega | simp_all)) (by first | rfl | (subst_vars; rfl))
  · refine g_iret (pc := 11) hK hr hlocks dd_X2_has_11 rfl ?_
    exact g_finM (hF (by subst_vars; first | assumption | omega | simp_all)) (by first | rfl | (subst_vars; rfl))
set_option maxHeartbeats 4000000 in
set_option maxRecDepth 100000 in
theorem c_has_18 {l : Launch} {M : Mem} {Pq : Option gV → Mem → Prop} (t : Int) (h1 : inI t) (h2 : 0 ≤ M 18 2 ∧ M 18 2 ≤ 6) (hT : (0 ≤ t ∧ t < M 18 2) → Pq (some (gI 1)) M) (hF : ¬ (0 ≤ t ∧ t < M 18 2) → Pq (some (gI 0)) M) : gCtr l my_X3_has mb_X3_has 2 ((some .boolean)) 2 [gR 18, gI t] M Pq := by
  refine g_intro (by decide) (Nat.le_of_ble_eq_true rfl) ?_
  intro p e s m args below meth c D cy q A hK hr hlocks hw
  refine g_sub (L' := [(0, gR 18), (1, gI t)]) [0, 1] rfl ?_
  refine g_iloadn (pc := 0) (i := 1) (x := t) hK dd_X3_has_0 rfl rfl ?_
  refine g_iconst (pc := 1) (x := 0) hK dd_X3_has_1 (by decide) ?_
  refine g_aloadn (pc := 2) (i := 0) (x := 18) hK dd_X3_has_2 rfl rfl ?_
  refine g_geti (pc := 3) (f := (0, 0)) (j := 2) hK (kdm kd_18) rfl ef_3 (by decide) rfl kk_144 nl_18 dd_X3_has_3 rfl (fun x1 ex1 rx1 => ?_)
  refine g_iconst (pc := 6) (x := 1) hK dd_X3_has_6 (by decide) ?_
  refine g_isub (pc := 7) (z := x1 - 1) hK dd_X3_has_7 rfl ?_
  refine g_callTN (pc := 8) (As := [gI t, gI 0, gI (x1 - 1)]) hK ws_Laws_28 md_X11_within ⟨Nat.zero_le _, Nat.zero_le _⟩ ⟨by decide, by decide⟩ dd_X3_has_8 rfl rfl (Nat.le_of_ble_eq_true rfl) (c_within t 0 (x1 - 1) h1 (by decide) ⟨by omega, by omega⟩ (fun c2 => g_r1 ?_) (fun c2 => g_r1 ?_))
  · refine g_iret (pc := 11) hK hr hlocks dd_X3_has_11 rfl ?_
    exact g_finM (hT (by subst_vars; first | assumption | omega | simp_all)) (by first | rfl | (subst_vars; rfl))
  · refine g_iret (pc := 11) hK hr hlocks dd_X3_has_11 rfl ?_
    exact g_finM (hF (by subst_vars; first | assumption | omega | simp_all)) (by first | rfl | (subst_vars; rfl))
set_option maxHeartbeats 4000000 in
set_option maxRecDepth 100000 in
theorem c_has_21 {l : Launch} {M : Mem} {Pq : Option gV → Mem → Prop} (t : Int) (h1 : inI t) (h2 : 0 ≤ M 21 5 ∧ M 21 5 ≤ 12) (hT : (0 ≤ t ∧ t < M 21 5) → Pq (some (gI 1)) M) (hF : ¬ (0 ≤ t ∧ t < M 21 5) → Pq (some (gI 0)) M) : gCtr l my_X0_has mb_X0_has 2 ((some .boolean)) 2 [gR 21, gI t] M Pq := by
  refine g_intro (by decide) (Nat.le_of_ble_eq_true rfl) ?_
  intro p e s m args below meth c D cy q A hK hr hlocks hw
  refine g_sub (L' := [(0, gR 21), (1, gI t)]) [0, 1] rfl ?_
  refine g_iloadn (pc := 0) (i := 1) (x := t) hK dd_X0_has_0 rfl rfl ?_
  refine g_iconst (pc := 1) (x := 0) hK dd_X0_has_1 (by decide) ?_
  refine g_aloadn (pc := 2) (i := 0) (x := 21) hK dd_X0_has_2 rfl rfl ?_
  refine g_geti (pc := 3) (f := (0, 0)) (j := 5) hK (kdm kd_21) rfl ef_0 (by decide) rfl kk_174 nl_21 dd_X0_has_3 rfl (fun x1 ex1 rx1 => ?_)
  refine g_iconst (pc := 6) (x := 1) hK dd_X0_has_6 (by decide) ?_
  refine g_isub (pc := 7) (z := x1 - 1) hK dd_X0_has_7 rfl ?_
  refine g_callTN (pc := 8) (As := [gI t, gI 0, gI (x1 - 1)]) hK ws_Buyers_31 md_X11_within ⟨Nat.zero_le _, Nat.zero_le _⟩ ⟨by decide, by decide⟩ dd_X0_has_8 rfl rfl (Nat.le_of_ble_eq_true rfl) (c_within t 0 (x1 - 1) h1 (by decide) ⟨by omega, by omega⟩ (fun c2 => g_r1 ?_) (fun c2 => g_r1 ?_))
  · refine g_iret (pc := 11) hK hr hlocks dd_X0_has_11 rfl ?_
    exact g_finM (hT (by subst_vars; first | assumption | omega | simp_all)) (by first | rfl | (subst_vars; rfl))
  · refine g_iret (pc := 11) hK hr hlocks dd_X0_has_11 rfl ?_
    exact g_finM (hF (by subst_vars; first | assumption | omega | simp_all)) (by first | rfl | (subst_vars; rfl))
set_option maxHeartbeats 4000000 in
set_option maxRecDepth 100000 in
theorem c_has_27 {l : Launch} {M : Mem} {Pq : Option gV → Mem → Prop} (t : Int) (h1 : inI t) (h2 : 0 ≤ M 27 4 ∧ M 27 4 ≤ 20) (hT : (0 ≤ t ∧ t < M 27 4) → Pq (some (gI 1)) M) (hF : ¬ (0 ≤ t ∧ t < M 27 4) → Pq (some (gI 0)) M) : gCtr l my_X8_has mb_X8_has 2 ((some .boolean)) 2 [gR 27, gI t] M Pq := by
  refine g_intro (by decide) (Nat.le_of_ble_eq_true rfl) ?_
  intro p e s m args below meth c D cy q A hK hr hlocks hw
  refine g_sub (L' := [(0, gR 27), (1, gI t)]) [0, 1] rfl ?_
  refine g_iloadn (pc := 0) (i := 1) (x := t) hK dd_X8_has_0 rfl rfl ?_
  refine g_iconst (pc := 1) (x := 0) hK dd_X8_has_1 (by decide) ?_
  refine g_aloadn (pc := 2) (i := 0) (x := 27) hK dd_X8_has_2 rfl rfl ?_
  refine g_geti (pc := 3) (f := (0, 0)) (j := 4) hK (kdm kd_27) rfl ef_8 (by decide) rfl kk_200 nl_27 dd_X8_has_3 rfl (fun x1 ex1 rx1 => ?_)
  refine g_iconst (pc := 6) (x := 1) hK dd_X8_has_6 (by decide) ?_
  refine g_isub (pc := 7) (z := x1 - 1) hK dd_X8_has_7 rfl ?_
  refine g_callTN (pc := 8) (As := [gI t, gI 0, gI (x1 - 1)]) hK ws_Sightings_37 md_X11_within ⟨Nat.zero_le _, Nat.zero_le _⟩ ⟨by decide, by decide⟩ dd_X8_has_8 rfl rfl (Nat.le_of_ble_eq_true rfl) (c_within t 0 (x1 - 1) h1 (by decide) ⟨by omega, by omega⟩ (fun c2 => g_r1 ?_) (fun c2 => g_r1 ?_))
  · refine g_iret (pc := 11) hK hr hlocks dd_X8_has_11 rfl ?_
    exact g_finM (hT (by subst_vars; first | assumption | omega | simp_all)) (by first | rfl | (subst_vars; rfl))
  · refine g_iret (pc := 11) hK hr hlocks dd_X8_has_11 rfl ?_
    exact g_finM (hF (by subst_vars; first | assumption | omega | simp_all)) (by first | rfl | (subst_vars; rfl))
set_option maxHeartbeats 4000000 in
set_option maxRecDepth 100000 in
theorem c_become_14_55 {l : Launch} {M : Mem} {Pq : Option gV → Mem → Prop}  (hQ : Pq none (up (cp (cp (cp M 15 (M 56) 0 0 5) 16 (M 57) 0 0 5) 17 (M 58) 0 0 5) 14 3 (M 55 3))) : gCtr l my_X2_become mb_X2_become 2 ((none : Option Jvm.ClassFile.FieldType)) 1 [gR 14, gR 55] M Pq := by
  refine g_intro (by decide) (Nat.le_of_ble_eq_true rfl) ?_
  intro p e s m args below meth c D cy q A hK hr hlocks hw
  refine g_sub (L' := [(0, gR 14), (1, gR 55)]) [0, 1] rfl ?_
  refine g_aloadn (pc := 0) (i := 1) (x := 55) hK dd_X2_become_0 rfl rfl ?_
  refine g_getv (pc := 1) (f := (1, 1)) (j := 0) (v := gR 56) hK (kdm kd_55) rfl ef_2 (by decide) rfl kk_116 dd_X2_become_1 rfl ?_
  refine g_iconst (pc := 4) (x := 0) hK dd_X2_become_4 (by decide) ?_
  refine g_aloadn (pc := 5) (i := 0) (x := 14) hK dd_X2_become_5 rfl rfl ?_
  refine g_getv (pc := 6) (f := (1, 1)) (j := 0) (v := gR 15) hK (kdm kd_14) rfl ef_2 (by decide) rfl kk_116 dd_X2_become_6 rfl ?_
  refine g_iconst (pc := 9) (x := 0) hK dd_X2_become_9 (by decide) ?_
  refine g_iconst (pc := 10) (x := 5) hK dd_X2_become_10 (by decide) ?_
  refine g_copyi (pc := 11) hK wa_Ladies_29 (kdm kd_56) (kdm kd_15) nl_56 nl_15 (by decide) (by decide) (by decide) (by decide) (by decide) (by decide) (by omega) (by omega) ⟨by decide, by decide⟩ (Nat.le_of_ble_eq_true rfl) dd_X2_become_11 ?_
  refine g_aloadn (pc := 14) (i := 1) (x := 55) hK dd_X2_become_14 rfl rfl ?_
  refine g_getv (pc := 15) (f := (1, 2)) (j := 1) (v := gR 57) hK (kdm kd_55) rfl ef_2 (by decide) rfl kk_118 dd_X2_become_15 rfl ?_
  refine g_iconst (pc := 18) (x := 0) hK dd_X2_become_18 (by decide) ?_
  refine g_aloadn (pc := 19) (i := 0) (x := 14) hK dd_X2_become_19 rfl rfl ?_
  refine g_getv (pc := 20) (f := (1, 2)) (j := 1) (v := gR 16) hK (kdm kd_14) rfl ef_2 (by decide) rfl kk_118 dd_X2_become_20 rfl ?_
  refine g_iconst (pc := 23) (x := 0) hK dd_X2_become_23 (by decide) ?_
  refine g_iconst (pc := 24) (x := 5) hK dd_X2_become_24 (by decide) ?_
  refine g_copyi (pc := 25) hK wa_Ladies_29 (kdm kd_57) (kdm kd_16) nl_57 nl_16 (by decide) (by decide) (by decide) (by decide) (by decide) (by decide) (by omega) (by omega) ⟨by decide, by decide⟩ (Nat.le_of_ble_eq_true rfl) dd_X2_become_25 ?_
  refine g_aloadn (pc := 28) (i := 1) (x := 55) hK dd_X2_become_28 rfl rfl ?_
  refine g_getv (pc := 29) (f := (1, 3)) (j := 2) (v := gR 58) hK (kdm kd_55) rfl ef_2 (by decide) rfl kk_120 dd_X2_become_29 rfl ?_
  refine g_iconst (pc := 32) (x := 0) hK dd_X2_become_32 (by decide) ?_
  refine g_aloadn (pc := 33) (i := 0) (x := 14) hK dd_X2_become_33 rfl rfl ?_
  refine g_getv (pc := 34) (f := (1, 3)) (j := 2) (v := gR 17) hK (kdm kd_14) rfl ef_2 (by decide) rfl kk_120 dd_X2_become_34 rfl ?_
  refine g_iconst (pc := 37) (x := 0) hK dd_X2_become_37 (by decide) ?_
  refine g_iconst (pc := 38) (x := 5) hK dd_X2_become_38 (by decide) ?_
  refine g_copyi (pc := 39) hK wa_Ladies_29 (kdm kd_58) (kdm kd_17) nl_58 nl_17 (by decide) (by decide) (by decide) (by decide) (by decide) (by decide) (by omega) (by omega) ⟨by decide, by decide⟩ (Nat.le_of_ble_eq_true rfl) dd_X2_become_39 ?_
  refine g_aloadn (pc := 42) (i := 0) (x := 14) hK dd_X2_become_42 rfl rfl ?_
  refine g_aloadn (pc := 43) (i := 1) (x := 55) hK dd_X2_become_43 rfl rfl ?_
  refine g_geti (pc := 44) (f := (0, 0)) (j := 3) hK (kdm kd_55) rfl ef_2 (by decide) rfl kk_123 nl_55 dd_X2_become_44 rfl (fun x1 ex1 rx1 => ?_)
  replace ex1 : x1 = M 55 3 := ex1
  refine g_puti (pc := 47) (f := (0, 0)) (j := 3) (ty := .int) hK (kdm kd_14) rfl ef_2 (by decide) rfl kk_123 nl_14 (by decide) dd_X2_become_47 rfl rfl rfl rfl rfl rx1 ?_
  refine g_vret (pc := 50) hK hr hlocks dd_X2_become_50 ?_
  exact g_finM hQ (by first | rfl | (subst_vars; rfl))
set_option maxHeartbeats 4000000 in
set_option maxRecDepth 100000 in
theorem c_become_55_14 {l : Launch} {M : Mem} {Pq : Option gV → Mem → Prop}  (hQ : Pq none (up (cp (cp (cp M 56 (M 15) 0 0 5) 57 (M 16) 0 0 5) 58 (M 17) 0 0 5) 55 3 (M 14 3))) : gCtr l my_X2_become mb_X2_become 2 ((none : Option Jvm.ClassFile.FieldType)) 1 [gR 55, gR 14] M Pq := by
  refine g_intro (by decide) (Nat.le_of_ble_eq_true rfl) ?_
  intro p e s m args below meth c D cy q A hK hr hlocks hw
  refine g_sub (L' := [(0, gR 55), (1, gR 14)]) [0, 1] rfl ?_
  refine g_aloadn (pc := 0) (i := 1) (x := 14) hK dd_X2_become_0 rfl rfl ?_
  refine g_getv (pc := 1) (f := (1, 1)) (j := 0) (v := gR 15) hK (kdm kd_14) rfl ef_2 (by decide) rfl kk_116 dd_X2_become_1 rfl ?_
  refine g_iconst (pc := 4) (x := 0) hK dd_X2_become_4 (by decide) ?_
  refine g_aloadn (pc := 5) (i := 0) (x := 55) hK dd_X2_become_5 rfl rfl ?_
  refine g_getv (pc := 6) (f := (1, 1)) (j := 0) (v := gR 56) hK (kdm kd_55) rfl ef_2 (by decide) rfl kk_116 dd_X2_become_6 rfl ?_
  refine g_iconst (pc := 9) (x := 0) hK dd_X2_become_9 (by decide) ?_
  refine g_iconst (pc := 10) (x := 5) hK dd_X2_become_10 (by decide) ?_
  refine g_copyi (pc := 11) hK wa_Ladies_29 (kdm kd_15) (kdm kd_56) nl_15 nl_56 (by decide) (by decide) (by decide) (by decide) (by decide) (by decide) (by omega) (by omega) ⟨by decide, by decide⟩ (Nat.le_of_ble_eq_true rfl) dd_X2_become_11 ?_
  refine g_aloadn (pc := 14) (i := 1) (x := 14) hK dd_X2_become_14 rfl rfl ?_
  refine g_getv (pc := 15) (f := (1, 2)) (j := 1) (v := gR 16) hK (kdm kd_14) rfl ef_2 (by decide) rfl kk_118 dd_X2_become_15 rfl ?_
  refine g_iconst (pc := 18) (x := 0) hK dd_X2_become_18 (by decide) ?_
  refine g_aloadn (pc := 19) (i := 0) (x := 55) hK dd_X2_become_19 rfl rfl ?_
  refine g_getv (pc := 20) (f := (1, 2)) (j := 1) (v := gR 57) hK (kdm kd_55) rfl ef_2 (by decide) rfl kk_118 dd_X2_become_20 rfl ?_
  refine g_iconst (pc := 23) (x := 0) hK dd_X2_become_23 (by decide) ?_
  refine g_iconst (pc := 24) (x := 5) hK dd_X2_become_24 (by decide) ?_
  refine g_copyi (pc := 25) hK wa_Ladies_29 (kdm kd_16) (kdm kd_57) nl_16 nl_57 (by decide) (by decide) (by decide) (by decide) (by decide) (by decide) (by omega) (by omega) ⟨by decide, by decide⟩ (Nat.le_of_ble_eq_true rfl) dd_X2_become_25 ?_
  refine g_aloadn (pc := 28) (i := 1) (x := 14) hK dd_X2_become_28 rfl rfl ?_
  refine g_getv (pc := 29) (f := (1, 3)) (j := 2) (v := gR 17) hK (kdm kd_14) rfl ef_2 (by decide) rfl kk_120 dd_X2_become_29 rfl ?_
  refine g_iconst (pc := 32) (x := 0) hK dd_X2_become_32 (by decide) ?_
  refine g_aloadn (pc := 33) (i := 0) (x := 55) hK dd_X2_become_33 rfl rfl ?_
  refine g_getv (pc := 34) (f := (1, 3)) (j := 2) (v := gR 58) hK (kdm kd_55) rfl ef_2 (by decide) rfl kk_120 dd_X2_become_34 rfl ?_
  refine g_iconst (pc := 37) (x := 0) hK dd_X2_become_37 (by decide) ?_
  refine g_iconst (pc := 38) (x := 5) hK dd_X2_become_38 (by decide) ?_
  refine g_copyi (pc := 39) hK wa_Ladies_29 (kdm kd_17) (kdm kd_58) nl_17 nl_58 (by decide) (by decide) (by decide) (by decide) (by decide) (by decide) (by omega) (by omega) ⟨by decide, by decide⟩ (Nat.le_of_ble_eq_true rfl) dd_X2_become_39 ?_
  refine g_aloadn (pc := 42) (i := 0) (x := 55) hK dd_X2_become_42 rfl rfl ?_
  refine g_aloadn (pc := 43) (i := 1) (x := 14) hK dd_X2_become_43 rfl rfl ?_
  refine g_geti (pc := 44) (f := (0, 0)) (j := 3) hK (kdm kd_14) rfl ef_2 (by decide) rfl kk_123 nl_14 dd_X2_become_44 rfl (fun x1 ex1 rx1 => ?_)
  replace ex1 : x1 = M 14 3 := ex1
  refine g_puti (pc := 47) (f := (0, 0)) (j := 3) (ty := .int) hK (kdm kd_55) rfl ef_2 (by decide) rfl kk_123 nl_55 (by decide) dd_X2_become_47 rfl rfl rfl rfl rfl rx1 ?_
  refine g_vret (pc := 50) hK hr hlocks dd_X2_become_50 ?_
  exact g_finM hQ (by first | rfl | (subst_vars; rfl))
set_option maxHeartbeats 4000000 in
set_option maxRecDepth 100000 in
theorem c_become_21_62 {l : Launch} {M : Mem} {Pq : Option gV → Mem → Prop}  (hQ : Pq none (up (cp (cp (cp (cp (cp M 22 (M 63) 0 0 12) 23 (M 64) 0 0 12) 24 (M 65) 0 0 12) 25 (M 66) 0 0 12) 26 (M 67) 0 0 12) 21 5 (M 62 5))) : gCtr l my_X0_become mb_X0_become 2 ((none : Option Jvm.ClassFile.FieldType)) 1 [gR 21, gR 62] M Pq := by
  refine g_intro (by decide) (Nat.le_of_ble_eq_true rfl) ?_
  intro p e s m args below meth c D cy q A hK hr hlocks hw
  refine g_sub (L' := [(0, gR 21), (1, gR 62)]) [0, 1] rfl ?_
  refine g_aloadn (pc := 0) (i := 1) (x := 62) hK dd_X0_become_0 rfl rfl ?_
  refine g_getv (pc := 1) (f := (1, 1)) (j := 0) (v := gR 63) hK (kdm kd_62) rfl ef_0 (by decide) rfl kk_159 dd_X0_become_1 rfl ?_
  refine g_iconst (pc := 4) (x := 0) hK dd_X0_become_4 (by decide) ?_
  refine g_aloadn (pc := 5) (i := 0) (x := 21) hK dd_X0_become_5 rfl rfl ?_
  refine g_getv (pc := 6) (f := (1, 1)) (j := 0) (v := gR 22) hK (kdm kd_21) rfl ef_0 (by decide) rfl kk_159 dd_X0_become_6 rfl ?_
  refine g_iconst (pc := 9) (x := 0) hK dd_X0_become_9 (by decide) ?_
  refine g_bipush (pc := 10) (x := 12) hK dd_X0_become_10 (by decide) ?_
  refine g_copyi (pc := 12) hK wa_Buyers_35 (kdm kd_63) (kdm kd_22) nl_63 nl_22 (by decide) (by decide) (by decide) (by decide) (by decide) (by decide) (by omega) (by omega) ⟨by decide, by decide⟩ (Nat.le_of_ble_eq_true rfl) dd_X0_become_12 ?_
  refine g_aloadn (pc := 15) (i := 1) (x := 62) hK dd_X0_become_15 rfl rfl ?_
  refine g_getv (pc := 16) (f := (1, 2)) (j := 1) (v := gR 64) hK (kdm kd_62) rfl ef_0 (by decide) rfl kk_162 dd_X0_become_16 rfl ?_
  refine g_iconst (pc := 19) (x := 0) hK dd_X0_become_19 (by decide) ?_
  refine g_aloadn (pc := 20) (i := 0) (x := 21) hK dd_X0_become_20 rfl rfl ?_
  refine g_getv (pc := 21) (f := (1, 2)) (j := 1) (v := gR 23) hK (kdm kd_21) rfl ef_0 (by decide) rfl kk_162 dd_X0_become_21 rfl ?_
  refine g_iconst (pc := 24) (x := 0) hK dd_X0_become_24 (by decide) ?_
  refine g_bipush (pc := 25) (x := 12) hK dd_X0_become_25 (by decide) ?_
  refine g_copyi (pc := 27) hK wa_Buyers_35 (kdm kd_64) (kdm kd_23) nl_64 nl_23 (by decide) (by decide) (by decide) (by decide) (by decide) (by decide) (by omega) (by omega) ⟨by decide, by decide⟩ (Nat.le_of_ble_eq_true rfl) dd_X0_become_27 ?_
  refine g_aloadn (pc := 30) (i := 1) (x := 62) hK dd_X0_become_30 rfl rfl ?_
  refine g_getv (pc := 31) (f := (1, 3)) (j := 2) (v := gR 65) hK (kdm kd_62) rfl ef_0 (by decide) rfl kk_165 dd_X0_become_31 rfl ?_
  refine g_iconst (pc := 34) (x := 0) hK dd_X0_become_34 (by decide) ?_
  refine g_aloadn (pc := 35) (i := 0) (x := 21) hK dd_X0_become_35 rfl rfl ?_
  refine g_getv (pc := 36) (f := (1, 3)) (j := 2) (v := gR 24) hK (kdm kd_21) rfl ef_0 (by decide) rfl kk_165 dd_X0_become_36 rfl ?_
  refine g_iconst (pc := 39) (x := 0) hK dd_X0_become_39 (by decide) ?_
  refine g_bipush (pc := 40) (x := 12) hK dd_X0_become_40 (by decide) ?_
  refine g_copyi (pc := 42) hK wa_Buyers_35 (kdm kd_65) (kdm kd_24) nl_65 nl_24 (by decide) (by decide) (by decide) (by decide) (by decide) (by decide) (by omega) (by omega) ⟨by decide, by decide⟩ (Nat.le_of_ble_eq_true rfl) dd_X0_become_42 ?_
  refine g_aloadn (pc := 45) (i := 1) (x := 62) hK dd_X0_become_45 rfl rfl ?_
  refine g_getv (pc := 46) (f := (1, 4)) (j := 3) (v := gR 66) hK (kdm kd_62) rfl ef_0 (by decide) rfl kk_168 dd_X0_become_46 rfl ?_
  refine g_iconst (pc := 49) (x := 0) hK dd_X0_become_49 (by decide) ?_
  refine g_aloadn (pc := 50) (i := 0) (x := 21) hK dd_X0_become_50 rfl rfl ?_
  refine g_getv (pc := 51) (f := (1, 4)) (j := 3) (v := gR 25) hK (kdm kd_21) rfl ef_0 (by decide) rfl kk_168 dd_X0_become_51 rfl ?_
  refine g_iconst (pc := 54) (x := 0) hK dd_X0_become_54 (by decide) ?_
  refine g_bipush (pc := 55) (x := 12) hK dd_X0_become_55 (by decide) ?_
  refine g_copyi (pc := 57) hK wa_Buyers_35 (kdm kd_66) (kdm kd_25) nl_66 nl_25 (by decide) (by decide) (by decide) (by decide) (by decide) (by decide) (by omega) (by omega) ⟨by decide, by decide⟩ (Nat.le_of_ble_eq_true rfl) dd_X0_become_57 ?_
  refine g_aloadn (pc := 60) (i := 1) (x := 62) hK dd_X0_become_60 rfl rfl ?_
  refine g_getv (pc := 61) (f := (1, 5)) (j := 4) (v := gR 67) hK (kdm kd_62) rfl ef_0 (by decide) rfl kk_171 dd_X0_become_61 rfl ?_
  refine g_iconst (pc := 64) (x := 0) hK dd_X0_become_64 (by decide) ?_
  refine g_aloadn (pc := 65) (i := 0) (x := 21) hK dd_X0_become_65 rfl rfl ?_
  refine g_getv (pc := 66) (f := (1, 5)) (j := 4) (v := gR 26) hK (kdm kd_21) rfl ef_0 (by decide) rfl kk_171 dd_X0_become_66 rfl ?_
  refine g_iconst (pc := 69) (x := 0) hK dd_X0_become_69 (by decide) ?_
  refine g_bipush (pc := 70) (x := 12) hK dd_X0_become_70 (by decide) ?_
  refine g_copyi (pc := 72) hK wa_Buyers_35 (kdm kd_67) (kdm kd_26) nl_67 nl_26 (by decide) (by decide) (by decide) (by decide) (by decide) (by decide) (by omega) (by omega) ⟨by decide, by decide⟩ (Nat.le_of_ble_eq_true rfl) dd_X0_become_72 ?_
  refine g_aloadn (pc := 75) (i := 0) (x := 21) hK dd_X0_become_75 rfl rfl ?_
  refine g_aloadn (pc := 76) (i := 1) (x := 62) hK dd_X0_become_76 rfl rfl ?_
  refine g_geti (pc := 77) (f := (0, 0)) (j := 5) hK (kdm kd_62) rfl ef_0 (by decide) rfl kk_174 nl_62 dd_X0_become_77 rfl (fun x1 ex1 rx1 => ?_)
  replace ex1 : x1 = M 62 5 := ex1
  refine g_puti (pc := 80) (f := (0, 0)) (j := 5) (ty := .int) hK (kdm kd_21) rfl ef_0 (by decide) rfl kk_174 nl_21 (by decide) dd_X0_become_80 rfl rfl rfl rfl rfl rx1 ?_
  refine g_vret (pc := 83) hK hr hlocks dd_X0_become_83 ?_
  exact g_finM hQ (by first | rfl | (subst_vars; rfl))
set_option maxHeartbeats 4000000 in
set_option maxRecDepth 100000 in
theorem c_become_62_21 {l : Launch} {M : Mem} {Pq : Option gV → Mem → Prop}  (hQ : Pq none (up (cp (cp (cp (cp (cp M 63 (M 22) 0 0 12) 64 (M 23) 0 0 12) 65 (M 24) 0 0 12) 66 (M 25) 0 0 12) 67 (M 26) 0 0 12) 62 5 (M 21 5))) : gCtr l my_X0_become mb_X0_become 2 ((none : Option Jvm.ClassFile.FieldType)) 1 [gR 62, gR 21] M Pq := by
  refine g_intro (by decide) (Nat.le_of_ble_eq_true rfl) ?_
  intro p e s m args below meth c D cy q A hK hr hlocks hw
  refine g_sub (L' := [(0, gR 62), (1, gR 21)]) [0, 1] rfl ?_
  refine g_aloadn (pc := 0) (i := 1) (x := 21) hK dd_X0_become_0 rfl rfl ?_
  refine g_getv (pc := 1) (f := (1, 1)) (j := 0) (v := gR 22) hK (kdm kd_21) rfl ef_0 (by decide) rfl kk_159 dd_X0_become_1 rfl ?_
  refine g_iconst (pc := 4) (x := 0) hK dd_X0_become_4 (by decide) ?_
  refine g_aloadn (pc := 5) (i := 0) (x := 62) hK dd_X0_become_5 rfl rfl ?_
  refine g_getv (pc := 6) (f := (1, 1)) (j := 0) (v := gR 63) hK (kdm kd_62) rfl ef_0 (by decide) rfl kk_159 dd_X0_become_6 rfl ?_
  refine g_iconst (pc := 9) (x := 0) hK dd_X0_become_9 (by decide) ?_
  refine g_bipush (pc := 10) (x := 12) hK dd_X0_become_10 (by decide) ?_
  refine g_copyi (pc := 12) hK wa_Buyers_35 (kdm kd_22) (kdm kd_63) nl_22 nl_63 (by decide) (by decide) (by decide) (by decide) (by decide) (by decide) (by omega) (by omega) ⟨by decide, by decide⟩ (Nat.le_of_ble_eq_true rfl) dd_X0_become_12 ?_
  refine g_aloadn (pc := 15) (i := 1) (x := 21) hK dd_X0_become_15 rfl rfl ?_
  refine g_getv (pc := 16) (f := (1, 2)) (j := 1) (v := gR 23) hK (kdm kd_21) rfl ef_0 (by decide) rfl kk_162 dd_X0_become_16 rfl ?_
  refine g_iconst (pc := 19) (x := 0) hK dd_X0_become_19 (by decide) ?_
  refine g_aloadn (pc := 20) (i := 0) (x := 62) hK dd_X0_become_20 rfl rfl ?_
  refine g_getv (pc := 21) (f := (1, 2)) (j := 1) (v := gR 64) hK (kdm kd_62) rfl ef_0 (by decide) rfl kk_162 dd_X0_become_21 rfl ?_
  refine g_iconst (pc := 24) (x := 0) hK dd_X0_become_24 (by decide) ?_
  refine g_bipush (pc := 25) (x := 12) hK dd_X0_become_25 (by decide) ?_
  refine g_copyi (pc := 27) hK wa_Buyers_35 (kdm kd_23) (kdm kd_64) nl_23 nl_64 (by decide) (by decide) (by decide) (by decide) (by decide) (by decide) (by omega) (by omega) ⟨by decide, by decide⟩ (Nat.le_of_ble_eq_true rfl) dd_X0_become_27 ?_
  refine g_aloadn (pc := 30) (i := 1) (x := 21) hK dd_X0_become_30 rfl rfl ?_
  refine g_getv (pc := 31) (f := (1, 3)) (j := 2) (v := gR 24) hK (kdm kd_21) rfl ef_0 (by decide) rfl kk_165 dd_X0_become_31 rfl ?_
  refine g_iconst (pc := 34) (x := 0) hK dd_X0_become_34 (by decide) ?_
  refine g_aloadn (pc := 35) (i := 0) (x := 62) hK dd_X0_become_35 rfl rfl ?_
  refine g_getv (pc := 36) (f := (1, 3)) (j := 2) (v := gR 65) hK (kdm kd_62) rfl ef_0 (by decide) rfl kk_165 dd_X0_become_36 rfl ?_
  refine g_iconst (pc := 39) (x := 0) hK dd_X0_become_39 (by decide) ?_
  refine g_bipush (pc := 40) (x := 12) hK dd_X0_become_40 (by decide) ?_
  refine g_copyi (pc := 42) hK wa_Buyers_35 (kdm kd_24) (kdm kd_65) nl_24 nl_65 (by decide) (by decide) (by decide) (by decide) (by decide) (by decide) (by omega) (by omega) ⟨by decide, by decide⟩ (Nat.le_of_ble_eq_true rfl) dd_X0_become_42 ?_
  refine g_aloadn (pc := 45) (i := 1) (x := 21) hK dd_X0_become_45 rfl rfl ?_
  refine g_getv (pc := 46) (f := (1, 4)) (j := 3) (v := gR 25) hK (kdm kd_21) rfl ef_0 (by decide) rfl kk_168 dd_X0_become_46 rfl ?_
  refine g_iconst (pc := 49) (x := 0) hK dd_X0_become_49 (by decide) ?_
  refine g_aloadn (pc := 50) (i := 0) (x := 62) hK dd_X0_become_50 rfl rfl ?_
  refine g_getv (pc := 51) (f := (1, 4)) (j := 3) (v := gR 66) hK (kdm kd_62) rfl ef_0 (by decide) rfl kk_168 dd_X0_become_51 rfl ?_
  refine g_iconst (pc := 54) (x := 0) hK dd_X0_become_54 (by decide) ?_
  refine g_bipush (pc := 55) (x := 12) hK dd_X0_become_55 (by decide) ?_
  refine g_copyi (pc := 57) hK wa_Buyers_35 (kdm kd_25) (kdm kd_66) nl_25 nl_66 (by decide) (by decide) (by decide) (by decide) (by decide) (by decide) (by omega) (by omega) ⟨by decide, by decide⟩ (Nat.le_of_ble_eq_true rfl) dd_X0_become_57 ?_
  refine g_aloadn (pc := 60) (i := 1) (x := 21) hK dd_X0_become_60 rfl rfl ?_
  refine g_getv (pc := 61) (f := (1, 5)) (j := 4) (v := gR 26) hK (kdm kd_21) rfl ef_0 (by decide) rfl kk_171 dd_X0_become_61 rfl ?_
  refine g_iconst (pc := 64) (x := 0) hK dd_X0_become_64 (by decide) ?_
  refine g_aloadn (pc := 65) (i := 0) (x := 62) hK dd_X0_become_65 rfl rfl ?_
  refine g_getv (pc := 66) (f := (1, 5)) (j := 4) (v := gR 67) hK (kdm kd_62) rfl ef_0 (by decide) rfl kk_171 dd_X0_become_66 rfl ?_
  refine g_iconst (pc := 69) (x := 0) hK dd_X0_become_69 (by decide) ?_
  refine g_bipush (pc := 70) (x := 12) hK dd_X0_become_70 (by decide) ?_
  refine g_copyi (pc := 72) hK wa_Buyers_35 (kdm kd_26) (kdm kd_67) nl_26 nl_67 (by decide) (by decide) (by decide) (by decide) (by decide) (by decide) (by omega) (by omega) ⟨by decide, by decide⟩ (Nat.le_of_ble_eq_true rfl) dd_X0_become_72 ?_
  refine g_aloadn (pc := 75) (i := 0) (x := 62) hK dd_X0_become_75 rfl rfl ?_
  refine g_aloadn (pc := 76) (i := 1) (x := 21) hK dd_X0_become_76 rfl rfl ?_
  refine g_geti (pc := 77) (f := (0, 0)) (j := 5) hK (kdm kd_21) rfl ef_0 (by decide) rfl kk_174 nl_21 dd_X0_become_77 rfl (fun x1 ex1 rx1 => ?_)
  replace ex1 : x1 = M 21 5 := ex1
  refine g_puti (pc := 80) (f := (0, 0)) (j := 5) (ty := .int) hK (kdm kd_62) rfl ef_0 (by decide) rfl kk_174 nl_62 (by decide) dd_X0_become_80 rfl rfl rfl rfl rfl rx1 ?_
  refine g_vret (pc := 83) hK hr hlocks dd_X0_become_83 ?_
  exact g_finM hQ (by first | rfl | (subst_vars; rfl))
set_option maxHeartbeats 4000000 in
set_option maxRecDepth 100000 in
theorem c_become_18_59 {l : Launch} {M : Mem} {Pq : Option gV → Mem → Prop}  (hQ : Pq none (up (cp M 19 (M 60) 0 0 30) 18 2 (M 59 2))) : gCtr l my_X3_become mb_X3_become 2 ((none : Option Jvm.ClassFile.FieldType)) 1 [gR 18, gR 59] M Pq := by
  refine g_intro (by decide) (Nat.le_of_ble_eq_true rfl) ?_
  intro p e s m args below meth c D cy q A hK hr hlocks hw
  refine g_sub (L' := [(0, gR 18), (1, gR 59)]) [0, 1] rfl ?_
  refine g_aloadn (pc := 0) (i := 1) (x := 59) hK dd_X3_become_0 rfl rfl ?_
  refine g_getv (pc := 1) (f := (1, 1)) (j := 0) (v := gR 60) hK (kdm kd_59) rfl ef_3 (by decide) rfl kk_141 dd_X3_become_1 rfl ?_
  refine g_iconst (pc := 4) (x := 0) hK dd_X3_become_4 (by decide) ?_
  refine g_aloadn (pc := 5) (i := 0) (x := 18) hK dd_X3_become_5 rfl rfl ?_
  refine g_getv (pc := 6) (f := (1, 1)) (j := 0) (v := gR 19) hK (kdm kd_18) rfl ef_3 (by decide) rfl kk_141 dd_X3_become_6 rfl ?_
  refine g_iconst (pc := 9) (x := 0) hK dd_X3_become_9 (by decide) ?_
  refine g_aloadn (pc := 10) (i := 0) (x := 18) hK dd_X3_become_10 rfl rfl ?_
  refine g_getv (pc := 11) (f := (1, 1)) (j := 0) (v := gR 19) hK (kdm kd_18) rfl ef_3 (by decide) rfl kk_141 dd_X3_become_11 rfl ?_
  refine g_alen (pc := 14) hK (kdm kd_19) rfl dd_X3_become_14 ?_
  refine g_topv (v := gI 30) rfl ?_
  refine g_copyi (pc := 15) hK wa_Laws_39 (kdm kd_60) (kdm kd_19) nl_60 nl_19 (by decide) (by decide) (by decide) (by decide) (by decide) (by decide) (by omega) (by omega) ⟨by decide, by decide⟩ (Nat.le_of_ble_eq_true rfl) dd_X3_become_15 ?_
  refine g_aloadn (pc := 18) (i := 0) (x := 18) hK dd_X3_become_18 rfl rfl ?_
  refine g_aloadn (pc := 19) (i := 1) (x := 59) hK dd_X3_become_19 rfl rfl ?_
  refine g_geti (pc := 20) (f := (0, 0)) (j := 2) hK (kdm kd_59) rfl ef_3 (by decide) rfl kk_144 nl_59 dd_X3_become_20 rfl (fun x1 ex1 rx1 => ?_)
  replace ex1 : x1 = M 59 2 := ex1
  refine g_puti (pc := 23) (f := (0, 0)) (j := 2) (ty := .int) hK (kdm kd_18) rfl ef_3 (by decide) rfl kk_144 nl_18 (by decide) dd_X3_become_23 rfl rfl rfl rfl rfl rx1 ?_
  refine g_vret (pc := 26) hK hr hlocks dd_X3_become_26 ?_
  exact g_finM hQ (by first | rfl | (subst_vars; rfl))
set_option maxHeartbeats 4000000 in
set_option maxRecDepth 100000 in
theorem c_become_59_18 {l : Launch} {M : Mem} {Pq : Option gV → Mem → Prop}  (hQ : Pq none (up (cp M 60 (M 19) 0 0 30) 59 2 (M 18 2))) : gCtr l my_X3_become mb_X3_become 2 ((none : Option Jvm.ClassFile.FieldType)) 1 [gR 59, gR 18] M Pq := by
  refine g_intro (by decide) (Nat.le_of_ble_eq_true rfl) ?_
  intro p e s m args below meth c D cy q A hK hr hlocks hw
  refine g_sub (L' := [(0, gR 59), (1, gR 18)]) [0, 1] rfl ?_
  refine g_aloadn (pc := 0) (i := 1) (x := 18) hK dd_X3_become_0 rfl rfl ?_
  refine g_getv (pc := 1) (f := (1, 1)) (j := 0) (v := gR 19) hK (kdm kd_18) rfl ef_3 (by decide) rfl kk_141 dd_X3_become_1 rfl ?_
  refine g_iconst (pc := 4) (x := 0) hK dd_X3_become_4 (by decide) ?_
  refine g_aloadn (pc := 5) (i := 0) (x := 59) hK dd_X3_become_5 rfl rfl ?_
  refine g_getv (pc := 6) (f := (1, 1)) (j := 0) (v := gR 60) hK (kdm kd_59) rfl ef_3 (by decide) rfl kk_141 dd_X3_become_6 rfl ?_
  refine g_iconst (pc := 9) (x := 0) hK dd_X3_become_9 (by decide) ?_
  refine g_aloadn (pc := 10) (i := 0) (x := 59) hK dd_X3_become_10 rfl rfl ?_
  refine g_getv (pc := 11) (f := (1, 1)) (j := 0) (v := gR 60) hK (kdm kd_59) rfl ef_3 (by decide) rfl kk_141 dd_X3_become_11 rfl ?_
  refine g_alen (pc := 14) hK (kdm kd_60) rfl dd_X3_become_14 ?_
  refine g_topv (v := gI 30) rfl ?_
  refine g_copyi (pc := 15) hK wa_Laws_39 (kdm kd_19) (kdm kd_60) nl_19 nl_60 (by decide) (by decide) (by decide) (by decide) (by decide) (by decide) (by omega) (by omega) ⟨by decide, by decide⟩ (Nat.le_of_ble_eq_true rfl) dd_X3_become_15 ?_
  refine g_aloadn (pc := 18) (i := 0) (x := 59) hK dd_X3_become_18 rfl rfl ?_
  refine g_aloadn (pc := 19) (i := 1) (x := 18) hK dd_X3_become_19 rfl rfl ?_
  refine g_geti (pc := 20) (f := (0, 0)) (j := 2) hK (kdm kd_18) rfl ef_3 (by decide) rfl kk_144 nl_18 dd_X3_become_20 rfl (fun x1 ex1 rx1 => ?_)
  replace ex1 : x1 = M 18 2 := ex1
  refine g_puti (pc := 23) (f := (0, 0)) (j := 2) (ty := .int) hK (kdm kd_59) rfl ef_3 (by decide) rfl kk_144 nl_59 (by decide) dd_X3_become_23 rfl rfl rfl rfl rfl rx1 ?_
  refine g_vret (pc := 26) hK hr hlocks dd_X3_become_26 ?_
  exact g_finM hQ (by first | rfl | (subst_vars; rfl))
set_option maxHeartbeats 4000000 in
set_option maxRecDepth 100000 in
theorem c_become_27_68 {l : Launch} {M : Mem} {Pq : Option gV → Mem → Prop}  (hQ : Pq none (up (cp (cp (cp (cp M 28 (M 69) 0 0 20) 29 (M 70) 0 0 20) 30 (M 71) 0 0 20) 31 (M 72) 0 0 20) 27 4 (M 68 4))) : gCtr l my_X8_become mb_X8_become 2 ((none : Option Jvm.ClassFile.FieldType)) 1 [gR 27, gR 68] M Pq := by
  refine g_intro (by decide) (Nat.le_of_ble_eq_true rfl) ?_
  intro p e s m args below meth c D cy q A hK hr hlocks hw
  refine g_sub (L' := [(0, gR 27), (1, gR 68)]) [0, 1] rfl ?_
  refine g_aloadn (pc := 0) (i := 1) (x := 68) hK dd_X8_become_0 rfl rfl ?_
  refine g_getv (pc := 1) (f := (1, 1)) (j := 0) (v := gR 69) hK (kdm kd_68) rfl ef_8 (by decide) rfl kk_196 dd_X8_become_1 rfl ?_
  refine g_iconst (pc := 4) (x := 0) hK dd_X8_become_4 (by decide) ?_
  refine g_aloadn (pc := 5) (i := 0) (x := 27) hK dd_X8_become_5 rfl rfl ?_
  refine g_getv (pc := 6) (f := (1, 1)) (j := 0) (v := gR 28) hK (kdm kd_27) rfl ef_8 (by decide) rfl kk_196 dd_X8_become_6 rfl ?_
  refine g_iconst (pc := 9) (x := 0) hK dd_X8_become_9 (by decide) ?_
  refine g_bipush (pc := 10) (x := 20) hK dd_X8_become_10 (by decide) ?_
  refine g_copyi (pc := 12) hK wa_Sightings_65 (kdm kd_69) (kdm kd_28) nl_69 nl_28 (by decide) (by decide) (by decide) (by decide) (by decide) (by decide) (by omega) (by omega) ⟨by decide, by decide⟩ (Nat.le_of_ble_eq_true rfl) dd_X8_become_12 ?_
  refine g_aloadn (pc := 15) (i := 1) (x := 68) hK dd_X8_become_15 rfl rfl ?_
  refine g_getv (pc := 16) (f := (1, 2)) (j := 1) (v := gR 70) hK (kdm kd_68) rfl ef_8 (by decide) rfl kk_197 dd_X8_become_16 rfl ?_
  refine g_iconst (pc := 19) (x := 0) hK dd_X8_become_19 (by decide) ?_
  refine g_aloadn (pc := 20) (i := 0) (x := 27) hK dd_X8_become_20 rfl rfl ?_
  refine g_getv (pc := 21) (f := (1, 2)) (j := 1) (v := gR 29) hK (kdm kd_27) rfl ef_8 (by decide) rfl kk_197 dd_X8_become_21 rfl ?_
  refine g_iconst (pc := 24) (x := 0) hK dd_X8_become_24 (by decide) ?_
  refine g_bipush (pc := 25) (x := 20) hK dd_X8_become_25 (by decide) ?_
  refine g_copyi (pc := 27) hK wa_Sightings_65 (kdm kd_70) (kdm kd_29) nl_70 nl_29 (by decide) (by decide) (by decide) (by decide) (by decide) (by decide) (by omega) (by omega) ⟨by decide, by decide⟩ (Nat.le_of_ble_eq_true rfl) dd_X8_become_27 ?_
  refine g_aloadn (pc := 30) (i := 1) (x := 68) hK dd_X8_become_30 rfl rfl ?_
  refine g_getv (pc := 31) (f := (1, 3)) (j := 2) (v := gR 71) hK (kdm kd_68) rfl ef_8 (by decide) rfl kk_198 dd_X8_become_31 rfl ?_
  refine g_iconst (pc := 34) (x := 0) hK dd_X8_become_34 (by decide) ?_
  refine g_aloadn (pc := 35) (i := 0) (x := 27) hK dd_X8_become_35 rfl rfl ?_
  refine g_getv (pc := 36) (f := (1, 3)) (j := 2) (v := gR 30) hK (kdm kd_27) rfl ef_8 (by decide) rfl kk_198 dd_X8_become_36 rfl ?_
  refine g_iconst (pc := 39) (x := 0) hK dd_X8_become_39 (by decide) ?_
  refine g_bipush (pc := 40) (x := 20) hK dd_X8_become_40 (by decide) ?_
  refine g_copyi (pc := 42) hK wa_Sightings_65 (kdm kd_71) (kdm kd_30) nl_71 nl_30 (by decide) (by decide) (by decide) (by decide) (by decide) (by decide) (by omega) (by omega) ⟨by decide, by decide⟩ (Nat.le_of_ble_eq_true rfl) dd_X8_become_42 ?_
  refine g_aloadn (pc := 45) (i := 1) (x := 68) hK dd_X8_become_45 rfl rfl ?_
  refine g_getv (pc := 46) (f := (1, 4)) (j := 3) (v := gR 72) hK (kdm kd_68) rfl ef_8 (by decide) rfl kk_199 dd_X8_become_46 rfl ?_
  refine g_iconst (pc := 49) (x := 0) hK dd_X8_become_49 (by decide) ?_
  refine g_aloadn (pc := 50) (i := 0) (x := 27) hK dd_X8_become_50 rfl rfl ?_
  refine g_getv (pc := 51) (f := (1, 4)) (j := 3) (v := gR 31) hK (kdm kd_27) rfl ef_8 (by decide) rfl kk_199 dd_X8_become_51 rfl ?_
  refine g_iconst (pc := 54) (x := 0) hK dd_X8_become_54 (by decide) ?_
  refine g_bipush (pc := 55) (x := 20) hK dd_X8_become_55 (by decide) ?_
  refine g_copyi (pc := 57) hK wa_Sightings_65 (kdm kd_72) (kdm kd_31) nl_72 nl_31 (by decide) (by decide) (by decide) (by decide) (by decide) (by decide) (by omega) (by omega) ⟨by decide, by decide⟩ (Nat.le_of_ble_eq_true rfl) dd_X8_become_57 ?_
  refine g_aloadn (pc := 60) (i := 0) (x := 27) hK dd_X8_become_60 rfl rfl ?_
  refine g_aloadn (pc := 61) (i := 1) (x := 68) hK dd_X8_become_61 rfl rfl ?_
  refine g_geti (pc := 62) (f := (0, 0)) (j := 4) hK (kdm kd_68) rfl ef_8 (by decide) rfl kk_200 nl_68 dd_X8_become_62 rfl (fun x1 ex1 rx1 => ?_)
  replace ex1 : x1 = M 68 4 := ex1
  refine g_puti (pc := 65) (f := (0, 0)) (j := 4) (ty := .int) hK (kdm kd_27) rfl ef_8 (by decide) rfl kk_200 nl_27 (by decide) dd_X8_become_65 rfl rfl rfl rfl rfl rx1 ?_
  refine g_vret (pc := 68) hK hr hlocks dd_X8_become_68 ?_
  exact g_finM hQ (by first | rfl | (subst_vars; rfl))
set_option maxHeartbeats 4000000 in
set_option maxRecDepth 100000 in
theorem c_become_68_27 {l : Launch} {M : Mem} {Pq : Option gV → Mem → Prop}  (hQ : Pq none (up (cp (cp (cp (cp M 69 (M 28) 0 0 20) 70 (M 29) 0 0 20) 71 (M 30) 0 0 20) 72 (M 31) 0 0 20) 68 4 (M 27 4))) : gCtr l my_X8_become mb_X8_become 2 ((none : Option Jvm.ClassFile.FieldType)) 1 [gR 68, gR 27] M Pq := by
  refine g_intro (by decide) (Nat.le_of_ble_eq_true rfl) ?_
  intro p e s m args below meth c D cy q A hK hr hlocks hw
  refine g_sub (L' := [(0, gR 68), (1, gR 27)]) [0, 1] rfl ?_
  refine g_aloadn (pc := 0) (i := 1) (x := 27) hK dd_X8_become_0 rfl rfl ?_
  refine g_getv (pc := 1) (f := (1, 1)) (j := 0) (v := gR 28) hK (kdm kd_27) rfl ef_8 (by decide) rfl kk_196 dd_X8_become_1 rfl ?_
  refine g_iconst (pc := 4) (x := 0) hK dd_X8_become_4 (by decide) ?_
  refine g_aloadn (pc := 5) (i := 0) (x := 68) hK dd_X8_become_5 rfl rfl ?_
  refine g_getv (pc := 6) (f := (1, 1)) (j := 0) (v := gR 69) hK (kdm kd_68) rfl ef_8 (by decide) rfl kk_196 dd_X8_become_6 rfl ?_
  refine g_iconst (pc := 9) (x := 0) hK dd_X8_become_9 (by decide) ?_
  refine g_bipush (pc := 10) (x := 20) hK dd_X8_become_10 (by decide) ?_
  refine g_copyi (pc := 12) hK wa_Sightings_65 (kdm kd_28) (kdm kd_69) nl_28 nl_69 (by decide) (by decide) (by decide) (by decide) (by decide) (by decide) (by omega) (by omega) ⟨by decide, by decide⟩ (Nat.le_of_ble_eq_true rfl) dd_X8_become_12 ?_
  refine g_aloadn (pc := 15) (i := 1) (x := 27) hK dd_X8_become_15 rfl rfl ?_
  refine g_getv (pc := 16) (f := (1, 2)) (j := 1) (v := gR 29) hK (kdm kd_27) rfl ef_8 (by decide) rfl kk_197 dd_X8_become_16 rfl ?_
  refine g_iconst (pc := 19) (x := 0) hK dd_X8_become_19 (by decide) ?_
  refine g_aloadn (pc := 20) (i := 0) (x := 68) hK dd_X8_become_20 rfl rfl ?_
  refine g_getv (pc := 21) (f := (1, 2)) (j := 1) (v := gR 70) hK (kdm kd_68) rfl ef_8 (by decide) rfl kk_197 dd_X8_become_21 rfl ?_
  refine g_iconst (pc := 24) (x := 0) hK dd_X8_become_24 (by decide) ?_
  refine g_bipush (pc := 25) (x := 20) hK dd_X8_become_25 (by decide) ?_
  refine g_copyi (pc := 27) hK wa_Sightings_65 (kdm kd_29) (kdm kd_70) nl_29 nl_70 (by decide) (by decide) (by decide) (by decide) (by decide) (by decide) (by omega) (by omega) ⟨by decide, by decide⟩ (Nat.le_of_ble_eq_true rfl) dd_X8_become_27 ?_
  refine g_aloadn (pc := 30) (i := 1) (x := 27) hK dd_X8_become_30 rfl rfl ?_
  refine g_getv (pc := 31) (f := (1, 3)) (j := 2) (v := gR 30) hK (kdm kd_27) rfl ef_8 (by decide) rfl kk_198 dd_X8_become_31 rfl ?_
  refine g_iconst (pc := 34) (x := 0) hK dd_X8_become_34 (by decide) ?_
  refine g_aloadn (pc := 35) (i := 0) (x := 68) hK dd_X8_become_35 rfl rfl ?_
  refine g_getv (pc := 36) (f := (1, 3)) (j := 2) (v := gR 71) hK (kdm kd_68) rfl ef_8 (by decide) rfl kk_198 dd_X8_become_36 rfl ?_
  refine g_iconst (pc := 39) (x := 0) hK dd_X8_become_39 (by decide) ?_
  refine g_bipush (pc := 40) (x := 20) hK dd_X8_become_40 (by decide) ?_
  refine g_copyi (pc := 42) hK wa_Sightings_65 (kdm kd_30) (kdm kd_71) nl_30 nl_71 (by decide) (by decide) (by decide) (by decide) (by decide) (by decide) (by omega) (by omega) ⟨by decide, by decide⟩ (Nat.le_of_ble_eq_true rfl) dd_X8_become_42 ?_
  refine g_aloadn (pc := 45) (i := 1) (x := 27) hK dd_X8_become_45 rfl rfl ?_
  refine g_getv (pc := 46) (f := (1, 4)) (j := 3) (v := gR 31) hK (kdm kd_27) rfl ef_8 (by decide) rfl kk_199 dd_X8_become_46 rfl ?_
  refine g_iconst (pc := 49) (x := 0) hK dd_X8_become_49 (by decide) ?_
  refine g_aloadn (pc := 50) (i := 0) (x := 68) hK dd_X8_become_50 rfl rfl ?_
  refine g_getv (pc := 51) (f := (1, 4)) (j := 3) (v := gR 72) hK (kdm kd_68) rfl ef_8 (by decide) rfl kk_199 dd_X8_become_51 rfl ?_
  refine g_iconst (pc := 54) (x := 0) hK dd_X8_become_54 (by decide) ?_
  refine g_bipush (pc := 55) (x := 20) hK dd_X8_become_55 (by decide) ?_
  refine g_copyi (pc := 57) hK wa_Sightings_65 (kdm kd_31) (kdm kd_72) nl_31 nl_72 (by decide) (by decide) (by decide) (by decide) (by decide) (by decide) (by omega) (by omega) ⟨by decide, by decide⟩ (Nat.le_of_ble_eq_true rfl) dd_X8_become_57 ?_
  refine g_aloadn (pc := 60) (i := 0) (x := 68) hK dd_X8_become_60 rfl rfl ?_
  refine g_aloadn (pc := 61) (i := 1) (x := 27) hK dd_X8_become_61 rfl rfl ?_
  refine g_geti (pc := 62) (f := (0, 0)) (j := 4) hK (kdm kd_27) rfl ef_8 (by decide) rfl kk_200 nl_27 dd_X8_become_62 rfl (fun x1 ex1 rx1 => ?_)
  replace ex1 : x1 = M 27 4 := ex1
  refine g_puti (pc := 65) (f := (0, 0)) (j := 4) (ty := .int) hK (kdm kd_68) rfl ef_8 (by decide) rfl kk_200 nl_68 (by decide) dd_X8_become_65 rfl rfl rfl rfl rfl rx1 ?_
  refine g_vret (pc := 68) hK hr hlocks dd_X8_become_68 ?_
  exact g_finM hQ (by first | rfl | (subst_vars; rfl))
set_option maxHeartbeats 4000000 in
set_option maxRecDepth 100000 in
theorem c_become_35_76 {l : Launch} {M : Mem} {Pq : Option gV → Mem → Prop}  (hQ : Pq none (up (cp (cp (cp M 36 (M 77) 0 0 10) 37 (M 78) 0 0 10) 38 (M 79) 0 0 16) 35 2 (M 76 2))) : gCtr l my_X6_become mb_X6_become 2 ((none : Option Jvm.ClassFile.FieldType)) 1 [gR 35, gR 76] M Pq := by
  refine g_intro (by decide) (Nat.le_of_ble_eq_true rfl) ?_
  intro p e s m args below meth c D cy q A hK hr hlocks hw
  refine g_sub (L' := [(0, gR 35), (1, gR 76)]) [0, 1] rfl ?_
  refine g_aloadn (pc := 0) (i := 1) (x := 76) hK dd_X6_become_0 rfl rfl ?_
  refine g_getv (pc := 1) (f := (1, 1)) (j := 0) (v := gR 77) hK (kdm kd_76) rfl ef_6 (by decide) rfl kk_228 dd_X6_become_1 rfl ?_
  refine g_iconst (pc := 4) (x := 0) hK dd_X6_become_4 (by decide) ?_
  refine g_aloadn (pc := 5) (i := 0) (x := 35) hK dd_X6_become_5 rfl rfl ?_
  refine g_getv (pc := 6) (f := (1, 1)) (j := 0) (v := gR 36) hK (kdm kd_35) rfl ef_6 (by decide) rfl kk_228 dd_X6_become_6 rfl ?_
  refine g_iconst (pc := 9) (x := 0) hK dd_X6_become_9 (by decide) ?_
  refine g_bipush (pc := 10) (x := 10) hK dd_X6_become_10 (by decide) ?_
  refine g_copyi (pc := 12) hK wa_Secrets_61 (kdm kd_77) (kdm kd_36) nl_77 nl_36 (by decide) (by decide) (by decide) (by decide) (by decide) (by decide) (by omega) (by omega) ⟨by decide, by decide⟩ (Nat.le_of_ble_eq_true rfl) dd_X6_become_12 ?_
  refine g_aloadn (pc := 15) (i := 1) (x := 76) hK dd_X6_become_15 rfl rfl ?_
  refine g_getv (pc := 16) (f := (1, 2)) (j := 1) (v := gR 78) hK (kdm kd_76) rfl ef_6 (by decide) rfl kk_229 dd_X6_become_16 rfl ?_
  refine g_iconst (pc := 19) (x := 0) hK dd_X6_become_19 (by decide) ?_
  refine g_aloadn (pc := 20) (i := 0) (x := 35) hK dd_X6_become_20 rfl rfl ?_
  refine g_getv (pc := 21) (f := (1, 2)) (j := 1) (v := gR 37) hK (kdm kd_35) rfl ef_6 (by decide) rfl kk_229 dd_X6_become_21 rfl ?_
  refine g_iconst (pc := 24) (x := 0) hK dd_X6_become_24 (by decide) ?_
  refine g_bipush (pc := 25) (x := 10) hK dd_X6_become_25 (by decide) ?_
  refine g_copyi (pc := 27) hK wa_Secrets_61 (kdm kd_78) (kdm kd_37) nl_78 nl_37 (by decide) (by decide) (by decide) (by decide) (by decide) (by decide) (by omega) (by omega) ⟨by decide, by decide⟩ (Nat.le_of_ble_eq_true rfl) dd_X6_become_27 ?_
  refine g_aloadn (pc := 30) (i := 1) (x := 76) hK dd_X6_become_30 rfl rfl ?_
  refine g_getv (pc := 31) (f := (1, 3)) (j := 3) (v := gR 79) hK (kdm kd_76) rfl ef_6 (by decide) rfl kk_232 dd_X6_become_31 rfl ?_
  refine g_iconst (pc := 34) (x := 0) hK dd_X6_become_34 (by decide) ?_
  refine g_aloadn (pc := 35) (i := 0) (x := 35) hK dd_X6_become_35 rfl rfl ?_
  refine g_getv (pc := 36) (f := (1, 3)) (j := 3) (v := gR 38) hK (kdm kd_35) rfl ef_6 (by decide) rfl kk_232 dd_X6_become_36 rfl ?_
  refine g_iconst (pc := 39) (x := 0) hK dd_X6_become_39 (by decide) ?_
  refine g_bipush (pc := 40) (x := 16) hK dd_X6_become_40 (by decide) ?_
  refine g_copyi (pc := 42) hK wa_Secrets_61 (kdm kd_79) (kdm kd_38) nl_79 nl_38 (by decide) (by decide) (by decide) (by decide) (by decide) (by decide) (by omega) (by omega) ⟨by decide, by decide⟩ (Nat.le_of_ble_eq_true rfl) dd_X6_become_42 ?_
  refine g_aloadn (pc := 45) (i := 0) (x := 35) hK dd_X6_become_45 rfl rfl ?_
  refine g_aloadn (pc := 46) (i := 1) (x := 76) hK dd_X6_become_46 rfl rfl ?_
  refine g_geti (pc := 47) (f := (0, 0)) (j := 2) hK (kdm kd_76) rfl ef_6 (by decide) rfl kk_230 nl_76 dd_X6_become_47 rfl (fun x1 ex1 rx1 => ?_)
  replace ex1 : x1 = M 76 2 := ex1
  refine g_puti (pc := 50) (f := (0, 0)) (j := 2) (ty := .int) hK (kdm kd_35) rfl ef_6 (by decide) rfl kk_230 nl_35 (by decide) dd_X6_become_50 rfl rfl rfl rfl rfl rx1 ?_
  refine g_vret (pc := 53) hK hr hlocks dd_X6_become_53 ?_
  exact g_finM hQ (by first | rfl | (subst_vars; rfl))
set_option maxHeartbeats 4000000 in
set_option maxRecDepth 100000 in
theorem c_become_76_35 {l : Launch} {M : Mem} {Pq : Option gV → Mem → Prop}  (hQ : Pq none (up (cp (cp (cp M 77 (M 36) 0 0 10) 78 (M 37) 0 0 10) 79 (M 38) 0 0 16) 76 2 (M 35 2))) : gCtr l my_X6_become mb_X6_become 2 ((none : Option Jvm.ClassFile.FieldType)) 1 [gR 76, gR 35] M Pq := by
  refine g_intro (by decide) (Nat.le_of_ble_eq_true rfl) ?_
  intro p e s m args below meth c D cy q A hK hr hlocks hw
  refine g_sub (L' := [(0, gR 76), (1, gR 35)]) [0, 1] rfl ?_
  refine g_aloadn (pc := 0) (i := 1) (x := 35) hK dd_X6_become_0 rfl rfl ?_
  refine g_getv (pc := 1) (f := (1, 1)) (j := 0) (v := gR 36) hK (kdm kd_35) rfl ef_6 (by decide) rfl kk_228 dd_X6_become_1 rfl ?_
  refine g_iconst (pc := 4) (x := 0) hK dd_X6_become_4 (by decide) ?_
  refine g_aloadn (pc := 5) (i := 0) (x := 76) hK dd_X6_become_5 rfl rfl ?_
  refine g_getv (pc := 6) (f := (1, 1)) (j := 0) (v := gR 77) hK (kdm kd_76) rfl ef_6 (by decide) rfl kk_228 dd_X6_become_6 rfl ?_
  refine g_iconst (pc := 9) (x := 0) hK dd_X6_become_9 (by decide) ?_
  refine g_bipush (pc := 10) (x := 10) hK dd_X6_become_10 (by decide) ?_
  refine g_copyi (pc := 12) hK wa_Secrets_61 (kdm kd_36) (kdm kd_77) nl_36 nl_77 (by decide) (by decide) (by decide) (by decide) (by decide) (by decide) (by omega) (by omega) ⟨by decide, by decide⟩ (Nat.le_of_ble_eq_true rfl) dd_X6_become_12 ?_
  refine g_aloadn (pc := 15) (i := 1) (x := 35) hK dd_X6_become_15 rfl rfl ?_
  refine g_getv (pc := 16) (f := (1, 2)) (j := 1) (v := gR 37) hK (kdm kd_35) rfl ef_6 (by decide) rfl kk_229 dd_X6_become_16 rfl ?_
  refine g_iconst (pc := 19) (x := 0) hK dd_X6_become_19 (by decide) ?_
  refine g_aloadn (pc := 20) (i := 0) (x := 76) hK dd_X6_become_20 rfl rfl ?_
  refine g_getv (pc := 21) (f := (1, 2)) (j := 1) (v := gR 78) hK (kdm kd_76) rfl ef_6 (by decide) rfl kk_229 dd_X6_become_21 rfl ?_
  refine g_iconst (pc := 24) (x := 0) hK dd_X6_become_24 (by decide) ?_
  refine g_bipush (pc := 25) (x := 10) hK dd_X6_become_25 (by decide) ?_
  refine g_copyi (pc := 27) hK wa_Secrets_61 (kdm kd_37) (kdm kd_78) nl_37 nl_78 (by decide) (by decide) (by decide) (by decide) (by decide) (by decide) (by omega) (by omega) ⟨by decide, by decide⟩ (Nat.le_of_ble_eq_true rfl) dd_X6_become_27 ?_
  refine g_aloadn (pc := 30) (i := 1) (x := 35) hK dd_X6_become_30 rfl rfl ?_
  refine g_getv (pc := 31) (f := (1, 3)) (j := 3) (v := gR 38) hK (kdm kd_35) rfl ef_6 (by decide) rfl kk_232 dd_X6_become_31 rfl ?_
  refine g_iconst (pc := 34) (x := 0) hK dd_X6_become_34 (by decide) ?_
  refine g_aloadn (pc := 35) (i := 0) (x := 76) hK dd_X6_become_35 rfl rfl ?_
  refine g_getv (pc := 36) (f := (1, 3)) (j := 3) (v := gR 79) hK (kdm kd_76) rfl ef_6 (by decide) rfl kk_232 dd_X6_become_36 rfl ?_
  refine g_iconst (pc := 39) (x := 0) hK dd_X6_become_39 (by decide) ?_
  refine g_bipush (pc := 40) (x := 16) hK dd_X6_become_40 (by decide) ?_
  refine g_copyi (pc := 42) hK wa_Secrets_61 (kdm kd_38) (kdm kd_79) nl_38 nl_79 (by decide) (by decide) (by decide) (by decide) (by decide) (by decide) (by omega) (by omega) ⟨by decide, by decide⟩ (Nat.le_of_ble_eq_true rfl) dd_X6_become_42 ?_
  refine g_aloadn (pc := 45) (i := 0) (x := 76) hK dd_X6_become_45 rfl rfl ?_
  refine g_aloadn (pc := 46) (i := 1) (x := 35) hK dd_X6_become_46 rfl rfl ?_
  refine g_geti (pc := 47) (f := (0, 0)) (j := 2) hK (kdm kd_35) rfl ef_6 (by decide) rfl kk_230 nl_35 dd_X6_become_47 rfl (fun x1 ex1 rx1 => ?_)
  replace ex1 : x1 = M 35 2 := ex1
  refine g_puti (pc := 50) (f := (0, 0)) (j := 2) (ty := .int) hK (kdm kd_76) rfl ef_6 (by decide) rfl kk_230 nl_76 (by decide) dd_X6_become_50 rfl rfl rfl rfl rfl rx1 ?_
  refine g_vret (pc := 53) hK hr hlocks dd_X6_become_53 ?_
  exact g_finM hQ (by first | rfl | (subst_vars; rfl))
set_option maxHeartbeats 4000000 in
set_option maxRecDepth 100000 in
theorem c_become_6_47 {l : Launch} {M : Mem} {Pq : Option gV → Mem → Prop}  (hQ : Pq none (up (cp (cp (cp (cp (cp (cp M 7 (M 48) 0 0 30) 8 (M 49) 0 0 30) 9 (M 50) 0 0 30) 10 (M 51) 0 0 30) 11 (M 52) 0 0 30) 12 (M 53) 0 0 30) 6 6 (M 47 6))) : gCtr l my_X10_become mb_X10_become 2 ((none : Option Jvm.ClassFile.FieldType)) 1 [gR 6, gR 47] M Pq := by
  refine g_intro (by decide) (Nat.le_of_ble_eq_true rfl) ?_
  intro p e s m args below meth c D cy q A hK hr hlocks hw
  refine g_sub (L' := [(0, gR 6), (1, gR 47)]) [0, 1] rfl ?_
  refine g_aloadn (pc := 0) (i := 1) (x := 47) hK dd_X10_become_0 rfl rfl ?_
  refine g_getv (pc := 1) (f := (1, 1)) (j := 0) (v := gR 48) hK (kdm kd_47) rfl ef_10 (by decide) rfl kk_66 dd_X10_become_1 rfl ?_
  refine g_iconst (pc := 4) (x := 0) hK dd_X10_become_4 (by decide) ?_
  refine g_aloadn (pc := 5) (i := 0) (x := 6) hK dd_X10_become_5 rfl rfl ?_
  refine g_getv (pc := 6) (f := (1, 1)) (j := 0) (v := gR 7) hK (kdm kd_6) rfl ef_10 (by decide) rfl kk_66 dd_X10_become_6 rfl ?_
  refine g_iconst (pc := 9) (x := 0) hK dd_X10_become_9 (by decide) ?_
  refine g_bipush (pc := 10) (x := 30) hK dd_X10_become_10 (by decide) ?_
  refine g_copyi (pc := 12) hK wa_Things_98 (kdm kd_48) (kdm kd_7) nl_48 nl_7 (by decide) (by decide) (by decide) (by decide) (by decide) (by decide) (by omega) (by omega) ⟨by decide, by decide⟩ (Nat.le_of_ble_eq_true rfl) dd_X10_become_12 ?_
  refine g_aloadn (pc := 15) (i := 1) (x := 47) hK dd_X10_become_15 rfl rfl ?_
  refine g_getv (pc := 16) (f := (1, 2)) (j := 1) (v := gR 49) hK (kdm kd_47) rfl ef_10 (by decide) rfl kk_70 dd_X10_become_16 rfl ?_
  refine g_iconst (pc := 19) (x := 0) hK dd_X10_become_19 (by decide) ?_
  refine g_aloadn (pc := 20) (i := 0) (x := 6) hK dd_X10_become_20 rfl rfl ?_
  refine g_getv (pc := 21) (f := (1, 2)) (j := 1) (v := gR 8) hK (kdm kd_6) rfl ef_10 (by decide) rfl kk_70 dd_X10_become_21 rfl ?_
  refine g_iconst (pc := 24) (x := 0) hK dd_X10_become_24 (by decide) ?_
  refine g_bipush (pc := 25) (x := 30) hK dd_X10_become_25 (by decide) ?_
  refine g_copyi (pc := 27) hK wa_Things_98 (kdm kd_49) (kdm kd_8) nl_49 nl_8 (by decide) (by decide) (by decide) (by decide) (by decide) (by decide) (by omega) (by omega) ⟨by decide, by decide⟩ (Nat.le_of_ble_eq_true rfl) dd_X10_become_27 ?_
  refine g_aloadn (pc := 30) (i := 1) (x := 47) hK dd_X10_become_30 rfl rfl ?_
  refine g_getv (pc := 31) (f := (1, 3)) (j := 2) (v := gR 50) hK (kdm kd_47) rfl ef_10 (by decide) rfl kk_72 dd_X10_become_31 rfl ?_
  refine g_iconst (pc := 34) (x := 0) hK dd_X10_become_34 (by decide) ?_
  refine g_aloadn (pc := 35) (i := 0) (x := 6) hK dd_X10_become_35 rfl rfl ?_
  refine g_getv (pc := 36) (f := (1, 3)) (j := 2) (v := gR 9) hK (kdm kd_6) rfl ef_10 (by decide) rfl kk_72 dd_X10_become_36 rfl ?_
  refine g_iconst (pc := 39) (x := 0) hK dd_X10_become_39 (by decide) ?_
  refine g_bipush (pc := 40) (x := 30) hK dd_X10_become_40 (by decide) ?_
  refine g_copyi (pc := 42) hK wa_Things_98 (kdm kd_50) (kdm kd_9) nl_50 nl_9 (by decide) (by decide) (by decide) (by decide) (by decide) (by decide) (by omega) (by omega) ⟨by decide, by decide⟩ (Nat.le_of_ble_eq_true rfl) dd_X10_become_42 ?_
  refine g_aloadn (pc := 45) (i := 1) (x := 47) hK dd_X10_become_45 rfl rfl ?_
  refine g_getv (pc := 46) (f := (1, 4)) (j := 3) (v := gR 51) hK (kdm kd_47) rfl ef_10 (by decide) rfl kk_74 dd_X10_become_46 rfl ?_
  refine g_iconst (pc := 49) (x := 0) hK dd_X10_become_49 (by decide) ?_
  refine g_aloadn (pc := 50) (i := 0) (x := 6) hK dd_X10_become_50 rfl rfl ?_
  refine g_getv (pc := 51) (f := (1, 4)) (j := 3) (v := gR 10) hK (kdm kd_6) rfl ef_10 (by decide) rfl kk_74 dd_X10_become_51 rfl ?_
  refine g_iconst (pc := 54) (x := 0) hK dd_X10_become_54 (by decide) ?_
  refine g_bipush (pc := 55) (x := 30) hK dd_X10_become_55 (by decide) ?_
  refine g_copyi (pc := 57) hK wa_Things_98 (kdm kd_51) (kdm kd_10) nl_51 nl_10 (by decide) (by decide) (by decide) (by decide) (by decide) (by decide) (by omega) (by omega) ⟨by decide, by decide⟩ (Nat.le_of_ble_eq_true rfl) dd_X10_become_57 ?_
  refine g_aloadn (pc := 60) (i := 1) (x := 47) hK dd_X10_become_60 rfl rfl ?_
  refine g_getv (pc := 61) (f := (1, 5)) (j := 4) (v := gR 52) hK (kdm kd_47) rfl ef_10 (by decide) rfl kk_79 dd_X10_become_61 rfl ?_
  refine g_iconst (pc := 64) (x := 0) hK dd_X10_become_64 (by decide) ?_
  refine g_aloadn (pc := 65) (i := 0) (x := 6) hK dd_X10_become_65 rfl rfl ?_
  refine g_getv (pc := 66) (f := (1, 5)) (j := 4) (v := gR 11) hK (kdm kd_6) rfl ef_10 (by decide) rfl kk_79 dd_X10_become_66 rfl ?_
  refine g_iconst (pc := 69) (x := 0) hK dd_X10_become_69 (by decide) ?_
  refine g_bipush (pc := 70) (x := 30) hK dd_X10_become_70 (by decide) ?_
  refine g_copyi (pc := 72) hK wa_Things_98 (kdm kd_52) (kdm kd_11) nl_52 nl_11 (by decide) (by decide) (by decide) (by decide) (by decide) (by decide) (by omega) (by omega) ⟨by decide, by decide⟩ (Nat.le_of_ble_eq_true rfl) dd_X10_become_72 ?_
  refine g_aloadn (pc := 75) (i := 1) (x := 47) hK dd_X10_become_75 rfl rfl ?_
  refine g_getv (pc := 76) (f := (1, 6)) (j := 5) (v := gR 53) hK (kdm kd_47) rfl ef_10 (by decide) rfl kk_82 dd_X10_become_76 rfl ?_
  refine g_iconst (pc := 79) (x := 0) hK dd_X10_become_79 (by decide) ?_
  refine g_aloadn (pc := 80) (i := 0) (x := 6) hK dd_X10_become_80 rfl rfl ?_
  refine g_getv (pc := 81) (f := (1, 6)) (j := 5) (v := gR 12) hK (kdm kd_6) rfl ef_10 (by decide) rfl kk_82 dd_X10_become_81 rfl ?_
  refine g_iconst (pc := 84) (x := 0) hK dd_X10_become_84 (by decide) ?_
  refine g_bipush (pc := 85) (x := 30) hK dd_X10_become_85 (by decide) ?_
  refine g_copyi (pc := 87) hK wa_Things_98 (kdm kd_53) (kdm kd_12) nl_53 nl_12 (by decide) (by decide) (by decide) (by decide) (by decide) (by decide) (by omega) (by omega) ⟨by decide, by decide⟩ (Nat.le_of_ble_eq_true rfl) dd_X10_become_87 ?_
  refine g_aloadn (pc := 90) (i := 0) (x := 6) hK dd_X10_become_90 rfl rfl ?_
  refine g_aloadn (pc := 91) (i := 1) (x := 47) hK dd_X10_become_91 rfl rfl ?_
  refine g_geti (pc := 92) (f := (0, 0)) (j := 6) hK (kdm kd_47) rfl ef_10 (by decide) rfl kk_86 nl_47 dd_X10_become_92 rfl (fun x1 ex1 rx1 => ?_)
  replace ex1 : x1 = M 47 6 := ex1
  refine g_puti (pc := 95) (f := (0, 0)) (j := 6) (ty := .int) hK (kdm kd_6) rfl ef_10 (by decide) rfl kk_86 nl_6 (by decide) dd_X10_become_95 rfl rfl rfl rfl rfl rx1 ?_
  refine g_vret (pc := 98) hK hr hlocks dd_X10_become_98 ?_
  exact g_finM hQ (by first | rfl | (subst_vars; rfl))
set_option maxHeartbeats 4000000 in
set_option maxRecDepth 100000 in
theorem c_become_47_6 {l : Launch} {M : Mem} {Pq : Option gV → Mem → Prop}  (hQ : Pq none (up (cp (cp (cp (cp (cp (cp M 48 (M 7) 0 0 30) 49 (M 8) 0 0 30) 50 (M 9) 0 0 30) 51 (M 10) 0 0 30) 52 (M 11) 0 0 30) 53 (M 12) 0 0 30) 47 6 (M 6 6))) : gCtr l my_X10_become mb_X10_become 2 ((none : Option Jvm.ClassFile.FieldType)) 1 [gR 47, gR 6] M Pq := by
  refine g_intro (by decide) (Nat.le_of_ble_eq_true rfl) ?_
  intro p e s m args below meth c D cy q A hK hr hlocks hw
  refine g_sub (L' := [(0, gR 47), (1, gR 6)]) [0, 1] rfl ?_
  refine g_aloadn (pc := 0) (i := 1) (x := 6) hK dd_X10_become_0 rfl rfl ?_
  refine g_getv (pc := 1) (f := (1, 1)) (j := 0) (v := gR 7) hK (kdm kd_6) rfl ef_10 (by decide) rfl kk_66 dd_X10_become_1 rfl ?_
  refine g_iconst (pc := 4) (x := 0) hK dd_X10_become_4 (by decide) ?_
  refine g_aloadn (pc := 5) (i := 0) (x := 47) hK dd_X10_become_5 rfl rfl ?_
  refine g_getv (pc := 6) (f := (1, 1)) (j := 0) (v := gR 48) hK (kdm kd_47) rfl ef_10 (by decide) rfl kk_66 dd_X10_become_6 rfl ?_
  refine g_iconst (pc := 9) (x := 0) hK dd_X10_become_9 (by decide) ?_
  refine g_bipush (pc := 10) (x := 30) hK dd_X10_become_10 (by decide) ?_
  refine g_copyi (pc := 12) hK wa_Things_98 (kdm kd_7) (kdm kd_48) nl_7 nl_48 (by decide) (by decide) (by decide) (by decide) (by decide) (by decide) (by omega) (by omega) ⟨by decide, by decide⟩ (Nat.le_of_ble_eq_true rfl) dd_X10_become_12 ?_
  refine g_aloadn (pc := 15) (i := 1) (x := 6) hK dd_X10_become_15 rfl rfl ?_
  refine g_getv (pc := 16) (f := (1, 2)) (j := 1) (v := gR 8) hK (kdm kd_6) rfl ef_10 (by decide) rfl kk_70 dd_X10_become_16 rfl ?_
  refine g_iconst (pc := 19) (x := 0) hK dd_X10_become_19 (by decide) ?_
  refine g_aloadn (pc := 20) (i := 0) (x := 47) hK dd_X10_become_20 rfl rfl ?_
  refine g_getv (pc := 21) (f := (1, 2)) (j := 1) (v := gR 49) hK (kdm kd_47) rfl ef_10 (by decide) rfl kk_70 dd_X10_become_21 rfl ?_
  refine g_iconst (pc := 24) (x := 0) hK dd_X10_become_24 (by decide) ?_
  refine g_bipush (pc := 25) (x := 30) hK dd_X10_become_25 (by decide) ?_
  refine g_copyi (pc := 27) hK wa_Things_98 (kdm kd_8) (kdm kd_49) nl_8 nl_49 (by decide) (by decide) (by decide) (by decide) (by decide) (by decide) (by omega) (by omega) ⟨by decide, by decide⟩ (Nat.le_of_ble_eq_true rfl) dd_X10_become_27 ?_
  refine g_aloadn (pc := 30) (i := 1) (x := 6) hK dd_X10_become_30 rfl rfl ?_
  refine g_getv (pc := 31) (f := (1, 3)) (j := 2) (v := gR 9) hK (kdm kd_6) rfl ef_10 (by decide) rfl kk_72 dd_X10_become_31 rfl ?_
  refine g_iconst (pc := 34) (x := 0) hK dd_X10_become_34 (by decide) ?_
  refine g_aloadn (pc := 35) (i := 0) (x := 47) hK dd_X10_become_35 rfl rfl ?_
  refine g_getv (pc := 36) (f := (1, 3)) (j := 2) (v := gR 50) hK (kdm kd_47) rfl ef_10 (by decide) rfl kk_72 dd_X10_become_36 rfl ?_
  refine g_iconst (pc := 39) (x := 0) hK dd_X10_become_39 (by decide) ?_
  refine g_bipush (pc := 40) (x := 30) hK dd_X10_become_40 (by decide) ?_
  refine g_copyi (pc := 42) hK wa_Things_98 (kdm kd_9) (kdm kd_50) nl_9 nl_50 (by decide) (by decide) (by decide) (by decide) (by decide) (by decide) (by omega) (by omega) ⟨by decide, by decide⟩ (Nat.le_of_ble_eq_true rfl) dd_X10_become_42 ?_
  refine g_aloadn (pc := 45) (i := 1) (x := 6) hK dd_X10_become_45 rfl rfl ?_
  refine g_getv (pc := 46) (f := (1, 4)) (j := 3) (v := gR 10) hK (kdm kd_6) rfl ef_10 (by decide) rfl kk_74 dd_X10_become_46 rfl ?_
  refine g_iconst (pc := 49) (x := 0) hK dd_X10_become_49 (by decide) ?_
  refine g_aloadn (pc := 50) (i := 0) (x := 47) hK dd_X10_become_50 rfl rfl ?_
  refine g_getv (pc := 51) (f := (1, 4)) (j := 3) (v := gR 51) hK (kdm kd_47) rfl ef_10 (by decide) rfl kk_74 dd_X10_become_51 rfl ?_
  refine g_iconst (pc := 54) (x := 0) hK dd_X10_become_54 (by decide) ?_
  refine g_bipush (pc := 55) (x := 30) hK dd_X10_become_55 (by decide) ?_
  refine g_copyi (pc := 57) hK wa_Things_98 (kdm kd_10) (kdm kd_51) nl_10 nl_51 (by decide) (by decide) (by decide) (by decide) (by decide) (by decide) (by omega) (by omega) ⟨by decide, by decide⟩ (Nat.le_of_ble_eq_true rfl) dd_X10_become_57 ?_
  refine g_aloadn (pc := 60) (i := 1) (x := 6) hK dd_X10_become_60 rfl rfl ?_
  refine g_getv (pc := 61) (f := (1, 5)) (j := 4) (v := gR 11) hK (kdm kd_6) rfl ef_10 (by decide) rfl kk_79 dd_X10_become_61 rfl ?_
  refine g_iconst (pc := 64) (x := 0) hK dd_X10_become_64 (by decide) ?_
  refine g_aloadn (pc := 65) (i := 0) (x := 47) hK dd_X10_become_65 rfl rfl ?_
  refine g_getv (pc := 66) (f := (1, 5)) (j := 4) (v := gR 52) hK (kdm kd_47) rfl ef_10 (by decide) rfl kk_79 dd_X10_become_66 rfl ?_
  refine g_iconst (pc := 69) (x := 0) hK dd_X10_become_69 (by decide) ?_
  refine g_bipush (pc := 70) (x := 30) hK dd_X10_become_70 (by decide) ?_
  refine g_copyi (pc := 72) hK wa_Things_98 (kdm kd_11) (kdm kd_52) nl_11 nl_52 (by decide) (by decide) (by decide) (by decide) (by decide) (by decide) (by omega) (by omega) ⟨by decide, by decide⟩ (Nat.le_of_ble_eq_true rfl) dd_X10_become_72 ?_
  refine g_aloadn (pc := 75) (i := 1) (x := 6) hK dd_X10_become_75 rfl rfl ?_
  refine g_getv (pc := 76) (f := (1, 6)) (j := 5) (v := gR 12) hK (kdm kd_6) rfl ef_10 (by decide) rfl kk_82 dd_X10_become_76 rfl ?_
  refine g_iconst (pc := 79) (x := 0) hK dd_X10_become_79 (by decide) ?_
  refine g_aloadn (pc := 80) (i := 0) (x := 47) hK dd_X10_become_80 rfl rfl ?_
  refine g_getv (pc := 81) (f := (1, 6)) (j := 5) (v := gR 53) hK (kdm kd_47) rfl ef_10 (by decide) rfl kk_82 dd_X10_become_81 rfl ?_
  refine g_iconst (pc := 84) (x := 0) hK dd_X10_become_84 (by decide) ?_
  refine g_bipush (pc := 85) (x := 30) hK dd_X10_become_85 (by decide) ?_
  refine g_copyi (pc := 87) hK wa_Things_98 (kdm kd_12) (kdm kd_53) nl_12 nl_53 (by decide) (by decide) (by decide) (by decide) (by decide) (by decide) (by omega) (by omega) ⟨by decide, by decide⟩ (Nat.le_of_ble_eq_true rfl) dd_X10_become_87 ?_
  refine g_aloadn (pc := 90) (i := 0) (x := 47) hK dd_X10_become_90 rfl rfl ?_
  refine g_aloadn (pc := 91) (i := 1) (x := 6) hK dd_X10_become_91 rfl rfl ?_
  refine g_geti (pc := 92) (f := (0, 0)) (j := 6) hK (kdm kd_6) rfl ef_10 (by decide) rfl kk_86 nl_6 dd_X10_become_92 rfl (fun x1 ex1 rx1 => ?_)
  replace ex1 : x1 = M 6 6 := ex1
  refine g_puti (pc := 95) (f := (0, 0)) (j := 6) (ty := .int) hK (kdm kd_47) rfl ef_10 (by decide) rfl kk_86 nl_47 (by decide) dd_X10_become_95 rfl rfl rfl rfl rfl rx1 ?_
  refine g_vret (pc := 98) hK hr hlocks dd_X10_become_98 ?_
  exact g_finM hQ (by first | rfl | (subst_vars; rfl))
