set_option maxHeartbeats 4000000 in
set_option maxRecDepth 100000 in
theorem c_refuse_0 {l : Launch} {M : Mem} {Pq : Option gV → Mem → Prop} (hrf : rfOK M) (hQ : Pq (some (gI (-2))) (rf M 0)) : gCtr l my_X11_refuse mb_X11_refuse 3 ((some .int)) 2 [gR 0, gI (-2)] M Pq := by
  refine g_intro (by decide) (Nat.le_of_ble_eq_true rfl) ?_
  intro p e s m args below meth c D cy q A hK hr hlocks hw
  refine g_sub (L' := [(0, gR 0), (1, gI (-2))]) [0, 1] rfl ?_
  have hr0 := hrf 0 (by decide)
  refine g_bipush (pc := 0) (x := (-2)) hK dd_X11_refuse_0 (by decide) ?_
  refine g_iloadn (pc := 2) (i := 1) (x := (-2)) hK dd_X11_refuse_2 rfl rfl ?_
  refine g_isub (pc := 3) (z := 0) hK dd_X11_refuse_3 rfl ?_
  refine g_istoren (pc := 4) (i := 2) (L' := [(0, gR 0), (1, gI (-2)), (2, gI 0)]) hK dd_X11_refuse_4 rfl (by decide) rfl ?_
  refine g_iloadn (pc := 5) (i := 2) (x := 0) hK dd_X11_refuse_5 rfl rfl ?_
  refine g_iconst (pc := 6) (x := 0) hK dd_X11_refuse_6 (by decide) ?_
  refine g_iconst (pc := 7) (x := 4) hK dd_X11_refuse_7 (by decide) ?_
  refine g_callT (pc := 8) (As := [gI 0, gI 0, gI 4]) hK ws_X_59 md_X11_within ⟨Nat.zero_le _, Nat.zero_le _⟩ ⟨by decide, by decide⟩ dd_X11_refuse_8 rfl rfl (Nat.le_of_ble_eq_true rfl) (c_within 0 0 4 (by decide) (by decide) (by decide) (fun c1 => g_r1 ?_) (fun c1 => g_r1 ?_))
  · refine g_if_eq (pc := 11) (tgt := 24) hK dd_X11_refuse_11 (by decide) (by decide) (fun c2 => absurd c2 (by decide)) (fun _ => ?_)
    refine g_aloadn (pc := 14) (i := 0) (x := 0) hK dd_X11_refuse_14 rfl rfl ?_
    refine g_getv (pc := 15) (f := (1, 2)) (j := 1) (v := gR 2) hK (kdm kd_0) rfl ef_11 (by decide) rfl kk_383 dd_X11_refuse_15 rfl ?_
    refine g_iloadn (pc := 18) (i := 2) (x := 0) hK dd_X11_refuse_18 rfl rfl ?_
    refine g_dup2 (pc := 19) hK dd_X11_refuse_19 rfl rfl ?_
    refine g_iald (pc := 20) hK (kdm kd_2) nl_2 (by decide) dd_X11_refuse_20 (by omega) (by omega) (fun x3 ex3 rx3 => ?_)
    replace ex3 : x3 = M 2 0 := ex3
    refine g_iconst (pc := 21) (x := 1) hK dd_X11_refuse_21 (by decide) ?_
    refine g_iadd (pc := 22) (z := x3 + 1) hK dd_X11_refuse_22 rfl ?_
    refine g_iast (pc := 23) hK (kdm kd_2) nl_2 (by decide) (by decide) dd_X11_refuse_23 (by omega) (by omega) ⟨by omega, by omega⟩ ?_
    refine g_iloadn (pc := 24) (i := 1) (x := (-2)) hK dd_X11_refuse_24 rfl rfl ?_
    refine g_iret (pc := 25) hK hr hlocks dd_X11_refuse_25 rfl ?_
    exact g_fin hQ (by first | rfl | omega | (subst_vars; first | rfl | omega)) (by first | rfl | (subst_vars; rfl))
  · exact absurd (by decide) c1
set_option maxHeartbeats 4000000 in
set_option maxRecDepth 100000 in
theorem c_refuse_1 {l : Launch} {M : Mem} {Pq : Option gV → Mem → Prop} (hrf : rfOK M) (hQ : Pq (some (gI (-3))) (rf M 1)) : gCtr l my_X11_refuse mb_X11_refuse 3 ((some .int)) 2 [gR 0, gI (-3)] M Pq := by
  refine g_intro (by decide) (Nat.le_of_ble_eq_true rfl) ?_
  intro p e s m args below meth c D cy q A hK hr hlocks hw
  refine g_sub (L' := [(0, gR 0), (1, gI (-3))]) [0, 1] rfl ?_
  have hr1 := hrf 1 (by decide)
  refine g_bipush (pc := 0) (x := (-2)) hK dd_X11_refuse_0 (by decide) ?_
  refine g_iloadn (pc := 2) (i := 1) (x := (-3)) hK dd_X11_refuse_2 rfl rfl ?_
  refine g_isub (pc := 3) (z := 1) hK dd_X11_refuse_3 rfl ?_
  refine g_istoren (pc := 4) (i := 2) (L' := [(0, gR 0), (1, gI (-3)), (2, gI 1)]) hK dd_X11_refuse_4 rfl (by decide) rfl ?_
  refine g_iloadn (pc := 5) (i := 2) (x := 1) hK dd_X11_refuse_5 rfl rfl ?_
  refine g_iconst (pc := 6) (x := 0) hK dd_X11_refuse_6 (by decide) ?_
  refine g_iconst (pc := 7) (x := 4) hK dd_X11_refuse_7 (by decide) ?_
  refine g_callT (pc := 8) (As := [gI 1, gI 0, gI 4]) hK ws_X_59 md_X11_within ⟨Nat.zero_le _, Nat.zero_le _⟩ ⟨by decide, by decide⟩ dd_X11_refuse_8 rfl rfl (Nat.le_of_ble_eq_true rfl) (c_within 1 0 4 (by decide) (by decide) (by decide) (fun c1 => g_r1 ?_) (fun c1 => g_r1 ?_))
  · refine g_if_eq (pc := 11) (tgt := 24) hK dd_X11_refuse_11 (by decide) (by decide) (fun c2 => absurd c2 (by decide)) (fun _ => ?_)
    refine g_aloadn (pc := 14) (i := 0) (x := 0) hK dd_X11_refuse_14 rfl rfl ?_
    refine g_getv (pc := 15) (f := (1, 2)) (j := 1) (v := gR 2) hK (kdm kd_0) rfl ef_11 (by decide) rfl kk_383 dd_X11_refuse_15 rfl ?_
    refine g_iloadn (pc := 18) (i := 2) (x := 1) hK dd_X11_refuse_18 rfl rfl ?_
    refine g_dup2 (pc := 19) hK dd_X11_refuse_19 rfl rfl ?_
    refine g_iald (pc := 20) hK (kdm kd_2) nl_2 (by decide) dd_X11_refuse_20 (by omega) (by omega) (fun x3 ex3 rx3 => ?_)
    replace ex3 : x3 = M 2 1 := ex3
    refine g_iconst (pc := 21) (x := 1) hK dd_X11_refuse_21 (by decide) ?_
    refine g_iadd (pc := 22) (z := x3 + 1) hK dd_X11_refuse_22 rfl ?_
    refine g_iast (pc := 23) hK (kdm kd_2) nl_2 (by decide) (by decide) dd_X11_refuse_23 (by omega) (by omega) ⟨by omega, by omega⟩ ?_
    refine g_iloadn (pc := 24) (i := 1) (x := (-3)) hK dd_X11_refuse_24 rfl rfl ?_
    refine g_iret (pc := 25) hK hr hlocks dd_X11_refuse_25 rfl ?_
    exact g_fin hQ (by first | rfl | omega | (subst_vars; first | rfl | omega)) (by first | rfl | (subst_vars; rfl))
  · exact absurd (by decide) c1
set_option maxHeartbeats 4000000 in
set_option maxRecDepth 100000 in
theorem c_refuse_2 {l : Launch} {M : Mem} {Pq : Option gV → Mem → Prop} (hrf : rfOK M) (hQ : Pq (some (gI (-4))) (rf M 2)) : gCtr l my_X11_refuse mb_X11_refuse 3 ((some .int)) 2 [gR 0, gI (-4)] M Pq := by
  refine g_intro (by decide) (Nat.le_of_ble_eq_true rfl) ?_
  intro p e s m args below meth c D cy q A hK hr hlocks hw
  refine g_sub (L' := [(0, gR 0), (1, gI (-4))]) [0, 1] rfl ?_
  have hr2 := hrf 2 (by decide)
  refine g_bipush (pc := 0) (x := (-2)) hK dd_X11_refuse_0 (by decide) ?_
  refine g_iloadn (pc := 2) (i := 1) (x := (-4)) hK dd_X11_refuse_2 rfl rfl ?_
  refine g_isub (pc := 3) (z := 2) hK dd_X11_refuse_3 rfl ?_
  refine g_istoren (pc := 4) (i := 2) (L' := [(0, gR 0), (1, gI (-4)), (2, gI 2)]) hK dd_X11_refuse_4 rfl (by decide) rfl ?_
  refine g_iloadn (pc := 5) (i := 2) (x := 2) hK dd_X11_refuse_5 rfl rfl ?_
  refine g_iconst (pc := 6) (x := 0) hK dd_X11_refuse_6 (by decide) ?_
  refine g_iconst (pc := 7) (x := 4) hK dd_X11_refuse_7 (by decide) ?_
  refine g_callT (pc := 8) (As := [gI 2, gI 0, gI 4]) hK ws_X_59 md_X11_within ⟨Nat.zero_le _, Nat.zero_le _⟩ ⟨by decide, by decide⟩ dd_X11_refuse_8 rfl rfl (Nat.le_of_ble_eq_true rfl) (c_within 2 0 4 (by decide) (by decide) (by decide) (fun c1 => g_r1 ?_) (fun c1 => g_r1 ?_))
  · refine g_if_eq (pc := 11) (tgt := 24) hK dd_X11_refuse_11 (by decide) (by decide) (fun c2 => absurd c2 (by decide)) (fun _ => ?_)
    refine g_aloadn (pc := 14) (i := 0) (x := 0) hK dd_X11_refuse_14 rfl rfl ?_
    refine g_getv (pc := 15) (f := (1, 2)) (j := 1) (v := gR 2) hK (kdm kd_0) rfl ef_11 (by decide) rfl kk_383 dd_X11_refuse_15 rfl ?_
    refine g_iloadn (pc := 18) (i := 2) (x := 2) hK dd_X11_refuse_18 rfl rfl ?_
    refine g_dup2 (pc := 19) hK dd_X11_refuse_19 rfl rfl ?_
    refine g_iald (pc := 20) hK (kdm kd_2) nl_2 (by decide) dd_X11_refuse_20 (by omega) (by omega) (fun x3 ex3 rx3 => ?_)
    replace ex3 : x3 = M 2 2 := ex3
    refine g_iconst (pc := 21) (x := 1) hK dd_X11_refuse_21 (by decide) ?_
    refine g_iadd (pc := 22) (z := x3 + 1) hK dd_X11_refuse_22 rfl ?_
    refine g_iast (pc := 23) hK (kdm kd_2) nl_2 (by decide) (by decide) dd_X11_refuse_23 (by omega) (by omega) ⟨by omega, by omega⟩ ?_
    refine g_iloadn (pc := 24) (i := 1) (x := (-4)) hK dd_X11_refuse_24 rfl rfl ?_
    refine g_iret (pc := 25) hK hr hlocks dd_X11_refuse_25 rfl ?_
    exact g_fin hQ (by first | rfl | omega | (subst_vars; first | rfl | omega)) (by first | rfl | (subst_vars; rfl))
  · exact absurd (by decide) c1
set_option maxHeartbeats 4000000 in
set_option maxRecDepth 100000 in
theorem c_refuse_3 {l : Launch} {M : Mem} {Pq : Option gV → Mem → Prop} (hrf : rfOK M) (hQ : Pq (some (gI (-5))) (rf M 3)) : gCtr l my_X11_refuse mb_X11_refuse 3 ((some .int)) 2 [gR 0, gI (-5)] M Pq := by
  refine g_intro (by decide) (Nat.le_of_ble_eq_true rfl) ?_
  intro p e s m args below meth c D cy q A hK hr hlocks hw
  refine g_sub (L' := [(0, gR 0), (1, gI (-5))]) [0, 1] rfl ?_
  have hr3 := hrf 3 (by decide)
  refine g_bipush (pc := 0) (x := (-2)) hK dd_X11_refuse_0 (by decide) ?_
  refine g_iloadn (pc := 2) (i := 1) (x := (-5)) hK dd_X11_refuse_2 rfl rfl ?_
  refine g_isub (pc := 3) (z := 3) hK dd_X11_refuse_3 rfl ?_
  refine g_istoren (pc := 4) (i := 2) (L' := [(0, gR 0), (1, gI (-5)), (2, gI 3)]) hK dd_X11_refuse_4 rfl (by decide) rfl ?_
  refine g_iloadn (pc := 5) (i := 2) (x := 3) hK dd_X11_refuse_5 rfl rfl ?_
  refine g_iconst (pc := 6) (x := 0) hK dd_X11_refuse_6 (by decide) ?_
  refine g_iconst (pc := 7) (x := 4) hK dd_X11_refuse_7 (by decide) ?_
  refine g_callT (pc := 8) (As := [gI 3, gI 0, gI 4]) hK ws_X_59 md_X11_within ⟨Nat.zero_le _, Nat.zero_le _⟩ ⟨by decide, by decide⟩ dd_X11_refuse_8 rfl rfl (Nat.le_of_ble_eq_true rfl) (c_within 3 0 4 (by decide) (by decide) (by decide) (fun c1 => g_r1 ?_) (fun c1 => g_r1 ?_))
  · refine g_if_eq (pc := 11) (tgt := 24) hK dd_X11_refuse_11 (by decide) (by decide) (fun c2 => absurd c2 (by decide)) (fun _ => ?_)
    refine g_aloadn (pc := 14) (i := 0) (x := 0) hK dd_X11_refuse_14 rfl rfl ?_
    refine g_getv (pc := 15) (f := (1, 2)) (j := 1) (v := gR 2) hK (kdm kd_0) rfl ef_11 (by decide) rfl kk_383 dd_X11_refuse_15 rfl ?_
    refine g_iloadn (pc := 18) (i := 2) (x := 3) hK dd_X11_refuse_18 rfl rfl ?_
    refine g_dup2 (pc := 19) hK dd_X11_refuse_19 rfl rfl ?_
    refine g_iald (pc := 20) hK (kdm kd_2) nl_2 (by decide) dd_X11_refuse_20 (by omega) (by omega) (fun x3 ex3 rx3 => ?_)
    replace ex3 : x3 = M 2 3 := ex3
    refine g_iconst (pc := 21) (x := 1) hK dd_X11_refuse_21 (by decide) ?_
    refine g_iadd (pc := 22) (z := x3 + 1) hK dd_X11_refuse_22 rfl ?_
    refine g_iast (pc := 23) hK (kdm kd_2) nl_2 (by decide) (by decide) dd_X11_refuse_23 (by omega) (by omega) ⟨by omega, by omega⟩ ?_
    refine g_iloadn (pc := 24) (i := 1) (x := (-5)) hK dd_X11_refuse_24 rfl rfl ?_
    refine g_iret (pc := 25) hK hr hlocks dd_X11_refuse_25 rfl ?_
    exact g_fin hQ (by first | rfl | omega | (subst_vars; first | rfl | omega)) (by first | rfl | (subst_vars; rfl))
  · exact absurd (by decide) c1
set_option maxHeartbeats 4000000 in
set_option maxRecDepth 100000 in
theorem c_refuse_4 {l : Launch} {M : Mem} {Pq : Option gV → Mem → Prop} (hrf : rfOK M) (hQ : Pq (some (gI (-6))) (rf M 4)) : gCtr l my_X11_refuse mb_X11_refuse 3 ((some .int)) 2 [gR 0, gI (-6)] M Pq := by
  refine g_intro (by decide) (Nat.le_of_ble_eq_true rfl) ?_
  intro p e s m args below meth c D cy q A hK hr hlocks hw
  refine g_sub (L' := [(0, gR 0), (1, gI (-6))]) [0, 1] rfl ?_
  have hr4 := hrf 4 (by decide)
  refine g_bipush (pc := 0) (x := (-2)) hK dd_X11_refuse_0 (by decide) ?_
  refine g_iloadn (pc := 2) (i := 1) (x := (-6)) hK dd_X11_refuse_2 rfl rfl ?_
  refine g_isub (pc := 3) (z := 4) hK dd_X11_refuse_3 rfl ?_
  refine g_istoren (pc := 4) (i := 2) (L' := [(0, gR 0), (1, gI (-6)), (2, gI 4)]) hK dd_X11_refuse_4 rfl (by decide) rfl ?_
  refine g_iloadn (pc := 5) (i := 2) (x := 4) hK dd_X11_refuse_5 rfl rfl ?_
  refine g_iconst (pc := 6) (x := 0) hK dd_X11_refuse_6 (by decide) ?_
  refine g_iconst (pc := 7) (x := 4) hK dd_X11_refuse_7 (by decide) ?_
  refine g_callT (pc := 8) (As := [gI 4, gI 0, gI 4]) hK ws_X_59 md_X11_within ⟨Nat.zero_le _, Nat.zero_le _⟩ ⟨by decide, by decide⟩ dd_X11_refuse_8 rfl rfl (Nat.le_of_ble_eq_true rfl) (c_within 4 0 4 (by decide) (by decide) (by decide) (fun c1 => g_r1 ?_) (fun c1 => g_r1 ?_))
  · refine g_if_eq (pc := 11) (tgt := 24) hK dd_X11_refuse_11 (by decide) (by decide) (fun c2 => absurd c2 (by decide)) (fun _ => ?_)
    refine g_aloadn (pc := 14) (i := 0) (x := 0) hK dd_X11_refuse_14 rfl rfl ?_
    refine g_getv (pc := 15) (f := (1, 2)) (j := 1) (v := gR 2) hK (kdm kd_0) rfl ef_11 (by decide) rfl kk_383 dd_X11_refuse_15 rfl ?_
    refine g_iloadn (pc := 18) (i := 2) (x := 4) hK dd_X11_refuse_18 rfl rfl ?_
    refine g_dup2 (pc := 19) hK dd_X11_refuse_19 rfl rfl ?_
    refine g_iald (pc := 20) hK (kdm kd_2) nl_2 (by decide) dd_X11_refuse_20 (by omega) (by omega) (fun x3 ex3 rx3 => ?_)
    replace ex3 : x3 = M 2 4 := ex3
    refine g_iconst (pc := 21) (x := 1) hK dd_X11_refuse_21 (by decide) ?_
    refine g_iadd (pc := 22) (z := x3 + 1) hK dd_X11_refuse_22 rfl ?_
    refine g_iast (pc := 23) hK (kdm kd_2) nl_2 (by decide) (by decide) dd_X11_refuse_23 (by omega) (by omega) ⟨by omega, by omega⟩ ?_
    refine g_iloadn (pc := 24) (i := 1) (x := (-6)) hK dd_X11_refuse_24 rfl rfl ?_
    refine g_iret (pc := 25) hK hr hlocks dd_X11_refuse_25 rfl ?_
    exact g_fin hQ (by first | rfl | omega | (subst_vars; first | rfl | omega)) (by first | rfl | (subst_vars; rfl))
  · exact absurd (by decide) c1
set_option maxHeartbeats 4000000 in
set_option maxRecDepth 100000 in
theorem c_isEmpty {l : Launch} {M : Mem} {Pq : Option gV → Mem → Prop} (sf : Int) (h1 : 0 ≤ sf) (h2 : sf < 8) (hT : (M (1 + 96 + 2 * sf.toNat) 1 = -1) → Pq (some (gI 1)) M) (hF : ¬ (M (1 + 96 + 2 * sf.toNat) 1 = -1) → Pq (some (gI 0)) M) : gCtr l my_X7_isEmpty mb_X7_isEmpty 1 ((some .boolean)) 1 [gR (1 + 96 + 2 * sf.toNat)] M Pq := by
  refine g_intro (by decide) (Nat.le_of_ble_eq_true rfl) ?_
  intro p e s m args below meth c D cy q A hK hr hlocks hw
  refine g_sub (L' := [(0, gR (1 + 96 + 2 * sf.toNat))]) [0] rfl ?_
  refine g_aloadn (pc := 0) (i := 0) (x := 1 + 96 + 2 * sf.toNat) hK dd_X7_isEmpty_0 rfl rfl ?_
  refine g_geti (pc := 1) (f := (0, 0)) (j := 1) hK (kdm (kd_sh (by omega) (by omega))) rfl ef_7 (by decide) rfl kk_370 (nl_sh (by omega) (by omega)) dd_X7_isEmpty_1 rfl (fun x1 ex1 rx1 => ?_)
  refine g_iconst (pc := 4) (x := (-1)) hK dd_X7_isEmpty_4 (by decide) ?_
  refine g_icmp_ne (pc := 5) (tgt := 12) hK dd_X7_isEmpty_5 (by decide) rx1 (by decide) (fun c2 => ?_) (fun c2 => ?_)
  · refine g_iconst (pc := 12) (x := 0) hK dd_X7_isEmpty_12 (by decide) ?_
    refine g_iret (pc := 13) hK hr hlocks dd_X7_isEmpty_13 rfl ?_
    exact g_finM (hF (by subst_vars; first | assumption | omega | simp_all)) (by first | rfl | (subst_vars; rfl))
  · refine g_iconst (pc := 8) (x := 1) hK dd_X7_isEmpty_8 (by decide) ?_
    refine g_goto (pc := 9) (tgt := 13) hK dd_X7_isEmpty_9 (by decide) ?_
    refine g_iret (pc := 13) hK hr hlocks dd_X7_isEmpty_13 rfl ?_
    exact g_finM (hT (by subst_vars; first | assumption | omega | simp_all)) (by first | rfl | (subst_vars; rfl))
set_option maxHeartbeats 4000000 in
set_option maxRecDepth 100000 in
theorem c_hasRow {l : Launch} {M : Mem} {Pq : Option gV → Mem → Prop} (sf : Int) (h1 : 0 ≤ sf) (h2 : sf < 8) (hT : (0 ≤ M (1 + 96 + 2 * sf.toNat) 1 ∧ M (1 + 96 + 2 * sf.toNat) 1 ≤ 4) → Pq (some (gI 1)) M) (hF : ¬ (0 ≤ M (1 + 96 + 2 * sf.toNat) 1 ∧ M (1 + 96 + 2 * sf.toNat) 1 ≤ 4) → Pq (some (gI 0)) M) : gCtr l my_X7_hasRow mb_X7_hasRow 1 ((some .boolean)) 2 [gR (1 + 96 + 2 * sf.toNat)] M Pq := by
  refine g_intro (by decide) (Nat.le_of_ble_eq_true rfl) ?_
  intro p e s m args below meth c D cy q A hK hr hlocks hw
  refine g_sub (L' := [(0, gR (1 + 96 + 2 * sf.toNat))]) [0] rfl ?_
  refine g_aloadn (pc := 0) (i := 0) (x := 1 + 96 + 2 * sf.toNat) hK dd_X7_hasRow_0 rfl rfl ?_
  refine g_geti (pc := 1) (f := (0, 0)) (j := 1) hK (kdm (kd_sh (by omega) (by omega))) rfl ef_7 (by decide) rfl kk_370 (nl_sh (by omega) (by omega)) dd_X7_hasRow_1 rfl (fun x1 ex1 rx1 => ?_)
  refine g_iconst (pc := 4) (x := 0) hK dd_X7_hasRow_4 (by decide) ?_
  refine g_iconst (pc := 5) (x := 4) hK dd_X7_hasRow_5 (by decide) ?_
  refine g_callTN (pc := 6) (As := [gI x1, gI 0, gI 4]) hK ws_Shelf_22 md_X11_within ⟨Nat.zero_le _, Nat.zero_le _⟩ ⟨by decide, by decide⟩ dd_X7_hasRow_6 rfl rfl (Nat.le_of_ble_eq_true rfl) (c_within x1 0 4 rx1 (by decide) (by decide) (fun c2 => g_r1 ?_) (fun c2 => g_r1 ?_))
  · refine g_iret (pc := 9) hK hr hlocks dd_X7_hasRow_9 rfl ?_
    exact g_finM (hT (by subst_vars; first | assumption | omega | simp_all)) (by first | rfl | (subst_vars; rfl))
  · refine g_iret (pc := 9) hK hr hlocks dd_X7_hasRow_9 rfl ?_
    exact g_finM (hF (by subst_vars; first | assumption | omega | simp_all)) (by first | rfl | (subst_vars; rfl))
set_option maxHeartbeats 4000000 in
set_option maxRecDepth 100000 in
theorem c_hasThing {l : Launch} {M : Mem} {Pq : Option gV → Mem → Prop} (sf : Int) (h1 : 0 ≤ sf) (h2 : sf < 8) (hT : (10 ≤ M (1 + 96 + 2 * sf.toNat) 1) → Pq (some (gI 1)) M) (hF : ¬ (10 ≤ M (1 + 96 + 2 * sf.toNat) 1) → Pq (some (gI 0)) M) : gCtr l my_X7_hasThing mb_X7_hasThing 1 ((some .boolean)) 1 [gR (1 + 96 + 2 * sf.toNat)] M Pq := by
  refine g_intro (by decide) (Nat.le_of_ble_eq_true rfl) ?_
  intro p e s m args below meth c D cy q A hK hr hlocks hw
  refine g_sub (L' := [(0, gR (1 + 96 + 2 * sf.toNat))]) [0] rfl ?_
  refine g_aloadn (pc := 0) (i := 0) (x := 1 + 96 + 2 * sf.toNat) hK dd_X7_hasThing_0 rfl rfl ?_
  refine g_geti (pc := 1) (f := (0, 0)) (j := 1) hK (kdm (kd_sh (by omega) (by omega))) rfl ef_7 (by decide) rfl kk_370 (nl_sh (by omega) (by omega)) dd_X7_hasThing_1 rfl (fun x1 ex1 rx1 => ?_)
  refine g_bipush (pc := 4) (x := 10) hK dd_X7_hasThing_4 (by decide) ?_
  refine g_icmp_lt (pc := 6) (tgt := 13) hK dd_X7_hasThing_6 (by decide) rx1 (by decide) (fun c2 => ?_) (fun c2 => ?_)
  · refine g_iconst (pc := 13) (x := 0) hK dd_X7_hasThing_13 (by decide) ?_
    refine g_iret (pc := 14) hK hr hlocks dd_X7_hasThing_14 rfl ?_
    exact g_finM (hF (by subst_vars; first | assumption | omega | simp_all)) (by first | rfl | (subst_vars; rfl))
  · refine g_iconst (pc := 9) (x := 1) hK dd_X7_hasThing_9 (by decide) ?_
    refine g_goto (pc := 10) (tgt := 14) hK dd_X7_hasThing_10 (by decide) ?_
    refine g_iret (pc := 14) hK hr hlocks dd_X7_hasThing_14 rfl ?_
    exact g_finM (hT (by subst_vars; first | assumption | omega | simp_all)) (by first | rfl | (subst_vars; rfl))
set_option maxHeartbeats 4000000 in
set_option maxRecDepth 100000 in
theorem c_hasPlaces {l : Launch} {M : Mem} {Pq : Option gV → Mem → Prop} (sf : Int) (i : Int) (n : Int) (h1 : 0 ≤ sf) (h2 : sf < 8) (hsz : 0 ≤ M (1 + 96 + 2 * sf.toNat) 2 ∧ M (1 + 96 + 2 * sf.toNat) 2 ≤ 40) (hi : inI i) (hn : inI n) (hT : (0 ≤ i ∧ i ≤ M (1 + 96 + 2 * sf.toNat) 2 ∧ 0 ≤ n ∧ n ≤ M (1 + 96 + 2 * sf.toNat) 2 - i) → Pq (some (gI 1)) M) (hF : ¬ (0 ≤ i ∧ i ≤ M (1 + 96 + 2 * sf.toNat) 2 ∧ 0 ≤ n ∧ n ≤ M (1 + 96 + 2 * sf.toNat) 2 - i) → Pq (some (gI 0)) M) : gCtr l my_X7_hasPlaces mb_X7_hasPlaces 3 ((some .boolean)) 2 [gR (1 + 96 + 2 * sf.toNat), gI i, gI n] M Pq := by
  refine g_intro (by decide) (Nat.le_of_ble_eq_true rfl) ?_
  intro p e s m args below meth c D cy q A hK hr hlocks hw
  refine g_sub (L' := [(0, gR (1 + 96 + 2 * sf.toNat)), (1, gI i), (2, gI n)]) [0, 1, 2] rfl ?_
  refine g_iloadn (pc := 0) (i := 1) (x := i) hK dd_X7_hasPlaces_0 rfl rfl ?_
  refine g_iconst (pc := 1) (x := 0) hK dd_X7_hasPlaces_1 (by decide) ?_
  refine g_aloadn (pc := 2) (i := 0) (x := 1 + 96 + 2 * sf.toNat) hK dd_X7_hasPlaces_2 rfl rfl ?_
  refine g_geti (pc := 3) (f := (0, 0)) (j := 2) hK (kdm (kd_sh (by omega) (by omega))) rfl ef_7 (by decide) rfl kk_372 (nl_sh (by omega) (by omega)) dd_X7_hasPlaces_3 rfl (fun x1 ex1 rx1 => ?_)
  refine g_callTN (pc := 6) (As := [gI i, gI 0, gI x1]) hK ws_Shelf_22 md_X11_within ⟨Nat.zero_le _, Nat.zero_le _⟩ ⟨by decide, by decide⟩ dd_X7_hasPlaces_6 rfl rfl (Nat.le_of_ble_eq_true rfl) (c_within i 0 x1 hi (by decide) rx1 (fun c2 => g_r1 ?_) (fun c2 => g_r1 ?_))
  · refine g_if_eq (pc := 9) (tgt := 30) hK dd_X7_hasPlaces_9 (by decide) (by decide) (fun c3 => absurd c3 (by decide)) (fun _ => ?_)
    refine g_iloadn (pc := 12) (i := 2) (x := n) hK dd_X7_hasPlaces_12 rfl rfl ?_
    refine g_iconst (pc := 13) (x := 0) hK dd_X7_hasPlaces_13 (by decide) ?_
    refine g_aloadn (pc := 14) (i := 0) (x := 1 + 96 + 2 * sf.toNat) hK dd_X7_hasPlaces_14 rfl rfl ?_
    refine g_geti (pc := 15) (f := (0, 0)) (j := 2) hK (kdm (kd_sh (by omega) (by omega))) rfl ef_7 (by decide) rfl kk_372 (nl_sh (by omega) (by omega)) dd_X7_hasPlaces_15 rfl (fun x4 ex4 rx4 => ?_)
    refine g_iloadn (pc := 18) (i := 1) (x := i) hK dd_X7_hasPlaces_18 rfl rfl ?_
    refine g_isub (pc := 19) (z := x4 - i) hK dd_X7_hasPlaces_19 rfl ?_
    refine g_callTN (pc := 20) (As := [gI n, gI 0, gI (x4 - i)]) hK ws_Shelf_22 md_X11_within ⟨Nat.zero_le _, Nat.zero_le _⟩ ⟨by decide, by decide⟩ dd_X7_hasPlaces_20 rfl rfl (Nat.le_of_ble_eq_true rfl) (c_within n 0 (x4 - i) hn (by decide) ⟨by omega, by omega⟩ (fun c5 => g_r1 ?_) (fun c5 => g_r1 ?_))
    · refine g_if_eq (pc := 23) (tgt := 30) hK dd_X7_hasPlaces_23 (by decide) (by decide) (fun c6 => absurd c6 (by decide)) (fun _ => ?_)
      refine g_iconst (pc := 26) (x := 1) hK dd_X7_hasPlaces_26 (by decide) ?_
      refine g_goto (pc := 27) (tgt := 31) hK dd_X7_hasPlaces_27 (by decide) ?_
      refine g_iret (pc := 31) hK hr hlocks dd_X7_hasPlaces_31 rfl ?_
      exact g_finM (hT (by subst_vars; first | assumption | omega | simp_all)) (by first | rfl | (subst_vars; rfl))
    · refine g_if_eq (pc := 23) (tgt := 30) hK dd_X7_hasPlaces_23 (by decide) (by decide) (fun _ => ?_) (fun c7 => absurd (by decide) c7)
      refine g_iconst (pc := 30) (x := 0) hK dd_X7_hasPlaces_30 (by decide) ?_
      refine g_iret (pc := 31) hK hr hlocks dd_X7_hasPlaces_31 rfl ?_
      exact g_finM (hF (by subst_vars; first | assumption | omega | simp_all)) (by first | rfl | (subst_vars; rfl))
  · refine g_if_eq (pc := 9) (tgt := 30) hK dd_X7_hasPlaces_9 (by decide) (by decide) (fun _ => ?_) (fun c8 => absurd (by decide) c8)
    refine g_iconst (pc := 30) (x := 0) hK dd_X7_hasPlaces_30 (by decide) ?_
    refine g_iret (pc := 31) hK hr hlocks dd_X7_hasPlaces_31 rfl ?_
    exact g_finM (hF (by subst_vars; first | assumption | omega | simp_all)) (by first | rfl | (subst_vars; rfl))
set_option maxHeartbeats 4000000 in
set_option maxRecDepth 100000 in
theorem c_fillL {l : Launch} {M : Mem} {Pq : Option gV → Mem → Prop} (sf : Int) (h1 : 0 ≤ sf) (h2 : sf < 8) (hQ : Pq none (fil M (1 + 96 + 2 * sf.toNat + 1) 40 0)) : gCtr l my_J7_fill_d0a16 mb_J7_fill_d0a16 5 ((none : Option Jvm.ClassFile.FieldType)) 1 [gR (1 + 96 + 2 * sf.toNat + 1), gL 0] M Pq := by
  refine g_intro (by decide) (Nat.le_of_ble_eq_true rfl) ?_
  intro p e s m args below meth c D cy q A hK hr hlocks hw
  refine g_sub (L' := [(0, gR (1 + 96 + 2 * sf.toNat + 1)), (1, gL 0)]) [0, 1] rfl ?_
  refine g_iconst (pc := 0) (x := 0) hK dd_J7_fill_d0a16_0 (by decide) ?_
  refine g_istoren (pc := 1) (i := 3) (L' := [(0, gR (1 + 96 + 2 * sf.toNat + 1)), (1, gL 0), (3, gI 0)]) hK dd_J7_fill_d0a16_1 rfl (by decide) rfl ?_
  refine g_aloadn (pc := 2) (i := 0) (x := 1 + 96 + 2 * sf.toNat + 1) hK dd_J7_fill_d0a16_2 rfl rfl ?_
  refine g_alen (pc := 3) hK (kdm (kd_el (by omega) (by omega))) rfl dd_J7_fill_d0a16_3 ?_
  refine g_topv (v := gI 40) rfl ?_
  refine g_istore (pc := 4) (i := 4) (L' := [(0, gR (1 + 96 + 2 * sf.toNat + 1)), (1, gL 0), (3, gI 0), (4, gI 40)]) hK dd_J7_fill_d0a16_4 (by decide) rfl ?_
  have lp3 : ∀ (n1 : Nat) (i : Int) (M1 : Mem), (0 ≤ i ∧ i ≤ 40) → (M1 = fil M (1 + 96 + 2 * sf.toNat + 1) i.toNat 0) → (40 - i).toNat < n1 → G p l e (rmD 1) s m args below meth c D cy q A 0 0 5 (MQ below (gQc D cy q A Pq) args s 0 0 A) 6 [(0, gR (1 + 96 + 2 * sf.toNat + 1)), (1, gL 0), (3, gI i), (4, gI 40)] [] M1 := by
    intro n1
    induction n1 with
    | zero => intro i M1 iv4 hM hm5; exact absurd hm5 (Nat.not_lt_zero _)
    | succ n1 ih2 =>
      intro i M1 iv4 hM hm5
      refine g_iloadn (pc := 6) (i := 3) (x := i) hK dd_J7_fill_d0a16_6 rfl rfl ?_
      refine g_iload (pc := 7) (i := 4) (x := 40) hK dd_J7_fill_d0a16_7 rfl ?_
      refine g_icmp_ge (pc := 9) (tgt := 22) hK dd_J7_fill_d0a16_9 (by decide) ⟨by omega, by omega⟩ (by decide) (fun c6 => ?_) (fun c6 => ?_)
      · refine g_vret (pc := 22) hK hr hlocks dd_J7_fill_d0a16_22 ?_
        exact g_finM hQ (by rw [hM, show i = 40 by omega]; rfl)
      · refine g_aloadn (pc := 12) (i := 0) (x := 1 + 96 + 2 * sf.toNat + 1) hK dd_J7_fill_d0a16_12 rfl rfl ?_
        refine g_iloadn (pc := 13) (i := 3) (x := i) hK dd_J7_fill_d0a16_13 rfl rfl ?_
        refine g_lloadn (pc := 14) (i := 1) (x := 0) hK dd_J7_fill_d0a16_14 rfl rfl ?_
        refine g_last (pc := 15) hK (kdm (kd_el (by omega) (by omega))) (yl_el (by omega) (by omega)) (fun z => absurd (show 1 + 96 + 2 * sf.toNat + 1 = 200 from z) (by omega)) (by decide) dd_J7_fill_d0a16_15 (by omega) (by omega) (by decide) ?_
        refine g_iinc (pc := 16) (i := 3) (y := i + 1) (L' := [(0, gR (1 + 96 + 2 * sf.toNat + 1)), (1, gL 0), (3, gI (i + 1)), (4, gI 40)]) hK dd_J7_fill_d0a16_16 rfl rfl (by decide) rfl ?_
        refine g_goto (pc := 19) (tgt := 6) hK dd_J7_fill_d0a16_19 (by decide) ?_
        refine g_sub (L' := [(0, gR (1 + 96 + 2 * sf.toNat + 1)), (1, gL 0), (3, gI (i + 1)), (4, gI 40)]) [0, 1, 2, 3] rfl ?_
        exact ih2 (i + 1) (up M1 (1 + 96 + 2 * sf.toNat + 1) i.toNat 0) (by omega) (by rw [hM, tn1 (by omega)]; exact cp_s) (by omega)
  refine g_sub (L' := [(0, gR (1 + 96 + 2 * sf.toNat + 1)), (1, gL 0), (3, gI 0), (4, gI 40)]) [0, 1, 2, 3] rfl ?_
  exact lp3 _ 0 M (by omega) (cp_0.symm) (Nat.lt_succ_self _)
set_option maxHeartbeats 4000000 in
set_option maxRecDepth 100000 in
theorem c_takeRow {l : Launch} {M : Mem} {Pq : Option gV → Mem → Prop} (sf : Int) (so : Int) (n : Int) (h1 : 0 ≤ sf) (h2 : sf < 8) (h3 : inI so) (h4 : inI n) (hQ : Pq none (tkR M sf so n)) : gCtr l my_X7_takeRow mb_X7_takeRow 3 ((none : Option Jvm.ClassFile.FieldType)) 2 [gR (1 + 96 + 2 * sf.toNat), gI so, gI n] M Pq := by
  refine g_intro (by decide) (Nat.le_of_ble_eq_true rfl) ?_
  intro p e s m args below meth c D cy q A hK hr hlocks hw
  refine g_sub (L' := [(0, gR (1 + 96 + 2 * sf.toNat)), (1, gI so), (2, gI n)]) [0, 1, 2] rfl ?_
  refine g_aloadn (pc := 0) (i := 0) (x := 1 + 96 + 2 * sf.toNat) hK dd_X7_takeRow_0 rfl rfl ?_
  refine g_iloadn (pc := 1) (i := 1) (x := so) hK dd_X7_takeRow_1 rfl rfl ?_
  refine g_puti (pc := 2) (f := (0, 0)) (j := 1) (ty := .int) hK (kdm (kd_sh (by omega) (by omega))) rfl ef_7 (by decide) rfl kk_370 (nl_sh (by omega) (by omega)) (fun z => absurd (show 1 + 96 + 2 * sf.toNat = 200 from z.1) (by omega)) dd_X7_takeRow_2 rfl rfl rfl rfl rfl h3 ?_
  refine g_aloadn (pc := 5) (i := 0) (x := 1 + 96 + 2 * sf.toNat) hK dd_X7_takeRow_5 rfl rfl ?_
  refine g_iloadn (pc := 6) (i := 2) (x := n) hK dd_X7_takeRow_6 rfl rfl ?_
  refine g_puti (pc := 7) (f := (0, 0)) (j := 2) (ty := .int) hK (kdm (kd_sh (by omega) (by omega))) rfl ef_7 (by decide) rfl kk_372 (nl_sh (by omega) (by omega)) (fun z => absurd (show 1 + 96 + 2 * sf.toNat = 200 from z.1) (by omega)) dd_X7_takeRow_7 rfl rfl rfl rfl rfl h4 ?_
  refine g_aloadn (pc := 10) (i := 0) (x := 1 + 96 + 2 * sf.toNat) hK dd_X7_takeRow_10 rfl rfl ?_
  refine g_getv (pc := 11) (f := (1, 1)) (j := 0) (v := gR (1 + 96 + 2 * sf.toNat + 1)) hK (kdm (kd_sh (by omega) (by omega))) rfl ef_7 (by decide) rfl kk_368 dd_X7_takeRow_11 rfl ?_
  refine g_lconst (pc := 14) (x := 0) hK dd_X7_takeRow_14 (by decide) ?_
  refine g_callT (pc := 15) (As := [gR (1 + 96 + 2 * sf.toNat + 1), gL 0]) hK ws_Shelf_26 md_J7_fill_d0a16 ⟨Nat.zero_le _, Nat.zero_le _⟩ ⟨by decide, by decide⟩ dd_X7_takeRow_15 rfl rfl (Nat.le_of_ble_eq_true rfl) (c_fillL sf (show 0 ≤ sf by omega) (show sf < 8 by omega) (g_r0 ?_))
  refine g_vret (pc := 18) hK hr hlocks dd_X7_takeRow_18 ?_
  exact g_finM hQ (by first | rfl | (subst_vars; rfl))
set_option maxHeartbeats 4000000 in
set_option maxRecDepth 100000 in
theorem c_at {l : Launch} {M : Mem} {Pq : Option gV → Mem → Prop} (sf : Int) (i : Int) (h1 : 0 ≤ sf) (h2 : sf < 8) (hsz : 0 ≤ M (1 + 96 + 2 * sf.toNat) 2 ∧ M (1 + 96 + 2 * sf.toNat) 2 ≤ 40) (hi : inI i) (hY : ((0 ≤ M (1 + 96 + 2 * sf.toNat) 1 ∧ M (1 + 96 + 2 * sf.toNat) 1 ≤ 4) ∧ 0 ≤ i ∧ i ≤ M (1 + 96 + 2 * sf.toNat) 2 - 1 ∧ inL (M (1 + 96 + 2 * sf.toNat + 1) i.toNat)) → Pq (some (gL (M (1 + 96 + 2 * sf.toNat + 1) i.toNat))) M) (hN : (¬ ((0 ≤ M (1 + 96 + 2 * sf.toNat) 1 ∧ M (1 + 96 + 2 * sf.toNat) 1 ≤ 4) ∧ 0 ≤ i ∧ i ≤ M (1 + 96 + 2 * sf.toNat) 2 - 1)) → Pq (some (gL 0)) M) : gCtr l my_X7_at mb_X7_at 2 ((some .long)) 3 [gR (1 + 96 + 2 * sf.toNat), gI i] M Pq := by
  refine g_intro (by decide) (Nat.le_of_ble_eq_true rfl) ?_
  intro p e s m args below meth c D cy q A hK hr hlocks hw
  refine g_sub (L' := [(0, gR (1 + 96 + 2 * sf.toNat)), (1, gI i)]) [0, 1] rfl ?_
  refine g_aloadn (pc := 0) (i := 0) (x := 1 + 96 + 2 * sf.toNat) hK dd_X7_at_0 rfl rfl ?_
  refine g_callV (pc := 1) (As := []) hK ws_Shelf_32 md_X7_hasRow ⟨Nat.zero_le _, Nat.zero_le _⟩ ⟨by decide, by decide⟩ (kdm (kd_sh (by omega) (by omega))) rfl rfl dd_X7_at_1 rfl rfl (Nat.le_of_ble_eq_true rfl) (c_hasRow sf (by omega) (by omega) (fun c1 => g_r1 ?_) (fun c1 => g_r1 ?_))
  · refine g_if_eq (pc := 4) (tgt := 30) hK dd_X7_at_4 (by decide) (by decide) (fun c2 => absurd c2 (by decide)) (fun _ => ?_)
    refine g_iloadn (pc := 7) (i := 1) (x := i) hK dd_X7_at_7 rfl rfl ?_
    refine g_iconst (pc := 8) (x := 0) hK dd_X7_at_8 (by decide) ?_
    refine g_aloadn (pc := 9) (i := 0) (x := 1 + 96 + 2 * sf.toNat) hK dd_X7_at_9 rfl rfl ?_
    refine g_geti (pc := 10) (f := (0, 0)) (j := 2) hK (kdm (kd_sh (by omega) (by omega))) rfl ef_7 (by decide) rfl kk_372 (nl_sh (by omega) (by omega)) dd_X7_at_10 rfl (fun x3 ex3 rx3 => ?_)
    refine g_iconst (pc := 13) (x := 1) hK dd_X7_at_13 (by decide) ?_
    refine g_isub (pc := 14) (z := x3 - 1) hK dd_X7_at_14 rfl ?_
    refine g_callTN (pc := 15) (As := [gI i, gI 0, gI (x3 - 1)]) hK ws_Shelf_22 md_X11_within ⟨Nat.zero_le _, Nat.zero_le _⟩ ⟨by decide, by decide⟩ dd_X7_at_15 rfl rfl (Nat.le_of_ble_eq_true rfl) (c_within i 0 (x3 - 1) hi (by decide) ⟨by omega, by omega⟩ (fun c4 => g_r1 ?_) (fun c4 => g_r1 ?_))
    · refine g_if_eq (pc := 18) (tgt := 30) hK dd_X7_at_18 (by decide) (by decide) (fun c5 => absurd c5 (by decide)) (fun _ => ?_)
      refine g_aloadn (pc := 21) (i := 0) (x := 1 + 96 + 2 * sf.toNat) hK dd_X7_at_21 rfl rfl ?_
      refine g_getv (pc := 22) (f := (1, 1)) (j := 0) (v := gR (1 + 96 + 2 * sf.toNat + 1)) hK (kdm (kd_sh (by omega) (by omega))) rfl ef_7 (by decide) rfl kk_368 dd_X7_at_22 rfl ?_
      refine g_iloadn (pc := 25) (i := 1) (x := i) hK dd_X7_at_25 rfl rfl ?_
      refine g_lald (pc := 26) hK (kdm (kd_el (by omega) (by omega))) (yl_el (by omega) (by omega)) (by decide) dd_X7_at_26 (by omega) (by omega) (fun x6 ex6 rx6 => ?_)
      refine g_goto (pc := 27) (tgt := 31) hK dd_X7_at_27 (by decide) ?_
      refine g_lret (pc := 31) hK hr hlocks dd_X7_at_31 ?_
      first | exact g_finL (hY (by exact ⟨by omega, by omega, by omega, by subst_vars; assumption⟩)) (by first | rfl | omega | (subst_vars; first | rfl | omega)) (by first | rfl | (subst_vars; rfl)) | exact g_finL (hN (by first | omega | (subst_vars; omega) | exact ⟨by first | assumption | omega | (subst_vars; first | assumption | omega), by first | assumption | omega | (subst_vars; first | assumption | omega)⟩)) (by first | rfl | omega | (subst_vars; first | rfl | omega)) (by first | rfl | (subst_vars; rfl)) | (exfalso; omega)
    · refine g_if_eq (pc := 18) (tgt := 30) hK dd_X7_at_18 (by decide) (by decide) (fun _ => ?_) (fun c7 => absurd (by decide) c7)
      refine g_lconst (pc := 30) (x := 0) hK dd_X7_at_30 (by decide) ?_
      refine g_lret (pc := 31) hK hr hlocks dd_X7_at_31 ?_
      first | exact g_finL (hY (by exact ⟨by omega, by omega, by omega, by subst_vars; assumption⟩)) (by first | rfl | omega | (subst_vars; first | rfl | omega)) (by first | rfl | (subst_vars; rfl)) | exact g_finL (hN (by first | omega | (subst_vars; omega) | exact ⟨by first | assumption | omega | (subst_vars; first | assumption | omega), by first | assumption | omega | (subst_vars; first | assumption | omega)⟩)) (by first | rfl | omega | (subst_vars; first | rfl | omega)) (by first | rfl | (subst_vars; rfl)) | (exfalso; omega)
  · refine g_if_eq (pc := 4) (tgt := 30) hK dd_X7_at_4 (by decide) (by decide) (fun _ => ?_) (fun c8 => absurd (by decide) c8)
    refine g_lconst (pc := 30) (x := 0) hK dd_X7_at_30 (by decide) ?_
    refine g_lret (pc := 31) hK hr hlocks dd_X7_at_31 ?_
    first | exact g_finL (hY (by exact ⟨by omega, by omega, by omega, by subst_vars; assumption⟩)) (by first | rfl | omega | (subst_vars; first | rfl | omega)) (by first | rfl | (subst_vars; rfl)) | exact g_finL (hN (by first | omega | (subst_vars; omega) | exact ⟨by first | assumption | omega | (subst_vars; first | assumption | omega), by first | assumption | omega | (subst_vars; first | assumption | omega)⟩)) (by first | rfl | omega | (subst_vars; first | rfl | omega)) (by first | rfl | (subst_vars; rfl)) | (exfalso; omega)
set_option maxHeartbeats 4000000 in
set_option maxRecDepth 100000 in
theorem c_cutToSort {l : Launch} {M : Mem} {Pq : Option gV → Mem → Prop} (sf : Int) (v : Int) (h1 : 0 ≤ sf) (h2 : sf < 8) (hv : inL v) (hQ : Pq (some (gL (ctS (M (1 + 96 + 2 * sf.toNat) 1) v))) M) : gCtr l my_X7_cutToSort mb_X7_cutToSort 3 ((some .long)) 1 [gR (1 + 96 + 2 * sf.toNat), gL v] M Pq := by
  refine g_intro (by decide) (Nat.le_of_ble_eq_true rfl) ?_
  intro p e s m args below meth c D cy q A hK hr hlocks hw
  refine g_sub (L' := [(0, gR (1 + 96 + 2 * sf.toNat)), (1, gL v)]) [0, 1] rfl ?_
  refine g_aloadn (pc := 0) (i := 0) (x := 1 + 96 + 2 * sf.toNat) hK dd_X7_cutToSort_0 rfl rfl ?_
  refine g_geti (pc := 1) (f := (0, 0)) (j := 1) hK (kdm (kd_sh (by omega) (by omega))) rfl ef_7 (by decide) rfl kk_370 (nl_sh (by omega) (by omega)) dd_X7_cutToSort_1 rfl (fun x1 ex1 rx1 => ?_)
  rcases (show (x1 < 0 ∨ 3 < x1) ∨ x1 = 0 ∨ x1 = 1 ∨ x1 = 2 ∨ x1 = 3 by omega) with c2 | c2 | c2 | c2 | c2
  · refine g_tabOut (pc := 4) (tgt := 52) hK dd_X7_cutToSort_4 rx1 c2 (by decide) ?_
    refine g_lloadn (pc := 52) (i := 1) (x := v) hK dd_X7_cutToSort_52 rfl rfl ?_
    refine g_lconst (pc := 53) (x := 0) hK dd_X7_cutToSort_53 (by decide) ?_
    rcases Int.lt_trichotomy v 0 with c3 | c4 | c5
    · refine g_lcmp (pc := 54) (z := (-1)) hK dd_X7_cutToSort_54 hv (by decide) (by rw [if_neg (by omega), if_neg (by omega)]) ?_
      refine g_if_eq (pc := 55) (tgt := 62) hK dd_X7_cutToSort_55 (by decide) (by decide) (fun c6 => absurd c6 (by decide)) (fun _ => ?_)
      refine g_lconst (pc := 58) (x := 1) hK dd_X7_cutToSort_58 (by decide) ?_
      refine g_goto (pc := 59) (tgt := 63) hK dd_X7_cutToSort_59 (by decide) ?_
      refine g_lret (pc := 63) hK hr hlocks dd_X7_cutToSort_63 ?_
      exact g_finL hQ (by first | (rw [ctS_0 (by omega)]; done) | (rw [ctS_1 (by omega)]; done) | (rw [ctS_2 (by omega)]; done) | (rw [ctS_3 (by omega)]; done) | (rw [ctS_4 (by omega), if_pos (by omega)]; done) | (rw [ctS_4 (by omega), if_neg (by omega)]; done)) (by first | rfl | (subst_vars; rfl))
    · refine g_lcmp (pc := 54) (z := 0) hK dd_X7_cutToSort_54 hv (by decide) (by rw [if_neg (by omega), if_pos c4]) ?_
      refine g_if_eq (pc := 55) (tgt := 62) hK dd_X7_cutToSort_55 (by decide) (by decide) (fun _ => ?_) (fun c7 => absurd (by decide) c7)
      refine g_lconst (pc := 62) (x := 0) hK dd_X7_cutToSort_62 (by decide) ?_
      refine g_lret (pc := 63) hK hr hlocks dd_X7_cutToSort_63 ?_
      exact g_finL hQ (by first | (rw [ctS_0 (by omega)]; done) | (rw [ctS_1 (by omega)]; done) | (rw [ctS_2 (by omega)]; done) | (rw [ctS_3 (by omega)]; done) | (rw [ctS_4 (by omega), if_pos (by omega)]; done) | (rw [ctS_4 (by omega), if_neg (by omega)]; done)) (by first | rfl | (subst_vars; rfl))
    · refine g_lcmp (pc := 54) (z := 1) hK dd_X7_cutToSort_54 hv (by decide) (by rw [if_pos (by omega)]) ?_
      refine g_if_eq (pc := 55) (tgt := 62) hK dd_X7_cutToSort_55 (by decide) (by decide) (fun c8 => absurd c8 (by decide)) (fun _ => ?_)
      refine g_lconst (pc := 58) (x := 1) hK dd_X7_cutToSort_58 (by decide) ?_
      refine g_goto (pc := 59) (tgt := 63) hK dd_X7_cutToSort_59 (by decide) ?_
      refine g_lret (pc := 63) hK hr hlocks dd_X7_cutToSort_63 ?_
      exact g_finL hQ (by first | (rw [ctS_0 (by omega)]; done) | (rw [ctS_1 (by omega)]; done) | (rw [ctS_2 (by omega)]; done) | (rw [ctS_3 (by omega)]; done) | (rw [ctS_4 (by omega), if_pos (by omega)]; done) | (rw [ctS_4 (by omega), if_neg (by omega)]; done)) (by first | rfl | (subst_vars; rfl))
  · refine g_tabIn (pc := 4) (tgt := 36) hK dd_X7_cutToSort_4 rx1 (by omega) (by omega) (by rw [c2]; rfl) (by decide) ?_
    refine g_lloadn (pc := 36) (i := 1) (x := v) hK dd_X7_cutToSort_36 rfl rfl ?_
    refine g_l2i (pc := 37) (z := ji v) hK dd_X7_cutToSort_37 (ji_eq _) ?_
    refine g_i2b (pc := 38) (z := jb (ji v)) hK dd_X7_cutToSort_38 (jb_eq _) ?_
    refine g_i2l (pc := 39) hK dd_X7_cutToSort_39 (jb_in _) ?_
    refine g_lret (pc := 40) hK hr hlocks dd_X7_cutToSort_40 ?_
    exact g_finL hQ (by first | (rw [ctS_0 (by omega)]; done) | (rw [ctS_1 (by omega)]; done) | (rw [ctS_2 (by omega)]; done) | (rw [ctS_3 (by omega)]; done) | (rw [ctS_4 (by omega), if_pos (by omega)]; done) | (rw [ctS_4 (by omega), if_neg (by omega)]; done)) (by first | rfl | (subst_vars; rfl))
  · refine g_tabIn (pc := 4) (tgt := 41) hK dd_X7_cutToSort_4 rx1 (by omega) (by omega) (by rw [c2]; rfl) (by decide) ?_
    refine g_lloadn (pc := 41) (i := 1) (x := v) hK dd_X7_cutToSort_41 rfl rfl ?_
    refine g_l2i (pc := 42) (z := ji v) hK dd_X7_cutToSort_42 (ji_eq _) ?_
    refine g_i2s (pc := 43) (z := js (ji v)) hK dd_X7_cutToSort_43 (js_eq _) ?_
    refine g_i2l (pc := 44) hK dd_X7_cutToSort_44 (js_in _) ?_
    refine g_lret (pc := 45) hK hr hlocks dd_X7_cutToSort_45 ?_
    exact g_finL hQ (by first | (rw [ctS_0 (by omega)]; done) | (rw [ctS_1 (by omega)]; done) | (rw [ctS_2 (by omega)]; done) | (rw [ctS_3 (by omega)]; done) | (rw [ctS_4 (by omega), if_pos (by omega)]; done) | (rw [ctS_4 (by omega), if_neg (by omega)]; done)) (by first | rfl | (subst_vars; rfl))
  · refine g_tabIn (pc := 4) (tgt := 46) hK dd_X7_cutToSort_4 rx1 (by omega) (by omega) (by rw [c2]; rfl) (by decide) ?_
    refine g_lloadn (pc := 46) (i := 1) (x := v) hK dd_X7_cutToSort_46 rfl rfl ?_
    refine g_l2i (pc := 47) (z := ji v) hK dd_X7_cutToSort_47 (ji_eq _) ?_
    refine g_i2l (pc := 48) hK dd_X7_cutToSort_48 (ji_in _) ?_
    refine g_lret (pc := 49) hK hr hlocks dd_X7_cutToSort_49 ?_
    exact g_finL hQ (by first | (rw [ctS_0 (by omega)]; done) | (rw [ctS_1 (by omega)]; done) | (rw [ctS_2 (by omega)]; done) | (rw [ctS_3 (by omega)]; done) | (rw [ctS_4 (by omega), if_pos (by omega)]; done) | (rw [ctS_4 (by omega), if_neg (by omega)]; done)) (by first | rfl | (subst_vars; rfl))
  · refine g_tabIn (pc := 4) (tgt := 50) hK dd_X7_cutToSort_4 rx1 (by omega) (by omega) (by rw [c2]; rfl) (by decide) ?_
    refine g_lloadn (pc := 50) (i := 1) (x := v) hK dd_X7_cutToSort_50 rfl rfl ?_
    refine g_lret (pc := 51) hK hr hlocks dd_X7_cutToSort_51 ?_
    exact g_finL hQ (by first | (rw [ctS_0 (by omega)]; done) | (rw [ctS_1 (by omega)]; done) | (rw [ctS_2 (by omega)]; done) | (rw [ctS_3 (by omega)]; done) | (rw [ctS_4 (by omega), if_pos (by omega)]; done) | (rw [ctS_4 (by omega), if_neg (by omega)]; done)) (by first | rfl | (subst_vars; rfl))
set_option maxHeartbeats 4000000 in
set_option maxRecDepth 100000 in
theorem c_put {l : Launch} {M : Mem} {Pq : Option gV → Mem → Prop} (sf : Int) (i : Int) (v : Int) (h1 : 0 ≤ sf) (h2 : sf < 8) (hsz : 0 ≤ M (1 + 96 + 2 * sf.toNat) 2 ∧ M (1 + 96 + 2 * sf.toNat) 2 ≤ 40) (hi : inI i) (hv : inL v) (hY : ((0 ≤ M (1 + 96 + 2 * sf.toNat) 1 ∧ M (1 + 96 + 2 * sf.toNat) 1 ≤ 4) ∧ 0 ≤ i ∧ i ≤ M (1 + 96 + 2 * sf.toNat) 2 - 1) → Pq none (up M (1 + 96 + 2 * sf.toNat + 1) i.toNat (ctS (M (1 + 96 + 2 * sf.toNat) 1) v))) (hN : (¬ ((0 ≤ M (1 + 96 + 2 * sf.toNat) 1 ∧ M (1 + 96 + 2 * sf.toNat) 1 ≤ 4) ∧ 0 ≤ i ∧ i ≤ M (1 + 96 + 2 * sf.toNat) 2 - 1)) → Pq none M) : gCtr l my_X7_put mb_X7_put 4 ((none : Option Jvm.ClassFile.FieldType)) 3 [gR (1 + 96 + 2 * sf.toNat), gI i, gL v] M Pq := by
  refine g_intro (by decide) (Nat.le_of_ble_eq_true rfl) ?_
  intro p e s m args below meth c D cy q A hK hr hlocks hw
  refine g_sub (L' := [(0, gR (1 + 96 + 2 * sf.toNat)), (1, gI i), (2, gL v)]) [0, 1, 2] rfl ?_
  have hct := ctS_in (h := M (1 + 96 + 2 * sf.toNat) 1) hv
  refine g_aloadn (pc := 0) (i := 0) (x := 1 + 96 + 2 * sf.toNat) hK dd_X7_put_0 rfl rfl ?_
  refine g_callV (pc := 1) (As := []) hK ws_Shelf_32 md_X7_hasRow ⟨Nat.zero_le _, Nat.zero_le _⟩ ⟨by decide, by decide⟩ (kdm (kd_sh (by omega) (by omega))) rfl rfl dd_X7_put_1 rfl rfl (Nat.le_of_ble_eq_true rfl) (c_hasRow sf (by omega) (by omega) (fun c1 => g_r1 ?_) (fun c1 => g_r1 ?_))
  · refine g_if_eq (pc := 4) (tgt := 32) hK dd_X7_put_4 (by decide) (by decide) (fun c2 => absurd c2 (by decide)) (fun _ => ?_)
    refine g_iloadn (pc := 7) (i := 1) (x := i) hK dd_X7_put_7 rfl rfl ?_
    refine g_iconst (pc := 8) (x := 0) hK dd_X7_put_8 (by decide) ?_
    refine g_aloadn (pc := 9) (i := 0) (x := 1 + 96 + 2 * sf.toNat) hK dd_X7_put_9 rfl rfl ?_
    refine g_geti (pc := 10) (f := (0, 0)) (j := 2) hK (kdm (kd_sh (by omega) (by omega))) rfl ef_7 (by decide) rfl kk_372 (nl_sh (by omega) (by omega)) dd_X7_put_10 rfl (fun x3 ex3 rx3 => ?_)
    refine g_iconst (pc := 13) (x := 1) hK dd_X7_put_13 (by decide) ?_
    refine g_isub (pc := 14) (z := x3 - 1) hK dd_X7_put_14 rfl ?_
    refine g_callTN (pc := 15) (As := [gI i, gI 0, gI (x3 - 1)]) hK ws_Shelf_22 md_X11_within ⟨Nat.zero_le _, Nat.zero_le _⟩ ⟨by decide, by decide⟩ dd_X7_put_15 rfl rfl (Nat.le_of_ble_eq_true rfl) (c_within i 0 (x3 - 1) hi (by decide) ⟨by omega, by omega⟩ (fun c4 => g_r1 ?_) (fun c4 => g_r1 ?_))
    · refine g_if_eq (pc := 18) (tgt := 32) hK dd_X7_put_18 (by decide) (by decide) (fun c5 => absurd c5 (by decide)) (fun _ => ?_)
      refine g_aloadn (pc := 21) (i := 0) (x := 1 + 96 + 2 * sf.toNat) hK dd_X7_put_21 rfl rfl ?_
      refine g_getv (pc := 22) (f := (1, 1)) (j := 0) (v := gR (1 + 96 + 2 * sf.toNat + 1)) hK (kdm (kd_sh (by omega) (by omega))) rfl ef_7 (by decide) rfl kk_368 dd_X7_put_22 rfl ?_
      refine g_iloadn (pc := 25) (i := 1) (x := i) hK dd_X7_put_25 rfl rfl ?_
      refine g_aloadn (pc := 26) (i := 0) (x := 1 + 96 + 2 * sf.toNat) hK dd_X7_put_26 rfl rfl ?_
      refine g_lloadn (pc := 27) (i := 2) (x := v) hK dd_X7_put_27 rfl rfl ?_
      refine g_callV (pc := 28) (As := [gL v]) hK ws_Shelf_36 md_X7_cutToSort ⟨Nat.zero_le _, Nat.zero_le _⟩ ⟨by decide, by decide⟩ (kdm (kd_sh (by omega) (by omega))) rfl rfl dd_X7_put_28 rfl rfl (Nat.le_of_ble_eq_true rfl) (c_cutToSort sf v (by omega) (by omega) hv (g_r1 ?_))
      refine g_topL (fun y6 ey6 => ?_)
      refine g_last (pc := 31) hK (kdm (kd_el (by omega) (by omega))) (yl_el (by omega) (by omega)) (fun z => absurd (show 1 + 96 + 2 * sf.toNat + 1 = 200 from z) (by omega)) (by decide) dd_X7_put_31 (by omega) (by omega) ⟨by omega, by omega⟩ ?_
      refine g_vret (pc := 32) hK hr hlocks dd_X7_put_32 ?_
      first | exact g_finM (hY (by first | omega | (subst_vars; omega) | exact ⟨by first | assumption | omega | (subst_vars; first | assumption | omega), by first | assumption | omega | (subst_vars; first | assumption | omega)⟩)) (by first | rfl | (subst_vars; rfl)) | exact g_finM (hN (by first | omega | (subst_vars; omega) | exact ⟨by first | assumption | omega | (subst_vars; first | assumption | omega), by first | assumption | omega | (subst_vars; first | assumption | omega)⟩)) (by first | rfl | (subst_vars; rfl)) | (exfalso; omega)
    · refine g_if_eq (pc := 18) (tgt := 32) hK dd_X7_put_18 (by decide) (by decide) (fun _ => ?_) (fun c7 => absurd (by decide) c7)
      refine g_vret (pc := 32) hK hr hlocks dd_X7_put_32 ?_
      first | exact g_finM (hY (by first | omega | (subst_vars; omega) | exact ⟨by first | assumption | omega | (subst_vars; first | assumption | omega), by first | assumption | omega | (subst_vars; first | assumption | omega)⟩)) (by first | rfl | (subst_vars; rfl)) | exact g_finM (hN (by first | omega | (subst_vars; omega) | exact ⟨by first | assumption | omega | (subst_vars; first | assumption | omega), by first | assumption | omega | (subst_vars; first | assumption | omega)⟩)) (by first | rfl | (subst_vars; rfl)) | (exfalso; omega)
  · refine g_if_eq (pc := 4) (tgt := 32) hK dd_X7_put_4 (by decide) (by decide) (fun _ => ?_) (fun c8 => absurd (by decide) c8)
    refine g_vret (pc := 32) hK hr hlocks dd_X7_put_32 ?_
    first | exact g_finM (hY (by first | omega | (subst_vars; omega) | exact ⟨by first | assumption | omega | (subst_vars; first | assumption | omega), by first | assumption | omega | (subst_vars; first | assumption | omega)⟩)) (by first | rfl | (subst_vars; rfl)) | exact g_finM (hN (by first | omega | (subst_vars; omega) | exact ⟨by first | assumption | omega | (subst_vars; first | assumption | omega), by first | assumption | omega | (subst_vars; first | assumption | omega)⟩)) (by first | rfl | (subst_vars; rfl)) | (exfalso; omega)
set_option maxHeartbeats 4000000 in
set_option maxRecDepth 100000 in
theorem c_refRow {l : Launch} {M : Mem} {Pq : Option gV → Mem → Prop} (sf : Int) (hs : inI sf) (hB : (¬ (0 ≤ sf ∧ sf ≤ 7)) → Pq (some (gI (-2))) M) (hO : ((0 ≤ sf ∧ sf ≤ 7) ∧ 10 ≤ M (1 + 96 + 2 * sf.toNat) 1) → Pq (some (gI (-3))) M) (hN : ((0 ≤ sf ∧ sf ≤ 7) ∧ M (1 + 96 + 2 * sf.toNat) 1 = -1) → Pq (some (gI (-4))) M) (hF : ((0 ≤ sf ∧ sf ≤ 7) ∧ ¬ 10 ≤ M (1 + 96 + 2 * sf.toNat) 1 ∧ ¬ M (1 + 96 + 2 * sf.toNat) 1 = -1) → Pq (some (gI 0)) M) : gCtr l my_X11_refusalOfRow mb_X11_refusalOfRow 2 ((some .int)) 3 [gR 0, gI sf] M Pq := by
  refine g_intro (by decide) (Nat.le_of_ble_eq_true rfl) ?_
  intro p e s m args below meth c D cy q A hK hr hlocks hw
  refine g_sub (L' := [(0, gR 0), (1, gI sf)]) [0, 1] rfl ?_
  refine g_iloadn (pc := 0) (i := 1) (x := sf) hK dd_X11_refusalOfRow_0 rfl rfl ?_
  refine g_callT (pc := 1) (As := [gI sf]) hK ws_X_55 md_X11_isShelf ⟨Nat.zero_le _, Nat.zero_le _⟩ ⟨by decide, by decide⟩ dd_X11_refusalOfRow_1 rfl rfl (Nat.le_of_ble_eq_true rfl) (c_isShelf sf hs (fun c1 => g_r1 ?_) (fun c1 => g_r1 ?_))
  · refine g_if_ne (pc := 4) (tgt := 10) hK dd_X11_refusalOfRow_4 (by decide) (by decide) (fun _ => ?_) (fun c2 => absurd (by decide) c2)
    refine g_aloadn (pc := 10) (i := 0) (x := 0) hK dd_X11_refusalOfRow_10 rfl rfl ?_
    refine g_getv (pc := 11) (f := (1, 1)) (j := 0) (v := gR 1) hK (kdm kd_0) rfl ef_11 (by decide) rfl kk_382 dd_X11_refusalOfRow_11 rfl ?_
    refine g_iloadn (pc := 14) (i := 1) (x := sf) hK dd_X11_refusalOfRow_14 rfl rfl ?_
    refine g_aald (pc := 15) hK (kdm kd_1) (by decide) dd_X11_refusalOfRow_15 (by omega) (by omega) ?_
    refine g_topv (v := gR (1 + 96 + 2 * sf.toNat)) rfl ?_
    refine g_callV (pc := 16) (As := []) hK ws_X_82 md_X7_hasThing ⟨Nat.zero_le _, Nat.zero_le _⟩ ⟨by decide, by decide⟩ (kdm (kd_sh (by omega) (by omega))) rfl rfl dd_X11_refusalOfRow_16 rfl rfl (Nat.le_of_ble_eq_true rfl) (c_hasThing sf (by omega) (by omega) (fun c3 => g_r1 ?_) (fun c3 => g_r1 ?_))
    · refine g_if_eq (pc := 19) (tgt := 25) hK dd_X11_refusalOfRow_19 (by decide) (by decide) (fun c4 => absurd c4 (by decide)) (fun _ => ?_)
      refine g_bipush (pc := 22) (x := (-3)) hK dd_X11_refusalOfRow_22 (by decide) ?_
      refine g_iret (pc := 24) hK hr hlocks dd_X11_refusalOfRow_24 rfl ?_
      first | exact g_fin (hO (by first | omega | (subst_vars; omega) | exact ⟨by first | assumption | omega | (subst_vars; first | assumption | omega), by first | assumption | omega | (subst_vars; first | assumption | omega)⟩)) (by first | rfl | omega | (subst_vars; first | rfl | omega)) (by first | rfl | (subst_vars; rfl)) | (exfalso; omega)
    · refine g_if_eq (pc := 19) (tgt := 25) hK dd_X11_refusalOfRow_19 (by decide) (by decide) (fun _ => ?_) (fun c5 => absurd (by decide) c5)
      refine g_aloadn (pc := 25) (i := 0) (x := 0) hK dd_X11_refusalOfRow_25 rfl rfl ?_
      refine g_getv (pc := 26) (f := (1, 1)) (j := 0) (v := gR 1) hK (kdm kd_0) rfl ef_11 (by decide) rfl kk_382 dd_X11_refusalOfRow_26 rfl ?_
      refine g_iloadn (pc := 29) (i := 1) (x := sf) hK dd_X11_refusalOfRow_29 rfl rfl ?_
      refine g_aald (pc := 30) hK (kdm kd_1) (by decide) dd_X11_refusalOfRow_30 (by omega) (by omega) ?_
      refine g_topv (v := gR (1 + 96 + 2 * sf.toNat)) rfl ?_
      refine g_callV (pc := 31) (As := []) hK ws_X_92 md_X7_isEmpty ⟨Nat.zero_le _, Nat.zero_le _⟩ ⟨by decide, by decide⟩ (kdm (kd_sh (by omega) (by omega))) rfl rfl dd_X11_refusalOfRow_31 rfl rfl (Nat.le_of_ble_eq_true rfl) (c_isEmpty sf (by omega) (by omega) (fun c6 => g_r1 ?_) (fun c6 => g_r1 ?_))
      · refine g_if_eq (pc := 34) (tgt := 42) hK dd_X11_refusalOfRow_34 (by decide) (by decide) (fun c7 => absurd c7 (by decide)) (fun _ => ?_)
        refine g_bipush (pc := 37) (x := (-4)) hK dd_X11_refusalOfRow_37 (by decide) ?_
        refine g_goto (pc := 39) (tgt := 43) hK dd_X11_refusalOfRow_39 (by decide) ?_
        refine g_iret (pc := 43) hK hr hlocks dd_X11_refusalOfRow_43 rfl ?_
        first | exact g_fin (hN (by first | omega | (subst_vars; omega) | exact ⟨by first | assumption | omega | (subst_vars; first | assumption | omega), by first | assumption | omega | (subst_vars; first | assumption | omega)⟩)) (by first | rfl | omega | (subst_vars; first | rfl | omega)) (by first | rfl | (subst_vars; rfl)) | (exfalso; omega)
      · refine g_if_eq (pc := 34) (tgt := 42) hK dd_X11_refusalOfRow_34 (by decide) (by decide) (fun _ => ?_) (fun c8 => absurd (by decide) c8)
        refine g_iconst (pc := 42) (x := 0) hK dd_X11_refusalOfRow_42 (by decide) ?_
        refine g_iret (pc := 43) hK hr hlocks dd_X11_refusalOfRow_43 rfl ?_
        first | exact g_fin (hF (by first | omega | (subst_vars; omega) | exact ⟨by first | assumption | omega | (subst_vars; first | assumption | omega), by first | assumption | omega | (subst_vars; first | assumption | omega)⟩)) (by first | rfl | omega | (subst_vars; first | rfl | omega)) (by first | rfl | (subst_vars; rfl)) | (exfalso; omega)
  · refine g_if_ne (pc := 4) (tgt := 10) hK dd_X11_refusalOfRow_4 (by decide) (by decide) (fun c9 => absurd c9 (by decide)) (fun _ => ?_)
    refine g_bipush (pc := 7) (x := (-2)) hK dd_X11_refusalOfRow_7 (by decide) ?_
    refine g_iret (pc := 9) hK hr hlocks dd_X11_refusalOfRow_9 rfl ?_
    first | exact g_fin (hB (by first | omega | (subst_vars; omega) | exact ⟨by first | assumption | omega | (subst_vars; first | assumption | omega), by first | assumption | omega | (subst_vars; first | assumption | omega)⟩)) (by first | rfl | omega | (subst_vars; first | rfl | omega)) (by first | rfl | (subst_vars; rfl)) | (exfalso; omega)
set_option maxHeartbeats 4000000 in
set_option maxRecDepth 100000 in
theorem x_row {l : Launch} {M : Mem} {Pq : Option gV → Mem → Prop} (sf : Int) (so : Int) (n : Int) (h_sf : inI sf) (h_so : inI so) (h_n : inI n) (hrf : rfOK M) (hB : (¬ ((0 ≤ sf ∧ sf ≤ 7) ∧ (0 ≤ so ∧ so ≤ 4) ∧ 0 ≤ n ∧ n ≤ 40)) → Pq (some (gI (-2))) (rf M 0)) (hY : ((0 ≤ sf ∧ sf ≤ 7) ∧ (0 ≤ so ∧ so ≤ 4) ∧ 0 ≤ n ∧ n ≤ 40) → Pq (some (gI 1)) (tkR M sf so n)) : gCtr l my_X11_row mb_X11_row 4 ((some .int)) 3 [gR 0, gI sf, gI so, gI n] M Pq := by
  refine g_intro (by decide) (Nat.le_of_ble_eq_true rfl) ?_
  intro p e s m args below meth c D cy q A hK hr hlocks hw
  refine g_sub (L' := [(0, gR 0), (1, gI sf), (2, gI so), (3, gI n)]) [0, 1, 2, 3] rfl ?_
  refine g_iloadn (pc := 0) (i := 1) (x := sf) hK dd_X11_row_0 rfl rfl ?_
  refine g_callT (pc := 1) (As := [gI sf]) hK ws_X_55 md_X11_isShelf ⟨Nat.zero_le _, Nat.zero_le _⟩ ⟨by decide, by decide⟩ dd_X11_row_1 rfl rfl (Nat.le_of_ble_eq_true rfl) (c_isShelf sf h_sf (fun c1 => g_r1 ?_) (fun c1 => g_r1 ?_))
  · refine g_if_eq (pc := 4) (tgt := 26) hK dd_X11_row_4 (by decide) (by decide) (fun c2 => absurd c2 (by decide)) (fun _ => ?_)
    refine g_iloadn (pc := 7) (i := 2) (x := so) hK dd_X11_row_7 rfl rfl ?_
    refine g_iconst (pc := 8) (x := 0) hK dd_X11_row_8 (by decide) ?_
    refine g_iconst (pc := 9) (x := 4) hK dd_X11_row_9 (by decide) ?_
    refine g_callT (pc := 10) (As := [gI so, gI 0, gI 4]) hK ws_X_59 md_X11_within ⟨Nat.zero_le _, Nat.zero_le _⟩ ⟨by decide, by decide⟩ dd_X11_row_10 rfl rfl (Nat.le_of_ble_eq_true rfl) (c_within so 0 4 h_so (by decide) (by decide) (fun c3 => g_r1 ?_) (fun c3 => g_r1 ?_))
    · refine g_if_eq (pc := 13) (tgt := 26) hK dd_X11_row_13 (by decide) (by decide) (fun c4 => absurd c4 (by decide)) (fun _ => ?_)
      refine g_iloadn (pc := 16) (i := 3) (x := n) hK dd_X11_row_16 rfl rfl ?_
      refine g_iconst (pc := 17) (x := 0) hK dd_X11_row_17 (by decide) ?_
      refine g_bipush (pc := 18) (x := 40) hK dd_X11_row_18 (by decide) ?_
      refine g_callT (pc := 20) (As := [gI n, gI 0, gI 40]) hK ws_X_59 md_X11_within ⟨Nat.zero_le _, Nat.zero_le _⟩ ⟨by decide, by decide⟩ dd_X11_row_20 rfl rfl (Nat.le_of_ble_eq_true rfl) (c_within n 0 40 h_n (by decide) (by decide) (fun c5 => g_r1 ?_) (fun c5 => g_r1 ?_))
      · refine g_if_ne (pc := 23) (tgt := 33) hK dd_X11_row_23 (by decide) (by decide) (fun _ => ?_) (fun c6 => absurd (by decide) c6)
        refine g_aloadn (pc := 33) (i := 0) (x := 0) hK dd_X11_row_33 rfl rfl ?_
        refine g_getv (pc := 34) (f := (1, 1)) (j := 0) (v := gR 1) hK (kdm kd_0) rfl ef_11 (by decide) rfl kk_382 dd_X11_row_34 rfl ?_
        refine g_iloadn (pc := 37) (i := 1) (x := sf) hK dd_X11_row_37 rfl rfl ?_
        refine g_aald (pc := 38) hK (kdm kd_1) (by decide) dd_X11_row_38 (by omega) (by omega) ?_
        refine g_topv (v := gR (1 + 96 + 2 * sf.toNat)) rfl ?_
        refine g_iloadn (pc := 39) (i := 2) (x := so) hK dd_X11_row_39 rfl rfl ?_
        refine g_iloadn (pc := 40) (i := 3) (x := n) hK dd_X11_row_40 rfl rfl ?_
        refine g_callV (pc := 41) (As := [gI so, gI n]) hK ws_X_67 md_X7_takeRow ⟨Nat.zero_le _, Nat.zero_le _⟩ ⟨by decide, by decide⟩ (kdm (kd_sh (by omega) (by omega))) rfl rfl dd_X11_row_41 rfl rfl (Nat.le_of_ble_eq_true rfl) (c_takeRow sf so n (by omega) (by omega) h_so h_n (g_r0 ?_))
        refine g_iconst (pc := 44) (x := 1) hK dd_X11_row_44 (by decide) ?_
        refine g_iret (pc := 45) hK hr hlocks dd_X11_row_45 rfl ?_
        first | exact g_fin (hY (by first | omega | (subst_vars; omega) | exact ⟨by first | assumption | omega | (subst_vars; first | assumption | omega), by first | assumption | omega | (subst_vars; first | assumption | omega)⟩)) (by first | rfl | omega | (subst_vars; first | rfl | omega)) (by first | rfl | (subst_vars; rfl)) | (exfalso; omega)
      · refine g_if_ne (pc := 23) (tgt := 33) hK dd_X11_row_23 (by decide) (by decide) (fun c7 => absurd c7 (by decide)) (fun _ => ?_)
        refine g_aloadn (pc := 26) (i := 0) (x := 0) hK dd_X11_row_26 rfl rfl ?_
        refine g_bipush (pc := 27) (x := (-2)) hK dd_X11_row_27 (by decide) ?_
        refine g_callV (pc := 29) (As := [gI (-2)]) hK ws_X_63 md_X11_refuse ⟨Nat.zero_le _, Nat.zero_le _⟩ ⟨by decide, by decide⟩ (kdm kd_0) rfl rfl dd_X11_row_29 rfl rfl (Nat.le_of_ble_eq_true rfl) (c_refuse_0 hrf (g_r1 ?_))
        refine g_iret (pc := 32) hK hr hlocks dd_X11_row_32 rfl ?_
        first | exact g_fin (hB (by first | omega | (subst_vars; omega) | exact ⟨by first | assumption | omega | (subst_vars; first | assumption | omega), by first | assumption | omega | (subst_vars; first | assumption | omega)⟩)) (by first | rfl | omega | (subst_vars; first | rfl | omega)) (by first | rfl | (subst_vars; rfl)) | (exfalso; omega)
    · refine g_if_eq (pc := 13) (tgt := 26) hK dd_X11_row_13 (by decide) (by decide) (fun _ => ?_) (fun c8 => absurd (by decide) c8)
      refine g_aloadn (pc := 26) (i := 0) (x := 0) hK dd_X11_row_26 rfl rfl ?_
      refine g_bipush (pc := 27) (x := (-2)) hK dd_X11_row_27 (by decide) ?_
      refine g_callV (pc := 29) (As := [gI (-2)]) hK ws_X_63 md_X11_refuse ⟨Nat.zero_le _, Nat.zero_le _⟩ ⟨by decide, by decide⟩ (kdm kd_0) rfl rfl dd_X11_row_29 rfl rfl (Nat.le_of_ble_eq_true rfl) (c_refuse_0 hrf (g_r1 ?_))
      refine g_iret (pc := 32) hK hr hlocks dd_X11_row_32 rfl ?_
      first | exact g_fin (hB (by first | omega | (subst_vars; omega) | exact ⟨by first | assumption | omega | (subst_vars; first | assumption | omega), by first | assumption | omega | (subst_vars; first | assumption | omega)⟩)) (by first | rfl | omega | (subst_vars; first | rfl | omega)) (by first | rfl | (subst_vars; rfl)) | (exfalso; omega)
  · refine g_if_eq (pc := 4) (tgt := 26) hK dd_X11_row_4 (by decide) (by decide) (fun _ => ?_) (fun c9 => absurd (by decide) c9)
    refine g_aloadn (pc := 26) (i := 0) (x := 0) hK dd_X11_row_26 rfl rfl ?_
    refine g_bipush (pc := 27) (x := (-2)) hK dd_X11_row_27 (by decide) ?_
    refine g_callV (pc := 29) (As := [gI (-2)]) hK ws_X_63 md_X11_refuse ⟨Nat.zero_le _, Nat.zero_le _⟩ ⟨by decide, by decide⟩ (kdm kd_0) rfl rfl dd_X11_row_29 rfl rfl (Nat.le_of_ble_eq_true rfl) (c_refuse_0 hrf (g_r1 ?_))
    refine g_iret (pc := 32) hK hr hlocks dd_X11_row_32 rfl ?_
    first | exact g_fin (hB (by first | omega | (subst_vars; omega) | exact ⟨by first | assumption | omega | (subst_vars; first | assumption | omega), by first | assumption | omega | (subst_vars; first | assumption | omega)⟩)) (by first | rfl | omega | (subst_vars; first | rfl | omega)) (by first | rfl | (subst_vars; rfl)) | (exfalso; omega)
set_option maxHeartbeats 4000000 in
set_option maxRecDepth 100000 in
theorem x_set {l : Launch} {M : Mem} {Pq : Option gV → Mem → Prop} (sf : Int) (i : Int) (v : Int) (h_sf : inI sf) (h_i : inI i) (h_v : inL v) (hrf : rfOK M) (hsh : shOK M) (hB : (¬ (0 ≤ sf ∧ sf ≤ 7)) → Pq (some (gI (-2))) (rf M 0)) (hO : ((0 ≤ sf ∧ sf ≤ 7) ∧ 10 ≤ M (1 + 96 + 2 * sf.toNat) 1) → Pq (some (gI (-3))) (rf M 1)) (hN : ((0 ≤ sf ∧ sf ≤ 7) ∧ M (1 + 96 + 2 * sf.toNat) 1 = -1) → Pq (some (gI (-4))) (rf M 2)) (hI : (((0 ≤ sf ∧ sf ≤ 7) ∧ (0 ≤ M (1 + 96 + 2 * sf.toNat) 1 ∧ M (1 + 96 + 2 * sf.toNat) 1 ≤ 4)) ∧ ¬ (0 ≤ i ∧ i ≤ M (1 + 96 + 2 * sf.toNat) 2 - 1)) → Pq (some (gI (-2))) (rf M 0)) (hY : (((0 ≤ sf ∧ sf ≤ 7) ∧ (0 ≤ M (1 + 96 + 2 * sf.toNat) 1 ∧ M (1 + 96 + 2 * sf.toNat) 1 ≤ 4)) ∧ 0 ≤ i ∧ i ≤ M (1 + 96 + 2 * sf.toNat) 2 - 1) → Pq (some (gI 1)) (up M (1 + 96 + 2 * sf.toNat + 1) i.toNat (ctS (M (1 + 96 + 2 * sf.toNat) 1) v))) : gCtr l my_X11_set mb_X11_set 6 ((some .int)) 4 [gR 0, gI sf, gI i, gL v] M Pq := by
  refine g_intro (by decide) (Nat.le_of_ble_eq_true rfl) ?_
  intro p e s m args below meth c D cy q A hK hr hlocks hw
  refine g_sub (L' := [(0, gR 0), (1, gI sf), (2, gI i), (3, gL v)]) [0, 1, 2, 3] rfl ?_
  refine g_aloadn (pc := 0) (i := 0) (x := 0) hK dd_X11_set_0 rfl rfl ?_
  refine g_iloadn (pc := 1) (i := 1) (x := sf) hK dd_X11_set_1 rfl rfl ?_
  refine g_callV (pc := 2) (As := [gI sf]) hK ws_X_71 md_X11_refusalOfRow ⟨Nat.zero_le _, Nat.zero_le _⟩ ⟨by decide, by decide⟩ (kdm kd_0) rfl rfl dd_X11_set_2 rfl rfl (Nat.le_of_ble_eq_true rfl) (c_refRow sf h_sf (fun c1 => g_r1 ?_) (fun c2 => g_r1 ?_) (fun c3 => g_r1 ?_) (fun c4 => g_r1 ?_))
  · refine g_istore (pc := 5) (i := 5) (L' := [(0, gR 0), (1, gI sf), (2, gI i), (3, gL v), (5, gI (-2))]) hK dd_X11_set_5 (by decide) rfl ?_
    refine g_iload (pc := 7) (i := 5) (x := (-2)) hK dd_X11_set_7 rfl ?_
    refine g_if_eq (pc := 9) (tgt := 19) hK dd_X11_set_9 (by decide) (by decide) (fun c5 => absurd c5 (by decide)) (fun _ => ?_)
    refine g_aloadn (pc := 12) (i := 0) (x := 0) hK dd_X11_set_12 rfl rfl ?_
    refine g_iload (pc := 13) (i := 5) (x := (-2)) hK dd_X11_set_13 rfl ?_
    refine g_callV (pc := 15) (As := [gI (-2)]) hK ws_X_63 md_X11_refuse ⟨Nat.zero_le _, Nat.zero_le _⟩ ⟨by decide, by decide⟩ (kdm kd_0) rfl rfl dd_X11_set_15 rfl rfl (Nat.le_of_ble_eq_true rfl) (c_refuse_0 hrf (g_r1 ?_))
    refine g_iret (pc := 18) hK hr hlocks dd_X11_set_18 rfl ?_
    first | exact g_fin (hB (by first | omega | (subst_vars; omega) | exact ⟨by first | assumption | omega | (subst_vars; first | assumption | omega), by first | assumption | omega | (subst_vars; first | assumption | omega)⟩)) (by first | rfl | omega | (subst_vars; first | rfl | omega)) (by first | rfl | (subst_vars; rfl)) | exact g_fin (hI (by first | omega | (subst_vars; omega) | exact ⟨by first | assumption | omega | (subst_vars; first | assumption | omega), by first | assumption | omega | (subst_vars; first | assumption | omega)⟩)) (by first | rfl | omega | (subst_vars; first | rfl | omega)) (by first | rfl | (subst_vars; rfl)) | (exfalso; omega)
  · refine g_istore (pc := 5) (i := 5) (L' := [(0, gR 0), (1, gI sf), (2, gI i), (3, gL v), (5, gI (-3))]) hK dd_X11_set_5 (by decide) rfl ?_
    refine g_iload (pc := 7) (i := 5) (x := (-3)) hK dd_X11_set_7 rfl ?_
    refine g_if_eq (pc := 9) (tgt := 19) hK dd_X11_set_9 (by decide) (by decide) (fun c6 => absurd c6 (by decide)) (fun _ => ?_)
    refine g_aloadn (pc := 12) (i := 0) (x := 0) hK dd_X11_set_12 rfl rfl ?_
    refine g_iload (pc := 13) (i := 5) (x := (-3)) hK dd_X11_set_13 rfl ?_
    refine g_callV (pc := 15) (As := [gI (-3)]) hK ws_X_63 md_X11_refuse ⟨Nat.zero_le _, Nat.zero_le _⟩ ⟨by decide, by decide⟩ (kdm kd_0) rfl rfl dd_X11_set_15 rfl rfl (Nat.le_of_ble_eq_true rfl) (c_refuse_1 hrf (g_r1 ?_))
    refine g_iret (pc := 18) hK hr hlocks dd_X11_set_18 rfl ?_
    first | exact g_fin (hO (by first | omega | (subst_vars; omega) | exact ⟨by first | assumption | omega | (subst_vars; first | assumption | omega), by first | assumption | omega | (subst_vars; first | assumption | omega)⟩)) (by first | rfl | omega | (subst_vars; first | rfl | omega)) (by first | rfl | (subst_vars; rfl)) | (exfalso; omega)
  · refine g_istore (pc := 5) (i := 5) (L' := [(0, gR 0), (1, gI sf), (2, gI i), (3, gL v), (5, gI (-4))]) hK dd_X11_set_5 (by decide) rfl ?_
    refine g_iload (pc := 7) (i := 5) (x := (-4)) hK dd_X11_set_7 rfl ?_
    refine g_if_eq (pc := 9) (tgt := 19) hK dd_X11_set_9 (by decide) (by decide) (fun c7 => absurd c7 (by decide)) (fun _ => ?_)
    refine g_aloadn (pc := 12) (i := 0) (x := 0) hK dd_X11_set_12 rfl rfl ?_
    refine g_iload (pc := 13) (i := 5) (x := (-4)) hK dd_X11_set_13 rfl ?_
    refine g_callV (pc := 15) (As := [gI (-4)]) hK ws_X_63 md_X11_refuse ⟨Nat.zero_le _, Nat.zero_le _⟩ ⟨by decide, by decide⟩ (kdm kd_0) rfl rfl dd_X11_set_15 rfl rfl (Nat.le_of_ble_eq_true rfl) (c_refuse_2 hrf (g_r1 ?_))
    refine g_iret (pc := 18) hK hr hlocks dd_X11_set_18 rfl ?_
    first | exact g_fin (hN (by first | omega | (subst_vars; omega) | exact ⟨by first | assumption | omega | (subst_vars; first | assumption | omega), by first | assumption | omega | (subst_vars; first | assumption | omega)⟩)) (by first | rfl | omega | (subst_vars; first | rfl | omega)) (by first | rfl | (subst_vars; rfl)) | (exfalso; omega)
  · have hs_ := hsh sf (by omega) (by omega)
    refine g_istore (pc := 5) (i := 5) (L' := [(0, gR 0), (1, gI sf), (2, gI i), (3, gL v), (5, gI 0)]) hK dd_X11_set_5 (by decide) rfl ?_
    refine g_iload (pc := 7) (i := 5) (x := 0) hK dd_X11_set_7 rfl ?_
    refine g_if_eq (pc := 9) (tgt := 19) hK dd_X11_set_9 (by decide) (by decide) (fun _ => ?_) (fun c8 => absurd (by decide) c8)
    refine g_iloadn (pc := 19) (i := 2) (x := i) hK dd_X11_set_19 rfl rfl ?_
    refine g_iconst (pc := 20) (x := 0) hK dd_X11_set_20 (by decide) ?_
    refine g_aloadn (pc := 21) (i := 0) (x := 0) hK dd_X11_set_21 rfl rfl ?_
    refine g_getv (pc := 22) (f := (1, 1)) (j := 0) (v := gR 1) hK (kdm kd_0) rfl ef_11 (by decide) rfl kk_382 dd_X11_set_22 rfl ?_
    refine g_iloadn (pc := 25) (i := 1) (x := sf) hK dd_X11_set_25 rfl rfl ?_
    refine g_aald (pc := 26) hK (kdm kd_1) (by decide) dd_X11_set_26 (by omega) (by omega) ?_
    refine g_topv (v := gR (1 + 96 + 2 * sf.toNat)) rfl ?_
    refine g_geti (pc := 27) (f := (0, 0)) (j := 2) hK (kdm (kd_sh (by omega) (by omega))) rfl ef_7 (by decide) rfl kk_373 (nl_sh (by omega) (by omega)) dd_X11_set_27 rfl (fun x9 ex9 rx9 => ?_)
    refine g_iconst (pc := 30) (x := 1) hK dd_X11_set_30 (by decide) ?_
    refine g_isub (pc := 31) (z := x9 - 1) hK dd_X11_set_31 rfl ?_
    refine g_callT (pc := 32) (As := [gI i, gI 0, gI (x9 - 1)]) hK ws_X_59 md_X11_within ⟨Nat.zero_le _, Nat.zero_le _⟩ ⟨by decide, by decide⟩ dd_X11_set_32 rfl rfl (Nat.le_of_ble_eq_true rfl) (c_within i 0 (x9 - 1) h_i (by decide) ⟨by omega, by omega⟩ (fun c10 => g_r1 ?_) (fun c10 => g_r1 ?_))
    · refine g_if_ne (pc := 35) (tgt := 45) hK dd_X11_set_35 (by decide) (by decide) (fun _ => ?_) (fun c11 => absurd (by decide) c11)
      refine g_aloadn (pc := 45) (i := 0) (x := 0) hK dd_X11_set_45 rfl rfl ?_
      refine g_getv (pc := 46) (f := (1, 1)) (j := 0) (v := gR 1) hK (kdm kd_0) rfl ef_11 (by decide) rfl kk_382 dd_X11_set_46 rfl ?_
      refine g_iloadn (pc := 49) (i := 1) (x := sf) hK dd_X11_set_49 rfl rfl ?_
      refine g_aald (pc := 50) hK (kdm kd_1) (by decide) dd_X11_set_50 (by omega) (by omega) ?_
      refine g_topv (v := gR (1 + 96 + 2 * sf.toNat)) rfl ?_
      refine g_iloadn (pc := 51) (i := 2) (x := i) hK dd_X11_set_51 rfl rfl ?_
      refine g_lloadn (pc := 52) (i := 3) (x := v) hK dd_X11_set_52 rfl rfl ?_
      refine g_callV (pc := 53) (As := [gI i, gL v]) hK ws_X_78 md_X7_put ⟨Nat.zero_le _, Nat.zero_le _⟩ ⟨by decide, by decide⟩ (kdm (kd_sh (by omega) (by omega))) rfl rfl dd_X11_set_53 rfl rfl (Nat.le_of_ble_eq_true rfl) (c_put sf i v (by omega) (by omega) (hsh sf (by omega) (by omega)).2 h_i h_v (fun c12 => g_r0 ?_) (fun c13 => g_r0 ?_))
      · refine g_iconst (pc := 56) (x := 1) hK dd_X11_set_56 (by decide) ?_
        refine g_iret (pc := 57) hK hr hlocks dd_X11_set_57 rfl ?_
        first | exact g_fin (hY (by first | omega | (subst_vars; omega) | exact ⟨by first | assumption | omega | (subst_vars; first | assumption | omega), by first | assumption | omega | (subst_vars; first | assumption | omega)⟩)) (by first | rfl | omega | (subst_vars; first | rfl | omega)) (by first | rfl | (subst_vars; rfl)) | (exfalso; omega)
      · refine g_iconst (pc := 56) (x := 1) hK dd_X11_set_56 (by decide) ?_
        refine g_iret (pc := 57) hK hr hlocks dd_X11_set_57 rfl ?_
        first | exact g_fin (hY (by first | omega | (subst_vars; omega) | exact ⟨by first | assumption | omega | (subst_vars; first | assumption | omega), by first | assumption | omega | (subst_vars; first | assumption | omega)⟩)) (by first | rfl | omega | (subst_vars; first | rfl | omega)) (by first | rfl | (subst_vars; rfl)) | (exfalso; omega)
    · refine g_if_ne (pc := 35) (tgt := 45) hK dd_X11_set_35 (by decide) (by decide) (fun c14 => absurd c14 (by decide)) (fun _ => ?_)
      refine g_aloadn (pc := 38) (i := 0) (x := 0) hK dd_X11_set_38 rfl rfl ?_
      refine g_bipush (pc := 39) (x := (-2)) hK dd_X11_set_39 (by decide) ?_
      refine g_callV (pc := 41) (As := [gI (-2)]) hK ws_X_63 md_X11_refuse ⟨Nat.zero_le _, Nat.zero_le _⟩ ⟨by decide, by decide⟩ (kdm kd_0) rfl rfl dd_X11_set_41 rfl rfl (Nat.le_of_ble_eq_true rfl) (c_refuse_0 hrf (g_r1 ?_))
      refine g_iret (pc := 44) hK hr hlocks dd_X11_set_44 rfl ?_
      first | exact g_fin (hB (by first | omega | (subst_vars; omega) | exact ⟨by first | assumption | omega | (subst_vars; first | assumption | omega), by first | assumption | omega | (subst_vars; first | assumption | omega)⟩)) (by first | rfl | omega | (subst_vars; first | rfl | omega)) (by first | rfl | (subst_vars; rfl)) | exact g_fin (hI (by first | omega | (subst_vars; omega) | exact ⟨by first | assumption | omega | (subst_vars; first | assumption | omega), by first | assumption | omega | (subst_vars; first | assumption | omega)⟩)) (by first | rfl | omega | (subst_vars; first | rfl | omega)) (by first | rfl | (subst_vars; rfl)) | (exfalso; omega)
set_option maxHeartbeats 4000000 in
set_option maxRecDepth 100000 in
theorem x_copy {l : Launch} {M : Mem} {Pq : Option gV → Mem → Prop} (sp : Int) (sq : Int) (i : Int) (j : Int) (n : Int) (h_sp : inI sp) (h_sq : inI sq) (h_i : inI i) (h_j : inI j) (h_n : inI n) (hrf : rfOK M) (hsh : shOK M) (hB : (¬ ((0 ≤ sp ∧ sp ≤ 7) ∧ 0 ≤ sq ∧ sq ≤ 7)) → Pq (some (gI (-2))) (rf M 0)) (hO : (((0 ≤ sp ∧ sp ≤ 7) ∧ 0 ≤ sq ∧ sq ≤ 7) ∧ (10 ≤ M (1 + 96 + 2 * sp.toNat) 1 ∨ 10 ≤ M (1 + 96 + 2 * sq.toNat) 1 ∨ ((0 ≤ M (1 + 96 + 2 * sp.toNat) 1 ∧ M (1 + 96 + 2 * sp.toNat) 1 ≤ 4) ∧ (0 ≤ M (1 + 96 + 2 * sq.toNat) 1 ∧ M (1 + 96 + 2 * sq.toNat) 1 ≤ 4) ∧ ¬ M (1 + 96 + 2 * sp.toNat) 1 = M (1 + 96 + 2 * sq.toNat) 1))) → Pq (some (gI (-3))) (rf M 1)) (hN : (((0 ≤ sp ∧ sp ≤ 7) ∧ 0 ≤ sq ∧ sq ≤ 7) ∧ ¬ (10 ≤ M (1 + 96 + 2 * sp.toNat) 1 ∨ 10 ≤ M (1 + 96 + 2 * sq.toNat) 1 ∨ ((0 ≤ M (1 + 96 + 2 * sp.toNat) 1 ∧ M (1 + 96 + 2 * sp.toNat) 1 ≤ 4) ∧ (0 ≤ M (1 + 96 + 2 * sq.toNat) 1 ∧ M (1 + 96 + 2 * sq.toNat) 1 ≤ 4) ∧ ¬ M (1 + 96 + 2 * sp.toNat) 1 = M (1 + 96 + 2 * sq.toNat) 1)) ∧ (M (1 + 96 + 2 * sp.toNat) 1 = -1 ∨ M (1 + 96 + 2 * sq.toNat) 1 = -1)) → Pq (some (gI (-4))) (rf M 2)) (hP : (((0 ≤ sp ∧ sp ≤ 7) ∧ 0 ≤ sq ∧ sq ≤ 7) ∧ ¬ (10 ≤ M (1 + 96 + 2 * sp.toNat) 1 ∨ 10 ≤ M (1 + 96 + 2 * sq.toNat) 1 ∨ ((0 ≤ M (1 + 96 + 2 * sp.toNat) 1 ∧ M (1 + 96 + 2 * sp.toNat) 1 ≤ 4) ∧ (0 ≤ M (1 + 96 + 2 * sq.toNat) 1 ∧ M (1 + 96 + 2 * sq.toNat) 1 ≤ 4) ∧ ¬ M (1 + 96 + 2 * sp.toNat) 1 = M (1 + 96 + 2 * sq.toNat) 1)) ∧ ¬ (M (1 + 96 + 2 * sp.toNat) 1 = -1 ∨ M (1 + 96 + 2 * sq.toNat) 1 = -1) ∧ ¬ ((0 ≤ i ∧ i ≤ M (1 + 96 + 2 * sp.toNat) 2 ∧ 0 ≤ n ∧ n ≤ M (1 + 96 + 2 * sp.toNat) 2 - i) ∧ 0 ≤ j ∧ j ≤ M (1 + 96 + 2 * sq.toNat) 2 ∧ 0 ≤ n ∧ n ≤ M (1 + 96 + 2 * sq.toNat) 2 - j)) → Pq (some (gI (-2))) (rf M 0)) (hY : (((0 ≤ sp ∧ sp ≤ 7) ∧ 0 ≤ sq ∧ sq ≤ 7) ∧ ¬ (10 ≤ M (1 + 96 + 2 * sp.toNat) 1 ∨ 10 ≤ M (1 + 96 + 2 * sq.toNat) 1 ∨ ((0 ≤ M (1 + 96 + 2 * sp.toNat) 1 ∧ M (1 + 96 + 2 * sp.toNat) 1 ≤ 4) ∧ (0 ≤ M (1 + 96 + 2 * sq.toNat) 1 ∧ M (1 + 96 + 2 * sq.toNat) 1 ≤ 4) ∧ ¬ M (1 + 96 + 2 * sp.toNat) 1 = M (1 + 96 + 2 * sq.toNat) 1)) ∧ ¬ (M (1 + 96 + 2 * sp.toNat) 1 = -1 ∨ M (1 + 96 + 2 * sq.toNat) 1 = -1) ∧ ((0 ≤ i ∧ i ≤ M (1 + 96 + 2 * sp.toNat) 2 ∧ 0 ≤ n ∧ n ≤ M (1 + 96 + 2 * sp.toNat) 2 - i) ∧ 0 ≤ j ∧ j ≤ M (1 + 96 + 2 * sq.toNat) 2 ∧ 0 ≤ n ∧ n ≤ M (1 + 96 + 2 * sq.toNat) 2 - j)) → Pq (some (gI n)) (cp M (1 + 96 + 2 * sq.toNat + 1) (M (1 + 96 + 2 * sp.toNat + 1)) i.toNat j.toNat n.toNat)) : gCtr l my_X11_copy mb_X11_copy 8 ((some .int)) 3 [gR 0, gI sp, gI sq, gI i, gI j, gI n] M Pq := by
  refine g_intro (by decide) (Nat.le_of_ble_eq_true rfl) ?_
  intro p e s m args below meth c D cy q A hK hr hlocks hw
  refine g_sub (L' := [(0, gR 0), (1, gI sp), (2, gI sq), (3, gI i), (4, gI j), (5, gI n)]) [0, 1, 2, 3, 4, 5] rfl ?_
  refine g_iloadn (pc := 0) (i := 1) (x := sp) hK dd_X11_copy_0 rfl rfl ?_
  refine g_callT (pc := 1) (As := [gI sp]) hK ws_X_55 md_X11_isShelf ⟨Nat.zero_le _, Nat.zero_le _⟩ ⟨by decide, by decide⟩ dd_X11_copy_1 rfl rfl (Nat.le_of_ble_eq_true rfl) (c_isShelf sp h_sp (fun c1 => g_r1 ?_) (fun c1 => g_r1 ?_))
  · refine g_if_eq (pc := 4) (tgt := 14) hK dd_X11_copy_4 (by decide) (by decide) (fun c2 => absurd c2 (by decide)) (fun _ => ?_)
    refine g_iloadn (pc := 7) (i := 2) (x := sq) hK dd_X11_copy_7 rfl rfl ?_
    refine g_callT (pc := 8) (As := [gI sq]) hK ws_X_55 md_X11_isShelf ⟨Nat.zero_le _, Nat.zero_le _⟩ ⟨by decide, by decide⟩ dd_X11_copy_8 rfl rfl (Nat.le_of_ble_eq_true rfl) (c_isShelf sq h_sq (fun c3 => g_r1 ?_) (fun c3 => g_r1 ?_))
    · refine g_if_ne (pc := 11) (tgt := 21) hK dd_X11_copy_11 (by decide) (by decide) (fun _ => ?_) (fun c4 => absurd (by decide) c4)
      have hs1_ := hsh sp (by omega) (by omega)
      have hs2_ := hsh sq (by omega) (by omega)
      refine g_aloadn (pc := 21) (i := 0) (x := 0) hK dd_X11_copy_21 rfl rfl ?_
      refine g_getv (pc := 22) (f := (1, 1)) (j := 0) (v := gR 1) hK (kdm kd_0) rfl ef_11 (by decide) rfl kk_382 dd_X11_copy_22 rfl ?_
      refine g_iloadn (pc := 25) (i := 1) (x := sp) hK dd_X11_copy_25 rfl rfl ?_
      refine g_aald (pc := 26) hK (kdm kd_1) (by decide) dd_X11_copy_26 (by omega) (by omega) ?_
      refine g_topv (v := gR (1 + 96 + 2 * sp.toNat)) rfl ?_
      refine g_astore (pc := 27) (i := 6) (L' := [(0, gR 0), (1, gI sp), (2, gI sq), (3, gI i), (4, gI j), (5, gI n), (6, gR (1 + 96 + 2 * sp.toNat))]) hK dd_X11_copy_27 (by decide) rfl ?_
      refine g_aloadn (pc := 29) (i := 0) (x := 0) hK dd_X11_copy_29 rfl rfl ?_
      refine g_getv (pc := 30) (f := (1, 1)) (j := 0) (v := gR 1) hK (kdm kd_0) rfl ef_11 (by decide) rfl kk_382 dd_X11_copy_30 rfl ?_
      refine g_iloadn (pc := 33) (i := 2) (x := sq) hK dd_X11_copy_33 rfl rfl ?_
      refine g_aald (pc := 34) hK (kdm kd_1) (by decide) dd_X11_copy_34 (by omega) (by omega) ?_
      refine g_topv (v := gR (1 + 96 + 2 * sq.toNat)) rfl ?_
      refine g_astore (pc := 35) (i := 7) (L' := [(0, gR 0), (1, gI sp), (2, gI sq), (3, gI i), (4, gI j), (5, gI n), (6, gR (1 + 96 + 2 * sp.toNat)), (7, gR (1 + 96 + 2 * sq.toNat))]) hK dd_X11_copy_35 (by decide) rfl ?_
      refine g_aload (pc := 37) (i := 6) (x := 1 + 96 + 2 * sp.toNat) hK dd_X11_copy_37 rfl ?_
      refine g_callV (pc := 39) (As := []) hK ws_X_82 md_X7_hasThing ⟨Nat.zero_le _, Nat.zero_le _⟩ ⟨by decide, by decide⟩ (kdm (kd_sh (by omega) (by omega))) rfl rfl dd_X11_copy_39 rfl rfl (Nat.le_of_ble_eq_true rfl) (c_hasThing sp (by omega) (by omega) (fun c5 => g_r1 ?_) (fun c5 => g_r1 ?_))
      · refine g_if_ne (pc := 42) (tgt := 53) hK dd_X11_copy_42 (by decide) (by decide) (fun _ => ?_) (fun c6 => absurd (by decide) c6)
        refine g_aloadn (pc := 53) (i := 0) (x := 0) hK dd_X11_copy_53 rfl rfl ?_
        refine g_bipush (pc := 54) (x := (-3)) hK dd_X11_copy_54 (by decide) ?_
        refine g_callV (pc := 56) (As := [gI (-3)]) hK ws_X_63 md_X11_refuse ⟨Nat.zero_le _, Nat.zero_le _⟩ ⟨by decide, by decide⟩ (kdm kd_0) rfl rfl dd_X11_copy_56 rfl rfl (Nat.le_of_ble_eq_true rfl) (c_refuse_1 hrf (g_r1 ?_))
        refine g_iret (pc := 59) hK hr hlocks dd_X11_copy_59 rfl ?_
        first | exact g_fin (hO (by first | omega | (subst_vars; omega) | exact ⟨by first | assumption | omega | (subst_vars; first | assumption | omega), by first | assumption | omega | (subst_vars; first | assumption | omega)⟩)) (by first | rfl | omega | (subst_vars; first | rfl | omega)) (by first | rfl | (subst_vars; rfl)) | exact g_fin (hY (by first | omega | (subst_vars; omega) | exact ⟨by first | assumption | omega | (subst_vars; first | assumption | omega), by first | assumption | omega | (subst_vars; first | assumption | omega)⟩)) (by first | rfl | omega | (subst_vars; first | rfl | omega)) (by first | rfl | (subst_vars; rfl)) | (exfalso; omega)
      · refine g_if_ne (pc := 42) (tgt := 53) hK dd_X11_copy_42 (by decide) (by decide) (fun c7 => absurd c7 (by decide)) (fun _ => ?_)
        refine g_aload (pc := 45) (i := 7) (x := 1 + 96 + 2 * sq.toNat) hK dd_X11_copy_45 rfl ?_
        refine g_callV (pc := 47) (As := []) hK ws_X_82 md_X7_hasThing ⟨Nat.zero_le _, Nat.zero_le _⟩ ⟨by decide, by decide⟩ (kdm (kd_sh (by omega) (by omega))) rfl rfl dd_X11_copy_47 rfl rfl (Nat.le_of_ble_eq_true rfl) (c_hasThing sq (by omega) (by omega) (fun c8 => g_r1 ?_) (fun c8 => g_r1 ?_))
        · refine g_if_eq (pc := 50) (tgt := 60) hK dd_X11_copy_50 (by decide) (by decide) (fun c9 => absurd c9 (by decide)) (fun _ => ?_)
          refine g_aloadn (pc := 53) (i := 0) (x := 0) hK dd_X11_copy_53 rfl rfl ?_
          refine g_bipush (pc := 54) (x := (-3)) hK dd_X11_copy_54 (by decide) ?_
          refine g_callV (pc := 56) (As := [gI (-3)]) hK ws_X_63 md_X11_refuse ⟨Nat.zero_le _, Nat.zero_le _⟩ ⟨by decide, by decide⟩ (kdm kd_0) rfl rfl dd_X11_copy_56 rfl rfl (Nat.le_of_ble_eq_true rfl) (c_refuse_1 hrf (g_r1 ?_))
          refine g_iret (pc := 59) hK hr hlocks dd_X11_copy_59 rfl ?_
          first | exact g_fin (hO (by first | omega | (subst_vars; omega) | exact ⟨by first | assumption | omega | (subst_vars; first | assumption | omega), by first | assumption | omega | (subst_vars; first | assumption | omega)⟩)) (by first | rfl | omega | (subst_vars; first | rfl | omega)) (by first | rfl | (subst_vars; rfl)) | exact g_fin (hY (by first | omega | (subst_vars; omega) | exact ⟨by first | assumption | omega | (subst_vars; first | assumption | omega), by first | assumption | omega | (subst_vars; first | assumption | omega)⟩)) (by first | rfl | omega | (subst_vars; first | rfl | omega)) (by first | rfl | (subst_vars; rfl)) | (exfalso; omega)
        · refine g_if_eq (pc := 50) (tgt := 60) hK dd_X11_copy_50 (by decide) (by decide) (fun _ => ?_) (fun c10 => absurd (by decide) c10)
          refine g_aload (pc := 60) (i := 6) (x := 1 + 96 + 2 * sp.toNat) hK dd_X11_copy_60 rfl ?_
          refine g_callV (pc := 62) (As := []) hK ws_X_86 md_X7_hasRow ⟨Nat.zero_le _, Nat.zero_le _⟩ ⟨by decide, by decide⟩ (kdm (kd_sh (by omega) (by omega))) rfl rfl dd_X11_copy_62 rfl rfl (Nat.le_of_ble_eq_true rfl) (c_hasRow sp (by omega) (by omega) (fun c11 => g_r1 ?_) (fun c11 => g_r1 ?_))
          · refine g_if_eq (pc := 65) (tgt := 96) hK dd_X11_copy_65 (by decide) (by decide) (fun c12 => absurd c12 (by decide)) (fun _ => ?_)
            refine g_aload (pc := 68) (i := 7) (x := 1 + 96 + 2 * sq.toNat) hK dd_X11_copy_68 rfl ?_
            refine g_callV (pc := 70) (As := []) hK ws_X_86 md_X7_hasRow ⟨Nat.zero_le _, Nat.zero_le _⟩ ⟨by decide, by decide⟩ (kdm (kd_sh (by omega) (by omega))) rfl rfl dd_X11_copy_70 rfl rfl (Nat.le_of_ble_eq_true rfl) (c_hasRow sq (by omega) (by omega) (fun c13 => g_r1 ?_) (fun c13 => g_r1 ?_))
            · refine g_if_eq (pc := 73) (tgt := 96) hK dd_X11_copy_73 (by decide) (by decide) (fun c14 => absurd c14 (by decide)) (fun _ => ?_)
              refine g_aload (pc := 76) (i := 6) (x := 1 + 96 + 2 * sp.toNat) hK dd_X11_copy_76 rfl ?_
              refine g_geti (pc := 78) (f := (0, 0)) (j := 1) hK (kdm (kd_sh (by omega) (by omega))) rfl ef_7 (by decide) rfl kk_371 (nl_sh (by omega) (by omega)) dd_X11_copy_78 rfl (fun x15 ex15 rx15 => ?_)
              refine g_aload (pc := 81) (i := 7) (x := 1 + 96 + 2 * sq.toNat) hK dd_X11_copy_81 rfl ?_
              refine g_geti (pc := 83) (f := (0, 0)) (j := 1) hK (kdm (kd_sh (by omega) (by omega))) rfl ef_7 (by decide) rfl kk_371 (nl_sh (by omega) (by omega)) dd_X11_copy_83 rfl (fun x16 ex16 rx16 => ?_)
              refine g_icmp_eq (pc := 86) (tgt := 96) hK dd_X11_copy_86 (by decide) rx15 rx16 (fun c17 => ?_) (fun c17 => ?_)
              · refine g_aload (pc := 96) (i := 6) (x := 1 + 96 + 2 * sp.toNat) hK dd_X11_copy_96 rfl ?_
                refine g_callV (pc := 98) (As := []) hK ws_X_92 md_X7_isEmpty ⟨Nat.zero_le _, Nat.zero_le _⟩ ⟨by decide, by decide⟩ (kdm (kd_sh (by omega) (by omega))) rfl rfl dd_X11_copy_98 rfl rfl (Nat.le_of_ble_eq_true rfl) (c_isEmpty sp (by omega) (by omega) (fun c18 => g_r1 ?_) (fun c18 => g_r1 ?_))
                · refine g_if_ne (pc := 101) (tgt := 112) hK dd_X11_copy_101 (by decide) (by decide) (fun _ => ?_) (fun c19 => absurd (by decide) c19)
                  refine g_aloadn (pc := 112) (i := 0) (x := 0) hK dd_X11_copy_112 rfl rfl ?_
                  refine g_bipush (pc := 113) (x := (-4)) hK dd_X11_copy_113 (by decide) ?_
                  refine g_callV (pc := 115) (As := [gI (-4)]) hK ws_X_63 md_X11_refuse ⟨Nat.zero_le _, Nat.zero_le _⟩ ⟨by decide, by decide⟩ (kdm kd_0) rfl rfl dd_X11_copy_115 rfl rfl (Nat.le_of_ble_eq_true rfl) (c_refuse_2 hrf (g_r1 ?_))
                  refine g_iret (pc := 118) hK hr hlocks dd_X11_copy_118 rfl ?_
                  first | exact g_fin (hN (by first | omega | (subst_vars; omega) | exact ⟨by first | assumption | omega | (subst_vars; first | assumption | omega), by first | assumption | omega | (subst_vars; first | assumption | omega)⟩)) (by first | rfl | omega | (subst_vars; first | rfl | omega)) (by first | rfl | (subst_vars; rfl)) | exact g_fin (hY (by first | omega | (subst_vars; omega) | exact ⟨by first | assumption | omega | (subst_vars; first | assumption | omega), by first | assumption | omega | (subst_vars; first | assumption | omega)⟩)) (by first | rfl | omega | (subst_vars; first | rfl | omega)) (by first | rfl | (subst_vars; rfl)) | (exfalso; omega)
                · refine g_if_ne (pc := 101) (tgt := 112) hK dd_X11_copy_101 (by decide) (by decide) (fun c20 => absurd c20 (by decide)) (fun _ => ?_)
                  refine g_aload (pc := 104) (i := 7) (x := 1 + 96 + 2 * sq.toNat) hK dd_X11_copy_104 rfl ?_
                  refine g_callV (pc := 106) (As := []) hK ws_X_92 md_X7_isEmpty ⟨Nat.zero_le _, Nat.zero_le _⟩ ⟨by decide, by decide⟩ (kdm (kd_sh (by omega) (by omega))) rfl rfl dd_X11_copy_106 rfl rfl (Nat.le_of_ble_eq_true rfl) (c_isEmpty sq (by omega) (by omega) (fun c21 => g_r1 ?_) (fun c21 => g_r1 ?_))
                  · refine g_if_eq (pc := 109) (tgt := 119) hK dd_X11_copy_109 (by decide) (by decide) (fun c22 => absurd c22 (by decide)) (fun _ => ?_)
                    refine g_aloadn (pc := 112) (i := 0) (x := 0) hK dd_X11_copy_112 rfl rfl ?_
                    refine g_bipush (pc := 113) (x := (-4)) hK dd_X11_copy_113 (by decide) ?_
                    refine g_callV (pc := 115) (As := [gI (-4)]) hK ws_X_63 md_X11_refuse ⟨Nat.zero_le _, Nat.zero_le _⟩ ⟨by decide, by decide⟩ (kdm kd_0) rfl rfl dd_X11_copy_115 rfl rfl (Nat.le_of_ble_eq_true rfl) (c_refuse_2 hrf (g_r1 ?_))
                    refine g_iret (pc := 118) hK hr hlocks dd_X11_copy_118 rfl ?_
                    first | exact g_fin (hN (by first | omega | (subst_vars; omega) | exact ⟨by first | assumption | omega | (subst_vars; first | assumption | omega), by first | assumption | omega | (subst_vars; first | assumption | omega)⟩)) (by first | rfl | omega | (subst_vars; first | rfl | omega)) (by first | rfl | (subst_vars; rfl)) | exact g_fin (hY (by first | omega | (subst_vars; omega) | exact ⟨by first | assumption | omega | (subst_vars; first | assumption | omega), by first | assumption | omega | (subst_vars; first | assumption | omega)⟩)) (by first | rfl | omega | (subst_vars; first | rfl | omega)) (by first | rfl | (subst_vars; rfl)) | (exfalso; omega)
                  · refine g_if_eq (pc := 109) (tgt := 119) hK dd_X11_copy_109 (by decide) (by decide) (fun _ => ?_) (fun c23 => absurd (by decide) c23)
                    refine g_aload (pc := 119) (i := 6) (x := 1 + 96 + 2 * sp.toNat) hK dd_X11_copy_119 rfl ?_
                    refine g_iloadn (pc := 121) (i := 3) (x := i) hK dd_X11_copy_121 rfl rfl ?_
                    refine g_iload (pc := 122) (i := 5) (x := n) hK dd_X11_copy_122 rfl ?_
                    refine g_callV (pc := 124) (As := [gI i, gI n]) hK ws_X_95 md_X7_hasPlaces ⟨Nat.zero_le _, Nat.zero_le _⟩ ⟨by decide, by decide⟩ (kdm (kd_sh (by omega) (by omega))) rfl rfl dd_X11_copy_124 rfl rfl (Nat.le_of_ble_eq_true rfl) (c_hasPlaces sp i n (by omega) (by omega) (hsh sp (by omega) (by omega)).2 h_i h_n (fun c24 => g_r1 ?_) (fun c24 => g_r1 ?_))
                    · refine g_if_eq (pc := 127) (tgt := 142) hK dd_X11_copy_127 (by decide) (by decide) (fun c25 => absurd c25 (by decide)) (fun _ => ?_)
                      refine g_aload (pc := 130) (i := 7) (x := 1 + 96 + 2 * sq.toNat) hK dd_X11_copy_130 rfl ?_
                      refine g_iload (pc := 132) (i := 4) (x := j) hK dd_X11_copy_132 rfl ?_
                      refine g_iload (pc := 134) (i := 5) (x := n) hK dd_X11_copy_134 rfl ?_
                      refine g_callV (pc := 136) (As := [gI j, gI n]) hK ws_X_95 md_X7_hasPlaces ⟨Nat.zero_le _, Nat.zero_le _⟩ ⟨by decide, by decide⟩ (kdm (kd_sh (by omega) (by omega))) rfl rfl dd_X11_copy_136 rfl rfl (Nat.le_of_ble_eq_true rfl) (c_hasPlaces sq j n (by omega) (by omega) (hsh sq (by omega) (by omega)).2 h_j h_n (fun c26 => g_r1 ?_) (fun c26 => g_r1 ?_))
                      · refine g_if_ne (pc := 139) (tgt := 149) hK dd_X11_copy_139 (by decide) (by decide) (fun _ => ?_) (fun c27 => absurd (by decide) c27)
                        refine g_aload (pc := 149) (i := 6) (x := 1 + 96 + 2 * sp.toNat) hK dd_X11_copy_149 rfl ?_
                        refine g_getv (pc := 151) (f := (1, 1)) (j := 0) (v := gR (1 + 96 + 2 * sp.toNat + 1)) hK (kdm (kd_sh (by omega) (by omega))) rfl ef_7 (by decide) rfl kk_369 dd_X11_copy_151 rfl ?_
                        refine g_iloadn (pc := 154) (i := 3) (x := i) hK dd_X11_copy_154 rfl rfl ?_
                        refine g_aload (pc := 155) (i := 7) (x := 1 + 96 + 2 * sq.toNat) hK dd_X11_copy_155 rfl ?_
                        refine g_getv (pc := 157) (f := (1, 1)) (j := 0) (v := gR (1 + 96 + 2 * sq.toNat + 1)) hK (kdm (kd_sh (by omega) (by omega))) rfl ef_7 (by decide) rfl kk_369 dd_X11_copy_157 rfl ?_
                        refine g_iload (pc := 160) (i := 4) (x := j) hK dd_X11_copy_160 rfl ?_
                        refine g_iload (pc := 162) (i := 5) (x := n) hK dd_X11_copy_162 rfl ?_
                        refine g_copyl (pc := 164) hK wa_X_103 (kdm (kd_el (by omega) (by omega))) (kdm (kd_el (by omega) (by omega))) (yl_el (by omega) (by omega)) (yl_el (by omega) (by omega)) (fun z => absurd (show 1 + 96 + 2 * sq.toNat + 1 = 200 from z) (by omega)) (by decide) (by decide) (by omega) (by omega) (by omega) (by omega) (by omega) ⟨by decide, by decide⟩ (Nat.le_of_ble_eq_true rfl) dd_X11_copy_164 ?_
                        refine g_iload (pc := 167) (i := 5) (x := n) hK dd_X11_copy_167 rfl ?_
                        refine g_iret (pc := 169) hK hr hlocks dd_X11_copy_169 rfl ?_
                        first | exact g_fin (hB (by first | omega | (subst_vars; omega) | exact ⟨by first | assumption | omega | (subst_vars; first | assumption | omega), by first | assumption | omega | (subst_vars; first | assumption | omega)⟩)) (by first | rfl | omega | (subst_vars; first | rfl | omega)) (by first | rfl | (subst_vars; rfl)) | exact g_fin (hO (by first | omega | (subst_vars; omega) | exact ⟨by first | assumption | omega | (subst_vars; first | assumption | omega), by first | assumption | omega | (subst_vars; first | assumption | omega)⟩)) (by first | rfl | omega | (subst_vars; first | rfl | omega)) (by first | rfl | (subst_vars; rfl)) | exact g_fin (hN (by first | omega | (subst_vars; omega) | exact ⟨by first | assumption | omega | (subst_vars; first | assumption | omega), by first | assumption | omega | (subst_vars; first | assumption | omega)⟩)) (by first | rfl | omega | (subst_vars; first | rfl | omega)) (by first | rfl | (subst_vars; rfl)) | exact g_fin (hP (by first | omega | (subst_vars; omega) | exact ⟨by first | assumption | omega | (subst_vars; first | assumption | omega), by first | assumption | omega | (subst_vars; first | assumption | omega)⟩)) (by first | rfl | omega | (subst_vars; first | rfl | omega)) (by first | rfl | (subst_vars; rfl)) | exact g_fin (hY (by first | omega | (subst_vars; omega) | exact ⟨by first | assumption | omega | (subst_vars; first | assumption | omega), by first | assumption | omega | (subst_vars; first | assumption | omega)⟩)) (by first | rfl | omega | (subst_vars; first | rfl | omega)) (by first | rfl | (subst_vars; rfl)) | (exfalso; omega)
                      · refine g_if_ne (pc := 139) (tgt := 149) hK dd_X11_copy_139 (by decide) (by decide) (fun c28 => absurd c28 (by decide)) (fun _ => ?_)
                        refine g_aloadn (pc := 142) (i := 0) (x := 0) hK dd_X11_copy_142 rfl rfl ?_
                        refine g_bipush (pc := 143) (x := (-2)) hK dd_X11_copy_143 (by decide) ?_
                        refine g_callV (pc := 145) (As := [gI (-2)]) hK ws_X_63 md_X11_refuse ⟨Nat.zero_le _, Nat.zero_le _⟩ ⟨by decide, by decide⟩ (kdm kd_0) rfl rfl dd_X11_copy_145 rfl rfl (Nat.le_of_ble_eq_true rfl) (c_refuse_0 hrf (g_r1 ?_))
                        refine g_iret (pc := 148) hK hr hlocks dd_X11_copy_148 rfl ?_
                        first | exact g_fin (hB (by first | omega | (subst_vars; omega) | exact ⟨by first | assumption | omega | (subst_vars; first | assumption | omega), by first | assumption | omega | (subst_vars; first | assumption | omega)⟩)) (by first | rfl | omega | (subst_vars; first | rfl | omega)) (by first | rfl | (subst_vars; rfl)) | exact g_fin (hP (by first | omega | (subst_vars; omega) | exact ⟨by first | assumption | omega | (subst_vars; first | assumption | omega), by first | assumption | omega | (subst_vars; first | assumption | omega)⟩)) (by first | rfl | omega | (subst_vars; first | rfl | omega)) (by first | rfl | (subst_vars; rfl)) | exact g_fin (hY (by first | omega | (subst_vars; omega) | exact ⟨by first | assumption | omega | (subst_vars; first | assumption | omega), by first | assumption | omega | (subst_vars; first | assumption | omega)⟩)) (by first | rfl | omega | (subst_vars; first | rfl | omega)) (by first | rfl | (subst_vars; rfl)) | (exfalso; omega)
                    · refine g_if_eq (pc := 127) (tgt := 142) hK dd_X11_copy_127 (by decide) (by decide) (fun _ => ?_) (fun c29 => absurd (by decide) c29)
                      refine g_aloadn (pc := 142) (i := 0) (x := 0) hK dd_X11_copy_142 rfl rfl ?_
                      refine g_bipush (pc := 143) (x := (-2)) hK dd_X11_copy_143 (by decide) ?_
                      refine g_callV (pc := 145) (As := [gI (-2)]) hK ws_X_63 md_X11_refuse ⟨Nat.zero_le _, Nat.zero_le _⟩ ⟨by decide, by decide⟩ (kdm kd_0) rfl rfl dd_X11_copy_145 rfl rfl (Nat.le_of_ble_eq_true rfl) (c_refuse_0 hrf (g_r1 ?_))
                      refine g_iret (pc := 148) hK hr hlocks dd_X11_copy_148 rfl ?_
                      first | exact g_fin (hB (by first | omega | (subst_vars; omega) | exact ⟨by first | assumption | omega | (subst_vars; first | assumption | omega), by first | assumption | omega | (subst_vars; first | assumption | omega)⟩)) (by first | rfl | omega | (subst_vars; first | rfl | omega)) (by first | rfl | (subst_vars; rfl)) | exact g_fin (hP (by first | omega | (subst_vars; omega) | exact ⟨by first | assumption | omega | (subst_vars; first | assumption | omega), by first | assumption | omega | (subst_vars; first | assumption | omega)⟩)) (by first | rfl | omega | (subst_vars; first | rfl | omega)) (by first | rfl | (subst_vars; rfl)) | exact g_fin (hY (by first | omega | (subst_vars; omega) | exact ⟨by first | assumption | omega | (subst_vars; first | assumption | omega), by first | assumption | omega | (subst_vars; first | assumption | omega)⟩)) (by first | rfl | omega | (subst_vars; first | rfl | omega)) (by first | rfl | (subst_vars; rfl)) | (exfalso; omega)
              · refine g_aloadn (pc := 89) (i := 0) (x := 0) hK dd_X11_copy_89 rfl rfl ?_
                refine g_bipush (pc := 90) (x := (-3)) hK dd_X11_copy_90 (by decide) ?_
                refine g_callV (pc := 92) (As := [gI (-3)]) hK ws_X_63 md_X11_refuse ⟨Nat.zero_le _, Nat.zero_le _⟩ ⟨by decide, by decide⟩ (kdm kd_0) rfl rfl dd_X11_copy_92 rfl rfl (Nat.le_of_ble_eq_true rfl) (c_refuse_1 hrf (g_r1 ?_))
                refine g_iret (pc := 95) hK hr hlocks dd_X11_copy_95 rfl ?_
                first | exact g_fin (hO (by first | omega | (subst_vars; omega) | exact ⟨by first | assumption | omega | (subst_vars; first | assumption | omega), by first | assumption | omega | (subst_vars; first | assumption | omega)⟩)) (by first | rfl | omega | (subst_vars; first | rfl | omega)) (by first | rfl | (subst_vars; rfl)) | exact g_fin (hY (by first | omega | (subst_vars; omega) | exact ⟨by first | assumption | omega | (subst_vars; first | assumption | omega), by first | assumption | omega | (subst_vars; first | assumption | omega)⟩)) (by first | rfl | omega | (subst_vars; first | rfl | omega)) (by first | rfl | (subst_vars; rfl)) | (exfalso; omega)
            · refine g_if_eq (pc := 73) (tgt := 96) hK dd_X11_copy_73 (by decide) (by decide) (fun _ => ?_) (fun c30 => absurd (by decide) c30)
              refine g_aload (pc := 96) (i := 6) (x := 1 + 96 + 2 * sp.toNat) hK dd_X11_copy_96 rfl ?_
              refine g_callV (pc := 98) (As := []) hK ws_X_92 md_X7_isEmpty ⟨Nat.zero_le _, Nat.zero_le _⟩ ⟨by decide, by decide⟩ (kdm (kd_sh (by omega) (by omega))) rfl rfl dd_X11_copy_98 rfl rfl (Nat.le_of_ble_eq_true rfl) (c_isEmpty sp (by omega) (by omega) (fun c31 => g_r1 ?_) (fun c31 => g_r1 ?_))
              · refine g_if_ne (pc := 101) (tgt := 112) hK dd_X11_copy_101 (by decide) (by decide) (fun _ => ?_) (fun c32 => absurd (by decide) c32)
                refine g_aloadn (pc := 112) (i := 0) (x := 0) hK dd_X11_copy_112 rfl rfl ?_
                refine g_bipush (pc := 113) (x := (-4)) hK dd_X11_copy_113 (by decide) ?_
                refine g_callV (pc := 115) (As := [gI (-4)]) hK ws_X_63 md_X11_refuse ⟨Nat.zero_le _, Nat.zero_le _⟩ ⟨by decide, by decide⟩ (kdm kd_0) rfl rfl dd_X11_copy_115 rfl rfl (Nat.le_of_ble_eq_true rfl) (c_refuse_2 hrf (g_r1 ?_))
                refine g_iret (pc := 118) hK hr hlocks dd_X11_copy_118 rfl ?_
                first | exact g_fin (hN (by first | omega | (subst_vars; omega) | exact ⟨by first | assumption | omega | (subst_vars; first | assumption | omega), by first | assumption | omega | (subst_vars; first | assumption | omega)⟩)) (by first | rfl | omega | (subst_vars; first | rfl | omega)) (by first | rfl | (subst_vars; rfl)) | exact g_fin (hY (by first | omega | (subst_vars; omega) | exact ⟨by first | assumption | omega | (subst_vars; first | assumption | omega), by first | assumption | omega | (subst_vars; first | assumption | omega)⟩)) (by first | rfl | omega | (subst_vars; first | rfl | omega)) (by first | rfl | (subst_vars; rfl)) | (exfalso; omega)
              · refine g_if_ne (pc := 101) (tgt := 112) hK dd_X11_copy_101 (by decide) (by decide) (fun c33 => absurd c33 (by decide)) (fun _ => ?_)
                refine g_aload (pc := 104) (i := 7) (x := 1 + 96 + 2 * sq.toNat) hK dd_X11_copy_104 rfl ?_
                refine g_callV (pc := 106) (As := []) hK ws_X_92 md_X7_isEmpty ⟨Nat.zero_le _, Nat.zero_le _⟩ ⟨by decide, by decide⟩ (kdm (kd_sh (by omega) (by omega))) rfl rfl dd_X11_copy_106 rfl rfl (Nat.le_of_ble_eq_true rfl) (c_isEmpty sq (by omega) (by omega) (fun c34 => g_r1 ?_) (fun c34 => g_r1 ?_))
                · refine g_if_eq (pc := 109) (tgt := 119) hK dd_X11_copy_109 (by decide) (by decide) (fun c35 => absurd c35 (by decide)) (fun _ => ?_)
                  refine g_aloadn (pc := 112) (i := 0) (x := 0) hK dd_X11_copy_112 rfl rfl ?_
                  refine g_bipush (pc := 113) (x := (-4)) hK dd_X11_copy_113 (by decide) ?_
                  refine g_callV (pc := 115) (As := [gI (-4)]) hK ws_X_63 md_X11_refuse ⟨Nat.zero_le _, Nat.zero_le _⟩ ⟨by decide, by decide⟩ (kdm kd_0) rfl rfl dd_X11_copy_115 rfl rfl (Nat.le_of_ble_eq_true rfl) (c_refuse_2 hrf (g_r1 ?_))
                  refine g_iret (pc := 118) hK hr hlocks dd_X11_copy_118 rfl ?_
                  first | exact g_fin (hN (by first | omega | (subst_vars; omega) | exact ⟨by first | assumption | omega | (subst_vars; first | assumption | omega), by first | assumption | omega | (subst_vars; first | assumption | omega)⟩)) (by first | rfl | omega | (subst_vars; first | rfl | omega)) (by first | rfl | (subst_vars; rfl)) | exact g_fin (hY (by first | omega | (subst_vars; omega) | exact ⟨by first | assumption | omega | (subst_vars; first | assumption | omega), by first | assumption | omega | (subst_vars; first | assumption | omega)⟩)) (by first | rfl | omega | (subst_vars; first | rfl | omega)) (by first | rfl | (subst_vars; rfl)) | (exfalso; omega)
                · refine g_if_eq (pc := 109) (tgt := 119) hK dd_X11_copy_109 (by decide) (by decide) (fun _ => ?_) (fun c36 => absurd (by decide) c36)
                  refine g_aload (pc := 119) (i := 6) (x := 1 + 96 + 2 * sp.toNat) hK dd_X11_copy_119 rfl ?_
                  refine g_iloadn (pc := 121) (i := 3) (x := i) hK dd_X11_copy_121 rfl rfl ?_
                  refine g_iload (pc := 122) (i := 5) (x := n) hK dd_X11_copy_122 rfl ?_
                  refine g_callV (pc := 124) (As := [gI i, gI n]) hK ws_X_95 md_X7_hasPlaces ⟨Nat.zero_le _, Nat.zero_le _⟩ ⟨by decide, by decide⟩ (kdm (kd_sh (by omega) (by omega))) rfl rfl dd_X11_copy_124 rfl rfl (Nat.le_of_ble_eq_true rfl) (c_hasPlaces sp i n (by omega) (by omega) (hsh sp (by omega) (by omega)).2 h_i h_n (fun c37 => g_r1 ?_) (fun c37 => g_r1 ?_))
                  · refine g_if_eq (pc := 127) (tgt := 142) hK dd_X11_copy_127 (by decide) (by decide) (fun c38 => absurd c38 (by decide)) (fun _ => ?_)
                    refine g_aload (pc := 130) (i := 7) (x := 1 + 96 + 2 * sq.toNat) hK dd_X11_copy_130 rfl ?_
                    refine g_iload (pc := 132) (i := 4) (x := j) hK dd_X11_copy_132 rfl ?_
                    refine g_iload (pc := 134) (i := 5) (x := n) hK dd_X11_copy_134 rfl ?_
                    refine g_callV (pc := 136) (As := [gI j, gI n]) hK ws_X_95 md_X7_hasPlaces ⟨Nat.zero_le _, Nat.zero_le _⟩ ⟨by decide, by decide⟩ (kdm (kd_sh (by omega) (by omega))) rfl rfl dd_X11_copy_136 rfl rfl (Nat.le_of_ble_eq_true rfl) (c_hasPlaces sq j n (by omega) (by omega) (hsh sq (by omega) (by omega)).2 h_j h_n (fun c39 => g_r1 ?_) (fun c39 => g_r1 ?_))
                    · refine g_if_ne (pc := 139) (tgt := 149) hK dd_X11_copy_139 (by decide) (by decide) (fun _ => ?_) (fun c40 => absurd (by decide) c40)
                      refine g_aload (pc := 149) (i := 6) (x := 1 + 96 + 2 * sp.toNat) hK dd_X11_copy_149 rfl ?_
                      refine g_getv (pc := 151) (f := (1, 1)) (j := 0) (v := gR (1 + 96 + 2 * sp.toNat + 1)) hK (kdm (kd_sh (by omega) (by omega))) rfl ef_7 (by decide) rfl kk_369 dd_X11_copy_151 rfl ?_
                      refine g_iloadn (pc := 154) (i := 3) (x := i) hK dd_X11_copy_154 rfl rfl ?_
                      refine g_aload (pc := 155) (i := 7) (x := 1 + 96 + 2 * sq.toNat) hK dd_X11_copy_155 rfl ?_
                      refine g_getv (pc := 157) (f := (1, 1)) (j := 0) (v := gR (1 + 96 + 2 * sq.toNat + 1)) hK (kdm (kd_sh (by omega) (by omega))) rfl ef_7 (by decide) rfl kk_369 dd_X11_copy_157 rfl ?_
                      refine g_iload (pc := 160) (i := 4) (x := j) hK dd_X11_copy_160 rfl ?_
                      refine g_iload (pc := 162) (i := 5) (x := n) hK dd_X11_copy_162 rfl ?_
                      refine g_copyl (pc := 164) hK wa_X_103 (kdm (kd_el (by omega) (by omega))) (kdm (kd_el (by omega) (by omega))) (yl_el (by omega) (by omega)) (yl_el (by omega) (by omega)) (fun z => absurd (show 1 + 96 + 2 * sq.toNat + 1 = 200 from z) (by omega)) (by decide) (by decide) (by omega) (by omega) (by omega) (by omega) (by omega) ⟨by decide, by decide⟩ (Nat.le_of_ble_eq_true rfl) dd_X11_copy_164 ?_
                      refine g_iload (pc := 167) (i := 5) (x := n) hK dd_X11_copy_167 rfl ?_
                      refine g_iret (pc := 169) hK hr hlocks dd_X11_copy_169 rfl ?_
                      first | exact g_fin (hB (by first | omega | (subst_vars; omega) | exact ⟨by first | assumption | omega | (subst_vars; first | assumption | omega), by first | assumption | omega | (subst_vars; first | assumption | omega)⟩)) (by first | rfl | omega | (subst_vars; first | rfl | omega)) (by first | rfl | (subst_vars; rfl)) | exact g_fin (hO (by first | omega | (subst_vars; omega) | exact ⟨by first | assumption | omega | (subst_vars; first | assumption | omega), by first | assumption | omega | (subst_vars; first | assumption | omega)⟩)) (by first | rfl | omega | (subst_vars; first | rfl | omega)) (by first | rfl | (subst_vars; rfl)) | exact g_fin (hN (by first | omega | (subst_vars; omega) | exact ⟨by first | assumption | omega | (subst_vars; first | assumption | omega), by first | assumption | omega | (subst_vars; first | assumption | omega)⟩)) (by first | rfl | omega | (subst_vars; first | rfl | omega)) (by first | rfl | (subst_vars; rfl)) | exact g_fin (hP (by first | omega | (subst_vars; omega) | exact ⟨by first | assumption | omega | (subst_vars; first | assumption | omega), by first | assumption | omega | (subst_vars; first | assumption | omega)⟩)) (by first | rfl | omega | (subst_vars; first | rfl | omega)) (by first | rfl | (subst_vars; rfl)) | exact g_fin (hY (by first | omega | (subst_vars; omega) | exact ⟨by first | assumption | omega | (subst_vars; first | assumption | omega), by first | assumption | omega | (subst_vars; first | assumption | omega)⟩)) (by first | rfl | omega | (subst_vars; first | rfl | omega)) (by first | rfl | (subst_vars; rfl)) | (exfalso; omega)
                    · refine g_if_ne (pc := 139) (tgt := 149) hK dd_X11_copy_139 (by decide) (by decide) (fun c41 => absurd c41 (by decide)) (fun _ => ?_)
                      refine g_aloadn (pc := 142) (i := 0) (x := 0) hK dd_X11_copy_142 rfl rfl ?_
                      refine g_bipush (pc := 143) (x := (-2)) hK dd_X11_copy_143 (by decide) ?_
                      refine g_callV (pc := 145) (As := [gI (-2)]) hK ws_X_63 md_X11_refuse ⟨Nat.zero_le _, Nat.zero_le _⟩ ⟨by decide, by decide⟩ (kdm kd_0) rfl rfl dd_X11_copy_145 rfl rfl (Nat.le_of_ble_eq_true rfl) (c_refuse_0 hrf (g_r1 ?_))
                      refine g_iret (pc := 148) hK hr hlocks dd_X11_copy_148 rfl ?_
                      first | exact g_fin (hB (by first | omega | (subst_vars; omega) | exact ⟨by first | assumption | omega | (subst_vars; first | assumption | omega), by first | assumption | omega | (subst_vars; first | assumption | omega)⟩)) (by first | rfl | omega | (subst_vars; first | rfl | omega)) (by first | rfl | (subst_vars; rfl)) | exact g_fin (hP (by first | omega | (subst_vars; omega) | exact ⟨by first | assumption | omega | (subst_vars; first | assumption | omega), by first | assumption | omega | (subst_vars; first | assumption | omega)⟩)) (by first | rfl | omega | (subst_vars; first | rfl | omega)) (by first | rfl | (subst_vars; rfl)) | exact g_fin (hY (by first | omega | (subst_vars; omega) | exact ⟨by first | assumption | omega | (subst_vars; first | assumption | omega), by first | assumption | omega | (subst_vars; first | assumption | omega)⟩)) (by first | rfl | omega | (subst_vars; first | rfl | omega)) (by first | rfl | (subst_vars; rfl)) | (exfalso; omega)
                  · refine g_if_eq (pc := 127) (tgt := 142) hK dd_X11_copy_127 (by decide) (by decide) (fun _ => ?_) (fun c42 => absurd (by decide) c42)
                    refine g_aloadn (pc := 142) (i := 0) (x := 0) hK dd_X11_copy_142 rfl rfl ?_
                    refine g_bipush (pc := 143) (x := (-2)) hK dd_X11_copy_143 (by decide) ?_
                    refine g_callV (pc := 145) (As := [gI (-2)]) hK ws_X_63 md_X11_refuse ⟨Nat.zero_le _, Nat.zero_le _⟩ ⟨by decide, by decide⟩ (kdm kd_0) rfl rfl dd_X11_copy_145 rfl rfl (Nat.le_of_ble_eq_true rfl) (c_refuse_0 hrf (g_r1 ?_))
                    refine g_iret (pc := 148) hK hr hlocks dd_X11_copy_148 rfl ?_
                    first | exact g_fin (hB (by first | omega | (subst_vars; omega) | exact ⟨by first | assumption | omega | (subst_vars; first | assumption | omega), by first | assumption | omega | (subst_vars; first | assumption | omega)⟩)) (by first | rfl | omega | (subst_vars; first | rfl | omega)) (by first | rfl | (subst_vars; rfl)) | exact g_fin (hP (by first | omega | (subst_vars; omega) | exact ⟨by first | assumption | omega | (subst_vars; first | assumption | omega), by first | assumption | omega | (subst_vars; first | assumption | omega)⟩)) (by first | rfl | omega | (subst_vars; first | rfl | omega)) (by first | rfl | (subst_vars; rfl)) | exact g_fin (hY (by first | omega | (subst_vars; omega) | exact ⟨by first | assumption | omega | (subst_vars; first | assumption | omega), by first | assumption | omega | (subst_vars; first | assumption | omega)⟩)) (by first | rfl | omega | (subst_vars; first | rfl | omega)) (by first | rfl | (subst_vars; rfl)) | (exfalso; omega)
          · refine g_if_eq (pc := 65) (tgt := 96) hK dd_X11_copy_65 (by decide) (by decide) (fun _ => ?_) (fun c43 => absurd (by decide) c43)
            refine g_aload (pc := 96) (i := 6) (x := 1 + 96 + 2 * sp.toNat) hK dd_X11_copy_96 rfl ?_
            refine g_callV (pc := 98) (As := []) hK ws_X_92 md_X7_isEmpty ⟨Nat.zero_le _, Nat.zero_le _⟩ ⟨by decide, by decide⟩ (kdm (kd_sh (by omega) (by omega))) rfl rfl dd_X11_copy_98 rfl rfl (Nat.le_of_ble_eq_true rfl) (c_isEmpty sp (by omega) (by omega) (fun c44 => g_r1 ?_) (fun c44 => g_r1 ?_))
            · refine g_if_ne (pc := 101) (tgt := 112) hK dd_X11_copy_101 (by decide) (by decide) (fun _ => ?_) (fun c45 => absurd (by decide) c45)
              refine g_aloadn (pc := 112) (i := 0) (x := 0) hK dd_X11_copy_112 rfl rfl ?_
              refine g_bipush (pc := 113) (x := (-4)) hK dd_X11_copy_113 (by decide) ?_
              refine g_callV (pc := 115) (As := [gI (-4)]) hK ws_X_63 md_X11_refuse ⟨Nat.zero_le _, Nat.zero_le _⟩ ⟨by decide, by decide⟩ (kdm kd_0) rfl rfl dd_X11_copy_115 rfl rfl (Nat.le_of_ble_eq_true rfl) (c_refuse_2 hrf (g_r1 ?_))
              refine g_iret (pc := 118) hK hr hlocks dd_X11_copy_118 rfl ?_
              first | exact g_fin (hN (by first | omega | (subst_vars; omega) | exact ⟨by first | assumption | omega | (subst_vars; first | assumption | omega), by first | assumption | omega | (subst_vars; first | assumption | omega)⟩)) (by first | rfl | omega | (subst_vars; first | rfl | omega)) (by first | rfl | (subst_vars; rfl)) | exact g_fin (hY (by first | omega | (subst_vars; omega) | exact ⟨by first | assumption | omega | (subst_vars; first | assumption | omega), by first | assumption | omega | (subst_vars; first | assumption | omega)⟩)) (by first | rfl | omega | (subst_vars; first | rfl | omega)) (by first | rfl | (subst_vars; rfl)) | (exfalso; omega)
            · refine g_if_ne (pc := 101) (tgt := 112) hK dd_X11_copy_101 (by decide) (by decide) (fun c46 => absurd c46 (by decide)) (fun _ => ?_)
              refine g_aload (pc := 104) (i := 7) (x := 1 + 96 + 2 * sq.toNat) hK dd_X11_copy_104 rfl ?_
              refine g_callV (pc := 106) (As := []) hK ws_X_92 md_X7_isEmpty ⟨Nat.zero_le _, Nat.zero_le _⟩ ⟨by decide, by decide⟩ (kdm (kd_sh (by omega) (by omega))) rfl rfl dd_X11_copy_106 rfl rfl (Nat.le_of_ble_eq_true rfl) (c_isEmpty sq (by omega) (by omega) (fun c47 => g_r1 ?_) (fun c47 => g_r1 ?_))
              · refine g_if_eq (pc := 109) (tgt := 119) hK dd_X11_copy_109 (by decide) (by decide) (fun c48 => absurd c48 (by decide)) (fun _ => ?_)
                refine g_aloadn (pc := 112) (i := 0) (x := 0) hK dd_X11_copy_112 rfl rfl ?_
                refine g_bipush (pc := 113) (x := (-4)) hK dd_X11_copy_113 (by decide) ?_
                refine g_callV (pc := 115) (As := [gI (-4)]) hK ws_X_63 md_X11_refuse ⟨Nat.zero_le _, Nat.zero_le _⟩ ⟨by decide, by decide⟩ (kdm kd_0) rfl rfl dd_X11_copy_115 rfl rfl (Nat.le_of_ble_eq_true rfl) (c_refuse_2 hrf (g_r1 ?_))
                refine g_iret (pc := 118) hK hr hlocks dd_X11_copy_118 rfl ?_
                first | exact g_fin (hN (by first | omega | (subst_vars; omega) | exact ⟨by first | assumption | omega | (subst_vars; first | assumption | omega), by first | assumption | omega | (subst_vars; first | assumption | omega)⟩)) (by first | rfl | omega | (subst_vars; first | rfl | omega)) (by first | rfl | (subst_vars; rfl)) | exact g_fin (hY (by first | omega | (subst_vars; omega) | exact ⟨by first | assumption | omega | (subst_vars; first | assumption | omega), by first | assumption | omega | (subst_vars; first | assumption | omega)⟩)) (by first | rfl | omega | (subst_vars; first | rfl | omega)) (by first | rfl | (subst_vars; rfl)) | (exfalso; omega)
              · refine g_if_eq (pc := 109) (tgt := 119) hK dd_X11_copy_109 (by decide) (by decide) (fun _ => ?_) (fun c49 => absurd (by decide) c49)
                refine g_aload (pc := 119) (i := 6) (x := 1 + 96 + 2 * sp.toNat) hK dd_X11_copy_119 rfl ?_
                refine g_iloadn (pc := 121) (i := 3) (x := i) hK dd_X11_copy_121 rfl rfl ?_
                refine g_iload (pc := 122) (i := 5) (x := n) hK dd_X11_copy_122 rfl ?_
                refine g_callV (pc := 124) (As := [gI i, gI n]) hK ws_X_95 md_X7_hasPlaces ⟨Nat.zero_le _, Nat.zero_le _⟩ ⟨by decide, by decide⟩ (kdm (kd_sh (by omega) (by omega))) rfl rfl dd_X11_copy_124 rfl rfl (Nat.le_of_ble_eq_true rfl) (c_hasPlaces sp i n (by omega) (by omega) (hsh sp (by omega) (by omega)).2 h_i h_n (fun c50 => g_r1 ?_) (fun c50 => g_r1 ?_))
                · refine g_if_eq (pc := 127) (tgt := 142) hK dd_X11_copy_127 (by decide) (by decide) (fun c51 => absurd c51 (by decide)) (fun _ => ?_)
                  refine g_aload (pc := 130) (i := 7) (x := 1 + 96 + 2 * sq.toNat) hK dd_X11_copy_130 rfl ?_
                  refine g_iload (pc := 132) (i := 4) (x := j) hK dd_X11_copy_132 rfl ?_
                  refine g_iload (pc := 134) (i := 5) (x := n) hK dd_X11_copy_134 rfl ?_
                  refine g_callV (pc := 136) (As := [gI j, gI n]) hK ws_X_95 md_X7_hasPlaces ⟨Nat.zero_le _, Nat.zero_le _⟩ ⟨by decide, by decide⟩ (kdm (kd_sh (by omega) (by omega))) rfl rfl dd_X11_copy_136 rfl rfl (Nat.le_of_ble_eq_true rfl) (c_hasPlaces sq j n (by omega) (by omega) (hsh sq (by omega) (by omega)).2 h_j h_n (fun c52 => g_r1 ?_) (fun c52 => g_r1 ?_))
                  · refine g_if_ne (pc := 139) (tgt := 149) hK dd_X11_copy_139 (by decide) (by decide) (fun _ => ?_) (fun c53 => absurd (by decide) c53)
                    refine g_aload (pc := 149) (i := 6) (x := 1 + 96 + 2 * sp.toNat) hK dd_X11_copy_149 rfl ?_
                    refine g_getv (pc := 151) (f := (1, 1)) (j := 0) (v := gR (1 + 96 + 2 * sp.toNat + 1)) hK (kdm (kd_sh (by omega) (by omega))) rfl ef_7 (by decide) rfl kk_369 dd_X11_copy_151 rfl ?_
                    refine g_iloadn (pc := 154) (i := 3) (x := i) hK dd_X11_copy_154 rfl rfl ?_
                    refine g_aload (pc := 155) (i := 7) (x := 1 + 96 + 2 * sq.toNat) hK dd_X11_copy_155 rfl ?_
                    refine g_getv (pc := 157) (f := (1, 1)) (j := 0) (v := gR (1 + 96 + 2 * sq.toNat + 1)) hK (kdm (kd_sh (by omega) (by omega))) rfl ef_7 (by decide) rfl kk_369 dd_X11_copy_157 rfl ?_
                    refine g_iload (pc := 160) (i := 4) (x := j) hK dd_X11_copy_160 rfl ?_
                    refine g_iload (pc := 162) (i := 5) (x := n) hK dd_X11_copy_162 rfl ?_
                    refine g_copyl (pc := 164) hK wa_X_103 (kdm (kd_el (by omega) (by omega))) (kdm (kd_el (by omega) (by omega))) (yl_el (by omega) (by omega)) (yl_el (by omega) (by omega)) (fun z => absurd (show 1 + 96 + 2 * sq.toNat + 1 = 200 from z) (by omega)) (by decide) (by decide) (by omega) (by omega) (by omega) (by omega) (by omega) ⟨by decide, by decide⟩ (Nat.le_of_ble_eq_true rfl) dd_X11_copy_164 ?_
                    refine g_iload (pc := 167) (i := 5) (x := n) hK dd_X11_copy_167 rfl ?_
                    refine g_iret (pc := 169) hK hr hlocks dd_X11_copy_169 rfl ?_
                    first | exact g_fin (hB (by first | omega | (subst_vars; omega) | exact ⟨by first | assumption | omega | (subst_vars; first | assumption | omega), by first | assumption | omega | (subst_vars; first | assumption | omega)⟩)) (by first | rfl | omega | (subst_vars; first | rfl | omega)) (by first | rfl | (subst_vars; rfl)) | exact g_fin (hO (by first | omega | (subst_vars; omega) | exact ⟨by first | assumption | omega | (subst_vars; first | assumption | omega), by first | assumption | omega | (subst_vars; first | assumption | omega)⟩)) (by first | rfl | omega | (subst_vars; first | rfl | omega)) (by first | rfl | (subst_vars; rfl)) | exact g_fin (hN (by first | omega | (subst_vars; omega) | exact ⟨by first | assumption | omega | (subst_vars; first | assumption | omega), by first | assumption | omega | (subst_vars; first | assumption | omega)⟩)) (by first | rfl | omega | (subst_vars; first | rfl | omega)) (by first | rfl | (subst_vars; rfl)) | exact g_fin (hP (by first | omega | (subst_vars; omega) | exact ⟨by first | assumption | omega | (subst_vars; first | assumption | omega), by first | assumption | omega | (subst_vars; first | assumption | omega)⟩)) (by first | rfl | omega | (subst_vars; first | rfl | omega)) (by first | rfl | (subst_vars; rfl)) | exact g_fin (hY (by first | omega | (subst_vars; omega) | exact ⟨by first | assumption | omega | (subst_vars; first | assumption | omega), by first | assumption | omega | (subst_vars; first | assumption | omega)⟩)) (by first | rfl | omega | (subst_vars; first | rfl | omega)) (by first | rfl | (subst_vars; rfl)) | (exfalso; omega)
                  · refine g_if_ne (pc := 139) (tgt := 149) hK dd_X11_copy_139 (by decide) (by decide) (fun c54 => absurd c54 (by decide)) (fun _ => ?_)
                    refine g_aloadn (pc := 142) (i := 0) (x := 0) hK dd_X11_copy_142 rfl rfl ?_
                    refine g_bipush (pc := 143) (x := (-2)) hK dd_X11_copy_143 (by decide) ?_
                    refine g_callV (pc := 145) (As := [gI (-2)]) hK ws_X_63 md_X11_refuse ⟨Nat.zero_le _, Nat.zero_le _⟩ ⟨by decide, by decide⟩ (kdm kd_0) rfl rfl dd_X11_copy_145 rfl rfl (Nat.le_of_ble_eq_true rfl) (c_refuse_0 hrf (g_r1 ?_))
                    refine g_iret (pc := 148) hK hr hlocks dd_X11_copy_148 rfl ?_
                    first | exact g_fin (hB (by first | omega | (subst_vars; omega) | exact ⟨by first | assumption | omega | (subst_vars; first | assumption | omega), by first | assumption | omega | (subst_vars; first | assumption | omega)⟩)) (by first | rfl | omega | (subst_vars; first | rfl | omega)) (by first | rfl | (subst_vars; rfl)) | exact g_fin (hP (by first | omega | (subst_vars; omega) | exact ⟨by first | assumption | omega | (subst_vars; first | assumption | omega), by first | assumption | omega | (subst_vars; first | assumption | omega)⟩)) (by first | rfl | omega | (subst_vars; first | rfl | omega)) (by first | rfl | (subst_vars; rfl)) | exact g_fin (hY (by first | omega | (subst_vars; omega) | exact ⟨by first | assumption | omega | (subst_vars; first | assumption | omega), by first | assumption | omega | (subst_vars; first | assumption | omega)⟩)) (by first | rfl | omega | (subst_vars; first | rfl | omega)) (by first | rfl | (subst_vars; rfl)) | (exfalso; omega)
                · refine g_if_eq (pc := 127) (tgt := 142) hK dd_X11_copy_127 (by decide) (by decide) (fun _ => ?_) (fun c55 => absurd (by decide) c55)
                  refine g_aloadn (pc := 142) (i := 0) (x := 0) hK dd_X11_copy_142 rfl rfl ?_
                  refine g_bipush (pc := 143) (x := (-2)) hK dd_X11_copy_143 (by decide) ?_
                  refine g_callV (pc := 145) (As := [gI (-2)]) hK ws_X_63 md_X11_refuse ⟨Nat.zero_le _, Nat.zero_le _⟩ ⟨by decide, by decide⟩ (kdm kd_0) rfl rfl dd_X11_copy_145 rfl rfl (Nat.le_of_ble_eq_true rfl) (c_refuse_0 hrf (g_r1 ?_))
                  refine g_iret (pc := 148) hK hr hlocks dd_X11_copy_148 rfl ?_
                  first | exact g_fin (hB (by first | omega | (subst_vars; omega) | exact ⟨by first | assumption | omega | (subst_vars; first | assumption | omega), by first | assumption | omega | (subst_vars; first | assumption | omega)⟩)) (by first | rfl | omega | (subst_vars; first | rfl | omega)) (by first | rfl | (subst_vars; rfl)) | exact g_fin (hP (by first | omega | (subst_vars; omega) | exact ⟨by first | assumption | omega | (subst_vars; first | assumption | omega), by first | assumption | omega | (subst_vars; first | assumption | omega)⟩)) (by first | rfl | omega | (subst_vars; first | rfl | omega)) (by first | rfl | (subst_vars; rfl)) | exact g_fin (hY (by first | omega | (subst_vars; omega) | exact ⟨by first | assumption | omega | (subst_vars; first | assumption | omega), by first | assumption | omega | (subst_vars; first | assumption | omega)⟩)) (by first | rfl | omega | (subst_vars; first | rfl | omega)) (by first | rfl | (subst_vars; rfl)) | (exfalso; omega)
    · refine g_if_ne (pc := 11) (tgt := 21) hK dd_X11_copy_11 (by decide) (by decide) (fun c56 => absurd c56 (by decide)) (fun _ => ?_)
      refine g_aloadn (pc := 14) (i := 0) (x := 0) hK dd_X11_copy_14 rfl rfl ?_
      refine g_bipush (pc := 15) (x := (-2)) hK dd_X11_copy_15 (by decide) ?_
      refine g_callV (pc := 17) (As := [gI (-2)]) hK ws_X_63 md_X11_refuse ⟨Nat.zero_le _, Nat.zero_le _⟩ ⟨by decide, by decide⟩ (kdm kd_0) rfl rfl dd_X11_copy_17 rfl rfl (Nat.le_of_ble_eq_true rfl) (c_refuse_0 hrf (g_r1 ?_))
      refine g_iret (pc := 20) hK hr hlocks dd_X11_copy_20 rfl ?_
      first | exact g_fin (hB (by first | omega | (subst_vars; omega) | exact ⟨by first | assumption | omega | (subst_vars; first | assumption | omega), by first | assumption | omega | (subst_vars; first | assumption | omega)⟩)) (by first | rfl | omega | (subst_vars; first | rfl | omega)) (by first | rfl | (subst_vars; rfl)) | exact g_fin (hP (by first | omega | (subst_vars; omega) | exact ⟨by first | assumption | omega | (subst_vars; first | assumption | omega), by first | assumption | omega | (subst_vars; first | assumption | omega)⟩)) (by first | rfl | omega | (subst_vars; first | rfl | omega)) (by first | rfl | (subst_vars; rfl)) | exact g_fin (hY (by first | omega | (subst_vars; omega) | exact ⟨by first | assumption | omega | (subst_vars; first | assumption | omega), by first | assumption | omega | (subst_vars; first | assumption | omega)⟩)) (by first | rfl | omega | (subst_vars; first | rfl | omega)) (by first | rfl | (subst_vars; rfl)) | (exfalso; omega)
  · refine g_if_eq (pc := 4) (tgt := 14) hK dd_X11_copy_4 (by decide) (by decide) (fun _ => ?_) (fun c57 => absurd (by decide) c57)
    refine g_aloadn (pc := 14) (i := 0) (x := 0) hK dd_X11_copy_14 rfl rfl ?_
    refine g_bipush (pc := 15) (x := (-2)) hK dd_X11_copy_15 (by decide) ?_
    refine g_callV (pc := 17) (As := [gI (-2)]) hK ws_X_63 md_X11_refuse ⟨Nat.zero_le _, Nat.zero_le _⟩ ⟨by decide, by decide⟩ (kdm kd_0) rfl rfl dd_X11_copy_17 rfl rfl (Nat.le_of_ble_eq_true rfl) (c_refuse_0 hrf (g_r1 ?_))
    refine g_iret (pc := 20) hK hr hlocks dd_X11_copy_20 rfl ?_
    first | exact g_fin (hB (by first | omega | (subst_vars; omega) | exact ⟨by first | assumption | omega | (subst_vars; first | assumption | omega), by first | assumption | omega | (subst_vars; first | assumption | omega)⟩)) (by first | rfl | omega | (subst_vars; first | rfl | omega)) (by first | rfl | (subst_vars; rfl)) | exact g_fin (hP (by first | omega | (subst_vars; omega) | exact ⟨by first | assumption | omega | (subst_vars; first | assumption | omega), by first | assumption | omega | (subst_vars; first | assumption | omega)⟩)) (by first | rfl | omega | (subst_vars; first | rfl | omega)) (by first | rfl | (subst_vars; rfl)) | exact g_fin (hY (by first | omega | (subst_vars; omega) | exact ⟨by first | assumption | omega | (subst_vars; first | assumption | omega), by first | assumption | omega | (subst_vars; first | assumption | omega)⟩)) (by first | rfl | omega | (subst_vars; first | rfl | omega)) (by first | rfl | (subst_vars; rfl)) | (exfalso; omega)
set_option maxHeartbeats 4000000 in
set_option maxRecDepth 100000 in
theorem x_element {l : Launch} {M : Mem} {Pq : Option gV → Mem → Prop} (sf : Int) (i : Int) (h_sf : inI sf) (h_i : inI i) (hsh : shOK M) (hB : (¬ ((0 ≤ sf ∧ sf ≤ 7) ∧ (0 ≤ M (1 + 96 + 2 * sf.toNat) 1 ∧ M (1 + 96 + 2 * sf.toNat) 1 ≤ 4) ∧ 0 ≤ i ∧ i ≤ M (1 + 96 + 2 * sf.toNat) 2 - 1)) → Pq (some (gL 0)) M) (hY : ((0 ≤ sf ∧ sf ≤ 7) ∧ (0 ≤ M (1 + 96 + 2 * sf.toNat) 1 ∧ M (1 + 96 + 2 * sf.toNat) 1 ≤ 4) ∧ 0 ≤ i ∧ i ≤ M (1 + 96 + 2 * sf.toNat) 2 - 1) → Pq (some (gL (M (1 + 96 + 2 * sf.toNat + 1) i.toNat))) M) : gCtr l my_X11_element mb_X11_element 3 ((some .long)) 4 [gR 0, gI sf, gI i] M Pq := by
  refine g_intro (by decide) (Nat.le_of_ble_eq_true rfl) ?_
  intro p e s m args below meth c D cy q A hK hr hlocks hw
  refine g_sub (L' := [(0, gR 0), (1, gI sf), (2, gI i)]) [0, 1, 2] rfl ?_
  refine g_iloadn (pc := 0) (i := 1) (x := sf) hK dd_X11_element_0 rfl rfl ?_
  refine g_callT (pc := 1) (As := [gI sf]) hK ws_X_55 md_X11_isShelf ⟨Nat.zero_le _, Nat.zero_le _⟩ ⟨by decide, by decide⟩ dd_X11_element_1 rfl rfl (Nat.le_of_ble_eq_true rfl) (c_isShelf sf h_sf (fun c1 => g_r1 ?_) (fun c1 => g_r1 ?_))
  · refine g_if_eq (pc := 4) (tgt := 20) hK dd_X11_element_4 (by decide) (by decide) (fun c2 => absurd c2 (by decide)) (fun _ => ?_)
    refine g_aloadn (pc := 7) (i := 0) (x := 0) hK dd_X11_element_7 rfl rfl ?_
    refine g_getv (pc := 8) (f := (1, 1)) (j := 0) (v := gR 1) hK (kdm kd_0) rfl ef_11 (by decide) rfl kk_382 dd_X11_element_8 rfl ?_
    refine g_iloadn (pc := 11) (i := 1) (x := sf) hK dd_X11_element_11 rfl rfl ?_
    refine g_aald (pc := 12) hK (kdm kd_1) (by decide) dd_X11_element_12 (by omega) (by omega) ?_
    refine g_topv (v := gR (1 + 96 + 2 * sf.toNat)) rfl ?_
    refine g_iloadn (pc := 13) (i := 2) (x := i) hK dd_X11_element_13 rfl rfl ?_
    refine g_callV (pc := 14) (As := [gI i]) hK ws_X_109 md_X7_at ⟨Nat.zero_le _, Nat.zero_le _⟩ ⟨by decide, by decide⟩ (kdm (kd_sh (by omega) (by omega))) rfl rfl dd_X11_element_14 rfl rfl (Nat.le_of_ble_eq_true rfl) (c_at sf i (by omega) (by omega) (hsh sf (by omega) (by omega)).2 h_i (fun c3 => g_r1 ?_) (fun c4 => g_r1 ?_))
    · refine g_topL (fun y5 ey5 => ?_)
      refine g_goto (pc := 17) (tgt := 21) hK dd_X11_element_17 (by decide) ?_
      refine g_lret (pc := 21) hK hr hlocks dd_X11_element_21 ?_
      first | exact g_finL (hB (by first | omega | (subst_vars; omega) | exact ⟨by first | assumption | omega | (subst_vars; first | assumption | omega), by first | assumption | omega | (subst_vars; first | assumption | omega)⟩)) (by first | rfl | omega | (subst_vars; first | rfl | omega)) (by first | rfl | (subst_vars; rfl)) | exact g_finL (hY (by first | omega | (subst_vars; omega) | exact ⟨by first | assumption | omega | (subst_vars; first | assumption | omega), by first | assumption | omega | (subst_vars; first | assumption | omega)⟩)) (by first | rfl | omega | (subst_vars; first | rfl | omega)) (by first | rfl | (subst_vars; rfl)) | (exfalso; omega)
    · refine g_goto (pc := 17) (tgt := 21) hK dd_X11_element_17 (by decide) ?_
      refine g_lret (pc := 21) hK hr hlocks dd_X11_element_21 ?_
      first | exact g_finL (hB (by first | omega | (subst_vars; omega) | exact ⟨by first | assumption | omega | (subst_vars; first | assumption | omega), by first | assumption | omega | (subst_vars; first | assumption | omega)⟩)) (by first | rfl | omega | (subst_vars; first | rfl | omega)) (by first | rfl | (subst_vars; rfl)) | exact g_finL (hY (by first | omega | (subst_vars; omega) | exact ⟨by first | assumption | omega | (subst_vars; first | assumption | omega), by first | assumption | omega | (subst_vars; first | assumption | omega)⟩)) (by first | rfl | omega | (subst_vars; first | rfl | omega)) (by first | rfl | (subst_vars; rfl)) | (exfalso; omega)
  · refine g_if_eq (pc := 4) (tgt := 20) hK dd_X11_element_4 (by decide) (by decide) (fun _ => ?_) (fun c6 => absurd (by decide) c6)
    refine g_lconst (pc := 20) (x := 0) hK dd_X11_element_20 (by decide) ?_
    refine g_lret (pc := 21) hK hr hlocks dd_X11_element_21 ?_
    first | exact g_finL (hB (by first | omega | (subst_vars; omega) | exact ⟨by first | assumption | omega | (subst_vars; first | assumption | omega), by first | assumption | omega | (subst_vars; first | assumption | omega)⟩)) (by first | rfl | omega | (subst_vars; first | rfl | omega)) (by first | rfl | (subst_vars; rfl)) | exact g_finL (hY (by first | omega | (subst_vars; omega) | exact ⟨by first | assumption | omega | (subst_vars; first | assumption | omega), by first | assumption | omega | (subst_vars; first | assumption | omega)⟩)) (by first | rfl | omega | (subst_vars; first | rfl | omega)) (by first | rfl | (subst_vars; rfl)) | (exfalso; omega)
set_option maxHeartbeats 4000000 in
set_option maxRecDepth 100000 in
theorem x_holds {l : Launch} {M : Mem} {Pq : Option gV → Mem → Prop} (sf : Int) (h_sf : inI sf) (hB : (¬ (0 ≤ sf ∧ sf ≤ 7)) → Pq (some (gI (-1))) M) (hY : (0 ≤ sf ∧ sf ≤ 7) → Pq (some (gI (M (1 + 96 + 2 * sf.toNat) 1))) M) : gCtr l my_X11_holds mb_X11_holds 2 ((some .int)) 3 [gR 0, gI sf] M Pq := by
  refine g_intro (by decide) (Nat.le_of_ble_eq_true rfl) ?_
  intro p e s m args below meth c D cy q A hK hr hlocks hw
  refine g_sub (L' := [(0, gR 0), (1, gI sf)]) [0, 1] rfl ?_
  refine g_iloadn (pc := 0) (i := 1) (x := sf) hK dd_X11_holds_0 rfl rfl ?_
  refine g_callT (pc := 1) (As := [gI sf]) hK ws_X_55 md_X11_isShelf ⟨Nat.zero_le _, Nat.zero_le _⟩ ⟨by decide, by decide⟩ dd_X11_holds_1 rfl rfl (Nat.le_of_ble_eq_true rfl) (c_isShelf sf h_sf (fun c1 => g_r1 ?_) (fun c1 => g_r1 ?_))
  · refine g_if_eq (pc := 4) (tgt := 19) hK dd_X11_holds_4 (by decide) (by decide) (fun c2 => absurd c2 (by decide)) (fun _ => ?_)
    refine g_aloadn (pc := 7) (i := 0) (x := 0) hK dd_X11_holds_7 rfl rfl ?_
    refine g_getv (pc := 8) (f := (1, 1)) (j := 0) (v := gR 1) hK (kdm kd_0) rfl ef_11 (by decide) rfl kk_382 dd_X11_holds_8 rfl ?_
    refine g_iloadn (pc := 11) (i := 1) (x := sf) hK dd_X11_holds_11 rfl rfl ?_
    refine g_aald (pc := 12) hK (kdm kd_1) (by decide) dd_X11_holds_12 (by omega) (by omega) ?_
    refine g_topv (v := gR (1 + 96 + 2 * sf.toNat)) rfl ?_
    refine g_geti (pc := 13) (f := (0, 0)) (j := 1) hK (kdm (kd_sh (by omega) (by omega))) rfl ef_7 (by decide) rfl kk_371 (nl_sh (by omega) (by omega)) dd_X11_holds_13 rfl (fun x3 ex3 rx3 => ?_)
    refine g_goto (pc := 16) (tgt := 20) hK dd_X11_holds_16 (by decide) ?_
    refine g_iret (pc := 20) hK hr hlocks dd_X11_holds_20 rfl ?_
    first | exact g_fin (hB (by first | omega | (subst_vars; omega) | exact ⟨by first | assumption | omega | (subst_vars; first | assumption | omega), by first | assumption | omega | (subst_vars; first | assumption | omega)⟩)) (by first | rfl | omega | (subst_vars; first | rfl | omega)) (by first | rfl | (subst_vars; rfl)) | exact g_fin (hY (by first | omega | (subst_vars; omega) | exact ⟨by first | assumption | omega | (subst_vars; first | assumption | omega), by first | assumption | omega | (subst_vars; first | assumption | omega)⟩)) (by first | rfl | omega | (subst_vars; first | rfl | omega)) (by first | rfl | (subst_vars; rfl)) | (exfalso; omega)
  · refine g_if_eq (pc := 4) (tgt := 19) hK dd_X11_holds_4 (by decide) (by decide) (fun _ => ?_) (fun c4 => absurd (by decide) c4)
    refine g_iconst (pc := 19) (x := (-1)) hK dd_X11_holds_19 (by decide) ?_
    refine g_iret (pc := 20) hK hr hlocks dd_X11_holds_20 rfl ?_
    first | exact g_fin (hB (by first | omega | (subst_vars; omega) | exact ⟨by first | assumption | omega | (subst_vars; first | assumption | omega), by first | assumption | omega | (subst_vars; first | assumption | omega)⟩)) (by first | rfl | omega | (subst_vars; first | rfl | omega)) (by first | rfl | (subst_vars; rfl)) | exact g_fin (hY (by first | omega | (subst_vars; omega) | exact ⟨by first | assumption | omega | (subst_vars; first | assumption | omega), by first | assumption | omega | (subst_vars; first | assumption | omega)⟩)) (by first | rfl | omega | (subst_vars; first | rfl | omega)) (by first | rfl | (subst_vars; rfl)) | (exfalso; omega)
set_option maxHeartbeats 4000000 in
set_option maxRecDepth 100000 in
theorem x_show {l : Launch} {M : Mem} {Pq : Option gV → Mem → Prop} (sf : Int) (t : Int) (h_sf : inI sf) (h_t : inI t) (hrf : rfOK M) (hc : 0 ≤ M 6 6 ∧ M 6 6 ≤ 30) (hB : (¬ ((0 ≤ sf ∧ sf ≤ 7) ∧ (t = -1 ∨ (0 ≤ t ∧ t < M 6 6)))) → Pq (some (gI (-2))) (rf M 0)) (hN : ((0 ≤ sf ∧ sf ≤ 7) ∧ t = -1) → Pq (some (gI 1)) (up M (1 + 96 + 2 * sf.toNat) 1 (-1))) (hY : ((0 ≤ sf ∧ sf ≤ 7) ∧ 0 ≤ t ∧ t < M 6 6) → Pq (some (gI 1)) (up M (1 + 96 + 2 * sf.toNat) 1 (10 + t))) : gCtr l my_X11_show mb_X11_show 3 ((some .int)) 3 [gR 0, gI sf, gI t] M Pq := by
  refine g_intro (by decide) (Nat.le_of_ble_eq_true rfl) ?_
  intro p e s m args below meth c D cy q A hK hr hlocks hw
  refine g_sub (L' := [(0, gR 0), (1, gI sf), (2, gI t)]) [0, 1, 2] rfl ?_
  refine g_iloadn (pc := 0) (i := 1) (x := sf) hK dd_X11_show_0 rfl rfl ?_
  refine g_callT (pc := 1) (As := [gI sf]) hK ws_X_55 md_X11_isShelf ⟨Nat.zero_le _, Nat.zero_le _⟩ ⟨by decide, by decide⟩ dd_X11_show_1 rfl rfl (Nat.le_of_ble_eq_true rfl) (c_isShelf sf h_sf (fun c1 => g_r1 ?_) (fun c1 => g_r1 ?_))
  · refine g_if_eq (pc := 4) (tgt := 26) hK dd_X11_show_4 (by decide) (by decide) (fun c2 => absurd c2 (by decide)) (fun _ => ?_)
    refine g_iloadn (pc := 7) (i := 2) (x := t) hK dd_X11_show_7 rfl rfl ?_
    refine g_iconst (pc := 8) (x := (-1)) hK dd_X11_show_8 (by decide) ?_
    refine g_icmp_eq (pc := 9) (tgt := 33) hK dd_X11_show_9 (by decide) h_t (by decide) (fun c3 => ?_) (fun c3 => ?_)
    · refine g_aloadn (pc := 33) (i := 0) (x := 0) hK dd_X11_show_33 rfl rfl ?_
      refine g_getv (pc := 34) (f := (1, 1)) (j := 0) (v := gR 1) hK (kdm kd_0) rfl ef_11 (by decide) rfl kk_382 dd_X11_show_34 rfl ?_
      refine g_iloadn (pc := 37) (i := 1) (x := sf) hK dd_X11_show_37 rfl rfl ?_
      refine g_aald (pc := 38) hK (kdm kd_1) (by decide) dd_X11_show_38 (by omega) (by omega) ?_
      refine g_topv (v := gR (1 + 96 + 2 * sf.toNat)) rfl ?_
      refine g_iloadn (pc := 39) (i := 2) (x := t) hK dd_X11_show_39 rfl rfl ?_
      refine g_iconst (pc := 40) (x := (-1)) hK dd_X11_show_40 (by decide) ?_
      refine g_icmp_ne (pc := 41) (tgt := 48) hK dd_X11_show_41 (by decide) h_t (by decide) (fun c4 => absurd c4 (by omega)) (fun c4 => ?_)
      refine g_iconst (pc := 44) (x := (-1)) hK dd_X11_show_44 (by decide) ?_
      refine g_goto (pc := 45) (tgt := 52) hK dd_X11_show_45 (by decide) ?_
      refine g_puti (pc := 52) (f := (0, 0)) (j := 1) (ty := .int) hK (kdm (kd_sh (by omega) (by omega))) rfl ef_7 (by decide) rfl kk_371 (nl_sh (by omega) (by omega)) (fun z => absurd (show 1 + 96 + 2 * sf.toNat = 200 from z.1) (by omega)) dd_X11_show_52 rfl rfl rfl rfl rfl (by decide) ?_
      refine g_iconst (pc := 55) (x := 1) hK dd_X11_show_55 (by decide) ?_
      refine g_iret (pc := 56) hK hr hlocks dd_X11_show_56 rfl ?_
      first | exact g_fin (hN (by first | omega | (subst_vars; omega) | exact ⟨by first | assumption | omega | (subst_vars; first | assumption | omega), by first | assumption | omega | (subst_vars; first | assumption | omega)⟩)) (by first | rfl | omega | (subst_vars; first | rfl | omega)) (by first | rfl | (subst_vars; rfl)) | exact g_fin (hY (by first | omega | (subst_vars; omega) | exact ⟨by first | assumption | omega | (subst_vars; first | assumption | omega), by first | assumption | omega | (subst_vars; first | assumption | omega)⟩)) (by first | rfl | omega | (subst_vars; first | rfl | omega)) (by first | rfl | (subst_vars; rfl)) | (exfalso; omega)
    · refine g_aloadn (pc := 12) (i := 0) (x := 0) hK dd_X11_show_12 rfl rfl ?_
      refine g_getv (pc := 13) (f := (1, 5)) (j := 3) (v := gR 5) hK (kdm kd_0) rfl ef_11 (by decide) rfl kk_385 dd_X11_show_13 rfl ?_
      refine g_getv (pc := 16) (f := (1, 1)) (j := 0) (v := gR 6) hK (kdm kd_5) rfl ef_1 (by decide) rfl kk_260 dd_X11_show_16 rfl ?_
      refine g_iloadn (pc := 19) (i := 2) (x := t) hK dd_X11_show_19 rfl rfl ?_
      refine g_callV (pc := 20) (As := [gI t]) hK ws_X_117 md_X10_has ⟨Nat.zero_le _, Nat.zero_le _⟩ ⟨by decide, by decide⟩ (kdm kd_6) rfl rfl dd_X11_show_20 rfl rfl (Nat.le_of_ble_eq_true rfl) (c_has10 t (show inI t by omega) (show 0 ≤ M 6 6 ∧ M 6 6 ≤ 30 by omega) (fun c5 => g_r1 ?_) (fun c5 => g_r1 ?_))
      · refine g_if_ne (pc := 23) (tgt := 33) hK dd_X11_show_23 (by decide) (by decide) (fun _ => ?_) (fun c6 => absurd (by decide) c6)
        refine g_aloadn (pc := 33) (i := 0) (x := 0) hK dd_X11_show_33 rfl rfl ?_
        refine g_getv (pc := 34) (f := (1, 1)) (j := 0) (v := gR 1) hK (kdm kd_0) rfl ef_11 (by decide) rfl kk_382 dd_X11_show_34 rfl ?_
        refine g_iloadn (pc := 37) (i := 1) (x := sf) hK dd_X11_show_37 rfl rfl ?_
        refine g_aald (pc := 38) hK (kdm kd_1) (by decide) dd_X11_show_38 (by omega) (by omega) ?_
        refine g_topv (v := gR (1 + 96 + 2 * sf.toNat)) rfl ?_
        refine g_iloadn (pc := 39) (i := 2) (x := t) hK dd_X11_show_39 rfl rfl ?_
        refine g_iconst (pc := 40) (x := (-1)) hK dd_X11_show_40 (by decide) ?_
        refine g_icmp_ne (pc := 41) (tgt := 48) hK dd_X11_show_41 (by decide) h_t (by decide) (fun c7 => ?_) (fun c7 => ?_)
        · refine g_bipush (pc := 48) (x := 10) hK dd_X11_show_48 (by decide) ?_
          refine g_iloadn (pc := 50) (i := 2) (x := t) hK dd_X11_show_50 rfl rfl ?_
          refine g_iadd (pc := 51) (z := 10 + t) hK dd_X11_show_51 rfl ?_
          refine g_puti (pc := 52) (f := (0, 0)) (j := 1) (ty := .int) hK (kdm (kd_sh (by omega) (by omega))) rfl ef_7 (by decide) rfl kk_371 (nl_sh (by omega) (by omega)) (fun z => absurd (show 1 + 96 + 2 * sf.toNat = 200 from z.1) (by omega)) dd_X11_show_52 rfl rfl rfl rfl rfl ⟨by omega, by omega⟩ ?_
          refine g_iconst (pc := 55) (x := 1) hK dd_X11_show_55 (by decide) ?_
          refine g_iret (pc := 56) hK hr hlocks dd_X11_show_56 rfl ?_
          first | exact g_fin (hN (by first | omega | (subst_vars; omega) | exact ⟨by first | assumption | omega | (subst_vars; first | assumption | omega), by first | assumption | omega | (subst_vars; first | assumption | omega)⟩)) (by first | rfl | omega | (subst_vars; first | rfl | omega)) (by first | rfl | (subst_vars; rfl)) | exact g_fin (hY (by first | omega | (subst_vars; omega) | exact ⟨by first | assumption | omega | (subst_vars; first | assumption | omega), by first | assumption | omega | (subst_vars; first | assumption | omega)⟩)) (by first | rfl | omega | (subst_vars; first | rfl | omega)) (by first | rfl | (subst_vars; rfl)) | (exfalso; omega)
        · refine g_iconst (pc := 44) (x := (-1)) hK dd_X11_show_44 (by decide) ?_
          refine g_goto (pc := 45) (tgt := 52) hK dd_X11_show_45 (by decide) ?_
          refine g_puti (pc := 52) (f := (0, 0)) (j := 1) (ty := .int) hK (kdm (kd_sh (by omega) (by omega))) rfl ef_7 (by decide) rfl kk_371 (nl_sh (by omega) (by omega)) (fun z => absurd (show 1 + 96 + 2 * sf.toNat = 200 from z.1) (by omega)) dd_X11_show_52 rfl rfl rfl rfl rfl (by decide) ?_
          refine g_iconst (pc := 55) (x := 1) hK dd_X11_show_55 (by decide) ?_
          refine g_iret (pc := 56) hK hr hlocks dd_X11_show_56 rfl ?_
          first | exact g_fin (hN (by first | omega | (subst_vars; omega) | exact ⟨by first | assumption | omega | (subst_vars; first | assumption | omega), by first | assumption | omega | (subst_vars; first | assumption | omega)⟩)) (by first | rfl | omega | (subst_vars; first | rfl | omega)) (by first | rfl | (subst_vars; rfl)) | exact g_fin (hY (by first | omega | (subst_vars; omega) | exact ⟨by first | assumption | omega | (subst_vars; first | assumption | omega), by first | assumption | omega | (subst_vars; first | assumption | omega)⟩)) (by first | rfl | omega | (subst_vars; first | rfl | omega)) (by first | rfl | (subst_vars; rfl)) | (exfalso; omega)
      · refine g_if_ne (pc := 23) (tgt := 33) hK dd_X11_show_23 (by decide) (by decide) (fun c8 => absurd c8 (by decide)) (fun _ => ?_)
        refine g_aloadn (pc := 26) (i := 0) (x := 0) hK dd_X11_show_26 rfl rfl ?_
        refine g_bipush (pc := 27) (x := (-2)) hK dd_X11_show_27 (by decide) ?_
        refine g_callV (pc := 29) (As := [gI (-2)]) hK ws_X_63 md_X11_refuse ⟨Nat.zero_le _, Nat.zero_le _⟩ ⟨by decide, by decide⟩ (kdm kd_0) rfl rfl dd_X11_show_29 rfl rfl (Nat.le_of_ble_eq_true rfl) (c_refuse_0 hrf (g_r1 ?_))
        refine g_iret (pc := 32) hK hr hlocks dd_X11_show_32 rfl ?_
        first | exact g_fin (hB (by first | omega | (subst_vars; omega) | exact ⟨by first | assumption | omega | (subst_vars; first | assumption | omega), by first | assumption | omega | (subst_vars; first | assumption | omega)⟩)) (by first | rfl | omega | (subst_vars; first | rfl | omega)) (by first | rfl | (subst_vars; rfl)) | (exfalso; omega)
  · refine g_if_eq (pc := 4) (tgt := 26) hK dd_X11_show_4 (by decide) (by decide) (fun _ => ?_) (fun c9 => absurd (by decide) c9)
    refine g_aloadn (pc := 26) (i := 0) (x := 0) hK dd_X11_show_26 rfl rfl ?_
    refine g_bipush (pc := 27) (x := (-2)) hK dd_X11_show_27 (by decide) ?_
    refine g_callV (pc := 29) (As := [gI (-2)]) hK ws_X_63 md_X11_refuse ⟨Nat.zero_le _, Nat.zero_le _⟩ ⟨by decide, by decide⟩ (kdm kd_0) rfl rfl dd_X11_show_29 rfl rfl (Nat.le_of_ble_eq_true rfl) (c_refuse_0 hrf (g_r1 ?_))
    refine g_iret (pc := 32) hK hr hlocks dd_X11_show_32 rfl ?_
    first | exact g_fin (hB (by first | omega | (subst_vars; omega) | exact ⟨by first | assumption | omega | (subst_vars; first | assumption | omega), by first | assumption | omega | (subst_vars; first | assumption | omega)⟩)) (by first | rfl | omega | (subst_vars; first | rfl | omega)) (by first | rfl | (subst_vars; rfl)) | (exfalso; omega)
set_option maxHeartbeats 4000000 in
set_option maxRecDepth 100000 in
theorem x_says {l : Launch} {M : Mem} {Pq : Option gV → Mem → Prop} (sf : Int) (k : Int) (h_sf : inI sf) (h_k : inI k) (hrf : rfOK M) (hsh : shOK M) (hc : 0 ≤ M 6 6 ∧ M 6 6 ≤ 30) (hth : thOK M) (hB : (¬ ((0 ≤ sf ∧ sf ≤ 7) ∧ 0 ≤ k ∧ k ≤ 5)) → Pq (some (gI (-2))) (rf M 0)) (hN : (((0 ≤ sf ∧ sf ≤ 7) ∧ 0 ≤ k ∧ k ≤ 5) ∧ M (1 + 96 + 2 * sf.toNat) 1 = -1) → Pq (some (gI (-4))) (rf M 2)) (hR : (((0 ≤ sf ∧ sf ≤ 7) ∧ 0 ≤ k ∧ k ≤ 5) ∧ 0 ≤ M (1 + 96 + 2 * sf.toNat) 1 ∧ M (1 + 96 + 2 * sf.toNat) 1 ≤ 4) → Pq (some (gI (-3))) (rf M 1)) (hO : ((((0 ≤ sf ∧ sf ≤ 7) ∧ 0 ≤ k ∧ k ≤ 5) ∧ 10 ≤ M (1 + 96 + 2 * sf.toNat) 1) ∧ ¬ undr (M 7 (M (1 + 96 + 2 * sf.toNat) 1 - 10).toNat) k) → Pq (some (gI (-3))) (rf M 1)) (hY : ((((0 ≤ sf ∧ sf ≤ 7) ∧ 0 ≤ k ∧ k ≤ 5) ∧ 10 ≤ M (1 + 96 + 2 * sf.toNat) 1) ∧ undr (M 7 (M (1 + 96 + 2 * sf.toNat) 1 - 10).toNat) k) → Pq (some (gI (wrd k (M 7 (M (1 + 96 + 2 * sf.toNat) 1 - 10).toNat) (M 8 (M (1 + 96 + 2 * sf.toNat) 1 - 10).toNat) (M 9 (M (1 + 96 + 2 * sf.toNat) 1 - 10).toNat)))) M) : gCtr l my_X11_says mb_X11_says 5 ((some .int)) 5 [gR 0, gI sf, gI k] M Pq := by
  refine g_intro (by decide) (Nat.le_of_ble_eq_true rfl) ?_
  intro p e s m args below meth c D cy q A hK hr hlocks hw
  refine g_sub (L' := [(0, gR 0), (1, gI sf), (2, gI k)]) [0, 1, 2] rfl ?_
  refine g_iloadn (pc := 0) (i := 1) (x := sf) hK dd_X11_says_0 rfl rfl ?_
  refine g_callT (pc := 1) (As := [gI sf]) hK ws_X_55 md_X11_isShelf ⟨Nat.zero_le _, Nat.zero_le _⟩ ⟨by decide, by decide⟩ dd_X11_says_1 rfl rfl (Nat.le_of_ble_eq_true rfl) (c_isShelf sf h_sf (fun c1 => g_r1 ?_) (fun c1 => g_r1 ?_))
  · refine g_if_eq (pc := 4) (tgt := 14) hK dd_X11_says_4 (by decide) (by decide) (fun c2 => absurd c2 (by decide)) (fun _ => ?_)
    refine g_iloadn (pc := 7) (i := 2) (x := k) hK dd_X11_says_7 rfl rfl ?_
    refine g_callT (pc := 8) (As := [gI k]) hK ws_X_122 md_X11_isKind ⟨Nat.zero_le _, Nat.zero_le _⟩ ⟨by decide, by decide⟩ dd_X11_says_8 rfl rfl (Nat.le_of_ble_eq_true rfl) (c_isKind k h_k (fun c3 => g_r1 ?_) (fun c3 => g_r1 ?_))
    · refine g_if_ne (pc := 11) (tgt := 21) hK dd_X11_says_11 (by decide) (by decide) (fun _ => ?_) (fun c4 => absurd (by decide) c4)
      have hs_ := hsh sf (by omega) (by omega)
      refine g_aloadn (pc := 21) (i := 0) (x := 0) hK dd_X11_says_21 rfl rfl ?_
      refine g_getv (pc := 22) (f := (1, 1)) (j := 0) (v := gR 1) hK (kdm kd_0) rfl ef_11 (by decide) rfl kk_382 dd_X11_says_22 rfl ?_
      refine g_iloadn (pc := 25) (i := 1) (x := sf) hK dd_X11_says_25 rfl rfl ?_
      refine g_aald (pc := 26) hK (kdm kd_1) (by decide) dd_X11_says_26 (by omega) (by omega) ?_
      refine g_topv (v := gR (1 + 96 + 2 * sf.toNat)) rfl ?_
      refine g_astoren (pc := 27) (i := 3) (L' := [(0, gR 0), (1, gI sf), (2, gI k), (3, gR (1 + 96 + 2 * sf.toNat))]) hK dd_X11_says_27 rfl (by decide) rfl ?_
      refine g_aloadn (pc := 28) (i := 3) (x := 1 + 96 + 2 * sf.toNat) hK dd_X11_says_28 rfl rfl ?_
      refine g_callV (pc := 29) (As := []) hK ws_X_92 md_X7_isEmpty ⟨Nat.zero_le _, Nat.zero_le _⟩ ⟨by decide, by decide⟩ (kdm (kd_sh (by omega) (by omega))) rfl rfl dd_X11_says_29 rfl rfl (Nat.le_of_ble_eq_true rfl) (c_isEmpty sf (by omega) (by omega) (fun c5 => g_r1 ?_) (fun c5 => g_r1 ?_))
      · refine g_if_eq (pc := 32) (tgt := 42) hK dd_X11_says_32 (by decide) (by decide) (fun c6 => absurd c6 (by decide)) (fun _ => ?_)
        refine g_aloadn (pc := 35) (i := 0) (x := 0) hK dd_X11_says_35 rfl rfl ?_
        refine g_bipush (pc := 36) (x := (-4)) hK dd_X11_says_36 (by decide) ?_
        refine g_callV (pc := 38) (As := [gI (-4)]) hK ws_X_63 md_X11_refuse ⟨Nat.zero_le _, Nat.zero_le _⟩ ⟨by decide, by decide⟩ (kdm kd_0) rfl rfl dd_X11_says_38 rfl rfl (Nat.le_of_ble_eq_true rfl) (c_refuse_2 hrf (g_r1 ?_))
        refine g_iret (pc := 41) hK hr hlocks dd_X11_says_41 rfl ?_
        first | exact g_fin (hN (by first | omega | (subst_vars; omega) | exact ⟨by first | assumption | omega | (subst_vars; first | assumption | omega), by first | assumption | omega | (subst_vars; first | assumption | omega)⟩)) (by first | rfl | omega | (subst_vars; first | rfl | omega)) (by first | rfl | (subst_vars; rfl)) | exact g_fin (hY (by first | omega | (subst_vars; omega) | exact ⟨by first | assumption | omega | (subst_vars; first | assumption | omega), by first | assumption | omega | (subst_vars; first | assumption | omega)⟩)) (by first | rfl | omega | (subst_vars; first | rfl | omega)) (by first | rfl | (subst_vars; rfl)) | (exfalso; omega)
      · refine g_if_eq (pc := 32) (tgt := 42) hK dd_X11_says_32 (by decide) (by decide) (fun _ => ?_) (fun c7 => absurd (by decide) c7)
        refine g_aloadn (pc := 42) (i := 3) (x := 1 + 96 + 2 * sf.toNat) hK dd_X11_says_42 rfl rfl ?_
        refine g_geti (pc := 43) (f := (0, 0)) (j := 1) hK (kdm (kd_sh (by omega) (by omega))) rfl ef_7 (by decide) rfl kk_371 (nl_sh (by omega) (by omega)) dd_X11_says_43 rfl (fun x8 ex8 rx8 => ?_)
        refine g_bipush (pc := 46) (x := 10) hK dd_X11_says_46 (by decide) ?_
        refine g_isub (pc := 48) (z := x8 - 10) hK dd_X11_says_48 rfl ?_
        refine g_istore (pc := 49) (i := 4) (L' := [(0, gR 0), (1, gI sf), (2, gI k), (3, gR (1 + 96 + 2 * sf.toNat)), (4, gI (x8 - 10))]) hK dd_X11_says_49 (by decide) rfl ?_
        refine g_aloadn (pc := 51) (i := 0) (x := 0) hK dd_X11_says_51 rfl rfl ?_
        refine g_getv (pc := 52) (f := (1, 5)) (j := 3) (v := gR 5) hK (kdm kd_0) rfl ef_11 (by decide) rfl kk_385 dd_X11_says_52 rfl ?_
        refine g_getv (pc := 55) (f := (1, 1)) (j := 0) (v := gR 6) hK (kdm kd_5) rfl ef_1 (by decide) rfl kk_260 dd_X11_says_55 rfl ?_
        refine g_iload (pc := 58) (i := 4) (x := x8 - 10) hK dd_X11_says_58 rfl ?_
        refine g_callV (pc := 60) (As := [gI (x8 - 10)]) hK ws_X_117 md_X10_has ⟨Nat.zero_le _, Nat.zero_le _⟩ ⟨by decide, by decide⟩ (kdm kd_6) rfl rfl dd_X11_says_60 rfl rfl (Nat.le_of_ble_eq_true rfl) (c_has10 (x8 - 10) (show inI (x8 - 10) by omega) (show 0 ≤ M 6 6 ∧ M 6 6 ≤ 30 by omega) (fun c9 => g_r1 ?_) (fun c9 => g_r1 ?_))
        · refine g_if_eq (pc := 63) (tgt := 82) hK dd_X11_says_63 (by decide) (by decide) (fun c10 => absurd c10 (by decide)) (fun _ => ?_)
          refine g_aloadn (pc := 66) (i := 0) (x := 0) hK dd_X11_says_66 rfl rfl ?_
          refine g_getv (pc := 67) (f := (1, 5)) (j := 3) (v := gR 5) hK (kdm kd_0) rfl ef_11 (by decide) rfl kk_385 dd_X11_says_67 rfl ?_
          refine g_getv (pc := 70) (f := (1, 1)) (j := 0) (v := gR 6) hK (kdm kd_5) rfl ef_1 (by decide) rfl kk_260 dd_X11_says_70 rfl ?_
          refine g_iload (pc := 73) (i := 4) (x := x8 - 10) hK dd_X11_says_73 rfl ?_
          refine g_iloadn (pc := 75) (i := 2) (x := k) hK dd_X11_says_75 rfl rfl ?_
          refine g_callV (pc := 76) (As := [gI (x8 - 10), gI k]) hK ws_X_125 md_X10_isOfOrUnder ⟨Nat.zero_le _, Nat.zero_le _⟩ ⟨by decide, by decide⟩ (kdm kd_6) rfl rfl dd_X11_says_76 rfl rfl (Nat.le_of_ble_eq_true rfl) (c_isOfOrUnder (x8 - 10) k (show 0 ≤ (x8 - 10) by omega) (show (x8 - 10) < 30 by omega) hth (show 0 ≤ k ∧ k ≤ 5 by omega) (fun c11 => g_r1 ?_) (fun c11 => g_r1 ?_))
          · refine g_if_ne (pc := 79) (tgt := 89) hK dd_X11_says_79 (by decide) (by decide) (fun _ => ?_) (fun c12 => absurd (by decide) c12)
            refine g_aloadn (pc := 89) (i := 0) (x := 0) hK dd_X11_says_89 rfl rfl ?_
            refine g_getv (pc := 90) (f := (1, 5)) (j := 3) (v := gR 5) hK (kdm kd_0) rfl ef_11 (by decide) rfl kk_385 dd_X11_says_90 rfl ?_
            refine g_getv (pc := 93) (f := (1, 1)) (j := 0) (v := gR 6) hK (kdm kd_5) rfl ef_1 (by decide) rfl kk_260 dd_X11_says_93 rfl ?_
            refine g_iload (pc := 96) (i := 4) (x := x8 - 10) hK dd_X11_says_96 rfl ?_
            refine g_iloadn (pc := 98) (i := 2) (x := k) hK dd_X11_says_98 rfl rfl ?_
            refine g_callV (pc := 99) (As := [gI (x8 - 10), gI k]) hK ws_X_128 md_X10_wordOf ⟨Nat.zero_le _, Nat.zero_le _⟩ ⟨by decide, by decide⟩ (kdm kd_6) rfl rfl dd_X11_says_99 rfl rfl (Nat.le_of_ble_eq_true rfl) (c_wordOf (x8 - 10) k (show 0 ≤ (x8 - 10) by omega) (show (x8 - 10) < 30 by omega) hth (show 0 ≤ k ∧ k ≤ 5 by omega) (g_r1 ?_))
            refine g_topI (fun y13 ey13 => ?_)
            refine g_iret (pc := 102) hK hr hlocks dd_X11_says_102 rfl ?_
            first | exact g_fin (hB (by first | omega | (subst_vars; omega) | exact ⟨by first | assumption | omega | (subst_vars; first | assumption | omega), by first | assumption | omega | (subst_vars; first | assumption | omega)⟩)) (by first | rfl | omega | (subst_vars; first | rfl | omega)) (by first | rfl | (subst_vars; rfl)) | exact g_fin (hN (by first | omega | (subst_vars; omega) | exact ⟨by first | assumption | omega | (subst_vars; first | assumption | omega), by first | assumption | omega | (subst_vars; first | assumption | omega)⟩)) (by first | rfl | omega | (subst_vars; first | rfl | omega)) (by first | rfl | (subst_vars; rfl)) | exact g_fin (hR (by first | omega | (subst_vars; omega) | exact ⟨by first | assumption | omega | (subst_vars; first | assumption | omega), by first | assumption | omega | (subst_vars; first | assumption | omega)⟩)) (by first | rfl | omega | (subst_vars; first | rfl | omega)) (by first | rfl | (subst_vars; rfl)) | exact g_fin (hO (by exact ⟨by omega, by subst_vars; assumption⟩)) (by first | rfl | omega | (subst_vars; first | rfl | omega)) (by first | rfl | (subst_vars; rfl)) | exact g_fin (hY (by first | omega | (subst_vars; omega) | exact ⟨by first | assumption | omega | (subst_vars; first | assumption | omega), by first | assumption | omega | (subst_vars; first | assumption | omega)⟩)) (by first | rfl | omega | (subst_vars; first | rfl | omega)) (by first | rfl | (subst_vars; rfl)) | (exfalso; omega)
          · refine g_if_ne (pc := 79) (tgt := 89) hK dd_X11_says_79 (by decide) (by decide) (fun c14 => absurd c14 (by decide)) (fun _ => ?_)
            refine g_aloadn (pc := 82) (i := 0) (x := 0) hK dd_X11_says_82 rfl rfl ?_
            refine g_bipush (pc := 83) (x := (-3)) hK dd_X11_says_83 (by decide) ?_
            refine g_callV (pc := 85) (As := [gI (-3)]) hK ws_X_63 md_X11_refuse ⟨Nat.zero_le _, Nat.zero_le _⟩ ⟨by decide, by decide⟩ (kdm kd_0) rfl rfl dd_X11_says_85 rfl rfl (Nat.le_of_ble_eq_true rfl) (c_refuse_1 hrf (g_r1 ?_))
            refine g_iret (pc := 88) hK hr hlocks dd_X11_says_88 rfl ?_
            first | exact g_fin (hR (by first | omega | (subst_vars; omega) | exact ⟨by first | assumption | omega | (subst_vars; first | assumption | omega), by first | assumption | omega | (subst_vars; first | assumption | omega)⟩)) (by first | rfl | omega | (subst_vars; first | rfl | omega)) (by first | rfl | (subst_vars; rfl)) | exact g_fin (hO (by exact ⟨by omega, by subst_vars; assumption⟩)) (by first | rfl | omega | (subst_vars; first | rfl | omega)) (by first | rfl | (subst_vars; rfl)) | exact g_fin (hY (by first | omega | (subst_vars; omega) | exact ⟨by first | assumption | omega | (subst_vars; first | assumption | omega), by first | assumption | omega | (subst_vars; first | assumption | omega)⟩)) (by first | rfl | omega | (subst_vars; first | rfl | omega)) (by first | rfl | (subst_vars; rfl)) | (exfalso; omega)
        · refine g_if_eq (pc := 63) (tgt := 82) hK dd_X11_says_63 (by decide) (by decide) (fun _ => ?_) (fun c15 => absurd (by decide) c15)
          refine g_aloadn (pc := 82) (i := 0) (x := 0) hK dd_X11_says_82 rfl rfl ?_
          refine g_bipush (pc := 83) (x := (-3)) hK dd_X11_says_83 (by decide) ?_
          refine g_callV (pc := 85) (As := [gI (-3)]) hK ws_X_63 md_X11_refuse ⟨Nat.zero_le _, Nat.zero_le _⟩ ⟨by decide, by decide⟩ (kdm kd_0) rfl rfl dd_X11_says_85 rfl rfl (Nat.le_of_ble_eq_true rfl) (c_refuse_1 hrf (g_r1 ?_))
          refine g_iret (pc := 88) hK hr hlocks dd_X11_says_88 rfl ?_
          first | exact g_fin (hR (by first | omega | (subst_vars; omega) | exact ⟨by first | assumption | omega | (subst_vars; first | assumption | omega), by first | assumption | omega | (subst_vars; first | assumption | omega)⟩)) (by first | rfl | omega | (subst_vars; first | rfl | omega)) (by first | rfl | (subst_vars; rfl)) | exact g_fin (hO (by exact ⟨by omega, by subst_vars; assumption⟩)) (by first | rfl | omega | (subst_vars; first | rfl | omega)) (by first | rfl | (subst_vars; rfl)) | exact g_fin (hY (by first | omega | (subst_vars; omega) | exact ⟨by first | assumption | omega | (subst_vars; first | assumption | omega), by first | assumption | omega | (subst_vars; first | assumption | omega)⟩)) (by first | rfl | omega | (subst_vars; first | rfl | omega)) (by first | rfl | (subst_vars; rfl)) | (exfalso; omega)
    · refine g_if_ne (pc := 11) (tgt := 21) hK dd_X11_says_11 (by decide) (by decide) (fun c16 => absurd c16 (by decide)) (fun _ => ?_)
      refine g_aloadn (pc := 14) (i := 0) (x := 0) hK dd_X11_says_14 rfl rfl ?_
      refine g_bipush (pc := 15) (x := (-2)) hK dd_X11_says_15 (by decide) ?_
      refine g_callV (pc := 17) (As := [gI (-2)]) hK ws_X_63 md_X11_refuse ⟨Nat.zero_le _, Nat.zero_le _⟩ ⟨by decide, by decide⟩ (kdm kd_0) rfl rfl dd_X11_says_17 rfl rfl (Nat.le_of_ble_eq_true rfl) (c_refuse_0 hrf (g_r1 ?_))
      refine g_iret (pc := 20) hK hr hlocks dd_X11_says_20 rfl ?_
      first | exact g_fin (hB (by first | omega | (subst_vars; omega) | exact ⟨by first | assumption | omega | (subst_vars; first | assumption | omega), by first | assumption | omega | (subst_vars; first | assumption | omega)⟩)) (by first | rfl | omega | (subst_vars; first | rfl | omega)) (by first | rfl | (subst_vars; rfl)) | exact g_fin (hY (by first | omega | (subst_vars; omega) | exact ⟨by first | assumption | omega | (subst_vars; first | assumption | omega), by first | assumption | omega | (subst_vars; first | assumption | omega)⟩)) (by first | rfl | omega | (subst_vars; first | rfl | omega)) (by first | rfl | (subst_vars; rfl)) | (exfalso; omega)
  · refine g_if_eq (pc := 4) (tgt := 14) hK dd_X11_says_4 (by decide) (by decide) (fun _ => ?_) (fun c17 => absurd (by decide) c17)
    refine g_aloadn (pc := 14) (i := 0) (x := 0) hK dd_X11_says_14 rfl rfl ?_
    refine g_bipush (pc := 15) (x := (-2)) hK dd_X11_says_15 (by decide) ?_
    refine g_callV (pc := 17) (As := [gI (-2)]) hK ws_X_63 md_X11_refuse ⟨Nat.zero_le _, Nat.zero_le _⟩ ⟨by decide, by decide⟩ (kdm kd_0) rfl rfl dd_X11_says_17 rfl rfl (Nat.le_of_ble_eq_true rfl) (c_refuse_0 hrf (g_r1 ?_))
    refine g_iret (pc := 20) hK hr hlocks dd_X11_says_20 rfl ?_
    first | exact g_fin (hB (by first | omega | (subst_vars; omega) | exact ⟨by first | assumption | omega | (subst_vars; first | assumption | omega), by first | assumption | omega | (subst_vars; first | assumption | omega)⟩)) (by first | rfl | omega | (subst_vars; first | rfl | omega)) (by first | rfl | (subst_vars; rfl)) | exact g_fin (hY (by first | omega | (subst_vars; omega) | exact ⟨by first | assumption | omega | (subst_vars; first | assumption | omega), by first | assumption | omega | (subst_vars; first | assumption | omega)⟩)) (by first | rfl | omega | (subst_vars; first | rfl | omega)) (by first | rfl | (subst_vars; rfl)) | (exfalso; omega)
set_option maxHeartbeats 4000000 in
set_option maxRecDepth 100000 in
theorem x_thing {l : Launch} {M : Mem} {Pq : Option gV → Mem → Prop} (k : Int) (w : Int) (ch : Int) (h_k : inI k) (h_w : inI w) (h_ch : inI ch) (hrf : rfOK M) (hc : 0 ≤ M 6 6 ∧ M 6 6 ≤ 30) (hB : (¬ ((0 ≤ k ∧ k ≤ 5) ∧ (0 ≤ w ∧ w ≤ 999) ∧ 0 ≤ ch ∧ ch ≤ 255)) → Pq (some (gI (-2))) (rf M 0)) (hF : (((0 ≤ k ∧ k ≤ 5) ∧ (0 ≤ w ∧ w ≤ 999) ∧ 0 ≤ ch ∧ ch ≤ 255) ∧ 30 ≤ M 6 6) → Pq (some (gI (-6))) (rf M 4)) (hY : (((0 ≤ k ∧ k ≤ 5) ∧ (0 ≤ w ∧ w ≤ 999) ∧ 0 ≤ ch ∧ ch ≤ 255) ∧ ¬ 30 ≤ M 6 6) → Pq (some (gI (M 6 6))) (addT M k w ch)) : gCtr l my_X11_thing mb_X11_thing 4 ((some .int)) 3 [gR 0, gI k, gI w, gI ch] M Pq := by
  refine g_intro (by decide) (Nat.le_of_ble_eq_true rfl) ?_
  intro p e s m args below meth c D cy q A hK hr hlocks hw
  refine g_sub (L' := [(0, gR 0), (1, gI k), (2, gI w), (3, gI ch)]) [0, 1, 2, 3] rfl ?_
  refine g_iloadn (pc := 0) (i := 1) (x := k) hK dd_X11_thing_0 rfl rfl ?_
  refine g_callT (pc := 1) (As := [gI k]) hK ws_X_122 md_X11_isKind ⟨Nat.zero_le _, Nat.zero_le _⟩ ⟨by decide, by decide⟩ dd_X11_thing_1 rfl rfl (Nat.le_of_ble_eq_true rfl) (c_isKind k h_k (fun c1 => g_r1 ?_) (fun c1 => g_r1 ?_))
  · refine g_if_eq (pc := 4) (tgt := 29) hK dd_X11_thing_4 (by decide) (by decide) (fun c2 => absurd c2 (by decide)) (fun _ => ?_)
    refine g_iloadn (pc := 7) (i := 2) (x := w) hK dd_X11_thing_7 rfl rfl ?_
    refine g_iconst (pc := 8) (x := 0) hK dd_X11_thing_8 (by decide) ?_
    refine g_sipush (pc := 9) (x := 999) hK dd_X11_thing_9 (by decide) ?_
    refine g_callT (pc := 12) (As := [gI w, gI 0, gI 999]) hK ws_X_59 md_X11_within ⟨Nat.zero_le _, Nat.zero_le _⟩ ⟨by decide, by decide⟩ dd_X11_thing_12 rfl rfl (Nat.le_of_ble_eq_true rfl) (c_within w 0 999 h_w (by decide) (by decide) (fun c3 => g_r1 ?_) (fun c3 => g_r1 ?_))
    · refine g_if_eq (pc := 15) (tgt := 29) hK dd_X11_thing_15 (by decide) (by decide) (fun c4 => absurd c4 (by decide)) (fun _ => ?_)
      refine g_iloadn (pc := 18) (i := 3) (x := ch) hK dd_X11_thing_18 rfl rfl ?_
      refine g_iconst (pc := 19) (x := 0) hK dd_X11_thing_19 (by decide) ?_
      refine g_sipush (pc := 20) (x := 255) hK dd_X11_thing_20 (by decide) ?_
      refine g_callT (pc := 23) (As := [gI ch, gI 0, gI 255]) hK ws_X_59 md_X11_within ⟨Nat.zero_le _, Nat.zero_le _⟩ ⟨by decide, by decide⟩ dd_X11_thing_23 rfl rfl (Nat.le_of_ble_eq_true rfl) (c_within ch 0 255 h_ch (by decide) (by decide) (fun c5 => g_r1 ?_) (fun c5 => g_r1 ?_))
      · refine g_if_ne (pc := 26) (tgt := 36) hK dd_X11_thing_26 (by decide) (by decide) (fun _ => ?_) (fun c6 => absurd (by decide) c6)
        refine g_aloadn (pc := 36) (i := 0) (x := 0) hK dd_X11_thing_36 rfl rfl ?_
        refine g_getv (pc := 37) (f := (1, 5)) (j := 3) (v := gR 5) hK (kdm kd_0) rfl ef_11 (by decide) rfl kk_385 dd_X11_thing_37 rfl ?_
        refine g_getv (pc := 40) (f := (1, 1)) (j := 0) (v := gR 6) hK (kdm kd_5) rfl ef_1 (by decide) rfl kk_260 dd_X11_thing_40 rfl ?_
        refine g_geti (pc := 43) (f := (0, 0)) (j := 6) hK (kdm kd_6) rfl ef_10 (by decide) rfl kk_90 nl_6 dd_X11_thing_43 rfl (fun x7 ex7 rx7 => ?_)
        refine g_bipush (pc := 46) (x := 30) hK dd_X11_thing_46 (by decide) ?_
        refine g_icmp_lt (pc := 48) (tgt := 58) hK dd_X11_thing_48 (by decide) rx7 (by decide) (fun c8 => ?_) (fun c8 => ?_)
        · refine g_aloadn (pc := 58) (i := 0) (x := 0) hK dd_X11_thing_58 rfl rfl ?_
          refine g_getv (pc := 59) (f := (1, 5)) (j := 3) (v := gR 5) hK (kdm kd_0) rfl ef_11 (by decide) rfl kk_385 dd_X11_thing_59 rfl ?_
          refine g_getv (pc := 62) (f := (1, 1)) (j := 0) (v := gR 6) hK (kdm kd_5) rfl ef_1 (by decide) rfl kk_260 dd_X11_thing_62 rfl ?_
          refine g_iloadn (pc := 65) (i := 1) (x := k) hK dd_X11_thing_65 rfl rfl ?_
          refine g_iloadn (pc := 66) (i := 2) (x := w) hK dd_X11_thing_66 rfl rfl ?_
          refine g_iloadn (pc := 67) (i := 3) (x := ch) hK dd_X11_thing_67 rfl rfl ?_
          refine g_callV (pc := 68) (As := [gI k, gI w, gI ch]) hK ws_X_135 md_X10_add ⟨Nat.zero_le _, Nat.zero_le _⟩ ⟨by decide, by decide⟩ (kdm kd_6) rfl rfl dd_X11_thing_68 rfl rfl (Nat.le_of_ble_eq_true rfl) (c_add10 k w ch (show 0 ≤ M 6 6 ∧ M 6 6 < 30 by omega) (show inI k by omega) (show inI w by omega) (show inI ch by omega) (g_r1 ?_))
          refine g_iret (pc := 71) hK hr hlocks dd_X11_thing_71 rfl ?_
          first | exact g_fin (hB (by first | omega | (subst_vars; omega) | exact ⟨by first | assumption | omega | (subst_vars; first | assumption | omega), by first | assumption | omega | (subst_vars; first | assumption | omega)⟩)) (by first | rfl | omega | (subst_vars; first | rfl | omega)) (by first | rfl | (subst_vars; rfl)) | exact g_fin (hF (by first | omega | (subst_vars; omega) | exact ⟨by first | assumption | omega | (subst_vars; first | assumption | omega), by first | assumption | omega | (subst_vars; first | assumption | omega)⟩)) (by first | rfl | omega | (subst_vars; first | rfl | omega)) (by first | rfl | (subst_vars; rfl)) | exact g_fin (hY (by first | omega | (subst_vars; omega) | exact ⟨by first | assumption | omega | (subst_vars; first | assumption | omega), by first | assumption | omega | (subst_vars; first | assumption | omega)⟩)) (by first | rfl | omega | (subst_vars; first | rfl | omega)) (by first | rfl | (subst_vars; rfl)) | (exfalso; omega)
        · refine g_aloadn (pc := 51) (i := 0) (x := 0) hK dd_X11_thing_51 rfl rfl ?_
          refine g_bipush (pc := 52) (x := (-6)) hK dd_X11_thing_52 (by decide) ?_
          refine g_callV (pc := 54) (As := [gI (-6)]) hK ws_X_63 md_X11_refuse ⟨Nat.zero_le _, Nat.zero_le _⟩ ⟨by decide, by decide⟩ (kdm kd_0) rfl rfl dd_X11_thing_54 rfl rfl (Nat.le_of_ble_eq_true rfl) (c_refuse_4 hrf (g_r1 ?_))
          refine g_iret (pc := 57) hK hr hlocks dd_X11_thing_57 rfl ?_
          first | exact g_fin (hF (by first | omega | (subst_vars; omega) | exact ⟨by first | assumption | omega | (subst_vars; first | assumption | omega), by first | assumption | omega | (subst_vars; first | assumption | omega)⟩)) (by first | rfl | omega | (subst_vars; first | rfl | omega)) (by first | rfl | (subst_vars; rfl)) | exact g_fin (hY (by first | omega | (subst_vars; omega) | exact ⟨by first | assumption | omega | (subst_vars; first | assumption | omega), by first | assumption | omega | (subst_vars; first | assumption | omega)⟩)) (by first | rfl | omega | (subst_vars; first | rfl | omega)) (by first | rfl | (subst_vars; rfl)) | (exfalso; omega)
      · refine g_if_ne (pc := 26) (tgt := 36) hK dd_X11_thing_26 (by decide) (by decide) (fun c9 => absurd c9 (by decide)) (fun _ => ?_)
        refine g_aloadn (pc := 29) (i := 0) (x := 0) hK dd_X11_thing_29 rfl rfl ?_
        refine g_bipush (pc := 30) (x := (-2)) hK dd_X11_thing_30 (by decide) ?_
        refine g_callV (pc := 32) (As := [gI (-2)]) hK ws_X_63 md_X11_refuse ⟨Nat.zero_le _, Nat.zero_le _⟩ ⟨by decide, by decide⟩ (kdm kd_0) rfl rfl dd_X11_thing_32 rfl rfl (Nat.le_of_ble_eq_true rfl) (c_refuse_0 hrf (g_r1 ?_))
        refine g_iret (pc := 35) hK hr hlocks dd_X11_thing_35 rfl ?_
        first | exact g_fin (hB (by first | omega | (subst_vars; omega) | exact ⟨by first | assumption | omega | (subst_vars; first | assumption | omega), by first | assumption | omega | (subst_vars; first | assumption | omega)⟩)) (by first | rfl | omega | (subst_vars; first | rfl | omega)) (by first | rfl | (subst_vars; rfl)) | exact g_fin (hY (by first | omega | (subst_vars; omega) | exact ⟨by first | assumption | omega | (subst_vars; first | assumption | omega), by first | assumption | omega | (subst_vars; first | assumption | omega)⟩)) (by first | rfl | omega | (subst_vars; first | rfl | omega)) (by first | rfl | (subst_vars; rfl)) | (exfalso; omega)
    · refine g_if_eq (pc := 15) (tgt := 29) hK dd_X11_thing_15 (by decide) (by decide) (fun _ => ?_) (fun c10 => absurd (by decide) c10)
      refine g_aloadn (pc := 29) (i := 0) (x := 0) hK dd_X11_thing_29 rfl rfl ?_
      refine g_bipush (pc := 30) (x := (-2)) hK dd_X11_thing_30 (by decide) ?_
      refine g_callV (pc := 32) (As := [gI (-2)]) hK ws_X_63 md_X11_refuse ⟨Nat.zero_le _, Nat.zero_le _⟩ ⟨by decide, by decide⟩ (kdm kd_0) rfl rfl dd_X11_thing_32 rfl rfl (Nat.le_of_ble_eq_true rfl) (c_refuse_0 hrf (g_r1 ?_))
      refine g_iret (pc := 35) hK hr hlocks dd_X11_thing_35 rfl ?_
      first | exact g_fin (hB (by first | omega | (subst_vars; omega) | exact ⟨by first | assumption | omega | (subst_vars; first | assumption | omega), by first | assumption | omega | (subst_vars; first | assumption | omega)⟩)) (by first | rfl | omega | (subst_vars; first | rfl | omega)) (by first | rfl | (subst_vars; rfl)) | exact g_fin (hY (by first | omega | (subst_vars; omega) | exact ⟨by first | assumption | omega | (subst_vars; first | assumption | omega), by first | assumption | omega | (subst_vars; first | assumption | omega)⟩)) (by first | rfl | omega | (subst_vars; first | rfl | omega)) (by first | rfl | (subst_vars; rfl)) | (exfalso; omega)
  · refine g_if_eq (pc := 4) (tgt := 29) hK dd_X11_thing_4 (by decide) (by decide) (fun _ => ?_) (fun c11 => absurd (by decide) c11)
    refine g_aloadn (pc := 29) (i := 0) (x := 0) hK dd_X11_thing_29 rfl rfl ?_
    refine g_bipush (pc := 30) (x := (-2)) hK dd_X11_thing_30 (by decide) ?_
    refine g_callV (pc := 32) (As := [gI (-2)]) hK ws_X_63 md_X11_refuse ⟨Nat.zero_le _, Nat.zero_le _⟩ ⟨by decide, by decide⟩ (kdm kd_0) rfl rfl dd_X11_thing_32 rfl rfl (Nat.le_of_ble_eq_true rfl) (c_refuse_0 hrf (g_r1 ?_))
    refine g_iret (pc := 35) hK hr hlocks dd_X11_thing_35 rfl ?_
    first | exact g_fin (hB (by first | omega | (subst_vars; omega) | exact ⟨by first | assumption | omega | (subst_vars; first | assumption | omega), by first | assumption | omega | (subst_vars; first | assumption | omega)⟩)) (by first | rfl | omega | (subst_vars; first | rfl | omega)) (by first | rfl | (subst_vars; rfl)) | exact g_fin (hY (by first | omega | (subst_vars; omega) | exact ⟨by first | assumption | omega | (subst_vars; first | assumption | omega), by first | assumption | omega | (subst_vars; first | assumption | omega)⟩)) (by first | rfl | omega | (subst_vars; first | rfl | omega)) (by first | rfl | (subst_vars; rfl)) | (exfalso; omega)
set_option maxHeartbeats 4000000 in
set_option maxRecDepth 100000 in
theorem x_thingOf {l : Launch} {M : Mem} {Pq : Option gV → Mem → Prop} (t : Int) (wh : Int) (h_t : inI t) (h_wh : inI wh) (hrf : rfOK M) (hc : 0 ≤ M 6 6 ∧ M 6 6 ≤ 30) (hth : thOK M) (hB : (¬ ((0 ≤ t ∧ t < M 6 6) ∧ 0 ≤ wh ∧ wh ≤ 6)) → Pq (some (gI (-2))) (rf M 0)) (h0 : ((0 ≤ t ∧ t < M 6 6) ∧ wh = 0) → Pq (some (gI (M 7 t.toNat))) M) (h1 : ((0 ≤ t ∧ t < M 6 6) ∧ wh = 1) → Pq (some (gI (M 8 t.toNat))) M) (h2 : ((0 ≤ t ∧ t < M 6 6) ∧ wh = 2) → Pq (some (gI (M 9 t.toNat))) M) (h3 : ((0 ≤ t ∧ t < M 6 6) ∧ wh = 3) → Pq (some (gI (TW (M 7 t.toNat) (M 8 t.toNat) (M 9 t.toNat)))) M) (h4 : ((0 ≤ t ∧ t < M 6 6) ∧ wh = 4) → Pq (some (gI (M 10 t.toNat))) M) (h5 : ((0 ≤ t ∧ t < M 6 6) ∧ wh = 5) → Pq (some (gI (M 11 t.toNat))) M) (h6 : ((0 ≤ t ∧ t < M 6 6) ∧ wh = 6) → Pq (some (gI (M 12 t.toNat))) M) : gCtr l my_X11_thingOf mb_X11_thingOf 3 ((some .int)) 4 [gR 0, gI t, gI wh] M Pq := by
  refine g_intro (by decide) (Nat.le_of_ble_eq_true rfl) ?_
  intro p e s m args below meth c D cy q A hK hr hlocks hw
  refine g_sub (L' := [(0, gR 0), (1, gI t), (2, gI wh)]) [0, 1, 2] rfl ?_
  refine g_aloadn (pc := 0) (i := 0) (x := 0) hK dd_X11_thingOf_0 rfl rfl ?_
  refine g_getv (pc := 1) (f := (1, 5)) (j := 3) (v := gR 5) hK (kdm kd_0) rfl ef_11 (by decide) rfl kk_385 dd_X11_thingOf_1 rfl ?_
  refine g_getv (pc := 4) (f := (1, 1)) (j := 0) (v := gR 6) hK (kdm kd_5) rfl ef_1 (by decide) rfl kk_260 dd_X11_thingOf_4 rfl ?_
  refine g_iloadn (pc := 7) (i := 1) (x := t) hK dd_X11_thingOf_7 rfl rfl ?_
  refine g_callV (pc := 8) (As := [gI t]) hK ws_X_117 md_X10_has ⟨Nat.zero_le _, Nat.zero_le _⟩ ⟨by decide, by decide⟩ (kdm kd_6) rfl rfl dd_X11_thingOf_8 rfl rfl (Nat.le_of_ble_eq_true rfl) (c_has10 t (show inI t by omega) (show 0 ≤ M 6 6 ∧ M 6 6 ≤ 30 by omega) (fun c1 => g_r1 ?_) (fun c1 => g_r1 ?_))
  · refine g_if_ne (pc := 11) (tgt := 21) hK dd_X11_thingOf_11 (by decide) (by decide) (fun _ => ?_) (fun c2 => absurd (by decide) c2)
    refine g_iloadn (pc := 21) (i := 2) (x := wh) hK dd_X11_thingOf_21 rfl rfl ?_
    rcases (show (wh < 0 ∨ 6 < wh) ∨ wh = 0 ∨ wh = 1 ∨ wh = 2 ∨ wh = 3 ∨ wh = 4 ∨ wh = 5 ∨ wh = 6 by omega) with c3 | c3 | c3 | c3 | c3 | c3 | c3 | c3
    · refine g_tabOut (pc := 22) (tgt := 154) hK dd_X11_thingOf_22 h_wh c3 (by decide) ?_
      refine g_aloadn (pc := 154) (i := 0) (x := 0) hK dd_X11_thingOf_154 rfl rfl ?_
      refine g_bipush (pc := 155) (x := (-2)) hK dd_X11_thingOf_155 (by decide) ?_
      refine g_callV (pc := 157) (As := [gI (-2)]) hK ws_X_63 md_X11_refuse ⟨Nat.zero_le _, Nat.zero_le _⟩ ⟨by decide, by decide⟩ (kdm kd_0) rfl rfl dd_X11_thingOf_157 rfl rfl (Nat.le_of_ble_eq_true rfl) (c_refuse_0 hrf (g_r1 ?_))
      refine g_iret (pc := 160) hK hr hlocks dd_X11_thingOf_160 rfl ?_
      first | exact g_fin (hB (by first | omega | (subst_vars; omega) | exact ⟨by first | assumption | omega | (subst_vars; first | assumption | omega), by first | assumption | omega | (subst_vars; first | assumption | omega)⟩)) (by first | rfl | omega | (subst_vars; first | rfl | omega)) (by first | rfl | (subst_vars; rfl)) | exact g_fin (h0 (by first | omega | (subst_vars; omega) | exact ⟨by first | assumption | omega | (subst_vars; first | assumption | omega), by first | assumption | omega | (subst_vars; first | assumption | omega)⟩)) (by first | rfl | omega | (subst_vars; first | rfl | omega)) (by first | rfl | (subst_vars; rfl)) | exact g_fin (h1 (by first | omega | (subst_vars; omega) | exact ⟨by first | assumption | omega | (subst_vars; first | assumption | omega), by first | assumption | omega | (subst_vars; first | assumption | omega)⟩)) (by first | rfl | omega | (subst_vars; first | rfl | omega)) (by first | rfl | (subst_vars; rfl)) | exact g_fin (h2 (by first | omega | (subst_vars; omega) | exact ⟨by first | assumption | omega | (subst_vars; first | assumption | omega), by first | assumption | omega | (subst_vars; first | assumption | omega)⟩)) (by first | rfl | omega | (subst_vars; first | rfl | omega)) (by first | rfl | (subst_vars; rfl)) | exact g_fin (h3 (by first | omega | (subst_vars; omega) | exact ⟨by first | assumption | omega | (subst_vars; first | assumption | omega), by first | assumption | omega | (subst_vars; first | assumption | omega)⟩)) (by first | rfl | omega | (subst_vars; first | rfl | omega)) (by first | rfl | (subst_vars; rfl)) | exact g_fin (h4 (by first | omega | (subst_vars; omega) | exact ⟨by first | assumption | omega | (subst_vars; first | assumption | omega), by first | assumption | omega | (subst_vars; first | assumption | omega)⟩)) (by first | rfl | omega | (subst_vars; first | rfl | omega)) (by first | rfl | (subst_vars; rfl)) | exact g_fin (h5 (by first | omega | (subst_vars; omega) | exact ⟨by first | assumption | omega | (subst_vars; first | assumption | omega), by first | assumption | omega | (subst_vars; first | assumption | omega)⟩)) (by first | rfl | omega | (subst_vars; first | rfl | omega)) (by first | rfl | (subst_vars; rfl)) | exact g_fin (h6 (by first | omega | (subst_vars; omega) | exact ⟨by first | assumption | omega | (subst_vars; first | assumption | omega), by first | assumption | omega | (subst_vars; first | assumption | omega)⟩)) (by first | rfl | omega | (subst_vars; first | rfl | omega)) (by first | rfl | (subst_vars; rfl)) | (exfalso; omega)
    · refine g_tabIn (pc := 22) (tgt := 64) hK dd_X11_thingOf_22 h_wh (by omega) (by omega) (by rw [c3]; rfl) (by decide) ?_
      refine g_aloadn (pc := 64) (i := 0) (x := 0) hK dd_X11_thingOf_64 rfl rfl ?_
      refine g_getv (pc := 65) (f := (1, 5)) (j := 3) (v := gR 5) hK (kdm kd_0) rfl ef_11 (by decide) rfl kk_385 dd_X11_thingOf_65 rfl ?_
      refine g_getv (pc := 68) (f := (1, 1)) (j := 0) (v := gR 6) hK (kdm kd_5) rfl ef_1 (by decide) rfl kk_260 dd_X11_thingOf_68 rfl ?_
      refine g_getv (pc := 71) (f := (1, 1)) (j := 0) (v := gR 7) hK (kdm kd_6) rfl ef_10 (by decide) rfl kk_69 dd_X11_thingOf_71 rfl ?_
      refine g_iloadn (pc := 74) (i := 1) (x := t) hK dd_X11_thingOf_74 rfl rfl ?_
      refine g_iald (pc := 75) hK (kdm kd_7) nl_7 (by decide) dd_X11_thingOf_75 (by omega) (by omega) (fun x4 ex4 rx4 => ?_)
      refine g_iret (pc := 76) hK hr hlocks dd_X11_thingOf_76 rfl ?_
      first | exact g_fin (hB (by first | omega | (subst_vars; omega) | exact ⟨by first | assumption | omega | (subst_vars; first | assumption | omega), by first | assumption | omega | (subst_vars; first | assumption | omega)⟩)) (by first | rfl | omega | (subst_vars; first | rfl | omega)) (by first | rfl | (subst_vars; rfl)) | exact g_fin (h0 (by first | omega | (subst_vars; omega) | exact ⟨by first | assumption | omega | (subst_vars; first | assumption | omega), by first | assumption | omega | (subst_vars; first | assumption | omega)⟩)) (by first | rfl | omega | (subst_vars; first | rfl | omega)) (by first | rfl | (subst_vars; rfl)) | exact g_fin (h1 (by first | omega | (subst_vars; omega) | exact ⟨by first | assumption | omega | (subst_vars; first | assumption | omega), by first | assumption | omega | (subst_vars; first | assumption | omega)⟩)) (by first | rfl | omega | (subst_vars; first | rfl | omega)) (by first | rfl | (subst_vars; rfl)) | exact g_fin (h2 (by first | omega | (subst_vars; omega) | exact ⟨by first | assumption | omega | (subst_vars; first | assumption | omega), by first | assumption | omega | (subst_vars; first | assumption | omega)⟩)) (by first | rfl | omega | (subst_vars; first | rfl | omega)) (by first | rfl | (subst_vars; rfl)) | exact g_fin (h3 (by first | omega | (subst_vars; omega) | exact ⟨by first | assumption | omega | (subst_vars; first | assumption | omega), by first | assumption | omega | (subst_vars; first | assumption | omega)⟩)) (by first | rfl | omega | (subst_vars; first | rfl | omega)) (by first | rfl | (subst_vars; rfl)) | exact g_fin (h4 (by first | omega | (subst_vars; omega) | exact ⟨by first | assumption | omega | (subst_vars; first | assumption | omega), by first | assumption | omega | (subst_vars; first | assumption | omega)⟩)) (by first | rfl | omega | (subst_vars; first | rfl | omega)) (by first | rfl | (subst_vars; rfl)) | exact g_fin (h5 (by first | omega | (subst_vars; omega) | exact ⟨by first | assumption | omega | (subst_vars; first | assumption | omega), by first | assumption | omega | (subst_vars; first | assumption | omega)⟩)) (by first | rfl | omega | (subst_vars; first | rfl | omega)) (by first | rfl | (subst_vars; rfl)) | exact g_fin (h6 (by first | omega | (subst_vars; omega) | exact ⟨by first | assumption | omega | (subst_vars; first | assumption | omega), by first | assumption | omega | (subst_vars; first | assumption | omega)⟩)) (by first | rfl | omega | (subst_vars; first | rfl | omega)) (by first | rfl | (subst_vars; rfl)) | (exfalso; omega)
    · refine g_tabIn (pc := 22) (tgt := 77) hK dd_X11_thingOf_22 h_wh (by omega) (by omega) (by rw [c3]; rfl) (by decide) ?_
      refine g_aloadn (pc := 77) (i := 0) (x := 0) hK dd_X11_thingOf_77 rfl rfl ?_
      refine g_getv (pc := 78) (f := (1, 5)) (j := 3) (v := gR 5) hK (kdm kd_0) rfl ef_11 (by decide) rfl kk_385 dd_X11_thingOf_78 rfl ?_
      refine g_getv (pc := 81) (f := (1, 1)) (j := 0) (v := gR 6) hK (kdm kd_5) rfl ef_1 (by decide) rfl kk_260 dd_X11_thingOf_81 rfl ?_
      refine g_getv (pc := 84) (f := (1, 2)) (j := 1) (v := gR 8) hK (kdm kd_6) rfl ef_10 (by decide) rfl kk_71 dd_X11_thingOf_84 rfl ?_
      refine g_iloadn (pc := 87) (i := 1) (x := t) hK dd_X11_thingOf_87 rfl rfl ?_
      refine g_iald (pc := 88) hK (kdm kd_8) nl_8 (by decide) dd_X11_thingOf_88 (by omega) (by omega) (fun x5 ex5 rx5 => ?_)
      refine g_iret (pc := 89) hK hr hlocks dd_X11_thingOf_89 rfl ?_
      first | exact g_fin (hB (by first | omega | (subst_vars; omega) | exact ⟨by first | assumption | omega | (subst_vars; first | assumption | omega), by first | assumption | omega | (subst_vars; first | assumption | omega)⟩)) (by first | rfl | omega | (subst_vars; first | rfl | omega)) (by first | rfl | (subst_vars; rfl)) | exact g_fin (h0 (by first | omega | (subst_vars; omega) | exact ⟨by first | assumption | omega | (subst_vars; first | assumption | omega), by first | assumption | omega | (subst_vars; first | assumption | omega)⟩)) (by first | rfl | omega | (subst_vars; first | rfl | omega)) (by first | rfl | (subst_vars; rfl)) | exact g_fin (h1 (by first | omega | (subst_vars; omega) | exact ⟨by first | assumption | omega | (subst_vars; first | assumption | omega), by first | assumption | omega | (subst_vars; first | assumption | omega)⟩)) (by first | rfl | omega | (subst_vars; first | rfl | omega)) (by first | rfl | (subst_vars; rfl)) | exact g_fin (h2 (by first | omega | (subst_vars; omega) | exact ⟨by first | assumption | omega | (subst_vars; first | assumption | omega), by first | assumption | omega | (subst_vars; first | assumption | omega)⟩)) (by first | rfl | omega | (subst_vars; first | rfl | omega)) (by first | rfl | (subst_vars; rfl)) | exact g_fin (h3 (by first | omega | (subst_vars; omega) | exact ⟨by first | assumption | omega | (subst_vars; first | assumption | omega), by first | assumption | omega | (subst_vars; first | assumption | omega)⟩)) (by first | rfl | omega | (subst_vars; first | rfl | omega)) (by first | rfl | (subst_vars; rfl)) | exact g_fin (h4 (by first | omega | (subst_vars; omega) | exact ⟨by first | assumption | omega | (subst_vars; first | assumption | omega), by first | assumption | omega | (subst_vars; first | assumption | omega)⟩)) (by first | rfl | omega | (subst_vars; first | rfl | omega)) (by first | rfl | (subst_vars; rfl)) | exact g_fin (h5 (by first | omega | (subst_vars; omega) | exact ⟨by first | assumption | omega | (subst_vars; first | assumption | omega), by first | assumption | omega | (subst_vars; first | assumption | omega)⟩)) (by first | rfl | omega | (subst_vars; first | rfl | omega)) (by first | rfl | (subst_vars; rfl)) | exact g_fin (h6 (by first | omega | (subst_vars; omega) | exact ⟨by first | assumption | omega | (subst_vars; first | assumption | omega), by first | assumption | omega | (subst_vars; first | assumption | omega)⟩)) (by first | rfl | omega | (subst_vars; first | rfl | omega)) (by first | rfl | (subst_vars; rfl)) | (exfalso; omega)
    · refine g_tabIn (pc := 22) (tgt := 90) hK dd_X11_thingOf_22 h_wh (by omega) (by omega) (by rw [c3]; rfl) (by decide) ?_
      refine g_aloadn (pc := 90) (i := 0) (x := 0) hK dd_X11_thingOf_90 rfl rfl ?_
      refine g_getv (pc := 91) (f := (1, 5)) (j := 3) (v := gR 5) hK (kdm kd_0) rfl ef_11 (by decide) rfl kk_385 dd_X11_thingOf_91 rfl ?_
      refine g_getv (pc := 94) (f := (1, 1)) (j := 0) (v := gR 6) hK (kdm kd_5) rfl ef_1 (by decide) rfl kk_260 dd_X11_thingOf_94 rfl ?_
      refine g_getv (pc := 97) (f := (1, 3)) (j := 2) (v := gR 9) hK (kdm kd_6) rfl ef_10 (by decide) rfl kk_73 dd_X11_thingOf_97 rfl ?_
      refine g_iloadn (pc := 100) (i := 1) (x := t) hK dd_X11_thingOf_100 rfl rfl ?_
      refine g_iald (pc := 101) hK (kdm kd_9) nl_9 (by decide) dd_X11_thingOf_101 (by omega) (by omega) (fun x6 ex6 rx6 => ?_)
      refine g_iret (pc := 102) hK hr hlocks dd_X11_thingOf_102 rfl ?_
      first | exact g_fin (hB (by first | omega | (subst_vars; omega) | exact ⟨by first | assumption | omega | (subst_vars; first | assumption | omega), by first | assumption | omega | (subst_vars; first | assumption | omega)⟩)) (by first | rfl | omega | (subst_vars; first | rfl | omega)) (by first | rfl | (subst_vars; rfl)) | exact g_fin (h0 (by first | omega | (subst_vars; omega) | exact ⟨by first | assumption | omega | (subst_vars; first | assumption | omega), by first | assumption | omega | (subst_vars; first | assumption | omega)⟩)) (by first | rfl | omega | (subst_vars; first | rfl | omega)) (by first | rfl | (subst_vars; rfl)) | exact g_fin (h1 (by first | omega | (subst_vars; omega) | exact ⟨by first | assumption | omega | (subst_vars; first | assumption | omega), by first | assumption | omega | (subst_vars; first | assumption | omega)⟩)) (by first | rfl | omega | (subst_vars; first | rfl | omega)) (by first | rfl | (subst_vars; rfl)) | exact g_fin (h2 (by first | omega | (subst_vars; omega) | exact ⟨by first | assumption | omega | (subst_vars; first | assumption | omega), by first | assumption | omega | (subst_vars; first | assumption | omega)⟩)) (by first | rfl | omega | (subst_vars; first | rfl | omega)) (by first | rfl | (subst_vars; rfl)) | exact g_fin (h3 (by first | omega | (subst_vars; omega) | exact ⟨by first | assumption | omega | (subst_vars; first | assumption | omega), by first | assumption | omega | (subst_vars; first | assumption | omega)⟩)) (by first | rfl | omega | (subst_vars; first | rfl | omega)) (by first | rfl | (subst_vars; rfl)) | exact g_fin (h4 (by first | omega | (subst_vars; omega) | exact ⟨by first | assumption | omega | (subst_vars; first | assumption | omega), by first | assumption | omega | (subst_vars; first | assumption | omega)⟩)) (by first | rfl | omega | (subst_vars; first | rfl | omega)) (by first | rfl | (subst_vars; rfl)) | exact g_fin (h5 (by first | omega | (subst_vars; omega) | exact ⟨by first | assumption | omega | (subst_vars; first | assumption | omega), by first | assumption | omega | (subst_vars; first | assumption | omega)⟩)) (by first | rfl | omega | (subst_vars; first | rfl | omega)) (by first | rfl | (subst_vars; rfl)) | exact g_fin (h6 (by first | omega | (subst_vars; omega) | exact ⟨by first | assumption | omega | (subst_vars; first | assumption | omega), by first | assumption | omega | (subst_vars; first | assumption | omega)⟩)) (by first | rfl | omega | (subst_vars; first | rfl | omega)) (by first | rfl | (subst_vars; rfl)) | (exfalso; omega)
    · refine g_tabIn (pc := 22) (tgt := 103) hK dd_X11_thingOf_22 h_wh (by omega) (by omega) (by rw [c3]; rfl) (by decide) ?_
      refine g_aloadn (pc := 103) (i := 0) (x := 0) hK dd_X11_thingOf_103 rfl rfl ?_
      refine g_getv (pc := 104) (f := (1, 5)) (j := 3) (v := gR 5) hK (kdm kd_0) rfl ef_11 (by decide) rfl kk_385 dd_X11_thingOf_104 rfl ?_
      refine g_getv (pc := 107) (f := (1, 1)) (j := 0) (v := gR 6) hK (kdm kd_5) rfl ef_1 (by decide) rfl kk_260 dd_X11_thingOf_107 rfl ?_
      refine g_iloadn (pc := 110) (i := 1) (x := t) hK dd_X11_thingOf_110 rfl rfl ?_
      refine g_callV (pc := 111) (As := [gI t]) hK ws_X_150 md_X10_trueWorth ⟨Nat.zero_le _, Nat.zero_le _⟩ ⟨by decide, by decide⟩ (kdm kd_6) rfl rfl dd_X11_thingOf_111 rfl rfl (Nat.le_of_ble_eq_true rfl) (c_trueWorth t (by omega) (by omega) hth (g_r1 ?_))
      refine g_topI (fun y7 ey7 => ?_)
      refine g_iret (pc := 114) hK hr hlocks dd_X11_thingOf_114 rfl ?_
      first | exact g_fin (hB (by first | omega | (subst_vars; omega) | exact ⟨by first | assumption | omega | (subst_vars; first | assumption | omega), by first | assumption | omega | (subst_vars; first | assumption | omega)⟩)) (by first | rfl | omega | (subst_vars; first | rfl | omega)) (by first | rfl | (subst_vars; rfl)) | exact g_fin (h0 (by first | omega | (subst_vars; omega) | exact ⟨by first | assumption | omega | (subst_vars; first | assumption | omega), by first | assumption | omega | (subst_vars; first | assumption | omega)⟩)) (by first | rfl | omega | (subst_vars; first | rfl | omega)) (by first | rfl | (subst_vars; rfl)) | exact g_fin (h1 (by first | omega | (subst_vars; omega) | exact ⟨by first | assumption | omega | (subst_vars; first | assumption | omega), by first | assumption | omega | (subst_vars; first | assumption | omega)⟩)) (by first | rfl | omega | (subst_vars; first | rfl | omega)) (by first | rfl | (subst_vars; rfl)) | exact g_fin (h2 (by first | omega | (subst_vars; omega) | exact ⟨by first | assumption | omega | (subst_vars; first | assumption | omega), by first | assumption | omega | (subst_vars; first | assumption | omega)⟩)) (by first | rfl | omega | (subst_vars; first | rfl | omega)) (by first | rfl | (subst_vars; rfl)) | exact g_fin (h3 (by first | omega | (subst_vars; omega) | exact ⟨by first | assumption | omega | (subst_vars; first | assumption | omega), by first | assumption | omega | (subst_vars; first | assumption | omega)⟩)) (by first | rfl | omega | (subst_vars; first | rfl | omega)) (by first | rfl | (subst_vars; rfl)) | exact g_fin (h4 (by first | omega | (subst_vars; omega) | exact ⟨by first | assumption | omega | (subst_vars; first | assumption | omega), by first | assumption | omega | (subst_vars; first | assumption | omega)⟩)) (by first | rfl | omega | (subst_vars; first | rfl | omega)) (by first | rfl | (subst_vars; rfl)) | exact g_fin (h5 (by first | omega | (subst_vars; omega) | exact ⟨by first | assumption | omega | (subst_vars; first | assumption | omega), by first | assumption | omega | (subst_vars; first | assumption | omega)⟩)) (by first | rfl | omega | (subst_vars; first | rfl | omega)) (by first | rfl | (subst_vars; rfl)) | exact g_fin (h6 (by first | omega | (subst_vars; omega) | exact ⟨by first | assumption | omega | (subst_vars; first | assumption | omega), by first | assumption | omega | (subst_vars; first | assumption | omega)⟩)) (by first | rfl | omega | (subst_vars; first | rfl | omega)) (by first | rfl | (subst_vars; rfl)) | (exfalso; omega)
    · refine g_tabIn (pc := 22) (tgt := 115) hK dd_X11_thingOf_22 h_wh (by omega) (by omega) (by rw [c3]; rfl) (by decide) ?_
      refine g_aloadn (pc := 115) (i := 0) (x := 0) hK dd_X11_thingOf_115 rfl rfl ?_
      refine g_getv (pc := 116) (f := (1, 5)) (j := 3) (v := gR 5) hK (kdm kd_0) rfl ef_11 (by decide) rfl kk_385 dd_X11_thingOf_116 rfl ?_
      refine g_getv (pc := 119) (f := (1, 1)) (j := 0) (v := gR 6) hK (kdm kd_5) rfl ef_1 (by decide) rfl kk_260 dd_X11_thingOf_119 rfl ?_
      refine g_getv (pc := 122) (f := (1, 4)) (j := 3) (v := gR 10) hK (kdm kd_6) rfl ef_10 (by decide) rfl kk_78 dd_X11_thingOf_122 rfl ?_
      refine g_iloadn (pc := 125) (i := 1) (x := t) hK dd_X11_thingOf_125 rfl rfl ?_
      refine g_iald (pc := 126) hK (kdm kd_10) nl_10 (by decide) dd_X11_thingOf_126 (by omega) (by omega) (fun x8 ex8 rx8 => ?_)
      refine g_iret (pc := 127) hK hr hlocks dd_X11_thingOf_127 rfl ?_
      first | exact g_fin (hB (by first | omega | (subst_vars; omega) | exact ⟨by first | assumption | omega | (subst_vars; first | assumption | omega), by first | assumption | omega | (subst_vars; first | assumption | omega)⟩)) (by first | rfl | omega | (subst_vars; first | rfl | omega)) (by first | rfl | (subst_vars; rfl)) | exact g_fin (h0 (by first | omega | (subst_vars; omega) | exact ⟨by first | assumption | omega | (subst_vars; first | assumption | omega), by first | assumption | omega | (subst_vars; first | assumption | omega)⟩)) (by first | rfl | omega | (subst_vars; first | rfl | omega)) (by first | rfl | (subst_vars; rfl)) | exact g_fin (h1 (by first | omega | (subst_vars; omega) | exact ⟨by first | assumption | omega | (subst_vars; first | assumption | omega), by first | assumption | omega | (subst_vars; first | assumption | omega)⟩)) (by first | rfl | omega | (subst_vars; first | rfl | omega)) (by first | rfl | (subst_vars; rfl)) | exact g_fin (h2 (by first | omega | (subst_vars; omega) | exact ⟨by first | assumption | omega | (subst_vars; first | assumption | omega), by first | assumption | omega | (subst_vars; first | assumption | omega)⟩)) (by first | rfl | omega | (subst_vars; first | rfl | omega)) (by first | rfl | (subst_vars; rfl)) | exact g_fin (h3 (by first | omega | (subst_vars; omega) | exact ⟨by first | assumption | omega | (subst_vars; first | assumption | omega), by first | assumption | omega | (subst_vars; first | assumption | omega)⟩)) (by first | rfl | omega | (subst_vars; first | rfl | omega)) (by first | rfl | (subst_vars; rfl)) | exact g_fin (h4 (by first | omega | (subst_vars; omega) | exact ⟨by first | assumption | omega | (subst_vars; first | assumption | omega), by first | assumption | omega | (subst_vars; first | assumption | omega)⟩)) (by first | rfl | omega | (subst_vars; first | rfl | omega)) (by first | rfl | (subst_vars; rfl)) | exact g_fin (h5 (by first | omega | (subst_vars; omega) | exact ⟨by first | assumption | omega | (subst_vars; first | assumption | omega), by first | assumption | omega | (subst_vars; first | assumption | omega)⟩)) (by first | rfl | omega | (subst_vars; first | rfl | omega)) (by first | rfl | (subst_vars; rfl)) | exact g_fin (h6 (by first | omega | (subst_vars; omega) | exact ⟨by first | assumption | omega | (subst_vars; first | assumption | omega), by first | assumption | omega | (subst_vars; first | assumption | omega)⟩)) (by first | rfl | omega | (subst_vars; first | rfl | omega)) (by first | rfl | (subst_vars; rfl)) | (exfalso; omega)
    · refine g_tabIn (pc := 22) (tgt := 128) hK dd_X11_thingOf_22 h_wh (by omega) (by omega) (by rw [c3]; rfl) (by decide) ?_
      refine g_aloadn (pc := 128) (i := 0) (x := 0) hK dd_X11_thingOf_128 rfl rfl ?_
      refine g_getv (pc := 129) (f := (1, 5)) (j := 3) (v := gR 5) hK (kdm kd_0) rfl ef_11 (by decide) rfl kk_385 dd_X11_thingOf_129 rfl ?_
      refine g_getv (pc := 132) (f := (1, 1)) (j := 0) (v := gR 6) hK (kdm kd_5) rfl ef_1 (by decide) rfl kk_260 dd_X11_thingOf_132 rfl ?_
      refine g_getv (pc := 135) (f := (1, 5)) (j := 4) (v := gR 11) hK (kdm kd_6) rfl ef_10 (by decide) rfl kk_81 dd_X11_thingOf_135 rfl ?_
      refine g_iloadn (pc := 138) (i := 1) (x := t) hK dd_X11_thingOf_138 rfl rfl ?_
      refine g_iald (pc := 139) hK (kdm kd_11) nl_11 (by decide) dd_X11_thingOf_139 (by omega) (by omega) (fun x9 ex9 rx9 => ?_)
      refine g_iret (pc := 140) hK hr hlocks dd_X11_thingOf_140 rfl ?_
      first | exact g_fin (hB (by first | omega | (subst_vars; omega) | exact ⟨by first | assumption | omega | (subst_vars; first | assumption | omega), by first | assumption | omega | (subst_vars; first | assumption | omega)⟩)) (by first | rfl | omega | (subst_vars; first | rfl | omega)) (by first | rfl | (subst_vars; rfl)) | exact g_fin (h0 (by first | omega | (subst_vars; omega) | exact ⟨by first | assumption | omega | (subst_vars; first | assumption | omega), by first | assumption | omega | (subst_vars; first | assumption | omega)⟩)) (by first | rfl | omega | (subst_vars; first | rfl | omega)) (by first | rfl | (subst_vars; rfl)) | exact g_fin (h1 (by first | omega | (subst_vars; omega) | exact ⟨by first | assumption | omega | (subst_vars; first | assumption | omega), by first | assumption | omega | (subst_vars; first | assumption | omega)⟩)) (by first | rfl | omega | (subst_vars; first | rfl | omega)) (by first | rfl | (subst_vars; rfl)) | exact g_fin (h2 (by first | omega | (subst_vars; omega) | exact ⟨by first | assumption | omega | (subst_vars; first | assumption | omega), by first | assumption | omega | (subst_vars; first | assumption | omega)⟩)) (by first | rfl | omega | (subst_vars; first | rfl | omega)) (by first | rfl | (subst_vars; rfl)) | exact g_fin (h3 (by first | omega | (subst_vars; omega) | exact ⟨by first | assumption | omega | (subst_vars; first | assumption | omega), by first | assumption | omega | (subst_vars; first | assumption | omega)⟩)) (by first | rfl | omega | (subst_vars; first | rfl | omega)) (by first | rfl | (subst_vars; rfl)) | exact g_fin (h4 (by first | omega | (subst_vars; omega) | exact ⟨by first | assumption | omega | (subst_vars; first | assumption | omega), by first | assumption | omega | (subst_vars; first | assumption | omega)⟩)) (by first | rfl | omega | (subst_vars; first | rfl | omega)) (by first | rfl | (subst_vars; rfl)) | exact g_fin (h5 (by first | omega | (subst_vars; omega) | exact ⟨by first | assumption | omega | (subst_vars; first | assumption | omega), by first | assumption | omega | (subst_vars; first | assumption | omega)⟩)) (by first | rfl | omega | (subst_vars; first | rfl | omega)) (by first | rfl | (subst_vars; rfl)) | exact g_fin (h6 (by first | omega | (subst_vars; omega) | exact ⟨by first | assumption | omega | (subst_vars; first | assumption | omega), by first | assumption | omega | (subst_vars; first | assumption | omega)⟩)) (by first | rfl | omega | (subst_vars; first | rfl | omega)) (by first | rfl | (subst_vars; rfl)) | (exfalso; omega)
    · refine g_tabIn (pc := 22) (tgt := 141) hK dd_X11_thingOf_22 h_wh (by omega) (by omega) (by rw [c3]; rfl) (by decide) ?_
      refine g_aloadn (pc := 141) (i := 0) (x := 0) hK dd_X11_thingOf_141 rfl rfl ?_
      refine g_getv (pc := 142) (f := (1, 5)) (j := 3) (v := gR 5) hK (kdm kd_0) rfl ef_11 (by decide) rfl kk_385 dd_X11_thingOf_142 rfl ?_
      refine g_getv (pc := 145) (f := (1, 1)) (j := 0) (v := gR 6) hK (kdm kd_5) rfl ef_1 (by decide) rfl kk_260 dd_X11_thingOf_145 rfl ?_
      refine g_getv (pc := 148) (f := (1, 6)) (j := 5) (v := gR 12) hK (kdm kd_6) rfl ef_10 (by decide) rfl kk_85 dd_X11_thingOf_148 rfl ?_
      refine g_iloadn (pc := 151) (i := 1) (x := t) hK dd_X11_thingOf_151 rfl rfl ?_
      refine g_iald (pc := 152) hK (kdm kd_12) nl_12 (by decide) dd_X11_thingOf_152 (by omega) (by omega) (fun x10 ex10 rx10 => ?_)
      refine g_iret (pc := 153) hK hr hlocks dd_X11_thingOf_153 rfl ?_
      first | exact g_fin (hB (by first | omega | (subst_vars; omega) | exact ⟨by first | assumption | omega | (subst_vars; first | assumption | omega), by first | assumption | omega | (subst_vars; first | assumption | omega)⟩)) (by first | rfl | omega | (subst_vars; first | rfl | omega)) (by first | rfl | (subst_vars; rfl)) | exact g_fin (h0 (by first | omega | (subst_vars; omega) | exact ⟨by first | assumption | omega | (subst_vars; first | assumption | omega), by first | assumption | omega | (subst_vars; first | assumption | omega)⟩)) (by first | rfl | omega | (subst_vars; first | rfl | omega)) (by first | rfl | (subst_vars; rfl)) | exact g_fin (h1 (by first | omega | (subst_vars; omega) | exact ⟨by first | assumption | omega | (subst_vars; first | assumption | omega), by first | assumption | omega | (subst_vars; first | assumption | omega)⟩)) (by first | rfl | omega | (subst_vars; first | rfl | omega)) (by first | rfl | (subst_vars; rfl)) | exact g_fin (h2 (by first | omega | (subst_vars; omega) | exact ⟨by first | assumption | omega | (subst_vars; first | assumption | omega), by first | assumption | omega | (subst_vars; first | assumption | omega)⟩)) (by first | rfl | omega | (subst_vars; first | rfl | omega)) (by first | rfl | (subst_vars; rfl)) | exact g_fin (h3 (by first | omega | (subst_vars; omega) | exact ⟨by first | assumption | omega | (subst_vars; first | assumption | omega), by first | assumption | omega | (subst_vars; first | assumption | omega)⟩)) (by first | rfl | omega | (subst_vars; first | rfl | omega)) (by first | rfl | (subst_vars; rfl)) | exact g_fin (h4 (by first | omega | (subst_vars; omega) | exact ⟨by first | assumption | omega | (subst_vars; first | assumption | omega), by first | assumption | omega | (subst_vars; first | assumption | omega)⟩)) (by first | rfl | omega | (subst_vars; first | rfl | omega)) (by first | rfl | (subst_vars; rfl)) | exact g_fin (h5 (by first | omega | (subst_vars; omega) | exact ⟨by first | assumption | omega | (subst_vars; first | assumption | omega), by first | assumption | omega | (subst_vars; first | assumption | omega)⟩)) (by first | rfl | omega | (subst_vars; first | rfl | omega)) (by first | rfl | (subst_vars; rfl)) | exact g_fin (h6 (by first | omega | (subst_vars; omega) | exact ⟨by first | assumption | omega | (subst_vars; first | assumption | omega), by first | assumption | omega | (subst_vars; first | assumption | omega)⟩)) (by first | rfl | omega | (subst_vars; first | rfl | omega)) (by first | rfl | (subst_vars; rfl)) | (exfalso; omega)
  · refine g_if_ne (pc := 11) (tgt := 21) hK dd_X11_thingOf_11 (by decide) (by decide) (fun c11 => absurd c11 (by decide)) (fun _ => ?_)
    refine g_aloadn (pc := 14) (i := 0) (x := 0) hK dd_X11_thingOf_14 rfl rfl ?_
    refine g_bipush (pc := 15) (x := (-2)) hK dd_X11_thingOf_15 (by decide) ?_
    refine g_callV (pc := 17) (As := [gI (-2)]) hK ws_X_63 md_X11_refuse ⟨Nat.zero_le _, Nat.zero_le _⟩ ⟨by decide, by decide⟩ (kdm kd_0) rfl rfl dd_X11_thingOf_17 rfl rfl (Nat.le_of_ble_eq_true rfl) (c_refuse_0 hrf (g_r1 ?_))
    refine g_iret (pc := 20) hK hr hlocks dd_X11_thingOf_20 rfl ?_
    first | exact g_fin (hB (by first | omega | (subst_vars; omega) | exact ⟨by first | assumption | omega | (subst_vars; first | assumption | omega), by first | assumption | omega | (subst_vars; first | assumption | omega)⟩)) (by first | rfl | omega | (subst_vars; first | rfl | omega)) (by first | rfl | (subst_vars; rfl)) | exact g_fin (h0 (by first | omega | (subst_vars; omega) | exact ⟨by first | assumption | omega | (subst_vars; first | assumption | omega), by first | assumption | omega | (subst_vars; first | assumption | omega)⟩)) (by first | rfl | omega | (subst_vars; first | rfl | omega)) (by first | rfl | (subst_vars; rfl)) | exact g_fin (h1 (by first | omega | (subst_vars; omega) | exact ⟨by first | assumption | omega | (subst_vars; first | assumption | omega), by first | assumption | omega | (subst_vars; first | assumption | omega)⟩)) (by first | rfl | omega | (subst_vars; first | rfl | omega)) (by first | rfl | (subst_vars; rfl)) | exact g_fin (h2 (by first | omega | (subst_vars; omega) | exact ⟨by first | assumption | omega | (subst_vars; first | assumption | omega), by first | assumption | omega | (subst_vars; first | assumption | omega)⟩)) (by first | rfl | omega | (subst_vars; first | rfl | omega)) (by first | rfl | (subst_vars; rfl)) | exact g_fin (h3 (by first | omega | (subst_vars; omega) | exact ⟨by first | assumption | omega | (subst_vars; first | assumption | omega), by first | assumption | omega | (subst_vars; first | assumption | omega)⟩)) (by first | rfl | omega | (subst_vars; first | rfl | omega)) (by first | rfl | (subst_vars; rfl)) | exact g_fin (h4 (by first | omega | (subst_vars; omega) | exact ⟨by first | assumption | omega | (subst_vars; first | assumption | omega), by first | assumption | omega | (subst_vars; first | assumption | omega)⟩)) (by first | rfl | omega | (subst_vars; first | rfl | omega)) (by first | rfl | (subst_vars; rfl)) | exact g_fin (h5 (by first | omega | (subst_vars; omega) | exact ⟨by first | assumption | omega | (subst_vars; first | assumption | omega), by first | assumption | omega | (subst_vars; first | assumption | omega)⟩)) (by first | rfl | omega | (subst_vars; first | rfl | omega)) (by first | rfl | (subst_vars; rfl)) | exact g_fin (h6 (by first | omega | (subst_vars; omega) | exact ⟨by first | assumption | omega | (subst_vars; first | assumption | omega), by first | assumption | omega | (subst_vars; first | assumption | omega)⟩)) (by first | rfl | omega | (subst_vars; first | rfl | omega)) (by first | rfl | (subst_vars; rfl)) | (exfalso; omega)
set_option maxHeartbeats 4000000 in
set_option maxRecDepth 100000 in
theorem x_chip {l : Launch} {M : Mem} {Pq : Option gV → Mem → Prop} (t : Int) (ci : Int) (h_t : inI t) (h_ci : inI ci) (hrf : rfOK M) (hc : 0 ≤ M 6 6 ∧ M 6 6 ≤ 30) (hB : (¬ ((0 ≤ t ∧ t < M 6 6) ∧ 0 ≤ ci ∧ ci ≤ 7)) → Pq (some (gI (-2))) (rf M 0)) (h0 : (((0 ≤ t ∧ t < M 6 6) ∧ 0 ≤ ci ∧ ci ≤ 7) ∧ hb (M 9 t.toNat) ci) → Pq (some (gI 0)) M) (hY : (((0 ≤ t ∧ t < M 6 6) ∧ 0 ≤ ci ∧ ci ≤ 7) ∧ ¬ hb (M 9 t.toNat) ci) → Pq (some (gI 1)) (up M 9 t.toNat (jor (M 9 t.toNat) (jshl 1 ci)))) : gCtr l my_X11_chip mb_X11_chip 3 ((some .int)) 3 [gR 0, gI t, gI ci] M Pq := by
  refine g_intro (by decide) (Nat.le_of_ble_eq_true rfl) ?_
  intro p e s m args below meth c D cy q A hK hr hlocks hw
  refine g_sub (L' := [(0, gR 0), (1, gI t), (2, gI ci)]) [0, 1, 2] rfl ?_
  refine g_aloadn (pc := 0) (i := 0) (x := 0) hK dd_X11_chip_0 rfl rfl ?_
  refine g_getv (pc := 1) (f := (1, 5)) (j := 3) (v := gR 5) hK (kdm kd_0) rfl ef_11 (by decide) rfl kk_385 dd_X11_chip_1 rfl ?_
  refine g_getv (pc := 4) (f := (1, 1)) (j := 0) (v := gR 6) hK (kdm kd_5) rfl ef_1 (by decide) rfl kk_260 dd_X11_chip_4 rfl ?_
  refine g_iloadn (pc := 7) (i := 1) (x := t) hK dd_X11_chip_7 rfl rfl ?_
  refine g_callV (pc := 8) (As := [gI t]) hK ws_X_117 md_X10_has ⟨Nat.zero_le _, Nat.zero_le _⟩ ⟨by decide, by decide⟩ (kdm kd_6) rfl rfl dd_X11_chip_8 rfl rfl (Nat.le_of_ble_eq_true rfl) (c_has10 t (show inI t by omega) (show 0 ≤ M 6 6 ∧ M 6 6 ≤ 30 by omega) (fun c1 => g_r1 ?_) (fun c1 => g_r1 ?_))
  · refine g_if_eq (pc := 11) (tgt := 24) hK dd_X11_chip_11 (by decide) (by decide) (fun c2 => absurd c2 (by decide)) (fun _ => ?_)
    refine g_iloadn (pc := 14) (i := 2) (x := ci) hK dd_X11_chip_14 rfl rfl ?_
    refine g_iconst (pc := 15) (x := 0) hK dd_X11_chip_15 (by decide) ?_
    refine g_bipush (pc := 16) (x := 7) hK dd_X11_chip_16 (by decide) ?_
    refine g_callT (pc := 18) (As := [gI ci, gI 0, gI 7]) hK ws_X_59 md_X11_within ⟨Nat.zero_le _, Nat.zero_le _⟩ ⟨by decide, by decide⟩ dd_X11_chip_18 rfl rfl (Nat.le_of_ble_eq_true rfl) (c_within ci 0 7 h_ci (by decide) (by decide) (fun c3 => g_r1 ?_) (fun c3 => g_r1 ?_))
    · refine g_if_ne (pc := 21) (tgt := 31) hK dd_X11_chip_21 (by decide) (by decide) (fun _ => ?_) (fun c4 => absurd (by decide) c4)
      refine g_aloadn (pc := 31) (i := 0) (x := 0) hK dd_X11_chip_31 rfl rfl ?_
      refine g_getv (pc := 32) (f := (1, 5)) (j := 3) (v := gR 5) hK (kdm kd_0) rfl ef_11 (by decide) rfl kk_385 dd_X11_chip_32 rfl ?_
      refine g_getv (pc := 35) (f := (1, 1)) (j := 0) (v := gR 6) hK (kdm kd_5) rfl ef_1 (by decide) rfl kk_260 dd_X11_chip_35 rfl ?_
      refine g_getv (pc := 38) (f := (1, 3)) (j := 2) (v := gR 9) hK (kdm kd_6) rfl ef_10 (by decide) rfl kk_73 dd_X11_chip_38 rfl ?_
      refine g_iloadn (pc := 41) (i := 1) (x := t) hK dd_X11_chip_41 rfl rfl ?_
      refine g_iald (pc := 42) hK (kdm kd_9) nl_9 (by decide) dd_X11_chip_42 (by omega) (by omega) (fun x5 ex5 rx5 => ?_)
      refine g_iloadn (pc := 43) (i := 2) (x := ci) hK dd_X11_chip_43 rfl rfl ?_
      refine g_callT (pc := 44) (As := [gI x5, gI ci]) hK ws_X_162 md_X11_hasBit ⟨Nat.zero_le _, Nat.zero_le _⟩ ⟨by decide, by decide⟩ dd_X11_chip_44 rfl rfl (Nat.le_of_ble_eq_true rfl) (c_hasBit x5 ci (fun c6 => g_r1 ?_) (fun c6 => g_r1 ?_))
      · refine g_if_eq (pc := 47) (tgt := 52) hK dd_X11_chip_47 (by decide) (by decide) (fun c7 => absurd c7 (by decide)) (fun _ => ?_)
        refine g_iconst (pc := 50) (x := 0) hK dd_X11_chip_50 (by decide) ?_
        refine g_iret (pc := 51) hK hr hlocks dd_X11_chip_51 rfl ?_
        first | exact g_fin (h0 (by first | omega | (subst_vars; omega) | exact ⟨by first | assumption | omega | (subst_vars; first | assumption | omega), by first | assumption | omega | (subst_vars; first | assumption | omega)⟩)) (by first | rfl | omega | (subst_vars; first | rfl | omega)) (by first | rfl | (subst_vars; rfl)) | (exfalso; omega)
      · refine g_if_eq (pc := 47) (tgt := 52) hK dd_X11_chip_47 (by decide) (by decide) (fun _ => ?_) (fun c8 => absurd (by decide) c8)
        refine g_aloadn (pc := 52) (i := 0) (x := 0) hK dd_X11_chip_52 rfl rfl ?_
        refine g_getv (pc := 53) (f := (1, 5)) (j := 3) (v := gR 5) hK (kdm kd_0) rfl ef_11 (by decide) rfl kk_385 dd_X11_chip_53 rfl ?_
        refine g_getv (pc := 56) (f := (1, 1)) (j := 0) (v := gR 6) hK (kdm kd_5) rfl ef_1 (by decide) rfl kk_260 dd_X11_chip_56 rfl ?_
        refine g_getv (pc := 59) (f := (1, 3)) (j := 2) (v := gR 9) hK (kdm kd_6) rfl ef_10 (by decide) rfl kk_73 dd_X11_chip_59 rfl ?_
        refine g_iloadn (pc := 62) (i := 1) (x := t) hK dd_X11_chip_62 rfl rfl ?_
        refine g_dup2 (pc := 63) hK dd_X11_chip_63 rfl rfl ?_
        refine g_iald (pc := 64) hK (kdm kd_9) nl_9 (by decide) dd_X11_chip_64 (by omega) (by omega) (fun x9 ex9 rx9 => ?_)
        refine g_iconst (pc := 65) (x := 1) hK dd_X11_chip_65 (by decide) ?_
        refine g_iloadn (pc := 66) (i := 2) (x := ci) hK dd_X11_chip_66 rfl rfl ?_
        refine g_ishl (pc := 67) (z := jshl 1 ci) hK dd_X11_chip_67 rfl ?_
        refine g_ior (pc := 68) (z := jor x9 (jshl 1 ci)) hK dd_X11_chip_68 rfl ?_
        refine g_iast (pc := 69) hK (kdm kd_9) nl_9 (by decide) (by decide) dd_X11_chip_69 (by omega) (by omega) (jor_in _ _) ?_
        refine g_iconst (pc := 70) (x := 1) hK dd_X11_chip_70 (by decide) ?_
        refine g_iret (pc := 71) hK hr hlocks dd_X11_chip_71 rfl ?_
        first | exact g_fin (hY (by first | omega | (subst_vars; omega) | exact ⟨by first | assumption | omega | (subst_vars; first | assumption | omega), by first | assumption | omega | (subst_vars; first | assumption | omega)⟩)) (by first | rfl | omega | (subst_vars; first | rfl | omega)) (by first | rfl | (subst_vars; rfl)) | (exfalso; omega)
    · refine g_if_ne (pc := 21) (tgt := 31) hK dd_X11_chip_21 (by decide) (by decide) (fun c10 => absurd c10 (by decide)) (fun _ => ?_)
      refine g_aloadn (pc := 24) (i := 0) (x := 0) hK dd_X11_chip_24 rfl rfl ?_
      refine g_bipush (pc := 25) (x := (-2)) hK dd_X11_chip_25 (by decide) ?_
      refine g_callV (pc := 27) (As := [gI (-2)]) hK ws_X_63 md_X11_refuse ⟨Nat.zero_le _, Nat.zero_le _⟩ ⟨by decide, by decide⟩ (kdm kd_0) rfl rfl dd_X11_chip_27 rfl rfl (Nat.le_of_ble_eq_true rfl) (c_refuse_0 hrf (g_r1 ?_))
      refine g_iret (pc := 30) hK hr hlocks dd_X11_chip_30 rfl ?_
      first | exact g_fin (hB (by first | omega | (subst_vars; omega) | exact ⟨by first | assumption | omega | (subst_vars; first | assumption | omega), by first | assumption | omega | (subst_vars; first | assumption | omega)⟩)) (by first | rfl | omega | (subst_vars; first | rfl | omega)) (by first | rfl | (subst_vars; rfl)) | (exfalso; omega)
  · refine g_if_eq (pc := 11) (tgt := 24) hK dd_X11_chip_11 (by decide) (by decide) (fun _ => ?_) (fun c11 => absurd (by decide) c11)
    refine g_aloadn (pc := 24) (i := 0) (x := 0) hK dd_X11_chip_24 rfl rfl ?_
    refine g_bipush (pc := 25) (x := (-2)) hK dd_X11_chip_25 (by decide) ?_
    refine g_callV (pc := 27) (As := [gI (-2)]) hK ws_X_63 md_X11_refuse ⟨Nat.zero_le _, Nat.zero_le _⟩ ⟨by decide, by decide⟩ (kdm kd_0) rfl rfl dd_X11_chip_27 rfl rfl (Nat.le_of_ble_eq_true rfl) (c_refuse_0 hrf (g_r1 ?_))
    refine g_iret (pc := 30) hK hr hlocks dd_X11_chip_30 rfl ?_
    first | exact g_fin (hB (by first | omega | (subst_vars; omega) | exact ⟨by first | assumption | omega | (subst_vars; first | assumption | omega), by first | assumption | omega | (subst_vars; first | assumption | omega)⟩)) (by first | rfl | omega | (subst_vars; first | rfl | omega)) (by first | rfl | (subst_vars; rfl)) | (exfalso; omega)
set_option maxHeartbeats 4000000 in
set_option maxRecDepth 100000 in
theorem x_lady {l : Launch} {M : Mem} {Pq : Option gV → Mem → Prop} (ks : Int) (g : Int) (h_ks : inI ks) (h_g : inI g) (hrf : rfOK M) (hlc : 0 ≤ M 14 3 ∧ M 14 3 ≤ 5) (hB : (¬ ((0 ≤ ks ∧ ks ≤ 63) ∧ 0 ≤ g ∧ g ≤ 999)) → Pq (some (gI (-2))) (rf M 0)) (hF : (((0 ≤ ks ∧ ks ≤ 63) ∧ 0 ≤ g ∧ g ≤ 999) ∧ 5 ≤ M 14 3) → Pq (some (gI (-6))) (rf M 4)) (hY : (((0 ≤ ks ∧ ks ≤ 63) ∧ 0 ≤ g ∧ g ≤ 999) ∧ ¬ 5 ≤ M 14 3) → Pq (some (gI (M 14 3))) (up (up (up (up M 15 (M 14 3).toNat ks) 16 (M 14 3).toNat g) 17 (M 14 3).toNat (-1)) 14 3 (M 14 3 + 1))) : gCtr l my_X11_lady mb_X11_lady 3 ((some .int)) 3 [gR 0, gI ks, gI g] M Pq := by
  refine g_intro (by decide) (Nat.le_of_ble_eq_true rfl) ?_
  intro p e s m args below meth c D cy q A hK hr hlocks hw
  refine g_sub (L' := [(0, gR 0), (1, gI ks), (2, gI g)]) [0, 1, 2] rfl ?_
  refine g_iloadn (pc := 0) (i := 1) (x := ks) hK dd_X11_lady_0 rfl rfl ?_
  refine g_callT (pc := 1) (As := [gI ks]) hK ws_X_165 md_X11_isKinds ⟨Nat.zero_le _, Nat.zero_le _⟩ ⟨by decide, by decide⟩ dd_X11_lady_1 rfl rfl (Nat.le_of_ble_eq_true rfl) (c_isKinds ks h_ks (fun c1 => g_r1 ?_) (fun c1 => g_r1 ?_))
  · refine g_if_eq (pc := 4) (tgt := 18) hK dd_X11_lady_4 (by decide) (by decide) (fun c2 => absurd c2 (by decide)) (fun _ => ?_)
    refine g_iloadn (pc := 7) (i := 2) (x := g) hK dd_X11_lady_7 rfl rfl ?_
    refine g_iconst (pc := 8) (x := 0) hK dd_X11_lady_8 (by decide) ?_
    refine g_sipush (pc := 9) (x := 999) hK dd_X11_lady_9 (by decide) ?_
    refine g_callT (pc := 12) (As := [gI g, gI 0, gI 999]) hK ws_X_59 md_X11_within ⟨Nat.zero_le _, Nat.zero_le _⟩ ⟨by decide, by decide⟩ dd_X11_lady_12 rfl rfl (Nat.le_of_ble_eq_true rfl) (c_within g 0 999 h_g (by decide) (by decide) (fun c3 => g_r1 ?_) (fun c3 => g_r1 ?_))
    · refine g_if_ne (pc := 15) (tgt := 25) hK dd_X11_lady_15 (by decide) (by decide) (fun _ => ?_) (fun c4 => absurd (by decide) c4)
      refine g_aloadn (pc := 25) (i := 0) (x := 0) hK dd_X11_lady_25 rfl rfl ?_
      refine g_getv (pc := 26) (f := (1, 5)) (j := 3) (v := gR 5) hK (kdm kd_0) rfl ef_11 (by decide) rfl kk_385 dd_X11_lady_26 rfl ?_
      refine g_getv (pc := 29) (f := (1, 9)) (j := 1) (v := gR 14) hK (kdm kd_5) rfl ef_1 (by decide) rfl kk_262 dd_X11_lady_29 rfl ?_
      refine g_geti (pc := 32) (f := (0, 0)) (j := 3) hK (kdm kd_14) rfl ef_2 (by decide) rfl kk_125 nl_14 dd_X11_lady_32 rfl (fun x5 ex5 rx5 => ?_)
      refine g_iconst (pc := 35) (x := 5) hK dd_X11_lady_35 (by decide) ?_
      refine g_icmp_lt (pc := 36) (tgt := 46) hK dd_X11_lady_36 (by decide) rx5 (by decide) (fun c6 => ?_) (fun c6 => ?_)
      · refine g_aloadn (pc := 46) (i := 0) (x := 0) hK dd_X11_lady_46 rfl rfl ?_
        refine g_getv (pc := 47) (f := (1, 5)) (j := 3) (v := gR 5) hK (kdm kd_0) rfl ef_11 (by decide) rfl kk_385 dd_X11_lady_47 rfl ?_
        refine g_getv (pc := 50) (f := (1, 9)) (j := 1) (v := gR 14) hK (kdm kd_5) rfl ef_1 (by decide) rfl kk_262 dd_X11_lady_50 rfl ?_
        refine g_iloadn (pc := 53) (i := 1) (x := ks) hK dd_X11_lady_53 rfl rfl ?_
        refine g_iloadn (pc := 54) (i := 2) (x := g) hK dd_X11_lady_54 rfl rfl ?_
        refine g_callV (pc := 55) (As := [gI ks, gI g]) hK ws_X_175 md_X2_add ⟨Nat.zero_le _, Nat.zero_le _⟩ ⟨by decide, by decide⟩ (kdm kd_14) rfl rfl dd_X11_lady_55 rfl rfl (Nat.le_of_ble_eq_true rfl) (c_add_14 ks g (show 0 ≤ M 14 3 ∧ M 14 3 < 5 by omega) h_ks h_g (g_r1 ?_))
        refine g_iret (pc := 58) hK hr hlocks dd_X11_lady_58 rfl ?_
        first | exact g_fin (hB (by first | omega | (subst_vars; omega) | exact ⟨by first | assumption | omega | (subst_vars; first | assumption | omega), by first | assumption | omega | (subst_vars; first | assumption | omega)⟩)) (by first | rfl | omega | (subst_vars; first | rfl | omega)) (by first | rfl | (subst_vars; rfl)) | exact g_fin (hF (by first | omega | (subst_vars; omega) | exact ⟨by first | assumption | omega | (subst_vars; first | assumption | omega), by first | assumption | omega | (subst_vars; first | assumption | omega)⟩)) (by first | rfl | omega | (subst_vars; first | rfl | omega)) (by first | rfl | (subst_vars; rfl)) | exact g_fin (hY (by first | omega | (subst_vars; omega) | exact ⟨by first | assumption | omega | (subst_vars; first | assumption | omega), by first | assumption | omega | (subst_vars; first | assumption | omega)⟩)) (by first | rfl | omega | (subst_vars; first | rfl | omega)) (by first | rfl | (subst_vars; rfl)) | (exfalso; omega)
      · refine g_aloadn (pc := 39) (i := 0) (x := 0) hK dd_X11_lady_39 rfl rfl ?_
        refine g_bipush (pc := 40) (x := (-6)) hK dd_X11_lady_40 (by decide) ?_
        refine g_callV (pc := 42) (As := [gI (-6)]) hK ws_X_63 md_X11_refuse ⟨Nat.zero_le _, Nat.zero_le _⟩ ⟨by decide, by decide⟩ (kdm kd_0) rfl rfl dd_X11_lady_42 rfl rfl (Nat.le_of_ble_eq_true rfl) (c_refuse_4 hrf (g_r1 ?_))
        refine g_iret (pc := 45) hK hr hlocks dd_X11_lady_45 rfl ?_
        first | exact g_fin (hF (by first | omega | (subst_vars; omega) | exact ⟨by first | assumption | omega | (subst_vars; first | assumption | omega), by first | assumption | omega | (subst_vars; first | assumption | omega)⟩)) (by first | rfl | omega | (subst_vars; first | rfl | omega)) (by first | rfl | (subst_vars; rfl)) | exact g_fin (hY (by first | omega | (subst_vars; omega) | exact ⟨by first | assumption | omega | (subst_vars; first | assumption | omega), by first | assumption | omega | (subst_vars; first | assumption | omega)⟩)) (by first | rfl | omega | (subst_vars; first | rfl | omega)) (by first | rfl | (subst_vars; rfl)) | (exfalso; omega)
    · refine g_if_ne (pc := 15) (tgt := 25) hK dd_X11_lady_15 (by decide) (by decide) (fun c7 => absurd c7 (by decide)) (fun _ => ?_)
      refine g_aloadn (pc := 18) (i := 0) (x := 0) hK dd_X11_lady_18 rfl rfl ?_
      refine g_bipush (pc := 19) (x := (-2)) hK dd_X11_lady_19 (by decide) ?_
      refine g_callV (pc := 21) (As := [gI (-2)]) hK ws_X_63 md_X11_refuse ⟨Nat.zero_le _, Nat.zero_le _⟩ ⟨by decide, by decide⟩ (kdm kd_0) rfl rfl dd_X11_lady_21 rfl rfl (Nat.le_of_ble_eq_true rfl) (c_refuse_0 hrf (g_r1 ?_))
      refine g_iret (pc := 24) hK hr hlocks dd_X11_lady_24 rfl ?_
      first | exact g_fin (hB (by first | omega | (subst_vars; omega) | exact ⟨by first | assumption | omega | (subst_vars; first | assumption | omega), by first | assumption | omega | (subst_vars; first | assumption | omega)⟩)) (by first | rfl | omega | (subst_vars; first | rfl | omega)) (by first | rfl | (subst_vars; rfl)) | exact g_fin (hY (by first | omega | (subst_vars; omega) | exact ⟨by first | assumption | omega | (subst_vars; first | assumption | omega), by first | assumption | omega | (subst_vars; first | assumption | omega)⟩)) (by first | rfl | omega | (subst_vars; first | rfl | omega)) (by first | rfl | (subst_vars; rfl)) | (exfalso; omega)
  · refine g_if_eq (pc := 4) (tgt := 18) hK dd_X11_lady_4 (by decide) (by decide) (fun _ => ?_) (fun c8 => absurd (by decide) c8)
    refine g_aloadn (pc := 18) (i := 0) (x := 0) hK dd_X11_lady_18 rfl rfl ?_
    refine g_bipush (pc := 19) (x := (-2)) hK dd_X11_lady_19 (by decide) ?_
    refine g_callV (pc := 21) (As := [gI (-2)]) hK ws_X_63 md_X11_refuse ⟨Nat.zero_le _, Nat.zero_le _⟩ ⟨by decide, by decide⟩ (kdm kd_0) rfl rfl dd_X11_lady_21 rfl rfl (Nat.le_of_ble_eq_true rfl) (c_refuse_0 hrf (g_r1 ?_))
    refine g_iret (pc := 24) hK hr hlocks dd_X11_lady_24 rfl ?_
    first | exact g_fin (hB (by first | omega | (subst_vars; omega) | exact ⟨by first | assumption | omega | (subst_vars; first | assumption | omega), by first | assumption | omega | (subst_vars; first | assumption | omega)⟩)) (by first | rfl | omega | (subst_vars; first | rfl | omega)) (by first | rfl | (subst_vars; rfl)) | exact g_fin (hY (by first | omega | (subst_vars; omega) | exact ⟨by first | assumption | omega | (subst_vars; first | assumption | omega), by first | assumption | omega | (subst_vars; first | assumption | omega)⟩)) (by first | rfl | omega | (subst_vars; first | rfl | omega)) (by first | rfl | (subst_vars; rfl)) | (exfalso; omega)
set_option maxHeartbeats 4000000 in
set_option maxRecDepth 100000 in
theorem x_goes {l : Launch} {M : Mem} {Pq : Option gV → Mem → Prop} (la : Int) (lw : Int) (h_la : inI la) (h_lw : inI lw) (hrf : rfOK M) (hlc : 0 ≤ M 14 3 ∧ M 14 3 ≤ 5) (hwc : 0 ≤ M 18 2 ∧ M 18 2 ≤ 6) (hB : (¬ ((0 ≤ la ∧ la < M 14 3) ∧ (lw = -1 ∨ (0 ≤ lw ∧ lw < M 18 2)))) → Pq (some (gI (-2))) (rf M 0)) (hY : ((0 ≤ la ∧ la < M 14 3) ∧ (lw = -1 ∨ (0 ≤ lw ∧ lw < M 18 2))) → Pq (some (gI (M 17 la.toNat))) (up M 17 la.toNat lw)) : gCtr l my_X11_goes mb_X11_goes 4 ((some .int)) 3 [gR 0, gI la, gI lw] M Pq := by
  refine g_intro (by decide) (Nat.le_of_ble_eq_true rfl) ?_
  intro p e s m args below meth c D cy q A hK hr hlocks hw
  refine g_sub (L' := [(0, gR 0), (1, gI la), (2, gI lw)]) [0, 1, 2] rfl ?_
  refine g_aloadn (pc := 0) (i := 0) (x := 0) hK dd_X11_goes_0 rfl rfl ?_
  refine g_getv (pc := 1) (f := (1, 5)) (j := 3) (v := gR 5) hK (kdm kd_0) rfl ef_11 (by decide) rfl kk_385 dd_X11_goes_1 rfl ?_
  refine g_getv (pc := 4) (f := (1, 9)) (j := 1) (v := gR 14) hK (kdm kd_5) rfl ef_1 (by decide) rfl kk_262 dd_X11_goes_4 rfl ?_
  refine g_iloadn (pc := 7) (i := 1) (x := la) hK dd_X11_goes_7 rfl rfl ?_
  refine g_callV (pc := 8) (As := [gI la]) hK ws_X_177 md_X2_has ⟨Nat.zero_le _, Nat.zero_le _⟩ ⟨by decide, by decide⟩ (kdm kd_14) rfl rfl dd_X11_goes_8 rfl rfl (Nat.le_of_ble_eq_true rfl) (c_has_14 la h_la (show 0 ≤ M 14 3 ∧ M 14 3 ≤ 5 by omega) (fun c1 => g_r1 ?_) (fun c1 => g_r1 ?_))
  · refine g_if_eq (pc := 11) (tgt := 33) hK dd_X11_goes_11 (by decide) (by decide) (fun c2 => absurd c2 (by decide)) (fun _ => ?_)
    refine g_iloadn (pc := 14) (i := 2) (x := lw) hK dd_X11_goes_14 rfl rfl ?_
    refine g_iconst (pc := 15) (x := (-1)) hK dd_X11_goes_15 (by decide) ?_
    refine g_icmp_eq (pc := 16) (tgt := 40) hK dd_X11_goes_16 (by decide) h_lw (by decide) (fun c3 => ?_) (fun c3 => ?_)
    · refine g_aloadn (pc := 40) (i := 0) (x := 0) hK dd_X11_goes_40 rfl rfl ?_
      refine g_getv (pc := 41) (f := (1, 5)) (j := 3) (v := gR 5) hK (kdm kd_0) rfl ef_11 (by decide) rfl kk_385 dd_X11_goes_41 rfl ?_
      refine g_getv (pc := 44) (f := (1, 9)) (j := 1) (v := gR 14) hK (kdm kd_5) rfl ef_1 (by decide) rfl kk_262 dd_X11_goes_44 rfl ?_
      refine g_getv (pc := 47) (f := (1, 3)) (j := 2) (v := gR 17) hK (kdm kd_14) rfl ef_2 (by decide) rfl kk_122 dd_X11_goes_47 rfl ?_
      refine g_iloadn (pc := 50) (i := 1) (x := la) hK dd_X11_goes_50 rfl rfl ?_
      refine g_iald (pc := 51) hK (kdm kd_17) nl_17 (by decide) dd_X11_goes_51 (by omega) (by omega) (fun x4 ex4 rx4 => ?_)
      refine g_istoren (pc := 52) (i := 3) (L' := [(0, gR 0), (1, gI la), (2, gI lw), (3, gI x4)]) hK dd_X11_goes_52 rfl (by decide) rfl ?_
      refine g_aloadn (pc := 53) (i := 0) (x := 0) hK dd_X11_goes_53 rfl rfl ?_
      refine g_getv (pc := 54) (f := (1, 5)) (j := 3) (v := gR 5) hK (kdm kd_0) rfl ef_11 (by decide) rfl kk_385 dd_X11_goes_54 rfl ?_
      refine g_getv (pc := 57) (f := (1, 9)) (j := 1) (v := gR 14) hK (kdm kd_5) rfl ef_1 (by decide) rfl kk_262 dd_X11_goes_57 rfl ?_
      refine g_getv (pc := 60) (f := (1, 3)) (j := 2) (v := gR 17) hK (kdm kd_14) rfl ef_2 (by decide) rfl kk_122 dd_X11_goes_60 rfl ?_
      refine g_iloadn (pc := 63) (i := 1) (x := la) hK dd_X11_goes_63 rfl rfl ?_
      refine g_iloadn (pc := 64) (i := 2) (x := lw) hK dd_X11_goes_64 rfl rfl ?_
      refine g_iast (pc := 65) hK (kdm kd_17) nl_17 (by decide) (by decide) dd_X11_goes_65 (by omega) (by omega) h_lw ?_
      refine g_iloadn (pc := 66) (i := 3) (x := x4) hK dd_X11_goes_66 rfl rfl ?_
      refine g_iret (pc := 67) hK hr hlocks dd_X11_goes_67 rfl ?_
      first | exact g_fin (hB (by first | omega | (subst_vars; omega) | exact ⟨by first | assumption | omega | (subst_vars; first | assumption | omega), by first | assumption | omega | (subst_vars; first | assumption | omega)⟩)) (by first | rfl | omega | (subst_vars; first | rfl | omega)) (by first | rfl | (subst_vars; rfl)) | exact g_fin (hY (by first | omega | (subst_vars; omega) | exact ⟨by first | assumption | omega | (subst_vars; first | assumption | omega), by first | assumption | omega | (subst_vars; first | assumption | omega)⟩)) (by first | rfl | omega | (subst_vars; first | rfl | omega)) (by first | rfl | (subst_vars; rfl)) | (exfalso; omega)
    · refine g_aloadn (pc := 19) (i := 0) (x := 0) hK dd_X11_goes_19 rfl rfl ?_
      refine g_getv (pc := 20) (f := (1, 5)) (j := 3) (v := gR 5) hK (kdm kd_0) rfl ef_11 (by decide) rfl kk_385 dd_X11_goes_20 rfl ?_
      refine g_getv (pc := 23) (f := (1, 13)) (j := 2) (v := gR 18) hK (kdm kd_5) rfl ef_1 (by decide) rfl kk_264 dd_X11_goes_23 rfl ?_
      refine g_iloadn (pc := 26) (i := 2) (x := lw) hK dd_X11_goes_26 rfl rfl ?_
      refine g_callV (pc := 27) (As := [gI lw]) hK ws_X_182 md_X3_has ⟨Nat.zero_le _, Nat.zero_le _⟩ ⟨by decide, by decide⟩ (kdm kd_18) rfl rfl dd_X11_goes_27 rfl rfl (Nat.le_of_ble_eq_true rfl) (c_has_18 lw h_lw (show 0 ≤ M 18 2 ∧ M 18 2 ≤ 6 by omega) (fun c5 => g_r1 ?_) (fun c5 => g_r1 ?_))
      · refine g_if_ne (pc := 30) (tgt := 40) hK dd_X11_goes_30 (by decide) (by decide) (fun _ => ?_) (fun c6 => absurd (by decide) c6)
        refine g_aloadn (pc := 40) (i := 0) (x := 0) hK dd_X11_goes_40 rfl rfl ?_
        refine g_getv (pc := 41) (f := (1, 5)) (j := 3) (v := gR 5) hK (kdm kd_0) rfl ef_11 (by decide) rfl kk_385 dd_X11_goes_41 rfl ?_
        refine g_getv (pc := 44) (f := (1, 9)) (j := 1) (v := gR 14) hK (kdm kd_5) rfl ef_1 (by decide) rfl kk_262 dd_X11_goes_44 rfl ?_
        refine g_getv (pc := 47) (f := (1, 3)) (j := 2) (v := gR 17) hK (kdm kd_14) rfl ef_2 (by decide) rfl kk_122 dd_X11_goes_47 rfl ?_
        refine g_iloadn (pc := 50) (i := 1) (x := la) hK dd_X11_goes_50 rfl rfl ?_
        refine g_iald (pc := 51) hK (kdm kd_17) nl_17 (by decide) dd_X11_goes_51 (by omega) (by omega) (fun x7 ex7 rx7 => ?_)
        refine g_istoren (pc := 52) (i := 3) (L' := [(0, gR 0), (1, gI la), (2, gI lw), (3, gI x7)]) hK dd_X11_goes_52 rfl (by decide) rfl ?_
        refine g_aloadn (pc := 53) (i := 0) (x := 0) hK dd_X11_goes_53 rfl rfl ?_
        refine g_getv (pc := 54) (f := (1, 5)) (j := 3) (v := gR 5) hK (kdm kd_0) rfl ef_11 (by decide) rfl kk_385 dd_X11_goes_54 rfl ?_
        refine g_getv (pc := 57) (f := (1, 9)) (j := 1) (v := gR 14) hK (kdm kd_5) rfl ef_1 (by decide) rfl kk_262 dd_X11_goes_57 rfl ?_
        refine g_getv (pc := 60) (f := (1, 3)) (j := 2) (v := gR 17) hK (kdm kd_14) rfl ef_2 (by decide) rfl kk_122 dd_X11_goes_60 rfl ?_
        refine g_iloadn (pc := 63) (i := 1) (x := la) hK dd_X11_goes_63 rfl rfl ?_
        refine g_iloadn (pc := 64) (i := 2) (x := lw) hK dd_X11_goes_64 rfl rfl ?_
        refine g_iast (pc := 65) hK (kdm kd_17) nl_17 (by decide) (by decide) dd_X11_goes_65 (by omega) (by omega) h_lw ?_
        refine g_iloadn (pc := 66) (i := 3) (x := x7) hK dd_X11_goes_66 rfl rfl ?_
        refine g_iret (pc := 67) hK hr hlocks dd_X11_goes_67 rfl ?_
        first | exact g_fin (hB (by first | omega | (subst_vars; omega) | exact ⟨by first | assumption | omega | (subst_vars; first | assumption | omega), by first | assumption | omega | (subst_vars; first | assumption | omega)⟩)) (by first | rfl | omega | (subst_vars; first | rfl | omega)) (by first | rfl | (subst_vars; rfl)) | exact g_fin (hY (by first | omega | (subst_vars; omega) | exact ⟨by first | assumption | omega | (subst_vars; first | assumption | omega), by first | assumption | omega | (subst_vars; first | assumption | omega)⟩)) (by first | rfl | omega | (subst_vars; first | rfl | omega)) (by first | rfl | (subst_vars; rfl)) | (exfalso; omega)
      · refine g_if_ne (pc := 30) (tgt := 40) hK dd_X11_goes_30 (by decide) (by decide) (fun c8 => absurd c8 (by decide)) (fun _ => ?_)
        refine g_aloadn (pc := 33) (i := 0) (x := 0) hK dd_X11_goes_33 rfl rfl ?_
        refine g_bipush (pc := 34) (x := (-2)) hK dd_X11_goes_34 (by decide) ?_
        refine g_callV (pc := 36) (As := [gI (-2)]) hK ws_X_63 md_X11_refuse ⟨Nat.zero_le _, Nat.zero_le _⟩ ⟨by decide, by decide⟩ (kdm kd_0) rfl rfl dd_X11_goes_36 rfl rfl (Nat.le_of_ble_eq_true rfl) (c_refuse_0 hrf (g_r1 ?_))
        refine g_iret (pc := 39) hK hr hlocks dd_X11_goes_39 rfl ?_
        first | exact g_fin (hB (by first | omega | (subst_vars; omega) | exact ⟨by first | assumption | omega | (subst_vars; first | assumption | omega), by first | assumption | omega | (subst_vars; first | assumption | omega)⟩)) (by first | rfl | omega | (subst_vars; first | rfl | omega)) (by first | rfl | (subst_vars; rfl)) | exact g_fin (hY (by first | omega | (subst_vars; omega) | exact ⟨by first | assumption | omega | (subst_vars; first | assumption | omega), by first | assumption | omega | (subst_vars; first | assumption | omega)⟩)) (by first | rfl | omega | (subst_vars; first | rfl | omega)) (by first | rfl | (subst_vars; rfl)) | (exfalso; omega)
  · refine g_if_eq (pc := 11) (tgt := 33) hK dd_X11_goes_11 (by decide) (by decide) (fun _ => ?_) (fun c9 => absurd (by decide) c9)
    refine g_aloadn (pc := 33) (i := 0) (x := 0) hK dd_X11_goes_33 rfl rfl ?_
    refine g_bipush (pc := 34) (x := (-2)) hK dd_X11_goes_34 (by decide) ?_
    refine g_callV (pc := 36) (As := [gI (-2)]) hK ws_X_63 md_X11_refuse ⟨Nat.zero_le _, Nat.zero_le _⟩ ⟨by decide, by decide⟩ (kdm kd_0) rfl rfl dd_X11_goes_36 rfl rfl (Nat.le_of_ble_eq_true rfl) (c_refuse_0 hrf (g_r1 ?_))
    refine g_iret (pc := 39) hK hr hlocks dd_X11_goes_39 rfl ?_
    first | exact g_fin (hB (by first | omega | (subst_vars; omega) | exact ⟨by first | assumption | omega | (subst_vars; first | assumption | omega), by first | assumption | omega | (subst_vars; first | assumption | omega)⟩)) (by first | rfl | omega | (subst_vars; first | rfl | omega)) (by first | rfl | (subst_vars; rfl)) | exact g_fin (hY (by first | omega | (subst_vars; omega) | exact ⟨by first | assumption | omega | (subst_vars; first | assumption | omega), by first | assumption | omega | (subst_vars; first | assumption | omega)⟩)) (by first | rfl | omega | (subst_vars; first | rfl | omega)) (by first | rfl | (subst_vars; rfl)) | (exfalso; omega)
set_option maxHeartbeats 4000000 in
set_option maxRecDepth 100000 in
theorem x_wipe {l : Launch} {M : Mem} {Pq : Option gV → Mem → Prop}  (hY : Pq (some (gI (M 3 1))) (up M 3 1 0)) : gCtr l my_X11_wipe mb_X11_wipe 2 ((some .int)) 1 [gR 0] M Pq := by
  refine g_intro (by decide) (Nat.le_of_ble_eq_true rfl) ?_
  intro p e s m args below meth c D cy q A hK hr hlocks hw
  refine g_sub (L' := [(0, gR 0)]) [0] rfl ?_
  refine g_aloadn (pc := 0) (i := 0) (x := 0) hK dd_X11_wipe_0 rfl rfl ?_
  refine g_getv (pc := 1) (f := (1, 3)) (j := 2) (v := gR 3) hK (kdm kd_0) rfl ef_11 (by decide) rfl kk_384 dd_X11_wipe_1 rfl ?_
  refine g_geti (pc := 4) (f := (0, 0)) (j := 1) hK (kdm kd_3) rfl ef_9 (by decide) rfl kk_40 nl_3 dd_X11_wipe_4 rfl (fun x1 ex1 rx1 => ?_)
  refine g_istoren (pc := 7) (i := 1) (L' := [(0, gR 0), (1, gI x1)]) hK dd_X11_wipe_7 rfl (by decide) rfl ?_
  refine g_aloadn (pc := 8) (i := 0) (x := 0) hK dd_X11_wipe_8 rfl rfl ?_
  refine g_getv (pc := 9) (f := (1, 3)) (j := 2) (v := gR 3) hK (kdm kd_0) rfl ef_11 (by decide) rfl kk_384 dd_X11_wipe_9 rfl ?_
  refine g_iconst (pc := 12) (x := 0) hK dd_X11_wipe_12 (by decide) ?_
  refine g_puti (pc := 13) (f := (0, 0)) (j := 1) (ty := .int) hK (kdm kd_3) rfl ef_9 (by decide) rfl kk_40 nl_3 (by decide) dd_X11_wipe_13 rfl rfl rfl rfl rfl (by decide) ?_
  refine g_iloadn (pc := 16) (i := 1) (x := x1) hK dd_X11_wipe_16 rfl rfl ?_
  refine g_iret (pc := 17) hK hr hlocks dd_X11_wipe_17 rfl ?_
  first | exact g_fin (hY) (by first | rfl | omega | (subst_vars; first | rfl | omega)) (by first | rfl | (subst_vars; rfl)) | (exfalso; omega)
set_option maxHeartbeats 4000000 in
set_option maxRecDepth 100000 in
theorem x_lawOf {l : Launch} {M : Mem} {Pq : Option gV → Mem → Prop} (lw : Int) (wh : Int) (h_lw : inI lw) (h_wh : inI wh) (hrf : rfOK M) (hwc : 0 ≤ M 18 2 ∧ M 18 2 ≤ 6) (hB : (¬ ((0 ≤ lw ∧ lw < M 18 2) ∧ 0 ≤ wh ∧ wh ≤ 4)) → Pq (some (gI (-2))) (rf M 0)) (hY : ((0 ≤ lw ∧ lw < M 18 2) ∧ 0 ≤ wh ∧ wh ≤ 4) → Pq (some (gI (lpt (M 19) (M 18 2) lw wh))) M) : gCtr l my_X11_lawOf mb_X11_lawOf 3 ((some .int)) 4 [gR 0, gI lw, gI wh] M Pq := by
  refine g_intro (by decide) (Nat.le_of_ble_eq_true rfl) ?_
  intro p e s m args below meth c D cy q A hK hr hlocks hw
  refine g_sub (L' := [(0, gR 0), (1, gI lw), (2, gI wh)]) [0, 1, 2] rfl ?_
  refine g_aloadn (pc := 0) (i := 0) (x := 0) hK dd_X11_lawOf_0 rfl rfl ?_
  refine g_getv (pc := 1) (f := (1, 5)) (j := 3) (v := gR 5) hK (kdm kd_0) rfl ef_11 (by decide) rfl kk_385 dd_X11_lawOf_1 rfl ?_
  refine g_getv (pc := 4) (f := (1, 13)) (j := 2) (v := gR 18) hK (kdm kd_5) rfl ef_1 (by decide) rfl kk_264 dd_X11_lawOf_4 rfl ?_
  refine g_iloadn (pc := 7) (i := 1) (x := lw) hK dd_X11_lawOf_7 rfl rfl ?_
  refine g_callV (pc := 8) (As := [gI lw]) hK ws_X_182 md_X3_has ⟨Nat.zero_le _, Nat.zero_le _⟩ ⟨by decide, by decide⟩ (kdm kd_18) rfl rfl dd_X11_lawOf_8 rfl rfl (Nat.le_of_ble_eq_true rfl) (c_has_18 lw h_lw (show 0 ≤ M 18 2 ∧ M 18 2 ≤ 6 by omega) (fun c1 => g_r1 ?_) (fun c1 => g_r1 ?_))
  · refine g_if_eq (pc := 11) (tgt := 23) hK dd_X11_lawOf_11 (by decide) (by decide) (fun c2 => absurd c2 (by decide)) (fun _ => ?_)
    refine g_iloadn (pc := 14) (i := 2) (x := wh) hK dd_X11_lawOf_14 rfl rfl ?_
    refine g_iconst (pc := 15) (x := 0) hK dd_X11_lawOf_15 (by decide) ?_
    refine g_iconst (pc := 16) (x := 4) hK dd_X11_lawOf_16 (by decide) ?_
    refine g_callT (pc := 17) (As := [gI wh, gI 0, gI 4]) hK ws_X_59 md_X11_within ⟨Nat.zero_le _, Nat.zero_le _⟩ ⟨by decide, by decide⟩ dd_X11_lawOf_17 rfl rfl (Nat.le_of_ble_eq_true rfl) (c_within wh 0 4 h_wh (by decide) (by decide) (fun c3 => g_r1 ?_) (fun c3 => g_r1 ?_))
    · refine g_if_ne (pc := 20) (tgt := 30) hK dd_X11_lawOf_20 (by decide) (by decide) (fun _ => ?_) (fun c4 => absurd (by decide) c4)
      refine g_aloadn (pc := 30) (i := 0) (x := 0) hK dd_X11_lawOf_30 rfl rfl ?_
      refine g_getv (pc := 31) (f := (1, 5)) (j := 3) (v := gR 5) hK (kdm kd_0) rfl ef_11 (by decide) rfl kk_385 dd_X11_lawOf_31 rfl ?_
      refine g_getv (pc := 34) (f := (1, 13)) (j := 2) (v := gR 18) hK (kdm kd_5) rfl ef_1 (by decide) rfl kk_264 dd_X11_lawOf_34 rfl ?_
      refine g_iloadn (pc := 37) (i := 1) (x := lw) hK dd_X11_lawOf_37 rfl rfl ?_
      refine g_iloadn (pc := 38) (i := 2) (x := wh) hK dd_X11_lawOf_38 rfl rfl ?_
      refine g_callV (pc := 39) (As := [gI lw, gI wh]) hK ws_X_201 md_X3_part ⟨Nat.zero_le _, Nat.zero_le _⟩ ⟨by decide, by decide⟩ (kdm kd_18) rfl rfl dd_X11_lawOf_39 rfl rfl (Nat.le_of_ble_eq_true rfl) (c_partN lw wh h_lw (show 0 ≤ wh ∧ wh ≤ 4 by omega) (show 0 ≤ M 18 2 ∧ M 18 2 ≤ 6 by omega) (g_r1 ?_))
      refine g_topI (fun y5 ey5 => ?_)
      refine g_iret (pc := 42) hK hr hlocks dd_X11_lawOf_42 rfl ?_
      first | exact g_fin (hB (by first | omega | (subst_vars; omega) | exact ⟨by first | assumption | omega | (subst_vars; first | assumption | omega), by first | assumption | omega | (subst_vars; first | assumption | omega)⟩)) (by first | rfl | omega | (subst_vars; first | rfl | omega)) (by first | rfl | (subst_vars; rfl)) | exact g_fin (hY (by first | omega | (subst_vars; omega) | exact ⟨by first | assumption | omega | (subst_vars; first | assumption | omega), by first | assumption | omega | (subst_vars; first | assumption | omega)⟩)) (by first | rfl | omega | (subst_vars; first | rfl | omega)) (by first | rfl | (subst_vars; rfl)) | (exfalso; omega)
    · refine g_if_ne (pc := 20) (tgt := 30) hK dd_X11_lawOf_20 (by decide) (by decide) (fun c6 => absurd c6 (by decide)) (fun _ => ?_)
      refine g_aloadn (pc := 23) (i := 0) (x := 0) hK dd_X11_lawOf_23 rfl rfl ?_
      refine g_bipush (pc := 24) (x := (-2)) hK dd_X11_lawOf_24 (by decide) ?_
      refine g_callV (pc := 26) (As := [gI (-2)]) hK ws_X_63 md_X11_refuse ⟨Nat.zero_le _, Nat.zero_le _⟩ ⟨by decide, by decide⟩ (kdm kd_0) rfl rfl dd_X11_lawOf_26 rfl rfl (Nat.le_of_ble_eq_true rfl) (c_refuse_0 hrf (g_r1 ?_))
      refine g_iret (pc := 29) hK hr hlocks dd_X11_lawOf_29 rfl ?_
      first | exact g_fin (hB (by first | omega | (subst_vars; omega) | exact ⟨by first | assumption | omega | (subst_vars; first | assumption | omega), by first | assumption | omega | (subst_vars; first | assumption | omega)⟩)) (by first | rfl | omega | (subst_vars; first | rfl | omega)) (by first | rfl | (subst_vars; rfl)) | exact g_fin (hY (by first | omega | (subst_vars; omega) | exact ⟨by first | assumption | omega | (subst_vars; first | assumption | omega), by first | assumption | omega | (subst_vars; first | assumption | omega)⟩)) (by first | rfl | omega | (subst_vars; first | rfl | omega)) (by first | rfl | (subst_vars; rfl)) | (exfalso; omega)
  · refine g_if_eq (pc := 11) (tgt := 23) hK dd_X11_lawOf_11 (by decide) (by decide) (fun _ => ?_) (fun c7 => absurd (by decide) c7)
    refine g_aloadn (pc := 23) (i := 0) (x := 0) hK dd_X11_lawOf_23 rfl rfl ?_
    refine g_bipush (pc := 24) (x := (-2)) hK dd_X11_lawOf_24 (by decide) ?_
    refine g_callV (pc := 26) (As := [gI (-2)]) hK ws_X_63 md_X11_refuse ⟨Nat.zero_le _, Nat.zero_le _⟩ ⟨by decide, by decide⟩ (kdm kd_0) rfl rfl dd_X11_lawOf_26 rfl rfl (Nat.le_of_ble_eq_true rfl) (c_refuse_0 hrf (g_r1 ?_))
    refine g_iret (pc := 29) hK hr hlocks dd_X11_lawOf_29 rfl ?_
    first | exact g_fin (hB (by first | omega | (subst_vars; omega) | exact ⟨by first | assumption | omega | (subst_vars; first | assumption | omega), by first | assumption | omega | (subst_vars; first | assumption | omega)⟩)) (by first | rfl | omega | (subst_vars; first | rfl | omega)) (by first | rfl | (subst_vars; rfl)) | exact g_fin (hY (by first | omega | (subst_vars; omega) | exact ⟨by first | assumption | omega | (subst_vars; first | assumption | omega), by first | assumption | omega | (subst_vars; first | assumption | omega)⟩)) (by first | rfl | omega | (subst_vars; first | rfl | omega)) (by first | rfl | (subst_vars; rfl)) | (exfalso; omega)
set_option maxHeartbeats 4000000 in
set_option maxRecDepth 100000 in
theorem x_mark {l : Launch} {M : Mem} {Pq : Option gV → Mem → Prop} (t : Int) (v : Int) (h_t : inI t) (h_v : inI v) (hrf : rfOK M) (hc : 0 ≤ M 6 6 ∧ M 6 6 ≤ 30) (hB : (¬ ((0 ≤ t ∧ t < M 6 6) ∧ -1 ≤ v ∧ v ≤ 999)) → Pq (some (gI (-2))) (rf M 0)) (hS : (((0 ≤ t ∧ t < M 6 6) ∧ -1 ≤ v ∧ v ≤ 999) ∧ ¬ M 11 t.toNat = -1) → Pq (some (gI (-5))) (rf M 3)) (hY : (((0 ≤ t ∧ t < M 6 6) ∧ -1 ≤ v ∧ v ≤ 999) ∧ M 11 t.toNat = -1) → Pq (some (gI (M 10 t.toNat))) (up M 10 t.toNat v)) : gCtr l my_X11_mark mb_X11_mark 4 ((some .int)) 3 [gR 0, gI t, gI v] M Pq := by
  refine g_intro (by decide) (Nat.le_of_ble_eq_true rfl) ?_
  intro p e s m args below meth c D cy q A hK hr hlocks hw
  refine g_sub (L' := [(0, gR 0), (1, gI t), (2, gI v)]) [0, 1, 2] rfl ?_
  refine g_aloadn (pc := 0) (i := 0) (x := 0) hK dd_X11_mark_0 rfl rfl ?_
  refine g_getv (pc := 1) (f := (1, 5)) (j := 3) (v := gR 5) hK (kdm kd_0) rfl ef_11 (by decide) rfl kk_385 dd_X11_mark_1 rfl ?_
  refine g_getv (pc := 4) (f := (1, 1)) (j := 0) (v := gR 6) hK (kdm kd_5) rfl ef_1 (by decide) rfl kk_260 dd_X11_mark_4 rfl ?_
  refine g_iloadn (pc := 7) (i := 1) (x := t) hK dd_X11_mark_7 rfl rfl ?_
  refine g_callV (pc := 8) (As := [gI t]) hK ws_X_117 md_X10_has ⟨Nat.zero_le _, Nat.zero_le _⟩ ⟨by decide, by decide⟩ (kdm kd_6) rfl rfl dd_X11_mark_8 rfl rfl (Nat.le_of_ble_eq_true rfl) (c_has10 t (show inI t by omega) (show 0 ≤ M 6 6 ∧ M 6 6 ≤ 30 by omega) (fun c1 => g_r1 ?_) (fun c1 => g_r1 ?_))
  · refine g_if_eq (pc := 11) (tgt := 30) hK dd_X11_mark_11 (by decide) (by decide) (fun c2 => absurd c2 (by decide)) (fun _ => ?_)
    refine g_iloadn (pc := 14) (i := 2) (x := v) hK dd_X11_mark_14 rfl rfl ?_
    refine g_iconst (pc := 15) (x := (-1)) hK dd_X11_mark_15 (by decide) ?_
    refine g_icmp_eq (pc := 16) (tgt := 37) hK dd_X11_mark_16 (by decide) h_v (by decide) (fun c3 => ?_) (fun c3 => ?_)
    · refine g_aloadn (pc := 37) (i := 0) (x := 0) hK dd_X11_mark_37 rfl rfl ?_
      refine g_getv (pc := 38) (f := (1, 5)) (j := 3) (v := gR 5) hK (kdm kd_0) rfl ef_11 (by decide) rfl kk_385 dd_X11_mark_38 rfl ?_
      refine g_getv (pc := 41) (f := (1, 1)) (j := 0) (v := gR 6) hK (kdm kd_5) rfl ef_1 (by decide) rfl kk_260 dd_X11_mark_41 rfl ?_
      refine g_iloadn (pc := 44) (i := 1) (x := t) hK dd_X11_mark_44 rfl rfl ?_
      refine g_callV (pc := 45) (As := [gI t]) hK ws_X_213 md_X10_isSold ⟨Nat.zero_le _, Nat.zero_le _⟩ ⟨by decide, by decide⟩ (kdm kd_6) rfl rfl dd_X11_mark_45 rfl rfl (Nat.le_of_ble_eq_true rfl) (c_isSold t (show 0 ≤ t by omega) (show t < 30 by omega) (fun c4 => g_r1 ?_) (fun c4 => g_r1 ?_))
      · refine g_if_eq (pc := 48) (tgt := 58) hK dd_X11_mark_48 (by decide) (by decide) (fun c5 => absurd c5 (by decide)) (fun _ => ?_)
        refine g_aloadn (pc := 51) (i := 0) (x := 0) hK dd_X11_mark_51 rfl rfl ?_
        refine g_bipush (pc := 52) (x := (-5)) hK dd_X11_mark_52 (by decide) ?_
        refine g_callV (pc := 54) (As := [gI (-5)]) hK ws_X_63 md_X11_refuse ⟨Nat.zero_le _, Nat.zero_le _⟩ ⟨by decide, by decide⟩ (kdm kd_0) rfl rfl dd_X11_mark_54 rfl rfl (Nat.le_of_ble_eq_true rfl) (c_refuse_3 hrf (g_r1 ?_))
        refine g_iret (pc := 57) hK hr hlocks dd_X11_mark_57 rfl ?_
        first | exact g_fin (hS (by first | omega | (subst_vars; omega) | exact ⟨by first | assumption | omega | (subst_vars; first | assumption | omega), by first | assumption | omega | (subst_vars; first | assumption | omega)⟩)) (by first | rfl | omega | (subst_vars; first | rfl | omega)) (by first | rfl | (subst_vars; rfl)) | exact g_fin (hY (by first | omega | (subst_vars; omega) | exact ⟨by first | assumption | omega | (subst_vars; first | assumption | omega), by first | assumption | omega | (subst_vars; first | assumption | omega)⟩)) (by first | rfl | omega | (subst_vars; first | rfl | omega)) (by first | rfl | (subst_vars; rfl)) | (exfalso; omega)
      · refine g_if_eq (pc := 48) (tgt := 58) hK dd_X11_mark_48 (by decide) (by decide) (fun _ => ?_) (fun c6 => absurd (by decide) c6)
        refine g_aloadn (pc := 58) (i := 0) (x := 0) hK dd_X11_mark_58 rfl rfl ?_
        refine g_getv (pc := 59) (f := (1, 5)) (j := 3) (v := gR 5) hK (kdm kd_0) rfl ef_11 (by decide) rfl kk_385 dd_X11_mark_59 rfl ?_
        refine g_getv (pc := 62) (f := (1, 1)) (j := 0) (v := gR 6) hK (kdm kd_5) rfl ef_1 (by decide) rfl kk_260 dd_X11_mark_62 rfl ?_
        refine g_getv (pc := 65) (f := (1, 4)) (j := 3) (v := gR 10) hK (kdm kd_6) rfl ef_10 (by decide) rfl kk_78 dd_X11_mark_65 rfl ?_
        refine g_iloadn (pc := 68) (i := 1) (x := t) hK dd_X11_mark_68 rfl rfl ?_
        refine g_iald (pc := 69) hK (kdm kd_10) nl_10 (by decide) dd_X11_mark_69 (by omega) (by omega) (fun x7 ex7 rx7 => ?_)
        refine g_istoren (pc := 70) (i := 3) (L' := [(0, gR 0), (1, gI t), (2, gI v), (3, gI x7)]) hK dd_X11_mark_70 rfl (by decide) rfl ?_
        refine g_aloadn (pc := 71) (i := 0) (x := 0) hK dd_X11_mark_71 rfl rfl ?_
        refine g_getv (pc := 72) (f := (1, 5)) (j := 3) (v := gR 5) hK (kdm kd_0) rfl ef_11 (by decide) rfl kk_385 dd_X11_mark_72 rfl ?_
        refine g_getv (pc := 75) (f := (1, 1)) (j := 0) (v := gR 6) hK (kdm kd_5) rfl ef_1 (by decide) rfl kk_260 dd_X11_mark_75 rfl ?_
        refine g_getv (pc := 78) (f := (1, 4)) (j := 3) (v := gR 10) hK (kdm kd_6) rfl ef_10 (by decide) rfl kk_78 dd_X11_mark_78 rfl ?_
        refine g_iloadn (pc := 81) (i := 1) (x := t) hK dd_X11_mark_81 rfl rfl ?_
        refine g_iloadn (pc := 82) (i := 2) (x := v) hK dd_X11_mark_82 rfl rfl ?_
        refine g_iast (pc := 83) hK (kdm kd_10) nl_10 (by decide) (by decide) dd_X11_mark_83 (by omega) (by omega) h_v ?_
        refine g_iloadn (pc := 84) (i := 3) (x := x7) hK dd_X11_mark_84 rfl rfl ?_
        refine g_iret (pc := 85) hK hr hlocks dd_X11_mark_85 rfl ?_
        first | exact g_fin (hB (by first | omega | (subst_vars; omega) | exact ⟨by first | assumption | omega | (subst_vars; first | assumption | omega), by first | assumption | omega | (subst_vars; first | assumption | omega)⟩)) (by first | rfl | omega | (subst_vars; first | rfl | omega)) (by first | rfl | (subst_vars; rfl)) | exact g_fin (hS (by first | omega | (subst_vars; omega) | exact ⟨by first | assumption | omega | (subst_vars; first | assumption | omega), by first | assumption | omega | (subst_vars; first | assumption | omega)⟩)) (by first | rfl | omega | (subst_vars; first | rfl | omega)) (by first | rfl | (subst_vars; rfl)) | exact g_fin (hY (by first | omega | (subst_vars; omega) | exact ⟨by first | assumption | omega | (subst_vars; first | assumption | omega), by first | assumption | omega | (subst_vars; first | assumption | omega)⟩)) (by first | rfl | omega | (subst_vars; first | rfl | omega)) (by first | rfl | (subst_vars; rfl)) | (exfalso; omega)
    · refine g_iloadn (pc := 19) (i := 2) (x := v) hK dd_X11_mark_19 rfl rfl ?_
      refine g_iconst (pc := 20) (x := 0) hK dd_X11_mark_20 (by decide) ?_
      refine g_sipush (pc := 21) (x := 999) hK dd_X11_mark_21 (by decide) ?_
      refine g_callT (pc := 24) (As := [gI v, gI 0, gI 999]) hK ws_X_59 md_X11_within ⟨Nat.zero_le _, Nat.zero_le _⟩ ⟨by decide, by decide⟩ dd_X11_mark_24 rfl rfl (Nat.le_of_ble_eq_true rfl) (c_within v 0 999 h_v (by decide) (by decide) (fun c8 => g_r1 ?_) (fun c8 => g_r1 ?_))
      · refine g_if_ne (pc := 27) (tgt := 37) hK dd_X11_mark_27 (by decide) (by decide) (fun _ => ?_) (fun c9 => absurd (by decide) c9)
        refine g_aloadn (pc := 37) (i := 0) (x := 0) hK dd_X11_mark_37 rfl rfl ?_
        refine g_getv (pc := 38) (f := (1, 5)) (j := 3) (v := gR 5) hK (kdm kd_0) rfl ef_11 (by decide) rfl kk_385 dd_X11_mark_38 rfl ?_
        refine g_getv (pc := 41) (f := (1, 1)) (j := 0) (v := gR 6) hK (kdm kd_5) rfl ef_1 (by decide) rfl kk_260 dd_X11_mark_41 rfl ?_
        refine g_iloadn (pc := 44) (i := 1) (x := t) hK dd_X11_mark_44 rfl rfl ?_
        refine g_callV (pc := 45) (As := [gI t]) hK ws_X_213 md_X10_isSold ⟨Nat.zero_le _, Nat.zero_le _⟩ ⟨by decide, by decide⟩ (kdm kd_6) rfl rfl dd_X11_mark_45 rfl rfl (Nat.le_of_ble_eq_true rfl) (c_isSold t (show 0 ≤ t by omega) (show t < 30 by omega) (fun c10 => g_r1 ?_) (fun c10 => g_r1 ?_))
        · refine g_if_eq (pc := 48) (tgt := 58) hK dd_X11_mark_48 (by decide) (by decide) (fun c11 => absurd c11 (by decide)) (fun _ => ?_)
          refine g_aloadn (pc := 51) (i := 0) (x := 0) hK dd_X11_mark_51 rfl rfl ?_
          refine g_bipush (pc := 52) (x := (-5)) hK dd_X11_mark_52 (by decide) ?_
          refine g_callV (pc := 54) (As := [gI (-5)]) hK ws_X_63 md_X11_refuse ⟨Nat.zero_le _, Nat.zero_le _⟩ ⟨by decide, by decide⟩ (kdm kd_0) rfl rfl dd_X11_mark_54 rfl rfl (Nat.le_of_ble_eq_true rfl) (c_refuse_3 hrf (g_r1 ?_))
          refine g_iret (pc := 57) hK hr hlocks dd_X11_mark_57 rfl ?_
          first | exact g_fin (hS (by first | omega | (subst_vars; omega) | exact ⟨by first | assumption | omega | (subst_vars; first | assumption | omega), by first | assumption | omega | (subst_vars; first | assumption | omega)⟩)) (by first | rfl | omega | (subst_vars; first | rfl | omega)) (by first | rfl | (subst_vars; rfl)) | exact g_fin (hY (by first | omega | (subst_vars; omega) | exact ⟨by first | assumption | omega | (subst_vars; first | assumption | omega), by first | assumption | omega | (subst_vars; first | assumption | omega)⟩)) (by first | rfl | omega | (subst_vars; first | rfl | omega)) (by first | rfl | (subst_vars; rfl)) | (exfalso; omega)
        · refine g_if_eq (pc := 48) (tgt := 58) hK dd_X11_mark_48 (by decide) (by decide) (fun _ => ?_) (fun c12 => absurd (by decide) c12)
          refine g_aloadn (pc := 58) (i := 0) (x := 0) hK dd_X11_mark_58 rfl rfl ?_
          refine g_getv (pc := 59) (f := (1, 5)) (j := 3) (v := gR 5) hK (kdm kd_0) rfl ef_11 (by decide) rfl kk_385 dd_X11_mark_59 rfl ?_
          refine g_getv (pc := 62) (f := (1, 1)) (j := 0) (v := gR 6) hK (kdm kd_5) rfl ef_1 (by decide) rfl kk_260 dd_X11_mark_62 rfl ?_
          refine g_getv (pc := 65) (f := (1, 4)) (j := 3) (v := gR 10) hK (kdm kd_6) rfl ef_10 (by decide) rfl kk_78 dd_X11_mark_65 rfl ?_
          refine g_iloadn (pc := 68) (i := 1) (x := t) hK dd_X11_mark_68 rfl rfl ?_
          refine g_iald (pc := 69) hK (kdm kd_10) nl_10 (by decide) dd_X11_mark_69 (by omega) (by omega) (fun x13 ex13 rx13 => ?_)
          refine g_istoren (pc := 70) (i := 3) (L' := [(0, gR 0), (1, gI t), (2, gI v), (3, gI x13)]) hK dd_X11_mark_70 rfl (by decide) rfl ?_
          refine g_aloadn (pc := 71) (i := 0) (x := 0) hK dd_X11_mark_71 rfl rfl ?_
          refine g_getv (pc := 72) (f := (1, 5)) (j := 3) (v := gR 5) hK (kdm kd_0) rfl ef_11 (by decide) rfl kk_385 dd_X11_mark_72 rfl ?_
          refine g_getv (pc := 75) (f := (1, 1)) (j := 0) (v := gR 6) hK (kdm kd_5) rfl ef_1 (by decide) rfl kk_260 dd_X11_mark_75 rfl ?_
          refine g_getv (pc := 78) (f := (1, 4)) (j := 3) (v := gR 10) hK (kdm kd_6) rfl ef_10 (by decide) rfl kk_78 dd_X11_mark_78 rfl ?_
          refine g_iloadn (pc := 81) (i := 1) (x := t) hK dd_X11_mark_81 rfl rfl ?_
          refine g_iloadn (pc := 82) (i := 2) (x := v) hK dd_X11_mark_82 rfl rfl ?_
          refine g_iast (pc := 83) hK (kdm kd_10) nl_10 (by decide) (by decide) dd_X11_mark_83 (by omega) (by omega) h_v ?_
          refine g_iloadn (pc := 84) (i := 3) (x := x13) hK dd_X11_mark_84 rfl rfl ?_
          refine g_iret (pc := 85) hK hr hlocks dd_X11_mark_85 rfl ?_
          first | exact g_fin (hB (by first | omega | (subst_vars; omega) | exact ⟨by first | assumption | omega | (subst_vars; first | assumption | omega), by first | assumption | omega | (subst_vars; first | assumption | omega)⟩)) (by first | rfl | omega | (subst_vars; first | rfl | omega)) (by first | rfl | (subst_vars; rfl)) | exact g_fin (hS (by first | omega | (subst_vars; omega) | exact ⟨by first | assumption | omega | (subst_vars; first | assumption | omega), by first | assumption | omega | (subst_vars; first | assumption | omega)⟩)) (by first | rfl | omega | (subst_vars; first | rfl | omega)) (by first | rfl | (subst_vars; rfl)) | exact g_fin (hY (by first | omega | (subst_vars; omega) | exact ⟨by first | assumption | omega | (subst_vars; first | assumption | omega), by first | assumption | omega | (subst_vars; first | assumption | omega)⟩)) (by first | rfl | omega | (subst_vars; first | rfl | omega)) (by first | rfl | (subst_vars; rfl)) | (exfalso; omega)
      · refine g_if_ne (pc := 27) (tgt := 37) hK dd_X11_mark_27 (by decide) (by decide) (fun c14 => absurd c14 (by decide)) (fun _ => ?_)
        refine g_aloadn (pc := 30) (i := 0) (x := 0) hK dd_X11_mark_30 rfl rfl ?_
        refine g_bipush (pc := 31) (x := (-2)) hK dd_X11_mark_31 (by decide) ?_
        refine g_callV (pc := 33) (As := [gI (-2)]) hK ws_X_63 md_X11_refuse ⟨Nat.zero_le _, Nat.zero_le _⟩ ⟨by decide, by decide⟩ (kdm kd_0) rfl rfl dd_X11_mark_33 rfl rfl (Nat.le_of_ble_eq_true rfl) (c_refuse_0 hrf (g_r1 ?_))
        refine g_iret (pc := 36) hK hr hlocks dd_X11_mark_36 rfl ?_
        first | exact g_fin (hB (by first | omega | (subst_vars; omega) | exact ⟨by first | assumption | omega | (subst_vars; first | assumption | omega), by first | assumption | omega | (subst_vars; first | assumption | omega)⟩)) (by first | rfl | omega | (subst_vars; first | rfl | omega)) (by first | rfl | (subst_vars; rfl)) | exact g_fin (hY (by first | omega | (subst_vars; omega) | exact ⟨by first | assumption | omega | (subst_vars; first | assumption | omega), by first | assumption | omega | (subst_vars; first | assumption | omega)⟩)) (by first | rfl | omega | (subst_vars; first | rfl | omega)) (by first | rfl | (subst_vars; rfl)) | (exfalso; omega)
  · refine g_if_eq (pc := 11) (tgt := 30) hK dd_X11_mark_11 (by decide) (by decide) (fun _ => ?_) (fun c15 => absurd (by decide) c15)
    refine g_aloadn (pc := 30) (i := 0) (x := 0) hK dd_X11_mark_30 rfl rfl ?_
    refine g_bipush (pc := 31) (x := (-2)) hK dd_X11_mark_31 (by decide) ?_
    refine g_callV (pc := 33) (As := [gI (-2)]) hK ws_X_63 md_X11_refuse ⟨Nat.zero_le _, Nat.zero_le _⟩ ⟨by decide, by decide⟩ (kdm kd_0) rfl rfl dd_X11_mark_33 rfl rfl (Nat.le_of_ble_eq_true rfl) (c_refuse_0 hrf (g_r1 ?_))
    refine g_iret (pc := 36) hK hr hlocks dd_X11_mark_36 rfl ?_
    first | exact g_fin (hB (by first | omega | (subst_vars; omega) | exact ⟨by first | assumption | omega | (subst_vars; first | assumption | omega), by first | assumption | omega | (subst_vars; first | assumption | omega)⟩)) (by first | rfl | omega | (subst_vars; first | rfl | omega)) (by first | rfl | (subst_vars; rfl)) | exact g_fin (hY (by first | omega | (subst_vars; omega) | exact ⟨by first | assumption | omega | (subst_vars; first | assumption | omega), by first | assumption | omega | (subst_vars; first | assumption | omega)⟩)) (by first | rfl | omega | (subst_vars; first | rfl | omega)) (by first | rfl | (subst_vars; rfl)) | (exfalso; omega)
set_option maxHeartbeats 4000000 in
set_option maxRecDepth 100000 in
theorem x_buyer {l : Launch} {M : Mem} {Pq : Option gV → Mem → Prop} (ho : Int) (pu : Int) (ks : Int) (ey : Int) (h_ho : inI ho) (h_pu : inI pu) (h_ks : inI ks) (h_ey : inI ey) (hrf : rfOK M) (hbc : 0 ≤ M 21 5 ∧ M 21 5 ≤ 12) (hB : (¬ ((0 ≤ ho ∧ ho ≤ 11) ∧ (0 ≤ pu ∧ pu ≤ 9999) ∧ (0 ≤ ks ∧ ks ≤ 63) ∧ 0 ≤ ey ∧ ey ≤ 300)) → Pq (some (gI (-2))) (rf M 0)) (hF : (((0 ≤ ho ∧ ho ≤ 11) ∧ (0 ≤ pu ∧ pu ≤ 9999) ∧ (0 ≤ ks ∧ ks ≤ 63) ∧ 0 ≤ ey ∧ ey ≤ 300) ∧ 12 ≤ M 21 5) → Pq (some (gI (-6))) (rf M 4)) (hY : (((0 ≤ ho ∧ ho ≤ 11) ∧ (0 ≤ pu ∧ pu ≤ 9999) ∧ (0 ≤ ks ∧ ks ≤ 63) ∧ 0 ≤ ey ∧ ey ≤ 300) ∧ ¬ 12 ≤ M 21 5) → Pq (some (gI (M 21 5))) (up (up (up (up (up (up M 22 (M 21 5).toNat ho) 23 (M 21 5).toNat pu) 24 (M 21 5).toNat ks) 25 (M 21 5).toNat ey) 26 (M 21 5).toNat 0) 21 5 (M 21 5 + 1))) : gCtr l my_X11_buyer mb_X11_buyer 5 ((some .int)) 3 [gR 0, gI ho, gI pu, gI ks, gI ey] M Pq := by
  refine g_intro (by decide) (Nat.le_of_ble_eq_true rfl) ?_
  intro p e s m args below meth c D cy q A hK hr hlocks hw
  refine g_sub (L' := [(0, gR 0), (1, gI ho), (2, gI pu), (3, gI ks), (4, gI ey)]) [0, 1, 2, 3, 4] rfl ?_
  refine g_iloadn (pc := 0) (i := 1) (x := ho) hK dd_X11_buyer_0 rfl rfl ?_
  refine g_callT (pc := 1) (As := [gI ho]) hK ws_X_216 md_X11_isHour ⟨Nat.zero_le _, Nat.zero_le _⟩ ⟨by decide, by decide⟩ dd_X11_buyer_1 rfl rfl (Nat.le_of_ble_eq_true rfl) (c_isHour ho h_ho (fun c1 => g_r1 ?_) (fun c1 => g_r1 ?_))
  · refine g_if_eq (pc := 4) (tgt := 37) hK dd_X11_buyer_4 (by decide) (by decide) (fun c2 => absurd c2 (by decide)) (fun _ => ?_)
    refine g_iloadn (pc := 7) (i := 2) (x := pu) hK dd_X11_buyer_7 rfl rfl ?_
    refine g_iconst (pc := 8) (x := 0) hK dd_X11_buyer_8 (by decide) ?_
    refine g_sipush (pc := 9) (x := 9999) hK dd_X11_buyer_9 (by decide) ?_
    refine g_callT (pc := 12) (As := [gI pu, gI 0, gI 9999]) hK ws_X_59 md_X11_within ⟨Nat.zero_le _, Nat.zero_le _⟩ ⟨by decide, by decide⟩ dd_X11_buyer_12 rfl rfl (Nat.le_of_ble_eq_true rfl) (c_within pu 0 9999 h_pu (by decide) (by decide) (fun c3 => g_r1 ?_) (fun c3 => g_r1 ?_))
    · refine g_if_eq (pc := 15) (tgt := 37) hK dd_X11_buyer_15 (by decide) (by decide) (fun c4 => absurd c4 (by decide)) (fun _ => ?_)
      refine g_iloadn (pc := 18) (i := 3) (x := ks) hK dd_X11_buyer_18 rfl rfl ?_
      refine g_callT (pc := 19) (As := [gI ks]) hK ws_X_165 md_X11_isKinds ⟨Nat.zero_le _, Nat.zero_le _⟩ ⟨by decide, by decide⟩ dd_X11_buyer_19 rfl rfl (Nat.le_of_ble_eq_true rfl) (c_isKinds ks h_ks (fun c5 => g_r1 ?_) (fun c5 => g_r1 ?_))
      · refine g_if_eq (pc := 22) (tgt := 37) hK dd_X11_buyer_22 (by decide) (by decide) (fun c6 => absurd c6 (by decide)) (fun _ => ?_)
        refine g_iload (pc := 25) (i := 4) (x := ey) hK dd_X11_buyer_25 rfl ?_
        refine g_iconst (pc := 27) (x := 0) hK dd_X11_buyer_27 (by decide) ?_
        refine g_sipush (pc := 28) (x := 300) hK dd_X11_buyer_28 (by decide) ?_
        refine g_callT (pc := 31) (As := [gI ey, gI 0, gI 300]) hK ws_X_59 md_X11_within ⟨Nat.zero_le _, Nat.zero_le _⟩ ⟨by decide, by decide⟩ dd_X11_buyer_31 rfl rfl (Nat.le_of_ble_eq_true rfl) (c_within ey 0 300 h_ey (by decide) (by decide) (fun c7 => g_r1 ?_) (fun c7 => g_r1 ?_))
        · refine g_if_ne (pc := 34) (tgt := 44) hK dd_X11_buyer_34 (by decide) (by decide) (fun _ => ?_) (fun c8 => absurd (by decide) c8)
          refine g_aloadn (pc := 44) (i := 0) (x := 0) hK dd_X11_buyer_44 rfl rfl ?_
          refine g_getv (pc := 45) (f := (1, 5)) (j := 3) (v := gR 5) hK (kdm kd_0) rfl ef_11 (by decide) rfl kk_385 dd_X11_buyer_45 rfl ?_
          refine g_getv (pc := 48) (f := (1, 16)) (j := 3) (v := gR 21) hK (kdm kd_5) rfl ef_1 (by decide) rfl kk_267 dd_X11_buyer_48 rfl ?_
          refine g_geti (pc := 51) (f := (0, 0)) (j := 5) hK (kdm kd_21) rfl ef_0 (by decide) rfl kk_176 nl_21 dd_X11_buyer_51 rfl (fun x9 ex9 rx9 => ?_)
          refine g_bipush (pc := 54) (x := 12) hK dd_X11_buyer_54 (by decide) ?_
          refine g_icmp_lt (pc := 56) (tgt := 66) hK dd_X11_buyer_56 (by decide) rx9 (by decide) (fun c10 => ?_) (fun c10 => ?_)
          · refine g_aloadn (pc := 66) (i := 0) (x := 0) hK dd_X11_buyer_66 rfl rfl ?_
            refine g_getv (pc := 67) (f := (1, 5)) (j := 3) (v := gR 5) hK (kdm kd_0) rfl ef_11 (by decide) rfl kk_385 dd_X11_buyer_67 rfl ?_
            refine g_getv (pc := 70) (f := (1, 16)) (j := 3) (v := gR 21) hK (kdm kd_5) rfl ef_1 (by decide) rfl kk_267 dd_X11_buyer_70 rfl ?_
            refine g_iloadn (pc := 73) (i := 1) (x := ho) hK dd_X11_buyer_73 rfl rfl ?_
            refine g_iloadn (pc := 74) (i := 2) (x := pu) hK dd_X11_buyer_74 rfl rfl ?_
            refine g_iloadn (pc := 75) (i := 3) (x := ks) hK dd_X11_buyer_75 rfl rfl ?_
            refine g_iload (pc := 76) (i := 4) (x := ey) hK dd_X11_buyer_76 rfl ?_
            refine g_callV (pc := 78) (As := [gI ho, gI pu, gI ks, gI ey]) hK ws_X_226 md_X0_add ⟨Nat.zero_le _, Nat.zero_le _⟩ ⟨by decide, by decide⟩ (kdm kd_21) rfl rfl dd_X11_buyer_78 rfl rfl (Nat.le_of_ble_eq_true rfl) (c_add_21 ho pu ks ey (show 0 ≤ M 21 5 ∧ M 21 5 < 12 by omega) h_ho h_pu h_ks h_ey (g_r1 ?_))
            refine g_iret (pc := 81) hK hr hlocks dd_X11_buyer_81 rfl ?_
            first | exact g_fin (hB (by first | omega | (subst_vars; omega) | exact ⟨by first | assumption | omega | (subst_vars; first | assumption | omega), by first | assumption | omega | (subst_vars; first | assumption | omega)⟩)) (by first | rfl | omega | (subst_vars; first | rfl | omega)) (by first | rfl | (subst_vars; rfl)) | exact g_fin (hF (by first | omega | (subst_vars; omega) | exact ⟨by first | assumption | omega | (subst_vars; first | assumption | omega), by first | assumption | omega | (subst_vars; first | assumption | omega)⟩)) (by first | rfl | omega | (subst_vars; first | rfl | omega)) (by first | rfl | (subst_vars; rfl)) | exact g_fin (hY (by first | omega | (subst_vars; omega) | exact ⟨by first | assumption | omega | (subst_vars; first | assumption | omega), by first | assumption | omega | (subst_vars; first | assumption | omega)⟩)) (by first | rfl | omega | (subst_vars; first | rfl | omega)) (by first | rfl | (subst_vars; rfl)) | (exfalso; omega)
          · refine g_aloadn (pc := 59) (i := 0) (x := 0) hK dd_X11_buyer_59 rfl rfl ?_
            refine g_bipush (pc := 60) (x := (-6)) hK dd_X11_buyer_60 (by decide) ?_
            refine g_callV (pc := 62) (As := [gI (-6)]) hK ws_X_63 md_X11_refuse ⟨Nat.zero_le _, Nat.zero_le _⟩ ⟨by decide, by decide⟩ (kdm kd_0) rfl rfl dd_X11_buyer_62 rfl rfl (Nat.le_of_ble_eq_true rfl) (c_refuse_4 hrf (g_r1 ?_))
            refine g_iret (pc := 65) hK hr hlocks dd_X11_buyer_65 rfl ?_
            first | exact g_fin (hF (by first | omega | (subst_vars; omega) | exact ⟨by first | assumption | omega | (subst_vars; first | assumption | omega), by first | assumption | omega | (subst_vars; first | assumption | omega)⟩)) (by first | rfl | omega | (subst_vars; first | rfl | omega)) (by first | rfl | (subst_vars; rfl)) | exact g_fin (hY (by first | omega | (subst_vars; omega) | exact ⟨by first | assumption | omega | (subst_vars; first | assumption | omega), by first | assumption | omega | (subst_vars; first | assumption | omega)⟩)) (by first | rfl | omega | (subst_vars; first | rfl | omega)) (by first | rfl | (subst_vars; rfl)) | (exfalso; omega)
        · refine g_if_ne (pc := 34) (tgt := 44) hK dd_X11_buyer_34 (by decide) (by decide) (fun c11 => absurd c11 (by decide)) (fun _ => ?_)
          refine g_aloadn (pc := 37) (i := 0) (x := 0) hK dd_X11_buyer_37 rfl rfl ?_
          refine g_bipush (pc := 38) (x := (-2)) hK dd_X11_buyer_38 (by decide) ?_
          refine g_callV (pc := 40) (As := [gI (-2)]) hK ws_X_63 md_X11_refuse ⟨Nat.zero_le _, Nat.zero_le _⟩ ⟨by decide, by decide⟩ (kdm kd_0) rfl rfl dd_X11_buyer_40 rfl rfl (Nat.le_of_ble_eq_true rfl) (c_refuse_0 hrf (g_r1 ?_))
          refine g_iret (pc := 43) hK hr hlocks dd_X11_buyer_43 rfl ?_
          first | exact g_fin (hB (by first | omega | (subst_vars; omega) | exact ⟨by first | assumption | omega | (subst_vars; first | assumption | omega), by first | assumption | omega | (subst_vars; first | assumption | omega)⟩)) (by first | rfl | omega | (subst_vars; first | rfl | omega)) (by first | rfl | (subst_vars; rfl)) | exact g_fin (hY (by first | omega | (subst_vars; omega) | exact ⟨by first | assumption | omega | (subst_vars; first | assumption | omega), by first | assumption | omega | (subst_vars; first | assumption | omega)⟩)) (by first | rfl | omega | (subst_vars; first | rfl | omega)) (by first | rfl | (subst_vars; rfl)) | (exfalso; omega)
      · refine g_if_eq (pc := 22) (tgt := 37) hK dd_X11_buyer_22 (by decide) (by decide) (fun _ => ?_) (fun c12 => absurd (by decide) c12)
        refine g_aloadn (pc := 37) (i := 0) (x := 0) hK dd_X11_buyer_37 rfl rfl ?_
        refine g_bipush (pc := 38) (x := (-2)) hK dd_X11_buyer_38 (by decide) ?_
        refine g_callV (pc := 40) (As := [gI (-2)]) hK ws_X_63 md_X11_refuse ⟨Nat.zero_le _, Nat.zero_le _⟩ ⟨by decide, by decide⟩ (kdm kd_0) rfl rfl dd_X11_buyer_40 rfl rfl (Nat.le_of_ble_eq_true rfl) (c_refuse_0 hrf (g_r1 ?_))
        refine g_iret (pc := 43) hK hr hlocks dd_X11_buyer_43 rfl ?_
        first | exact g_fin (hB (by first | omega | (subst_vars; omega) | exact ⟨by first | assumption | omega | (subst_vars; first | assumption | omega), by first | assumption | omega | (subst_vars; first | assumption | omega)⟩)) (by first | rfl | omega | (subst_vars; first | rfl | omega)) (by first | rfl | (subst_vars; rfl)) | exact g_fin (hY (by first | omega | (subst_vars; omega) | exact ⟨by first | assumption | omega | (subst_vars; first | assumption | omega), by first | assumption | omega | (subst_vars; first | assumption | omega)⟩)) (by first | rfl | omega | (subst_vars; first | rfl | omega)) (by first | rfl | (subst_vars; rfl)) | (exfalso; omega)
    · refine g_if_eq (pc := 15) (tgt := 37) hK dd_X11_buyer_15 (by decide) (by decide) (fun _ => ?_) (fun c13 => absurd (by decide) c13)
      refine g_aloadn (pc := 37) (i := 0) (x := 0) hK dd_X11_buyer_37 rfl rfl ?_
      refine g_bipush (pc := 38) (x := (-2)) hK dd_X11_buyer_38 (by decide) ?_
      refine g_callV (pc := 40) (As := [gI (-2)]) hK ws_X_63 md_X11_refuse ⟨Nat.zero_le _, Nat.zero_le _⟩ ⟨by decide, by decide⟩ (kdm kd_0) rfl rfl dd_X11_buyer_40 rfl rfl (Nat.le_of_ble_eq_true rfl) (c_refuse_0 hrf (g_r1 ?_))
      refine g_iret (pc := 43) hK hr hlocks dd_X11_buyer_43 rfl ?_
      first | exact g_fin (hB (by first | omega | (subst_vars; omega) | exact ⟨by first | assumption | omega | (subst_vars; first | assumption | omega), by first | assumption | omega | (subst_vars; first | assumption | omega)⟩)) (by first | rfl | omega | (subst_vars; first | rfl | omega)) (by first | rfl | (subst_vars; rfl)) | exact g_fin (hY (by first | omega | (subst_vars; omega) | exact ⟨by first | assumption | omega | (subst_vars; first | assumption | omega), by first | assumption | omega | (subst_vars; first | assumption | omega)⟩)) (by first | rfl | omega | (subst_vars; first | rfl | omega)) (by first | rfl | (subst_vars; rfl)) | (exfalso; omega)
  · refine g_if_eq (pc := 4) (tgt := 37) hK dd_X11_buyer_4 (by decide) (by decide) (fun _ => ?_) (fun c14 => absurd (by decide) c14)
    refine g_aloadn (pc := 37) (i := 0) (x := 0) hK dd_X11_buyer_37 rfl rfl ?_
    refine g_bipush (pc := 38) (x := (-2)) hK dd_X11_buyer_38 (by decide) ?_
    refine g_callV (pc := 40) (As := [gI (-2)]) hK ws_X_63 md_X11_refuse ⟨Nat.zero_le _, Nat.zero_le _⟩ ⟨by decide, by decide⟩ (kdm kd_0) rfl rfl dd_X11_buyer_40 rfl rfl (Nat.le_of_ble_eq_true rfl) (c_refuse_0 hrf (g_r1 ?_))
    refine g_iret (pc := 43) hK hr hlocks dd_X11_buyer_43 rfl ?_
    first | exact g_fin (hB (by first | omega | (subst_vars; omega) | exact ⟨by first | assumption | omega | (subst_vars; first | assumption | omega), by first | assumption | omega | (subst_vars; first | assumption | omega)⟩)) (by first | rfl | omega | (subst_vars; first | rfl | omega)) (by first | rfl | (subst_vars; rfl)) | exact g_fin (hY (by first | omega | (subst_vars; omega) | exact ⟨by first | assumption | omega | (subst_vars; first | assumption | omega), by first | assumption | omega | (subst_vars; first | assumption | omega)⟩)) (by first | rfl | omega | (subst_vars; first | rfl | omega)) (by first | rfl | (subst_vars; rfl)) | (exfalso; omega)
set_option maxHeartbeats 4000000 in
set_option maxRecDepth 100000 in
theorem x_buyerOf {l : Launch} {M : Mem} {Pq : Option gV → Mem → Prop} (b : Int) (wh : Int) (h_b : inI b) (h_wh : inI wh) (hrf : rfOK M) (hbc : 0 ≤ M 21 5 ∧ M 21 5 ≤ 12) (hB : (¬ ((0 ≤ b ∧ b < M 21 5) ∧ 0 ≤ wh ∧ wh ≤ 4)) → Pq (some (gI (-2))) (rf M 0)) (h0 : ((0 ≤ b ∧ b < M 21 5) ∧ wh = 0) → Pq (some (gI (M 22 b.toNat))) M) (h1 : ((0 ≤ b ∧ b < M 21 5) ∧ wh = 1) → Pq (some (gI (M 23 b.toNat))) M) (h2 : ((0 ≤ b ∧ b < M 21 5) ∧ wh = 2) → Pq (some (gI (M 24 b.toNat))) M) (h3 : ((0 ≤ b ∧ b < M 21 5) ∧ wh = 3) → Pq (some (gI (M 25 b.toNat))) M) (h4 : ((0 ≤ b ∧ b < M 21 5) ∧ wh = 4) → Pq (some (gI (M 26 b.toNat))) M) : gCtr l my_X11_buyerOf mb_X11_buyerOf 3 ((some .int)) 3 [gR 0, gI b, gI wh] M Pq := by
  refine g_intro (by decide) (Nat.le_of_ble_eq_true rfl) ?_
  intro p e s m args below meth c D cy q A hK hr hlocks hw
  refine g_sub (L' := [(0, gR 0), (1, gI b), (2, gI wh)]) [0, 1, 2] rfl ?_
  refine g_aloadn (pc := 0) (i := 0) (x := 0) hK dd_X11_buyerOf_0 rfl rfl ?_
  refine g_getv (pc := 1) (f := (1, 5)) (j := 3) (v := gR 5) hK (kdm kd_0) rfl ef_11 (by decide) rfl kk_385 dd_X11_buyerOf_1 rfl ?_
  refine g_getv (pc := 4) (f := (1, 16)) (j := 3) (v := gR 21) hK (kdm kd_5) rfl ef_1 (by decide) rfl kk_267 dd_X11_buyerOf_4 rfl ?_
  refine g_iloadn (pc := 7) (i := 1) (x := b) hK dd_X11_buyerOf_7 rfl rfl ?_
  refine g_callV (pc := 8) (As := [gI b]) hK ws_X_229 md_X0_has ⟨Nat.zero_le _, Nat.zero_le _⟩ ⟨by decide, by decide⟩ (kdm kd_21) rfl rfl dd_X11_buyerOf_8 rfl rfl (Nat.le_of_ble_eq_true rfl) (c_has_21 b h_b (show 0 ≤ M 21 5 ∧ M 21 5 ≤ 12 by omega) (fun c1 => g_r1 ?_) (fun c1 => g_r1 ?_))
  · refine g_if_ne (pc := 11) (tgt := 21) hK dd_X11_buyerOf_11 (by decide) (by decide) (fun _ => ?_) (fun c2 => absurd (by decide) c2)
    refine g_iloadn (pc := 21) (i := 2) (x := wh) hK dd_X11_buyerOf_21 rfl rfl ?_
    rcases (show (wh < 0 ∨ 4 < wh) ∨ wh = 0 ∨ wh = 1 ∨ wh = 2 ∨ wh = 3 ∨ wh = 4 by omega) with c3 | c3 | c3 | c3 | c3 | c3
    · refine g_tabOut (pc := 22) (tgt := 121) hK dd_X11_buyerOf_22 h_wh c3 (by decide) ?_
      refine g_aloadn (pc := 121) (i := 0) (x := 0) hK dd_X11_buyerOf_121 rfl rfl ?_
      refine g_bipush (pc := 122) (x := (-2)) hK dd_X11_buyerOf_122 (by decide) ?_
      refine g_callV (pc := 124) (As := [gI (-2)]) hK ws_X_63 md_X11_refuse ⟨Nat.zero_le _, Nat.zero_le _⟩ ⟨by decide, by decide⟩ (kdm kd_0) rfl rfl dd_X11_buyerOf_124 rfl rfl (Nat.le_of_ble_eq_true rfl) (c_refuse_0 hrf (g_r1 ?_))
      refine g_iret (pc := 127) hK hr hlocks dd_X11_buyerOf_127 rfl ?_
      first | exact g_fin (hB (by first | omega | (subst_vars; omega) | exact ⟨by first | assumption | omega | (subst_vars; first | assumption | omega), by first | assumption | omega | (subst_vars; first | assumption | omega)⟩)) (by first | rfl | omega | (subst_vars; first | rfl | omega)) (by first | rfl | (subst_vars; rfl)) | exact g_fin (h0 (by first | omega | (subst_vars; omega) | exact ⟨by first | assumption | omega | (subst_vars; first | assumption | omega), by first | assumption | omega | (subst_vars; first | assumption | omega)⟩)) (by first | rfl | omega | (subst_vars; first | rfl | omega)) (by first | rfl | (subst_vars; rfl)) | exact g_fin (h1 (by first | omega | (subst_vars; omega) | exact ⟨by first | assumption | omega | (subst_vars; first | assumption | omega), by first | assumption | omega | (subst_vars; first | assumption | omega)⟩)) (by first | rfl | omega | (subst_vars; first | rfl | omega)) (by first | rfl | (subst_vars; rfl)) | exact g_fin (h2 (by first | omega | (subst_vars; omega) | exact ⟨by first | assumption | omega | (subst_vars; first | assumption | omega), by first | assumption | omega | (subst_vars; first | assumption | omega)⟩)) (by first | rfl | omega | (subst_vars; first | rfl | omega)) (by first | rfl | (subst_vars; rfl)) | exact g_fin (h3 (by first | omega | (subst_vars; omega) | exact ⟨by first | assumption | omega | (subst_vars; first | assumption | omega), by first | assumption | omega | (subst_vars; first | assumption | omega)⟩)) (by first | rfl | omega | (subst_vars; first | rfl | omega)) (by first | rfl | (subst_vars; rfl)) | exact g_fin (h4 (by first | omega | (subst_vars; omega) | exact ⟨by first | assumption | omega | (subst_vars; first | assumption | omega), by first | assumption | omega | (subst_vars; first | assumption | omega)⟩)) (by first | rfl | omega | (subst_vars; first | rfl | omega)) (by first | rfl | (subst_vars; rfl)) | (exfalso; omega)
    · refine g_tabIn (pc := 22) (tgt := 56) hK dd_X11_buyerOf_22 h_wh (by omega) (by omega) (by rw [c3]; rfl) (by decide) ?_
      refine g_aloadn (pc := 56) (i := 0) (x := 0) hK dd_X11_buyerOf_56 rfl rfl ?_
      refine g_getv (pc := 57) (f := (1, 5)) (j := 3) (v := gR 5) hK (kdm kd_0) rfl ef_11 (by decide) rfl kk_385 dd_X11_buyerOf_57 rfl ?_
      refine g_getv (pc := 60) (f := (1, 16)) (j := 3) (v := gR 21) hK (kdm kd_5) rfl ef_1 (by decide) rfl kk_267 dd_X11_buyerOf_60 rfl ?_
      refine g_getv (pc := 63) (f := (1, 1)) (j := 0) (v := gR 22) hK (kdm kd_21) rfl ef_0 (by decide) rfl kk_161 dd_X11_buyerOf_63 rfl ?_
      refine g_iloadn (pc := 66) (i := 1) (x := b) hK dd_X11_buyerOf_66 rfl rfl ?_
      refine g_iald (pc := 67) hK (kdm kd_22) nl_22 (by decide) dd_X11_buyerOf_67 (by omega) (by omega) (fun x4 ex4 rx4 => ?_)
      refine g_iret (pc := 68) hK hr hlocks dd_X11_buyerOf_68 rfl ?_
      first | exact g_fin (hB (by first | omega | (subst_vars; omega) | exact ⟨by first | assumption | omega | (subst_vars; first | assumption | omega), by first | assumption | omega | (subst_vars; first | assumption | omega)⟩)) (by first | rfl | omega | (subst_vars; first | rfl | omega)) (by first | rfl | (subst_vars; rfl)) | exact g_fin (h0 (by first | omega | (subst_vars; omega) | exact ⟨by first | assumption | omega | (subst_vars; first | assumption | omega), by first | assumption | omega | (subst_vars; first | assumption | omega)⟩)) (by first | rfl | omega | (subst_vars; first | rfl | omega)) (by first | rfl | (subst_vars; rfl)) | exact g_fin (h1 (by first | omega | (subst_vars; omega) | exact ⟨by first | assumption | omega | (subst_vars; first | assumption | omega), by first | assumption | omega | (subst_vars; first | assumption | omega)⟩)) (by first | rfl | omega | (subst_vars; first | rfl | omega)) (by first | rfl | (subst_vars; rfl)) | exact g_fin (h2 (by first | omega | (subst_vars; omega) | exact ⟨by first | assumption | omega | (subst_vars; first | assumption | omega), by first | assumption | omega | (subst_vars; first | assumption | omega)⟩)) (by first | rfl | omega | (subst_vars; first | rfl | omega)) (by first | rfl | (subst_vars; rfl)) | exact g_fin (h3 (by first | omega | (subst_vars; omega) | exact ⟨by first | assumption | omega | (subst_vars; first | assumption | omega), by first | assumption | omega | (subst_vars; first | assumption | omega)⟩)) (by first | rfl | omega | (subst_vars; first | rfl | omega)) (by first | rfl | (subst_vars; rfl)) | exact g_fin (h4 (by first | omega | (subst_vars; omega) | exact ⟨by first | assumption | omega | (subst_vars; first | assumption | omega), by first | assumption | omega | (subst_vars; first | assumption | omega)⟩)) (by first | rfl | omega | (subst_vars; first | rfl | omega)) (by first | rfl | (subst_vars; rfl)) | (exfalso; omega)
    · refine g_tabIn (pc := 22) (tgt := 69) hK dd_X11_buyerOf_22 h_wh (by omega) (by omega) (by rw [c3]; rfl) (by decide) ?_
      refine g_aloadn (pc := 69) (i := 0) (x := 0) hK dd_X11_buyerOf_69 rfl rfl ?_
      refine g_getv (pc := 70) (f := (1, 5)) (j := 3) (v := gR 5) hK (kdm kd_0) rfl ef_11 (by decide) rfl kk_385 dd_X11_buyerOf_70 rfl ?_
      refine g_getv (pc := 73) (f := (1, 16)) (j := 3) (v := gR 21) hK (kdm kd_5) rfl ef_1 (by decide) rfl kk_267 dd_X11_buyerOf_73 rfl ?_
      refine g_getv (pc := 76) (f := (1, 2)) (j := 1) (v := gR 23) hK (kdm kd_21) rfl ef_0 (by decide) rfl kk_164 dd_X11_buyerOf_76 rfl ?_
      refine g_iloadn (pc := 79) (i := 1) (x := b) hK dd_X11_buyerOf_79 rfl rfl ?_
      refine g_iald (pc := 80) hK (kdm kd_23) nl_23 (by decide) dd_X11_buyerOf_80 (by omega) (by omega) (fun x5 ex5 rx5 => ?_)
      refine g_iret (pc := 81) hK hr hlocks dd_X11_buyerOf_81 rfl ?_
      first | exact g_fin (hB (by first | omega | (subst_vars; omega) | exact ⟨by first | assumption | omega | (subst_vars; first | assumption | omega), by first | assumption | omega | (subst_vars; first | assumption | omega)⟩)) (by first | rfl | omega | (subst_vars; first | rfl | omega)) (by first | rfl | (subst_vars; rfl)) | exact g_fin (h0 (by first | omega | (subst_vars; omega) | exact ⟨by first | assumption | omega | (subst_vars; first | assumption | omega), by first | assumption | omega | (subst_vars; first | assumption | omega)⟩)) (by first | rfl | omega | (subst_vars; first | rfl | omega)) (by first | rfl | (subst_vars; rfl)) | exact g_fin (h1 (by first | omega | (subst_vars; omega) | exact ⟨by first | assumption | omega | (subst_vars; first | assumption | omega), by first | assumption | omega | (subst_vars; first | assumption | omega)⟩)) (by first | rfl | omega | (subst_vars; first | rfl | omega)) (by first | rfl | (subst_vars; rfl)) | exact g_fin (h2 (by first | omega | (subst_vars; omega) | exact ⟨by first | assumption | omega | (subst_vars; first | assumption | omega), by first | assumption | omega | (subst_vars; first | assumption | omega)⟩)) (by first | rfl | omega | (subst_vars; first | rfl | omega)) (by first | rfl | (subst_vars; rfl)) | exact g_fin (h3 (by first | omega | (subst_vars; omega) | exact ⟨by first | assumption | omega | (subst_vars; first | assumption | omega), by first | assumption | omega | (subst_vars; first | assumption | omega)⟩)) (by first | rfl | omega | (subst_vars; first | rfl | omega)) (by first | rfl | (subst_vars; rfl)) | exact g_fin (h4 (by first | omega | (subst_vars; omega) | exact ⟨by first | assumption | omega | (subst_vars; first | assumption | omega), by first | assumption | omega | (subst_vars; first | assumption | omega)⟩)) (by first | rfl | omega | (subst_vars; first | rfl | omega)) (by first | rfl | (subst_vars; rfl)) | (exfalso; omega)
    · refine g_tabIn (pc := 22) (tgt := 82) hK dd_X11_buyerOf_22 h_wh (by omega) (by omega) (by rw [c3]; rfl) (by decide) ?_
      refine g_aloadn (pc := 82) (i := 0) (x := 0) hK dd_X11_buyerOf_82 rfl rfl ?_
      refine g_getv (pc := 83) (f := (1, 5)) (j := 3) (v := gR 5) hK (kdm kd_0) rfl ef_11 (by decide) rfl kk_385 dd_X11_buyerOf_83 rfl ?_
      refine g_getv (pc := 86) (f := (1, 16)) (j := 3) (v := gR 21) hK (kdm kd_5) rfl ef_1 (by decide) rfl kk_267 dd_X11_buyerOf_86 rfl ?_
      refine g_getv (pc := 89) (f := (1, 3)) (j := 2) (v := gR 24) hK (kdm kd_21) rfl ef_0 (by decide) rfl kk_167 dd_X11_buyerOf_89 rfl ?_
      refine g_iloadn (pc := 92) (i := 1) (x := b) hK dd_X11_buyerOf_92 rfl rfl ?_
      refine g_iald (pc := 93) hK (kdm kd_24) nl_24 (by decide) dd_X11_buyerOf_93 (by omega) (by omega) (fun x6 ex6 rx6 => ?_)
      refine g_iret (pc := 94) hK hr hlocks dd_X11_buyerOf_94 rfl ?_
      first | exact g_fin (hB (by first | omega | (subst_vars; omega) | exact ⟨by first | assumption | omega | (subst_vars; first | assumption | omega), by first | assumption | omega | (subst_vars; first | assumption | omega)⟩)) (by first | rfl | omega | (subst_vars; first | rfl | omega)) (by first | rfl | (subst_vars; rfl)) | exact g_fin (h0 (by first | omega | (subst_vars; omega) | exact ⟨by first | assumption | omega | (subst_vars; first | assumption | omega), by first | assumption | omega | (subst_vars; first | assumption | omega)⟩)) (by first | rfl | omega | (subst_vars; first | rfl | omega)) (by first | rfl | (subst_vars; rfl)) | exact g_fin (h1 (by first | omega | (subst_vars; omega) | exact ⟨by first | assumption | omega | (subst_vars; first | assumption | omega), by first | assumption | omega | (subst_vars; first | assumption | omega)⟩)) (by first | rfl | omega | (subst_vars; first | rfl | omega)) (by first | rfl | (subst_vars; rfl)) | exact g_fin (h2 (by first | omega | (subst_vars; omega) | exact ⟨by first | assumption | omega | (subst_vars; first | assumption | omega), by first | assumption | omega | (subst_vars; first | assumption | omega)⟩)) (by first | rfl | omega | (subst_vars; first | rfl | omega)) (by first | rfl | (subst_vars; rfl)) | exact g_fin (h3 (by first | omega | (subst_vars; omega) | exact ⟨by first | assumption | omega | (subst_vars; first | assumption | omega), by first | assumption | omega | (subst_vars; first | assumption | omega)⟩)) (by first | rfl | omega | (subst_vars; first | rfl | omega)) (by first | rfl | (subst_vars; rfl)) | exact g_fin (h4 (by first | omega | (subst_vars; omega) | exact ⟨by first | assumption | omega | (subst_vars; first | assumption | omega), by first | assumption | omega | (subst_vars; first | assumption | omega)⟩)) (by first | rfl | omega | (subst_vars; first | rfl | omega)) (by first | rfl | (subst_vars; rfl)) | (exfalso; omega)
    · refine g_tabIn (pc := 22) (tgt := 95) hK dd_X11_buyerOf_22 h_wh (by omega) (by omega) (by rw [c3]; rfl) (by decide) ?_
      refine g_aloadn (pc := 95) (i := 0) (x := 0) hK dd_X11_buyerOf_95 rfl rfl ?_
      refine g_getv (pc := 96) (f := (1, 5)) (j := 3) (v := gR 5) hK (kdm kd_0) rfl ef_11 (by decide) rfl kk_385 dd_X11_buyerOf_96 rfl ?_
      refine g_getv (pc := 99) (f := (1, 16)) (j := 3) (v := gR 21) hK (kdm kd_5) rfl ef_1 (by decide) rfl kk_267 dd_X11_buyerOf_99 rfl ?_
      refine g_getv (pc := 102) (f := (1, 4)) (j := 3) (v := gR 25) hK (kdm kd_21) rfl ef_0 (by decide) rfl kk_170 dd_X11_buyerOf_102 rfl ?_
      refine g_iloadn (pc := 105) (i := 1) (x := b) hK dd_X11_buyerOf_105 rfl rfl ?_
      refine g_iald (pc := 106) hK (kdm kd_25) nl_25 (by decide) dd_X11_buyerOf_106 (by omega) (by omega) (fun x7 ex7 rx7 => ?_)
      refine g_iret (pc := 107) hK hr hlocks dd_X11_buyerOf_107 rfl ?_
      first | exact g_fin (hB (by first | omega | (subst_vars; omega) | exact ⟨by first | assumption | omega | (subst_vars; first | assumption | omega), by first | assumption | omega | (subst_vars; first | assumption | omega)⟩)) (by first | rfl | omega | (subst_vars; first | rfl | omega)) (by first | rfl | (subst_vars; rfl)) | exact g_fin (h0 (by first | omega | (subst_vars; omega) | exact ⟨by first | assumption | omega | (subst_vars; first | assumption | omega), by first | assumption | omega | (subst_vars; first | assumption | omega)⟩)) (by first | rfl | omega | (subst_vars; first | rfl | omega)) (by first | rfl | (subst_vars; rfl)) | exact g_fin (h1 (by first | omega | (subst_vars; omega) | exact ⟨by first | assumption | omega | (subst_vars; first | assumption | omega), by first | assumption | omega | (subst_vars; first | assumption | omega)⟩)) (by first | rfl | omega | (subst_vars; first | rfl | omega)) (by first | rfl | (subst_vars; rfl)) | exact g_fin (h2 (by first | omega | (subst_vars; omega) | exact ⟨by first | assumption | omega | (subst_vars; first | assumption | omega), by first | assumption | omega | (subst_vars; first | assumption | omega)⟩)) (by first | rfl | omega | (subst_vars; first | rfl | omega)) (by first | rfl | (subst_vars; rfl)) | exact g_fin (h3 (by first | omega | (subst_vars; omega) | exact ⟨by first | assumption | omega | (subst_vars; first | assumption | omega), by first | assumption | omega | (subst_vars; first | assumption | omega)⟩)) (by first | rfl | omega | (subst_vars; first | rfl | omega)) (by first | rfl | (subst_vars; rfl)) | exact g_fin (h4 (by first | omega | (subst_vars; omega) | exact ⟨by first | assumption | omega | (subst_vars; first | assumption | omega), by first | assumption | omega | (subst_vars; first | assumption | omega)⟩)) (by first | rfl | omega | (subst_vars; first | rfl | omega)) (by first | rfl | (subst_vars; rfl)) | (exfalso; omega)
    · refine g_tabIn (pc := 22) (tgt := 108) hK dd_X11_buyerOf_22 h_wh (by omega) (by omega) (by rw [c3]; rfl) (by decide) ?_
      refine g_aloadn (pc := 108) (i := 0) (x := 0) hK dd_X11_buyerOf_108 rfl rfl ?_
      refine g_getv (pc := 109) (f := (1, 5)) (j := 3) (v := gR 5) hK (kdm kd_0) rfl ef_11 (by decide) rfl kk_385 dd_X11_buyerOf_109 rfl ?_
      refine g_getv (pc := 112) (f := (1, 16)) (j := 3) (v := gR 21) hK (kdm kd_5) rfl ef_1 (by decide) rfl kk_267 dd_X11_buyerOf_112 rfl ?_
      refine g_getv (pc := 115) (f := (1, 5)) (j := 4) (v := gR 26) hK (kdm kd_21) rfl ef_0 (by decide) rfl kk_173 dd_X11_buyerOf_115 rfl ?_
      refine g_iloadn (pc := 118) (i := 1) (x := b) hK dd_X11_buyerOf_118 rfl rfl ?_
      refine g_iald (pc := 119) hK (kdm kd_26) nl_26 (by decide) dd_X11_buyerOf_119 (by omega) (by omega) (fun x8 ex8 rx8 => ?_)
      refine g_iret (pc := 120) hK hr hlocks dd_X11_buyerOf_120 rfl ?_
      first | exact g_fin (hB (by first | omega | (subst_vars; omega) | exact ⟨by first | assumption | omega | (subst_vars; first | assumption | omega), by first | assumption | omega | (subst_vars; first | assumption | omega)⟩)) (by first | rfl | omega | (subst_vars; first | rfl | omega)) (by first | rfl | (subst_vars; rfl)) | exact g_fin (h0 (by first | omega | (subst_vars; omega) | exact ⟨by first | assumption | omega | (subst_vars; first | assumption | omega), by first | assumption | omega | (subst_vars; first | assumption | omega)⟩)) (by first | rfl | omega | (subst_vars; first | rfl | omega)) (by first | rfl | (subst_vars; rfl)) | exact g_fin (h1 (by first | omega | (subst_vars; omega) | exact ⟨by first | assumption | omega | (subst_vars; first | assumption | omega), by first | assumption | omega | (subst_vars; first | assumption | omega)⟩)) (by first | rfl | omega | (subst_vars; first | rfl | omega)) (by first | rfl | (subst_vars; rfl)) | exact g_fin (h2 (by first | omega | (subst_vars; omega) | exact ⟨by first | assumption | omega | (subst_vars; first | assumption | omega), by first | assumption | omega | (subst_vars; first | assumption | omega)⟩)) (by first | rfl | omega | (subst_vars; first | rfl | omega)) (by first | rfl | (subst_vars; rfl)) | exact g_fin (h3 (by first | omega | (subst_vars; omega) | exact ⟨by first | assumption | omega | (subst_vars; first | assumption | omega), by first | assumption | omega | (subst_vars; first | assumption | omega)⟩)) (by first | rfl | omega | (subst_vars; first | rfl | omega)) (by first | rfl | (subst_vars; rfl)) | exact g_fin (h4 (by first | omega | (subst_vars; omega) | exact ⟨by first | assumption | omega | (subst_vars; first | assumption | omega), by first | assumption | omega | (subst_vars; first | assumption | omega)⟩)) (by first | rfl | omega | (subst_vars; first | rfl | omega)) (by first | rfl | (subst_vars; rfl)) | (exfalso; omega)
  · refine g_if_ne (pc := 11) (tgt := 21) hK dd_X11_buyerOf_11 (by decide) (by decide) (fun c9 => absurd c9 (by decide)) (fun _ => ?_)
    refine g_aloadn (pc := 14) (i := 0) (x := 0) hK dd_X11_buyerOf_14 rfl rfl ?_
    refine g_bipush (pc := 15) (x := (-2)) hK dd_X11_buyerOf_15 (by decide) ?_
    refine g_callV (pc := 17) (As := [gI (-2)]) hK ws_X_63 md_X11_refuse ⟨Nat.zero_le _, Nat.zero_le _⟩ ⟨by decide, by decide⟩ (kdm kd_0) rfl rfl dd_X11_buyerOf_17 rfl rfl (Nat.le_of_ble_eq_true rfl) (c_refuse_0 hrf (g_r1 ?_))
    refine g_iret (pc := 20) hK hr hlocks dd_X11_buyerOf_20 rfl ?_
    first | exact g_fin (hB (by first | omega | (subst_vars; omega) | exact ⟨by first | assumption | omega | (subst_vars; first | assumption | omega), by first | assumption | omega | (subst_vars; first | assumption | omega)⟩)) (by first | rfl | omega | (subst_vars; first | rfl | omega)) (by first | rfl | (subst_vars; rfl)) | exact g_fin (h0 (by first | omega | (subst_vars; omega) | exact ⟨by first | assumption | omega | (subst_vars; first | assumption | omega), by first | assumption | omega | (subst_vars; first | assumption | omega)⟩)) (by first | rfl | omega | (subst_vars; first | rfl | omega)) (by first | rfl | (subst_vars; rfl)) | exact g_fin (h1 (by first | omega | (subst_vars; omega) | exact ⟨by first | assumption | omega | (subst_vars; first | assumption | omega), by first | assumption | omega | (subst_vars; first | assumption | omega)⟩)) (by first | rfl | omega | (subst_vars; first | rfl | omega)) (by first | rfl | (subst_vars; rfl)) | exact g_fin (h2 (by first | omega | (subst_vars; omega) | exact ⟨by first | assumption | omega | (subst_vars; first | assumption | omega), by first | assumption | omega | (subst_vars; first | assumption | omega)⟩)) (by first | rfl | omega | (subst_vars; first | rfl | omega)) (by first | rfl | (subst_vars; rfl)) | exact g_fin (h3 (by first | omega | (subst_vars; omega) | exact ⟨by first | assumption | omega | (subst_vars; first | assumption | omega), by first | assumption | omega | (subst_vars; first | assumption | omega)⟩)) (by first | rfl | omega | (subst_vars; first | rfl | omega)) (by first | rfl | (subst_vars; rfl)) | exact g_fin (h4 (by first | omega | (subst_vars; omega) | exact ⟨by first | assumption | omega | (subst_vars; first | assumption | omega), by first | assumption | omega | (subst_vars; first | assumption | omega)⟩)) (by first | rfl | omega | (subst_vars; first | rfl | omega)) (by first | rfl | (subst_vars; rfl)) | (exfalso; omega)
set_option maxHeartbeats 4000000 in
set_option maxRecDepth 100000 in
theorem x_turn {l : Launch} {M : Mem} {Pq : Option gV → Mem → Prop} (wh : Int) (ho : Int) (h_wh : inI wh) (h_ho : inI ho) (hrf : rfOK M) (hB : (¬ ((0 ≤ wh ∧ wh ≤ 1) ∧ 0 ≤ ho ∧ ho ≤ 12)) → Pq (some (gI (-2))) (rf M 0)) (h0 : (wh = 0 ∧ 0 ≤ ho ∧ ho ≤ 12) → Pq (some (gI (M 5 8))) (up M 5 8 ho)) (h1 : (wh = 1 ∧ 0 ≤ ho ∧ ho ≤ 12) → Pq (some (gI (M 5 9))) (up M 5 9 ho)) : gCtr l my_X11_turn mb_X11_turn 4 ((some .int)) 3 [gR 0, gI wh, gI ho] M Pq := by
  refine g_intro (by decide) (Nat.le_of_ble_eq_true rfl) ?_
  intro p e s m args below meth c D cy q A hK hr hlocks hw
  refine g_sub (L' := [(0, gR 0), (1, gI wh), (2, gI ho)]) [0, 1, 2] rfl ?_
  refine g_iloadn (pc := 0) (i := 1) (x := wh) hK dd_X11_turn_0 rfl rfl ?_
  refine g_iconst (pc := 1) (x := 0) hK dd_X11_turn_1 (by decide) ?_
  refine g_iconst (pc := 2) (x := 1) hK dd_X11_turn_2 (by decide) ?_
  refine g_callT (pc := 3) (As := [gI wh, gI 0, gI 1]) hK ws_X_59 md_X11_within ⟨Nat.zero_le _, Nat.zero_le _⟩ ⟨by decide, by decide⟩ dd_X11_turn_3 rfl rfl (Nat.le_of_ble_eq_true rfl) (c_within wh 0 1 h_wh (by decide) (by decide) (fun c1 => g_r1 ?_) (fun c1 => g_r1 ?_))
  · refine g_if_eq (pc := 6) (tgt := 19) hK dd_X11_turn_6 (by decide) (by decide) (fun c2 => absurd c2 (by decide)) (fun _ => ?_)
    refine g_iloadn (pc := 9) (i := 2) (x := ho) hK dd_X11_turn_9 rfl rfl ?_
    refine g_iconst (pc := 10) (x := 0) hK dd_X11_turn_10 (by decide) ?_
    refine g_bipush (pc := 11) (x := 12) hK dd_X11_turn_11 (by decide) ?_
    refine g_callT (pc := 13) (As := [gI ho, gI 0, gI 12]) hK ws_X_59 md_X11_within ⟨Nat.zero_le _, Nat.zero_le _⟩ ⟨by decide, by decide⟩ dd_X11_turn_13 rfl rfl (Nat.le_of_ble_eq_true rfl) (c_within ho 0 12 h_ho (by decide) (by decide) (fun c3 => g_r1 ?_) (fun c3 => g_r1 ?_))
    · refine g_if_ne (pc := 16) (tgt := 26) hK dd_X11_turn_16 (by decide) (by decide) (fun _ => ?_) (fun c4 => absurd (by decide) c4)
      refine g_iloadn (pc := 26) (i := 1) (x := wh) hK dd_X11_turn_26 rfl rfl ?_
      refine g_if_ne (pc := 27) (tgt := 40) hK dd_X11_turn_27 (by decide) h_wh (fun c5 => ?_) (fun c5 => ?_)
      · refine g_aloadn (pc := 40) (i := 0) (x := 0) hK dd_X11_turn_40 rfl rfl ?_
        refine g_getv (pc := 41) (f := (1, 5)) (j := 3) (v := gR 5) hK (kdm kd_0) rfl ef_11 (by decide) rfl kk_385 dd_X11_turn_41 rfl ?_
        refine g_geti (pc := 44) (f := (0, 0)) (j := 9) hK (kdm kd_5) rfl ef_1 (by decide) rfl kk_279 nl_5 dd_X11_turn_44 rfl (fun x6 ex6 rx6 => ?_)
        refine g_istoren (pc := 47) (i := 3) (L' := [(0, gR 0), (1, gI wh), (2, gI ho), (3, gI x6)]) hK dd_X11_turn_47 rfl (by decide) rfl ?_
        refine g_iloadn (pc := 48) (i := 1) (x := wh) hK dd_X11_turn_48 rfl rfl ?_
        refine g_if_ne (pc := 49) (tgt := 63) hK dd_X11_turn_49 (by decide) h_wh (fun c7 => ?_) (fun c7 => ?_)
        · refine g_aloadn (pc := 63) (i := 0) (x := 0) hK dd_X11_turn_63 rfl rfl ?_
          refine g_getv (pc := 64) (f := (1, 5)) (j := 3) (v := gR 5) hK (kdm kd_0) rfl ef_11 (by decide) rfl kk_385 dd_X11_turn_64 rfl ?_
          refine g_iloadn (pc := 67) (i := 2) (x := ho) hK dd_X11_turn_67 rfl rfl ?_
          refine g_puti (pc := 68) (f := (0, 0)) (j := 9) (ty := .int) hK (kdm kd_5) rfl ef_1 (by decide) rfl kk_279 nl_5 (by decide) dd_X11_turn_68 rfl rfl rfl rfl rfl h_ho ?_
          refine g_iloadn (pc := 71) (i := 3) (x := x6) hK dd_X11_turn_71 rfl rfl ?_
          refine g_iret (pc := 72) hK hr hlocks dd_X11_turn_72 rfl ?_
          first | exact g_fin (hB (by first | omega | (subst_vars; omega) | exact ⟨by first | assumption | omega | (subst_vars; first | assumption | omega), by first | assumption | omega | (subst_vars; first | assumption | omega)⟩)) (by first | rfl | omega | (subst_vars; first | rfl | omega)) (by first | rfl | (subst_vars; rfl)) | exact g_fin (h0 (by first | omega | (subst_vars; omega) | exact ⟨by first | assumption | omega | (subst_vars; first | assumption | omega), by first | assumption | omega | (subst_vars; first | assumption | omega)⟩)) (by first | rfl | omega | (subst_vars; first | rfl | omega)) (by first | rfl | (subst_vars; rfl)) | exact g_fin (h1 (by first | omega | (subst_vars; omega) | exact ⟨by first | assumption | omega | (subst_vars; first | assumption | omega), by first | assumption | omega | (subst_vars; first | assumption | omega)⟩)) (by first | rfl | omega | (subst_vars; first | rfl | omega)) (by first | rfl | (subst_vars; rfl)) | (exfalso; omega)
        · refine g_aloadn (pc := 52) (i := 0) (x := 0) hK dd_X11_turn_52 rfl rfl ?_
          refine g_getv (pc := 53) (f := (1, 5)) (j := 3) (v := gR 5) hK (kdm kd_0) rfl ef_11 (by decide) rfl kk_385 dd_X11_turn_53 rfl ?_
          refine g_iloadn (pc := 56) (i := 2) (x := ho) hK dd_X11_turn_56 rfl rfl ?_
          refine g_puti (pc := 57) (f := (0, 0)) (j := 8) (ty := .int) hK (kdm kd_5) rfl ef_1 (by decide) rfl kk_277 nl_5 (by decide) dd_X11_turn_57 rfl rfl rfl rfl rfl h_ho ?_
          refine g_goto (pc := 60) (tgt := 71) hK dd_X11_turn_60 (by decide) ?_
          refine g_iloadn (pc := 71) (i := 3) (x := x6) hK dd_X11_turn_71 rfl rfl ?_
          refine g_iret (pc := 72) hK hr hlocks dd_X11_turn_72 rfl ?_
          first | exact g_fin (hB (by first | omega | (subst_vars; omega) | exact ⟨by first | assumption | omega | (subst_vars; first | assumption | omega), by first | assumption | omega | (subst_vars; first | assumption | omega)⟩)) (by first | rfl | omega | (subst_vars; first | rfl | omega)) (by first | rfl | (subst_vars; rfl)) | exact g_fin (h0 (by first | omega | (subst_vars; omega) | exact ⟨by first | assumption | omega | (subst_vars; first | assumption | omega), by first | assumption | omega | (subst_vars; first | assumption | omega)⟩)) (by first | rfl | omega | (subst_vars; first | rfl | omega)) (by first | rfl | (subst_vars; rfl)) | exact g_fin (h1 (by first | omega | (subst_vars; omega) | exact ⟨by first | assumption | omega | (subst_vars; first | assumption | omega), by first | assumption | omega | (subst_vars; first | assumption | omega)⟩)) (by first | rfl | omega | (subst_vars; first | rfl | omega)) (by first | rfl | (subst_vars; rfl)) | (exfalso; omega)
      · refine g_aloadn (pc := 30) (i := 0) (x := 0) hK dd_X11_turn_30 rfl rfl ?_
        refine g_getv (pc := 31) (f := (1, 5)) (j := 3) (v := gR 5) hK (kdm kd_0) rfl ef_11 (by decide) rfl kk_385 dd_X11_turn_31 rfl ?_
        refine g_geti (pc := 34) (f := (0, 0)) (j := 8) hK (kdm kd_5) rfl ef_1 (by decide) rfl kk_277 nl_5 dd_X11_turn_34 rfl (fun x8 ex8 rx8 => ?_)
        refine g_goto (pc := 37) (tgt := 47) hK dd_X11_turn_37 (by decide) ?_
        refine g_istoren (pc := 47) (i := 3) (L' := [(0, gR 0), (1, gI wh), (2, gI ho), (3, gI x8)]) hK dd_X11_turn_47 rfl (by decide) rfl ?_
        refine g_iloadn (pc := 48) (i := 1) (x := wh) hK dd_X11_turn_48 rfl rfl ?_
        refine g_if_ne (pc := 49) (tgt := 63) hK dd_X11_turn_49 (by decide) h_wh (fun c9 => absurd c9 (by omega)) (fun c9 => ?_)
        refine g_aloadn (pc := 52) (i := 0) (x := 0) hK dd_X11_turn_52 rfl rfl ?_
        refine g_getv (pc := 53) (f := (1, 5)) (j := 3) (v := gR 5) hK (kdm kd_0) rfl ef_11 (by decide) rfl kk_385 dd_X11_turn_53 rfl ?_
        refine g_iloadn (pc := 56) (i := 2) (x := ho) hK dd_X11_turn_56 rfl rfl ?_
        refine g_puti (pc := 57) (f := (0, 0)) (j := 8) (ty := .int) hK (kdm kd_5) rfl ef_1 (by decide) rfl kk_277 nl_5 (by decide) dd_X11_turn_57 rfl rfl rfl rfl rfl h_ho ?_
        refine g_goto (pc := 60) (tgt := 71) hK dd_X11_turn_60 (by decide) ?_
        refine g_iloadn (pc := 71) (i := 3) (x := x8) hK dd_X11_turn_71 rfl rfl ?_
        refine g_iret (pc := 72) hK hr hlocks dd_X11_turn_72 rfl ?_
        first | exact g_fin (hB (by first | omega | (subst_vars; omega) | exact ⟨by first | assumption | omega | (subst_vars; first | assumption | omega), by first | assumption | omega | (subst_vars; first | assumption | omega)⟩)) (by first | rfl | omega | (subst_vars; first | rfl | omega)) (by first | rfl | (subst_vars; rfl)) | exact g_fin (h0 (by first | omega | (subst_vars; omega) | exact ⟨by first | assumption | omega | (subst_vars; first | assumption | omega), by first | assumption | omega | (subst_vars; first | assumption | omega)⟩)) (by first | rfl | omega | (subst_vars; first | rfl | omega)) (by first | rfl | (subst_vars; rfl)) | exact g_fin (h1 (by first | omega | (subst_vars; omega) | exact ⟨by first | assumption | omega | (subst_vars; first | assumption | omega), by first | assumption | omega | (subst_vars; first | assumption | omega)⟩)) (by first | rfl | omega | (subst_vars; first | rfl | omega)) (by first | rfl | (subst_vars; rfl)) | (exfalso; omega)
    · refine g_if_ne (pc := 16) (tgt := 26) hK dd_X11_turn_16 (by decide) (by decide) (fun c10 => absurd c10 (by decide)) (fun _ => ?_)
      refine g_aloadn (pc := 19) (i := 0) (x := 0) hK dd_X11_turn_19 rfl rfl ?_
      refine g_bipush (pc := 20) (x := (-2)) hK dd_X11_turn_20 (by decide) ?_
      refine g_callV (pc := 22) (As := [gI (-2)]) hK ws_X_63 md_X11_refuse ⟨Nat.zero_le _, Nat.zero_le _⟩ ⟨by decide, by decide⟩ (kdm kd_0) rfl rfl dd_X11_turn_22 rfl rfl (Nat.le_of_ble_eq_true rfl) (c_refuse_0 hrf (g_r1 ?_))
      refine g_iret (pc := 25) hK hr hlocks dd_X11_turn_25 rfl ?_
      first | exact g_fin (hB (by first | omega | (subst_vars; omega) | exact ⟨by first | assumption | omega | (subst_vars; first | assumption | omega), by first | assumption | omega | (subst_vars; first | assumption | omega)⟩)) (by first | rfl | omega | (subst_vars; first | rfl | omega)) (by first | rfl | (subst_vars; rfl)) | exact g_fin (h0 (by first | omega | (subst_vars; omega) | exact ⟨by first | assumption | omega | (subst_vars; first | assumption | omega), by first | assumption | omega | (subst_vars; first | assumption | omega)⟩)) (by first | rfl | omega | (subst_vars; first | rfl | omega)) (by first | rfl | (subst_vars; rfl)) | exact g_fin (h1 (by first | omega | (subst_vars; omega) | exact ⟨by first | assumption | omega | (subst_vars; first | assumption | omega), by first | assumption | omega | (subst_vars; first | assumption | omega)⟩)) (by first | rfl | omega | (subst_vars; first | rfl | omega)) (by first | rfl | (subst_vars; rfl)) | (exfalso; omega)
  · refine g_if_eq (pc := 6) (tgt := 19) hK dd_X11_turn_6 (by decide) (by decide) (fun _ => ?_) (fun c11 => absurd (by decide) c11)
    refine g_aloadn (pc := 19) (i := 0) (x := 0) hK dd_X11_turn_19 rfl rfl ?_
    refine g_bipush (pc := 20) (x := (-2)) hK dd_X11_turn_20 (by decide) ?_
    refine g_callV (pc := 22) (As := [gI (-2)]) hK ws_X_63 md_X11_refuse ⟨Nat.zero_le _, Nat.zero_le _⟩ ⟨by decide, by decide⟩ (kdm kd_0) rfl rfl dd_X11_turn_22 rfl rfl (Nat.le_of_ble_eq_true rfl) (c_refuse_0 hrf (g_r1 ?_))
    refine g_iret (pc := 25) hK hr hlocks dd_X11_turn_25 rfl ?_
    first | exact g_fin (hB (by first | omega | (subst_vars; omega) | exact ⟨by first | assumption | omega | (subst_vars; first | assumption | omega), by first | assumption | omega | (subst_vars; first | assumption | omega)⟩)) (by first | rfl | omega | (subst_vars; first | rfl | omega)) (by first | rfl | (subst_vars; rfl)) | exact g_fin (h0 (by first | omega | (subst_vars; omega) | exact ⟨by first | assumption | omega | (subst_vars; first | assumption | omega), by first | assumption | omega | (subst_vars; first | assumption | omega)⟩)) (by first | rfl | omega | (subst_vars; first | rfl | omega)) (by first | rfl | (subst_vars; rfl)) | exact g_fin (h1 (by first | omega | (subst_vars; omega) | exact ⟨by first | assumption | omega | (subst_vars; first | assumption | omega), by first | assumption | omega | (subst_vars; first | assumption | omega)⟩)) (by first | rfl | omega | (subst_vars; first | rfl | omega)) (by first | rfl | (subst_vars; rfl)) | (exfalso; omega)
set_option maxHeartbeats 4000000 in
set_option maxRecDepth 100000 in
theorem x_morning {l : Launch} {M : Mem} {Pq : Option gV → Mem → Prop}  (hY : Pq (some (gI (M 5 10))) (up (up M 5 10 0) 5 11 0)) : gCtr l my_X11_morning mb_X11_morning 2 ((some .int)) 1 [gR 0] M Pq := by
  refine g_intro (by decide) (Nat.le_of_ble_eq_true rfl) ?_
  intro p e s m args below meth c D cy q A hK hr hlocks hw
  refine g_sub (L' := [(0, gR 0)]) [0] rfl ?_
  refine g_aloadn (pc := 0) (i := 0) (x := 0) hK dd_X11_morning_0 rfl rfl ?_
  refine g_getv (pc := 1) (f := (1, 5)) (j := 3) (v := gR 5) hK (kdm kd_0) rfl ef_11 (by decide) rfl kk_385 dd_X11_morning_1 rfl ?_
  refine g_geti (pc := 4) (f := (0, 0)) (j := 10) hK (kdm kd_5) rfl ef_1 (by decide) rfl kk_281 nl_5 dd_X11_morning_4 rfl (fun x1 ex1 rx1 => ?_)
  refine g_istoren (pc := 7) (i := 1) (L' := [(0, gR 0), (1, gI x1)]) hK dd_X11_morning_7 rfl (by decide) rfl ?_
  refine g_aloadn (pc := 8) (i := 0) (x := 0) hK dd_X11_morning_8 rfl rfl ?_
  refine g_getv (pc := 9) (f := (1, 5)) (j := 3) (v := gR 5) hK (kdm kd_0) rfl ef_11 (by decide) rfl kk_385 dd_X11_morning_9 rfl ?_
  refine g_iconst (pc := 12) (x := 0) hK dd_X11_morning_12 (by decide) ?_
  refine g_puti (pc := 13) (f := (0, 0)) (j := 10) (ty := .int) hK (kdm kd_5) rfl ef_1 (by decide) rfl kk_281 nl_5 (by decide) dd_X11_morning_13 rfl rfl rfl rfl rfl (by decide) ?_
  refine g_aloadn (pc := 16) (i := 0) (x := 0) hK dd_X11_morning_16 rfl rfl ?_
  refine g_getv (pc := 17) (f := (1, 5)) (j := 3) (v := gR 5) hK (kdm kd_0) rfl ef_11 (by decide) rfl kk_385 dd_X11_morning_17 rfl ?_
  refine g_iconst (pc := 20) (x := 0) hK dd_X11_morning_20 (by decide) ?_
  refine g_puti (pc := 21) (f := (0, 0)) (j := 11) (ty := .int) hK (kdm kd_5) rfl ef_1 (by decide) rfl kk_283 nl_5 (by decide) dd_X11_morning_21 rfl rfl rfl rfl rfl (by decide) ?_
  refine g_iloadn (pc := 24) (i := 1) (x := x1) hK dd_X11_morning_24 rfl rfl ?_
  refine g_iret (pc := 25) hK hr hlocks dd_X11_morning_25 rfl ?_
  first | exact g_fin (hY) (by first | rfl | omega | (subst_vars; first | rfl | omega)) (by first | rfl | (subst_vars; rfl)) | (exfalso; omega)
set_option maxHeartbeats 4000000 in
set_option maxRecDepth 100000 in
theorem x_table {l : Launch} {M : Mem} {Pq : Option gV → Mem → Prop} (ks : Int) (h_ks : inI ks) (hrf : rfOK M) (htc : 0 ≤ M 5 7 ∧ M 5 7 ≤ 5) (hB : (¬ (0 ≤ ks ∧ ks ≤ 63)) → Pq (some (gI (-2))) (rf M 0)) (hF : ((0 ≤ ks ∧ ks ≤ 63) ∧ 5 ≤ M 5 7) → Pq (some (gI (-6))) (rf M 4)) (hY : ((0 ≤ ks ∧ ks ≤ 63) ∧ ¬ 5 ≤ M 5 7) → Pq (some (gI (M 5 7))) (up (up M 43 (M 5 7).toNat ks) 5 7 (M 5 7 + 1))) : gCtr l my_X11_table mb_X11_table 2 ((some .int)) 3 [gR 0, gI ks] M Pq := by
  refine g_intro (by decide) (Nat.le_of_ble_eq_true rfl) ?_
  intro p e s m args below meth c D cy q A hK hr hlocks hw
  refine g_sub (L' := [(0, gR 0), (1, gI ks)]) [0, 1] rfl ?_
  refine g_iloadn (pc := 0) (i := 1) (x := ks) hK dd_X11_table_0 rfl rfl ?_
  refine g_callT (pc := 1) (As := [gI ks]) hK ws_X_165 md_X11_isKinds ⟨Nat.zero_le _, Nat.zero_le _⟩ ⟨by decide, by decide⟩ dd_X11_table_1 rfl rfl (Nat.le_of_ble_eq_true rfl) (c_isKinds ks h_ks (fun c1 => g_r1 ?_) (fun c1 => g_r1 ?_))
  · refine g_if_ne (pc := 4) (tgt := 14) hK dd_X11_table_4 (by decide) (by decide) (fun _ => ?_) (fun c2 => absurd (by decide) c2)
    refine g_aloadn (pc := 14) (i := 0) (x := 0) hK dd_X11_table_14 rfl rfl ?_
    refine g_getv (pc := 15) (f := (1, 5)) (j := 3) (v := gR 5) hK (kdm kd_0) rfl ef_11 (by decide) rfl kk_385 dd_X11_table_15 rfl ?_
    refine g_geti (pc := 18) (f := (0, 0)) (j := 7) hK (kdm kd_5) rfl ef_1 (by decide) rfl kk_275 nl_5 dd_X11_table_18 rfl (fun x3 ex3 rx3 => ?_)
    refine g_iconst (pc := 21) (x := 5) hK dd_X11_table_21 (by decide) ?_
    refine g_icmp_lt (pc := 22) (tgt := 32) hK dd_X11_table_22 (by decide) rx3 (by decide) (fun c4 => ?_) (fun c4 => ?_)
    · refine g_aloadn (pc := 32) (i := 0) (x := 0) hK dd_X11_table_32 rfl rfl ?_
      refine g_getv (pc := 33) (f := (1, 5)) (j := 3) (v := gR 5) hK (kdm kd_0) rfl ef_11 (by decide) rfl kk_385 dd_X11_table_33 rfl ?_
      refine g_getv (pc := 36) (f := (1, 38)) (j := 6) (v := gR 43) hK (kdm kd_5) rfl ef_1 (by decide) rfl kk_273 dd_X11_table_36 rfl ?_
      refine g_aloadn (pc := 39) (i := 0) (x := 0) hK dd_X11_table_39 rfl rfl ?_
      refine g_getv (pc := 40) (f := (1, 5)) (j := 3) (v := gR 5) hK (kdm kd_0) rfl ef_11 (by decide) rfl kk_385 dd_X11_table_40 rfl ?_
      refine g_geti (pc := 43) (f := (0, 0)) (j := 7) hK (kdm kd_5) rfl ef_1 (by decide) rfl kk_275 nl_5 dd_X11_table_43 rfl (fun x5 ex5 rx5 => ?_)
      refine g_iloadn (pc := 46) (i := 1) (x := ks) hK dd_X11_table_46 rfl rfl ?_
      refine g_iast (pc := 47) hK (kdm kd_43) nl_43 (by decide) (by decide) dd_X11_table_47 (by omega) (by omega) h_ks ?_
      refine g_aloadn (pc := 48) (i := 0) (x := 0) hK dd_X11_table_48 rfl rfl ?_
      refine g_getv (pc := 49) (f := (1, 5)) (j := 3) (v := gR 5) hK (kdm kd_0) rfl ef_11 (by decide) rfl kk_385 dd_X11_table_49 rfl ?_
      refine g_dup (pc := 52) hK dd_X11_table_52 rfl ?_
      refine g_geti (pc := 53) (f := (0, 0)) (j := 7) hK (kdm kd_5) rfl ef_1 (by decide) rfl kk_275 nl_5 dd_X11_table_53 rfl (fun x6 ex6 rx6 => ?_)
      replace ex6 : x6 = M 5 7 := ex6
      refine g_iconst (pc := 56) (x := 1) hK dd_X11_table_56 (by decide) ?_
      refine g_iadd (pc := 57) (z := x6 + 1) hK dd_X11_table_57 rfl ?_
      refine g_puti (pc := 58) (f := (0, 0)) (j := 7) (ty := .int) hK (kdm kd_5) rfl ef_1 (by decide) rfl kk_275 nl_5 (by decide) dd_X11_table_58 rfl rfl rfl rfl rfl ⟨by omega, by omega⟩ ?_
      refine g_aloadn (pc := 61) (i := 0) (x := 0) hK dd_X11_table_61 rfl rfl ?_
      refine g_getv (pc := 62) (f := (1, 5)) (j := 3) (v := gR 5) hK (kdm kd_0) rfl ef_11 (by decide) rfl kk_385 dd_X11_table_62 rfl ?_
      refine g_geti (pc := 65) (f := (0, 0)) (j := 7) hK (kdm kd_5) rfl ef_1 (by decide) rfl kk_275 nl_5 dd_X11_table_65 rfl (fun x7 ex7 rx7 => ?_)
      replace ex7 : x7 = x6 + 1 := by first | exact ex7 | (rw [ex7]; simp [up, us, cp, sr])
      refine g_iconst (pc := 68) (x := 1) hK dd_X11_table_68 (by decide) ?_
      refine g_isub (pc := 69) (z := x7 - 1) hK dd_X11_table_69 rfl ?_
      refine g_iret (pc := 70) hK hr hlocks dd_X11_table_70 rfl ?_
      first | exact g_fin (hB (by first | omega | (subst_vars; omega) | exact ⟨by first | assumption | omega | (subst_vars; first | assumption | omega), by first | assumption | omega | (subst_vars; first | assumption | omega)⟩)) (by first | rfl | omega | (subst_vars; first | rfl | omega)) (by first | rfl | (subst_vars; rfl)) | exact g_fin (hF (by first | omega | (subst_vars; omega) | exact ⟨by first | assumption | omega | (subst_vars; first | assumption | omega), by first | assumption | omega | (subst_vars; first | assumption | omega)⟩)) (by first | rfl | omega | (subst_vars; first | rfl | omega)) (by first | rfl | (subst_vars; rfl)) | exact g_fin (hY (by first | omega | (subst_vars; omega) | exact ⟨by first | assumption | omega | (subst_vars; first | assumption | omega), by first | assumption | omega | (subst_vars; first | assumption | omega)⟩)) (by first | rfl | omega | (subst_vars; first | rfl | omega)) (by first | rfl | (subst_vars; rfl)) | (exfalso; omega)
    · refine g_aloadn (pc := 25) (i := 0) (x := 0) hK dd_X11_table_25 rfl rfl ?_
      refine g_bipush (pc := 26) (x := (-6)) hK dd_X11_table_26 (by decide) ?_
      refine g_callV (pc := 28) (As := [gI (-6)]) hK ws_X_63 md_X11_refuse ⟨Nat.zero_le _, Nat.zero_le _⟩ ⟨by decide, by decide⟩ (kdm kd_0) rfl rfl dd_X11_table_28 rfl rfl (Nat.le_of_ble_eq_true rfl) (c_refuse_4 hrf (g_r1 ?_))
      refine g_iret (pc := 31) hK hr hlocks dd_X11_table_31 rfl ?_
      first | exact g_fin (hF (by first | omega | (subst_vars; omega) | exact ⟨by first | assumption | omega | (subst_vars; first | assumption | omega), by first | assumption | omega | (subst_vars; first | assumption | omega)⟩)) (by first | rfl | omega | (subst_vars; first | rfl | omega)) (by first | rfl | (subst_vars; rfl)) | exact g_fin (hY (by first | omega | (subst_vars; omega) | exact ⟨by first | assumption | omega | (subst_vars; first | assumption | omega), by first | assumption | omega | (subst_vars; first | assumption | omega)⟩)) (by first | rfl | omega | (subst_vars; first | rfl | omega)) (by first | rfl | (subst_vars; rfl)) | (exfalso; omega)
  · refine g_if_ne (pc := 4) (tgt := 14) hK dd_X11_table_4 (by decide) (by decide) (fun c8 => absurd c8 (by decide)) (fun _ => ?_)
    refine g_aloadn (pc := 7) (i := 0) (x := 0) hK dd_X11_table_7 rfl rfl ?_
    refine g_bipush (pc := 8) (x := (-2)) hK dd_X11_table_8 (by decide) ?_
    refine g_callV (pc := 10) (As := [gI (-2)]) hK ws_X_63 md_X11_refuse ⟨Nat.zero_le _, Nat.zero_le _⟩ ⟨by decide, by decide⟩ (kdm kd_0) rfl rfl dd_X11_table_10 rfl rfl (Nat.le_of_ble_eq_true rfl) (c_refuse_0 hrf (g_r1 ?_))
    refine g_iret (pc := 13) hK hr hlocks dd_X11_table_13 rfl ?_
    first | exact g_fin (hB (by first | omega | (subst_vars; omega) | exact ⟨by first | assumption | omega | (subst_vars; first | assumption | omega), by first | assumption | omega | (subst_vars; first | assumption | omega)⟩)) (by first | rfl | omega | (subst_vars; first | rfl | omega)) (by first | rfl | (subst_vars; rfl)) | exact g_fin (hY (by first | omega | (subst_vars; omega) | exact ⟨by first | assumption | omega | (subst_vars; first | assumption | omega), by first | assumption | omega | (subst_vars; first | assumption | omega)⟩)) (by first | rfl | omega | (subst_vars; first | rfl | omega)) (by first | rfl | (subst_vars; rfl)) | (exfalso; omega)
set_option maxHeartbeats 4000000 in
set_option maxRecDepth 100000 in
theorem c_isPersonOrNone {l : Launch} {M : Mem} {Pq : Option gV → Mem → Prop} (x : Int) (h1 : inI x) (hT : (-1 ≤ x ∧ x ≤ 15) → Pq (some (gI 1)) M) (hF : ¬ (-1 ≤ x ∧ x ≤ 15) → Pq (some (gI 0)) M) : gCtr l my_X11_isPersonOrNone mb_X11_isPersonOrNone 1 ((some .boolean)) 3 [gI x] M Pq := by
  refine g_intro (by decide) (Nat.le_of_ble_eq_true rfl) ?_
  intro p e s m args below meth c D cy q A hK hr hlocks hw
  refine g_sub (L' := [(0, gI x)]) [0] rfl ?_
  refine g_iloadn (pc := 0) (i := 0) (x := x) hK dd_X11_isPersonOrNone_0 rfl rfl ?_
  refine g_iconst (pc := 1) (x := (-1)) hK dd_X11_isPersonOrNone_1 (by decide) ?_
  refine g_icmp_eq (pc := 2) (tgt := 12) hK dd_X11_isPersonOrNone_2 (by decide) h1 (by decide) (fun c1 => ?_) (fun c1 => ?_)
  · refine g_iconst (pc := 12) (x := 1) hK dd_X11_isPersonOrNone_12 (by decide) ?_
    refine g_goto (pc := 13) (tgt := 17) hK dd_X11_isPersonOrNone_13 (by decide) ?_
    refine g_iret (pc := 17) hK hr hlocks dd_X11_isPersonOrNone_17 rfl ?_
    exact g_finM (hT (by subst_vars; first | assumption | omega | simp_all)) (by first | rfl | (subst_vars; rfl))
  · refine g_iloadn (pc := 5) (i := 0) (x := x) hK dd_X11_isPersonOrNone_5 rfl rfl ?_
    refine g_callT (pc := 6) (As := [gI x]) hK ws_X_339 md_X11_isPerson ⟨Nat.zero_le _, Nat.zero_le _⟩ ⟨by decide, by decide⟩ dd_X11_isPersonOrNone_6 rfl rfl (Nat.le_of_ble_eq_true rfl) (c_isPerson x h1 (fun c2 => g_r1 ?_) (fun c2 => g_r1 ?_))
    · refine g_if_eq (pc := 9) (tgt := 16) hK dd_X11_isPersonOrNone_9 (by decide) (by decide) (fun c3 => absurd c3 (by decide)) (fun _ => ?_)
      refine g_iconst (pc := 12) (x := 1) hK dd_X11_isPersonOrNone_12 (by decide) ?_
      refine g_goto (pc := 13) (tgt := 17) hK dd_X11_isPersonOrNone_13 (by decide) ?_
      refine g_iret (pc := 17) hK hr hlocks dd_X11_isPersonOrNone_17 rfl ?_
      exact g_finM (hT (by subst_vars; first | assumption | omega | simp_all)) (by first | rfl | (subst_vars; rfl))
    · refine g_if_eq (pc := 9) (tgt := 16) hK dd_X11_isPersonOrNone_9 (by decide) (by decide) (fun _ => ?_) (fun c4 => absurd (by decide) c4)
      refine g_iconst (pc := 16) (x := 0) hK dd_X11_isPersonOrNone_16 (by decide) ?_
      refine g_iret (pc := 17) hK hr hlocks dd_X11_isPersonOrNone_17 rfl ?_
      exact g_finM (hF (by subst_vars; first | assumption | omega | simp_all)) (by first | rfl | (subst_vars; rfl))
set_option maxHeartbeats 4000000 in
set_option maxRecDepth 100000 in
theorem x_sight {l : Launch} {M : Mem} {Pq : Option gV → Mem → Prop} (y : Int) (ch : Int) (g : Int) (b : Int) (h_y : inI y) (h_ch : inI ch) (h_g : inI g) (h_b : inI b) (hrf : rfOK M) (hsc : 0 ≤ M 27 4 ∧ M 27 4 ≤ 20) (hB : (¬ ((0 ≤ y ∧ y ≤ 99) ∧ (0 ≤ ch ∧ ch ≤ 255) ∧ (-1 ≤ g ∧ g ≤ 15) ∧ -1 ≤ b ∧ b ≤ 15)) → Pq (some (gI (-2))) (rf M 0)) (hF : (((0 ≤ y ∧ y ≤ 99) ∧ (0 ≤ ch ∧ ch ≤ 255) ∧ (-1 ≤ g ∧ g ≤ 15) ∧ -1 ≤ b ∧ b ≤ 15) ∧ 20 ≤ M 27 4) → Pq (some (gI (-6))) (rf M 4)) (hY : (((0 ≤ y ∧ y ≤ 99) ∧ (0 ≤ ch ∧ ch ≤ 255) ∧ (-1 ≤ g ∧ g ≤ 15) ∧ -1 ≤ b ∧ b ≤ 15) ∧ ¬ 20 ≤ M 27 4) → Pq (some (gI (M 27 4))) (up (up (up (up (up M 28 (M 27 4).toNat y) 29 (M 27 4).toNat ch) 30 (M 27 4).toNat g) 31 (M 27 4).toNat b) 27 4 (M 27 4 + 1))) : gCtr l my_X11_sight mb_X11_sight 5 ((some .int)) 4 [gR 0, gI y, gI ch, gI g, gI b] M Pq := by
  refine g_intro (by decide) (Nat.le_of_ble_eq_true rfl) ?_
  intro p e s m args below meth c D cy q A hK hr hlocks hw
  refine g_sub (L' := [(0, gR 0), (1, gI y), (2, gI ch), (3, gI g), (4, gI b)]) [0, 1, 2, 3, 4] rfl ?_
  refine g_iloadn (pc := 0) (i := 1) (x := y) hK dd_X11_sight_0 rfl rfl ?_
  refine g_iconst (pc := 1) (x := 0) hK dd_X11_sight_1 (by decide) ?_
  refine g_bipush (pc := 2) (x := 99) hK dd_X11_sight_2 (by decide) ?_
  refine g_callT (pc := 4) (As := [gI y, gI 0, gI 99]) hK ws_X_59 md_X11_within ⟨Nat.zero_le _, Nat.zero_le _⟩ ⟨by decide, by decide⟩ dd_X11_sight_4 rfl rfl (Nat.le_of_ble_eq_true rfl) (c_within y 0 99 h_y (by decide) (by decide) (fun c1 => g_r1 ?_) (fun c1 => g_r1 ?_))
  · refine g_if_eq (pc := 7) (tgt := 36) hK dd_X11_sight_7 (by decide) (by decide) (fun c2 => absurd c2 (by decide)) (fun _ => ?_)
    refine g_iloadn (pc := 10) (i := 2) (x := ch) hK dd_X11_sight_10 rfl rfl ?_
    refine g_iconst (pc := 11) (x := 0) hK dd_X11_sight_11 (by decide) ?_
    refine g_sipush (pc := 12) (x := 255) hK dd_X11_sight_12 (by decide) ?_
    refine g_callT (pc := 15) (As := [gI ch, gI 0, gI 255]) hK ws_X_59 md_X11_within ⟨Nat.zero_le _, Nat.zero_le _⟩ ⟨by decide, by decide⟩ dd_X11_sight_15 rfl rfl (Nat.le_of_ble_eq_true rfl) (c_within ch 0 255 h_ch (by decide) (by decide) (fun c3 => g_r1 ?_) (fun c3 => g_r1 ?_))
    · refine g_if_eq (pc := 18) (tgt := 36) hK dd_X11_sight_18 (by decide) (by decide) (fun c4 => absurd c4 (by decide)) (fun _ => ?_)
      refine g_iloadn (pc := 21) (i := 3) (x := g) hK dd_X11_sight_21 rfl rfl ?_
      refine g_callT (pc := 22) (As := [gI g]) hK ws_X_318 md_X11_isPersonOrNone ⟨Nat.zero_le _, Nat.zero_le _⟩ ⟨by decide, by decide⟩ dd_X11_sight_22 rfl rfl (Nat.le_of_ble_eq_true rfl) (c_isPersonOrNone g h_g (fun c5 => g_r1 ?_) (fun c5 => g_r1 ?_))
      · refine g_if_eq (pc := 25) (tgt := 36) hK dd_X11_sight_25 (by decide) (by decide) (fun c6 => absurd c6 (by decide)) (fun _ => ?_)
        refine g_iload (pc := 28) (i := 4) (x := b) hK dd_X11_sight_28 rfl ?_
        refine g_callT (pc := 30) (As := [gI b]) hK ws_X_318 md_X11_isPersonOrNone ⟨Nat.zero_le _, Nat.zero_le _⟩ ⟨by decide, by decide⟩ dd_X11_sight_30 rfl rfl (Nat.le_of_ble_eq_true rfl) (c_isPersonOrNone b h_b (fun c7 => g_r1 ?_) (fun c7 => g_r1 ?_))
        · refine g_if_ne (pc := 33) (tgt := 43) hK dd_X11_sight_33 (by decide) (by decide) (fun _ => ?_) (fun c8 => absurd (by decide) c8)
          refine g_aloadn (pc := 43) (i := 0) (x := 0) hK dd_X11_sight_43 rfl rfl ?_
          refine g_getv (pc := 44) (f := (1, 5)) (j := 3) (v := gR 5) hK (kdm kd_0) rfl ef_11 (by decide) rfl kk_385 dd_X11_sight_44 rfl ?_
          refine g_getv (pc := 47) (f := (1, 22)) (j := 4) (v := gR 27) hK (kdm kd_5) rfl ef_1 (by decide) rfl kk_269 dd_X11_sight_47 rfl ?_
          refine g_geti (pc := 50) (f := (0, 0)) (j := 4) hK (kdm kd_27) rfl ef_8 (by decide) rfl kk_201 nl_27 dd_X11_sight_50 rfl (fun x9 ex9 rx9 => ?_)
          refine g_bipush (pc := 53) (x := 20) hK dd_X11_sight_53 (by decide) ?_
          refine g_icmp_lt (pc := 55) (tgt := 65) hK dd_X11_sight_55 (by decide) rx9 (by decide) (fun c10 => ?_) (fun c10 => ?_)
          · refine g_aloadn (pc := 65) (i := 0) (x := 0) hK dd_X11_sight_65 rfl rfl ?_
            refine g_getv (pc := 66) (f := (1, 5)) (j := 3) (v := gR 5) hK (kdm kd_0) rfl ef_11 (by decide) rfl kk_385 dd_X11_sight_66 rfl ?_
            refine g_getv (pc := 69) (f := (1, 22)) (j := 4) (v := gR 27) hK (kdm kd_5) rfl ef_1 (by decide) rfl kk_269 dd_X11_sight_69 rfl ?_
            refine g_iloadn (pc := 72) (i := 1) (x := y) hK dd_X11_sight_72 rfl rfl ?_
            refine g_iloadn (pc := 73) (i := 2) (x := ch) hK dd_X11_sight_73 rfl rfl ?_
            refine g_iloadn (pc := 74) (i := 3) (x := g) hK dd_X11_sight_74 rfl rfl ?_
            refine g_iload (pc := 75) (i := 4) (x := b) hK dd_X11_sight_75 rfl ?_
            refine g_callV (pc := 77) (As := [gI y, gI ch, gI g, gI b]) hK ws_X_328 md_X8_add ⟨Nat.zero_le _, Nat.zero_le _⟩ ⟨by decide, by decide⟩ (kdm kd_27) rfl rfl dd_X11_sight_77 rfl rfl (Nat.le_of_ble_eq_true rfl) (c_add_27 y ch g b (show 0 ≤ M 27 4 ∧ M 27 4 < 20 by omega) h_y h_ch h_g h_b (g_r1 ?_))
            refine g_iret (pc := 80) hK hr hlocks dd_X11_sight_80 rfl ?_
            first | exact g_fin (hB (by first | omega | (subst_vars; omega) | exact ⟨by first | assumption | omega | (subst_vars; first | assumption | omega), by first | assumption | omega | (subst_vars; first | assumption | omega)⟩)) (by first | rfl | omega | (subst_vars; first | rfl | omega)) (by first | rfl | (subst_vars; rfl)) | exact g_fin (hF (by first | omega | (subst_vars; omega) | exact ⟨by first | assumption | omega | (subst_vars; first | assumption | omega), by first | assumption | omega | (subst_vars; first | assumption | omega)⟩)) (by first | rfl | omega | (subst_vars; first | rfl | omega)) (by first | rfl | (subst_vars; rfl)) | exact g_fin (hY (by first | omega | (subst_vars; omega) | exact ⟨by first | assumption | omega | (subst_vars; first | assumption | omega), by first | assumption | omega | (subst_vars; first | assumption | omega)⟩)) (by first | rfl | omega | (subst_vars; first | rfl | omega)) (by first | rfl | (subst_vars; rfl)) | (exfalso; omega)
          · refine g_aloadn (pc := 58) (i := 0) (x := 0) hK dd_X11_sight_58 rfl rfl ?_
            refine g_bipush (pc := 59) (x := (-6)) hK dd_X11_sight_59 (by decide) ?_
            refine g_callV (pc := 61) (As := [gI (-6)]) hK ws_X_63 md_X11_refuse ⟨Nat.zero_le _, Nat.zero_le _⟩ ⟨by decide, by decide⟩ (kdm kd_0) rfl rfl dd_X11_sight_61 rfl rfl (Nat.le_of_ble_eq_true rfl) (c_refuse_4 hrf (g_r1 ?_))
            refine g_iret (pc := 64) hK hr hlocks dd_X11_sight_64 rfl ?_
            first | exact g_fin (hF (by first | omega | (subst_vars; omega) | exact ⟨by first | assumption | omega | (subst_vars; first | assumption | omega), by first | assumption | omega | (subst_vars; first | assumption | omega)⟩)) (by first | rfl | omega | (subst_vars; first | rfl | omega)) (by first | rfl | (subst_vars; rfl)) | exact g_fin (hY (by first | omega | (subst_vars; omega) | exact ⟨by first | assumption | omega | (subst_vars; first | assumption | omega), by first | assumption | omega | (subst_vars; first | assumption | omega)⟩)) (by first | rfl | omega | (subst_vars; first | rfl | omega)) (by first | rfl | (subst_vars; rfl)) | (exfalso; omega)
        · refine g_if_ne (pc := 33) (tgt := 43) hK dd_X11_sight_33 (by decide) (by decide) (fun c11 => absurd c11 (by decide)) (fun _ => ?_)
          refine g_aloadn (pc := 36) (i := 0) (x := 0) hK dd_X11_sight_36 rfl rfl ?_
          refine g_bipush (pc := 37) (x := (-2)) hK dd_X11_sight_37 (by decide) ?_
          refine g_callV (pc := 39) (As := [gI (-2)]) hK ws_X_63 md_X11_refuse ⟨Nat.zero_le _, Nat.zero_le _⟩ ⟨by decide, by decide⟩ (kdm kd_0) rfl rfl dd_X11_sight_39 rfl rfl (Nat.le_of_ble_eq_true rfl) (c_refuse_0 hrf (g_r1 ?_))
          refine g_iret (pc := 42) hK hr hlocks dd_X11_sight_42 rfl ?_
          first | exact g_fin (hB (by first | omega | (subst_vars; omega) | exact ⟨by first | assumption | omega | (subst_vars; first | assumption | omega), by first | assumption | omega | (subst_vars; first | assumption | omega)⟩)) (by first | rfl | omega | (subst_vars; first | rfl | omega)) (by first | rfl | (subst_vars; rfl)) | exact g_fin (hY (by first | omega | (subst_vars; omega) | exact ⟨by first | assumption | omega | (subst_vars; first | assumption | omega), by first | assumption | omega | (subst_vars; first | assumption | omega)⟩)) (by first | rfl | omega | (subst_vars; first | rfl | omega)) (by first | rfl | (subst_vars; rfl)) | (exfalso; omega)
      · refine g_if_eq (pc := 25) (tgt := 36) hK dd_X11_sight_25 (by decide) (by decide) (fun _ => ?_) (fun c12 => absurd (by decide) c12)
        refine g_aloadn (pc := 36) (i := 0) (x := 0) hK dd_X11_sight_36 rfl rfl ?_
        refine g_bipush (pc := 37) (x := (-2)) hK dd_X11_sight_37 (by decide) ?_
        refine g_callV (pc := 39) (As := [gI (-2)]) hK ws_X_63 md_X11_refuse ⟨Nat.zero_le _, Nat.zero_le _⟩ ⟨by decide, by decide⟩ (kdm kd_0) rfl rfl dd_X11_sight_39 rfl rfl (Nat.le_of_ble_eq_true rfl) (c_refuse_0 hrf (g_r1 ?_))
        refine g_iret (pc := 42) hK hr hlocks dd_X11_sight_42 rfl ?_
        first | exact g_fin (hB (by first | omega | (subst_vars; omega) | exact ⟨by first | assumption | omega | (subst_vars; first | assumption | omega), by first | assumption | omega | (subst_vars; first | assumption | omega)⟩)) (by first | rfl | omega | (subst_vars; first | rfl | omega)) (by first | rfl | (subst_vars; rfl)) | exact g_fin (hY (by first | omega | (subst_vars; omega) | exact ⟨by first | assumption | omega | (subst_vars; first | assumption | omega), by first | assumption | omega | (subst_vars; first | assumption | omega)⟩)) (by first | rfl | omega | (subst_vars; first | rfl | omega)) (by first | rfl | (subst_vars; rfl)) | (exfalso; omega)
    · refine g_if_eq (pc := 18) (tgt := 36) hK dd_X11_sight_18 (by decide) (by decide) (fun _ => ?_) (fun c13 => absurd (by decide) c13)
      refine g_aloadn (pc := 36) (i := 0) (x := 0) hK dd_X11_sight_36 rfl rfl ?_
      refine g_bipush (pc := 37) (x := (-2)) hK dd_X11_sight_37 (by decide) ?_
      refine g_callV (pc := 39) (As := [gI (-2)]) hK ws_X_63 md_X11_refuse ⟨Nat.zero_le _, Nat.zero_le _⟩ ⟨by decide, by decide⟩ (kdm kd_0) rfl rfl dd_X11_sight_39 rfl rfl (Nat.le_of_ble_eq_true rfl) (c_refuse_0 hrf (g_r1 ?_))
      refine g_iret (pc := 42) hK hr hlocks dd_X11_sight_42 rfl ?_
      first | exact g_fin (hB (by first | omega | (subst_vars; omega) | exact ⟨by first | assumption | omega | (subst_vars; first | assumption | omega), by first | assumption | omega | (subst_vars; first | assumption | omega)⟩)) (by first | rfl | omega | (subst_vars; first | rfl | omega)) (by first | rfl | (subst_vars; rfl)) | exact g_fin (hY (by first | omega | (subst_vars; omega) | exact ⟨by first | assumption | omega | (subst_vars; first | assumption | omega), by first | assumption | omega | (subst_vars; first | assumption | omega)⟩)) (by first | rfl | omega | (subst_vars; first | rfl | omega)) (by first | rfl | (subst_vars; rfl)) | (exfalso; omega)
  · refine g_if_eq (pc := 7) (tgt := 36) hK dd_X11_sight_7 (by decide) (by decide) (fun _ => ?_) (fun c14 => absurd (by decide) c14)
    refine g_aloadn (pc := 36) (i := 0) (x := 0) hK dd_X11_sight_36 rfl rfl ?_
    refine g_bipush (pc := 37) (x := (-2)) hK dd_X11_sight_37 (by decide) ?_
    refine g_callV (pc := 39) (As := [gI (-2)]) hK ws_X_63 md_X11_refuse ⟨Nat.zero_le _, Nat.zero_le _⟩ ⟨by decide, by decide⟩ (kdm kd_0) rfl rfl dd_X11_sight_39 rfl rfl (Nat.le_of_ble_eq_true rfl) (c_refuse_0 hrf (g_r1 ?_))
    refine g_iret (pc := 42) hK hr hlocks dd_X11_sight_42 rfl ?_
    first | exact g_fin (hB (by first | omega | (subst_vars; omega) | exact ⟨by first | assumption | omega | (subst_vars; first | assumption | omega), by first | assumption | omega | (subst_vars; first | assumption | omega)⟩)) (by first | rfl | omega | (subst_vars; first | rfl | omega)) (by first | rfl | (subst_vars; rfl)) | exact g_fin (hY (by first | omega | (subst_vars; omega) | exact ⟨by first | assumption | omega | (subst_vars; first | assumption | omega), by first | assumption | omega | (subst_vars; first | assumption | omega)⟩)) (by first | rfl | omega | (subst_vars; first | rfl | omega)) (by first | rfl | (subst_vars; rfl)) | (exfalso; omega)
set_option maxHeartbeats 4000000 in
set_option maxRecDepth 100000 in
theorem x_same {l : Launch} {M : Mem} {Pq : Option gV → Mem → Prop} (i : Int) (j : Int) (h_i : inI i) (h_j : inI j) (hrf : rfOK M) (hsc : 0 ≤ M 27 4 ∧ M 27 4 ≤ 20) (hB : (¬ ((0 ≤ i ∧ i < M 27 4) ∧ 0 ≤ j ∧ j < M 27 4)) → Pq (some (gI (-2))) (rf M 0)) (hY : (((0 ≤ i ∧ i < M 27 4) ∧ 0 ≤ j ∧ j < M 27 4) ∧ mbe (M 28) (M 29) (M 30) (M 31) i.toNat j.toNat) → Pq (some (gI 1)) M) (hN : (((0 ≤ i ∧ i < M 27 4) ∧ 0 ≤ j ∧ j < M 27 4) ∧ ¬ mbe (M 28) (M 29) (M 30) (M 31) i.toNat j.toNat) → Pq (some (gI 0)) M) : gCtr l my_X11_same mb_X11_same 3 ((some .int)) 3 [gR 0, gI i, gI j] M Pq := by
  refine g_intro (by decide) (Nat.le_of_ble_eq_true rfl) ?_
  intro p e s m args below meth c D cy q A hK hr hlocks hw
  refine g_sub (L' := [(0, gR 0), (1, gI i), (2, gI j)]) [0, 1, 2] rfl ?_
  refine g_aloadn (pc := 0) (i := 0) (x := 0) hK dd_X11_same_0 rfl rfl ?_
  refine g_getv (pc := 1) (f := (1, 5)) (j := 3) (v := gR 5) hK (kdm kd_0) rfl ef_11 (by decide) rfl kk_385 dd_X11_same_1 rfl ?_
  refine g_getv (pc := 4) (f := (1, 22)) (j := 4) (v := gR 27) hK (kdm kd_5) rfl ef_1 (by decide) rfl kk_269 dd_X11_same_4 rfl ?_
  refine g_iloadn (pc := 7) (i := 1) (x := i) hK dd_X11_same_7 rfl rfl ?_
  refine g_callV (pc := 8) (As := [gI i]) hK ws_X_329 md_X8_has ⟨Nat.zero_le _, Nat.zero_le _⟩ ⟨by decide, by decide⟩ (kdm kd_27) rfl rfl dd_X11_same_8 rfl rfl (Nat.le_of_ble_eq_true rfl) (c_has_27 i h_i (show 0 ≤ M 27 4 ∧ M 27 4 ≤ 20 by omega) (fun c1 => g_r1 ?_) (fun c1 => g_r1 ?_))
  · refine g_if_eq (pc := 11) (tgt := 28) hK dd_X11_same_11 (by decide) (by decide) (fun c2 => absurd c2 (by decide)) (fun _ => ?_)
    refine g_aloadn (pc := 14) (i := 0) (x := 0) hK dd_X11_same_14 rfl rfl ?_
    refine g_getv (pc := 15) (f := (1, 5)) (j := 3) (v := gR 5) hK (kdm kd_0) rfl ef_11 (by decide) rfl kk_385 dd_X11_same_15 rfl ?_
    refine g_getv (pc := 18) (f := (1, 22)) (j := 4) (v := gR 27) hK (kdm kd_5) rfl ef_1 (by decide) rfl kk_269 dd_X11_same_18 rfl ?_
    refine g_iloadn (pc := 21) (i := 2) (x := j) hK dd_X11_same_21 rfl rfl ?_
    refine g_callV (pc := 22) (As := [gI j]) hK ws_X_329 md_X8_has ⟨Nat.zero_le _, Nat.zero_le _⟩ ⟨by decide, by decide⟩ (kdm kd_27) rfl rfl dd_X11_same_22 rfl rfl (Nat.le_of_ble_eq_true rfl) (c_has_27 j h_j (show 0 ≤ M 27 4 ∧ M 27 4 ≤ 20 by omega) (fun c3 => g_r1 ?_) (fun c3 => g_r1 ?_))
    · refine g_if_ne (pc := 25) (tgt := 35) hK dd_X11_same_25 (by decide) (by decide) (fun _ => ?_) (fun c4 => absurd (by decide) c4)
      refine g_aloadn (pc := 35) (i := 0) (x := 0) hK dd_X11_same_35 rfl rfl ?_
      refine g_getv (pc := 36) (f := (1, 5)) (j := 3) (v := gR 5) hK (kdm kd_0) rfl ef_11 (by decide) rfl kk_385 dd_X11_same_36 rfl ?_
      refine g_getv (pc := 39) (f := (1, 22)) (j := 4) (v := gR 27) hK (kdm kd_5) rfl ef_1 (by decide) rfl kk_269 dd_X11_same_39 rfl ?_
      refine g_iloadn (pc := 42) (i := 1) (x := i) hK dd_X11_same_42 rfl rfl ?_
      refine g_iloadn (pc := 43) (i := 2) (x := j) hK dd_X11_same_43 rfl rfl ?_
      refine g_callV (pc := 44) (As := [gI i, gI j]) hK ws_X_330 md_X8_mayBeOf ⟨Nat.zero_le _, Nat.zero_le _⟩ ⟨by decide, by decide⟩ (kdm kd_27) rfl rfl dd_X11_same_44 rfl rfl (Nat.le_of_ble_eq_true rfl) (c_mayBeOf i j (show 0 ≤ i ∧ i < 20 by omega) (show 0 ≤ j ∧ j < 20 by omega) (fun c5 => g_r1 ?_) (fun c5 => g_r1 ?_))
      · refine g_if_eq (pc := 47) (tgt := 54) hK dd_X11_same_47 (by decide) (by decide) (fun c6 => absurd c6 (by decide)) (fun _ => ?_)
        refine g_iconst (pc := 50) (x := 1) hK dd_X11_same_50 (by decide) ?_
        refine g_goto (pc := 51) (tgt := 55) hK dd_X11_same_51 (by decide) ?_
        refine g_iret (pc := 55) hK hr hlocks dd_X11_same_55 rfl ?_
        first | exact g_fin (hY (by first | omega | (subst_vars; omega) | exact ⟨by first | assumption | omega | (subst_vars; first | assumption | omega), by first | assumption | omega | (subst_vars; first | assumption | omega)⟩)) (by first | rfl | omega | (subst_vars; first | rfl | omega)) (by first | rfl | (subst_vars; rfl)) | (exfalso; omega)
      · refine g_if_eq (pc := 47) (tgt := 54) hK dd_X11_same_47 (by decide) (by decide) (fun _ => ?_) (fun c7 => absurd (by decide) c7)
        refine g_iconst (pc := 54) (x := 0) hK dd_X11_same_54 (by decide) ?_
        refine g_iret (pc := 55) hK hr hlocks dd_X11_same_55 rfl ?_
        first | exact g_fin (hN (by first | omega | (subst_vars; omega) | exact ⟨by first | assumption | omega | (subst_vars; first | assumption | omega), by first | assumption | omega | (subst_vars; first | assumption | omega)⟩)) (by first | rfl | omega | (subst_vars; first | rfl | omega)) (by first | rfl | (subst_vars; rfl)) | (exfalso; omega)
    · refine g_if_ne (pc := 25) (tgt := 35) hK dd_X11_same_25 (by decide) (by decide) (fun c8 => absurd c8 (by decide)) (fun _ => ?_)
      refine g_aloadn (pc := 28) (i := 0) (x := 0) hK dd_X11_same_28 rfl rfl ?_
      refine g_bipush (pc := 29) (x := (-2)) hK dd_X11_same_29 (by decide) ?_
      refine g_callV (pc := 31) (As := [gI (-2)]) hK ws_X_63 md_X11_refuse ⟨Nat.zero_le _, Nat.zero_le _⟩ ⟨by decide, by decide⟩ (kdm kd_0) rfl rfl dd_X11_same_31 rfl rfl (Nat.le_of_ble_eq_true rfl) (c_refuse_0 hrf (g_r1 ?_))
      refine g_iret (pc := 34) hK hr hlocks dd_X11_same_34 rfl ?_
      first | exact g_fin (hB (by first | omega | (subst_vars; omega) | exact ⟨by first | assumption | omega | (subst_vars; first | assumption | omega), by first | assumption | omega | (subst_vars; first | assumption | omega)⟩)) (by first | rfl | omega | (subst_vars; first | rfl | omega)) (by first | rfl | (subst_vars; rfl)) | (exfalso; omega)
  · refine g_if_eq (pc := 11) (tgt := 28) hK dd_X11_same_11 (by decide) (by decide) (fun _ => ?_) (fun c9 => absurd (by decide) c9)
    refine g_aloadn (pc := 28) (i := 0) (x := 0) hK dd_X11_same_28 rfl rfl ?_
    refine g_bipush (pc := 29) (x := (-2)) hK dd_X11_same_29 (by decide) ?_
    refine g_callV (pc := 31) (As := [gI (-2)]) hK ws_X_63 md_X11_refuse ⟨Nat.zero_le _, Nat.zero_le _⟩ ⟨by decide, by decide⟩ (kdm kd_0) rfl rfl dd_X11_same_31 rfl rfl (Nat.le_of_ble_eq_true rfl) (c_refuse_0 hrf (g_r1 ?_))
    refine g_iret (pc := 34) hK hr hlocks dd_X11_same_34 rfl ?_
    first | exact g_fin (hB (by first | omega | (subst_vars; omega) | exact ⟨by first | assumption | omega | (subst_vars; first | assumption | omega), by first | assumption | omega | (subst_vars; first | assumption | omega)⟩)) (by first | rfl | omega | (subst_vars; first | rfl | omega)) (by first | rfl | (subst_vars; rfl)) | (exfalso; omega)
set_option maxHeartbeats 4000000 in
set_option maxRecDepth 100000 in
theorem x_secret {l : Launch} {M : Mem} {Pq : Option gV → Mem → Prop} (t : Int) (pe : Int) (h_t : inI t) (h_pe : inI pe) (hrf : rfOK M) (hc : 0 ≤ M 6 6 ∧ M 6 6 ≤ 30) (hec : 0 ≤ M 35 2 ∧ M 35 2 ≤ 10) (hB : (¬ ((0 ≤ t ∧ t < M 6 6) ∧ 0 ≤ pe ∧ pe ≤ 15)) → Pq (some (gI (-2))) (rf M 0)) (hF : (((0 ≤ t ∧ t < M 6 6) ∧ 0 ≤ pe ∧ pe ≤ 15) ∧ 10 ≤ M 35 2) → Pq (some (gI (-6))) (rf M 4)) (hY : (((0 ≤ t ∧ t < M 6 6) ∧ 0 ≤ pe ∧ pe ≤ 15) ∧ ¬ 10 ≤ M 35 2) → Pq (some (gI (M 35 2))) (up (up (up M 36 (M 35 2).toNat t) 37 (M 35 2).toNat pe) 35 2 (M 35 2 + 1))) : gCtr l my_X11_secret mb_X11_secret 3 ((some .int)) 3 [gR 0, gI t, gI pe] M Pq := by
  refine g_intro (by decide) (Nat.le_of_ble_eq_true rfl) ?_
  intro p e s m args below meth c D cy q A hK hr hlocks hw
  refine g_sub (L' := [(0, gR 0), (1, gI t), (2, gI pe)]) [0, 1, 2] rfl ?_
  refine g_aloadn (pc := 0) (i := 0) (x := 0) hK dd_X11_secret_0 rfl rfl ?_
  refine g_getv (pc := 1) (f := (1, 5)) (j := 3) (v := gR 5) hK (kdm kd_0) rfl ef_11 (by decide) rfl kk_385 dd_X11_secret_1 rfl ?_
  refine g_getv (pc := 4) (f := (1, 1)) (j := 0) (v := gR 6) hK (kdm kd_5) rfl ef_1 (by decide) rfl kk_260 dd_X11_secret_4 rfl ?_
  refine g_iloadn (pc := 7) (i := 1) (x := t) hK dd_X11_secret_7 rfl rfl ?_
  refine g_callV (pc := 8) (As := [gI t]) hK ws_X_117 md_X10_has ⟨Nat.zero_le _, Nat.zero_le _⟩ ⟨by decide, by decide⟩ (kdm kd_6) rfl rfl dd_X11_secret_8 rfl rfl (Nat.le_of_ble_eq_true rfl) (c_has10 t (show inI t by omega) (show 0 ≤ M 6 6 ∧ M 6 6 ≤ 30 by omega) (fun c1 => g_r1 ?_) (fun c1 => g_r1 ?_))
  · refine g_if_eq (pc := 11) (tgt := 21) hK dd_X11_secret_11 (by decide) (by decide) (fun c2 => absurd c2 (by decide)) (fun _ => ?_)
    refine g_iloadn (pc := 14) (i := 2) (x := pe) hK dd_X11_secret_14 rfl rfl ?_
    refine g_callT (pc := 15) (As := [gI pe]) hK ws_X_339 md_X11_isPerson ⟨Nat.zero_le _, Nat.zero_le _⟩ ⟨by decide, by decide⟩ dd_X11_secret_15 rfl rfl (Nat.le_of_ble_eq_true rfl) (c_isPerson pe h_pe (fun c3 => g_r1 ?_) (fun c3 => g_r1 ?_))
    · refine g_if_ne (pc := 18) (tgt := 28) hK dd_X11_secret_18 (by decide) (by decide) (fun _ => ?_) (fun c4 => absurd (by decide) c4)
      refine g_aloadn (pc := 28) (i := 0) (x := 0) hK dd_X11_secret_28 rfl rfl ?_
      refine g_getv (pc := 29) (f := (1, 5)) (j := 3) (v := gR 5) hK (kdm kd_0) rfl ef_11 (by decide) rfl kk_385 dd_X11_secret_29 rfl ?_
      refine g_getv (pc := 32) (f := (1, 30)) (j := 5) (v := gR 35) hK (kdm kd_5) rfl ef_1 (by decide) rfl kk_271 dd_X11_secret_32 rfl ?_
      refine g_geti (pc := 35) (f := (0, 0)) (j := 2) hK (kdm kd_35) rfl ef_6 (by decide) rfl kk_231 nl_35 dd_X11_secret_35 rfl (fun x5 ex5 rx5 => ?_)
      refine g_bipush (pc := 38) (x := 10) hK dd_X11_secret_38 (by decide) ?_
      refine g_icmp_lt (pc := 40) (tgt := 50) hK dd_X11_secret_40 (by decide) rx5 (by decide) (fun c6 => ?_) (fun c6 => ?_)
      · refine g_aloadn (pc := 50) (i := 0) (x := 0) hK dd_X11_secret_50 rfl rfl ?_
        refine g_getv (pc := 51) (f := (1, 5)) (j := 3) (v := gR 5) hK (kdm kd_0) rfl ef_11 (by decide) rfl kk_385 dd_X11_secret_51 rfl ?_
        refine g_getv (pc := 54) (f := (1, 30)) (j := 5) (v := gR 35) hK (kdm kd_5) rfl ef_1 (by decide) rfl kk_271 dd_X11_secret_54 rfl ?_
        refine g_iloadn (pc := 57) (i := 1) (x := t) hK dd_X11_secret_57 rfl rfl ?_
        refine g_iloadn (pc := 58) (i := 2) (x := pe) hK dd_X11_secret_58 rfl rfl ?_
        refine g_callV (pc := 59) (As := [gI t, gI pe]) hK ws_X_349 md_X6_add ⟨Nat.zero_le _, Nat.zero_le _⟩ ⟨by decide, by decide⟩ (kdm kd_35) rfl rfl dd_X11_secret_59 rfl rfl (Nat.le_of_ble_eq_true rfl) (c_add_35 t pe (show 0 ≤ M 35 2 ∧ M 35 2 < 10 by omega) h_t h_pe (g_r1 ?_))
        refine g_iret (pc := 62) hK hr hlocks dd_X11_secret_62 rfl ?_
        first | exact g_fin (hB (by first | omega | (subst_vars; omega) | exact ⟨by first | assumption | omega | (subst_vars; first | assumption | omega), by first | assumption | omega | (subst_vars; first | assumption | omega)⟩)) (by first | rfl | omega | (subst_vars; first | rfl | omega)) (by first | rfl | (subst_vars; rfl)) | exact g_fin (hF (by first | omega | (subst_vars; omega) | exact ⟨by first | assumption | omega | (subst_vars; first | assumption | omega), by first | assumption | omega | (subst_vars; first | assumption | omega)⟩)) (by first | rfl | omega | (subst_vars; first | rfl | omega)) (by first | rfl | (subst_vars; rfl)) | exact g_fin (hY (by first | omega | (subst_vars; omega) | exact ⟨by first | assumption | omega | (subst_vars; first | assumption | omega), by first | assumption | omega | (subst_vars; first | assumption | omega)⟩)) (by first | rfl | omega | (subst_vars; first | rfl | omega)) (by first | rfl | (subst_vars; rfl)) | (exfalso; omega)
      · refine g_aloadn (pc := 43) (i := 0) (x := 0) hK dd_X11_secret_43 rfl rfl ?_
        refine g_bipush (pc := 44) (x := (-6)) hK dd_X11_secret_44 (by decide) ?_
        refine g_callV (pc := 46) (As := [gI (-6)]) hK ws_X_63 md_X11_refuse ⟨Nat.zero_le _, Nat.zero_le _⟩ ⟨by decide, by decide⟩ (kdm kd_0) rfl rfl dd_X11_secret_46 rfl rfl (Nat.le_of_ble_eq_true rfl) (c_refuse_4 hrf (g_r1 ?_))
        refine g_iret (pc := 49) hK hr hlocks dd_X11_secret_49 rfl ?_
        first | exact g_fin (hF (by first | omega | (subst_vars; omega) | exact ⟨by first | assumption | omega | (subst_vars; first | assumption | omega), by first | assumption | omega | (subst_vars; first | assumption | omega)⟩)) (by first | rfl | omega | (subst_vars; first | rfl | omega)) (by first | rfl | (subst_vars; rfl)) | exact g_fin (hY (by first | omega | (subst_vars; omega) | exact ⟨by first | assumption | omega | (subst_vars; first | assumption | omega), by first | assumption | omega | (subst_vars; first | assumption | omega)⟩)) (by first | rfl | omega | (subst_vars; first | rfl | omega)) (by first | rfl | (subst_vars; rfl)) | (exfalso; omega)
    · refine g_if_ne (pc := 18) (tgt := 28) hK dd_X11_secret_18 (by decide) (by decide) (fun c7 => absurd c7 (by decide)) (fun _ => ?_)
      refine g_aloadn (pc := 21) (i := 0) (x := 0) hK dd_X11_secret_21 rfl rfl ?_
      refine g_bipush (pc := 22) (x := (-2)) hK dd_X11_secret_22 (by decide) ?_
      refine g_callV (pc := 24) (As := [gI (-2)]) hK ws_X_63 md_X11_refuse ⟨Nat.zero_le _, Nat.zero_le _⟩ ⟨by decide, by decide⟩ (kdm kd_0) rfl rfl dd_X11_secret_24 rfl rfl (Nat.le_of_ble_eq_true rfl) (c_refuse_0 hrf (g_r1 ?_))
      refine g_iret (pc := 27) hK hr hlocks dd_X11_secret_27 rfl ?_
      first | exact g_fin (hB (by first | omega | (subst_vars; omega) | exact ⟨by first | assumption | omega | (subst_vars; first | assumption | omega), by first | assumption | omega | (subst_vars; first | assumption | omega)⟩)) (by first | rfl | omega | (subst_vars; first | rfl | omega)) (by first | rfl | (subst_vars; rfl)) | exact g_fin (hY (by first | omega | (subst_vars; omega) | exact ⟨by first | assumption | omega | (subst_vars; first | assumption | omega), by first | assumption | omega | (subst_vars; first | assumption | omega)⟩)) (by first | rfl | omega | (subst_vars; first | rfl | omega)) (by first | rfl | (subst_vars; rfl)) | (exfalso; omega)
  · refine g_if_eq (pc := 11) (tgt := 21) hK dd_X11_secret_11 (by decide) (by decide) (fun _ => ?_) (fun c8 => absurd (by decide) c8)
    refine g_aloadn (pc := 21) (i := 0) (x := 0) hK dd_X11_secret_21 rfl rfl ?_
    refine g_bipush (pc := 22) (x := (-2)) hK dd_X11_secret_22 (by decide) ?_
    refine g_callV (pc := 24) (As := [gI (-2)]) hK ws_X_63 md_X11_refuse ⟨Nat.zero_le _, Nat.zero_le _⟩ ⟨by decide, by decide⟩ (kdm kd_0) rfl rfl dd_X11_secret_24 rfl rfl (Nat.le_of_ble_eq_true rfl) (c_refuse_0 hrf (g_r1 ?_))
    refine g_iret (pc := 27) hK hr hlocks dd_X11_secret_27 rfl ?_
    first | exact g_fin (hB (by first | omega | (subst_vars; omega) | exact ⟨by first | assumption | omega | (subst_vars; first | assumption | omega), by first | assumption | omega | (subst_vars; first | assumption | omega)⟩)) (by first | rfl | omega | (subst_vars; first | rfl | omega)) (by first | rfl | (subst_vars; rfl)) | exact g_fin (hY (by first | omega | (subst_vars; omega) | exact ⟨by first | assumption | omega | (subst_vars; first | assumption | omega), by first | assumption | omega | (subst_vars; first | assumption | omega)⟩)) (by first | rfl | omega | (subst_vars; first | rfl | omega)) (by first | rfl | (subst_vars; rfl)) | (exfalso; omega)
set_option maxHeartbeats 4000000 in
set_option maxRecDepth 100000 in
theorem x_looks {l : Launch} {M : Mem} {Pq : Option gV → Mem → Prop} (pe : Int) (ta : Int) (h_pe : inI pe) (h_ta : inI ta) (hrf : rfOK M) (hB : (¬ ((0 ≤ pe ∧ pe ≤ 15) ∧ 0 ≤ ta ∧ ta ≤ 31)) → Pq (some (gI (-2))) (rf M 0)) (hY : ((0 ≤ pe ∧ pe ≤ 15) ∧ 0 ≤ ta ∧ ta ≤ 31) → Pq (some (gI (M 38 pe.toNat))) (up M 38 pe.toNat ta)) : gCtr l my_X11_looks mb_X11_looks 4 ((some .int)) 3 [gR 0, gI pe, gI ta] M Pq := by
  refine g_intro (by decide) (Nat.le_of_ble_eq_true rfl) ?_
  intro p e s m args below meth c D cy q A hK hr hlocks hw
  refine g_sub (L' := [(0, gR 0), (1, gI pe), (2, gI ta)]) [0, 1, 2] rfl ?_
  refine g_iloadn (pc := 0) (i := 1) (x := pe) hK dd_X11_looks_0 rfl rfl ?_
  refine g_callT (pc := 1) (As := [gI pe]) hK ws_X_339 md_X11_isPerson ⟨Nat.zero_le _, Nat.zero_le _⟩ ⟨by decide, by decide⟩ dd_X11_looks_1 rfl rfl (Nat.le_of_ble_eq_true rfl) (c_isPerson pe h_pe (fun c1 => g_r1 ?_) (fun c1 => g_r1 ?_))
  · refine g_if_eq (pc := 4) (tgt := 17) hK dd_X11_looks_4 (by decide) (by decide) (fun c2 => absurd c2 (by decide)) (fun _ => ?_)
    refine g_iloadn (pc := 7) (i := 2) (x := ta) hK dd_X11_looks_7 rfl rfl ?_
    refine g_iconst (pc := 8) (x := 0) hK dd_X11_looks_8 (by decide) ?_
    refine g_bipush (pc := 9) (x := 31) hK dd_X11_looks_9 (by decide) ?_
    refine g_callT (pc := 11) (As := [gI ta, gI 0, gI 31]) hK ws_X_59 md_X11_within ⟨Nat.zero_le _, Nat.zero_le _⟩ ⟨by decide, by decide⟩ dd_X11_looks_11 rfl rfl (Nat.le_of_ble_eq_true rfl) (c_within ta 0 31 h_ta (by decide) (by decide) (fun c3 => g_r1 ?_) (fun c3 => g_r1 ?_))
    · refine g_if_ne (pc := 14) (tgt := 24) hK dd_X11_looks_14 (by decide) (by decide) (fun _ => ?_) (fun c4 => absurd (by decide) c4)
      refine g_aloadn (pc := 24) (i := 0) (x := 0) hK dd_X11_looks_24 rfl rfl ?_
      refine g_getv (pc := 25) (f := (1, 5)) (j := 3) (v := gR 5) hK (kdm kd_0) rfl ef_11 (by decide) rfl kk_385 dd_X11_looks_25 rfl ?_
      refine g_getv (pc := 28) (f := (1, 30)) (j := 5) (v := gR 35) hK (kdm kd_5) rfl ef_1 (by decide) rfl kk_271 dd_X11_looks_28 rfl ?_
      refine g_getv (pc := 31) (f := (1, 3)) (j := 3) (v := gR 38) hK (kdm kd_35) rfl ef_6 (by decide) rfl kk_233 dd_X11_looks_31 rfl ?_
      refine g_iloadn (pc := 34) (i := 1) (x := pe) hK dd_X11_looks_34 rfl rfl ?_
      refine g_iald (pc := 35) hK (kdm kd_38) nl_38 (by decide) dd_X11_looks_35 (by omega) (by omega) (fun x5 ex5 rx5 => ?_)
      refine g_istoren (pc := 36) (i := 3) (L' := [(0, gR 0), (1, gI pe), (2, gI ta), (3, gI x5)]) hK dd_X11_looks_36 rfl (by decide) rfl ?_
      refine g_aloadn (pc := 37) (i := 0) (x := 0) hK dd_X11_looks_37 rfl rfl ?_
      refine g_getv (pc := 38) (f := (1, 5)) (j := 3) (v := gR 5) hK (kdm kd_0) rfl ef_11 (by decide) rfl kk_385 dd_X11_looks_38 rfl ?_
      refine g_getv (pc := 41) (f := (1, 30)) (j := 5) (v := gR 35) hK (kdm kd_5) rfl ef_1 (by decide) rfl kk_271 dd_X11_looks_41 rfl ?_
      refine g_getv (pc := 44) (f := (1, 3)) (j := 3) (v := gR 38) hK (kdm kd_35) rfl ef_6 (by decide) rfl kk_233 dd_X11_looks_44 rfl ?_
      refine g_iloadn (pc := 47) (i := 1) (x := pe) hK dd_X11_looks_47 rfl rfl ?_
      refine g_iloadn (pc := 48) (i := 2) (x := ta) hK dd_X11_looks_48 rfl rfl ?_
      refine g_iast (pc := 49) hK (kdm kd_38) nl_38 (by decide) (by decide) dd_X11_looks_49 (by omega) (by omega) h_ta ?_
      refine g_iloadn (pc := 50) (i := 3) (x := x5) hK dd_X11_looks_50 rfl rfl ?_
      refine g_iret (pc := 51) hK hr hlocks dd_X11_looks_51 rfl ?_
      first | exact g_fin (hB (by first | omega | (subst_vars; omega) | exact ⟨by first | assumption | omega | (subst_vars; first | assumption | omega), by first | assumption | omega | (subst_vars; first | assumption | omega)⟩)) (by first | rfl | omega | (subst_vars; first | rfl | omega)) (by first | rfl | (subst_vars; rfl)) | exact g_fin (hY (by first | omega | (subst_vars; omega) | exact ⟨by first | assumption | omega | (subst_vars; first | assumption | omega), by first | assumption | omega | (subst_vars; first | assumption | omega)⟩)) (by first | rfl | omega | (subst_vars; first | rfl | omega)) (by first | rfl | (subst_vars; rfl)) | (exfalso; omega)
    · refine g_if_ne (pc := 14) (tgt := 24) hK dd_X11_looks_14 (by decide) (by decide) (fun c6 => absurd c6 (by decide)) (fun _ => ?_)
      refine g_aloadn (pc := 17) (i := 0) (x := 0) hK dd_X11_looks_17 rfl rfl ?_
      refine g_bipush (pc := 18) (x := (-2)) hK dd_X11_looks_18 (by decide) ?_
      refine g_callV (pc := 20) (As := [gI (-2)]) hK ws_X_63 md_X11_refuse ⟨Nat.zero_le _, Nat.zero_le _⟩ ⟨by decide, by decide⟩ (kdm kd_0) rfl rfl dd_X11_looks_20 rfl rfl (Nat.le_of_ble_eq_true rfl) (c_refuse_0 hrf (g_r1 ?_))
      refine g_iret (pc := 23) hK hr hlocks dd_X11_looks_23 rfl ?_
      first | exact g_fin (hB (by first | omega | (subst_vars; omega) | exact ⟨by first | assumption | omega | (subst_vars; first | assumption | omega), by first | assumption | omega | (subst_vars; first | assumption | omega)⟩)) (by first | rfl | omega | (subst_vars; first | rfl | omega)) (by first | rfl | (subst_vars; rfl)) | exact g_fin (hY (by first | omega | (subst_vars; omega) | exact ⟨by first | assumption | omega | (subst_vars; first | assumption | omega), by first | assumption | omega | (subst_vars; first | assumption | omega)⟩)) (by first | rfl | omega | (subst_vars; first | rfl | omega)) (by first | rfl | (subst_vars; rfl)) | (exfalso; omega)
  · refine g_if_eq (pc := 4) (tgt := 17) hK dd_X11_looks_4 (by decide) (by decide) (fun _ => ?_) (fun c7 => absurd (by decide) c7)
    refine g_aloadn (pc := 17) (i := 0) (x := 0) hK dd_X11_looks_17 rfl rfl ?_
    refine g_bipush (pc := 18) (x := (-2)) hK dd_X11_looks_18 (by decide) ?_
    refine g_callV (pc := 20) (As := [gI (-2)]) hK ws_X_63 md_X11_refuse ⟨Nat.zero_le _, Nat.zero_le _⟩ ⟨by decide, by decide⟩ (kdm kd_0) rfl rfl dd_X11_looks_20 rfl rfl (Nat.le_of_ble_eq_true rfl) (c_refuse_0 hrf (g_r1 ?_))
    refine g_iret (pc := 23) hK hr hlocks dd_X11_looks_23 rfl ?_
    first | exact g_fin (hB (by first | omega | (subst_vars; omega) | exact ⟨by first | assumption | omega | (subst_vars; first | assumption | omega), by first | assumption | omega | (subst_vars; first | assumption | omega)⟩)) (by first | rfl | omega | (subst_vars; first | rfl | omega)) (by first | rfl | (subst_vars; rfl)) | exact g_fin (hY (by first | omega | (subst_vars; omega) | exact ⟨by first | assumption | omega | (subst_vars; first | assumption | omega), by first | assumption | omega | (subst_vars; first | assumption | omega)⟩)) (by first | rfl | omega | (subst_vars; first | rfl | omega)) (by first | rfl | (subst_vars; rfl)) | (exfalso; omega)
