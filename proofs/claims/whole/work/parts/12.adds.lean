set_option maxHeartbeats 4000000 in
set_option maxRecDepth 100000 in
theorem c_add_14 {l : Launch} {M : Mem} {Pq : Option gV → Mem → Prop} (a1 : Int) (a2 : Int) (hc : 0 ≤ M 14 3 ∧ M 14 3 < 5) (ha1 : inI a1) (ha2 : inI a2) (hQ : Pq (some (gI (M 14 3))) (up (up (up (up M 15 (M 14 3).toNat a1) 16 (M 14 3).toNat a2) 17 (M 14 3).toNat (-1)) 14 3 (M 14 3 + 1))) : gCtr l my_X2_add mb_X2_add 3 ((some .int)) 1 [gR 14, gI a1, gI a2] M Pq := by
  refine g_intro (by decide) (Nat.le_of_ble_eq_true rfl) ?_
  intro p e s m args below meth c D cy q A hK hr hlocks hw
  refine g_sub (L' := [(0, gR 14), (1, gI a1), (2, gI a2)]) [0, 1, 2] rfl ?_
  refine g_aloadn (pc := 0) (i := 0) (x := 14) hK dd_X2_add_0 rfl rfl ?_
  refine g_getv (pc := 1) (f := (1, 1)) (j := 0) (v := gR 15) hK (kdm kd_14) rfl ef_2 (by decide) rfl kk_116 dd_X2_add_1 rfl ?_
  refine g_aloadn (pc := 4) (i := 0) (x := 14) hK dd_X2_add_4 rfl rfl ?_
  refine g_geti (pc := 5) (f := (0, 0)) (j := 3) hK (kdm kd_14) rfl ef_2 (by decide) rfl kk_123 nl_14 dd_X2_add_5 rfl (fun x1 ex1 rx1 => ?_)
  refine g_iloadn (pc := 8) (i := 1) (x := a1) hK dd_X2_add_8 rfl rfl ?_
  refine g_iast (pc := 9) hK (kdm kd_15) nl_15 (by decide) (by decide) dd_X2_add_9 (by omega) (by omega) ha1 ?_
  refine g_aloadn (pc := 10) (i := 0) (x := 14) hK dd_X2_add_10 rfl rfl ?_
  refine g_getv (pc := 11) (f := (1, 2)) (j := 1) (v := gR 16) hK (kdm kd_14) rfl ef_2 (by decide) rfl kk_118 dd_X2_add_11 rfl ?_
  refine g_aloadn (pc := 14) (i := 0) (x := 14) hK dd_X2_add_14 rfl rfl ?_
  refine g_geti (pc := 15) (f := (0, 0)) (j := 3) hK (kdm kd_14) rfl ef_2 (by decide) rfl kk_123 nl_14 dd_X2_add_15 rfl (fun x2 ex2 rx2 => ?_)
  replace ex2 : x2 = M 14 3 := ex2
  refine g_iloadn (pc := 18) (i := 2) (x := a2) hK dd_X2_add_18 rfl rfl ?_
  refine g_iast (pc := 19) hK (kdm kd_16) nl_16 (by decide) (by decide) dd_X2_add_19 (by omega) (by omega) ha2 ?_
  refine g_aloadn (pc := 20) (i := 0) (x := 14) hK dd_X2_add_20 rfl rfl ?_
  refine g_getv (pc := 21) (f := (1, 3)) (j := 2) (v := gR 17) hK (kdm kd_14) rfl ef_2 (by decide) rfl kk_120 dd_X2_add_21 rfl ?_
  refine g_aloadn (pc := 24) (i := 0) (x := 14) hK dd_X2_add_24 rfl rfl ?_
  refine g_geti (pc := 25) (f := (0, 0)) (j := 3) hK (kdm kd_14) rfl ef_2 (by decide) rfl kk_123 nl_14 dd_X2_add_25 rfl (fun x3 ex3 rx3 => ?_)
  replace ex3 : x3 = M 14 3 := ex3
  refine g_iconst (pc := 28) (x := (-1)) hK dd_X2_add_28 (by decide) ?_
  refine g_iast (pc := 29) hK (kdm kd_17) nl_17 (by decide) (by decide) dd_X2_add_29 (by omega) (by omega) (by decide) ?_
  refine g_aloadn (pc := 30) (i := 0) (x := 14) hK dd_X2_add_30 rfl rfl ?_
  refine g_dup (pc := 31) hK dd_X2_add_31 rfl ?_
  refine g_geti (pc := 32) (f := (0, 0)) (j := 3) hK (kdm kd_14) rfl ef_2 (by decide) rfl kk_123 nl_14 dd_X2_add_32 rfl (fun x4 ex4 rx4 => ?_)
  replace ex4 : x4 = M 14 3 := ex4
  refine g_iconst (pc := 35) (x := 1) hK dd_X2_add_35 (by decide) ?_
  refine g_iadd (pc := 36) (z := x4 + 1) hK dd_X2_add_36 rfl ?_
  refine g_puti (pc := 37) (f := (0, 0)) (j := 3) (ty := .int) hK (kdm kd_14) rfl ef_2 (by decide) rfl kk_123 nl_14 (by decide) dd_X2_add_37 rfl rfl rfl rfl rfl ⟨by omega, by omega⟩ ?_
  refine g_aloadn (pc := 40) (i := 0) (x := 14) hK dd_X2_add_40 rfl rfl ?_
  refine g_geti (pc := 41) (f := (0, 0)) (j := 3) hK (kdm kd_14) rfl ef_2 (by decide) rfl kk_123 nl_14 dd_X2_add_41 rfl (fun x5 ex5 rx5 => ?_)
  replace ex5 : x5 = x4 + 1 := by first | exact ex5 | (rw [ex5]; simp [up, us, cp, sr])
  refine g_iconst (pc := 44) (x := 1) hK dd_X2_add_44 (by decide) ?_
  refine g_isub (pc := 45) (z := x5 - 1) hK dd_X2_add_45 rfl ?_
  refine g_iret (pc := 46) hK hr hlocks dd_X2_add_46 rfl ?_
  exact g_fin hQ (by first | rfl | omega | (subst_vars; first | rfl | omega)) (by first | rfl | (subst_vars; rfl))
set_option maxHeartbeats 4000000 in
set_option maxRecDepth 100000 in
theorem c_add_21 {l : Launch} {M : Mem} {Pq : Option gV → Mem → Prop} (a1 : Int) (a2 : Int) (a3 : Int) (a4 : Int) (hc : 0 ≤ M 21 5 ∧ M 21 5 < 12) (ha1 : inI a1) (ha2 : inI a2) (ha3 : inI a3) (ha4 : inI a4) (hQ : Pq (some (gI (M 21 5))) (up (up (up (up (up (up M 22 (M 21 5).toNat a1) 23 (M 21 5).toNat a2) 24 (M 21 5).toNat a3) 25 (M 21 5).toNat a4) 26 (M 21 5).toNat 0) 21 5 (M 21 5 + 1))) : gCtr l my_X0_add mb_X0_add 5 ((some .int)) 1 [gR 21, gI a1, gI a2, gI a3, gI a4] M Pq := by
  refine g_intro (by decide) (Nat.le_of_ble_eq_true rfl) ?_
  intro p e s m args below meth c D cy q A hK hr hlocks hw
  refine g_sub (L' := [(0, gR 21), (1, gI a1), (2, gI a2), (3, gI a3), (4, gI a4)]) [0, 1, 2, 3, 4] rfl ?_
  refine g_aloadn (pc := 0) (i := 0) (x := 21) hK dd_X0_add_0 rfl rfl ?_
  refine g_getv (pc := 1) (f := (1, 1)) (j := 0) (v := gR 22) hK (kdm kd_21) rfl ef_0 (by decide) rfl kk_159 dd_X0_add_1 rfl ?_
  refine g_aloadn (pc := 4) (i := 0) (x := 21) hK dd_X0_add_4 rfl rfl ?_
  refine g_geti (pc := 5) (f := (0, 0)) (j := 5) hK (kdm kd_21) rfl ef_0 (by decide) rfl kk_174 nl_21 dd_X0_add_5 rfl (fun x1 ex1 rx1 => ?_)
  refine g_iloadn (pc := 8) (i := 1) (x := a1) hK dd_X0_add_8 rfl rfl ?_
  refine g_iast (pc := 9) hK (kdm kd_22) nl_22 (by decide) (by decide) dd_X0_add_9 (by omega) (by omega) ha1 ?_
  refine g_aloadn (pc := 10) (i := 0) (x := 21) hK dd_X0_add_10 rfl rfl ?_
  refine g_getv (pc := 11) (f := (1, 2)) (j := 1) (v := gR 23) hK (kdm kd_21) rfl ef_0 (by decide) rfl kk_162 dd_X0_add_11 rfl ?_
  refine g_aloadn (pc := 14) (i := 0) (x := 21) hK dd_X0_add_14 rfl rfl ?_
  refine g_geti (pc := 15) (f := (0, 0)) (j := 5) hK (kdm kd_21) rfl ef_0 (by decide) rfl kk_174 nl_21 dd_X0_add_15 rfl (fun x2 ex2 rx2 => ?_)
  replace ex2 : x2 = M 21 5 := ex2
  refine g_iloadn (pc := 18) (i := 2) (x := a2) hK dd_X0_add_18 rfl rfl ?_
  refine g_iast (pc := 19) hK (kdm kd_23) nl_23 (by decide) (by decide) dd_X0_add_19 (by omega) (by omega) ha2 ?_
  refine g_aloadn (pc := 20) (i := 0) (x := 21) hK dd_X0_add_20 rfl rfl ?_
  refine g_getv (pc := 21) (f := (1, 3)) (j := 2) (v := gR 24) hK (kdm kd_21) rfl ef_0 (by decide) rfl kk_165 dd_X0_add_21 rfl ?_
  refine g_aloadn (pc := 24) (i := 0) (x := 21) hK dd_X0_add_24 rfl rfl ?_
  refine g_geti (pc := 25) (f := (0, 0)) (j := 5) hK (kdm kd_21) rfl ef_0 (by decide) rfl kk_174 nl_21 dd_X0_add_25 rfl (fun x3 ex3 rx3 => ?_)
  replace ex3 : x3 = M 21 5 := ex3
  refine g_iloadn (pc := 28) (i := 3) (x := a3) hK dd_X0_add_28 rfl rfl ?_
  refine g_iast (pc := 29) hK (kdm kd_24) nl_24 (by decide) (by decide) dd_X0_add_29 (by omega) (by omega) ha3 ?_
  refine g_aloadn (pc := 30) (i := 0) (x := 21) hK dd_X0_add_30 rfl rfl ?_
  refine g_getv (pc := 31) (f := (1, 4)) (j := 3) (v := gR 25) hK (kdm kd_21) rfl ef_0 (by decide) rfl kk_168 dd_X0_add_31 rfl ?_
  refine g_aloadn (pc := 34) (i := 0) (x := 21) hK dd_X0_add_34 rfl rfl ?_
  refine g_geti (pc := 35) (f := (0, 0)) (j := 5) hK (kdm kd_21) rfl ef_0 (by decide) rfl kk_174 nl_21 dd_X0_add_35 rfl (fun x4 ex4 rx4 => ?_)
  replace ex4 : x4 = M 21 5 := ex4
  refine g_iload (pc := 38) (i := 4) (x := a4) hK dd_X0_add_38 rfl ?_
  refine g_iast (pc := 40) hK (kdm kd_25) nl_25 (by decide) (by decide) dd_X0_add_40 (by omega) (by omega) ha4 ?_
  refine g_aloadn (pc := 41) (i := 0) (x := 21) hK dd_X0_add_41 rfl rfl ?_
  refine g_getv (pc := 42) (f := (1, 5)) (j := 4) (v := gR 26) hK (kdm kd_21) rfl ef_0 (by decide) rfl kk_171 dd_X0_add_42 rfl ?_
  refine g_aloadn (pc := 45) (i := 0) (x := 21) hK dd_X0_add_45 rfl rfl ?_
  refine g_geti (pc := 46) (f := (0, 0)) (j := 5) hK (kdm kd_21) rfl ef_0 (by decide) rfl kk_174 nl_21 dd_X0_add_46 rfl (fun x5 ex5 rx5 => ?_)
  replace ex5 : x5 = M 21 5 := ex5
  refine g_iconst (pc := 49) (x := 0) hK dd_X0_add_49 (by decide) ?_
  refine g_iast (pc := 50) hK (kdm kd_26) nl_26 (by decide) (by decide) dd_X0_add_50 (by omega) (by omega) (by decide) ?_
  refine g_aloadn (pc := 51) (i := 0) (x := 21) hK dd_X0_add_51 rfl rfl ?_
  refine g_dup (pc := 52) hK dd_X0_add_52 rfl ?_
  refine g_geti (pc := 53) (f := (0, 0)) (j := 5) hK (kdm kd_21) rfl ef_0 (by decide) rfl kk_174 nl_21 dd_X0_add_53 rfl (fun x6 ex6 rx6 => ?_)
  replace ex6 : x6 = M 21 5 := ex6
  refine g_iconst (pc := 56) (x := 1) hK dd_X0_add_56 (by decide) ?_
  refine g_iadd (pc := 57) (z := x6 + 1) hK dd_X0_add_57 rfl ?_
  refine g_puti (pc := 58) (f := (0, 0)) (j := 5) (ty := .int) hK (kdm kd_21) rfl ef_0 (by decide) rfl kk_174 nl_21 (by decide) dd_X0_add_58 rfl rfl rfl rfl rfl ⟨by omega, by omega⟩ ?_
  refine g_aloadn (pc := 61) (i := 0) (x := 21) hK dd_X0_add_61 rfl rfl ?_
  refine g_geti (pc := 62) (f := (0, 0)) (j := 5) hK (kdm kd_21) rfl ef_0 (by decide) rfl kk_174 nl_21 dd_X0_add_62 rfl (fun x7 ex7 rx7 => ?_)
  replace ex7 : x7 = x6 + 1 := by first | exact ex7 | (rw [ex7]; simp [up, us, cp, sr])
  refine g_iconst (pc := 65) (x := 1) hK dd_X0_add_65 (by decide) ?_
  refine g_isub (pc := 66) (z := x7 - 1) hK dd_X0_add_66 rfl ?_
  refine g_iret (pc := 67) hK hr hlocks dd_X0_add_67 rfl ?_
  exact g_fin hQ (by first | rfl | omega | (subst_vars; first | rfl | omega)) (by first | rfl | (subst_vars; rfl))
set_option maxHeartbeats 4000000 in
set_option maxRecDepth 100000 in
theorem c_add_27 {l : Launch} {M : Mem} {Pq : Option gV → Mem → Prop} (a1 : Int) (a2 : Int) (a3 : Int) (a4 : Int) (hc : 0 ≤ M 27 4 ∧ M 27 4 < 20) (ha1 : inI a1) (ha2 : inI a2) (ha3 : inI a3) (ha4 : inI a4) (hQ : Pq (some (gI (M 27 4))) (up (up (up (up (up M 28 (M 27 4).toNat a1) 29 (M 27 4).toNat a2) 30 (M 27 4).toNat a3) 31 (M 27 4).toNat a4) 27 4 (M 27 4 + 1))) : gCtr l my_X8_add mb_X8_add 5 ((some .int)) 1 [gR 27, gI a1, gI a2, gI a3, gI a4] M Pq := by
  refine g_intro (by decide) (Nat.le_of_ble_eq_true rfl) ?_
  intro p e s m args below meth c D cy q A hK hr hlocks hw
  refine g_sub (L' := [(0, gR 27), (1, gI a1), (2, gI a2), (3, gI a3), (4, gI a4)]) [0, 1, 2, 3, 4] rfl ?_
  refine g_aloadn (pc := 0) (i := 0) (x := 27) hK dd_X8_add_0 rfl rfl ?_
  refine g_getv (pc := 1) (f := (1, 1)) (j := 0) (v := gR 28) hK (kdm kd_27) rfl ef_8 (by decide) rfl kk_196 dd_X8_add_1 rfl ?_
  refine g_aloadn (pc := 4) (i := 0) (x := 27) hK dd_X8_add_4 rfl rfl ?_
  refine g_geti (pc := 5) (f := (0, 0)) (j := 4) hK (kdm kd_27) rfl ef_8 (by decide) rfl kk_200 nl_27 dd_X8_add_5 rfl (fun x1 ex1 rx1 => ?_)
  refine g_iloadn (pc := 8) (i := 1) (x := a1) hK dd_X8_add_8 rfl rfl ?_
  refine g_iast (pc := 9) hK (kdm kd_28) nl_28 (by decide) (by decide) dd_X8_add_9 (by omega) (by omega) ha1 ?_
  refine g_aloadn (pc := 10) (i := 0) (x := 27) hK dd_X8_add_10 rfl rfl ?_
  refine g_getv (pc := 11) (f := (1, 2)) (j := 1) (v := gR 29) hK (kdm kd_27) rfl ef_8 (by decide) rfl kk_197 dd_X8_add_11 rfl ?_
  refine g_aloadn (pc := 14) (i := 0) (x := 27) hK dd_X8_add_14 rfl rfl ?_
  refine g_geti (pc := 15) (f := (0, 0)) (j := 4) hK (kdm kd_27) rfl ef_8 (by decide) rfl kk_200 nl_27 dd_X8_add_15 rfl (fun x2 ex2 rx2 => ?_)
  replace ex2 : x2 = M 27 4 := ex2
  refine g_iloadn (pc := 18) (i := 2) (x := a2) hK dd_X8_add_18 rfl rfl ?_
  refine g_iast (pc := 19) hK (kdm kd_29) nl_29 (by decide) (by decide) dd_X8_add_19 (by omega) (by omega) ha2 ?_
  refine g_aloadn (pc := 20) (i := 0) (x := 27) hK dd_X8_add_20 rfl rfl ?_
  refine g_getv (pc := 21) (f := (1, 3)) (j := 2) (v := gR 30) hK (kdm kd_27) rfl ef_8 (by decide) rfl kk_198 dd_X8_add_21 rfl ?_
  refine g_aloadn (pc := 24) (i := 0) (x := 27) hK dd_X8_add_24 rfl rfl ?_
  refine g_geti (pc := 25) (f := (0, 0)) (j := 4) hK (kdm kd_27) rfl ef_8 (by decide) rfl kk_200 nl_27 dd_X8_add_25 rfl (fun x3 ex3 rx3 => ?_)
  replace ex3 : x3 = M 27 4 := ex3
  refine g_iloadn (pc := 28) (i := 3) (x := a3) hK dd_X8_add_28 rfl rfl ?_
  refine g_iast (pc := 29) hK (kdm kd_30) nl_30 (by decide) (by decide) dd_X8_add_29 (by omega) (by omega) ha3 ?_
  refine g_aloadn (pc := 30) (i := 0) (x := 27) hK dd_X8_add_30 rfl rfl ?_
  refine g_getv (pc := 31) (f := (1, 4)) (j := 3) (v := gR 31) hK (kdm kd_27) rfl ef_8 (by decide) rfl kk_199 dd_X8_add_31 rfl ?_
  refine g_aloadn (pc := 34) (i := 0) (x := 27) hK dd_X8_add_34 rfl rfl ?_
  refine g_geti (pc := 35) (f := (0, 0)) (j := 4) hK (kdm kd_27) rfl ef_8 (by decide) rfl kk_200 nl_27 dd_X8_add_35 rfl (fun x4 ex4 rx4 => ?_)
  replace ex4 : x4 = M 27 4 := ex4
  refine g_iload (pc := 38) (i := 4) (x := a4) hK dd_X8_add_38 rfl ?_
  refine g_iast (pc := 40) hK (kdm kd_31) nl_31 (by decide) (by decide) dd_X8_add_40 (by omega) (by omega) ha4 ?_
  refine g_aloadn (pc := 41) (i := 0) (x := 27) hK dd_X8_add_41 rfl rfl ?_
  refine g_dup (pc := 42) hK dd_X8_add_42 rfl ?_
  refine g_geti (pc := 43) (f := (0, 0)) (j := 4) hK (kdm kd_27) rfl ef_8 (by decide) rfl kk_200 nl_27 dd_X8_add_43 rfl (fun x5 ex5 rx5 => ?_)
  replace ex5 : x5 = M 27 4 := ex5
  refine g_iconst (pc := 46) (x := 1) hK dd_X8_add_46 (by decide) ?_
  refine g_iadd (pc := 47) (z := x5 + 1) hK dd_X8_add_47 rfl ?_
  refine g_puti (pc := 48) (f := (0, 0)) (j := 4) (ty := .int) hK (kdm kd_27) rfl ef_8 (by decide) rfl kk_200 nl_27 (by decide) dd_X8_add_48 rfl rfl rfl rfl rfl ⟨by omega, by omega⟩ ?_
  refine g_aloadn (pc := 51) (i := 0) (x := 27) hK dd_X8_add_51 rfl rfl ?_
  refine g_geti (pc := 52) (f := (0, 0)) (j := 4) hK (kdm kd_27) rfl ef_8 (by decide) rfl kk_200 nl_27 dd_X8_add_52 rfl (fun x6 ex6 rx6 => ?_)
  replace ex6 : x6 = x5 + 1 := by first | exact ex6 | (rw [ex6]; simp [up, us, cp, sr])
  refine g_iconst (pc := 55) (x := 1) hK dd_X8_add_55 (by decide) ?_
  refine g_isub (pc := 56) (z := x6 - 1) hK dd_X8_add_56 rfl ?_
  refine g_iret (pc := 57) hK hr hlocks dd_X8_add_57 rfl ?_
  exact g_fin hQ (by first | rfl | omega | (subst_vars; first | rfl | omega)) (by first | rfl | (subst_vars; rfl))
set_option maxHeartbeats 4000000 in
set_option maxRecDepth 100000 in
theorem c_add_35 {l : Launch} {M : Mem} {Pq : Option gV → Mem → Prop} (a1 : Int) (a2 : Int) (hc : 0 ≤ M 35 2 ∧ M 35 2 < 10) (ha1 : inI a1) (ha2 : inI a2) (hQ : Pq (some (gI (M 35 2))) (up (up (up M 36 (M 35 2).toNat a1) 37 (M 35 2).toNat a2) 35 2 (M 35 2 + 1))) : gCtr l my_X6_add mb_X6_add 3 ((some .int)) 1 [gR 35, gI a1, gI a2] M Pq := by
  refine g_intro (by decide) (Nat.le_of_ble_eq_true rfl) ?_
  intro p e s m args below meth c D cy q A hK hr hlocks hw
  refine g_sub (L' := [(0, gR 35), (1, gI a1), (2, gI a2)]) [0, 1, 2] rfl ?_
  refine g_aloadn (pc := 0) (i := 0) (x := 35) hK dd_X6_add_0 rfl rfl ?_
  refine g_getv (pc := 1) (f := (1, 1)) (j := 0) (v := gR 36) hK (kdm kd_35) rfl ef_6 (by decide) rfl kk_228 dd_X6_add_1 rfl ?_
  refine g_aloadn (pc := 4) (i := 0) (x := 35) hK dd_X6_add_4 rfl rfl ?_
  refine g_geti (pc := 5) (f := (0, 0)) (j := 2) hK (kdm kd_35) rfl ef_6 (by decide) rfl kk_230 nl_35 dd_X6_add_5 rfl (fun x1 ex1 rx1 => ?_)
  refine g_iloadn (pc := 8) (i := 1) (x := a1) hK dd_X6_add_8 rfl rfl ?_
  refine g_iast (pc := 9) hK (kdm kd_36) nl_36 (by decide) (by decide) dd_X6_add_9 (by omega) (by omega) ha1 ?_
  refine g_aloadn (pc := 10) (i := 0) (x := 35) hK dd_X6_add_10 rfl rfl ?_
  refine g_getv (pc := 11) (f := (1, 2)) (j := 1) (v := gR 37) hK (kdm kd_35) rfl ef_6 (by decide) rfl kk_229 dd_X6_add_11 rfl ?_
  refine g_aloadn (pc := 14) (i := 0) (x := 35) hK dd_X6_add_14 rfl rfl ?_
  refine g_geti (pc := 15) (f := (0, 0)) (j := 2) hK (kdm kd_35) rfl ef_6 (by decide) rfl kk_230 nl_35 dd_X6_add_15 rfl (fun x2 ex2 rx2 => ?_)
  replace ex2 : x2 = M 35 2 := ex2
  refine g_iloadn (pc := 18) (i := 2) (x := a2) hK dd_X6_add_18 rfl rfl ?_
  refine g_iast (pc := 19) hK (kdm kd_37) nl_37 (by decide) (by decide) dd_X6_add_19 (by omega) (by omega) ha2 ?_
  refine g_aloadn (pc := 20) (i := 0) (x := 35) hK dd_X6_add_20 rfl rfl ?_
  refine g_dup (pc := 21) hK dd_X6_add_21 rfl ?_
  refine g_geti (pc := 22) (f := (0, 0)) (j := 2) hK (kdm kd_35) rfl ef_6 (by decide) rfl kk_230 nl_35 dd_X6_add_22 rfl (fun x3 ex3 rx3 => ?_)
  replace ex3 : x3 = M 35 2 := ex3
  refine g_iconst (pc := 25) (x := 1) hK dd_X6_add_25 (by decide) ?_
  refine g_iadd (pc := 26) (z := x3 + 1) hK dd_X6_add_26 rfl ?_
  refine g_puti (pc := 27) (f := (0, 0)) (j := 2) (ty := .int) hK (kdm kd_35) rfl ef_6 (by decide) rfl kk_230 nl_35 (by decide) dd_X6_add_27 rfl rfl rfl rfl rfl ⟨by omega, by omega⟩ ?_
  refine g_aloadn (pc := 30) (i := 0) (x := 35) hK dd_X6_add_30 rfl rfl ?_
  refine g_geti (pc := 31) (f := (0, 0)) (j := 2) hK (kdm kd_35) rfl ef_6 (by decide) rfl kk_230 nl_35 dd_X6_add_31 rfl (fun x4 ex4 rx4 => ?_)
  replace ex4 : x4 = x3 + 1 := by first | exact ex4 | (rw [ex4]; simp [up, us, cp, sr])
  refine g_iconst (pc := 34) (x := 1) hK dd_X6_add_34 (by decide) ?_
  refine g_isub (pc := 35) (z := x4 - 1) hK dd_X6_add_35 rfl ?_
  refine g_iret (pc := 36) hK hr hlocks dd_X6_add_36 rfl ?_
  exact g_fin hQ (by first | rfl | omega | (subst_vars; first | rfl | omega)) (by first | rfl | (subst_vars; rfl))
set_option maxHeartbeats 4000000 in
set_option maxRecDepth 100000 in
theorem c_mayTell {l : Launch} {M : Mem} {Pq : Option gV → Mem → Prop} (pt : Int) (x : Int) (h1 : 0 ≤ pt ∧ pt ≤ 4) (h2 : inI x) (hT : (STF 1 pt.toNat ≤ x ∧ x ≤ STF 2 pt.toNat) → Pq (some (gI 1)) M) (hF : ¬ (STF 1 pt.toNat ≤ x ∧ x ≤ STF 2 pt.toNat) → Pq (some (gI 0)) M) : gCtr l my_X3_mayTell mb_X3_mayTell 2 ((some .boolean)) 2 [gI pt, gI x] M Pq := by
  refine g_intro (by decide) (Nat.le_of_ble_eq_true rfl) ?_
  intro p e s m args below meth c D cy q A hK hr hlocks hw
  refine g_sub (L' := [(0, gI pt), (1, gI x)]) [0, 1] rfl ?_
  have ha := stf_in 1 pt.toNat
  have hb2 := stf_in 2 pt.toNat
  refine g_iloadn (pc := 0) (i := 1) (x := x) hK dd_X3_mayTell_0 rfl rfl ?_
  refine g_gets (pc := 1) hK 1 rfl kk_691 dd_X3_mayTell_1 ?_
  refine g_iloadn (pc := 4) (i := 0) (x := pt) hK dd_X3_mayTell_4 rfl rfl ?_
  refine g_siald (pc := 5) hK 1 rfl (by decide) dd_X3_mayTell_5 (by omega) (by omega) ?_
  refine g_topv (v := gI (STF 1 pt.toNat)) rfl ?_
  refine g_gets (pc := 6) hK 2 rfl kk_693 dd_X3_mayTell_6 ?_
  refine g_iloadn (pc := 9) (i := 0) (x := pt) hK dd_X3_mayTell_9 rfl rfl ?_
  refine g_siald (pc := 10) hK 2 rfl (by decide) dd_X3_mayTell_10 (by omega) (by omega) ?_
  refine g_topv (v := gI (STF 2 pt.toNat)) rfl ?_
  refine g_callTN (pc := 11) (As := [gI x, gI (STF 1 pt.toNat), gI (STF 2 pt.toNat)]) hK ws_Laws_28 md_X11_within ⟨Nat.zero_le _, Nat.zero_le _⟩ ⟨by decide, by decide⟩ dd_X3_mayTell_11 rfl rfl (Nat.le_of_ble_eq_true rfl) (c_within x (STF 1 pt.toNat) (STF 2 pt.toNat) h2 (stf_in _ _) (stf_in _ _) (fun c1 => g_r1 ?_) (fun c1 => g_r1 ?_))
  · refine g_iret (pc := 14) hK hr hlocks dd_X3_mayTell_14 rfl ?_
    exact g_finM (hT (by subst_vars; first | assumption | omega | simp_all)) (by first | rfl | (subst_vars; rfl))
  · refine g_iret (pc := 14) hK hr hlocks dd_X3_mayTell_14 rfl ?_
    exact g_finM (hF (by subst_vars; first | assumption | omega | simp_all)) (by first | rfl | (subst_vars; rfl))
set_option maxHeartbeats 4000000 in
set_option maxRecDepth 100000 in
theorem c_partN {l : Launch} {M : Mem} {Pq : Option gV → Mem → Prop} (lw : Int) (x : Int) (h1 : inI lw) (h2 : 0 ≤ x ∧ x ≤ 4) (h3 : 0 ≤ M 18 2 ∧ M 18 2 ≤ 6) (hQ : Pq (some (gI (lpt (M 19) (M 18 2) lw x))) M) : gCtr l my_X3_part mb_X3_part 3 ((some .int)) 3 [gR 18, gI lw, gI x] M Pq := by
  refine g_intro (by decide) (Nat.le_of_ble_eq_true rfl) ?_
  intro p e s m args below meth c D cy q A hK hr hlocks hw
  refine g_sub (L' := [(0, gR 18), (1, gI lw), (2, gI x)]) [0, 1, 2] rfl ?_
  refine g_aloadn (pc := 0) (i := 0) (x := 18) hK dd_X3_part_0 rfl rfl ?_
  refine g_iloadn (pc := 1) (i := 1) (x := lw) hK dd_X3_part_1 rfl rfl ?_
  refine g_callV (pc := 2) (As := [gI lw]) hK ws_Laws_32 md_X3_has ⟨Nat.zero_le _, Nat.zero_le _⟩ ⟨by decide, by decide⟩ (kdm kd_18) rfl rfl dd_X3_part_2 rfl rfl (Nat.le_of_ble_eq_true rfl) (c_has_18 lw h1 (show 0 ≤ M 18 2 ∧ M 18 2 ≤ 6 by omega) (fun c1 => g_r1 ?_) (fun c1 => g_r1 ?_))
  · refine g_if_eq (pc := 5) (tgt := 21) hK dd_X3_part_5 (by decide) (by decide) (fun c2 => absurd c2 (by decide)) (fun _ => ?_)
    refine g_aloadn (pc := 8) (i := 0) (x := 18) hK dd_X3_part_8 rfl rfl ?_
    refine g_getv (pc := 9) (f := (1, 1)) (j := 0) (v := gR 19) hK (kdm kd_18) rfl ef_3 (by decide) rfl kk_141 dd_X3_part_9 rfl ?_
    refine g_iloadn (pc := 12) (i := 1) (x := lw) hK dd_X3_part_12 rfl rfl ?_
    refine g_iconst (pc := 13) (x := 5) hK dd_X3_part_13 (by decide) ?_
    refine g_imul (pc := 14) (z := lw * 5) hK dd_X3_part_14 rfl ?_
    refine g_iloadn (pc := 15) (i := 2) (x := x) hK dd_X3_part_15 rfl rfl ?_
    refine g_iadd (pc := 16) (z := (lw * 5) + x) hK dd_X3_part_16 rfl ?_
    refine g_iald (pc := 17) hK (kdm kd_19) nl_19 (by decide) dd_X3_part_17 (by omega) (by omega) (fun x3 ex3 rx3 => ?_)
    refine g_goto (pc := 18) (tgt := 26) hK dd_X3_part_18 (by decide) ?_
    refine g_iret (pc := 26) hK hr hlocks dd_X3_part_26 rfl ?_
    exact g_fin hQ (by first | (rw [lpt_1 (by omega)]; subst_vars; rfl) | rw [lpt_0 (by omega)]) (by first | rfl | (subst_vars; rfl))
  · refine g_if_eq (pc := 5) (tgt := 21) hK dd_X3_part_5 (by decide) (by decide) (fun _ => ?_) (fun c4 => absurd (by decide) c4)
    refine g_gets (pc := 21) hK 0 rfl kk_610 dd_X3_part_21 ?_
    refine g_iloadn (pc := 24) (i := 2) (x := x) hK dd_X3_part_24 rfl rfl ?_
    refine g_siald (pc := 25) hK 0 rfl (by decide) dd_X3_part_25 (by omega) (by omega) ?_
    refine g_topv (v := gI (STF 0 x.toNat)) rfl ?_
    refine g_iret (pc := 26) hK hr hlocks dd_X3_part_26 rfl ?_
    exact g_fin hQ (by first | (rw [lpt_1 (by omega)]; subst_vars; rfl) | rw [lpt_0 (by omega)]) (by first | rfl | (subst_vars; rfl))
set_option maxHeartbeats 4000000 in
set_option maxRecDepth 100000 in
theorem c_clearDraft {l : Launch} {M : Mem} {Pq : Option gV → Mem → Prop}  (hQ : Pq none (cp M 20 (STF 0) 0 0 5)) : gCtr l my_X3_clearDraft mb_X3_clearDraft 1 ((none : Option Jvm.ClassFile.FieldType)) 1 [gR 18] M Pq := by
  refine g_intro (by decide) (Nat.le_of_ble_eq_true rfl) ?_
  intro p e s m args below meth c D cy q A hK hr hlocks hw
  refine g_sub (L' := [(0, gR 18)]) [0] rfl ?_
  refine g_gets (pc := 0) hK 0 rfl kk_610 dd_X3_clearDraft_0 ?_
  refine g_iconst (pc := 3) (x := 0) hK dd_X3_clearDraft_3 (by decide) ?_
  refine g_aloadn (pc := 4) (i := 0) (x := 18) hK dd_X3_clearDraft_4 rfl rfl ?_
  refine g_getv (pc := 5) (f := (1, 2)) (j := 1) (v := gR 20) hK (kdm kd_18) rfl ef_3 (by decide) rfl kk_142 dd_X3_clearDraft_5 rfl ?_
  refine g_iconst (pc := 8) (x := 0) hK dd_X3_clearDraft_8 (by decide) ?_
  refine g_iconst (pc := 9) (x := 5) hK dd_X3_clearDraft_9 (by decide) ?_
  refine g_copyx (pc := 10) (f := STF 0) 0 rfl (stf_in 0) hK wa_Laws_39 (kdm kd_20) nl_20 (by decide) (by decide) (by decide) (by decide) (by decide) (by decide) (by omega) (by omega) ⟨by decide, by decide⟩ (Nat.le_of_ble_eq_true rfl) dd_X3_clearDraft_10 ?_
  refine g_vret (pc := 13) hK hr hlocks dd_X3_clearDraft_13 ?_
  exact g_finM hQ (by first | rfl | (subst_vars; rfl))
set_option maxHeartbeats 4000000 in
set_option maxRecDepth 100000 in
theorem c_addDraft {l : Launch} {M : Mem} {Pq : Option gV → Mem → Prop} (hc : 0 ≤ M 18 2 ∧ M 18 2 < 6) (hQ : Pq (some (gI (M 18 2))) (up (cp M 19 (M 20) 0 (M 18 2 * 5).toNat 5) 18 2 (M 18 2 + 1))) : gCtr l my_X3_addDraft mb_X3_addDraft 1 ((some .int)) 1 [gR 18] M Pq := by
  refine g_intro (by decide) (Nat.le_of_ble_eq_true rfl) ?_
  intro p e s m args below meth c D cy q A hK hr hlocks hw
  refine g_sub (L' := [(0, gR 18)]) [0] rfl ?_
  refine g_aloadn (pc := 0) (i := 0) (x := 18) hK dd_X3_addDraft_0 rfl rfl ?_
  refine g_getv (pc := 1) (f := (1, 2)) (j := 1) (v := gR 20) hK (kdm kd_18) rfl ef_3 (by decide) rfl kk_142 dd_X3_addDraft_1 rfl ?_
  refine g_iconst (pc := 4) (x := 0) hK dd_X3_addDraft_4 (by decide) ?_
  refine g_aloadn (pc := 5) (i := 0) (x := 18) hK dd_X3_addDraft_5 rfl rfl ?_
  refine g_getv (pc := 6) (f := (1, 1)) (j := 0) (v := gR 19) hK (kdm kd_18) rfl ef_3 (by decide) rfl kk_141 dd_X3_addDraft_6 rfl ?_
  refine g_aloadn (pc := 9) (i := 0) (x := 18) hK dd_X3_addDraft_9 rfl rfl ?_
  refine g_geti (pc := 10) (f := (0, 0)) (j := 2) hK (kdm kd_18) rfl ef_3 (by decide) rfl kk_144 nl_18 dd_X3_addDraft_10 rfl (fun x1 ex1 rx1 => ?_)
  refine g_iconst (pc := 13) (x := 5) hK dd_X3_addDraft_13 (by decide) ?_
  refine g_imul (pc := 14) (z := x1 * 5) hK dd_X3_addDraft_14 rfl ?_
  refine g_iconst (pc := 15) (x := 5) hK dd_X3_addDraft_15 (by decide) ?_
  refine g_copyi (pc := 16) hK wa_Laws_39 (kdm kd_20) (kdm kd_19) nl_20 nl_19 (by decide) (by decide) (by decide) (by decide) (by omega) (by decide) (by omega) (by omega) ⟨by decide, by decide⟩ (Nat.le_of_ble_eq_true rfl) dd_X3_addDraft_16 ?_
  refine g_aloadn (pc := 19) (i := 0) (x := 18) hK dd_X3_addDraft_19 rfl rfl ?_
  refine g_dup (pc := 20) hK dd_X3_addDraft_20 rfl ?_
  refine g_geti (pc := 21) (f := (0, 0)) (j := 2) hK (kdm kd_18) rfl ef_3 (by decide) rfl kk_144 nl_18 dd_X3_addDraft_21 rfl (fun x2 ex2 rx2 => ?_)
  replace ex2 : x2 = M 18 2 := ex2
  refine g_iconst (pc := 24) (x := 1) hK dd_X3_addDraft_24 (by decide) ?_
  refine g_iadd (pc := 25) (z := x2 + 1) hK dd_X3_addDraft_25 rfl ?_
  refine g_puti (pc := 26) (f := (0, 0)) (j := 2) (ty := .int) hK (kdm kd_18) rfl ef_3 (by decide) rfl kk_144 nl_18 (by decide) dd_X3_addDraft_26 rfl rfl rfl rfl rfl ⟨by omega, by omega⟩ ?_
  refine g_aloadn (pc := 29) (i := 0) (x := 18) hK dd_X3_addDraft_29 rfl rfl ?_
  refine g_geti (pc := 30) (f := (0, 0)) (j := 2) hK (kdm kd_18) rfl ef_3 (by decide) rfl kk_144 nl_18 dd_X3_addDraft_30 rfl (fun x3 ex3 rx3 => ?_)
  replace ex3 : x3 = x2 + 1 := by first | exact ex3 | (rw [ex3]; simp [up, us, cp, sr])
  refine g_iconst (pc := 33) (x := 1) hK dd_X3_addDraft_33 (by decide) ?_
  refine g_isub (pc := 34) (z := x3 - 1) hK dd_X3_addDraft_34 rfl ?_
  refine g_iret (pc := 35) hK hr hlocks dd_X3_addDraft_35 rfl ?_
  exact g_fin hQ (by first | rfl | omega | (subst_vars; first | rfl | omega)) (by first | rfl | (subst_vars; rfl))
