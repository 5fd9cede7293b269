set_option maxHeartbeats 4000000 in
set_option maxRecDepth 100000 in
theorem c_mayBeOf {l : Launch} {M : Mem} {Pq : Option gV → Mem → Prop} (i : Int) (j : Int) (h1 : 0 ≤ i ∧ i < 20) (h2 : 0 ≤ j ∧ j < 20) (hT : (mbe (M 28) (M 29) (M 30) (M 31) i.toNat j.toNat) → Pq (some (gI 1)) M) (hF : ¬ (mbe (M 28) (M 29) (M 30) (M 31) i.toNat j.toNat) → Pq (some (gI 0)) M) : gCtr l my_X8_mayBeOf mb_X8_mayBeOf 3 ((some .boolean)) 1 [gR 27, gI i, gI j] M Pq := by
  refine g_intro (by decide) (Nat.le_of_ble_eq_true rfl) ?_
  intro p e s m args below meth c D cy q A hK hr hlocks hw
  refine g_sub (L' := [(0, gR 27), (1, gI i), (2, gI j)]) [0, 1, 2] rfl ?_
  refine g_aloadn (pc := 0) (i := 0) (x := 27) hK dd_X8_mayBeOf_0 rfl rfl ?_
  refine g_getv (pc := 1) (f := (1, 1)) (j := 0) (v := gR 28) hK (kdm kd_27) rfl ef_8 (by decide) rfl kk_196 dd_X8_mayBeOf_1 rfl ?_
  refine g_iloadn (pc := 4) (i := 1) (x := i) hK dd_X8_mayBeOf_4 rfl rfl ?_
  refine g_iald (pc := 5) hK (kdm kd_28) nl_28 (by decide) dd_X8_mayBeOf_5 (by omega) (by omega) (fun x1 ex1 rx1 => ?_)
  refine g_aloadn (pc := 6) (i := 0) (x := 27) hK dd_X8_mayBeOf_6 rfl rfl ?_
  refine g_getv (pc := 7) (f := (1, 1)) (j := 0) (v := gR 28) hK (kdm kd_27) rfl ef_8 (by decide) rfl kk_196 dd_X8_mayBeOf_7 rfl ?_
  refine g_iloadn (pc := 10) (i := 2) (x := j) hK dd_X8_mayBeOf_10 rfl rfl ?_
  refine g_iald (pc := 11) hK (kdm kd_28) nl_28 (by decide) dd_X8_mayBeOf_11 (by omega) (by omega) (fun x2 ex2 rx2 => ?_)
  refine g_icmp_ge (pc := 12) (tgt := 72) hK dd_X8_mayBeOf_12 (by decide) rx1 rx2 (fun c3 => ?_) (fun c3 => ?_)
  · refine g_iconst (pc := 72) (x := 0) hK dd_X8_mayBeOf_72 (by decide) ?_
    refine g_iret (pc := 73) hK hr hlocks dd_X8_mayBeOf_73 rfl ?_
    exact g_finM (hF (by unfold mbe; subst_vars; omega)) (by first | rfl | (subst_vars; rfl))
  · refine g_aloadn (pc := 15) (i := 0) (x := 27) hK dd_X8_mayBeOf_15 rfl rfl ?_
    refine g_getv (pc := 16) (f := (1, 2)) (j := 1) (v := gR 29) hK (kdm kd_27) rfl ef_8 (by decide) rfl kk_197 dd_X8_mayBeOf_16 rfl ?_
    refine g_iloadn (pc := 19) (i := 1) (x := i) hK dd_X8_mayBeOf_19 rfl rfl ?_
    refine g_iald (pc := 20) hK (kdm kd_29) nl_29 (by decide) dd_X8_mayBeOf_20 (by omega) (by omega) (fun x4 ex4 rx4 => ?_)
    refine g_aloadn (pc := 21) (i := 0) (x := 27) hK dd_X8_mayBeOf_21 rfl rfl ?_
    refine g_getv (pc := 22) (f := (1, 2)) (j := 1) (v := gR 29) hK (kdm kd_27) rfl ef_8 (by decide) rfl kk_197 dd_X8_mayBeOf_22 rfl ?_
    refine g_iloadn (pc := 25) (i := 2) (x := j) hK dd_X8_mayBeOf_25 rfl rfl ?_
    refine g_iald (pc := 26) hK (kdm kd_29) nl_29 (by decide) dd_X8_mayBeOf_26 (by omega) (by omega) (fun x5 ex5 rx5 => ?_)
    refine g_iconst (pc := 27) (x := (-1)) hK dd_X8_mayBeOf_27 (by decide) ?_
    refine g_ixor (pc := 28) (z := jxor x5 (-1)) hK dd_X8_mayBeOf_28 rfl ?_
    refine g_iand (pc := 29) (z := jand x4 (jxor x5 (-1))) hK dd_X8_mayBeOf_29 rfl ?_
    refine g_if_ne (pc := 30) (tgt := 72) hK dd_X8_mayBeOf_30 (by decide) (jand_in _ _) (fun c6 => ?_) (fun c6 => ?_)
    · refine g_iconst (pc := 72) (x := 0) hK dd_X8_mayBeOf_72 (by decide) ?_
      refine g_iret (pc := 73) hK hr hlocks dd_X8_mayBeOf_73 rfl ?_
      exact g_finM (hF (by unfold mbe; subst_vars; omega)) (by first | rfl | (subst_vars; rfl))
    · refine g_aloadn (pc := 33) (i := 0) (x := 27) hK dd_X8_mayBeOf_33 rfl rfl ?_
      refine g_getv (pc := 34) (f := (1, 4)) (j := 3) (v := gR 31) hK (kdm kd_27) rfl ef_8 (by decide) rfl kk_199 dd_X8_mayBeOf_34 rfl ?_
      refine g_iloadn (pc := 37) (i := 1) (x := i) hK dd_X8_mayBeOf_37 rfl rfl ?_
      refine g_iald (pc := 38) hK (kdm kd_31) nl_31 (by decide) dd_X8_mayBeOf_38 (by omega) (by omega) (fun x7 ex7 rx7 => ?_)
      refine g_iconst (pc := 39) (x := (-1)) hK dd_X8_mayBeOf_39 (by decide) ?_
      refine g_icmp_eq (pc := 40) (tgt := 68) hK dd_X8_mayBeOf_40 (by decide) rx7 (by decide) (fun c8 => ?_) (fun c8 => ?_)
      · refine g_iconst (pc := 68) (x := 1) hK dd_X8_mayBeOf_68 (by decide) ?_
        refine g_goto (pc := 69) (tgt := 73) hK dd_X8_mayBeOf_69 (by decide) ?_
        refine g_iret (pc := 73) hK hr hlocks dd_X8_mayBeOf_73 rfl ?_
        exact g_finM (hT (by unfold mbe; subst_vars; omega)) (by first | rfl | (subst_vars; rfl))
      · refine g_aloadn (pc := 43) (i := 0) (x := 27) hK dd_X8_mayBeOf_43 rfl rfl ?_
        refine g_getv (pc := 44) (f := (1, 3)) (j := 2) (v := gR 30) hK (kdm kd_27) rfl ef_8 (by decide) rfl kk_198 dd_X8_mayBeOf_44 rfl ?_
        refine g_iloadn (pc := 47) (i := 2) (x := j) hK dd_X8_mayBeOf_47 rfl rfl ?_
        refine g_iald (pc := 48) hK (kdm kd_30) nl_30 (by decide) dd_X8_mayBeOf_48 (by omega) (by omega) (fun x9 ex9 rx9 => ?_)
        refine g_iconst (pc := 49) (x := (-1)) hK dd_X8_mayBeOf_49 (by decide) ?_
        refine g_icmp_eq (pc := 50) (tgt := 68) hK dd_X8_mayBeOf_50 (by decide) rx9 (by decide) (fun c10 => ?_) (fun c10 => ?_)
        · refine g_iconst (pc := 68) (x := 1) hK dd_X8_mayBeOf_68 (by decide) ?_
          refine g_goto (pc := 69) (tgt := 73) hK dd_X8_mayBeOf_69 (by decide) ?_
          refine g_iret (pc := 73) hK hr hlocks dd_X8_mayBeOf_73 rfl ?_
          exact g_finM (hT (by unfold mbe; subst_vars; omega)) (by first | rfl | (subst_vars; rfl))
        · refine g_aloadn (pc := 53) (i := 0) (x := 27) hK dd_X8_mayBeOf_53 rfl rfl ?_
          refine g_getv (pc := 54) (f := (1, 4)) (j := 3) (v := gR 31) hK (kdm kd_27) rfl ef_8 (by decide) rfl kk_199 dd_X8_mayBeOf_54 rfl ?_
          refine g_iloadn (pc := 57) (i := 1) (x := i) hK dd_X8_mayBeOf_57 rfl rfl ?_
          refine g_iald (pc := 58) hK (kdm kd_31) nl_31 (by decide) dd_X8_mayBeOf_58 (by omega) (by omega) (fun x11 ex11 rx11 => ?_)
          refine g_aloadn (pc := 59) (i := 0) (x := 27) hK dd_X8_mayBeOf_59 rfl rfl ?_
          refine g_getv (pc := 60) (f := (1, 3)) (j := 2) (v := gR 30) hK (kdm kd_27) rfl ef_8 (by decide) rfl kk_198 dd_X8_mayBeOf_60 rfl ?_
          refine g_iloadn (pc := 63) (i := 2) (x := j) hK dd_X8_mayBeOf_63 rfl rfl ?_
          refine g_iald (pc := 64) hK (kdm kd_30) nl_30 (by decide) dd_X8_mayBeOf_64 (by omega) (by omega) (fun x12 ex12 rx12 => ?_)
          refine g_icmp_ne (pc := 65) (tgt := 72) hK dd_X8_mayBeOf_65 (by decide) rx11 rx12 (fun c13 => ?_) (fun c13 => ?_)
          · refine g_iconst (pc := 72) (x := 0) hK dd_X8_mayBeOf_72 (by decide) ?_
            refine g_iret (pc := 73) hK hr hlocks dd_X8_mayBeOf_73 rfl ?_
            exact g_finM (hF (by unfold mbe; subst_vars; omega)) (by first | rfl | (subst_vars; rfl))
          · refine g_iconst (pc := 68) (x := 1) hK dd_X8_mayBeOf_68 (by decide) ?_
            refine g_goto (pc := 69) (tgt := 73) hK dd_X8_mayBeOf_69 (by decide) ?_
            refine g_iret (pc := 73) hK hr hlocks dd_X8_mayBeOf_73 rfl ?_
            exact g_finM (hT (by unfold mbe; subst_vars; omega)) (by first | rfl | (subst_vars; rfl))
