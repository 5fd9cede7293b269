set_option maxHeartbeats 4000000 in
set_option maxRecDepth 100000 in
theorem c_countLeft {l : Launch} {M : Mem} {Pq : Option gV → Mem → Prop} (hc : 0 ≤ M 6 6 ∧ M 6 6 ≤ 30) (hQ : Pq (some (gI (cntL (M 11) (M 6 6).toNat))) M) : gCtr l my_X10_countLeft mb_X10_countLeft 3 ((some .int)) 2 [gR 6] M Pq := by
  refine g_intro (by decide) (Nat.le_of_ble_eq_true rfl) ?_
  intro p e s m args below meth c D cy q A hK hr hlocks hw
  refine g_sub (L' := [(0, gR 6)]) [0] rfl ?_
  refine g_iconst (pc := 0) (x := 0) hK dd_X10_countLeft_0 (by decide) ?_
  refine g_istoren (pc := 1) (i := 1) (L' := [(0, gR 6), (1, gI 0)]) hK dd_X10_countLeft_1 rfl (by decide) rfl ?_
  refine g_iconst (pc := 2) (x := 0) hK dd_X10_countLeft_2 (by decide) ?_
  refine g_istoren (pc := 3) (i := 2) (L' := [(0, gR 6), (1, gI 0), (2, gI 0)]) hK dd_X10_countLeft_3 rfl (by decide) rfl ?_
  have lp3 : ∀ (n1 : Nat) (left : Int) (t : Int), (0 ≤ t ∧ t ≤ M 6 6) → (left = cntL (M 11) t.toNat) → (M 6 6 - t).toNat < n1 → G p l e (rmD 2) s m args below meth c D cy q A 0 0 3 (MQ below (gQc D cy q A Pq) args s 0 0 A) 4 [(0, gR 6), (1, gI left), (2, gI t)] [] M := by
    intro n1
    induction n1 with
    | zero => intro left t iv4 iv5 hm6; exact absurd hm6 (Nat.not_lt_zero _)
    | succ n1 ih2 =>
      intro left t iv4 iv5 hm6
      refine g_iloadn (pc := 4) (i := 2) (x := t) hK dd_X10_countLeft_4 rfl rfl ?_
      refine g_aloadn (pc := 5) (i := 0) (x := 6) hK dd_X10_countLeft_5 rfl rfl ?_
      refine g_geti (pc := 6) (f := (0, 0)) (j := 6) hK (kdm kd_6) rfl ef_10 (by decide) rfl kk_86 nl_6 dd_X10_countLeft_6 rfl (fun x7 ex7 rx7 => ?_)
      refine g_icmp_ge (pc := 9) (tgt := 29) hK dd_X10_countLeft_9 (by decide) ⟨by omega, by omega⟩ rx7 (fun c8 => ?_) (fun c8 => ?_)
      · refine g_iloadn (pc := 29) (i := 1) (x := left) hK dd_X10_countLeft_29 rfl rfl ?_
        refine g_iret (pc := 30) hK hr hlocks dd_X10_countLeft_30 rfl ?_
        exact g_fin hQ (by first | rfl | omega | (subst_vars; first | rfl | omega)) (by first | rfl | (subst_vars; rfl))
      · refine g_aloadn (pc := 12) (i := 0) (x := 6) hK dd_X10_countLeft_12 rfl rfl ?_
        refine g_iloadn (pc := 13) (i := 2) (x := t) hK dd_X10_countLeft_13 rfl rfl ?_
        refine g_callV (pc := 14) (As := [gI t]) hK ws_Things_41 md_X10_isSold ⟨Nat.zero_le _, Nat.zero_le _⟩ ⟨by decide, by decide⟩ (kdm kd_6) rfl rfl dd_X10_countLeft_14 rfl rfl (Nat.le_of_ble_eq_true rfl) (c_isSold t (by omega) (by omega) (fun c9 => g_r1 ?_) (fun c9 => g_r1 ?_))
        · refine g_if_ne (pc := 17) (tgt := 23) hK dd_X10_countLeft_17 (by decide) (by decide) (fun _ => ?_) (fun c10 => absurd (by decide) c10)
          refine g_iinc (pc := 23) (i := 2) (y := t + 1) (L' := [(0, gR 6), (1, gI left), (2, gI (t + 1))]) hK dd_X10_countLeft_23 rfl rfl (by decide) rfl ?_
          refine g_goto (pc := 26) (tgt := 4) hK dd_X10_countLeft_26 (by decide) ?_
          refine g_sub (L' := [(0, gR 6), (1, gI left), (2, gI (t + 1))]) [0, 1, 2] rfl ?_
          exact ih2 left (t + 1) (by omega) (by rw [tn1 (by omega)]; simp only [cntL]; split <;> omega) (by omega)
        · refine g_if_ne (pc := 17) (tgt := 23) hK dd_X10_countLeft_17 (by decide) (by decide) (fun c11 => absurd c11 (by decide)) (fun _ => ?_)
          refine g_iinc (pc := 20) (i := 1) (y := left + 1) (L' := [(0, gR 6), (1, gI (left + 1)), (2, gI t)]) hK dd_X10_countLeft_20 rfl rfl (by decide) rfl ?_
          refine g_iinc (pc := 23) (i := 2) (y := t + 1) (L' := [(0, gR 6), (1, gI (left + 1)), (2, gI (t + 1))]) hK dd_X10_countLeft_23 rfl rfl (by decide) rfl ?_
          refine g_goto (pc := 26) (tgt := 4) hK dd_X10_countLeft_26 (by decide) ?_
          refine g_sub (L' := [(0, gR 6), (1, gI (left + 1)), (2, gI (t + 1))]) [0, 1, 2] rfl ?_
          exact ih2 (left + 1) (t + 1) (by omega) (by rw [tn1 (by omega)]; simp only [cntL]; split <;> omega) (by omega)
  refine g_sub (L' := [(0, gR 6), (1, gI 0), (2, gI 0)]) [0, 1, 2] rfl ?_
  exact lp3 _ 0 0 (by omega) (rfl) (Nat.lt_succ_self _)
set_option maxHeartbeats 4000000 in
set_option maxRecDepth 100000 in
theorem c_add10 {l : Launch} {M : Mem} {Pq : Option gV → Mem → Prop} (k : Int) (w : Int) (ch : Int) (hc : 0 ≤ M 6 6 ∧ M 6 6 < 30) (h1 : inI k) (h2 : inI w) (h3 : inI ch) (hQ : Pq (some (gI (M 6 6))) (up (up (up (up (up (up (up M 7 (M 6 6).toNat k) 8 (M 6 6).toNat w) 9 (M 6 6).toNat ch) 10 (M 6 6).toNat (-1)) 11 (M 6 6).toNat (-1)) 12 (M 6 6).toNat (-1)) 6 6 (M 6 6 + 1))) : gCtr l my_X10_add mb_X10_add 4 ((some .int)) 1 [gR 6, gI k, gI w, gI ch] M Pq := by
  refine g_intro (by decide) (Nat.le_of_ble_eq_true rfl) ?_
  intro p e s m args below meth c D cy q A hK hr hlocks hw
  refine g_sub (L' := [(0, gR 6), (1, gI k), (2, gI w), (3, gI ch)]) [0, 1, 2, 3] rfl ?_
  refine g_aloadn (pc := 0) (i := 0) (x := 6) hK dd_X10_add_0 rfl rfl ?_
  refine g_getv (pc := 1) (f := (1, 1)) (j := 0) (v := gR 7) hK (kdm kd_6) rfl ef_10 (by decide) rfl kk_66 dd_X10_add_1 rfl ?_
  refine g_aloadn (pc := 4) (i := 0) (x := 6) hK dd_X10_add_4 rfl rfl ?_
  refine g_geti (pc := 5) (f := (0, 0)) (j := 6) hK (kdm kd_6) rfl ef_10 (by decide) rfl kk_86 nl_6 dd_X10_add_5 rfl (fun x1 ex1 rx1 => ?_)
  refine g_iloadn (pc := 8) (i := 1) (x := k) hK dd_X10_add_8 rfl rfl ?_
  refine g_iast (pc := 9) hK (kdm kd_7) nl_7 (by decide) (by decide) dd_X10_add_9 (by omega) (by omega) h1 ?_
  refine g_aloadn (pc := 10) (i := 0) (x := 6) hK dd_X10_add_10 rfl rfl ?_
  refine g_getv (pc := 11) (f := (1, 2)) (j := 1) (v := gR 8) hK (kdm kd_6) rfl ef_10 (by decide) rfl kk_70 dd_X10_add_11 rfl ?_
  refine g_aloadn (pc := 14) (i := 0) (x := 6) hK dd_X10_add_14 rfl rfl ?_
  refine g_geti (pc := 15) (f := (0, 0)) (j := 6) hK (kdm kd_6) rfl ef_10 (by decide) rfl kk_86 nl_6 dd_X10_add_15 rfl (fun x2 ex2 rx2 => ?_)
  replace ex2 : x2 = M 6 6 := ex2
  refine g_iloadn (pc := 18) (i := 2) (x := w) hK dd_X10_add_18 rfl rfl ?_
  refine g_iast (pc := 19) hK (kdm kd_8) nl_8 (by decide) (by decide) dd_X10_add_19 (by omega) (by omega) h2 ?_
  refine g_aloadn (pc := 20) (i := 0) (x := 6) hK dd_X10_add_20 rfl rfl ?_
  refine g_getv (pc := 21) (f := (1, 3)) (j := 2) (v := gR 9) hK (kdm kd_6) rfl ef_10 (by decide) rfl kk_72 dd_X10_add_21 rfl ?_
  refine g_aloadn (pc := 24) (i := 0) (x := 6) hK dd_X10_add_24 rfl rfl ?_
  refine g_geti (pc := 25) (f := (0, 0)) (j := 6) hK (kdm kd_6) rfl ef_10 (by decide) rfl kk_86 nl_6 dd_X10_add_25 rfl (fun x3 ex3 rx3 => ?_)
  replace ex3 : x3 = M 6 6 := ex3
  refine g_iloadn (pc := 28) (i := 3) (x := ch) hK dd_X10_add_28 rfl rfl ?_
  refine g_iast (pc := 29) hK (kdm kd_9) nl_9 (by decide) (by decide) dd_X10_add_29 (by omega) (by omega) h3 ?_
  refine g_aloadn (pc := 30) (i := 0) (x := 6) hK dd_X10_add_30 rfl rfl ?_
  refine g_getv (pc := 31) (f := (1, 4)) (j := 3) (v := gR 10) hK (kdm kd_6) rfl ef_10 (by decide) rfl kk_74 dd_X10_add_31 rfl ?_
  refine g_aloadn (pc := 34) (i := 0) (x := 6) hK dd_X10_add_34 rfl rfl ?_
  refine g_geti (pc := 35) (f := (0, 0)) (j := 6) hK (kdm kd_6) rfl ef_10 (by decide) rfl kk_86 nl_6 dd_X10_add_35 rfl (fun x4 ex4 rx4 => ?_)
  replace ex4 : x4 = M 6 6 := ex4
  refine g_iconst (pc := 38) (x := (-1)) hK dd_X10_add_38 (by decide) ?_
  refine g_iast (pc := 39) hK (kdm kd_10) nl_10 (by decide) (by decide) dd_X10_add_39 (by omega) (by omega) (by decide) ?_
  refine g_aloadn (pc := 40) (i := 0) (x := 6) hK dd_X10_add_40 rfl rfl ?_
  refine g_getv (pc := 41) (f := (1, 5)) (j := 4) (v := gR 11) hK (kdm kd_6) rfl ef_10 (by decide) rfl kk_79 dd_X10_add_41 rfl ?_
  refine g_aloadn (pc := 44) (i := 0) (x := 6) hK dd_X10_add_44 rfl rfl ?_
  refine g_geti (pc := 45) (f := (0, 0)) (j := 6) hK (kdm kd_6) rfl ef_10 (by decide) rfl kk_86 nl_6 dd_X10_add_45 rfl (fun x5 ex5 rx5 => ?_)
  replace ex5 : x5 = M 6 6 := ex5
  refine g_iconst (pc := 48) (x := (-1)) hK dd_X10_add_48 (by decide) ?_
  refine g_iast (pc := 49) hK (kdm kd_11) nl_11 (by decide) (by decide) dd_X10_add_49 (by omega) (by omega) (by decide) ?_
  refine g_aloadn (pc := 50) (i := 0) (x := 6) hK dd_X10_add_50 rfl rfl ?_
  refine g_getv (pc := 51) (f := (1, 6)) (j := 5) (v := gR 12) hK (kdm kd_6) rfl ef_10 (by decide) rfl kk_82 dd_X10_add_51 rfl ?_
  refine g_aloadn (pc := 54) (i := 0) (x := 6) hK dd_X10_add_54 rfl rfl ?_
  refine g_geti (pc := 55) (f := (0, 0)) (j := 6) hK (kdm kd_6) rfl ef_10 (by decide) rfl kk_86 nl_6 dd_X10_add_55 rfl (fun x6 ex6 rx6 => ?_)
  replace ex6 : x6 = M 6 6 := ex6
  refine g_iconst (pc := 58) (x := (-1)) hK dd_X10_add_58 (by decide) ?_
  refine g_iast (pc := 59) hK (kdm kd_12) nl_12 (by decide) (by decide) dd_X10_add_59 (by omega) (by omega) (by decide) ?_
  refine g_aloadn (pc := 60) (i := 0) (x := 6) hK dd_X10_add_60 rfl rfl ?_
  refine g_dup (pc := 61) hK dd_X10_add_61 rfl ?_
  refine g_geti (pc := 62) (f := (0, 0)) (j := 6) hK (kdm kd_6) rfl ef_10 (by decide) rfl kk_86 nl_6 dd_X10_add_62 rfl (fun x7 ex7 rx7 => ?_)
  replace ex7 : x7 = M 6 6 := ex7
  refine g_iconst (pc := 65) (x := 1) hK dd_X10_add_65 (by decide) ?_
  refine g_iadd (pc := 66) (z := x7 + 1) hK dd_X10_add_66 rfl ?_
  refine g_puti (pc := 67) (f := (0, 0)) (j := 6) (ty := .int) hK (kdm kd_6) rfl ef_10 (by decide) rfl kk_86 nl_6 (by decide) dd_X10_add_67 rfl rfl rfl rfl rfl ⟨by omega, by omega⟩ ?_
  refine g_aloadn (pc := 70) (i := 0) (x := 6) hK dd_X10_add_70 rfl rfl ?_
  refine g_geti (pc := 71) (f := (0, 0)) (j := 6) hK (kdm kd_6) rfl ef_10 (by decide) rfl kk_86 nl_6 dd_X10_add_71 rfl (fun x8 ex8 rx8 => ?_)
  replace ex8 : x8 = x7 + 1 := by rw [ex8]; simp [up, us, cp]
  refine g_iconst (pc := 74) (x := 1) hK dd_X10_add_74 (by decide) ?_
  refine g_isub (pc := 75) (z := x8 - 1) hK dd_X10_add_75 rfl ?_
  refine g_iret (pc := 76) hK hr hlocks dd_X10_add_76 rfl ?_
  exact g_fin hQ (by first | rfl | omega | (subst_vars; first | rfl | omega)) (by first | rfl | (subst_vars; rfl))
