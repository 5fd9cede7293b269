set_option maxHeartbeats 4000000 in
set_option maxRecDepth 100000 in
theorem c_countLeft {l : Launch} {M : Mem} {Pq : Option gV → Mem → Prop} (hc : 0 ≤ M 6 6 ∧ M 6 6 ≤ 30) (hQ : Pq (some (gI (cntL (M 11) (M 6 6).toNat))) M) : gCtr l my_X10_countLeft mb_X10_countLeft 3 ((some .int)) 2 [gR 6] M Pq := by
  refine g_intro (by decide) (Nat.le_of_ble_eq_true rfl) ?_
  intro p e s m args below meth c D cy q A hK hr hlocks hw
  refine g_sub (L' := [(0, gR 6)]) [0] rfl ?_
  refine g_iconst (pc := 0) (x := 0) hK dd_X10_countLeft_0 (by decide) ?_
  refine g_istoren (pc := 1) (i := 1) (L' := [(0, gR 6), (1, gI 0)]) hK dd_X10_countLeft_1 rfl (by decide) rfl ?_
  refine g_iconst (pc := 2) (x := 0) hK dd_X10_countLeft_2 (by decide) ?_
  refine g_istoren (pc := 3) (i := 2) (L' := [(0, gR 6), (1, gI 0), (2, gI 0)]) hK dd_X10_countLeft_3 rfl (by decide) rfl ?_
  have lp3 : ∀ (n1 : Nat) (left : Int) (t : Int), (0 ≤ t ∧ t ≤ M 6 6) → (left = cntL (M 11) t.toNat) → (M 6 6 - t).toNat < n1 → G p l e (rmD 2) s m args below meth c D cy q A 0 0 3 (MQ below (gQc D cy q A Pq) args s 0 0 A) 4 [(0, gR 6), (1, gI left), (2, gI t)] [] M := by
    intro n1
    induction n1 with
    | zero => intro left t iv4 iv5 hm6; exact absurd hm6 (Nat.not_lt_zero _)
    | succ n1 ih2 =>
      intro left t iv4 iv5 hm6
      refine g_iloadn (pc := 4) (i := 2) (x := t) hK dd_X10_countLeft_4 rfl rfl ?_
      refine g_aloadn (pc := 5) (i := 0) (x := 6) hK dd_X10_countLeft_5 rfl rfl ?_
      refine g_geti (pc := 6) (f := (0, 0)) (j := 6) hK (kdm kd_6) rfl ef_10 (by decide) rfl kk_86 nl_6 dd_X10_countLeft_6 rfl (fun x7 ex7 rx7 => ?_)
      refine g_icmp_ge (pc := 9) (tgt := 29) hK dd_X10_countLeft_9 (by decide) ⟨by omega, by omega⟩ rx7 (fun c8 => ?_) (fun c8 => ?_)
      · refine g_iloadn (pc := 29) (i := 1) (x := left) hK dd_X10_countLeft_29 rfl rfl ?_
        refine g_iret (pc := 30) hK hr hlocks dd_X10_countLeft_30 rfl ?_
        exact g_fin hQ (by rw [show M 6 6 = t by omega]; omega) (by first | rfl | (subst_vars; rfl))
      · refine g_aloadn (pc := 12) (i := 0) (x := 6) hK dd_X10_countLeft_12 rfl rfl ?_
        refine g_iloadn (pc := 13) (i := 2) (x := t) hK dd_X10_countLeft_13 rfl rfl ?_
        refine g_callV (pc := 14) (As := [gI t]) hK ws_Things_41 md_X10_isSold ⟨Nat.zero_le _, Nat.zero_le _⟩ ⟨by decide, by decide⟩ (kdm kd_6) rfl rfl dd_X10_countLeft_14 rfl rfl (Nat.le_of_ble_eq_true rfl) (c_isSold t (show 0 ≤ t by omega) (show t < 30 by omega) (fun c9 => g_r1 ?_) (fun c9 => g_r1 ?_))
        · refine g_if_ne (pc := 17) (tgt := 23) hK dd_X10_countLeft_17 (by decide) (by decide) (fun _ => ?_) (fun c10 => absurd (by decide) c10)
          refine g_iinc (pc := 23) (i := 2) (y := t + 1) (L' := [(0, gR 6), (1, gI left), (2, gI (t + 1))]) hK dd_X10_countLeft_23 rfl rfl (by decide) rfl ?_
          refine g_goto (pc := 26) (tgt := 4) hK dd_X10_countLeft_26 (by decide) ?_
          refine g_sub (L' := [(0, gR 6), (1, gI left), (2, gI (t + 1))]) [0, 1, 2] rfl ?_
          exact ih2 left (t + 1) (by omega) (by rw [tn1 (by omega)]; simp only [cntL]; split <;> omega) (by omega)
        · refine g_if_ne (pc := 17) (tgt := 23) hK dd_X10_countLeft_17 (by decide) (by decide) (fun c11 => absurd c11 (by decide)) (fun _ => ?_)
          refine g_iinc (pc := 20) (i := 1) (y := left + 1) (L' := [(0, gR 6), (1, gI (left + 1)), (2, gI t)]) hK dd_X10_countLeft_20 rfl rfl (by decide) rfl ?_
          refine g_iinc (pc := 23) (i := 2) (y := t + 1) (L' := [(0, gR 6), (1, gI (left + 1)), (2, gI (t + 1))]) hK dd_X10_countLeft_23 rfl rfl (by decide) rfl ?_
          refine g_goto (pc := 26) (tgt := 4) hK dd_X10_countLeft_26 (by decide) ?_
          refine g_sub (L' := [(0, gR 6), (1, gI (left + 1)), (2, gI (t + 1))]) [0, 1, 2] rfl ?_
          exact ih2 (left + 1) (t + 1) (by omega) (by rw [tn1 (by omega)]; simp only [cntL]; split <;> omega) (by omega)
  refine g_sub (L' := [(0, gR 6), (1, gI 0), (2, gI 0)]) [0, 1, 2] rfl ?_
  exact lp3 _ 0 0 (by omega) (rfl) (Nat.lt_succ_self _)
set_option maxHeartbeats 4000000 in
set_option maxRecDepth 100000 in
theorem c_add10 {l : Launch} {M : Mem} {Pq : Option gV → Mem → Prop} (k : Int) (w : Int) (ch : Int) (hc : 0 ≤ M 6 6 ∧ M 6 6 < 30) (h1 : inI k) (h2 : inI w) (h3 : inI ch) (hQ : Pq (some (gI (M 6 6))) (up (up (up (up (up (up (up M 7 (M 6 6).toNat k) 8 (M 6 6).toNat w) 9 (M 6 6).toNat ch) 10 (M 6 6).toNat (-1)) 11 (M 6 6).toNat (-1)) 12 (M 6 6).toNat (-1)) 6 6 (M 6 6 + 1))) : gCtr l my_X10_add mb_X10_add 4 ((some .int)) 1 [gR 6, gI k, gI w, gI ch] M Pq := by
  refine g_intro (by decide) (Nat.le_of_ble_eq_true rfl) ?_
  intro p e s m args below meth c D cy q A hK hr hlocks hw
  refine g_sub (L' := [(0, gR 6), (1, gI k), (2, gI w), (3, gI ch)]) [0, 1, 2, 3] rfl ?_
  refine g_aloadn (pc := 0) (i := 0) (x := 6) hK dd_X10_add_0 rfl rfl ?_
  refine g_getv (pc := 1) (f := (1, 1)) (j := 0) (v := gR 7) hK (kdm kd_6) rfl ef_10 (by decide) rfl kk_66 dd_X10_add_1 rfl ?_
  refine g_aloadn (pc := 4) (i := 0) (x := 6) hK dd_X10_add_4 rfl rfl ?_
  refine g_geti (pc := 5) (f := (0, 0)) (j := 6) hK (kdm kd_6) rfl ef_10 (by decide) rfl kk_86 nl_6 dd_X10_add_5 rfl (fun x1 ex1 rx1 => ?_)
  refine g_iloadn (pc := 8) (i := 1) (x := k) hK dd_X10_add_8 rfl rfl ?_
  refine g_iast (pc := 9) hK (kdm kd_7) nl_7 (by decide) (by decide) dd_X10_add_9 (by omega) (by omega) h1 ?_
  refine g_aloadn (pc := 10) (i := 0) (x := 6) hK dd_X10_add_10 rfl rfl ?_
  refine g_getv (pc := 11) (f := (1, 2)) (j := 1) (v := gR 8) hK (kdm kd_6) rfl ef_10 (by decide) rfl kk_70 dd_X10_add_11 rfl ?_
  refine g_aloadn (pc := 14) (i := 0) (x := 6) hK dd_X10_add_14 rfl rfl ?_
  refine g_geti (pc := 15) (f := (0, 0)) (j := 6) hK (kdm kd_6) rfl ef_10 (by decide) rfl kk_86 nl_6 dd_X10_add_15 rfl (fun x2 ex2 rx2 => ?_)
  replace ex2 : x2 = M 6 6 := ex2
  refine g_iloadn (pc := 18) (i := 2) (x := w) hK dd_X10_add_18 rfl rfl ?_
  refine g_iast (pc := 19) hK (kdm kd_8) nl_8 (by decide) (by decide) dd_X10_add_19 (by omega) (by omega) h2 ?_
  refine g_aloadn (pc := 20) (i := 0) (x := 6) hK dd_X10_add_20 rfl rfl ?_
  refine g_getv (pc := 21) (f := (1, 3)) (j := 2) (v := gR 9) hK (kdm kd_6) rfl ef_10 (by decide) rfl kk_72 dd_X10_add_21 rfl ?_
  refine g_aloadn (pc := 24) (i := 0) (x := 6) hK dd_X10_add_24 rfl rfl ?_
  refine g_geti (pc := 25) (f := (0, 0)) (j := 6) hK (kdm kd_6) rfl ef_10 (by decide) rfl kk_86 nl_6 dd_X10_add_25 rfl (fun x3 ex3 rx3 => ?_)
  replace ex3 : x3 = M 6 6 := ex3
  refine g_iloadn (pc := 28) (i := 3) (x := ch) hK dd_X10_add_28 rfl rfl ?_
  refine g_iast (pc := 29) hK (kdm kd_9) nl_9 (by decide) (by decide) dd_X10_add_29 (by omega) (by omega) h3 ?_
  refine g_aloadn (pc := 30) (i := 0) (x := 6) hK dd_X10_add_30 rfl rfl ?_
  refine g_getv (pc := 31) (f := (1, 4)) (j := 3) (v := gR 10) hK (kdm kd_6) rfl ef_10 (by decide) rfl kk_74 dd_X10_add_31 rfl ?_
  refine g_aloadn (pc := 34) (i := 0) (x := 6) hK dd_X10_add_34 rfl rfl ?_
  refine g_geti (pc := 35) (f := (0, 0)) (j := 6) hK (kdm kd_6) rfl ef_10 (by decide) rfl kk_86 nl_6 dd_X10_add_35 rfl (fun x4 ex4 rx4 => ?_)
  replace ex4 : x4 = M 6 6 := ex4
  refine g_iconst (pc := 38) (x := (-1)) hK dd_X10_add_38 (by decide) ?_
  refine g_iast (pc := 39) hK (kdm kd_10) nl_10 (by decide) (by decide) dd_X10_add_39 (by omega) (by omega) (by decide) ?_
  refine g_aloadn (pc := 40) (i := 0) (x := 6) hK dd_X10_add_40 rfl rfl ?_
  refine g_getv (pc := 41) (f := (1, 5)) (j := 4) (v := gR 11) hK (kdm kd_6) rfl ef_10 (by decide) rfl kk_79 dd_X10_add_41 rfl ?_
  refine g_aloadn (pc := 44) (i := 0) (x := 6) hK dd_X10_add_44 rfl rfl ?_
  refine g_geti (pc := 45) (f := (0, 0)) (j := 6) hK (kdm kd_6) rfl ef_10 (by decide) rfl kk_86 nl_6 dd_X10_add_45 rfl (fun x5 ex5 rx5 => ?_)
  replace ex5 : x5 = M 6 6 := ex5
  refine g_iconst (pc := 48) (x := (-1)) hK dd_X10_add_48 (by decide) ?_
  refine g_iast (pc := 49) hK (kdm kd_11) nl_11 (by decide) (by decide) dd_X10_add_49 (by omega) (by omega) (by decide) ?_
  refine g_aloadn (pc := 50) (i := 0) (x := 6) hK dd_X10_add_50 rfl rfl ?_
  refine g_getv (pc := 51) (f := (1, 6)) (j := 5) (v := gR 12) hK (kdm kd_6) rfl ef_10 (by decide) rfl kk_82 dd_X10_add_51 rfl ?_
  refine g_aloadn (pc := 54) (i := 0) (x := 6) hK dd_X10_add_54 rfl rfl ?_
  refine g_geti (pc := 55) (f := (0, 0)) (j := 6) hK (kdm kd_6) rfl ef_10 (by decide) rfl kk_86 nl_6 dd_X10_add_55 rfl (fun x6 ex6 rx6 => ?_)
  replace ex6 : x6 = M 6 6 := ex6
  refine g_iconst (pc := 58) (x := (-1)) hK dd_X10_add_58 (by decide) ?_
  refine g_iast (pc := 59) hK (kdm kd_12) nl_12 (by decide) (by decide) dd_X10_add_59 (by omega) (by omega) (by decide) ?_
  refine g_aloadn (pc := 60) (i := 0) (x := 6) hK dd_X10_add_60 rfl rfl ?_
  refine g_dup (pc := 61) hK dd_X10_add_61 rfl ?_
  refine g_geti (pc := 62) (f := (0, 0)) (j := 6) hK (kdm kd_6) rfl ef_10 (by decide) rfl kk_86 nl_6 dd_X10_add_62 rfl (fun x7 ex7 rx7 => ?_)
  replace ex7 : x7 = M 6 6 := ex7
  refine g_iconst (pc := 65) (x := 1) hK dd_X10_add_65 (by decide) ?_
  refine g_iadd (pc := 66) (z := x7 + 1) hK dd_X10_add_66 rfl ?_
  refine g_puti (pc := 67) (f := (0, 0)) (j := 6) (ty := .int) hK (kdm kd_6) rfl ef_10 (by decide) rfl kk_86 nl_6 (by decide) dd_X10_add_67 rfl rfl rfl rfl rfl ⟨by omega, by omega⟩ ?_
  refine g_aloadn (pc := 70) (i := 0) (x := 6) hK dd_X10_add_70 rfl rfl ?_
  refine g_geti (pc := 71) (f := (0, 0)) (j := 6) hK (kdm kd_6) rfl ef_10 (by decide) rfl kk_86 nl_6 dd_X10_add_71 rfl (fun x8 ex8 rx8 => ?_)
  replace ex8 : x8 = x7 + 1 := by first | exact ex8 | (rw [ex8]; simp [up, us, cp, sr])
  refine g_iconst (pc := 74) (x := 1) hK dd_X10_add_74 (by decide) ?_
  refine g_isub (pc := 75) (z := x8 - 1) hK dd_X10_add_75 rfl ?_
  refine g_iret (pc := 76) hK hr hlocks dd_X10_add_76 rfl ?_
  exact g_fin hQ (by first | rfl | omega | (subst_vars; first | rfl | omega)) (by first | rfl | (subst_vars; rfl))
set_option maxHeartbeats 4000000 in
set_option maxRecDepth 100000 in
theorem c_worthLeft {l : Launch} {M : Mem} {Pq : Option gV → Mem → Prop} (ks : Int) (hc : 0 ≤ M 6 6 ∧ M 6 6 ≤ 30) (hth : thOK M) (hQ : Pq (some (gI (sumL (M 7) (M 8) (M 9) (M 11) ks (M 6 6).toNat))) M) : gCtr l my_X10_worthLeft mb_X10_worthLeft 4 ((some .int)) 4 [gR 6, gI ks] M Pq := by
  refine g_intro (by decide) (Nat.le_of_ble_eq_true rfl) ?_
  intro p e s m args below meth c D cy q A hK hr hlocks hw
  refine g_sub (L' := [(0, gR 6), (1, gI ks)]) [0, 1] rfl ?_
  refine g_iconst (pc := 0) (x := 0) hK dd_X10_worthLeft_0 (by decide) ?_
  refine g_istoren (pc := 1) (i := 2) (L' := [(0, gR 6), (1, gI ks), (2, gI 0)]) hK dd_X10_worthLeft_1 rfl (by decide) rfl ?_
  refine g_iconst (pc := 2) (x := 0) hK dd_X10_worthLeft_2 (by decide) ?_
  refine g_istoren (pc := 3) (i := 3) (L' := [(0, gR 6), (1, gI ks), (2, gI 0), (3, gI 0)]) hK dd_X10_worthLeft_3 rfl (by decide) rfl ?_
  have lp3 : ∀ (n1 : Nat) (sm : Int) (t : Int), (0 ≤ t ∧ t ≤ M 6 6) → (sm = sumL (M 7) (M 8) (M 9) (M 11) ks t.toNat) → (M 6 6 - t).toNat < n1 → G p l e (rmD 4) s m args below meth c D cy q A 0 0 4 (MQ below (gQc D cy q A Pq) args s 0 0 A) 4 [(0, gR 6), (1, gI ks), (2, gI sm), (3, gI t)] [] M := by
    intro n1
    induction n1 with
    | zero => intro sm t iv4 iv5 hm6; exact absurd hm6 (Nat.not_lt_zero _)
    | succ n1 ih2 =>
      intro sm t iv4 iv5 hm6
      refine g_iloadn (pc := 4) (i := 3) (x := t) hK dd_X10_worthLeft_4 rfl rfl ?_
      refine g_aloadn (pc := 5) (i := 0) (x := 6) hK dd_X10_worthLeft_5 rfl rfl ?_
      refine g_geti (pc := 6) (f := (0, 0)) (j := 6) hK (kdm kd_6) rfl ef_10 (by decide) rfl kk_86 nl_6 dd_X10_worthLeft_6 rfl (fun x7 ex7 rx7 => ?_)
      refine g_icmp_ge (pc := 9) (tgt := 43) hK dd_X10_worthLeft_9 (by decide) ⟨by omega, by omega⟩ rx7 (fun c8 => ?_) (fun c8 => ?_)
      · refine g_iloadn (pc := 43) (i := 2) (x := sm) hK dd_X10_worthLeft_43 rfl rfl ?_
        refine g_iret (pc := 44) hK hr hlocks dd_X10_worthLeft_44 rfl ?_
        exact g_fin hQ (by rw [show M 6 6 = t by omega]; omega) (by first | rfl | (subst_vars; rfl))
      · refine g_aloadn (pc := 12) (i := 0) (x := 6) hK dd_X10_worthLeft_12 rfl rfl ?_
        refine g_iloadn (pc := 13) (i := 3) (x := t) hK dd_X10_worthLeft_13 rfl rfl ?_
        refine g_callV (pc := 14) (As := [gI t]) hK ws_Things_41 md_X10_isSold ⟨Nat.zero_le _, Nat.zero_le _⟩ ⟨by decide, by decide⟩ (kdm kd_6) rfl rfl dd_X10_worthLeft_14 rfl rfl (Nat.le_of_ble_eq_true rfl) (c_isSold t (show 0 ≤ t by omega) (show t < 30 by omega) (fun c9 => g_r1 ?_) (fun c9 => g_r1 ?_))
        · refine g_if_ne (pc := 17) (tgt := 37) hK dd_X10_worthLeft_17 (by decide) (by decide) (fun _ => ?_) (fun c10 => absurd (by decide) c10)
          refine g_iinc (pc := 37) (i := 3) (y := t + 1) (L' := [(0, gR 6), (1, gI ks), (2, gI sm), (3, gI (t + 1))]) hK dd_X10_worthLeft_37 rfl rfl (by decide) rfl ?_
          refine g_goto (pc := 40) (tgt := 4) hK dd_X10_worthLeft_40 (by decide) ?_
          refine g_sub (L' := [(0, gR 6), (1, gI ks), (2, gI sm), (3, gI (t + 1))]) [0, 1, 2, 3] rfl ?_
          exact ih2 sm (t + 1) (by omega) (by rw [tn1 (by omega)]; simp only [sumL]; first | (rw [if_pos ⟨by omega, by assumption⟩]; omega) | (rw [if_neg (fun z => absurd z.1 (by omega))]; omega) | (rw [if_neg (fun z => absurd z.2 (by assumption))]; omega)) (by omega)
        · refine g_if_ne (pc := 17) (tgt := 37) hK dd_X10_worthLeft_17 (by decide) (by decide) (fun c11 => absurd c11 (by decide)) (fun _ => ?_)
          refine g_aloadn (pc := 20) (i := 0) (x := 6) hK dd_X10_worthLeft_20 rfl rfl ?_
          refine g_iloadn (pc := 21) (i := 3) (x := t) hK dd_X10_worthLeft_21 rfl rfl ?_
          refine g_iloadn (pc := 22) (i := 1) (x := ks) hK dd_X10_worthLeft_22 rfl rfl ?_
          refine g_callV (pc := 23) (As := [gI t, gI ks]) hK ws_Things_79 md_X10_isOfKinds ⟨Nat.zero_le _, Nat.zero_le _⟩ ⟨by decide, by decide⟩ (kdm kd_6) rfl rfl dd_X10_worthLeft_23 rfl rfl (Nat.le_of_ble_eq_true rfl) (c_isOfKinds t ks (show 0 ≤ t by omega) (show t < 30 by omega) (fun c12 => g_r1 ?_) (fun c12 => g_r1 ?_))
          · refine g_if_eq (pc := 26) (tgt := 37) hK dd_X10_worthLeft_26 (by decide) (by decide) (fun c13 => absurd c13 (by decide)) (fun _ => ?_)
            refine g_iloadn (pc := 29) (i := 2) (x := sm) hK dd_X10_worthLeft_29 rfl rfl ?_
            refine g_aloadn (pc := 30) (i := 0) (x := 6) hK dd_X10_worthLeft_30 rfl rfl ?_
            refine g_iloadn (pc := 31) (i := 3) (x := t) hK dd_X10_worthLeft_31 rfl rfl ?_
            refine g_callV (pc := 32) (As := [gI t]) hK ws_Things_76 md_X10_trueWorth ⟨Nat.zero_le _, Nat.zero_le _⟩ ⟨by decide, by decide⟩ (kdm kd_6) rfl rfl dd_X10_worthLeft_32 rfl rfl (Nat.le_of_ble_eq_true rfl) (c_trueWorth t (by omega) (by omega) hth (g_r1 ?_))
            refine g_topI (fun y14 ey14 => ?_)
            refine g_iadd (pc := 35) (z := sm + y14) hK dd_X10_worthLeft_35 rfl ?_
            refine g_istoren (pc := 36) (i := 2) (L' := [(0, gR 6), (1, gI ks), (2, gI (sm + y14)), (3, gI t)]) hK dd_X10_worthLeft_36 rfl (by decide) rfl ?_
            refine g_iinc (pc := 37) (i := 3) (y := t + 1) (L' := [(0, gR 6), (1, gI ks), (2, gI (sm + y14)), (3, gI (t + 1))]) hK dd_X10_worthLeft_37 rfl rfl (by decide) rfl ?_
            refine g_goto (pc := 40) (tgt := 4) hK dd_X10_worthLeft_40 (by decide) ?_
            refine g_sub (L' := [(0, gR 6), (1, gI ks), (2, gI (sm + y14)), (3, gI (t + 1))]) [0, 1, 2, 3] rfl ?_
            exact ih2 (sm + y14) (t + 1) (by omega) (by rw [tn1 (by omega)]; simp only [sumL]; first | (rw [if_pos ⟨by omega, by assumption⟩]; omega) | (rw [if_neg (fun z => absurd z.1 (by omega))]; omega) | (rw [if_neg (fun z => absurd z.2 (by assumption))]; omega)) (by omega)
          · refine g_if_eq (pc := 26) (tgt := 37) hK dd_X10_worthLeft_26 (by decide) (by decide) (fun _ => ?_) (fun c15 => absurd (by decide) c15)
            refine g_iinc (pc := 37) (i := 3) (y := t + 1) (L' := [(0, gR 6), (1, gI ks), (2, gI sm), (3, gI (t + 1))]) hK dd_X10_worthLeft_37 rfl rfl (by decide) rfl ?_
            refine g_goto (pc := 40) (tgt := 4) hK dd_X10_worthLeft_40 (by decide) ?_
            refine g_sub (L' := [(0, gR 6), (1, gI ks), (2, gI sm), (3, gI (t + 1))]) [0, 1, 2, 3] rfl ?_
            exact ih2 sm (t + 1) (by omega) (by rw [tn1 (by omega)]; simp only [sumL]; first | (rw [if_pos ⟨by omega, by assumption⟩]; omega) | (rw [if_neg (fun z => absurd z.1 (by omega))]; omega) | (rw [if_neg (fun z => absurd z.2 (by assumption))]; omega)) (by omega)
  refine g_sub (L' := [(0, gR 6), (1, gI ks), (2, gI 0), (3, gI 0)]) [0, 1, 2, 3] rfl ?_
  exact lp3 _ 0 0 (by omega) (rfl) (Nat.lt_succ_self _)
set_option maxHeartbeats 4000000 in
set_option maxRecDepth 100000 in
theorem c_isOfOrUnder {l : Launch} {M : Mem} {Pq : Option gV → Mem → Prop} (t : Int) (k : Int) (h1 : 0 ≤ t) (h2 : t < 30) (hth : thOK M) (hk : 0 ≤ k ∧ k ≤ 5) (hT : (undr (M 7 t.toNat) k) → Pq (some (gI 1)) M) (hF : ¬ (undr (M 7 t.toNat) k) → Pq (some (gI 0)) M) : gCtr l my_X10_isOfOrUnder mb_X10_isOfOrUnder 5 ((some .boolean)) 1 [gR 6, gI t, gI k] M Pq := by
  refine g_intro (by decide) (Nat.le_of_ble_eq_true rfl) ?_
  intro p e s m args below meth c D cy q A hK hr hlocks hw
  refine g_sub (L' := [(0, gR 6), (1, gI t), (2, gI k)]) [0, 1, 2] rfl ?_
  have hkk := thK hth (tn30 h1 h2)
  refine g_aloadn (pc := 0) (i := 0) (x := 6) hK dd_X10_isOfOrUnder_0 rfl rfl ?_
  refine g_getv (pc := 1) (f := (1, 1)) (j := 0) (v := gR 7) hK (kdm kd_6) rfl ef_10 (by decide) rfl kk_66 dd_X10_isOfOrUnder_1 rfl ?_
  refine g_iloadn (pc := 4) (i := 1) (x := t) hK dd_X10_isOfOrUnder_4 rfl rfl ?_
  refine g_iald (pc := 5) hK (kdm kd_7) nl_7 (by decide) dd_X10_isOfOrUnder_5 (by omega) (by omega) (fun x1 ex1 rx1 => ?_)
  rcases (show x1 = 0 ∨ x1 = 1 ∨ x1 = 2 ∨ x1 = 3 ∨ x1 = 4 ∨ x1 = 5 by omega) with c2 | c2 | c2 | c2 | c2 | c2
  · refine g_topv (v := gI 0) (by rw [c2]) ?_
    refine g_istoren (pc := 6) (i := 3) (L' := [(0, gR 6), (1, gI t), (2, gI k), (3, gI 0)]) hK dd_X10_isOfOrUnder_6 rfl (by decide) rfl ?_
    refine g_iconst (pc := 7) (x := 0) hK dd_X10_isOfOrUnder_7 (by decide) ?_
    refine g_istore (pc := 8) (i := 4) (L' := [(0, gR 6), (1, gI t), (2, gI k), (3, gI 0), (4, gI 0)]) hK dd_X10_isOfOrUnder_8 (by decide) rfl ?_
    refine g_iload (pc := 10) (i := 4) (x := 0) hK dd_X10_isOfOrUnder_10 rfl ?_
    refine g_bipush (pc := 12) (x := 6) hK dd_X10_isOfOrUnder_12 (by decide) ?_
    refine g_icmp_ge (pc := 14) (tgt := 41) hK dd_X10_isOfOrUnder_14 (by decide) (by decide) (by decide) (fun c3 => absurd c3 (by decide)) (fun _ => ?_)
    refine g_iloadn (pc := 17) (i := 3) (x := 0) hK dd_X10_isOfOrUnder_17 rfl rfl ?_
    refine g_iconst (pc := 18) (x := (-1)) hK dd_X10_isOfOrUnder_18 (by decide) ?_
    refine g_icmp_eq (pc := 19) (tgt := 41) hK dd_X10_isOfOrUnder_19 (by decide) (by decide) (by decide) (fun c4 => absurd c4 (by decide)) (fun _ => ?_)
    refine g_iloadn (pc := 22) (i := 3) (x := 0) hK dd_X10_isOfOrUnder_22 rfl rfl ?_
    refine g_iloadn (pc := 23) (i := 2) (x := k) hK dd_X10_isOfOrUnder_23 rfl rfl ?_
    refine g_icmp_ne (pc := 24) (tgt := 29) hK dd_X10_isOfOrUnder_24 (by decide) (by decide) ⟨by omega, by omega⟩ (fun c5 => ?_) (fun c5 => ?_)
    · refine g_gets (pc := 29) hK 3 rfl kk_501 dd_X10_isOfOrUnder_29 ?_
      refine g_iloadn (pc := 32) (i := 3) (x := 0) hK dd_X10_isOfOrUnder_32 rfl rfl ?_
      refine g_siald (pc := 33) hK 3 rfl (by decide) dd_X10_isOfOrUnder_33 (by omega) (by omega) ?_
      refine g_topv (v := gI (-1)) rfl ?_
      refine g_istoren (pc := 34) (i := 3) (L' := [(0, gR 6), (1, gI t), (2, gI k), (3, gI (-1)), (4, gI 0)]) hK dd_X10_isOfOrUnder_34 rfl (by decide) rfl ?_
      refine g_iinc (pc := 35) (i := 4) (y := 1) (L' := [(0, gR 6), (1, gI t), (2, gI k), (3, gI (-1)), (4, gI 1)]) hK dd_X10_isOfOrUnder_35 rfl rfl (by decide) rfl ?_
      refine g_goto (pc := 38) (tgt := 10) hK dd_X10_isOfOrUnder_38 (by decide) ?_
      refine g_iload (pc := 10) (i := 4) (x := 1) hK dd_X10_isOfOrUnder_10 rfl ?_
      refine g_bipush (pc := 12) (x := 6) hK dd_X10_isOfOrUnder_12 (by decide) ?_
      refine g_icmp_ge (pc := 14) (tgt := 41) hK dd_X10_isOfOrUnder_14 (by decide) (by decide) (by decide) (fun c6 => absurd c6 (by decide)) (fun _ => ?_)
      refine g_iloadn (pc := 17) (i := 3) (x := (-1)) hK dd_X10_isOfOrUnder_17 rfl rfl ?_
      refine g_iconst (pc := 18) (x := (-1)) hK dd_X10_isOfOrUnder_18 (by decide) ?_
      refine g_icmp_eq (pc := 19) (tgt := 41) hK dd_X10_isOfOrUnder_19 (by decide) (by decide) (by decide) (fun _ => ?_) (fun c7 => absurd (by decide) c7)
      refine g_iconst (pc := 41) (x := 0) hK dd_X10_isOfOrUnder_41 (by decide) ?_
      refine g_iret (pc := 42) hK hr hlocks dd_X10_isOfOrUnder_42 rfl ?_
      exact g_finM (hF (by unfold undr; omega)) (by first | rfl | (subst_vars; rfl))
    · refine g_iconst (pc := 27) (x := 1) hK dd_X10_isOfOrUnder_27 (by decide) ?_
      refine g_iret (pc := 28) hK hr hlocks dd_X10_isOfOrUnder_28 rfl ?_
      exact g_finM (hT (by unfold undr; omega)) (by first | rfl | (subst_vars; rfl))
  · refine g_topv (v := gI 1) (by rw [c2]) ?_
    refine g_istoren (pc := 6) (i := 3) (L' := [(0, gR 6), (1, gI t), (2, gI k), (3, gI 1)]) hK dd_X10_isOfOrUnder_6 rfl (by decide) rfl ?_
    refine g_iconst (pc := 7) (x := 0) hK dd_X10_isOfOrUnder_7 (by decide) ?_
    refine g_istore (pc := 8) (i := 4) (L' := [(0, gR 6), (1, gI t), (2, gI k), (3, gI 1), (4, gI 0)]) hK dd_X10_isOfOrUnder_8 (by decide) rfl ?_
    refine g_iload (pc := 10) (i := 4) (x := 0) hK dd_X10_isOfOrUnder_10 rfl ?_
    refine g_bipush (pc := 12) (x := 6) hK dd_X10_isOfOrUnder_12 (by decide) ?_
    refine g_icmp_ge (pc := 14) (tgt := 41) hK dd_X10_isOfOrUnder_14 (by decide) (by decide) (by decide) (fun c8 => absurd c8 (by decide)) (fun _ => ?_)
    refine g_iloadn (pc := 17) (i := 3) (x := 1) hK dd_X10_isOfOrUnder_17 rfl rfl ?_
    refine g_iconst (pc := 18) (x := (-1)) hK dd_X10_isOfOrUnder_18 (by decide) ?_
    refine g_icmp_eq (pc := 19) (tgt := 41) hK dd_X10_isOfOrUnder_19 (by decide) (by decide) (by decide) (fun c9 => absurd c9 (by decide)) (fun _ => ?_)
    refine g_iloadn (pc := 22) (i := 3) (x := 1) hK dd_X10_isOfOrUnder_22 rfl rfl ?_
    refine g_iloadn (pc := 23) (i := 2) (x := k) hK dd_X10_isOfOrUnder_23 rfl rfl ?_
    refine g_icmp_ne (pc := 24) (tgt := 29) hK dd_X10_isOfOrUnder_24 (by decide) (by decide) ⟨by omega, by omega⟩ (fun c10 => ?_) (fun c10 => ?_)
    · refine g_gets (pc := 29) hK 3 rfl kk_501 dd_X10_isOfOrUnder_29 ?_
      refine g_iloadn (pc := 32) (i := 3) (x := 1) hK dd_X10_isOfOrUnder_32 rfl rfl ?_
      refine g_siald (pc := 33) hK 3 rfl (by decide) dd_X10_isOfOrUnder_33 (by omega) (by omega) ?_
      refine g_topv (v := gI 0) rfl ?_
      refine g_istoren (pc := 34) (i := 3) (L' := [(0, gR 6), (1, gI t), (2, gI k), (3, gI 0), (4, gI 0)]) hK dd_X10_isOfOrUnder_34 rfl (by decide) rfl ?_
      refine g_iinc (pc := 35) (i := 4) (y := 1) (L' := [(0, gR 6), (1, gI t), (2, gI k), (3, gI 0), (4, gI 1)]) hK dd_X10_isOfOrUnder_35 rfl rfl (by decide) rfl ?_
      refine g_goto (pc := 38) (tgt := 10) hK dd_X10_isOfOrUnder_38 (by decide) ?_
      refine g_iload (pc := 10) (i := 4) (x := 1) hK dd_X10_isOfOrUnder_10 rfl ?_
      refine g_bipush (pc := 12) (x := 6) hK dd_X10_isOfOrUnder_12 (by decide) ?_
      refine g_icmp_ge (pc := 14) (tgt := 41) hK dd_X10_isOfOrUnder_14 (by decide) (by decide) (by decide) (fun c11 => absurd c11 (by decide)) (fun _ => ?_)
      refine g_iloadn (pc := 17) (i := 3) (x := 0) hK dd_X10_isOfOrUnder_17 rfl rfl ?_
      refine g_iconst (pc := 18) (x := (-1)) hK dd_X10_isOfOrUnder_18 (by decide) ?_
      refine g_icmp_eq (pc := 19) (tgt := 41) hK dd_X10_isOfOrUnder_19 (by decide) (by decide) (by decide) (fun c12 => absurd c12 (by decide)) (fun _ => ?_)
      refine g_iloadn (pc := 22) (i := 3) (x := 0) hK dd_X10_isOfOrUnder_22 rfl rfl ?_
      refine g_iloadn (pc := 23) (i := 2) (x := k) hK dd_X10_isOfOrUnder_23 rfl rfl ?_
      refine g_icmp_ne (pc := 24) (tgt := 29) hK dd_X10_isOfOrUnder_24 (by decide) (by decide) ⟨by omega, by omega⟩ (fun c13 => ?_) (fun c13 => ?_)
      · refine g_gets (pc := 29) hK 3 rfl kk_501 dd_X10_isOfOrUnder_29 ?_
        refine g_iloadn (pc := 32) (i := 3) (x := 0) hK dd_X10_isOfOrUnder_32 rfl rfl ?_
        refine g_siald (pc := 33) hK 3 rfl (by decide) dd_X10_isOfOrUnder_33 (by omega) (by omega) ?_
        refine g_topv (v := gI (-1)) rfl ?_
        refine g_istoren (pc := 34) (i := 3) (L' := [(0, gR 6), (1, gI t), (2, gI k), (3, gI (-1)), (4, gI 1)]) hK dd_X10_isOfOrUnder_34 rfl (by decide) rfl ?_
        refine g_iinc (pc := 35) (i := 4) (y := 2) (L' := [(0, gR 6), (1, gI t), (2, gI k), (3, gI (-1)), (4, gI 2)]) hK dd_X10_isOfOrUnder_35 rfl rfl (by decide) rfl ?_
        refine g_goto (pc := 38) (tgt := 10) hK dd_X10_isOfOrUnder_38 (by decide) ?_
        refine g_iload (pc := 10) (i := 4) (x := 2) hK dd_X10_isOfOrUnder_10 rfl ?_
        refine g_bipush (pc := 12) (x := 6) hK dd_X10_isOfOrUnder_12 (by decide) ?_
        refine g_icmp_ge (pc := 14) (tgt := 41) hK dd_X10_isOfOrUnder_14 (by decide) (by decide) (by decide) (fun c14 => absurd c14 (by decide)) (fun _ => ?_)
        refine g_iloadn (pc := 17) (i := 3) (x := (-1)) hK dd_X10_isOfOrUnder_17 rfl rfl ?_
        refine g_iconst (pc := 18) (x := (-1)) hK dd_X10_isOfOrUnder_18 (by decide) ?_
        refine g_icmp_eq (pc := 19) (tgt := 41) hK dd_X10_isOfOrUnder_19 (by decide) (by decide) (by decide) (fun _ => ?_) (fun c15 => absurd (by decide) c15)
        refine g_iconst (pc := 41) (x := 0) hK dd_X10_isOfOrUnder_41 (by decide) ?_
        refine g_iret (pc := 42) hK hr hlocks dd_X10_isOfOrUnder_42 rfl ?_
        exact g_finM (hF (by unfold undr; omega)) (by first | rfl | (subst_vars; rfl))
      · refine g_iconst (pc := 27) (x := 1) hK dd_X10_isOfOrUnder_27 (by decide) ?_
        refine g_iret (pc := 28) hK hr hlocks dd_X10_isOfOrUnder_28 rfl ?_
        exact g_finM (hT (by unfold undr; omega)) (by first | rfl | (subst_vars; rfl))
    · refine g_iconst (pc := 27) (x := 1) hK dd_X10_isOfOrUnder_27 (by decide) ?_
      refine g_iret (pc := 28) hK hr hlocks dd_X10_isOfOrUnder_28 rfl ?_
      exact g_finM (hT (by unfold undr; omega)) (by first | rfl | (subst_vars; rfl))
  · refine g_topv (v := gI 2) (by rw [c2]) ?_
    refine g_istoren (pc := 6) (i := 3) (L' := [(0, gR 6), (1, gI t), (2, gI k), (3, gI 2)]) hK dd_X10_isOfOrUnder_6 rfl (by decide) rfl ?_
    refine g_iconst (pc := 7) (x := 0) hK dd_X10_isOfOrUnder_7 (by decide) ?_
    refine g_istore (pc := 8) (i := 4) (L' := [(0, gR 6), (1, gI t), (2, gI k), (3, gI 2), (4, gI 0)]) hK dd_X10_isOfOrUnder_8 (by decide) rfl ?_
    refine g_iload (pc := 10) (i := 4) (x := 0) hK dd_X10_isOfOrUnder_10 rfl ?_
    refine g_bipush (pc := 12) (x := 6) hK dd_X10_isOfOrUnder_12 (by decide) ?_
    refine g_icmp_ge (pc := 14) (tgt := 41) hK dd_X10_isOfOrUnder_14 (by decide) (by decide) (by decide) (fun c16 => absurd c16 (by decide)) (fun _ => ?_)
    refine g_iloadn (pc := 17) (i := 3) (x := 2) hK dd_X10_isOfOrUnder_17 rfl rfl ?_
    refine g_iconst (pc := 18) (x := (-1)) hK dd_X10_isOfOrUnder_18 (by decide) ?_
    refine g_icmp_eq (pc := 19) (tgt := 41) hK dd_X10_isOfOrUnder_19 (by decide) (by decide) (by decide) (fun c17 => absurd c17 (by decide)) (fun _ => ?_)
    refine g_iloadn (pc := 22) (i := 3) (x := 2) hK dd_X10_isOfOrUnder_22 rfl rfl ?_
    refine g_iloadn (pc := 23) (i := 2) (x := k) hK dd_X10_isOfOrUnder_23 rfl rfl ?_
    refine g_icmp_ne (pc := 24) (tgt := 29) hK dd_X10_isOfOrUnder_24 (by decide) (by decide) ⟨by omega, by omega⟩ (fun c18 => ?_) (fun c18 => ?_)
    · refine g_gets (pc := 29) hK 3 rfl kk_501 dd_X10_isOfOrUnder_29 ?_
      refine g_iloadn (pc := 32) (i := 3) (x := 2) hK dd_X10_isOfOrUnder_32 rfl rfl ?_
      refine g_siald (pc := 33) hK 3 rfl (by decide) dd_X10_isOfOrUnder_33 (by omega) (by omega) ?_
      refine g_topv (v := gI 1) rfl ?_
      refine g_istoren (pc := 34) (i := 3) (L' := [(0, gR 6), (1, gI t), (2, gI k), (3, gI 1), (4, gI 0)]) hK dd_X10_isOfOrUnder_34 rfl (by decide) rfl ?_
      refine g_iinc (pc := 35) (i := 4) (y := 1) (L' := [(0, gR 6), (1, gI t), (2, gI k), (3, gI 1), (4, gI 1)]) hK dd_X10_isOfOrUnder_35 rfl rfl (by decide) rfl ?_
      refine g_goto (pc := 38) (tgt := 10) hK dd_X10_isOfOrUnder_38 (by decide) ?_
      refine g_iload (pc := 10) (i := 4) (x := 1) hK dd_X10_isOfOrUnder_10 rfl ?_
      refine g_bipush (pc := 12) (x := 6) hK dd_X10_isOfOrUnder_12 (by decide) ?_
      refine g_icmp_ge (pc := 14) (tgt := 41) hK dd_X10_isOfOrUnder_14 (by decide) (by decide) (by decide) (fun c19 => absurd c19 (by decide)) (fun _ => ?_)
      refine g_iloadn (pc := 17) (i := 3) (x := 1) hK dd_X10_isOfOrUnder_17 rfl rfl ?_
      refine g_iconst (pc := 18) (x := (-1)) hK dd_X10_isOfOrUnder_18 (by decide) ?_
      refine g_icmp_eq (pc := 19) (tgt := 41) hK dd_X10_isOfOrUnder_19 (by decide) (by decide) (by decide) (fun c20 => absurd c20 (by decide)) (fun _ => ?_)
      refine g_iloadn (pc := 22) (i := 3) (x := 1) hK dd_X10_isOfOrUnder_22 rfl rfl ?_
      refine g_iloadn (pc := 23) (i := 2) (x := k) hK dd_X10_isOfOrUnder_23 rfl rfl ?_
      refine g_icmp_ne (pc := 24) (tgt := 29) hK dd_X10_isOfOrUnder_24 (by decide) (by decide) ⟨by omega, by omega⟩ (fun c21 => ?_) (fun c21 => ?_)
      · refine g_gets (pc := 29) hK 3 rfl kk_501 dd_X10_isOfOrUnder_29 ?_
        refine g_iloadn (pc := 32) (i := 3) (x := 1) hK dd_X10_isOfOrUnder_32 rfl rfl ?_
        refine g_siald (pc := 33) hK 3 rfl (by decide) dd_X10_isOfOrUnder_33 (by omega) (by omega) ?_
        refine g_topv (v := gI 0) rfl ?_
        refine g_istoren (pc := 34) (i := 3) (L' := [(0, gR 6), (1, gI t), (2, gI k), (3, gI 0), (4, gI 1)]) hK dd_X10_isOfOrUnder_34 rfl (by decide) rfl ?_
        refine g_iinc (pc := 35) (i := 4) (y := 2) (L' := [(0, gR 6), (1, gI t), (2, gI k), (3, gI 0), (4, gI 2)]) hK dd_X10_isOfOrUnder_35 rfl rfl (by decide) rfl ?_
        refine g_goto (pc := 38) (tgt := 10) hK dd_X10_isOfOrUnder_38 (by decide) ?_
        refine g_iload (pc := 10) (i := 4) (x := 2) hK dd_X10_isOfOrUnder_10 rfl ?_
        refine g_bipush (pc := 12) (x := 6) hK dd_X10_isOfOrUnder_12 (by decide) ?_
        refine g_icmp_ge (pc := 14) (tgt := 41) hK dd_X10_isOfOrUnder_14 (by decide) (by decide) (by decide) (fun c22 => absurd c22 (by decide)) (fun _ => ?_)
        refine g_iloadn (pc := 17) (i := 3) (x := 0) hK dd_X10_isOfOrUnder_17 rfl rfl ?_
        refine g_iconst (pc := 18) (x := (-1)) hK dd_X10_isOfOrUnder_18 (by decide) ?_
        refine g_icmp_eq (pc := 19) (tgt := 41) hK dd_X10_isOfOrUnder_19 (by decide) (by decide) (by decide) (fun c23 => absurd c23 (by decide)) (fun _ => ?_)
        refine g_iloadn (pc := 22) (i := 3) (x := 0) hK dd_X10_isOfOrUnder_22 rfl rfl ?_
        refine g_iloadn (pc := 23) (i := 2) (x := k) hK dd_X10_isOfOrUnder_23 rfl rfl ?_
        refine g_icmp_ne (pc := 24) (tgt := 29) hK dd_X10_isOfOrUnder_24 (by decide) (by decide) ⟨by omega, by omega⟩ (fun c24 => ?_) (fun c24 => ?_)
        · refine g_gets (pc := 29) hK 3 rfl kk_501 dd_X10_isOfOrUnder_29 ?_
          refine g_iloadn (pc := 32) (i := 3) (x := 0) hK dd_X10_isOfOrUnder_32 rfl rfl ?_
          refine g_siald (pc := 33) hK 3 rfl (by decide) dd_X10_isOfOrUnder_33 (by omega) (by omega) ?_
          refine g_topv (v := gI (-1)) rfl ?_
          refine g_istoren (pc := 34) (i := 3) (L' := [(0, gR 6), (1, gI t), (2, gI k), (3, gI (-1)), (4, gI 2)]) hK dd_X10_isOfOrUnder_34 rfl (by decide) rfl ?_
          refine g_iinc (pc := 35) (i := 4) (y := 3) (L' := [(0, gR 6), (1, gI t), (2, gI k), (3, gI (-1)), (4, gI 3)]) hK dd_X10_isOfOrUnder_35 rfl rfl (by decide) rfl ?_
          refine g_goto (pc := 38) (tgt := 10) hK dd_X10_isOfOrUnder_38 (by decide) ?_
          refine g_iload (pc := 10) (i := 4) (x := 3) hK dd_X10_isOfOrUnder_10 rfl ?_
          refine g_bipush (pc := 12) (x := 6) hK dd_X10_isOfOrUnder_12 (by decide) ?_
          refine g_icmp_ge (pc := 14) (tgt := 41) hK dd_X10_isOfOrUnder_14 (by decide) (by decide) (by decide) (fun c25 => absurd c25 (by decide)) (fun _ => ?_)
          refine g_iloadn (pc := 17) (i := 3) (x := (-1)) hK dd_X10_isOfOrUnder_17 rfl rfl ?_
          refine g_iconst (pc := 18) (x := (-1)) hK dd_X10_isOfOrUnder_18 (by decide) ?_
          refine g_icmp_eq (pc := 19) (tgt := 41) hK dd_X10_isOfOrUnder_19 (by decide) (by decide) (by decide) (fun _ => ?_) (fun c26 => absurd (by decide) c26)
          refine g_iconst (pc := 41) (x := 0) hK dd_X10_isOfOrUnder_41 (by decide) ?_
          refine g_iret (pc := 42) hK hr hlocks dd_X10_isOfOrUnder_42 rfl ?_
          exact g_finM (hF (by unfold undr; omega)) (by first | rfl | (subst_vars; rfl))
        · refine g_iconst (pc := 27) (x := 1) hK dd_X10_isOfOrUnder_27 (by decide) ?_
          refine g_iret (pc := 28) hK hr hlocks dd_X10_isOfOrUnder_28 rfl ?_
          exact g_finM (hT (by unfold undr; omega)) (by first | rfl | (subst_vars; rfl))
      · refine g_iconst (pc := 27) (x := 1) hK dd_X10_isOfOrUnder_27 (by decide) ?_
        refine g_iret (pc := 28) hK hr hlocks dd_X10_isOfOrUnder_28 rfl ?_
        exact g_finM (hT (by unfold undr; omega)) (by first | rfl | (subst_vars; rfl))
    · refine g_iconst (pc := 27) (x := 1) hK dd_X10_isOfOrUnder_27 (by decide) ?_
      refine g_iret (pc := 28) hK hr hlocks dd_X10_isOfOrUnder_28 rfl ?_
      exact g_finM (hT (by unfold undr; omega)) (by first | rfl | (subst_vars; rfl))
  · refine g_topv (v := gI 3) (by rw [c2]) ?_
    refine g_istoren (pc := 6) (i := 3) (L' := [(0, gR 6), (1, gI t), (2, gI k), (3, gI 3)]) hK dd_X10_isOfOrUnder_6 rfl (by decide) rfl ?_
    refine g_iconst (pc := 7) (x := 0) hK dd_X10_isOfOrUnder_7 (by decide) ?_
    refine g_istore (pc := 8) (i := 4) (L' := [(0, gR 6), (1, gI t), (2, gI k), (3, gI 3), (4, gI 0)]) hK dd_X10_isOfOrUnder_8 (by decide) rfl ?_
    refine g_iload (pc := 10) (i := 4) (x := 0) hK dd_X10_isOfOrUnder_10 rfl ?_
    refine g_bipush (pc := 12) (x := 6) hK dd_X10_isOfOrUnder_12 (by decide) ?_
    refine g_icmp_ge (pc := 14) (tgt := 41) hK dd_X10_isOfOrUnder_14 (by decide) (by decide) (by decide) (fun c27 => absurd c27 (by decide)) (fun _ => ?_)
    refine g_iloadn (pc := 17) (i := 3) (x := 3) hK dd_X10_isOfOrUnder_17 rfl rfl ?_
    refine g_iconst (pc := 18) (x := (-1)) hK dd_X10_isOfOrUnder_18 (by decide) ?_
    refine g_icmp_eq (pc := 19) (tgt := 41) hK dd_X10_isOfOrUnder_19 (by decide) (by decide) (by decide) (fun c28 => absurd c28 (by decide)) (fun _ => ?_)
    refine g_iloadn (pc := 22) (i := 3) (x := 3) hK dd_X10_isOfOrUnder_22 rfl rfl ?_
    refine g_iloadn (pc := 23) (i := 2) (x := k) hK dd_X10_isOfOrUnder_23 rfl rfl ?_
    refine g_icmp_ne (pc := 24) (tgt := 29) hK dd_X10_isOfOrUnder_24 (by decide) (by decide) ⟨by omega, by omega⟩ (fun c29 => ?_) (fun c29 => ?_)
    · refine g_gets (pc := 29) hK 3 rfl kk_501 dd_X10_isOfOrUnder_29 ?_
      refine g_iloadn (pc := 32) (i := 3) (x := 3) hK dd_X10_isOfOrUnder_32 rfl rfl ?_
      refine g_siald (pc := 33) hK 3 rfl (by decide) dd_X10_isOfOrUnder_33 (by omega) (by omega) ?_
      refine g_topv (v := gI 2) rfl ?_
      refine g_istoren (pc := 34) (i := 3) (L' := [(0, gR 6), (1, gI t), (2, gI k), (3, gI 2), (4, gI 0)]) hK dd_X10_isOfOrUnder_34 rfl (by decide) rfl ?_
      refine g_iinc (pc := 35) (i := 4) (y := 1) (L' := [(0, gR 6), (1, gI t), (2, gI k), (3, gI 2), (4, gI 1)]) hK dd_X10_isOfOrUnder_35 rfl rfl (by decide) rfl ?_
      refine g_goto (pc := 38) (tgt := 10) hK dd_X10_isOfOrUnder_38 (by decide) ?_
      refine g_iload (pc := 10) (i := 4) (x := 1) hK dd_X10_isOfOrUnder_10 rfl ?_
      refine g_bipush (pc := 12) (x := 6) hK dd_X10_isOfOrUnder_12 (by decide) ?_
      refine g_icmp_ge (pc := 14) (tgt := 41) hK dd_X10_isOfOrUnder_14 (by decide) (by decide) (by decide) (fun c30 => absurd c30 (by decide)) (fun _ => ?_)
      refine g_iloadn (pc := 17) (i := 3) (x := 2) hK dd_X10_isOfOrUnder_17 rfl rfl ?_
      refine g_iconst (pc := 18) (x := (-1)) hK dd_X10_isOfOrUnder_18 (by decide) ?_
      refine g_icmp_eq (pc := 19) (tgt := 41) hK dd_X10_isOfOrUnder_19 (by decide) (by decide) (by decide) (fun c31 => absurd c31 (by decide)) (fun _ => ?_)
      refine g_iloadn (pc := 22) (i := 3) (x := 2) hK dd_X10_isOfOrUnder_22 rfl rfl ?_
      refine g_iloadn (pc := 23) (i := 2) (x := k) hK dd_X10_isOfOrUnder_23 rfl rfl ?_
      refine g_icmp_ne (pc := 24) (tgt := 29) hK dd_X10_isOfOrUnder_24 (by decide) (by decide) ⟨by omega, by omega⟩ (fun c32 => ?_) (fun c32 => ?_)
      · refine g_gets (pc := 29) hK 3 rfl kk_501 dd_X10_isOfOrUnder_29 ?_
        refine g_iloadn (pc := 32) (i := 3) (x := 2) hK dd_X10_isOfOrUnder_32 rfl rfl ?_
        refine g_siald (pc := 33) hK 3 rfl (by decide) dd_X10_isOfOrUnder_33 (by omega) (by omega) ?_
        refine g_topv (v := gI 1) rfl ?_
        refine g_istoren (pc := 34) (i := 3) (L' := [(0, gR 6), (1, gI t), (2, gI k), (3, gI 1), (4, gI 1)]) hK dd_X10_isOfOrUnder_34 rfl (by decide) rfl ?_
        refine g_iinc (pc := 35) (i := 4) (y := 2) (L' := [(0, gR 6), (1, gI t), (2, gI k), (3, gI 1), (4, gI 2)]) hK dd_X10_isOfOrUnder_35 rfl rfl (by decide) rfl ?_
        refine g_goto (pc := 38) (tgt := 10) hK dd_X10_isOfOrUnder_38 (by decide) ?_
        refine g_iload (pc := 10) (i := 4) (x := 2) hK dd_X10_isOfOrUnder_10 rfl ?_
        refine g_bipush (pc := 12) (x := 6) hK dd_X10_isOfOrUnder_12 (by decide) ?_
        refine g_icmp_ge (pc := 14) (tgt := 41) hK dd_X10_isOfOrUnder_14 (by decide) (by decide) (by decide) (fun c33 => absurd c33 (by decide)) (fun _ => ?_)
        refine g_iloadn (pc := 17) (i := 3) (x := 1) hK dd_X10_isOfOrUnder_17 rfl rfl ?_
        refine g_iconst (pc := 18) (x := (-1)) hK dd_X10_isOfOrUnder_18 (by decide) ?_
        refine g_icmp_eq (pc := 19) (tgt := 41) hK dd_X10_isOfOrUnder_19 (by decide) (by decide) (by decide) (fun c34 => absurd c34 (by decide)) (fun _ => ?_)
        refine g_iloadn (pc := 22) (i := 3) (x := 1) hK dd_X10_isOfOrUnder_22 rfl rfl ?_
        refine g_iloadn (pc := 23) (i := 2) (x := k) hK dd_X10_isOfOrUnder_23 rfl rfl ?_
        refine g_icmp_ne (pc := 24) (tgt := 29) hK dd_X10_isOfOrUnder_24 (by decide) (by decide) ⟨by omega, by omega⟩ (fun c35 => ?_) (fun c35 => ?_)
        · refine g_gets (pc := 29) hK 3 rfl kk_501 dd_X10_isOfOrUnder_29 ?_
          refine g_iloadn (pc := 32) (i := 3) (x := 1) hK dd_X10_isOfOrUnder_32 rfl rfl ?_
          refine g_siald (pc := 33) hK 3 rfl (by decide) dd_X10_isOfOrUnder_33 (by omega) (by omega) ?_
          refine g_topv (v := gI 0) rfl ?_
          refine g_istoren (pc := 34) (i := 3) (L' := [(0, gR 6), (1, gI t), (2, gI k), (3, gI 0), (4, gI 2)]) hK dd_X10_isOfOrUnder_34 rfl (by decide) rfl ?_
          refine g_iinc (pc := 35) (i := 4) (y := 3) (L' := [(0, gR 6), (1, gI t), (2, gI k), (3, gI 0), (4, gI 3)]) hK dd_X10_isOfOrUnder_35 rfl rfl (by decide) rfl ?_
          refine g_goto (pc := 38) (tgt := 10) hK dd_X10_isOfOrUnder_38 (by decide) ?_
          refine g_iload (pc := 10) (i := 4) (x := 3) hK dd_X10_isOfOrUnder_10 rfl ?_
          refine g_bipush (pc := 12) (x := 6) hK dd_X10_isOfOrUnder_12 (by decide) ?_
          refine g_icmp_ge (pc := 14) (tgt := 41) hK dd_X10_isOfOrUnder_14 (by decide) (by decide) (by decide) (fun c36 => absurd c36 (by decide)) (fun _ => ?_)
          refine g_iloadn (pc := 17) (i := 3) (x := 0) hK dd_X10_isOfOrUnder_17 rfl rfl ?_
          refine g_iconst (pc := 18) (x := (-1)) hK dd_X10_isOfOrUnder_18 (by decide) ?_
          refine g_icmp_eq (pc := 19) (tgt := 41) hK dd_X10_isOfOrUnder_19 (by decide) (by decide) (by decide) (fun c37 => absurd c37 (by decide)) (fun _ => ?_)
          refine g_iloadn (pc := 22) (i := 3) (x := 0) hK dd_X10_isOfOrUnder_22 rfl rfl ?_
          refine g_iloadn (pc := 23) (i := 2) (x := k) hK dd_X10_isOfOrUnder_23 rfl rfl ?_
          refine g_icmp_ne (pc := 24) (tgt := 29) hK dd_X10_isOfOrUnder_24 (by decide) (by decide) ⟨by omega, by omega⟩ (fun c38 => ?_) (fun c38 => ?_)
          · refine g_gets (pc := 29) hK 3 rfl kk_501 dd_X10_isOfOrUnder_29 ?_
            refine g_iloadn (pc := 32) (i := 3) (x := 0) hK dd_X10_isOfOrUnder_32 rfl rfl ?_
            refine g_siald (pc := 33) hK 3 rfl (by decide) dd_X10_isOfOrUnder_33 (by omega) (by omega) ?_
            refine g_topv (v := gI (-1)) rfl ?_
            refine g_istoren (pc := 34) (i := 3) (L' := [(0, gR 6), (1, gI t), (2, gI k), (3, gI (-1)), (4, gI 3)]) hK dd_X10_isOfOrUnder_34 rfl (by decide) rfl ?_
            refine g_iinc (pc := 35) (i := 4) (y := 4) (L' := [(0, gR 6), (1, gI t), (2, gI k), (3, gI (-1)), (4, gI 4)]) hK dd_X10_isOfOrUnder_35 rfl rfl (by decide) rfl ?_
            refine g_goto (pc := 38) (tgt := 10) hK dd_X10_isOfOrUnder_38 (by decide) ?_
            refine g_iload (pc := 10) (i := 4) (x := 4) hK dd_X10_isOfOrUnder_10 rfl ?_
            refine g_bipush (pc := 12) (x := 6) hK dd_X10_isOfOrUnder_12 (by decide) ?_
            refine g_icmp_ge (pc := 14) (tgt := 41) hK dd_X10_isOfOrUnder_14 (by decide) (by decide) (by decide) (fun c39 => absurd c39 (by decide)) (fun _ => ?_)
            refine g_iloadn (pc := 17) (i := 3) (x := (-1)) hK dd_X10_isOfOrUnder_17 rfl rfl ?_
            refine g_iconst (pc := 18) (x := (-1)) hK dd_X10_isOfOrUnder_18 (by decide) ?_
            refine g_icmp_eq (pc := 19) (tgt := 41) hK dd_X10_isOfOrUnder_19 (by decide) (by decide) (by decide) (fun _ => ?_) (fun c40 => absurd (by decide) c40)
            refine g_iconst (pc := 41) (x := 0) hK dd_X10_isOfOrUnder_41 (by decide) ?_
            refine g_iret (pc := 42) hK hr hlocks dd_X10_isOfOrUnder_42 rfl ?_
            exact g_finM (hF (by unfold undr; omega)) (by first | rfl | (subst_vars; rfl))
          · refine g_iconst (pc := 27) (x := 1) hK dd_X10_isOfOrUnder_27 (by decide) ?_
            refine g_iret (pc := 28) hK hr hlocks dd_X10_isOfOrUnder_28 rfl ?_
            exact g_finM (hT (by unfold undr; omega)) (by first | rfl | (subst_vars; rfl))
        · refine g_iconst (pc := 27) (x := 1) hK dd_X10_isOfOrUnder_27 (by decide) ?_
          refine g_iret (pc := 28) hK hr hlocks dd_X10_isOfOrUnder_28 rfl ?_
          exact g_finM (hT (by unfold undr; omega)) (by first | rfl | (subst_vars; rfl))
      · refine g_iconst (pc := 27) (x := 1) hK dd_X10_isOfOrUnder_27 (by decide) ?_
        refine g_iret (pc := 28) hK hr hlocks dd_X10_isOfOrUnder_28 rfl ?_
        exact g_finM (hT (by unfold undr; omega)) (by first | rfl | (subst_vars; rfl))
    · refine g_iconst (pc := 27) (x := 1) hK dd_X10_isOfOrUnder_27 (by decide) ?_
      refine g_iret (pc := 28) hK hr hlocks dd_X10_isOfOrUnder_28 rfl ?_
      exact g_finM (hT (by unfold undr; omega)) (by first | rfl | (subst_vars; rfl))
  · refine g_topv (v := gI 4) (by rw [c2]) ?_
    refine g_istoren (pc := 6) (i := 3) (L' := [(0, gR 6), (1, gI t), (2, gI k), (3, gI 4)]) hK dd_X10_isOfOrUnder_6 rfl (by decide) rfl ?_
    refine g_iconst (pc := 7) (x := 0) hK dd_X10_isOfOrUnder_7 (by decide) ?_
    refine g_istore (pc := 8) (i := 4) (L' := [(0, gR 6), (1, gI t), (2, gI k), (3, gI 4), (4, gI 0)]) hK dd_X10_isOfOrUnder_8 (by decide) rfl ?_
    refine g_iload (pc := 10) (i := 4) (x := 0) hK dd_X10_isOfOrUnder_10 rfl ?_
    refine g_bipush (pc := 12) (x := 6) hK dd_X10_isOfOrUnder_12 (by decide) ?_
    refine g_icmp_ge (pc := 14) (tgt := 41) hK dd_X10_isOfOrUnder_14 (by decide) (by decide) (by decide) (fun c41 => absurd c41 (by decide)) (fun _ => ?_)
    refine g_iloadn (pc := 17) (i := 3) (x := 4) hK dd_X10_isOfOrUnder_17 rfl rfl ?_
    refine g_iconst (pc := 18) (x := (-1)) hK dd_X10_isOfOrUnder_18 (by decide) ?_
    refine g_icmp_eq (pc := 19) (tgt := 41) hK dd_X10_isOfOrUnder_19 (by decide) (by decide) (by decide) (fun c42 => absurd c42 (by decide)) (fun _ => ?_)
    refine g_iloadn (pc := 22) (i := 3) (x := 4) hK dd_X10_isOfOrUnder_22 rfl rfl ?_
    refine g_iloadn (pc := 23) (i := 2) (x := k) hK dd_X10_isOfOrUnder_23 rfl rfl ?_
    refine g_icmp_ne (pc := 24) (tgt := 29) hK dd_X10_isOfOrUnder_24 (by decide) (by decide) ⟨by omega, by omega⟩ (fun c43 => ?_) (fun c43 => ?_)
    · refine g_gets (pc := 29) hK 3 rfl kk_501 dd_X10_isOfOrUnder_29 ?_
      refine g_iloadn (pc := 32) (i := 3) (x := 4) hK dd_X10_isOfOrUnder_32 rfl rfl ?_
      refine g_siald (pc := 33) hK 3 rfl (by decide) dd_X10_isOfOrUnder_33 (by omega) (by omega) ?_
      refine g_topv (v := gI 0) rfl ?_
      refine g_istoren (pc := 34) (i := 3) (L' := [(0, gR 6), (1, gI t), (2, gI k), (3, gI 0), (4, gI 0)]) hK dd_X10_isOfOrUnder_34 rfl (by decide) rfl ?_
      refine g_iinc (pc := 35) (i := 4) (y := 1) (L' := [(0, gR 6), (1, gI t), (2, gI k), (3, gI 0), (4, gI 1)]) hK dd_X10_isOfOrUnder_35 rfl rfl (by decide) rfl ?_
      refine g_goto (pc := 38) (tgt := 10) hK dd_X10_isOfOrUnder_38 (by decide) ?_
      refine g_iload (pc := 10) (i := 4) (x := 1) hK dd_X10_isOfOrUnder_10 rfl ?_
      refine g_bipush (pc := 12) (x := 6) hK dd_X10_isOfOrUnder_12 (by decide) ?_
      refine g_icmp_ge (pc := 14) (tgt := 41) hK dd_X10_isOfOrUnder_14 (by decide) (by decide) (by decide) (fun c44 => absurd c44 (by decide)) (fun _ => ?_)
      refine g_iloadn (pc := 17) (i := 3) (x := 0) hK dd_X10_isOfOrUnder_17 rfl rfl ?_
      refine g_iconst (pc := 18) (x := (-1)) hK dd_X10_isOfOrUnder_18 (by decide) ?_
      refine g_icmp_eq (pc := 19) (tgt := 41) hK dd_X10_isOfOrUnder_19 (by decide) (by decide) (by decide) (fun c45 => absurd c45 (by decide)) (fun _ => ?_)
      refine g_iloadn (pc := 22) (i := 3) (x := 0) hK dd_X10_isOfOrUnder_22 rfl rfl ?_
      refine g_iloadn (pc := 23) (i := 2) (x := k) hK dd_X10_isOfOrUnder_23 rfl rfl ?_
      refine g_icmp_ne (pc := 24) (tgt := 29) hK dd_X10_isOfOrUnder_24 (by decide) (by decide) ⟨by omega, by omega⟩ (fun c46 => ?_) (fun c46 => ?_)
      · refine g_gets (pc := 29) hK 3 rfl kk_501 dd_X10_isOfOrUnder_29 ?_
        refine g_iloadn (pc := 32) (i := 3) (x := 0) hK dd_X10_isOfOrUnder_32 rfl rfl ?_
        refine g_siald (pc := 33) hK 3 rfl (by decide) dd_X10_isOfOrUnder_33 (by omega) (by omega) ?_
        refine g_topv (v := gI (-1)) rfl ?_
        refine g_istoren (pc := 34) (i := 3) (L' := [(0, gR 6), (1, gI t), (2, gI k), (3, gI (-1)), (4, gI 1)]) hK dd_X10_isOfOrUnder_34 rfl (by decide) rfl ?_
        refine g_iinc (pc := 35) (i := 4) (y := 2) (L' := [(0, gR 6), (1, gI t), (2, gI k), (3, gI (-1)), (4, gI 2)]) hK dd_X10_isOfOrUnder_35 rfl rfl (by decide) rfl ?_
        refine g_goto (pc := 38) (tgt := 10) hK dd_X10_isOfOrUnder_38 (by decide) ?_
        refine g_iload (pc := 10) (i := 4) (x := 2) hK dd_X10_isOfOrUnder_10 rfl ?_
        refine g_bipush (pc := 12) (x := 6) hK dd_X10_isOfOrUnder_12 (by decide) ?_
        refine g_icmp_ge (pc := 14) (tgt := 41) hK dd_X10_isOfOrUnder_14 (by decide) (by decide) (by decide) (fun c47 => absurd c47 (by decide)) (fun _ => ?_)
        refine g_iloadn (pc := 17) (i := 3) (x := (-1)) hK dd_X10_isOfOrUnder_17 rfl rfl ?_
        refine g_iconst (pc := 18) (x := (-1)) hK dd_X10_isOfOrUnder_18 (by decide) ?_
        refine g_icmp_eq (pc := 19) (tgt := 41) hK dd_X10_isOfOrUnder_19 (by decide) (by decide) (by decide) (fun _ => ?_) (fun c48 => absurd (by decide) c48)
        refine g_iconst (pc := 41) (x := 0) hK dd_X10_isOfOrUnder_41 (by decide) ?_
        refine g_iret (pc := 42) hK hr hlocks dd_X10_isOfOrUnder_42 rfl ?_
        exact g_finM (hF (by unfold undr; omega)) (by first | rfl | (subst_vars; rfl))
      · refine g_iconst (pc := 27) (x := 1) hK dd_X10_isOfOrUnder_27 (by decide) ?_
        refine g_iret (pc := 28) hK hr hlocks dd_X10_isOfOrUnder_28 rfl ?_
        exact g_finM (hT (by unfold undr; omega)) (by first | rfl | (subst_vars; rfl))
    · refine g_iconst (pc := 27) (x := 1) hK dd_X10_isOfOrUnder_27 (by decide) ?_
      refine g_iret (pc := 28) hK hr hlocks dd_X10_isOfOrUnder_28 rfl ?_
      exact g_finM (hT (by unfold undr; omega)) (by first | rfl | (subst_vars; rfl))
  · refine g_topv (v := gI 5) (by rw [c2]) ?_
    refine g_istoren (pc := 6) (i := 3) (L' := [(0, gR 6), (1, gI t), (2, gI k), (3, gI 5)]) hK dd_X10_isOfOrUnder_6 rfl (by decide) rfl ?_
    refine g_iconst (pc := 7) (x := 0) hK dd_X10_isOfOrUnder_7 (by decide) ?_
    refine g_istore (pc := 8) (i := 4) (L' := [(0, gR 6), (1, gI t), (2, gI k), (3, gI 5), (4, gI 0)]) hK dd_X10_isOfOrUnder_8 (by decide) rfl ?_
    refine g_iload (pc := 10) (i := 4) (x := 0) hK dd_X10_isOfOrUnder_10 rfl ?_
    refine g_bipush (pc := 12) (x := 6) hK dd_X10_isOfOrUnder_12 (by decide) ?_
    refine g_icmp_ge (pc := 14) (tgt := 41) hK dd_X10_isOfOrUnder_14 (by decide) (by decide) (by decide) (fun c49 => absurd c49 (by decide)) (fun _ => ?_)
    refine g_iloadn (pc := 17) (i := 3) (x := 5) hK dd_X10_isOfOrUnder_17 rfl rfl ?_
    refine g_iconst (pc := 18) (x := (-1)) hK dd_X10_isOfOrUnder_18 (by decide) ?_
    refine g_icmp_eq (pc := 19) (tgt := 41) hK dd_X10_isOfOrUnder_19 (by decide) (by decide) (by decide) (fun c50 => absurd c50 (by decide)) (fun _ => ?_)
    refine g_iloadn (pc := 22) (i := 3) (x := 5) hK dd_X10_isOfOrUnder_22 rfl rfl ?_
    refine g_iloadn (pc := 23) (i := 2) (x := k) hK dd_X10_isOfOrUnder_23 rfl rfl ?_
    refine g_icmp_ne (pc := 24) (tgt := 29) hK dd_X10_isOfOrUnder_24 (by decide) (by decide) ⟨by omega, by omega⟩ (fun c51 => ?_) (fun c51 => ?_)
    · refine g_gets (pc := 29) hK 3 rfl kk_501 dd_X10_isOfOrUnder_29 ?_
      refine g_iloadn (pc := 32) (i := 3) (x := 5) hK dd_X10_isOfOrUnder_32 rfl rfl ?_
      refine g_siald (pc := 33) hK 3 rfl (by decide) dd_X10_isOfOrUnder_33 (by omega) (by omega) ?_
      refine g_topv (v := gI 0) rfl ?_
      refine g_istoren (pc := 34) (i := 3) (L' := [(0, gR 6), (1, gI t), (2, gI k), (3, gI 0), (4, gI 0)]) hK dd_X10_isOfOrUnder_34 rfl (by decide) rfl ?_
      refine g_iinc (pc := 35) (i := 4) (y := 1) (L' := [(0, gR 6), (1, gI t), (2, gI k), (3, gI 0), (4, gI 1)]) hK dd_X10_isOfOrUnder_35 rfl rfl (by decide) rfl ?_
      refine g_goto (pc := 38) (tgt := 10) hK dd_X10_isOfOrUnder_38 (by decide) ?_
      refine g_iload (pc := 10) (i := 4) (x := 1) hK dd_X10_isOfOrUnder_10 rfl ?_
      refine g_bipush (pc := 12) (x := 6) hK dd_X10_isOfOrUnder_12 (by decide) ?_
      refine g_icmp_ge (pc := 14) (tgt := 41) hK dd_X10_isOfOrUnder_14 (by decide) (by decide) (by decide) (fun c52 => absurd c52 (by decide)) (fun _ => ?_)
      refine g_iloadn (pc := 17) (i := 3) (x := 0) hK dd_X10_isOfOrUnder_17 rfl rfl ?_
      refine g_iconst (pc := 18) (x := (-1)) hK dd_X10_isOfOrUnder_18 (by decide) ?_
      refine g_icmp_eq (pc := 19) (tgt := 41) hK dd_X10_isOfOrUnder_19 (by decide) (by decide) (by decide) (fun c53 => absurd c53 (by decide)) (fun _ => ?_)
      refine g_iloadn (pc := 22) (i := 3) (x := 0) hK dd_X10_isOfOrUnder_22 rfl rfl ?_
      refine g_iloadn (pc := 23) (i := 2) (x := k) hK dd_X10_isOfOrUnder_23 rfl rfl ?_
      refine g_icmp_ne (pc := 24) (tgt := 29) hK dd_X10_isOfOrUnder_24 (by decide) (by decide) ⟨by omega, by omega⟩ (fun c54 => ?_) (fun c54 => ?_)
      · refine g_gets (pc := 29) hK 3 rfl kk_501 dd_X10_isOfOrUnder_29 ?_
        refine g_iloadn (pc := 32) (i := 3) (x := 0) hK dd_X10_isOfOrUnder_32 rfl rfl ?_
        refine g_siald (pc := 33) hK 3 rfl (by decide) dd_X10_isOfOrUnder_33 (by omega) (by omega) ?_
        refine g_topv (v := gI (-1)) rfl ?_
        refine g_istoren (pc := 34) (i := 3) (L' := [(0, gR 6), (1, gI t), (2, gI k), (3, gI (-1)), (4, gI 1)]) hK dd_X10_isOfOrUnder_34 rfl (by decide) rfl ?_
        refine g_iinc (pc := 35) (i := 4) (y := 2) (L' := [(0, gR 6), (1, gI t), (2, gI k), (3, gI (-1)), (4, gI 2)]) hK dd_X10_isOfOrUnder_35 rfl rfl (by decide) rfl ?_
        refine g_goto (pc := 38) (tgt := 10) hK dd_X10_isOfOrUnder_38 (by decide) ?_
        refine g_iload (pc := 10) (i := 4) (x := 2) hK dd_X10_isOfOrUnder_10 rfl ?_
        refine g_bipush (pc := 12) (x := 6) hK dd_X10_isOfOrUnder_12 (by decide) ?_
        refine g_icmp_ge (pc := 14) (tgt := 41) hK dd_X10_isOfOrUnder_14 (by decide) (by decide) (by decide) (fun c55 => absurd c55 (by decide)) (fun _ => ?_)
        refine g_iloadn (pc := 17) (i := 3) (x := (-1)) hK dd_X10_isOfOrUnder_17 rfl rfl ?_
        refine g_iconst (pc := 18) (x := (-1)) hK dd_X10_isOfOrUnder_18 (by decide) ?_
        refine g_icmp_eq (pc := 19) (tgt := 41) hK dd_X10_isOfOrUnder_19 (by decide) (by decide) (by decide) (fun _ => ?_) (fun c56 => absurd (by decide) c56)
        refine g_iconst (pc := 41) (x := 0) hK dd_X10_isOfOrUnder_41 (by decide) ?_
        refine g_iret (pc := 42) hK hr hlocks dd_X10_isOfOrUnder_42 rfl ?_
        exact g_finM (hF (by unfold undr; omega)) (by first | rfl | (subst_vars; rfl))
      · refine g_iconst (pc := 27) (x := 1) hK dd_X10_isOfOrUnder_27 (by decide) ?_
        refine g_iret (pc := 28) hK hr hlocks dd_X10_isOfOrUnder_28 rfl ?_
        exact g_finM (hT (by unfold undr; omega)) (by first | rfl | (subst_vars; rfl))
    · refine g_iconst (pc := 27) (x := 1) hK dd_X10_isOfOrUnder_27 (by decide) ?_
      refine g_iret (pc := 28) hK hr hlocks dd_X10_isOfOrUnder_28 rfl ?_
      exact g_finM (hT (by unfold undr; omega)) (by first | rfl | (subst_vars; rfl))
set_option maxHeartbeats 4000000 in
set_option maxRecDepth 100000 in
theorem c_wordOf {l : Launch} {M : Mem} {Pq : Option gV → Mem → Prop} (t : Int) (k : Int) (h1 : 0 ≤ t) (h2 : t < 30) (hth : thOK M) (hk : 0 ≤ k ∧ k ≤ 5) (hQ : Pq (some (gI (wrd k (M 7 t.toNat) (M 8 t.toNat) (M 9 t.toNat)))) M) : gCtr l my_X10_wordOf mb_X10_wordOf 3 ((some .int)) 4 [gR 6, gI t, gI k] M Pq := by
  refine g_intro (by decide) (Nat.le_of_ble_eq_true rfl) ?_
  intro p e s m args below meth c D cy q A hK hr hlocks hw
  refine g_sub (L' := [(0, gR 6), (1, gI t), (2, gI k)]) [0, 1, 2] rfl ?_
  have h3 := thW hth (tn30 h1 h2)
  have h4 := thC hth (tn30 h1 h2)
  refine g_iloadn (pc := 0) (i := 2) (x := k) hK dd_X10_wordOf_0 rfl rfl ?_
  rcases (show (k < 1 ∨ 5 < k) ∨ k = 1 ∨ k = 2 ∨ k = 3 ∨ k = 4 ∨ k = 5 by omega) with c1 | c1 | c1 | c1 | c1 | c1
  · refine g_tabOut (pc := 1) (tgt := 93) hK dd_X10_wordOf_1 ⟨by omega, by omega⟩ c1 (by decide) ?_
    refine g_aloadn (pc := 93) (i := 0) (x := 6) hK dd_X10_wordOf_93 rfl rfl ?_
    refine g_iloadn (pc := 94) (i := 1) (x := t) hK dd_X10_wordOf_94 rfl rfl ?_
    refine g_callV (pc := 95) (As := [gI t]) hK ws_Things_76 md_X10_trueWorth ⟨Nat.zero_le _, Nat.zero_le _⟩ ⟨by decide, by decide⟩ (kdm kd_6) rfl rfl dd_X10_wordOf_95 rfl rfl (Nat.le_of_ble_eq_true rfl) (c_trueWorth t (by omega) (by omega) hth (g_r1 ?_))
    refine g_topI (fun y2 ey2 => ?_)
    refine g_iret (pc := 98) hK hr hlocks dd_X10_wordOf_98 rfl ?_
    exact g_fin hQ (by (first | rw [wrd_0 (by omega)] | rw [wrd_1 (by omega)] | rw [wrd_2 (by omega)] | rw [wrd_3 (by omega)] | rw [wrd_4 (by omega)] | rw [wrd_5 (by omega)]); subst_vars; first | rfl | (split <;> first | omega | rfl) | (rw [if_pos (by assumption)]) | (rw [if_neg (by assumption)])) (by first | rfl | (subst_vars; rfl))
  · refine g_tabIn (pc := 1) (tgt := 36) hK dd_X10_wordOf_1 ⟨by omega, by omega⟩ (by omega) (by omega) (by rw [c1]; rfl) (by decide) ?_
    refine g_aloadn (pc := 36) (i := 0) (x := 6) hK dd_X10_wordOf_36 rfl rfl ?_
    refine g_getv (pc := 37) (f := (1, 3)) (j := 2) (v := gR 9) hK (kdm kd_6) rfl ef_10 (by decide) rfl kk_72 dd_X10_wordOf_37 rfl ?_
    refine g_iloadn (pc := 40) (i := 1) (x := t) hK dd_X10_wordOf_40 rfl rfl ?_
    refine g_iald (pc := 41) hK (kdm kd_9) nl_9 (by decide) dd_X10_wordOf_41 (by omega) (by omega) (fun x3 ex3 rx3 => ?_)
    refine g_callT (pc := 42) (As := [gI x3]) hK ws_Things_68 md_J6_bitCount_0f7a4 ⟨Nat.zero_le _, Nat.zero_le _⟩ ⟨by decide, by decide⟩ dd_X10_wordOf_42 rfl rfl (Nat.le_of_ble_eq_true rfl) (c_bitCount x3 (show 0 ≤ x3 by omega) (show x3 ≤ 255 by omega) (g_r1 ?_))
    refine g_iret (pc := 45) hK hr hlocks dd_X10_wordOf_45 rfl ?_
    exact g_fin hQ (by (first | rw [wrd_0 (by omega)] | rw [wrd_1 (by omega)] | rw [wrd_2 (by omega)] | rw [wrd_3 (by omega)] | rw [wrd_4 (by omega)] | rw [wrd_5 (by omega)]); subst_vars; first | rfl | (split <;> first | omega | rfl) | (rw [if_pos (by assumption)]) | (rw [if_neg (by assumption)])) (by first | rfl | (subst_vars; rfl))
  · refine g_tabIn (pc := 1) (tgt := 46) hK dd_X10_wordOf_1 ⟨by omega, by omega⟩ (by omega) (by omega) (by rw [c1]; rfl) (by decide) ?_
    refine g_aloadn (pc := 46) (i := 0) (x := 6) hK dd_X10_wordOf_46 rfl rfl ?_
    refine g_getv (pc := 47) (f := (1, 3)) (j := 2) (v := gR 9) hK (kdm kd_6) rfl ef_10 (by decide) rfl kk_72 dd_X10_wordOf_47 rfl ?_
    refine g_iloadn (pc := 50) (i := 1) (x := t) hK dd_X10_wordOf_50 rfl rfl ?_
    refine g_iald (pc := 51) hK (kdm kd_9) nl_9 (by decide) dd_X10_wordOf_51 (by omega) (by omega) (fun x4 ex4 rx4 => ?_)
    refine g_iconst (pc := 52) (x := 0) hK dd_X10_wordOf_52 (by decide) ?_
    refine g_callTN (pc := 53) (As := [gI x4, gI 0]) hK ws_Things_45 md_X11_hasBit ⟨Nat.zero_le _, Nat.zero_le _⟩ ⟨by decide, by decide⟩ dd_X10_wordOf_53 rfl rfl (Nat.le_of_ble_eq_true rfl) (c_hasBit x4 0 (fun c5 => g_r1 ?_) (fun c5 => g_r1 ?_))
    · refine g_if_eq (pc := 56) (tgt := 63) hK dd_X10_wordOf_56 (by decide) (by decide) (fun c6 => absurd c6 (by decide)) (fun _ => ?_)
      refine g_iconst (pc := 59) (x := 1) hK dd_X10_wordOf_59 (by decide) ?_
      refine g_goto (pc := 60) (tgt := 64) hK dd_X10_wordOf_60 (by decide) ?_
      refine g_iret (pc := 64) hK hr hlocks dd_X10_wordOf_64 rfl ?_
      exact g_fin hQ (by (first | rw [wrd_0 (by omega)] | rw [wrd_1 (by omega)] | rw [wrd_2 (by omega)] | rw [wrd_3 (by omega)] | rw [wrd_4 (by omega)] | rw [wrd_5 (by omega)]); subst_vars; first | rfl | (split <;> first | omega | rfl) | (rw [if_pos (by assumption)]) | (rw [if_neg (by assumption)])) (by first | rfl | (subst_vars; rfl))
    · refine g_if_eq (pc := 56) (tgt := 63) hK dd_X10_wordOf_56 (by decide) (by decide) (fun _ => ?_) (fun c7 => absurd (by decide) c7)
      refine g_iconst (pc := 63) (x := 0) hK dd_X10_wordOf_63 (by decide) ?_
      refine g_iret (pc := 64) hK hr hlocks dd_X10_wordOf_64 rfl ?_
      exact g_fin hQ (by (first | rw [wrd_0 (by omega)] | rw [wrd_1 (by omega)] | rw [wrd_2 (by omega)] | rw [wrd_3 (by omega)] | rw [wrd_4 (by omega)] | rw [wrd_5 (by omega)]); subst_vars; first | rfl | (split <;> first | omega | rfl) | (rw [if_pos (by assumption)]) | (rw [if_neg (by assumption)])) (by first | rfl | (subst_vars; rfl))
  · refine g_tabIn (pc := 1) (tgt := 65) hK dd_X10_wordOf_1 ⟨by omega, by omega⟩ (by omega) (by omega) (by rw [c1]; rfl) (by decide) ?_
    refine g_aloadn (pc := 65) (i := 0) (x := 6) hK dd_X10_wordOf_65 rfl rfl ?_
    refine g_iloadn (pc := 66) (i := 1) (x := t) hK dd_X10_wordOf_66 rfl rfl ?_
    refine g_callV (pc := 67) (As := [gI t]) hK ws_Things_60 md_X10_lidWorth ⟨Nat.zero_le _, Nat.zero_le _⟩ ⟨by decide, by decide⟩ (kdm kd_6) rfl rfl dd_X10_wordOf_67 rfl rfl (Nat.le_of_ble_eq_true rfl) (c_lidWorth t (show 0 ≤ t by omega) (show t < 30 by omega) (g_r1 ?_))
    refine g_topI (fun y8 ey8 => ?_)
    refine g_iret (pc := 70) hK hr hlocks dd_X10_wordOf_70 rfl ?_
    exact g_fin hQ (by (first | rw [wrd_0 (by omega)] | rw [wrd_1 (by omega)] | rw [wrd_2 (by omega)] | rw [wrd_3 (by omega)] | rw [wrd_4 (by omega)] | rw [wrd_5 (by omega)]); subst_vars; first | rfl | (split <;> first | omega | rfl) | (rw [if_pos (by assumption)]) | (rw [if_neg (by assumption)])) (by first | rfl | (subst_vars; rfl))
  · refine g_tabIn (pc := 1) (tgt := 71) hK dd_X10_wordOf_1 ⟨by omega, by omega⟩ (by omega) (by omega) (by rw [c1]; rfl) (by decide) ?_
    refine g_iconst (pc := 71) (x := 0) hK dd_X10_wordOf_71 (by decide) ?_
    refine g_aloadn (pc := 72) (i := 0) (x := 6) hK dd_X10_wordOf_72 rfl rfl ?_
    refine g_getv (pc := 73) (f := (1, 2)) (j := 1) (v := gR 8) hK (kdm kd_6) rfl ef_10 (by decide) rfl kk_70 dd_X10_wordOf_73 rfl ?_
    refine g_iloadn (pc := 76) (i := 1) (x := t) hK dd_X10_wordOf_76 rfl rfl ?_
    refine g_iald (pc := 77) hK (kdm kd_8) nl_8 (by decide) dd_X10_wordOf_77 (by omega) (by omega) (fun x9 ex9 rx9 => ?_)
    refine g_sipush (pc := 78) (x := 200) hK dd_X10_wordOf_78 (by decide) ?_
    refine g_isub (pc := 81) (z := x9 - 200) hK dd_X10_wordOf_81 rfl ?_
    refine g_mmax (pc := 82) hK ws_Things_73 (by decide) ⟨by omega, by omega⟩ ⟨by decide, by decide⟩ ⟨Nat.zero_le _, Nat.zero_le _⟩ (Nat.le_of_ble_eq_true rfl) dd_X10_wordOf_82 ?_
    refine g_topI (fun y10 ey10 => ?_)
    refine g_iret (pc := 85) hK hr hlocks dd_X10_wordOf_85 rfl ?_
    exact g_fin hQ (by (first | rw [wrd_0 (by omega)] | rw [wrd_1 (by omega)] | rw [wrd_2 (by omega)] | rw [wrd_3 (by omega)] | rw [wrd_4 (by omega)] | rw [wrd_5 (by omega)]); subst_vars; first | rfl | (split <;> first | omega | rfl) | (rw [if_pos (by assumption)]) | (rw [if_neg (by assumption)])) (by first | rfl | (subst_vars; rfl))
  · refine g_tabIn (pc := 1) (tgt := 86) hK dd_X10_wordOf_1 ⟨by omega, by omega⟩ (by omega) (by omega) (by rw [c1]; rfl) (by decide) ?_
    refine g_aloadn (pc := 86) (i := 0) (x := 6) hK dd_X10_wordOf_86 rfl rfl ?_
    refine g_getv (pc := 87) (f := (1, 2)) (j := 1) (v := gR 8) hK (kdm kd_6) rfl ef_10 (by decide) rfl kk_70 dd_X10_wordOf_87 rfl ?_
    refine g_iloadn (pc := 90) (i := 1) (x := t) hK dd_X10_wordOf_90 rfl rfl ?_
    refine g_iald (pc := 91) hK (kdm kd_8) nl_8 (by decide) dd_X10_wordOf_91 (by omega) (by omega) (fun x11 ex11 rx11 => ?_)
    refine g_iret (pc := 92) hK hr hlocks dd_X10_wordOf_92 rfl ?_
    exact g_fin hQ (by (first | rw [wrd_0 (by omega)] | rw [wrd_1 (by omega)] | rw [wrd_2 (by omega)] | rw [wrd_3 (by omega)] | rw [wrd_4 (by omega)] | rw [wrd_5 (by omega)]); subst_vars; first | rfl | (split <;> first | omega | rfl) | (rw [if_pos (by assumption)]) | (rw [if_neg (by assumption)])) (by first | rfl | (subst_vars; rfl))
set_option maxHeartbeats 4000000 in
set_option maxRecDepth 100000 in
theorem c_fill_13 {l : Launch} {M : Mem} {Pq : Option gV → Mem → Prop} (v : Int) (hv : inI v) (hQ : Pq none (fil M 13 30 v)) : gCtr l my_J7_fill_53178 mb_J7_fill_53178 4 ((none : Option Jvm.ClassFile.FieldType)) 1 [gR 13, gI v] M Pq := by
  refine g_intro (by decide) (Nat.le_of_ble_eq_true rfl) ?_
  intro p e s m args below meth c D cy q A hK hr hlocks hw
  refine g_sub (L' := [(0, gR 13), (1, gI v)]) [0, 1] rfl ?_
  refine g_iconst (pc := 0) (x := 0) hK dd_J7_fill_53178_0 (by decide) ?_
  refine g_istoren (pc := 1) (i := 2) (L' := [(0, gR 13), (1, gI v), (2, gI 0)]) hK dd_J7_fill_53178_1 rfl (by decide) rfl ?_
  refine g_aloadn (pc := 2) (i := 0) (x := 13) hK dd_J7_fill_53178_2 rfl rfl ?_
  refine g_alen (pc := 3) hK (kdm kd_13) rfl dd_J7_fill_53178_3 ?_
  refine g_topv (v := gI 30) rfl ?_
  refine g_istoren (pc := 4) (i := 3) (L' := [(0, gR 13), (1, gI v), (2, gI 0), (3, gI 30)]) hK dd_J7_fill_53178_4 rfl (by decide) rfl ?_
  have lp3 : ∀ (n1 : Nat) (i : Int) (M1 : Mem), (0 ≤ i ∧ i ≤ 30) → (M1 = fil M 13 i.toNat v) → (30 - i).toNat < n1 → G p l e (rmD 1) s m args below meth c D cy q A 0 0 4 (MQ below (gQc D cy q A Pq) args s 0 0 A) 5 [(0, gR 13), (1, gI v), (2, gI i), (3, gI 30)] [] M1 := by
    intro n1
    induction n1 with
    | zero => intro i M1 iv4 hM hm5; exact absurd hm5 (Nat.not_lt_zero _)
    | succ n1 ih2 =>
      intro i M1 iv4 hM hm5
      refine g_iloadn (pc := 5) (i := 2) (x := i) hK dd_J7_fill_53178_5 rfl rfl ?_
      refine g_iloadn (pc := 6) (i := 3) (x := 30) hK dd_J7_fill_53178_6 rfl rfl ?_
      refine g_icmp_ge (pc := 7) (tgt := 20) hK dd_J7_fill_53178_7 (by decide) ⟨by omega, by omega⟩ (by decide) (fun c6 => ?_) (fun c6 => ?_)
      · refine g_vret (pc := 20) hK hr hlocks dd_J7_fill_53178_20 ?_
        exact g_finM hQ (by rw [hM, show i = 30 by omega]; rfl)
      · refine g_aloadn (pc := 10) (i := 0) (x := 13) hK dd_J7_fill_53178_10 rfl rfl ?_
        refine g_iloadn (pc := 11) (i := 2) (x := i) hK dd_J7_fill_53178_11 rfl rfl ?_
        refine g_iloadn (pc := 12) (i := 1) (x := v) hK dd_J7_fill_53178_12 rfl rfl ?_
        refine g_iast (pc := 13) hK (kdm kd_13) nl_13 (by decide) (by decide) dd_J7_fill_53178_13 (by omega) (by omega) hv ?_
        refine g_iinc (pc := 14) (i := 2) (y := i + 1) (L' := [(0, gR 13), (1, gI v), (2, gI (i + 1)), (3, gI 30)]) hK dd_J7_fill_53178_14 rfl rfl (by decide) rfl ?_
        refine g_goto (pc := 17) (tgt := 5) hK dd_J7_fill_53178_17 (by decide) ?_
        refine g_sub (L' := [(0, gR 13), (1, gI v), (2, gI (i + 1)), (3, gI 30)]) [0, 1, 2, 3] rfl ?_
        exact ih2 (i + 1) (up M1 13 i.toNat v) (by omega) (by rw [hM, tn1 (by omega)]; exact cp_s) (by omega)
  refine g_sub (L' := [(0, gR 13), (1, gI v), (2, gI 0), (3, gI 30)]) [0, 1, 2, 3] rfl ?_
  exact lp3 _ 0 M (by omega) (cp_0.symm) (Nat.lt_succ_self _)
set_option maxHeartbeats 4000000 in
set_option maxRecDepth 100000 in
theorem c_fill_32 {l : Launch} {M : Mem} {Pq : Option gV → Mem → Prop} (v : Int) (hv : inI v) (hQ : Pq none (fil M 32 20 v)) : gCtr l my_J7_fill_53178 mb_J7_fill_53178 4 ((none : Option Jvm.ClassFile.FieldType)) 1 [gR 32, gI v] M Pq := by
  refine g_intro (by decide) (Nat.le_of_ble_eq_true rfl) ?_
  intro p e s m args below meth c D cy q A hK hr hlocks hw
  refine g_sub (L' := [(0, gR 32), (1, gI v)]) [0, 1] rfl ?_
  refine g_iconst (pc := 0) (x := 0) hK dd_J7_fill_53178_0 (by decide) ?_
  refine g_istoren (pc := 1) (i := 2) (L' := [(0, gR 32), (1, gI v), (2, gI 0)]) hK dd_J7_fill_53178_1 rfl (by decide) rfl ?_
  refine g_aloadn (pc := 2) (i := 0) (x := 32) hK dd_J7_fill_53178_2 rfl rfl ?_
  refine g_alen (pc := 3) hK (kdm kd_32) rfl dd_J7_fill_53178_3 ?_
  refine g_topv (v := gI 20) rfl ?_
  refine g_istoren (pc := 4) (i := 3) (L' := [(0, gR 32), (1, gI v), (2, gI 0), (3, gI 20)]) hK dd_J7_fill_53178_4 rfl (by decide) rfl ?_
  have lp3 : ∀ (n1 : Nat) (i : Int) (M1 : Mem), (0 ≤ i ∧ i ≤ 20) → (M1 = fil M 32 i.toNat v) → (20 - i).toNat < n1 → G p l e (rmD 1) s m args below meth c D cy q A 0 0 4 (MQ below (gQc D cy q A Pq) args s 0 0 A) 5 [(0, gR 32), (1, gI v), (2, gI i), (3, gI 20)] [] M1 := by
    intro n1
    induction n1 with
    | zero => intro i M1 iv4 hM hm5; exact absurd hm5 (Nat.not_lt_zero _)
    | succ n1 ih2 =>
      intro i M1 iv4 hM hm5
      refine g_iloadn (pc := 5) (i := 2) (x := i) hK dd_J7_fill_53178_5 rfl rfl ?_
      refine g_iloadn (pc := 6) (i := 3) (x := 20) hK dd_J7_fill_53178_6 rfl rfl ?_
      refine g_icmp_ge (pc := 7) (tgt := 20) hK dd_J7_fill_53178_7 (by decide) ⟨by omega, by omega⟩ (by decide) (fun c6 => ?_) (fun c6 => ?_)
      · refine g_vret (pc := 20) hK hr hlocks dd_J7_fill_53178_20 ?_
        exact g_finM hQ (by rw [hM, show i = 20 by omega]; rfl)
      · refine g_aloadn (pc := 10) (i := 0) (x := 32) hK dd_J7_fill_53178_10 rfl rfl ?_
        refine g_iloadn (pc := 11) (i := 2) (x := i) hK dd_J7_fill_53178_11 rfl rfl ?_
        refine g_iloadn (pc := 12) (i := 1) (x := v) hK dd_J7_fill_53178_12 rfl rfl ?_
        refine g_iast (pc := 13) hK (kdm kd_32) nl_32 (by decide) (by decide) dd_J7_fill_53178_13 (by omega) (by omega) hv ?_
        refine g_iinc (pc := 14) (i := 2) (y := i + 1) (L' := [(0, gR 32), (1, gI v), (2, gI (i + 1)), (3, gI 20)]) hK dd_J7_fill_53178_14 rfl rfl (by decide) rfl ?_
        refine g_goto (pc := 17) (tgt := 5) hK dd_J7_fill_53178_17 (by decide) ?_
        refine g_sub (L' := [(0, gR 32), (1, gI v), (2, gI (i + 1)), (3, gI 20)]) [0, 1, 2, 3] rfl ?_
        exact ih2 (i + 1) (up M1 32 i.toNat v) (by omega) (by rw [hM, tn1 (by omega)]; exact cp_s) (by omega)
  refine g_sub (L' := [(0, gR 32), (1, gI v), (2, gI 0), (3, gI 20)]) [0, 1, 2, 3] rfl ?_
  exact lp3 _ 0 M (by omega) (cp_0.symm) (Nat.lt_succ_self _)
set_option maxHeartbeats 4000000 in
set_option maxRecDepth 100000 in
theorem c_fill_33 {l : Launch} {M : Mem} {Pq : Option gV → Mem → Prop} (v : Int) (hv : inI v) (hQ : Pq none (fil M 33 20 v)) : gCtr l my_J7_fill_53178 mb_J7_fill_53178 4 ((none : Option Jvm.ClassFile.FieldType)) 1 [gR 33, gI v] M Pq := by
  refine g_intro (by decide) (Nat.le_of_ble_eq_true rfl) ?_
  intro p e s m args below meth c D cy q A hK hr hlocks hw
  refine g_sub (L' := [(0, gR 33), (1, gI v)]) [0, 1] rfl ?_
  refine g_iconst (pc := 0) (x := 0) hK dd_J7_fill_53178_0 (by decide) ?_
  refine g_istoren (pc := 1) (i := 2) (L' := [(0, gR 33), (1, gI v), (2, gI 0)]) hK dd_J7_fill_53178_1 rfl (by decide) rfl ?_
  refine g_aloadn (pc := 2) (i := 0) (x := 33) hK dd_J7_fill_53178_2 rfl rfl ?_
  refine g_alen (pc := 3) hK (kdm kd_33) rfl dd_J7_fill_53178_3 ?_
  refine g_topv (v := gI 20) rfl ?_
  refine g_istoren (pc := 4) (i := 3) (L' := [(0, gR 33), (1, gI v), (2, gI 0), (3, gI 20)]) hK dd_J7_fill_53178_4 rfl (by decide) rfl ?_
  have lp3 : ∀ (n1 : Nat) (i : Int) (M1 : Mem), (0 ≤ i ∧ i ≤ 20) → (M1 = fil M 33 i.toNat v) → (20 - i).toNat < n1 → G p l e (rmD 1) s m args below meth c D cy q A 0 0 4 (MQ below (gQc D cy q A Pq) args s 0 0 A) 5 [(0, gR 33), (1, gI v), (2, gI i), (3, gI 20)] [] M1 := by
    intro n1
    induction n1 with
    | zero => intro i M1 iv4 hM hm5; exact absurd hm5 (Nat.not_lt_zero _)
    | succ n1 ih2 =>
      intro i M1 iv4 hM hm5
      refine g_iloadn (pc := 5) (i := 2) (x := i) hK dd_J7_fill_53178_5 rfl rfl ?_
      refine g_iloadn (pc := 6) (i := 3) (x := 20) hK dd_J7_fill_53178_6 rfl rfl ?_
      refine g_icmp_ge (pc := 7) (tgt := 20) hK dd_J7_fill_53178_7 (by decide) ⟨by omega, by omega⟩ (by decide) (fun c6 => ?_) (fun c6 => ?_)
      · refine g_vret (pc := 20) hK hr hlocks dd_J7_fill_53178_20 ?_
        exact g_finM hQ (by rw [hM, show i = 20 by omega]; rfl)
      · refine g_aloadn (pc := 10) (i := 0) (x := 33) hK dd_J7_fill_53178_10 rfl rfl ?_
        refine g_iloadn (pc := 11) (i := 2) (x := i) hK dd_J7_fill_53178_11 rfl rfl ?_
        refine g_iloadn (pc := 12) (i := 1) (x := v) hK dd_J7_fill_53178_12 rfl rfl ?_
        refine g_iast (pc := 13) hK (kdm kd_33) nl_33 (by decide) (by decide) dd_J7_fill_53178_13 (by omega) (by omega) hv ?_
        refine g_iinc (pc := 14) (i := 2) (y := i + 1) (L' := [(0, gR 33), (1, gI v), (2, gI (i + 1)), (3, gI 20)]) hK dd_J7_fill_53178_14 rfl rfl (by decide) rfl ?_
        refine g_goto (pc := 17) (tgt := 5) hK dd_J7_fill_53178_17 (by decide) ?_
        refine g_sub (L' := [(0, gR 33), (1, gI v), (2, gI (i + 1)), (3, gI 20)]) [0, 1, 2, 3] rfl ?_
        exact ih2 (i + 1) (up M1 33 i.toNat v) (by omega) (by rw [hM, tn1 (by omega)]; exact cp_s) (by omega)
  refine g_sub (L' := [(0, gR 33), (1, gI v), (2, gI 0), (3, gI 20)]) [0, 1, 2, 3] rfl ?_
  exact lp3 _ 0 M (by omega) (cp_0.symm) (Nat.lt_succ_self _)
set_option maxHeartbeats 4000000 in
set_option maxRecDepth 100000 in
theorem c_fill_42 {l : Launch} {M : Mem} {Pq : Option gV → Mem → Prop} (v : Int) (hv : inI v) (hQ : Pq none (fil M 42 5 v)) : gCtr l my_J7_fill_53178 mb_J7_fill_53178 4 ((none : Option Jvm.ClassFile.FieldType)) 1 [gR 42, gI v] M Pq := by
  refine g_intro (by decide) (Nat.le_of_ble_eq_true rfl) ?_
  intro p e s m args below meth c D cy q A hK hr hlocks hw
  refine g_sub (L' := [(0, gR 42), (1, gI v)]) [0, 1] rfl ?_
  refine g_iconst (pc := 0) (x := 0) hK dd_J7_fill_53178_0 (by decide) ?_
  refine g_istoren (pc := 1) (i := 2) (L' := [(0, gR 42), (1, gI v), (2, gI 0)]) hK dd_J7_fill_53178_1 rfl (by decide) rfl ?_
  refine g_aloadn (pc := 2) (i := 0) (x := 42) hK dd_J7_fill_53178_2 rfl rfl ?_
  refine g_alen (pc := 3) hK (kdm kd_42) rfl dd_J7_fill_53178_3 ?_
  refine g_topv (v := gI 5) rfl ?_
  refine g_istoren (pc := 4) (i := 3) (L' := [(0, gR 42), (1, gI v), (2, gI 0), (3, gI 5)]) hK dd_J7_fill_53178_4 rfl (by decide) rfl ?_
  have lp3 : ∀ (n1 : Nat) (i : Int) (M1 : Mem), (0 ≤ i ∧ i ≤ 5) → (M1 = fil M 42 i.toNat v) → (5 - i).toNat < n1 → G p l e (rmD 1) s m args below meth c D cy q A 0 0 4 (MQ below (gQc D cy q A Pq) args s 0 0 A) 5 [(0, gR 42), (1, gI v), (2, gI i), (3, gI 5)] [] M1 := by
    intro n1
    induction n1 with
    | zero => intro i M1 iv4 hM hm5; exact absurd hm5 (Nat.not_lt_zero _)
    | succ n1 ih2 =>
      intro i M1 iv4 hM hm5
      refine g_iloadn (pc := 5) (i := 2) (x := i) hK dd_J7_fill_53178_5 rfl rfl ?_
      refine g_iloadn (pc := 6) (i := 3) (x := 5) hK dd_J7_fill_53178_6 rfl rfl ?_
      refine g_icmp_ge (pc := 7) (tgt := 20) hK dd_J7_fill_53178_7 (by decide) ⟨by omega, by omega⟩ (by decide) (fun c6 => ?_) (fun c6 => ?_)
      · refine g_vret (pc := 20) hK hr hlocks dd_J7_fill_53178_20 ?_
        exact g_finM hQ (by rw [hM, show i = 5 by omega]; rfl)
      · refine g_aloadn (pc := 10) (i := 0) (x := 42) hK dd_J7_fill_53178_10 rfl rfl ?_
        refine g_iloadn (pc := 11) (i := 2) (x := i) hK dd_J7_fill_53178_11 rfl rfl ?_
        refine g_iloadn (pc := 12) (i := 1) (x := v) hK dd_J7_fill_53178_12 rfl rfl ?_
        refine g_iast (pc := 13) hK (kdm kd_42) nl_42 (by decide) (by decide) dd_J7_fill_53178_13 (by omega) (by omega) hv ?_
        refine g_iinc (pc := 14) (i := 2) (y := i + 1) (L' := [(0, gR 42), (1, gI v), (2, gI (i + 1)), (3, gI 5)]) hK dd_J7_fill_53178_14 rfl rfl (by decide) rfl ?_
        refine g_goto (pc := 17) (tgt := 5) hK dd_J7_fill_53178_17 (by decide) ?_
        refine g_sub (L' := [(0, gR 42), (1, gI v), (2, gI (i + 1)), (3, gI 5)]) [0, 1, 2, 3] rfl ?_
        exact ih2 (i + 1) (up M1 42 i.toNat v) (by omega) (by rw [hM, tn1 (by omega)]; exact cp_s) (by omega)
  refine g_sub (L' := [(0, gR 42), (1, gI v), (2, gI 0), (3, gI 5)]) [0, 1, 2, 3] rfl ?_
  exact lp3 _ 0 M (by omega) (cp_0.symm) (Nat.lt_succ_self _)
set_option maxHeartbeats 4000000 in
set_option maxRecDepth 100000 in
theorem c_dearest {l : Launch} {M : Mem} {Pq : Option gV → Mem → Prop} (ks : Int) (hc : 0 ≤ M 6 6 ∧ M 6 6 ≤ 30) (hth : thOK M) (hQ : Pq (some (gI ((dear (M 7) (M 8) (M 9) (M 11) (M 13) ks (M 6 6).toNat).1))) M) : gCtr l my_X10_dearestUnshared mb_X10_dearestUnshared 5 ((some .int)) 4 [gR 6, gI ks] M Pq := by
  refine g_intro (by decide) (Nat.le_of_ble_eq_true rfl) ?_
  intro p e s m args below meth c D cy q A hK hr hlocks hw
  refine g_sub (L' := [(0, gR 6), (1, gI ks)]) [0, 1] rfl ?_
  refine g_iconst (pc := 0) (x := (-1)) hK dd_X10_dearestUnshared_0 (by decide) ?_
  refine g_istoren (pc := 1) (i := 2) (L' := [(0, gR 6), (1, gI ks), (2, gI (-1))]) hK dd_X10_dearestUnshared_1 rfl (by decide) rfl ?_
  refine g_iconst (pc := 2) (x := 0) hK dd_X10_dearestUnshared_2 (by decide) ?_
  refine g_istoren (pc := 3) (i := 3) (L' := [(0, gR 6), (1, gI ks), (2, gI (-1)), (3, gI 0)]) hK dd_X10_dearestUnshared_3 rfl (by decide) rfl ?_
  refine g_iconst (pc := 4) (x := 0) hK dd_X10_dearestUnshared_4 (by decide) ?_
  refine g_istore (pc := 5) (i := 4) (L' := [(0, gR 6), (1, gI ks), (2, gI (-1)), (3, gI 0), (4, gI 0)]) hK dd_X10_dearestUnshared_5 (by decide) rfl ?_
  have lp3 : ∀ (n1 : Nat) (d : Int) (w : Int) (t : Int), (0 ≤ t ∧ t ≤ M 6 6) → (d = (dear (M 7) (M 8) (M 9) (M 11) (M 13) ks t.toNat).1) → (w = (dear (M 7) (M 8) (M 9) (M 11) (M 13) ks t.toNat).2) → (M 6 6 - t).toNat < n1 → G p l e (rmD 4) s m args below meth c D cy q A 0 0 5 (MQ below (gQc D cy q A Pq) args s 0 0 A) 7 [(0, gR 6), (1, gI ks), (2, gI d), (3, gI w), (4, gI t)] [] M := by
    intro n1
    induction n1 with
    | zero => intro d w t iv4 hd hw2 hm5; exact absurd hm5 (Nat.not_lt_zero _)
    | succ n1 ih2 =>
      intro d w t iv4 hd hw2 hm5
      refine g_iload (pc := 7) (i := 4) (x := t) hK dd_X10_dearestUnshared_7 rfl ?_
      refine g_aloadn (pc := 9) (i := 0) (x := 6) hK dd_X10_dearestUnshared_9 rfl rfl ?_
      refine g_geti (pc := 10) (f := (0, 0)) (j := 6) hK (kdm kd_6) rfl ef_10 (by decide) rfl kk_86 nl_6 dd_X10_dearestUnshared_10 rfl (fun x6 ex6 rx6 => ?_)
      refine g_icmp_ge (pc := 13) (tgt := 72) hK dd_X10_dearestUnshared_13 (by decide) ⟨by omega, by omega⟩ rx6 (fun c7 => ?_) (fun c7 => ?_)
      · refine g_iloadn (pc := 72) (i := 2) (x := d) hK dd_X10_dearestUnshared_72 rfl rfl ?_
        refine g_iret (pc := 73) hK hr hlocks dd_X10_dearestUnshared_73 rfl ?_
        exact g_fin hQ (by rw [show M 6 6 = t by omega]; omega) (by first | rfl | (subst_vars; rfl))
      · have hkt := thK hth (tn30 (t := t) (by omega) (by omega)); have hdi := dear_in (k := M 7) (w := M 8) (c := M 9) (b := M 11) (s := M 13) (ks := ks) (fun j hj => thW hth hj) t.toNat (by omega)
        have hwt := TW_in (M 7 t.toNat) (M 9 t.toNat) (thW hth (tn30 (t := t) (by omega) (by omega))).1 (thW hth (tn30 (t := t) (by omega) (by omega))).2
        refine g_aloadn (pc := 16) (i := 0) (x := 6) hK dd_X10_dearestUnshared_16 rfl rfl ?_
        refine g_iload (pc := 17) (i := 4) (x := t) hK dd_X10_dearestUnshared_17 rfl ?_
        refine g_callV (pc := 19) (As := [gI t]) hK ws_Things_41 md_X10_isSold ⟨Nat.zero_le _, Nat.zero_le _⟩ ⟨by decide, by decide⟩ (kdm kd_6) rfl rfl dd_X10_dearestUnshared_19 rfl rfl (Nat.le_of_ble_eq_true rfl) (c_isSold t (show 0 ≤ t by omega) (show t < 30 by omega) (fun c8 => g_r1 ?_) (fun c8 => g_r1 ?_))
        · refine g_if_ne (pc := 22) (tgt := 66) hK dd_X10_dearestUnshared_22 (by decide) (by decide) (fun _ => ?_) (fun c9 => absurd (by decide) c9)
          refine g_iinc (pc := 66) (i := 4) (y := t + 1) (L' := [(0, gR 6), (1, gI ks), (2, gI d), (3, gI w), (4, gI (t + 1))]) hK dd_X10_dearestUnshared_66 rfl rfl (by decide) rfl ?_
          refine g_goto (pc := 69) (tgt := 7) hK dd_X10_dearestUnshared_69 (by decide) ?_
          refine g_sub (L' := [(0, gR 6), (1, gI ks), (2, gI d), (3, gI w), (4, gI (t + 1))]) [0, 1, 2, 3, 4] rfl ?_
          exact ih2 d w (t + 1) (by omega) (by rw [tn1 (by omega)]; simp only [dear]; first | (rw [if_pos ⟨by omega, by omega, by assumption, by omega⟩]; first | rfl | omega | (simp only; omega)) | (rw [if_neg (fun z => absurd z.1 (by omega))]; assumption) | (rw [if_neg (fun z => absurd z.2.1 (by omega))]; assumption) | (rw [if_neg (fun z => absurd z.2.2.1 (by assumption))]; assumption) | (rw [if_neg (fun z => absurd z.2.2.2 (by omega))]; assumption)) (by rw [tn1 (by omega)]; simp only [dear]; first | (rw [if_pos ⟨by omega, by omega, by assumption, by omega⟩]; first | rfl | omega | (simp only; omega)) | (rw [if_neg (fun z => absurd z.1 (by omega))]; assumption) | (rw [if_neg (fun z => absurd z.2.1 (by omega))]; assumption) | (rw [if_neg (fun z => absurd z.2.2.1 (by assumption))]; assumption) | (rw [if_neg (fun z => absurd z.2.2.2 (by omega))]; assumption)) (by omega)
        · refine g_if_ne (pc := 22) (tgt := 66) hK dd_X10_dearestUnshared_22 (by decide) (by decide) (fun c10 => absurd c10 (by decide)) (fun _ => ?_)
          refine g_aloadn (pc := 25) (i := 0) (x := 6) hK dd_X10_dearestUnshared_25 rfl rfl ?_
          refine g_getv (pc := 26) (f := (1, 7)) (j := 7) (v := gR 13) hK (kdm kd_6) rfl ef_10 (by decide) rfl kk_91 dd_X10_dearestUnshared_26 rfl ?_
          refine g_iload (pc := 29) (i := 4) (x := t) hK dd_X10_dearestUnshared_29 rfl ?_
          refine g_iald (pc := 31) hK (kdm kd_13) nl_13 (by decide) dd_X10_dearestUnshared_31 (by omega) (by omega) (fun x11 ex11 rx11 => ?_)
          refine g_iconst (pc := 32) (x := (-1)) hK dd_X10_dearestUnshared_32 (by decide) ?_
          refine g_icmp_ne (pc := 33) (tgt := 66) hK dd_X10_dearestUnshared_33 (by decide) rx11 (by decide) (fun c12 => ?_) (fun c12 => ?_)
          · refine g_iinc (pc := 66) (i := 4) (y := t + 1) (L' := [(0, gR 6), (1, gI ks), (2, gI d), (3, gI w), (4, gI (t + 1))]) hK dd_X10_dearestUnshared_66 rfl rfl (by decide) rfl ?_
            refine g_goto (pc := 69) (tgt := 7) hK dd_X10_dearestUnshared_69 (by decide) ?_
            refine g_sub (L' := [(0, gR 6), (1, gI ks), (2, gI d), (3, gI w), (4, gI (t + 1))]) [0, 1, 2, 3, 4] rfl ?_
            exact ih2 d w (t + 1) (by omega) (by rw [tn1 (by omega)]; simp only [dear]; first | (rw [if_pos ⟨by omega, by omega, by assumption, by omega⟩]; first | rfl | omega | (simp only; omega)) | (rw [if_neg (fun z => absurd z.1 (by omega))]; assumption) | (rw [if_neg (fun z => absurd z.2.1 (by omega))]; assumption) | (rw [if_neg (fun z => absurd z.2.2.1 (by assumption))]; assumption) | (rw [if_neg (fun z => absurd z.2.2.2 (by omega))]; assumption)) (by rw [tn1 (by omega)]; simp only [dear]; first | (rw [if_pos ⟨by omega, by omega, by assumption, by omega⟩]; first | rfl | omega | (simp only; omega)) | (rw [if_neg (fun z => absurd z.1 (by omega))]; assumption) | (rw [if_neg (fun z => absurd z.2.1 (by omega))]; assumption) | (rw [if_neg (fun z => absurd z.2.2.1 (by assumption))]; assumption) | (rw [if_neg (fun z => absurd z.2.2.2 (by omega))]; assumption)) (by omega)
          · refine g_aloadn (pc := 36) (i := 0) (x := 6) hK dd_X10_dearestUnshared_36 rfl rfl ?_
            refine g_iload (pc := 37) (i := 4) (x := t) hK dd_X10_dearestUnshared_37 rfl ?_
            refine g_iloadn (pc := 39) (i := 1) (x := ks) hK dd_X10_dearestUnshared_39 rfl rfl ?_
            refine g_callV (pc := 40) (As := [gI t, gI ks]) hK ws_Things_79 md_X10_isOfKinds ⟨Nat.zero_le _, Nat.zero_le _⟩ ⟨by decide, by decide⟩ (kdm kd_6) rfl rfl dd_X10_dearestUnshared_40 rfl rfl (Nat.le_of_ble_eq_true rfl) (c_isOfKinds t ks (show 0 ≤ t by omega) (show t < 30 by omega) (fun c13 => g_r1 ?_) (fun c13 => g_r1 ?_))
            · refine g_if_eq (pc := 43) (tgt := 66) hK dd_X10_dearestUnshared_43 (by decide) (by decide) (fun c14 => absurd c14 (by decide)) (fun _ => ?_)
              refine g_aloadn (pc := 46) (i := 0) (x := 6) hK dd_X10_dearestUnshared_46 rfl rfl ?_
              refine g_iload (pc := 47) (i := 4) (x := t) hK dd_X10_dearestUnshared_47 rfl ?_
              refine g_callV (pc := 49) (As := [gI t]) hK ws_Things_76 md_X10_trueWorth ⟨Nat.zero_le _, Nat.zero_le _⟩ ⟨by decide, by decide⟩ (kdm kd_6) rfl rfl dd_X10_dearestUnshared_49 rfl rfl (Nat.le_of_ble_eq_true rfl) (c_trueWorth t (by omega) (by omega) hth (g_r1 ?_))
              refine g_topI (fun y15 ey15 => ?_)
              refine g_iloadn (pc := 52) (i := 3) (x := w) hK dd_X10_dearestUnshared_52 rfl rfl ?_
              refine g_icmp_lt (pc := 53) (tgt := 66) hK dd_X10_dearestUnshared_53 (by decide) ⟨by omega, by omega⟩ ⟨by omega, by omega⟩ (fun c16 => ?_) (fun c16 => ?_)
              · refine g_iinc (pc := 66) (i := 4) (y := t + 1) (L' := [(0, gR 6), (1, gI ks), (2, gI d), (3, gI w), (4, gI (t + 1))]) hK dd_X10_dearestUnshared_66 rfl rfl (by decide) rfl ?_
                refine g_goto (pc := 69) (tgt := 7) hK dd_X10_dearestUnshared_69 (by decide) ?_
                refine g_sub (L' := [(0, gR 6), (1, gI ks), (2, gI d), (3, gI w), (4, gI (t + 1))]) [0, 1, 2, 3, 4] rfl ?_
                exact ih2 d w (t + 1) (by omega) (by rw [tn1 (by omega)]; simp only [dear]; first | (rw [if_pos ⟨by omega, by omega, by assumption, by omega⟩]; first | rfl | omega | (simp only; omega)) | (rw [if_neg (fun z => absurd z.1 (by omega))]; assumption) | (rw [if_neg (fun z => absurd z.2.1 (by omega))]; assumption) | (rw [if_neg (fun z => absurd z.2.2.1 (by assumption))]; assumption) | (rw [if_neg (fun z => absurd z.2.2.2 (by omega))]; assumption)) (by rw [tn1 (by omega)]; simp only [dear]; first | (rw [if_pos ⟨by omega, by omega, by assumption, by omega⟩]; first | rfl | omega | (simp only; omega)) | (rw [if_neg (fun z => absurd z.1 (by omega))]; assumption) | (rw [if_neg (fun z => absurd z.2.1 (by omega))]; assumption) | (rw [if_neg (fun z => absurd z.2.2.1 (by assumption))]; assumption) | (rw [if_neg (fun z => absurd z.2.2.2 (by omega))]; assumption)) (by omega)
              · refine g_iload (pc := 56) (i := 4) (x := t) hK dd_X10_dearestUnshared_56 rfl ?_
                refine g_istoren (pc := 58) (i := 2) (L' := [(0, gR 6), (1, gI ks), (2, gI t), (3, gI w), (4, gI t)]) hK dd_X10_dearestUnshared_58 rfl (by decide) rfl ?_
                refine g_aloadn (pc := 59) (i := 0) (x := 6) hK dd_X10_dearestUnshared_59 rfl rfl ?_
                refine g_iload (pc := 60) (i := 4) (x := t) hK dd_X10_dearestUnshared_60 rfl ?_
                refine g_callV (pc := 62) (As := [gI t]) hK ws_Things_76 md_X10_trueWorth ⟨Nat.zero_le _, Nat.zero_le _⟩ ⟨by decide, by decide⟩ (kdm kd_6) rfl rfl dd_X10_dearestUnshared_62 rfl rfl (Nat.le_of_ble_eq_true rfl) (c_trueWorth t (by omega) (by omega) hth (g_r1 ?_))
                refine g_topI (fun y17 ey17 => ?_)
                refine g_istoren (pc := 65) (i := 3) (L' := [(0, gR 6), (1, gI ks), (2, gI t), (3, gI y17), (4, gI t)]) hK dd_X10_dearestUnshared_65 rfl (by decide) rfl ?_
                refine g_iinc (pc := 66) (i := 4) (y := t + 1) (L' := [(0, gR 6), (1, gI ks), (2, gI t), (3, gI y17), (4, gI (t + 1))]) hK dd_X10_dearestUnshared_66 rfl rfl (by decide) rfl ?_
                refine g_goto (pc := 69) (tgt := 7) hK dd_X10_dearestUnshared_69 (by decide) ?_
                refine g_sub (L' := [(0, gR 6), (1, gI ks), (2, gI t), (3, gI y17), (4, gI (t + 1))]) [0, 1, 2, 3, 4] rfl ?_
                exact ih2 t y17 (t + 1) (by omega) (by rw [tn1 (by omega)]; simp only [dear]; first | (rw [if_pos ⟨by omega, by omega, by assumption, by omega⟩]; first | rfl | omega | (simp only; omega)) | (rw [if_neg (fun z => absurd z.1 (by omega))]; assumption) | (rw [if_neg (fun z => absurd z.2.1 (by omega))]; assumption) | (rw [if_neg (fun z => absurd z.2.2.1 (by assumption))]; assumption) | (rw [if_neg (fun z => absurd z.2.2.2 (by omega))]; assumption)) (by rw [tn1 (by omega)]; simp only [dear]; first | (rw [if_pos ⟨by omega, by omega, by assumption, by omega⟩]; first | rfl | omega | (simp only; omega)) | (rw [if_neg (fun z => absurd z.1 (by omega))]; assumption) | (rw [if_neg (fun z => absurd z.2.1 (by omega))]; assumption) | (rw [if_neg (fun z => absurd z.2.2.1 (by assumption))]; assumption) | (rw [if_neg (fun z => absurd z.2.2.2 (by omega))]; assumption)) (by omega)
            · refine g_if_eq (pc := 43) (tgt := 66) hK dd_X10_dearestUnshared_43 (by decide) (by decide) (fun _ => ?_) (fun c18 => absurd (by decide) c18)
              refine g_iinc (pc := 66) (i := 4) (y := t + 1) (L' := [(0, gR 6), (1, gI ks), (2, gI d), (3, gI w), (4, gI (t + 1))]) hK dd_X10_dearestUnshared_66 rfl rfl (by decide) rfl ?_
              refine g_goto (pc := 69) (tgt := 7) hK dd_X10_dearestUnshared_69 (by decide) ?_
              refine g_sub (L' := [(0, gR 6), (1, gI ks), (2, gI d), (3, gI w), (4, gI (t + 1))]) [0, 1, 2, 3, 4] rfl ?_
              exact ih2 d w (t + 1) (by omega) (by rw [tn1 (by omega)]; simp only [dear]; first | (rw [if_pos ⟨by omega, by omega, by assumption, by omega⟩]; first | rfl | omega | (simp only; omega)) | (rw [if_neg (fun z => absurd z.1 (by omega))]; assumption) | (rw [if_neg (fun z => absurd z.2.1 (by omega))]; assumption) | (rw [if_neg (fun z => absurd z.2.2.1 (by assumption))]; assumption) | (rw [if_neg (fun z => absurd z.2.2.2 (by omega))]; assumption)) (by rw [tn1 (by omega)]; simp only [dear]; first | (rw [if_pos ⟨by omega, by omega, by assumption, by omega⟩]; first | rfl | omega | (simp only; omega)) | (rw [if_neg (fun z => absurd z.1 (by omega))]; assumption) | (rw [if_neg (fun z => absurd z.2.1 (by omega))]; assumption) | (rw [if_neg (fun z => absurd z.2.2.1 (by assumption))]; assumption) | (rw [if_neg (fun z => absurd z.2.2.2 (by omega))]; assumption)) (by omega)
  refine g_sub (L' := [(0, gR 6), (1, gI ks), (2, gI (-1)), (3, gI 0), (4, gI 0)]) [0, 1, 2, 3, 4] rfl ?_
  exact lp3 _ (-1) 0 0 (by omega) (rfl) (rfl) (Nat.lt_succ_self _)
set_option maxHeartbeats 4000000 in
set_option maxRecDepth 100000 in
theorem c_share {l : Launch} {M : Mem} {Pq : Option gV → Mem → Prop} (f : Int) (hc : 0 ≤ M 6 6 ∧ M 6 6 ≤ 30) (hth : thOK M) (hf : 0 ≤ f ∧ f ≤ 2) (hQ : Pq none (sr M 13 (shA (M 7) (M 8) (M 9) (M 11) (M 6 6).toNat f (cpf (fun _ => -1) (M 13) 0 0 30) (cntL (M 11) (M 6 6).toNat).toNat))) : gCtr l my_X10_share mb_X10_share 6 ((none : Option Jvm.ClassFile.FieldType)) 5 [gR 6, gI f] M Pq := by
  refine g_intro (by decide) (Nat.le_of_ble_eq_true rfl) ?_
  intro p e s m args below meth c D cy q A hK hr hlocks hw
  refine g_sub (L' := [(0, gR 6), (1, gI f)]) [0, 1] rfl ?_
  refine g_aloadn (pc := 0) (i := 0) (x := 6) hK dd_X10_share_0 rfl rfl ?_
  refine g_getv (pc := 1) (f := (1, 7)) (j := 7) (v := gR 13) hK (kdm kd_6) rfl ef_10 (by decide) rfl kk_91 dd_X10_share_1 rfl ?_
  refine g_iconst (pc := 4) (x := (-1)) hK dd_X10_share_4 (by decide) ?_
  refine g_callT (pc := 5) (As := [gR 13, gI (-1)]) hK ws_Things_82 md_J7_fill_53178 ⟨Nat.zero_le _, Nat.zero_le _⟩ ⟨by decide, by decide⟩ dd_X10_share_5 rfl rfl (Nat.le_of_ble_eq_true rfl) (c_fill_13 (-1) (by decide) (g_r0 ?_))
  refine g_aloadn (pc := 8) (i := 0) (x := 6) hK dd_X10_share_8 rfl rfl ?_
  refine g_callV (pc := 9) (As := []) hK ws_Things_88 md_X10_countLeft ⟨Nat.zero_le _, Nat.zero_le _⟩ ⟨by decide, by decide⟩ (kdm kd_6) rfl rfl dd_X10_share_9 rfl rfl (Nat.le_of_ble_eq_true rfl) (c_countLeft (show 0 ≤ M 6 6 ∧ M 6 6 ≤ 30 by omega) (g_r1 ?_))
  refine g_topI (fun y1 ey1 => ?_)
  replace ey1 : y1 = cntL (M 11) (M 6 6).toNat := ey1
  have hcl0 := cntL_in (M 11) (M 6 6).toNat
  refine g_istoren (pc := 12) (i := 2) (L' := [(0, gR 6), (1, gI f), (2, gI y1)]) hK dd_X10_share_12 rfl (by decide) rfl ?_
  refine g_iconst (pc := 13) (x := 0) hK dd_X10_share_13 (by decide) ?_
  refine g_istoren (pc := 14) (i := 3) (L' := [(0, gR 6), (1, gI f), (2, gI y1), (3, gI 0)]) hK dd_X10_share_14 rfl (by decide) rfl ?_
  have lp3 : ∀ (n1 : Nat) (t : Int), (0 ≤ t ∧ t ≤ y1) → (y1 - t).toNat < n1 → G p l e (rmD 5) s m args below meth c D cy q A 0 0 6 (MQ below (gQc D cy q A Pq) args s 0 0 A) 15 [(0, gR 6), (1, gI f), (2, gI y1), (3, gI t)] [] (sr M 13 (shA (M 7) (M 8) (M 9) (M 11) (M 6 6).toNat f (cpf (fun _ => -1) (M 13) 0 0 30) t.toNat)) := by
    intro n1
    induction n1 with
    | zero => intro t iv4 hm5; exact absurd hm5 (Nat.not_lt_zero _)
    | succ n1 ih2 =>
      intro t iv4 hm5
      have hcl := cntL_in (M 11) (M 6 6).toNat
      refine g_iloadn (pc := 15) (i := 3) (x := t) hK dd_X10_share_15 rfl rfl ?_
      refine g_iloadn (pc := 16) (i := 2) (x := y1) hK dd_X10_share_16 rfl rfl ?_
      refine g_icmp_ge (pc := 17) (tgt := 74) hK dd_X10_share_17 (by decide) ⟨by omega, by omega⟩ ⟨by omega, by omega⟩ (fun c6 => ?_) (fun c6 => ?_)
      · refine g_vret (pc := 74) hK hr hlocks dd_X10_share_74 ?_
        exact g_finM hQ (by rw [show cntL (M 11) (M 6 6).toNat = t by omega])
      · refine g_iloadn (pc := 20) (i := 1) (x := f) hK dd_X10_share_20 rfl rfl ?_
        refine g_iloadn (pc := 21) (i := 3) (x := t) hK dd_X10_share_21 rfl rfl ?_
        refine g_iadd (pc := 22) (z := f + t) hK dd_X10_share_22 rfl ?_
        have h3 := tm3 (x := f + t) (by omega)
        refine g_iconst (pc := 23) (x := 3) hK dd_X10_share_23 (by decide) ?_
        refine g_irem (pc := 24) (z := (f + t).tmod 3) hK dd_X10_share_24 ⟨by omega, by omega⟩ (by decide) (by decide) rfl ?_
        refine g_istore (pc := 25) (i := 4) (L' := [(0, gR 6), (1, gI f), (2, gI y1), (3, gI t), (4, gI ((f + t).tmod 3))]) hK dd_X10_share_25 (by decide) rfl ?_
        refine g_aloadn (pc := 27) (i := 0) (x := 6) hK dd_X10_share_27 rfl rfl ?_
        refine g_gets (pc := 28) hK 4 rfl kk_1039 dd_X10_share_28 ?_
        refine g_iload (pc := 31) (i := 4) (x := (f + t).tmod 3) hK dd_X10_share_31 rfl ?_
        refine g_siald (pc := 33) hK 4 rfl (by decide) dd_X10_share_33 (by omega) (by omega) ?_
        refine g_topv (v := gI (STF 4 ((f + t).tmod 3).toNat)) rfl ?_
        have hlk := lik_STF h3.1 h3.2
        refine g_callV (pc := 34) (As := [gI (STF 4 ((f + t).tmod 3).toNat)]) hK ws_Things_95 md_X10_dearestUnshared ⟨Nat.zero_le _, Nat.zero_le _⟩ ⟨by decide, by decide⟩ (kdm kd_6) rfl rfl dd_X10_share_34 rfl rfl (Nat.le_of_ble_eq_true rfl) (c_dearest (STF 4 ((f + t).tmod 3).toNat) (show 0 ≤ M 6 6 ∧ M 6 6 ≤ 30 by omega) hth (g_r1 ?_))
        refine g_topI (fun d1 ed1 => ?_)
        replace ed1 : d1 = (dear (M 7) (M 8) (M 9) (M 11) ((shA (M 7) (M 8) (M 9) (M 11) (M 6 6).toNat f (cpf (fun _ => -1) (M 13) 0 0 30) t.toNat)) (STF 4 ((f + t).tmod 3).toNat) (M 6 6).toNat).1 := ed1
        rw [hlk] at ed1
        have hdd1 := dear_in (k := M 7) (w := M 8) (c := M 9) (b := M 11) (s := (shA (M 7) (M 8) (M 9) (M 11) (M 6 6).toNat f (cpf (fun _ => -1) (M 13) 0 0 30) t.toNat)) (ks := (lik ((f + t).tmod 3))) (fun j hj => thW hth hj) (M 6 6).toNat (by omega)
        rw [← ed1] at hdd1
        refine g_istore (pc := 37) (i := 5) (L' := [(0, gR 6), (1, gI f), (2, gI y1), (3, gI t), (4, gI ((f + t).tmod 3)), (5, gI d1)]) hK dd_X10_share_37 (by decide) rfl ?_
        refine g_iload (pc := 39) (i := 5) (x := d1) hK dd_X10_share_39 rfl ?_
        refine g_iconst (pc := 41) (x := (-1)) hK dd_X10_share_41 (by decide) ?_
        refine g_icmp_ne (pc := 42) (tgt := 53) hK dd_X10_share_42 (by decide) ⟨by omega, by omega⟩ (by decide) (fun c7 => ?_) (fun c7 => ?_)
        · refine g_iload (pc := 53) (i := 5) (x := d1) hK dd_X10_share_53 rfl ?_
          refine g_iconst (pc := 55) (x := (-1)) hK dd_X10_share_55 (by decide) ?_
          refine g_icmp_eq (pc := 56) (tgt := 68) hK dd_X10_share_56 (by decide) ⟨by omega, by omega⟩ (by decide) (fun c8 => ?_) (fun c8 => ?_)
          · refine g_iinc (pc := 68) (i := 3) (y := t + 1) (L' := [(0, gR 6), (1, gI f), (2, gI y1), (3, gI (t + 1)), (4, gI ((f + t).tmod 3)), (5, gI d1)]) hK dd_X10_share_68 rfl rfl (by decide) rfl ?_
            refine g_goto (pc := 71) (tgt := 15) hK dd_X10_share_71 (by decide) ?_
            refine g_sub (L' := [(0, gR 6), (1, gI f), (2, gI y1), (3, gI (t + 1))]) [0, 1, 2, 3] rfl ?_
            refine g_mem (M2 := sr M 13 (shA (M 7) (M 8) (M 9) (M 11) (M 6 6).toNat f (cpf (fun _ => -1) (M 13) 0 0 30) (t + 1).toNat)) (by rw [tn1 (by omega)]; simp only [shA]; rw [show ((t.toNat : Nat) : Int) = t by omega]; first | (exfalso; omega) | (rw [shS_1 ed1 (by omega)]; exact sr_up) | (rw [shS_2 ed1 (by omega) ed2 (by omega)]; exact sr_up) | (rw [shS_3 ed1 (by omega) ed2 (by omega)])) ?_
            exact ih2 (t + 1) (by omega) (by omega)
          · refine g_aloadn (pc := 59) (i := 0) (x := 6) hK dd_X10_share_59 rfl rfl ?_
            refine g_getv (pc := 60) (f := (1, 7)) (j := 7) (v := gR 13) hK (kdm kd_6) rfl ef_10 (by decide) rfl kk_91 dd_X10_share_60 rfl ?_
            refine g_iload (pc := 63) (i := 5) (x := d1) hK dd_X10_share_63 rfl ?_
            refine g_iload (pc := 65) (i := 4) (x := (f + t).tmod 3) hK dd_X10_share_65 rfl ?_
            refine g_iast (pc := 67) hK (kdm kd_13) nl_13 (by decide) (by decide) dd_X10_share_67 (by omega) (by omega) ⟨by omega, by omega⟩ ?_
            refine g_iinc (pc := 68) (i := 3) (y := t + 1) (L' := [(0, gR 6), (1, gI f), (2, gI y1), (3, gI (t + 1)), (4, gI ((f + t).tmod 3)), (5, gI d1)]) hK dd_X10_share_68 rfl rfl (by decide) rfl ?_
            refine g_goto (pc := 71) (tgt := 15) hK dd_X10_share_71 (by decide) ?_
            refine g_sub (L' := [(0, gR 6), (1, gI f), (2, gI y1), (3, gI (t + 1))]) [0, 1, 2, 3] rfl ?_
            refine g_mem (M2 := sr M 13 (shA (M 7) (M 8) (M 9) (M 11) (M 6 6).toNat f (cpf (fun _ => -1) (M 13) 0 0 30) (t + 1).toNat)) (by rw [tn1 (by omega)]; simp only [shA]; rw [show ((t.toNat : Nat) : Int) = t by omega]; first | (exfalso; omega) | (rw [shS_1 ed1 (by omega)]; exact sr_up) | (rw [shS_2 ed1 (by omega) ed2 (by omega)]; exact sr_up) | (rw [shS_3 ed1 (by omega) ed2 (by omega)])) ?_
            exact ih2 (t + 1) (by omega) (by omega)
        · refine g_aloadn (pc := 45) (i := 0) (x := 6) hK dd_X10_share_45 rfl rfl ?_
          refine g_bipush (pc := 46) (x := 63) hK dd_X10_share_46 (by decide) ?_
          refine g_callV (pc := 48) (As := [gI 63]) hK ws_Things_95 md_X10_dearestUnshared ⟨Nat.zero_le _, Nat.zero_le _⟩ ⟨by decide, by decide⟩ (kdm kd_6) rfl rfl dd_X10_share_48 rfl rfl (Nat.le_of_ble_eq_true rfl) (c_dearest 63 (show 0 ≤ M 6 6 ∧ M 6 6 ≤ 30 by omega) hth (g_r1 ?_))
          refine g_topI (fun d2 ed2 => ?_)
          replace ed2 : d2 = (dear (M 7) (M 8) (M 9) (M 11) ((shA (M 7) (M 8) (M 9) (M 11) (M 6 6).toNat f (cpf (fun _ => -1) (M 13) 0 0 30) t.toNat)) 63 (M 6 6).toNat).1 := ed2
          have hdd2 := dear_in (k := M 7) (w := M 8) (c := M 9) (b := M 11) (s := (shA (M 7) (M 8) (M 9) (M 11) (M 6 6).toNat f (cpf (fun _ => -1) (M 13) 0 0 30) t.toNat)) (ks := 63) (fun j hj => thW hth hj) (M 6 6).toNat (by omega)
          rw [← ed2] at hdd2
          refine g_istore (pc := 51) (i := 5) (L' := [(0, gR 6), (1, gI f), (2, gI y1), (3, gI t), (4, gI ((f + t).tmod 3)), (5, gI d2)]) hK dd_X10_share_51 (by decide) rfl ?_
          refine g_iload (pc := 53) (i := 5) (x := d2) hK dd_X10_share_53 rfl ?_
          refine g_iconst (pc := 55) (x := (-1)) hK dd_X10_share_55 (by decide) ?_
          refine g_icmp_eq (pc := 56) (tgt := 68) hK dd_X10_share_56 (by decide) ⟨by omega, by omega⟩ (by decide) (fun c9 => ?_) (fun c9 => ?_)
          · refine g_iinc (pc := 68) (i := 3) (y := t + 1) (L' := [(0, gR 6), (1, gI f), (2, gI y1), (3, gI (t + 1)), (4, gI ((f + t).tmod 3)), (5, gI d2)]) hK dd_X10_share_68 rfl rfl (by decide) rfl ?_
            refine g_goto (pc := 71) (tgt := 15) hK dd_X10_share_71 (by decide) ?_
            refine g_sub (L' := [(0, gR 6), (1, gI f), (2, gI y1), (3, gI (t + 1))]) [0, 1, 2, 3] rfl ?_
            refine g_mem (M2 := sr M 13 (shA (M 7) (M 8) (M 9) (M 11) (M 6 6).toNat f (cpf (fun _ => -1) (M 13) 0 0 30) (t + 1).toNat)) (by rw [tn1 (by omega)]; simp only [shA]; rw [show ((t.toNat : Nat) : Int) = t by omega]; first | (exfalso; omega) | (rw [shS_1 ed1 (by omega)]; exact sr_up) | (rw [shS_2 ed1 (by omega) ed2 (by omega)]; exact sr_up) | (rw [shS_3 ed1 (by omega) ed2 (by omega)])) ?_
            exact ih2 (t + 1) (by omega) (by omega)
          · refine g_aloadn (pc := 59) (i := 0) (x := 6) hK dd_X10_share_59 rfl rfl ?_
            refine g_getv (pc := 60) (f := (1, 7)) (j := 7) (v := gR 13) hK (kdm kd_6) rfl ef_10 (by decide) rfl kk_91 dd_X10_share_60 rfl ?_
            refine g_iload (pc := 63) (i := 5) (x := d2) hK dd_X10_share_63 rfl ?_
            refine g_iload (pc := 65) (i := 4) (x := (f + t).tmod 3) hK dd_X10_share_65 rfl ?_
            refine g_iast (pc := 67) hK (kdm kd_13) nl_13 (by decide) (by decide) dd_X10_share_67 (by omega) (by omega) ⟨by omega, by omega⟩ ?_
            refine g_iinc (pc := 68) (i := 3) (y := t + 1) (L' := [(0, gR 6), (1, gI f), (2, gI y1), (3, gI (t + 1)), (4, gI ((f + t).tmod 3)), (5, gI d2)]) hK dd_X10_share_68 rfl rfl (by decide) rfl ?_
            refine g_goto (pc := 71) (tgt := 15) hK dd_X10_share_71 (by decide) ?_
            refine g_sub (L' := [(0, gR 6), (1, gI f), (2, gI y1), (3, gI (t + 1))]) [0, 1, 2, 3] rfl ?_
            refine g_mem (M2 := sr M 13 (shA (M 7) (M 8) (M 9) (M 11) (M 6 6).toNat f (cpf (fun _ => -1) (M 13) 0 0 30) (t + 1).toNat)) (by rw [tn1 (by omega)]; simp only [shA]; rw [show ((t.toNat : Nat) : Int) = t by omega]; first | (exfalso; omega) | (rw [shS_1 ed1 (by omega)]; exact sr_up) | (rw [shS_2 ed1 (by omega) ed2 (by omega)]; exact sr_up) | (rw [shS_3 ed1 (by omega) ed2 (by omega)])) ?_
            exact ih2 (t + 1) (by omega) (by omega)
  refine g_mem (M2 := sr M 13 (shA (M 7) (M 8) (M 9) (M 11) (M 6 6).toNat f (cpf (fun _ => -1) (M 13) 0 0 30) (0 : Int).toNat)) (sr_cp) ?_
  refine g_sub (L' := [(0, gR 6), (1, gI f), (2, gI y1), (3, gI 0)]) [0, 1, 2, 3] rfl ?_
  exact lp3 _ 0 (by omega) (Nat.lt_succ_self _)
