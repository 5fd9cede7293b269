set_option maxHeartbeats 4000000 in
set_option maxRecDepth 100000 in
theorem c_priceOf {l : Launch} {M : Mem} {Pq : Option gV → Mem → Prop} (la : Int) (t : Int) (tr : Int) (a1 : 0 ≤ la) (a2 : la < 5) (h1 : 0 ≤ t) (h2 : t < 30) (htr : 0 ≤ tr ∧ tr ≤ 1049) (hwc : 0 ≤ M 18 2 ∧ M 18 2 ≤ 6) (hla : laOK M) (hlw : lwOK (M 19) (M 18 2)) (hQ : Pq (some (gI (prc (M 15 la.toNat) (M 16 la.toNat) (M 17 la.toNat) (M 19) (M 18 2) (M 7 t.toNat) tr))) M) : gCtr l my_X1_priceOf mb_X1_priceOf 7 ((some .int)) 4 [gR 5, gI la, gI t, gI tr] M Pq := by
  refine g_intro (by decide) (Nat.le_of_ble_eq_true rfl) ?_
  intro p e s m args below meth c D cy q A hK hr hlocks hw
  refine g_sub (L' := [(0, gR 5), (1, gI la), (2, gI t), (3, gI tr)]) [0, 1, 2, 3] rfl ?_
  have hg := (hla la.toNat (by omega)).2
  have hl_ := lpt_rng hlw (M 17 la.toNat)
  refine g_aloadn (pc := 0) (i := 0) (x := 5) hK dd_X1_priceOf_0 rfl rfl ?_
  refine g_getv (pc := 1) (f := (1, 9)) (j := 1) (v := gR 14) hK (kdm kd_5) rfl ef_1 (by decide) rfl kk_261 dd_X1_priceOf_1 rfl ?_
  refine g_getv (pc := 4) (f := (1, 3)) (j := 2) (v := gR 17) hK (kdm kd_14) rfl ef_2 (by decide) rfl kk_121 dd_X1_priceOf_4 rfl ?_
  refine g_iloadn (pc := 7) (i := 1) (x := la) hK dd_X1_priceOf_7 rfl rfl ?_
  refine g_iald (pc := 8) hK (kdm kd_17) nl_17 (by decide) dd_X1_priceOf_8 (by omega) (by omega) (fun x1 ex1 rx1 => ?_)
  refine g_istore (pc := 9) (i := 4) (L' := [(0, gR 5), (1, gI la), (2, gI t), (3, gI tr), (4, gI x1)]) hK dd_X1_priceOf_9 (by decide) rfl ?_
  refine g_aloadn (pc := 11) (i := 0) (x := 5) hK dd_X1_priceOf_11 rfl rfl ?_
  refine g_getv (pc := 12) (f := (1, 9)) (j := 1) (v := gR 14) hK (kdm kd_5) rfl ef_1 (by decide) rfl kk_261 dd_X1_priceOf_12 rfl ?_
  refine g_getv (pc := 15) (f := (1, 1)) (j := 0) (v := gR 15) hK (kdm kd_14) rfl ef_2 (by decide) rfl kk_117 dd_X1_priceOf_15 rfl ?_
  refine g_iloadn (pc := 18) (i := 1) (x := la) hK dd_X1_priceOf_18 rfl rfl ?_
  refine g_iald (pc := 19) hK (kdm kd_15) nl_15 (by decide) dd_X1_priceOf_19 (by omega) (by omega) (fun x2 ex2 rx2 => ?_)
  refine g_aloadn (pc := 20) (i := 0) (x := 5) hK dd_X1_priceOf_20 rfl rfl ?_
  refine g_getv (pc := 21) (f := (1, 1)) (j := 0) (v := gR 6) hK (kdm kd_5) rfl ef_1 (by decide) rfl kk_258 dd_X1_priceOf_21 rfl ?_
  refine g_getv (pc := 24) (f := (1, 1)) (j := 0) (v := gR 7) hK (kdm kd_6) rfl ef_10 (by decide) rfl kk_68 dd_X1_priceOf_24 rfl ?_
  refine g_iloadn (pc := 27) (i := 2) (x := t) hK dd_X1_priceOf_27 rfl rfl ?_
  refine g_iald (pc := 28) hK (kdm kd_7) nl_7 (by decide) dd_X1_priceOf_28 (by omega) (by omega) (fun x3 ex3 rx3 => ?_)
  refine g_callTN (pc := 29) (As := [gI x2, gI x3]) hK ws_Hall_96 md_X11_hasBit ⟨Nat.zero_le _, Nat.zero_le _⟩ ⟨by decide, by decide⟩ dd_X1_priceOf_29 rfl rfl (Nat.le_of_ble_eq_true rfl) (c_hasBit x2 x3 (fun c4 => g_r1 ?_) (fun c4 => g_r1 ?_))
  · refine g_if_eq (pc := 32) (tgt := 53) hK dd_X1_priceOf_32 (by decide) (by decide) (fun c5 => absurd c5 (by decide)) (fun _ => ?_)
    refine g_aloadn (pc := 35) (i := 0) (x := 5) hK dd_X1_priceOf_35 rfl rfl ?_
    refine g_getv (pc := 36) (f := (1, 13)) (j := 2) (v := gR 18) hK (kdm kd_5) rfl ef_1 (by decide) rfl kk_263 dd_X1_priceOf_36 rfl ?_
    refine g_iload (pc := 39) (i := 4) (x := x1) hK dd_X1_priceOf_39 rfl ?_
    refine g_iconst (pc := 41) (x := 0) hK dd_X1_priceOf_41 (by decide) ?_
    refine g_callV (pc := 42) (As := [gI x1, gI 0]) hK ws_Hall_100 md_X3_part ⟨Nat.zero_le _, Nat.zero_le _⟩ ⟨by decide, by decide⟩ (kdm kd_18) rfl rfl dd_X1_priceOf_42 rfl rfl (Nat.le_of_ble_eq_true rfl) (c_partN x1 0 rx1 (show 0 ≤ 0 ∧ 0 ≤ 4 by omega) (show 0 ≤ M 18 2 ∧ M 18 2 ≤ 6 by omega) (g_r1 ?_))
    refine g_topI (fun y6 ey6 => ?_)
    rw [ex1] at ey6
    refine g_iloadn (pc := 45) (i := 3) (x := tr) hK dd_X1_priceOf_45 rfl rfl ?_
    have hm_ := mul0 200 1049 (a := y6) (b := tr) (by omega) (by omega) (by omega) (by omega)
    refine g_imul (pc := 46) (z := y6 * tr) hK dd_X1_priceOf_46 rfl ?_
    refine g_bipush (pc := 47) (x := 100) hK dd_X1_priceOf_47 (by decide) ?_
    refine g_idiv (pc := 49) (z := (y6 * tr).tdiv 100) hK dd_X1_priceOf_49 ⟨by omega, by omega⟩ (by decide) (by decide) rfl ?_
    refine g_goto (pc := 50) (tgt := 76) hK dd_X1_priceOf_50 (by decide) ?_
    have h0_ : (y6 * tr).tdiv 100 = pr0 (M 15 la.toNat) (M 16 la.toNat) (lpt (M 19) (M 18 2) (M 17 la.toNat) 0) (lpt (M 19) (M 18 2) (M 17 la.toNat) 1) (M 7 t.toNat) tr := by unfold pr0; subst_vars; first | rw [if_pos (by assumption)] | rw [if_neg (by assumption)]
    have hb_ := pr0_in (kn := M 15 la.toNat) (k := M 7 t.toNat) hl_.1 hl_.2.1 hg htr
    rw [h0_]
    refine g_topI (fun g0 eg0 => ?_)
    try rw [← eg0] at hb_
    try clear h0_
    refine g_istore (pc := 76) (i := 5) (L' := [(0, gR 5), (1, gI la), (2, gI t), (3, gI tr), (4, gI x1), (5, gI g0)]) hK dd_X1_priceOf_76 (by decide) rfl ?_
    refine g_aloadn (pc := 78) (i := 0) (x := 5) hK dd_X1_priceOf_78 rfl rfl ?_
    refine g_getv (pc := 79) (f := (1, 13)) (j := 2) (v := gR 18) hK (kdm kd_5) rfl ef_1 (by decide) rfl kk_263 dd_X1_priceOf_79 rfl ?_
    refine g_iload (pc := 82) (i := 4) (x := x1) hK dd_X1_priceOf_82 rfl ?_
    refine g_iconst (pc := 84) (x := 2) hK dd_X1_priceOf_84 (by decide) ?_
    refine g_callV (pc := 85) (As := [gI x1, gI 2]) hK ws_Hall_100 md_X3_part ⟨Nat.zero_le _, Nat.zero_le _⟩ ⟨by decide, by decide⟩ (kdm kd_18) rfl rfl dd_X1_priceOf_85 rfl rfl (Nat.le_of_ble_eq_true rfl) (c_partN x1 2 rx1 (show 0 ≤ 2 ∧ 2 ≤ 4 by omega) (show 0 ≤ M 18 2 ∧ M 18 2 ≤ 6 by omega) (g_r1 ?_))
    refine g_topI (fun y7 ey7 => ?_)
    rw [ex1] at ey7
    refine g_istore (pc := 88) (i := 6) (L' := [(0, gR 5), (1, gI la), (2, gI t), (3, gI tr), (4, gI x1), (5, gI g0), (6, gI y7)]) hK dd_X1_priceOf_88 (by decide) rfl ?_
    refine g_iload (pc := 90) (i := 6) (x := y7) hK dd_X1_priceOf_90 rfl ?_
    refine g_iconst (pc := 92) (x := 1) hK dd_X1_priceOf_92 (by decide) ?_
    refine g_icmp_le (pc := 93) (tgt := 106) hK dd_X1_priceOf_93 (by decide) ⟨by omega, by omega⟩ (by decide) (fun c8 => ?_) (fun c8 => ?_)
    · have h1_ : g0 = pr1 (pr0 (M 15 la.toNat) (M 16 la.toNat) (lpt (M 19) (M 18 2) (M 17 la.toNat) 0) (lpt (M 19) (M 18 2) (M 17 la.toNat) 1) (M 7 t.toNat) tr) (lpt (M 19) (M 18 2) (M 17 la.toNat) 2) := by unfold pr1; subst_vars; first | rw [if_pos (by omega)] | rw [if_neg (by omega)]
      refine g_iload (pc := 106) (i := 5) (x := g0) hK dd_X1_priceOf_106 rfl ?_
      refine g_aloadn (pc := 108) (i := 0) (x := 5) hK dd_X1_priceOf_108 rfl rfl ?_
      refine g_getv (pc := 109) (f := (1, 13)) (j := 2) (v := gR 18) hK (kdm kd_5) rfl ef_1 (by decide) rfl kk_263 dd_X1_priceOf_109 rfl ?_
      refine g_iload (pc := 112) (i := 4) (x := x1) hK dd_X1_priceOf_112 rfl ?_
      refine g_iconst (pc := 114) (x := 3) hK dd_X1_priceOf_114 (by decide) ?_
      refine g_callV (pc := 115) (As := [gI x1, gI 3]) hK ws_Hall_100 md_X3_part ⟨Nat.zero_le _, Nat.zero_le _⟩ ⟨by decide, by decide⟩ (kdm kd_18) rfl rfl dd_X1_priceOf_115 rfl rfl (Nat.le_of_ble_eq_true rfl) (c_partN x1 3 rx1 (show 0 ≤ 3 ∧ 3 ≤ 4 by omega) (show 0 ≤ M 18 2 ∧ M 18 2 ≤ 6 by omega) (g_r1 ?_))
      refine g_topI (fun y9 ey9 => ?_)
      rw [ex1] at ey9
      refine g_mmax (pc := 118) hK ws_Hall_107 ⟨by omega, by omega⟩ ⟨by omega, by omega⟩ ⟨by decide, by decide⟩ ⟨Nat.zero_le _, Nat.zero_le _⟩ (Nat.le_of_ble_eq_true rfl) dd_X1_priceOf_118 ?_
      refine g_topI (fun y10 ey10 => ?_)
      refine g_istore (pc := 121) (i := 5) (L' := [(0, gR 5), (1, gI la), (2, gI t), (3, gI tr), (4, gI x1), (5, gI y10), (6, gI y7)]) hK dd_X1_priceOf_121 (by decide) rfl ?_
      refine g_iload (pc := 123) (i := 5) (x := y10) hK dd_X1_priceOf_123 rfl ?_
      refine g_aloadn (pc := 125) (i := 0) (x := 5) hK dd_X1_priceOf_125 rfl rfl ?_
      refine g_getv (pc := 126) (f := (1, 13)) (j := 2) (v := gR 18) hK (kdm kd_5) rfl ef_1 (by decide) rfl kk_263 dd_X1_priceOf_126 rfl ?_
      refine g_iload (pc := 129) (i := 4) (x := x1) hK dd_X1_priceOf_129 rfl ?_
      refine g_iconst (pc := 131) (x := 4) hK dd_X1_priceOf_131 (by decide) ?_
      refine g_callV (pc := 132) (As := [gI x1, gI 4]) hK ws_Hall_100 md_X3_part ⟨Nat.zero_le _, Nat.zero_le _⟩ ⟨by decide, by decide⟩ (kdm kd_18) rfl rfl dd_X1_priceOf_132 rfl rfl (Nat.le_of_ble_eq_true rfl) (c_partN x1 4 rx1 (show 0 ≤ 4 ∧ 4 ≤ 4 by omega) (show 0 ≤ M 18 2 ∧ M 18 2 ≤ 6 by omega) (g_r1 ?_))
      refine g_topI (fun y11 ey11 => ?_)
      rw [ex1] at ey11
      refine g_mmin (pc := 135) hK ws_Hall_112 ⟨by omega, by omega⟩ ⟨by omega, by omega⟩ ⟨by decide, by decide⟩ ⟨Nat.zero_le _, Nat.zero_le _⟩ (Nat.le_of_ble_eq_true rfl) dd_X1_priceOf_135 ?_
      refine g_topI (fun y12 ey12 => ?_)
      refine g_iret (pc := 138) hK hr hlocks dd_X1_priceOf_138 rfl ?_
      exact g_fin hQ (by subst_vars; unfold prc; rw [← h1_]; rfl) (by first | rfl | (subst_vars; rfl))
    · refine g_iload (pc := 96) (i := 5) (x := g0) hK dd_X1_priceOf_96 rfl ?_
      refine g_iload (pc := 98) (i := 5) (x := g0) hK dd_X1_priceOf_98 rfl ?_
      refine g_iload (pc := 100) (i := 6) (x := y7) hK dd_X1_priceOf_100 rfl ?_
      have ht_ := tm_in (x := g0) (r := y7) (by omega) (by omega)
      refine g_irem (pc := 102) (z := g0.tmod y7) hK dd_X1_priceOf_102 ⟨by omega, by omega⟩ ⟨by omega, by omega⟩ (by omega) rfl ?_
      refine g_isub (pc := 103) (z := g0 - (g0.tmod y7)) hK dd_X1_priceOf_103 rfl ?_
      refine g_istore (pc := 104) (i := 5) (L' := [(0, gR 5), (1, gI la), (2, gI t), (3, gI tr), (4, gI x1), (5, gI (g0 - (g0.tmod y7))), (6, gI y7)]) hK dd_X1_priceOf_104 (by decide) rfl ?_
      have h1_ : g0 - (g0.tmod y7) = pr1 (pr0 (M 15 la.toNat) (M 16 la.toNat) (lpt (M 19) (M 18 2) (M 17 la.toNat) 0) (lpt (M 19) (M 18 2) (M 17 la.toNat) 1) (M 7 t.toNat) tr) (lpt (M 19) (M 18 2) (M 17 la.toNat) 2) := by unfold pr1; subst_vars; first | rw [if_pos (by omega)] | rw [if_neg (by omega)]
      refine g_iload (pc := 106) (i := 5) (x := g0 - (g0.tmod y7)) hK dd_X1_priceOf_106 rfl ?_
      refine g_aloadn (pc := 108) (i := 0) (x := 5) hK dd_X1_priceOf_108 rfl rfl ?_
      refine g_getv (pc := 109) (f := (1, 13)) (j := 2) (v := gR 18) hK (kdm kd_5) rfl ef_1 (by decide) rfl kk_263 dd_X1_priceOf_109 rfl ?_
      refine g_iload (pc := 112) (i := 4) (x := x1) hK dd_X1_priceOf_112 rfl ?_
      refine g_iconst (pc := 114) (x := 3) hK dd_X1_priceOf_114 (by decide) ?_
      refine g_callV (pc := 115) (As := [gI x1, gI 3]) hK ws_Hall_100 md_X3_part ⟨Nat.zero_le _, Nat.zero_le _⟩ ⟨by decide, by decide⟩ (kdm kd_18) rfl rfl dd_X1_priceOf_115 rfl rfl (Nat.le_of_ble_eq_true rfl) (c_partN x1 3 rx1 (show 0 ≤ 3 ∧ 3 ≤ 4 by omega) (show 0 ≤ M 18 2 ∧ M 18 2 ≤ 6 by omega) (g_r1 ?_))
      refine g_topI (fun y13 ey13 => ?_)
      rw [ex1] at ey13
      refine g_mmax (pc := 118) hK ws_Hall_107 ⟨by omega, by omega⟩ ⟨by omega, by omega⟩ ⟨by decide, by decide⟩ ⟨Nat.zero_le _, Nat.zero_le _⟩ (Nat.le_of_ble_eq_true rfl) dd_X1_priceOf_118 ?_
      refine g_topI (fun y14 ey14 => ?_)
      refine g_istore (pc := 121) (i := 5) (L' := [(0, gR 5), (1, gI la), (2, gI t), (3, gI tr), (4, gI x1), (5, gI y14), (6, gI y7)]) hK dd_X1_priceOf_121 (by decide) rfl ?_
      refine g_iload (pc := 123) (i := 5) (x := y14) hK dd_X1_priceOf_123 rfl ?_
      refine g_aloadn (pc := 125) (i := 0) (x := 5) hK dd_X1_priceOf_125 rfl rfl ?_
      refine g_getv (pc := 126) (f := (1, 13)) (j := 2) (v := gR 18) hK (kdm kd_5) rfl ef_1 (by decide) rfl kk_263 dd_X1_priceOf_126 rfl ?_
      refine g_iload (pc := 129) (i := 4) (x := x1) hK dd_X1_priceOf_129 rfl ?_
      refine g_iconst (pc := 131) (x := 4) hK dd_X1_priceOf_131 (by decide) ?_
      refine g_callV (pc := 132) (As := [gI x1, gI 4]) hK ws_Hall_100 md_X3_part ⟨Nat.zero_le _, Nat.zero_le _⟩ ⟨by decide, by decide⟩ (kdm kd_18) rfl rfl dd_X1_priceOf_132 rfl rfl (Nat.le_of_ble_eq_true rfl) (c_partN x1 4 rx1 (show 0 ≤ 4 ∧ 4 ≤ 4 by omega) (show 0 ≤ M 18 2 ∧ M 18 2 ≤ 6 by omega) (g_r1 ?_))
      refine g_topI (fun y15 ey15 => ?_)
      rw [ex1] at ey15
      refine g_mmin (pc := 135) hK ws_Hall_112 ⟨by omega, by omega⟩ ⟨by omega, by omega⟩ ⟨by decide, by decide⟩ ⟨Nat.zero_le _, Nat.zero_le _⟩ (Nat.le_of_ble_eq_true rfl) dd_X1_priceOf_135 ?_
      refine g_topI (fun y16 ey16 => ?_)
      refine g_iret (pc := 138) hK hr hlocks dd_X1_priceOf_138 rfl ?_
      exact g_fin hQ (by subst_vars; unfold prc; rw [← h1_]; rfl) (by first | rfl | (subst_vars; rfl))
  · refine g_if_eq (pc := 32) (tgt := 53) hK dd_X1_priceOf_32 (by decide) (by decide) (fun _ => ?_) (fun c17 => absurd (by decide) c17)
    refine g_aloadn (pc := 53) (i := 0) (x := 5) hK dd_X1_priceOf_53 rfl rfl ?_
    refine g_getv (pc := 54) (f := (1, 13)) (j := 2) (v := gR 18) hK (kdm kd_5) rfl ef_1 (by decide) rfl kk_263 dd_X1_priceOf_54 rfl ?_
    refine g_iload (pc := 57) (i := 4) (x := x1) hK dd_X1_priceOf_57 rfl ?_
    refine g_iconst (pc := 59) (x := 1) hK dd_X1_priceOf_59 (by decide) ?_
    refine g_callV (pc := 60) (As := [gI x1, gI 1]) hK ws_Hall_100 md_X3_part ⟨Nat.zero_le _, Nat.zero_le _⟩ ⟨by decide, by decide⟩ (kdm kd_18) rfl rfl dd_X1_priceOf_60 rfl rfl (Nat.le_of_ble_eq_true rfl) (c_partN x1 1 rx1 (show 0 ≤ 1 ∧ 1 ≤ 4 by omega) (show 0 ≤ M 18 2 ∧ M 18 2 ≤ 6 by omega) (g_r1 ?_))
    refine g_topI (fun y18 ey18 => ?_)
    rw [ex1] at ey18
    refine g_aloadn (pc := 63) (i := 0) (x := 5) hK dd_X1_priceOf_63 rfl rfl ?_
    refine g_getv (pc := 64) (f := (1, 9)) (j := 1) (v := gR 14) hK (kdm kd_5) rfl ef_1 (by decide) rfl kk_261 dd_X1_priceOf_64 rfl ?_
    refine g_getv (pc := 67) (f := (1, 2)) (j := 1) (v := gR 16) hK (kdm kd_14) rfl ef_2 (by decide) rfl kk_119 dd_X1_priceOf_67 rfl ?_
    refine g_iloadn (pc := 70) (i := 1) (x := la) hK dd_X1_priceOf_70 rfl rfl ?_
    refine g_iald (pc := 71) hK (kdm kd_16) nl_16 (by decide) dd_X1_priceOf_71 (by omega) (by omega) (fun x19 ex19 rx19 => ?_)
    have hm_ := mul0 200 999 (a := y18) (b := x19) (by omega) (by omega) (by omega) (by omega)
    refine g_imul (pc := 72) (z := y18 * x19) hK dd_X1_priceOf_72 rfl ?_
    refine g_bipush (pc := 73) (x := 100) hK dd_X1_priceOf_73 (by decide) ?_
    refine g_idiv (pc := 75) (z := (y18 * x19).tdiv 100) hK dd_X1_priceOf_75 ⟨by omega, by omega⟩ (by decide) (by decide) rfl ?_
    have h0_ : (y18 * x19).tdiv 100 = pr0 (M 15 la.toNat) (M 16 la.toNat) (lpt (M 19) (M 18 2) (M 17 la.toNat) 0) (lpt (M 19) (M 18 2) (M 17 la.toNat) 1) (M 7 t.toNat) tr := by unfold pr0; subst_vars; first | rw [if_pos (by assumption)] | rw [if_neg (by assumption)]
    have hb_ := pr0_in (kn := M 15 la.toNat) (k := M 7 t.toNat) hl_.1 hl_.2.1 hg htr
    rw [h0_]
    refine g_topI (fun g0 eg0 => ?_)
    try rw [← eg0] at hb_
    try clear h0_
    refine g_istore (pc := 76) (i := 5) (L' := [(0, gR 5), (1, gI la), (2, gI t), (3, gI tr), (4, gI x1), (5, gI g0)]) hK dd_X1_priceOf_76 (by decide) rfl ?_
    refine g_aloadn (pc := 78) (i := 0) (x := 5) hK dd_X1_priceOf_78 rfl rfl ?_
    refine g_getv (pc := 79) (f := (1, 13)) (j := 2) (v := gR 18) hK (kdm kd_5) rfl ef_1 (by decide) rfl kk_263 dd_X1_priceOf_79 rfl ?_
    refine g_iload (pc := 82) (i := 4) (x := x1) hK dd_X1_priceOf_82 rfl ?_
    refine g_iconst (pc := 84) (x := 2) hK dd_X1_priceOf_84 (by decide) ?_
    refine g_callV (pc := 85) (As := [gI x1, gI 2]) hK ws_Hall_100 md_X3_part ⟨Nat.zero_le _, Nat.zero_le _⟩ ⟨by decide, by decide⟩ (kdm kd_18) rfl rfl dd_X1_priceOf_85 rfl rfl (Nat.le_of_ble_eq_true rfl) (c_partN x1 2 rx1 (show 0 ≤ 2 ∧ 2 ≤ 4 by omega) (show 0 ≤ M 18 2 ∧ M 18 2 ≤ 6 by omega) (g_r1 ?_))
    refine g_topI (fun y20 ey20 => ?_)
    rw [ex1] at ey20
    refine g_istore (pc := 88) (i := 6) (L' := [(0, gR 5), (1, gI la), (2, gI t), (3, gI tr), (4, gI x1), (5, gI g0), (6, gI y20)]) hK dd_X1_priceOf_88 (by decide) rfl ?_
    refine g_iload (pc := 90) (i := 6) (x := y20) hK dd_X1_priceOf_90 rfl ?_
    refine g_iconst (pc := 92) (x := 1) hK dd_X1_priceOf_92 (by decide) ?_
    refine g_icmp_le (pc := 93) (tgt := 106) hK dd_X1_priceOf_93 (by decide) ⟨by omega, by omega⟩ (by decide) (fun c21 => ?_) (fun c21 => ?_)
    · have h1_ : g0 = pr1 (pr0 (M 15 la.toNat) (M 16 la.toNat) (lpt (M 19) (M 18 2) (M 17 la.toNat) 0) (lpt (M 19) (M 18 2) (M 17 la.toNat) 1) (M 7 t.toNat) tr) (lpt (M 19) (M 18 2) (M 17 la.toNat) 2) := by unfold pr1; subst_vars; first | rw [if_pos (by omega)] | rw [if_neg (by omega)]
      refine g_iload (pc := 106) (i := 5) (x := g0) hK dd_X1_priceOf_106 rfl ?_
      refine g_aloadn (pc := 108) (i := 0) (x := 5) hK dd_X1_priceOf_108 rfl rfl ?_
      refine g_getv (pc := 109) (f := (1, 13)) (j := 2) (v := gR 18) hK (kdm kd_5) rfl ef_1 (by decide) rfl kk_263 dd_X1_priceOf_109 rfl ?_
      refine g_iload (pc := 112) (i := 4) (x := x1) hK dd_X1_priceOf_112 rfl ?_
      refine g_iconst (pc := 114) (x := 3) hK dd_X1_priceOf_114 (by decide) ?_
      refine g_callV (pc := 115) (As := [gI x1, gI 3]) hK ws_Hall_100 md_X3_part ⟨Nat.zero_le _, Nat.zero_le _⟩ ⟨by decide, by decide⟩ (kdm kd_18) rfl rfl dd_X1_priceOf_115 rfl rfl (Nat.le_of_ble_eq_true rfl) (c_partN x1 3 rx1 (show 0 ≤ 3 ∧ 3 ≤ 4 by omega) (show 0 ≤ M 18 2 ∧ M 18 2 ≤ 6 by omega) (g_r1 ?_))
      refine g_topI (fun y22 ey22 => ?_)
      rw [ex1] at ey22
      refine g_mmax (pc := 118) hK ws_Hall_107 ⟨by omega, by omega⟩ ⟨by omega, by omega⟩ ⟨by decide, by decide⟩ ⟨Nat.zero_le _, Nat.zero_le _⟩ (Nat.le_of_ble_eq_true rfl) dd_X1_priceOf_118 ?_
      refine g_topI (fun y23 ey23 => ?_)
      refine g_istore (pc := 121) (i := 5) (L' := [(0, gR 5), (1, gI la), (2, gI t), (3, gI tr), (4, gI x1), (5, gI y23), (6, gI y20)]) hK dd_X1_priceOf_121 (by decide) rfl ?_
      refine g_iload (pc := 123) (i := 5) (x := y23) hK dd_X1_priceOf_123 rfl ?_
      refine g_aloadn (pc := 125) (i := 0) (x := 5) hK dd_X1_priceOf_125 rfl rfl ?_
      refine g_getv (pc := 126) (f := (1, 13)) (j := 2) (v := gR 18) hK (kdm kd_5) rfl ef_1 (by decide) rfl kk_263 dd_X1_priceOf_126 rfl ?_
      refine g_iload (pc := 129) (i := 4) (x := x1) hK dd_X1_priceOf_129 rfl ?_
      refine g_iconst (pc := 131) (x := 4) hK dd_X1_priceOf_131 (by decide) ?_
      refine g_callV (pc := 132) (As := [gI x1, gI 4]) hK ws_Hall_100 md_X3_part ⟨Nat.zero_le _, Nat.zero_le _⟩ ⟨by decide, by decide⟩ (kdm kd_18) rfl rfl dd_X1_priceOf_132 rfl rfl (Nat.le_of_ble_eq_true rfl) (c_partN x1 4 rx1 (show 0 ≤ 4 ∧ 4 ≤ 4 by omega) (show 0 ≤ M 18 2 ∧ M 18 2 ≤ 6 by omega) (g_r1 ?_))
      refine g_topI (fun y24 ey24 => ?_)
      rw [ex1] at ey24
      refine g_mmin (pc := 135) hK ws_Hall_112 ⟨by omega, by omega⟩ ⟨by omega, by omega⟩ ⟨by decide, by decide⟩ ⟨Nat.zero_le _, Nat.zero_le _⟩ (Nat.le_of_ble_eq_true rfl) dd_X1_priceOf_135 ?_
      refine g_topI (fun y25 ey25 => ?_)
      refine g_iret (pc := 138) hK hr hlocks dd_X1_priceOf_138 rfl ?_
      exact g_fin hQ (by subst_vars; unfold prc; rw [← h1_]; rfl) (by first | rfl | (subst_vars; rfl))
    · refine g_iload (pc := 96) (i := 5) (x := g0) hK dd_X1_priceOf_96 rfl ?_
      refine g_iload (pc := 98) (i := 5) (x := g0) hK dd_X1_priceOf_98 rfl ?_
      refine g_iload (pc := 100) (i := 6) (x := y20) hK dd_X1_priceOf_100 rfl ?_
      have ht_ := tm_in (x := g0) (r := y20) (by omega) (by omega)
      refine g_irem (pc := 102) (z := g0.tmod y20) hK dd_X1_priceOf_102 ⟨by omega, by omega⟩ ⟨by omega, by omega⟩ (by omega) rfl ?_
      refine g_isub (pc := 103) (z := g0 - (g0.tmod y20)) hK dd_X1_priceOf_103 rfl ?_
      refine g_istore (pc := 104) (i := 5) (L' := [(0, gR 5), (1, gI la), (2, gI t), (3, gI tr), (4, gI x1), (5, gI (g0 - (g0.tmod y20))), (6, gI y20)]) hK dd_X1_priceOf_104 (by decide) rfl ?_
      have h1_ : g0 - (g0.tmod y20) = pr1 (pr0 (M 15 la.toNat) (M 16 la.toNat) (lpt (M 19) (M 18 2) (M 17 la.toNat) 0) (lpt (M 19) (M 18 2) (M 17 la.toNat) 1) (M 7 t.toNat) tr) (lpt (M 19) (M 18 2) (M 17 la.toNat) 2) := by unfold pr1; subst_vars; first | rw [if_pos (by omega)] | rw [if_neg (by omega)]
      refine g_iload (pc := 106) (i := 5) (x := g0 - (g0.tmod y20)) hK dd_X1_priceOf_106 rfl ?_
      refine g_aloadn (pc := 108) (i := 0) (x := 5) hK dd_X1_priceOf_108 rfl rfl ?_
      refine g_getv (pc := 109) (f := (1, 13)) (j := 2) (v := gR 18) hK (kdm kd_5) rfl ef_1 (by decide) rfl kk_263 dd_X1_priceOf_109 rfl ?_
      refine g_iload (pc := 112) (i := 4) (x := x1) hK dd_X1_priceOf_112 rfl ?_
      refine g_iconst (pc := 114) (x := 3) hK dd_X1_priceOf_114 (by decide) ?_
      refine g_callV (pc := 115) (As := [gI x1, gI 3]) hK ws_Hall_100 md_X3_part ⟨Nat.zero_le _, Nat.zero_le _⟩ ⟨by decide, by decide⟩ (kdm kd_18) rfl rfl dd_X1_priceOf_115 rfl rfl (Nat.le_of_ble_eq_true rfl) (c_partN x1 3 rx1 (show 0 ≤ 3 ∧ 3 ≤ 4 by omega) (show 0 ≤ M 18 2 ∧ M 18 2 ≤ 6 by omega) (g_r1 ?_))
      refine g_topI (fun y26 ey26 => ?_)
      rw [ex1] at ey26
      refine g_mmax (pc := 118) hK ws_Hall_107 ⟨by omega, by omega⟩ ⟨by omega, by omega⟩ ⟨by decide, by decide⟩ ⟨Nat.zero_le _, Nat.zero_le _⟩ (Nat.le_of_ble_eq_true rfl) dd_X1_priceOf_118 ?_
      refine g_topI (fun y27 ey27 => ?_)
      refine g_istore (pc := 121) (i := 5) (L' := [(0, gR 5), (1, gI la), (2, gI t), (3, gI tr), (4, gI x1), (5, gI y27), (6, gI y20)]) hK dd_X1_priceOf_121 (by decide) rfl ?_
      refine g_iload (pc := 123) (i := 5) (x := y27) hK dd_X1_priceOf_123 rfl ?_
      refine g_aloadn (pc := 125) (i := 0) (x := 5) hK dd_X1_priceOf_125 rfl rfl ?_
      refine g_getv (pc := 126) (f := (1, 13)) (j := 2) (v := gR 18) hK (kdm kd_5) rfl ef_1 (by decide) rfl kk_263 dd_X1_priceOf_126 rfl ?_
      refine g_iload (pc := 129) (i := 4) (x := x1) hK dd_X1_priceOf_129 rfl ?_
      refine g_iconst (pc := 131) (x := 4) hK dd_X1_priceOf_131 (by decide) ?_
      refine g_callV (pc := 132) (As := [gI x1, gI 4]) hK ws_Hall_100 md_X3_part ⟨Nat.zero_le _, Nat.zero_le _⟩ ⟨by decide, by decide⟩ (kdm kd_18) rfl rfl dd_X1_priceOf_132 rfl rfl (Nat.le_of_ble_eq_true rfl) (c_partN x1 4 rx1 (show 0 ≤ 4 ∧ 4 ≤ 4 by omega) (show 0 ≤ M 18 2 ∧ M 18 2 ≤ 6 by omega) (g_r1 ?_))
      refine g_topI (fun y28 ey28 => ?_)
      rw [ex1] at ey28
      refine g_mmin (pc := 135) hK ws_Hall_112 ⟨by omega, by omega⟩ ⟨by omega, by omega⟩ ⟨by decide, by decide⟩ ⟨Nat.zero_le _, Nat.zero_le _⟩ (Nat.le_of_ble_eq_true rfl) dd_X1_priceOf_135 ?_
      refine g_topI (fun y29 ey29 => ?_)
      refine g_iret (pc := 138) hK hr hlocks dd_X1_priceOf_138 rfl ?_
      exact g_fin hQ (by subst_vars; unfold prc; rw [← h1_]; rfl) (by first | rfl | (subst_vars; rfl))
set_option maxHeartbeats 4000000 in
set_option maxRecDepth 100000 in
theorem c_priceBy {l : Launch} {M : Mem} {Pq : Option gV → Mem → Prop} (la : Int) (t : Int) (a1 : 0 ≤ la) (a2 : la < 5) (h1 : 0 ≤ t) (h2 : t < 30) (hth : thOK M) (hwc : 0 ≤ M 18 2 ∧ M 18 2 ≤ 6) (hla : laOK M) (hlw : lwOK (M 19) (M 18 2)) (hQ : Pq (some (gI (prc (M 15 la.toNat) (M 16 la.toNat) (M 17 la.toNat) (M 19) (M 18 2) (M 7 t.toNat) (TW (M 7 t.toNat) (M 8 t.toNat) (M 9 t.toNat))))) M) : gCtr l my_X1_priceBy mb_X1_priceBy 3 ((some .int)) 5 [gR 5, gI la, gI t] M Pq := by
  refine g_intro (by decide) (Nat.le_of_ble_eq_true rfl) ?_
  intro p e s m args below meth c D cy q A hK hr hlocks hw
  refine g_sub (L' := [(0, gR 5), (1, gI la), (2, gI t)]) [0, 1, 2] rfl ?_
  have htw := TW_in (M 7 t.toNat) (M 9 t.toNat) (thW hth (tn30 h1 h2)).1 (thW hth (tn30 h1 h2)).2
  have hg := (hla la.toNat (by omega)).2
  refine g_aloadn (pc := 0) (i := 0) (x := 5) hK dd_X1_priceBy_0 rfl rfl ?_
  refine g_iloadn (pc := 1) (i := 1) (x := la) hK dd_X1_priceBy_1 rfl rfl ?_
  refine g_iloadn (pc := 2) (i := 2) (x := t) hK dd_X1_priceBy_2 rfl rfl ?_
  refine g_aloadn (pc := 3) (i := 0) (x := 5) hK dd_X1_priceBy_3 rfl rfl ?_
  refine g_getv (pc := 4) (f := (1, 1)) (j := 0) (v := gR 6) hK (kdm kd_5) rfl ef_1 (by decide) rfl kk_258 dd_X1_priceBy_4 rfl ?_
  refine g_iloadn (pc := 7) (i := 2) (x := t) hK dd_X1_priceBy_7 rfl rfl ?_
  refine g_callV (pc := 8) (As := [gI t]) hK ws_Hall_79 md_X10_trueWorth ⟨Nat.zero_le _, Nat.zero_le _⟩ ⟨by decide, by decide⟩ (kdm kd_6) rfl rfl dd_X1_priceBy_8 rfl rfl (Nat.le_of_ble_eq_true rfl) (c_trueWorth t (by omega) (by omega) hth (g_r1 ?_))
  refine g_topI (fun y1 ey1 => ?_)
  refine g_callV (pc := 11) (As := [gI la, gI t, gI y1]) hK ws_Hall_83 md_X1_priceOf ⟨Nat.zero_le _, Nat.zero_le _⟩ ⟨by decide, by decide⟩ (kdm kd_5) rfl rfl dd_X1_priceBy_11 rfl rfl (Nat.le_of_ble_eq_true rfl) (c_priceOf la t y1 (by omega) (by omega) (by omega) (by omega) (by omega) hwc hla hlw (g_r1 ?_))
  refine g_topI (fun y2 ey2 => ?_)
  refine g_iret (pc := 14) hK hr hlocks dd_X1_priceBy_14 rfl ?_
  exact g_fin hQ (by subst_vars; rfl) (by first | rfl | (subst_vars; rfl))
set_option maxHeartbeats 4000000 in
set_option maxRecDepth 100000 in
theorem c_lostOn {l : Launch} {M : Mem} {Pq : Option gV → Mem → Prop} (la : Int) (t : Int) (a1 : 0 ≤ la) (a2 : la < 5) (h1 : 0 ≤ t) (h2 : t < 30) (hth : thOK M) (hwc : 0 ≤ M 18 2 ∧ M 18 2 ≤ 6) (hla : laOK M) (hlw : lwOK (M 19) (M 18 2)) (hQ : Pq (some (gI (los (TW (M 7 t.toNat) (M 8 t.toNat) (M 9 t.toNat)) (prc (M 15 la.toNat) (M 16 la.toNat) (M 17 la.toNat) (M 19) (M 18 2) (M 7 t.toNat) (TW (M 7 t.toNat) (M 8 t.toNat) (M 9 t.toNat)))))) M) : gCtr l my_X1_lostOn mb_X1_lostOn 4 ((some .int)) 5 [gR 5, gI la, gI t] M Pq := by
  refine g_intro (by decide) (Nat.le_of_ble_eq_true rfl) ?_
  intro p e s m args below meth c D cy q A hK hr hlocks hw
  refine g_sub (L' := [(0, gR 5), (1, gI la), (2, gI t)]) [0, 1, 2] rfl ?_
  have htw := TW_in (M 7 t.toNat) (M 9 t.toNat) (thW hth (tn30 h1 h2)).1 (thW hth (tn30 h1 h2)).2
  have hg := (hla la.toNat (by omega)).2
  have hpp := prc_in (kn := M 15 la.toNat) (lw := M 17 la.toNat) (k := M 7 t.toNat) hlw hg htw
  refine g_aloadn (pc := 0) (i := 0) (x := 5) hK dd_X1_lostOn_0 rfl rfl ?_
  refine g_getv (pc := 1) (f := (1, 1)) (j := 0) (v := gR 6) hK (kdm kd_5) rfl ef_1 (by decide) rfl kk_258 dd_X1_lostOn_1 rfl ?_
  refine g_iloadn (pc := 4) (i := 2) (x := t) hK dd_X1_lostOn_4 rfl rfl ?_
  refine g_callV (pc := 5) (As := [gI t]) hK ws_Hall_79 md_X10_trueWorth ⟨Nat.zero_le _, Nat.zero_le _⟩ ⟨by decide, by decide⟩ (kdm kd_6) rfl rfl dd_X1_lostOn_5 rfl rfl (Nat.le_of_ble_eq_true rfl) (c_trueWorth t (by omega) (by omega) hth (g_r1 ?_))
  refine g_topI (fun y1 ey1 => ?_)
  refine g_istoren (pc := 8) (i := 3) (L' := [(0, gR 5), (1, gI la), (2, gI t), (3, gI y1)]) hK dd_X1_lostOn_8 rfl (by decide) rfl ?_
  refine g_iconst (pc := 9) (x := 0) hK dd_X1_lostOn_9 (by decide) ?_
  refine g_iloadn (pc := 10) (i := 3) (x := y1) hK dd_X1_lostOn_10 rfl rfl ?_
  refine g_aloadn (pc := 11) (i := 0) (x := 5) hK dd_X1_lostOn_11 rfl rfl ?_
  refine g_iloadn (pc := 12) (i := 1) (x := la) hK dd_X1_lostOn_12 rfl rfl ?_
  refine g_iloadn (pc := 13) (i := 2) (x := t) hK dd_X1_lostOn_13 rfl rfl ?_
  refine g_iloadn (pc := 14) (i := 3) (x := y1) hK dd_X1_lostOn_14 rfl rfl ?_
  refine g_callV (pc := 15) (As := [gI la, gI t, gI y1]) hK ws_Hall_83 md_X1_priceOf ⟨Nat.zero_le _, Nat.zero_le _⟩ ⟨by decide, by decide⟩ (kdm kd_5) rfl rfl dd_X1_lostOn_15 rfl rfl (Nat.le_of_ble_eq_true rfl) (c_priceOf la t y1 (by omega) (by omega) (by omega) (by omega) (by omega) hwc hla hlw (g_r1 ?_))
  refine g_topI (fun y2 ey2 => ?_)
  rw [ey1] at ey2
  refine g_isub (pc := 18) (z := y1 - y2) hK dd_X1_lostOn_18 rfl ?_
  refine g_mmax (pc := 19) hK ws_Hall_107 (by decide) ⟨by omega, by omega⟩ ⟨by decide, by decide⟩ ⟨Nat.zero_le _, Nat.zero_le _⟩ (Nat.le_of_ble_eq_true rfl) dd_X1_lostOn_19 ?_
  refine g_topI (fun y3 ey3 => ?_)
  refine g_iret (pc := 22) hK hr hlocks dd_X1_lostOn_22 rfl ?_
  exact g_fin hQ (by subst_vars; rfl) (by first | rfl | (subst_vars; rfl))
set_option maxHeartbeats 4000000 in
set_option maxRecDepth 100000 in
theorem c_lostOnKinds {l : Launch} {M : Mem} {Pq : Option gV → Mem → Prop} (la : Int) (ks : Int) (a1 : 0 ≤ la) (a2 : la < 5) (hc : 0 ≤ M 6 6 ∧ M 6 6 ≤ 30) (hth : thOK M) (hwc : 0 ≤ M 18 2 ∧ M 18 2 ≤ 6) (hla : laOK M) (hlw : lwOK (M 19) (M 18 2)) (hQ : Pq (some (gI (losK (M 7) (M 8) (M 9) (M 15 la.toNat) (M 16 la.toNat) (M 17 la.toNat) (M 19) (M 18 2) ks (M 6 6).toNat))) M) : gCtr l my_X1_lostOnKinds mb_X1_lostOnKinds 5 ((some .int)) 6 [gR 5, gI la, gI ks] M Pq := by
  refine g_intro (by decide) (Nat.le_of_ble_eq_true rfl) ?_
  intro p e s m args below meth c D cy q A hK hr hlocks hw
  refine g_sub (L' := [(0, gR 5), (1, gI la), (2, gI ks)]) [0, 1, 2] rfl ?_
  refine g_iconst (pc := 0) (x := 0) hK dd_X1_lostOnKinds_0 (by decide) ?_
  refine g_istoren (pc := 1) (i := 3) (L' := [(0, gR 5), (1, gI la), (2, gI ks), (3, gI 0)]) hK dd_X1_lostOnKinds_1 rfl (by decide) rfl ?_
  refine g_iconst (pc := 2) (x := 0) hK dd_X1_lostOnKinds_2 (by decide) ?_
  refine g_istore (pc := 3) (i := 4) (L' := [(0, gR 5), (1, gI la), (2, gI ks), (3, gI 0), (4, gI 0)]) hK dd_X1_lostOnKinds_3 (by decide) rfl ?_
  have lp3 : ∀ (n1 : Nat) (sm : Int) (t : Int), (0 ≤ t ∧ t ≤ M 6 6) → (sm = losK (M 7) (M 8) (M 9) (M 15 la.toNat) (M 16 la.toNat) (M 17 la.toNat) (M 19) (M 18 2) ks t.toNat) → (M 6 6 - t).toNat < n1 → G p l e (rmD 6) s m args below meth c D cy q A 0 0 5 (MQ below (gQc D cy q A Pq) args s 0 0 A) 5 [(0, gR 5), (1, gI la), (2, gI ks), (3, gI sm), (4, gI t)] [] M := by
    intro n1
    induction n1 with
    | zero => intro sm t iv4 iv5 hm6; exact absurd hm6 (Nat.not_lt_zero _)
    | succ n1 ih2 =>
      intro sm t iv4 iv5 hm6
      refine g_iload (pc := 5) (i := 4) (x := t) hK dd_X1_lostOnKinds_5 rfl ?_
      have hg := (hla la.toNat (by omega)).2
      have hlk := losK_in (k := M 7) (w := M 8) (c := M 9) (kn := M 15 la.toNat) (lw := M 17 la.toNat) (ks := ks) hlw hg (fun j hj => thW hth hj) t.toNat (by omega)
      refine g_aloadn (pc := 7) (i := 0) (x := 5) hK dd_X1_lostOnKinds_7 rfl rfl ?_
      refine g_getv (pc := 8) (f := (1, 1)) (j := 0) (v := gR 6) hK (kdm kd_5) rfl ef_1 (by decide) rfl kk_258 dd_X1_lostOnKinds_8 rfl ?_
      refine g_geti (pc := 11) (f := (0, 0)) (j := 6) hK (kdm kd_6) rfl ef_10 (by decide) rfl kk_89 nl_6 dd_X1_lostOnKinds_11 rfl (fun x7 ex7 rx7 => ?_)
      refine g_icmp_ge (pc := 14) (tgt := 46) hK dd_X1_lostOnKinds_14 (by decide) ⟨by omega, by omega⟩ rx7 (fun c8 => ?_) (fun c8 => ?_)
      · refine g_iloadn (pc := 46) (i := 3) (x := sm) hK dd_X1_lostOnKinds_46 rfl rfl ?_
        refine g_iret (pc := 47) hK hr hlocks dd_X1_lostOnKinds_47 rfl ?_
        exact g_fin hQ (by rw [show M 6 6 = t by omega]; omega) (by first | rfl | (subst_vars; rfl))
      · have htw := TW_in (M 7 t.toNat) (M 9 t.toNat) (thW hth (tn30 (t := t) (by omega) (by omega))).1 (thW hth (tn30 (t := t) (by omega) (by omega))).2
        have hpp := prc_in (kn := M 15 la.toNat) (lw := M 17 la.toNat) (k := M 7 t.toNat) hlw hg htw
        have hls := los_in htw hpp.1
        refine g_aloadn (pc := 17) (i := 0) (x := 5) hK dd_X1_lostOnKinds_17 rfl rfl ?_
        refine g_getv (pc := 18) (f := (1, 1)) (j := 0) (v := gR 6) hK (kdm kd_5) rfl ef_1 (by decide) rfl kk_258 dd_X1_lostOnKinds_18 rfl ?_
        refine g_iload (pc := 21) (i := 4) (x := t) hK dd_X1_lostOnKinds_21 rfl ?_
        refine g_iloadn (pc := 23) (i := 2) (x := ks) hK dd_X1_lostOnKinds_23 rfl rfl ?_
        refine g_callV (pc := 24) (As := [gI t, gI ks]) hK ws_Hall_118 md_X10_isOfKinds ⟨Nat.zero_le _, Nat.zero_le _⟩ ⟨by decide, by decide⟩ (kdm kd_6) rfl rfl dd_X1_lostOnKinds_24 rfl rfl (Nat.le_of_ble_eq_true rfl) (c_isOfKinds t ks (show 0 ≤ t by omega) (show t < 30 by omega) (fun c9 => g_r1 ?_) (fun c9 => g_r1 ?_))
        · refine g_if_eq (pc := 27) (tgt := 40) hK dd_X1_lostOnKinds_27 (by decide) (by decide) (fun c10 => absurd c10 (by decide)) (fun _ => ?_)
          refine g_iloadn (pc := 30) (i := 3) (x := sm) hK dd_X1_lostOnKinds_30 rfl rfl ?_
          refine g_aloadn (pc := 31) (i := 0) (x := 5) hK dd_X1_lostOnKinds_31 rfl rfl ?_
          refine g_iloadn (pc := 32) (i := 1) (x := la) hK dd_X1_lostOnKinds_32 rfl rfl ?_
          refine g_iload (pc := 33) (i := 4) (x := t) hK dd_X1_lostOnKinds_33 rfl ?_
          refine g_callV (pc := 35) (As := [gI la, gI t]) hK ws_Hall_121 md_X1_lostOn ⟨Nat.zero_le _, Nat.zero_le _⟩ ⟨by decide, by decide⟩ (kdm kd_5) rfl rfl dd_X1_lostOnKinds_35 rfl rfl (Nat.le_of_ble_eq_true rfl) (c_lostOn la t (by omega) (by omega) (by omega) (by omega) hth hwc hla hlw (g_r1 ?_))
          refine g_topI (fun y11 ey11 => ?_)
          refine g_iadd (pc := 38) (z := sm + y11) hK dd_X1_lostOnKinds_38 rfl ?_
          refine g_istoren (pc := 39) (i := 3) (L' := [(0, gR 5), (1, gI la), (2, gI ks), (3, gI (sm + y11)), (4, gI t)]) hK dd_X1_lostOnKinds_39 rfl (by decide) rfl ?_
          refine g_iinc (pc := 40) (i := 4) (y := t + 1) (L' := [(0, gR 5), (1, gI la), (2, gI ks), (3, gI (sm + y11)), (4, gI (t + 1))]) hK dd_X1_lostOnKinds_40 rfl rfl (by decide) rfl ?_
          refine g_goto (pc := 43) (tgt := 5) hK dd_X1_lostOnKinds_43 (by decide) ?_
          refine g_sub (L' := [(0, gR 5), (1, gI la), (2, gI ks), (3, gI (sm + y11)), (4, gI (t + 1))]) [0, 1, 2, 3, 4] rfl ?_
          exact ih2 (sm + y11) (t + 1) (by omega) (by rw [tn1 (by omega)]; simp only [losK]; first | (rw [if_pos (by first | assumption | (subst_vars; assumption))]; omega) | (rw [if_neg (by first | assumption | (subst_vars; assumption))]; omega)) (by omega)
        · refine g_if_eq (pc := 27) (tgt := 40) hK dd_X1_lostOnKinds_27 (by decide) (by decide) (fun _ => ?_) (fun c12 => absurd (by decide) c12)
          refine g_iinc (pc := 40) (i := 4) (y := t + 1) (L' := [(0, gR 5), (1, gI la), (2, gI ks), (3, gI sm), (4, gI (t + 1))]) hK dd_X1_lostOnKinds_40 rfl rfl (by decide) rfl ?_
          refine g_goto (pc := 43) (tgt := 5) hK dd_X1_lostOnKinds_43 (by decide) ?_
          refine g_sub (L' := [(0, gR 5), (1, gI la), (2, gI ks), (3, gI sm), (4, gI (t + 1))]) [0, 1, 2, 3, 4] rfl ?_
          exact ih2 sm (t + 1) (by omega) (by rw [tn1 (by omega)]; simp only [losK]; first | (rw [if_pos (by first | assumption | (subst_vars; assumption))]; omega) | (rw [if_neg (by first | assumption | (subst_vars; assumption))]; omega)) (by omega)
  refine g_sub (L' := [(0, gR 5), (1, gI la), (2, gI ks), (3, gI 0), (4, gI 0)]) [0, 1, 2, 3, 4] rfl ?_
  exact lp3 _ 0 0 (by omega) (rfl) (Nat.lt_succ_self _)
set_option maxHeartbeats 4000000 in
set_option maxRecDepth 100000 in
theorem c_priceAll {l : Launch} {M : Mem} {Pq : Option gV → Mem → Prop} (la : Int) (ks : Int) (a1 : 0 ≤ la) (a2 : la < 5) (hc : 0 ≤ M 6 6 ∧ M 6 6 ≤ 30) (hth : thOK M) (hwc : 0 ≤ M 18 2 ∧ M 18 2 ≤ 6) (hla : laOK M) (hlw : lwOK (M 19) (M 18 2)) (hQ : Pq (some (gI (prN (M 7) (M 10) ks (M 6 6).toNat))) (sr M 10 (prR (M 7) (M 8) (M 9) (M 10) (M 15 la.toNat) (M 16 la.toNat) (M 17 la.toNat) (M 19) (M 18 2) ks (M 6 6).toNat))) : gCtr l my_X1_priceAll mb_X1_priceAll 5 ((some .int)) 6 [gR 5, gI la, gI ks] M Pq := by
  refine g_intro (by decide) (Nat.le_of_ble_eq_true rfl) ?_
  intro p e s m args below meth c D cy q A hK hr hlocks hw
  refine g_sub (L' := [(0, gR 5), (1, gI la), (2, gI ks)]) [0, 1, 2] rfl ?_
  refine g_iconst (pc := 0) (x := 0) hK dd_X1_priceAll_0 (by decide) ?_
  refine g_istoren (pc := 1) (i := 3) (L' := [(0, gR 5), (1, gI la), (2, gI ks), (3, gI 0)]) hK dd_X1_priceAll_1 rfl (by decide) rfl ?_
  refine g_iconst (pc := 2) (x := 0) hK dd_X1_priceAll_2 (by decide) ?_
  refine g_istore (pc := 3) (i := 4) (L' := [(0, gR 5), (1, gI la), (2, gI ks), (3, gI 0), (4, gI 0)]) hK dd_X1_priceAll_3 (by decide) rfl ?_
  have lp3 : ∀ (n1 : Nat) (n : Int) (t : Int), (0 ≤ t ∧ t ≤ M 6 6) → (n = prN (M 7) (M 10) ks t.toNat) → (M 6 6 - t).toNat < n1 → G p l e (rmD 6) s m args below meth c D cy q A 0 0 5 (MQ below (gQc D cy q A Pq) args s 0 0 A) 5 [(0, gR 5), (1, gI la), (2, gI ks), (3, gI n), (4, gI t)] [] (sr M 10 (prR (M 7) (M 8) (M 9) (M 10) (M 15 la.toNat) (M 16 la.toNat) (M 17 la.toNat) (M 19) (M 18 2) ks t.toNat)) := by
    intro n1
    induction n1 with
    | zero => intro n t iv4 iv5 hm6; exact absurd hm6 (Nat.not_lt_zero _)
    | succ n1 ih2 =>
      intro n t iv4 iv5 hm6
      refine g_iload (pc := 5) (i := 4) (x := t) hK dd_X1_priceAll_5 rfl ?_
      have hg := (hla la.toNat (by omega)).2
      have hpn := prN_in (M 7) (M 10) ks t.toNat
      have hth0 := hth
      have hth : thOK (sr M 10 (prR (M 7) (M 8) (M 9) (M 10) (M 15 la.toNat) (M 16 la.toNat) (M 17 la.toNat) (M 19) (M 18 2) ks t.toNat)) := thOK_P hth0 (prR_in hlw hg (fun j hj => thW hth0 hj) (fun j hj => thP hth0 hj))
      refine g_aloadn (pc := 7) (i := 0) (x := 5) hK dd_X1_priceAll_7 rfl rfl ?_
      refine g_getv (pc := 8) (f := (1, 1)) (j := 0) (v := gR 6) hK (kdm kd_5) rfl ef_1 (by decide) rfl kk_258 dd_X1_priceAll_8 rfl ?_
      refine g_geti (pc := 11) (f := (0, 0)) (j := 6) hK (kdm kd_6) rfl ef_10 (by decide) rfl kk_89 nl_6 dd_X1_priceAll_11 rfl (fun x7 ex7 rx7 => ?_)
      replace ex7 : x7 = M 6 6 := ex7
      refine g_icmp_ge (pc := 14) (tgt := 70) hK dd_X1_priceAll_14 (by decide) ⟨by omega, by omega⟩ rx7 (fun c8 => ?_) (fun c8 => ?_)
      · refine g_iloadn (pc := 70) (i := 3) (x := n) hK dd_X1_priceAll_70 rfl rfl ?_
        refine g_iret (pc := 71) hK hr hlocks dd_X1_priceAll_71 rfl ?_
        exact g_fin hQ (by rw [show M 6 6 = t by omega]; omega) (by rw [show M 6 6 = t by omega])
      · have htw := TW_in (M 7 t.toNat) (M 9 t.toNat) (thW hth0 (tn30 (t := t) (by omega) (by omega))).1 (thW hth0 (tn30 (t := t) (by omega) (by omega))).2
        have hpp := prc_in (kn := M 15 la.toNat) (lw := M 17 la.toNat) (k := M 7 t.toNat) hlw hg htw
        refine g_aloadn (pc := 17) (i := 0) (x := 5) hK dd_X1_priceAll_17 rfl rfl ?_
        refine g_getv (pc := 18) (f := (1, 1)) (j := 0) (v := gR 6) hK (kdm kd_5) rfl ef_1 (by decide) rfl kk_258 dd_X1_priceAll_18 rfl ?_
        refine g_getv (pc := 21) (f := (1, 4)) (j := 3) (v := gR 10) hK (kdm kd_6) rfl ef_10 (by decide) rfl kk_76 dd_X1_priceAll_21 rfl ?_
        refine g_iload (pc := 24) (i := 4) (x := t) hK dd_X1_priceAll_24 rfl ?_
        refine g_iald (pc := 26) hK (kdm kd_10) nl_10 (by decide) dd_X1_priceAll_26 (by omega) (by omega) (fun x9 ex9 rx9 => ?_)
        replace ex9 : x9 = (prR (M 7) (M 8) (M 9) (M 10) (M 15 la.toNat) (M 16 la.toNat) (M 17 la.toNat) (M 19) (M 18 2) ks t.toNat) t.toNat := by first | exact ex9 | (rw [ex9]; simp [up, us, cp, sr])
        rw [prR_n] at ex9
        refine g_iconst (pc := 27) (x := (-1)) hK dd_X1_priceAll_27 (by decide) ?_
        refine g_icmp_ne (pc := 28) (tgt := 64) hK dd_X1_priceAll_28 (by decide) rx9 (by decide) (fun c10 => ?_) (fun c10 => ?_)
        · refine g_iinc (pc := 64) (i := 4) (y := t + 1) (L' := [(0, gR 5), (1, gI la), (2, gI ks), (3, gI n), (4, gI (t + 1))]) hK dd_X1_priceAll_64 rfl rfl (by decide) rfl ?_
          refine g_goto (pc := 67) (tgt := 5) hK dd_X1_priceAll_67 (by decide) ?_
          refine g_sub (L' := [(0, gR 5), (1, gI la), (2, gI ks), (3, gI n), (4, gI (t + 1))]) [0, 1, 2, 3, 4] rfl ?_
          refine g_mem (M2 := sr M 10 (prR (M 7) (M 8) (M 9) (M 10) (M 15 la.toNat) (M 16 la.toNat) (M 17 la.toNat) (M 19) (M 18 2) ks (t + 1).toNat)) (by rw [tn1 (by omega)]; first | (rw [prR_x (fun z => absurd z.1 (by omega))]) | (rw [prR_x (fun z => absurd z.2 (by assumption))]) | (rw [sr_up]; congr 1; first | (rw [← prR_y ⟨by omega, by assumption⟩]; congr 1) | skip)) ?_
          exact ih2 n (t + 1) (by omega) (by rw [tn1 (by omega)]; simp only [prN]; first | (rw [if_pos ⟨by omega, by assumption⟩]; omega) | (rw [if_neg (fun z => absurd z.1 (by omega))]; omega) | (rw [if_neg (fun z => absurd z.2 (by assumption))]; omega)) (by omega)
        · refine g_aloadn (pc := 31) (i := 0) (x := 5) hK dd_X1_priceAll_31 rfl rfl ?_
          refine g_getv (pc := 32) (f := (1, 1)) (j := 0) (v := gR 6) hK (kdm kd_5) rfl ef_1 (by decide) rfl kk_258 dd_X1_priceAll_32 rfl ?_
          refine g_iload (pc := 35) (i := 4) (x := t) hK dd_X1_priceAll_35 rfl ?_
          refine g_iloadn (pc := 37) (i := 2) (x := ks) hK dd_X1_priceAll_37 rfl rfl ?_
          refine g_callV (pc := 38) (As := [gI t, gI ks]) hK ws_Hall_118 md_X10_isOfKinds ⟨Nat.zero_le _, Nat.zero_le _⟩ ⟨by decide, by decide⟩ (kdm kd_6) rfl rfl dd_X1_priceAll_38 rfl rfl (Nat.le_of_ble_eq_true rfl) (c_isOfKinds t ks (show 0 ≤ t by omega) (show t < 30 by omega) (fun c11 => g_r1 ?_) (fun c11 => g_r1 ?_))
          · refine g_if_eq (pc := 41) (tgt := 64) hK dd_X1_priceAll_41 (by decide) (by decide) (fun c12 => absurd c12 (by decide)) (fun _ => ?_)
            refine g_aloadn (pc := 44) (i := 0) (x := 5) hK dd_X1_priceAll_44 rfl rfl ?_
            refine g_getv (pc := 45) (f := (1, 1)) (j := 0) (v := gR 6) hK (kdm kd_5) rfl ef_1 (by decide) rfl kk_258 dd_X1_priceAll_45 rfl ?_
            refine g_getv (pc := 48) (f := (1, 4)) (j := 3) (v := gR 10) hK (kdm kd_6) rfl ef_10 (by decide) rfl kk_76 dd_X1_priceAll_48 rfl ?_
            refine g_iload (pc := 51) (i := 4) (x := t) hK dd_X1_priceAll_51 rfl ?_
            refine g_aloadn (pc := 53) (i := 0) (x := 5) hK dd_X1_priceAll_53 rfl rfl ?_
            refine g_iloadn (pc := 54) (i := 1) (x := la) hK dd_X1_priceAll_54 rfl rfl ?_
            refine g_iload (pc := 55) (i := 4) (x := t) hK dd_X1_priceAll_55 rfl ?_
            refine g_callV (pc := 57) (As := [gI la, gI t]) hK ws_Hall_127 md_X1_priceBy ⟨Nat.zero_le _, Nat.zero_le _⟩ ⟨by decide, by decide⟩ (kdm kd_5) rfl rfl dd_X1_priceAll_57 rfl rfl (Nat.le_of_ble_eq_true rfl) (c_priceBy la t (by omega) (by omega) (by omega) (by omega) hth hwc hla hlw (g_r1 ?_))
            refine g_topI (fun y13 ey13 => ?_)
            replace ey13 : y13 = prc (M 15 la.toNat) (M 16 la.toNat) (M 17 la.toNat) (M 19) (M 18 2) (M 7 t.toNat) (TW (M 7 t.toNat) (M 8 t.toNat) (M 9 t.toNat)) := ey13
            refine g_iast (pc := 60) hK (kdm kd_10) nl_10 (by decide) (by decide) dd_X1_priceAll_60 (by omega) (by omega) ⟨by omega, by omega⟩ ?_
            refine g_iinc (pc := 61) (i := 3) (y := n + 1) (L' := [(0, gR 5), (1, gI la), (2, gI ks), (3, gI (n + 1)), (4, gI t)]) hK dd_X1_priceAll_61 rfl rfl (by decide) rfl ?_
            refine g_iinc (pc := 64) (i := 4) (y := t + 1) (L' := [(0, gR 5), (1, gI la), (2, gI ks), (3, gI (n + 1)), (4, gI (t + 1))]) hK dd_X1_priceAll_64 rfl rfl (by decide) rfl ?_
            refine g_goto (pc := 67) (tgt := 5) hK dd_X1_priceAll_67 (by decide) ?_
            refine g_sub (L' := [(0, gR 5), (1, gI la), (2, gI ks), (3, gI (n + 1)), (4, gI (t + 1))]) [0, 1, 2, 3, 4] rfl ?_
            refine g_mem (M2 := sr M 10 (prR (M 7) (M 8) (M 9) (M 10) (M 15 la.toNat) (M 16 la.toNat) (M 17 la.toNat) (M 19) (M 18 2) ks (t + 1).toNat)) (by rw [tn1 (by omega)]; first | (rw [prR_x (fun z => absurd z.1 (by omega))]) | (rw [prR_x (fun z => absurd z.2 (by assumption))]) | (rw [sr_up]; congr 1; first | (rw [← prR_y ⟨by omega, by assumption⟩]; congr 1) | skip)) ?_
            exact ih2 (n + 1) (t + 1) (by omega) (by rw [tn1 (by omega)]; simp only [prN]; first | (rw [if_pos ⟨by omega, by assumption⟩]; omega) | (rw [if_neg (fun z => absurd z.1 (by omega))]; omega) | (rw [if_neg (fun z => absurd z.2 (by assumption))]; omega)) (by omega)
          · refine g_if_eq (pc := 41) (tgt := 64) hK dd_X1_priceAll_41 (by decide) (by decide) (fun _ => ?_) (fun c14 => absurd (by decide) c14)
            refine g_iinc (pc := 64) (i := 4) (y := t + 1) (L' := [(0, gR 5), (1, gI la), (2, gI ks), (3, gI n), (4, gI (t + 1))]) hK dd_X1_priceAll_64 rfl rfl (by decide) rfl ?_
            refine g_goto (pc := 67) (tgt := 5) hK dd_X1_priceAll_67 (by decide) ?_
            refine g_sub (L' := [(0, gR 5), (1, gI la), (2, gI ks), (3, gI n), (4, gI (t + 1))]) [0, 1, 2, 3, 4] rfl ?_
            refine g_mem (M2 := sr M 10 (prR (M 7) (M 8) (M 9) (M 10) (M 15 la.toNat) (M 16 la.toNat) (M 17 la.toNat) (M 19) (M 18 2) ks (t + 1).toNat)) (by rw [tn1 (by omega)]; first | (rw [prR_x (fun z => absurd z.1 (by omega))]) | (rw [prR_x (fun z => absurd z.2 (by assumption))]) | (rw [sr_up]; congr 1; first | (rw [← prR_y ⟨by omega, by assumption⟩]; congr 1) | skip)) ?_
            exact ih2 n (t + 1) (by omega) (by rw [tn1 (by omega)]; simp only [prN]; first | (rw [if_pos ⟨by omega, by assumption⟩]; omega) | (rw [if_neg (fun z => absurd z.1 (by omega))]; omega) | (rw [if_neg (fun z => absurd z.2 (by assumption))]; omega)) (by omega)
  refine g_mem (M2 := sr M 10 (prR (M 7) (M 8) (M 9) (M 10) (M 15 la.toNat) (M 16 la.toNat) (M 17 la.toNat) (M 19) (M 18 2) ks (0 : Int).toNat)) (by show M = sr M 10 (prR (M 7) (M 8) (M 9) (M 10) (M 15 la.toNat) (M 16 la.toNat) (M 17 la.toNat) (M 19) (M 18 2) ks 0); rw [prR_0]; exact sr_self.symm) ?_
  refine g_sub (L' := [(0, gR 5), (1, gI la), (2, gI ks), (3, gI 0), (4, gI 0)]) [0, 1, 2, 3, 4] rfl ?_
  exact lp3 _ 0 0 (by omega) (rfl) (Nat.lt_succ_self _)
set_option maxHeartbeats 4000000 in
set_option maxRecDepth 100000 in
theorem x_thinks {l : Launch} {M : Mem} {Pq : Option gV → Mem → Prop} (la : Int) (t : Int) (lo : Int) (h_la : inI la) (h_t : inI t) (h_lo : inI lo) (hrf : rfOK M) (hc : 0 ≤ M 6 6 ∧ M 6 6 ≤ 30) (hlc : 0 ≤ M 14 3 ∧ M 14 3 ≤ 5) (hth : thOK M) (hwc : 0 ≤ M 18 2 ∧ M 18 2 ≤ 6) (hla : laOK M) (hlw : lwOK (M 19) (M 18 2)) (hB : (¬ ((0 ≤ la ∧ la < M 14 3) ∧ 0 ≤ t ∧ t < M 6 6)) → Pq (some (gI (-2))) (rf M 0)) (hL : (((0 ≤ la ∧ la < M 14 3) ∧ 0 ≤ t ∧ t < M 6 6) ∧ ¬ lo = 0) → Pq (some (gI (los (TW (M 7 t.toNat) (M 8 t.toNat) (M 9 t.toNat)) (prc (M 15 la.toNat) (M 16 la.toNat) (M 17 la.toNat) (M 19) (M 18 2) (M 7 t.toNat) (TW (M 7 t.toNat) (M 8 t.toNat) (M 9 t.toNat)))))) M) (hP : (((0 ≤ la ∧ la < M 14 3) ∧ 0 ≤ t ∧ t < M 6 6) ∧ lo = 0) → Pq (some (gI (prc (M 15 la.toNat) (M 16 la.toNat) (M 17 la.toNat) (M 19) (M 18 2) (M 7 t.toNat) (TW (M 7 t.toNat) (M 8 t.toNat) (M 9 t.toNat))))) M) : gCtr l my_X11_thinks mb_X11_thinks 4 ((some .int)) 6 [gR 0, gI la, gI t, gI lo] M Pq := by
  refine g_intro (by decide) (Nat.le_of_ble_eq_true rfl) ?_
  intro p e s m args below meth c D cy q A hK hr hlocks hw
  refine g_sub (L' := [(0, gR 0), (1, gI la), (2, gI t), (3, gI lo)]) [0, 1, 2, 3] rfl ?_
  refine g_aloadn (pc := 0) (i := 0) (x := 0) hK dd_X11_thinks_0 rfl rfl ?_
  refine g_getv (pc := 1) (f := (1, 5)) (j := 3) (v := gR 5) hK (kdm kd_0) rfl ef_11 (by decide) rfl kk_385 dd_X11_thinks_1 rfl ?_
  refine g_getv (pc := 4) (f := (1, 9)) (j := 1) (v := gR 14) hK (kdm kd_5) rfl ef_1 (by decide) rfl kk_262 dd_X11_thinks_4 rfl ?_
  refine g_iloadn (pc := 7) (i := 1) (x := la) hK dd_X11_thinks_7 rfl rfl ?_
  refine g_callV (pc := 8) (As := [gI la]) hK ws_X_177 md_X2_has ⟨Nat.zero_le _, Nat.zero_le _⟩ ⟨by decide, by decide⟩ (kdm kd_14) rfl rfl dd_X11_thinks_8 rfl rfl (Nat.le_of_ble_eq_true rfl) (c_has_14 la h_la (show 0 ≤ M 14 3 ∧ M 14 3 ≤ 5 by omega) (fun c1 => g_r1 ?_) (fun c1 => g_r1 ?_))
  · refine g_if_eq (pc := 11) (tgt := 28) hK dd_X11_thinks_11 (by decide) (by decide) (fun c2 => absurd c2 (by decide)) (fun _ => ?_)
    refine g_aloadn (pc := 14) (i := 0) (x := 0) hK dd_X11_thinks_14 rfl rfl ?_
    refine g_getv (pc := 15) (f := (1, 5)) (j := 3) (v := gR 5) hK (kdm kd_0) rfl ef_11 (by decide) rfl kk_385 dd_X11_thinks_15 rfl ?_
    refine g_getv (pc := 18) (f := (1, 1)) (j := 0) (v := gR 6) hK (kdm kd_5) rfl ef_1 (by decide) rfl kk_260 dd_X11_thinks_18 rfl ?_
    refine g_iloadn (pc := 21) (i := 2) (x := t) hK dd_X11_thinks_21 rfl rfl ?_
    refine g_callV (pc := 22) (As := [gI t]) hK ws_X_117 md_X10_has ⟨Nat.zero_le _, Nat.zero_le _⟩ ⟨by decide, by decide⟩ (kdm kd_6) rfl rfl dd_X11_thinks_22 rfl rfl (Nat.le_of_ble_eq_true rfl) (c_has10 t (show inI t by omega) (show 0 ≤ M 6 6 ∧ M 6 6 ≤ 30 by omega) (fun c3 => g_r1 ?_) (fun c3 => g_r1 ?_))
    · refine g_if_ne (pc := 25) (tgt := 35) hK dd_X11_thinks_25 (by decide) (by decide) (fun _ => ?_) (fun c4 => absurd (by decide) c4)
      refine g_iloadn (pc := 35) (i := 3) (x := lo) hK dd_X11_thinks_35 rfl rfl ?_
      refine g_if_eq (pc := 36) (tgt := 51) hK dd_X11_thinks_36 (by decide) h_lo (fun c5 => ?_) (fun c5 => ?_)
      · refine g_aloadn (pc := 51) (i := 0) (x := 0) hK dd_X11_thinks_51 rfl rfl ?_
        refine g_getv (pc := 52) (f := (1, 5)) (j := 3) (v := gR 5) hK (kdm kd_0) rfl ef_11 (by decide) rfl kk_385 dd_X11_thinks_52 rfl ?_
        refine g_iloadn (pc := 55) (i := 1) (x := la) hK dd_X11_thinks_55 rfl rfl ?_
        refine g_iloadn (pc := 56) (i := 2) (x := t) hK dd_X11_thinks_56 rfl rfl ?_
        refine g_callV (pc := 57) (As := [gI la, gI t]) hK ws_X_207 md_X1_priceBy ⟨Nat.zero_le _, Nat.zero_le _⟩ ⟨by decide, by decide⟩ (kdm kd_5) rfl rfl dd_X11_thinks_57 rfl rfl (Nat.le_of_ble_eq_true rfl) (c_priceBy la t (by omega) (by omega) (by omega) (by omega) hth hwc hla hlw (g_r1 ?_))
        refine g_topI (fun y6 ey6 => ?_)
        refine g_iret (pc := 60) hK hr hlocks dd_X11_thinks_60 rfl ?_
        first | exact g_fin (hB (by first | omega | (subst_vars; omega) | exact ⟨by first | assumption | omega | (subst_vars; first | assumption | omega), by first | assumption | omega | (subst_vars; first | assumption | omega)⟩)) (by first | rfl | omega | (subst_vars; first | rfl | omega)) (by first | rfl | (subst_vars; rfl)) | exact g_fin (hL (by first | omega | (subst_vars; omega) | exact ⟨by first | assumption | omega | (subst_vars; first | assumption | omega), by first | assumption | omega | (subst_vars; first | assumption | omega)⟩)) (by first | rfl | omega | (subst_vars; first | rfl | omega)) (by first | rfl | (subst_vars; rfl)) | exact g_fin (hP (by first | omega | (subst_vars; omega) | exact ⟨by first | assumption | omega | (subst_vars; first | assumption | omega), by first | assumption | omega | (subst_vars; first | assumption | omega)⟩)) (by first | rfl | omega | (subst_vars; first | rfl | omega)) (by first | rfl | (subst_vars; rfl)) | (exfalso; omega)
      · refine g_aloadn (pc := 39) (i := 0) (x := 0) hK dd_X11_thinks_39 rfl rfl ?_
        refine g_getv (pc := 40) (f := (1, 5)) (j := 3) (v := gR 5) hK (kdm kd_0) rfl ef_11 (by decide) rfl kk_385 dd_X11_thinks_40 rfl ?_
        refine g_iloadn (pc := 43) (i := 1) (x := la) hK dd_X11_thinks_43 rfl rfl ?_
        refine g_iloadn (pc := 44) (i := 2) (x := t) hK dd_X11_thinks_44 rfl rfl ?_
        refine g_callV (pc := 45) (As := [gI la, gI t]) hK ws_X_204 md_X1_lostOn ⟨Nat.zero_le _, Nat.zero_le _⟩ ⟨by decide, by decide⟩ (kdm kd_5) rfl rfl dd_X11_thinks_45 rfl rfl (Nat.le_of_ble_eq_true rfl) (c_lostOn la t (by omega) (by omega) (by omega) (by omega) hth hwc hla hlw (g_r1 ?_))
        refine g_topI (fun y7 ey7 => ?_)
        refine g_goto (pc := 48) (tgt := 60) hK dd_X11_thinks_48 (by decide) ?_
        refine g_iret (pc := 60) hK hr hlocks dd_X11_thinks_60 rfl ?_
        first | exact g_fin (hB (by first | omega | (subst_vars; omega) | exact ⟨by first | assumption | omega | (subst_vars; first | assumption | omega), by first | assumption | omega | (subst_vars; first | assumption | omega)⟩)) (by first | rfl | omega | (subst_vars; first | rfl | omega)) (by first | rfl | (subst_vars; rfl)) | exact g_fin (hL (by first | omega | (subst_vars; omega) | exact ⟨by first | assumption | omega | (subst_vars; first | assumption | omega), by first | assumption | omega | (subst_vars; first | assumption | omega)⟩)) (by first | rfl | omega | (subst_vars; first | rfl | omega)) (by first | rfl | (subst_vars; rfl)) | exact g_fin (hP (by first | omega | (subst_vars; omega) | exact ⟨by first | assumption | omega | (subst_vars; first | assumption | omega), by first | assumption | omega | (subst_vars; first | assumption | omega)⟩)) (by first | rfl | omega | (subst_vars; first | rfl | omega)) (by first | rfl | (subst_vars; rfl)) | (exfalso; omega)
    · refine g_if_ne (pc := 25) (tgt := 35) hK dd_X11_thinks_25 (by decide) (by decide) (fun c8 => absurd c8 (by decide)) (fun _ => ?_)
      refine g_aloadn (pc := 28) (i := 0) (x := 0) hK dd_X11_thinks_28 rfl rfl ?_
      refine g_bipush (pc := 29) (x := (-2)) hK dd_X11_thinks_29 (by decide) ?_
      refine g_callV (pc := 31) (As := [gI (-2)]) hK ws_X_63 md_X11_refuse ⟨Nat.zero_le _, Nat.zero_le _⟩ ⟨by decide, by decide⟩ (kdm kd_0) rfl rfl dd_X11_thinks_31 rfl rfl (Nat.le_of_ble_eq_true rfl) (c_refuse_0 hrf (g_r1 ?_))
      refine g_iret (pc := 34) hK hr hlocks dd_X11_thinks_34 rfl ?_
      first | exact g_fin (hB (by first | omega | (subst_vars; omega) | exact ⟨by first | assumption | omega | (subst_vars; first | assumption | omega), by first | assumption | omega | (subst_vars; first | assumption | omega)⟩)) (by first | rfl | omega | (subst_vars; first | rfl | omega)) (by first | rfl | (subst_vars; rfl)) | exact g_fin (hL (by first | omega | (subst_vars; omega) | exact ⟨by first | assumption | omega | (subst_vars; first | assumption | omega), by first | assumption | omega | (subst_vars; first | assumption | omega)⟩)) (by first | rfl | omega | (subst_vars; first | rfl | omega)) (by first | rfl | (subst_vars; rfl)) | exact g_fin (hP (by first | omega | (subst_vars; omega) | exact ⟨by first | assumption | omega | (subst_vars; first | assumption | omega), by first | assumption | omega | (subst_vars; first | assumption | omega)⟩)) (by first | rfl | omega | (subst_vars; first | rfl | omega)) (by first | rfl | (subst_vars; rfl)) | (exfalso; omega)
  · refine g_if_eq (pc := 11) (tgt := 28) hK dd_X11_thinks_11 (by decide) (by decide) (fun _ => ?_) (fun c9 => absurd (by decide) c9)
    refine g_aloadn (pc := 28) (i := 0) (x := 0) hK dd_X11_thinks_28 rfl rfl ?_
    refine g_bipush (pc := 29) (x := (-2)) hK dd_X11_thinks_29 (by decide) ?_
    refine g_callV (pc := 31) (As := [gI (-2)]) hK ws_X_63 md_X11_refuse ⟨Nat.zero_le _, Nat.zero_le _⟩ ⟨by decide, by decide⟩ (kdm kd_0) rfl rfl dd_X11_thinks_31 rfl rfl (Nat.le_of_ble_eq_true rfl) (c_refuse_0 hrf (g_r1 ?_))
    refine g_iret (pc := 34) hK hr hlocks dd_X11_thinks_34 rfl ?_
    first | exact g_fin (hB (by first | omega | (subst_vars; omega) | exact ⟨by first | assumption | omega | (subst_vars; first | assumption | omega), by first | assumption | omega | (subst_vars; first | assumption | omega)⟩)) (by first | rfl | omega | (subst_vars; first | rfl | omega)) (by first | rfl | (subst_vars; rfl)) | exact g_fin (hL (by first | omega | (subst_vars; omega) | exact ⟨by first | assumption | omega | (subst_vars; first | assumption | omega), by first | assumption | omega | (subst_vars; first | assumption | omega)⟩)) (by first | rfl | omega | (subst_vars; first | rfl | omega)) (by first | rfl | (subst_vars; rfl)) | exact g_fin (hP (by first | omega | (subst_vars; omega) | exact ⟨by first | assumption | omega | (subst_vars; first | assumption | omega), by first | assumption | omega | (subst_vars; first | assumption | omega)⟩)) (by first | rfl | omega | (subst_vars; first | rfl | omega)) (by first | rfl | (subst_vars; rfl)) | (exfalso; omega)
set_option maxHeartbeats 4000000 in
set_option maxRecDepth 100000 in
theorem x_price {l : Launch} {M : Mem} {Pq : Option gV → Mem → Prop} (la : Int) (ks : Int) (h_la : inI la) (h_ks : inI ks) (hrf : rfOK M) (hc : 0 ≤ M 6 6 ∧ M 6 6 ≤ 30) (hlc : 0 ≤ M 14 3 ∧ M 14 3 ≤ 5) (hth : thOK M) (hwc : 0 ≤ M 18 2 ∧ M 18 2 ≤ 6) (hla : laOK M) (hlw : lwOK (M 19) (M 18 2)) (hB : (¬ ((0 ≤ la ∧ la < M 14 3) ∧ 0 ≤ ks ∧ ks ≤ 63)) → Pq (some (gI (-2))) (rf M 0)) (hY : ((0 ≤ la ∧ la < M 14 3) ∧ 0 ≤ ks ∧ ks ≤ 63) → Pq (some (gI (prN (M 7) (M 10) ks (M 6 6).toNat))) (sr M 10 (prR (M 7) (M 8) (M 9) (M 10) (M 15 la.toNat) (M 16 la.toNat) (M 17 la.toNat) (M 19) (M 18 2) ks (M 6 6).toNat))) : gCtr l my_X11_price mb_X11_price 3 ((some .int)) 7 [gR 0, gI la, gI ks] M Pq := by
  refine g_intro (by decide) (Nat.le_of_ble_eq_true rfl) ?_
  intro p e s m args below meth c D cy q A hK hr hlocks hw
  refine g_sub (L' := [(0, gR 0), (1, gI la), (2, gI ks)]) [0, 1, 2] rfl ?_
  refine g_aloadn (pc := 0) (i := 0) (x := 0) hK dd_X11_price_0 rfl rfl ?_
  refine g_getv (pc := 1) (f := (1, 5)) (j := 3) (v := gR 5) hK (kdm kd_0) rfl ef_11 (by decide) rfl kk_385 dd_X11_price_1 rfl ?_
  refine g_getv (pc := 4) (f := (1, 9)) (j := 1) (v := gR 14) hK (kdm kd_5) rfl ef_1 (by decide) rfl kk_262 dd_X11_price_4 rfl ?_
  refine g_iloadn (pc := 7) (i := 1) (x := la) hK dd_X11_price_7 rfl rfl ?_
  refine g_callV (pc := 8) (As := [gI la]) hK ws_X_177 md_X2_has ⟨Nat.zero_le _, Nat.zero_le _⟩ ⟨by decide, by decide⟩ (kdm kd_14) rfl rfl dd_X11_price_8 rfl rfl (Nat.le_of_ble_eq_true rfl) (c_has_14 la h_la (show 0 ≤ M 14 3 ∧ M 14 3 ≤ 5 by omega) (fun c1 => g_r1 ?_) (fun c1 => g_r1 ?_))
  · refine g_if_eq (pc := 11) (tgt := 21) hK dd_X11_price_11 (by decide) (by decide) (fun c2 => absurd c2 (by decide)) (fun _ => ?_)
    refine g_iloadn (pc := 14) (i := 2) (x := ks) hK dd_X11_price_14 rfl rfl ?_
    refine g_callT (pc := 15) (As := [gI ks]) hK ws_X_165 md_X11_isKinds ⟨Nat.zero_le _, Nat.zero_le _⟩ ⟨by decide, by decide⟩ dd_X11_price_15 rfl rfl (Nat.le_of_ble_eq_true rfl) (c_isKinds ks h_ks (fun c3 => g_r1 ?_) (fun c3 => g_r1 ?_))
    · refine g_if_ne (pc := 18) (tgt := 28) hK dd_X11_price_18 (by decide) (by decide) (fun _ => ?_) (fun c4 => absurd (by decide) c4)
      refine g_aloadn (pc := 28) (i := 0) (x := 0) hK dd_X11_price_28 rfl rfl ?_
      refine g_getv (pc := 29) (f := (1, 5)) (j := 3) (v := gR 5) hK (kdm kd_0) rfl ef_11 (by decide) rfl kk_385 dd_X11_price_29 rfl ?_
      refine g_iloadn (pc := 32) (i := 1) (x := la) hK dd_X11_price_32 rfl rfl ?_
      refine g_iloadn (pc := 33) (i := 2) (x := ks) hK dd_X11_price_33 rfl rfl ?_
      refine g_callV (pc := 34) (As := [gI la, gI ks]) hK ws_X_210 md_X1_priceAll ⟨Nat.zero_le _, Nat.zero_le _⟩ ⟨by decide, by decide⟩ (kdm kd_5) rfl rfl dd_X11_price_34 rfl rfl (Nat.le_of_ble_eq_true rfl) (c_priceAll la ks (by omega) (by omega) hc hth hwc hla hlw (g_r1 ?_))
      refine g_topI (fun y5 ey5 => ?_)
      refine g_iret (pc := 37) hK hr hlocks dd_X11_price_37 rfl ?_
      first | exact g_fin (hB (by first | omega | (subst_vars; omega) | exact ⟨by first | assumption | omega | (subst_vars; first | assumption | omega), by first | assumption | omega | (subst_vars; first | assumption | omega)⟩)) (by first | rfl | omega | (subst_vars; first | rfl | omega)) (by first | rfl | (subst_vars; rfl)) | exact g_fin (hY (by first | omega | (subst_vars; omega) | exact ⟨by first | assumption | omega | (subst_vars; first | assumption | omega), by first | assumption | omega | (subst_vars; first | assumption | omega)⟩)) (by first | rfl | omega | (subst_vars; first | rfl | omega)) (by first | rfl | (subst_vars; rfl)) | (exfalso; omega)
    · refine g_if_ne (pc := 18) (tgt := 28) hK dd_X11_price_18 (by decide) (by decide) (fun c6 => absurd c6 (by decide)) (fun _ => ?_)
      refine g_aloadn (pc := 21) (i := 0) (x := 0) hK dd_X11_price_21 rfl rfl ?_
      refine g_bipush (pc := 22) (x := (-2)) hK dd_X11_price_22 (by decide) ?_
      refine g_callV (pc := 24) (As := [gI (-2)]) hK ws_X_63 md_X11_refuse ⟨Nat.zero_le _, Nat.zero_le _⟩ ⟨by decide, by decide⟩ (kdm kd_0) rfl rfl dd_X11_price_24 rfl rfl (Nat.le_of_ble_eq_true rfl) (c_refuse_0 hrf (g_r1 ?_))
      refine g_iret (pc := 27) hK hr hlocks dd_X11_price_27 rfl ?_
      first | exact g_fin (hB (by first | omega | (subst_vars; omega) | exact ⟨by first | assumption | omega | (subst_vars; first | assumption | omega), by first | assumption | omega | (subst_vars; first | assumption | omega)⟩)) (by first | rfl | omega | (subst_vars; first | rfl | omega)) (by first | rfl | (subst_vars; rfl)) | exact g_fin (hY (by first | omega | (subst_vars; omega) | exact ⟨by first | assumption | omega | (subst_vars; first | assumption | omega), by first | assumption | omega | (subst_vars; first | assumption | omega)⟩)) (by first | rfl | omega | (subst_vars; first | rfl | omega)) (by first | rfl | (subst_vars; rfl)) | (exfalso; omega)
  · refine g_if_eq (pc := 11) (tgt := 21) hK dd_X11_price_11 (by decide) (by decide) (fun _ => ?_) (fun c7 => absurd (by decide) c7)
    refine g_aloadn (pc := 21) (i := 0) (x := 0) hK dd_X11_price_21 rfl rfl ?_
    refine g_bipush (pc := 22) (x := (-2)) hK dd_X11_price_22 (by decide) ?_
    refine g_callV (pc := 24) (As := [gI (-2)]) hK ws_X_63 md_X11_refuse ⟨Nat.zero_le _, Nat.zero_le _⟩ ⟨by decide, by decide⟩ (kdm kd_0) rfl rfl dd_X11_price_24 rfl rfl (Nat.le_of_ble_eq_true rfl) (c_refuse_0 hrf (g_r1 ?_))
    refine g_iret (pc := 27) hK hr hlocks dd_X11_price_27 rfl ?_
    first | exact g_fin (hB (by first | omega | (subst_vars; omega) | exact ⟨by first | assumption | omega | (subst_vars; first | assumption | omega), by first | assumption | omega | (subst_vars; first | assumption | omega)⟩)) (by first | rfl | omega | (subst_vars; first | rfl | omega)) (by first | rfl | (subst_vars; rfl)) | exact g_fin (hY (by first | omega | (subst_vars; omega) | exact ⟨by first | assumption | omega | (subst_vars; first | assumption | omega), by first | assumption | omega | (subst_vars; first | assumption | omega)⟩)) (by first | rfl | omega | (subst_vars; first | rfl | omega)) (by first | rfl | (subst_vars; rfl)) | (exfalso; omega)
set_option maxHeartbeats 4000000 in
set_option maxRecDepth 100000 in
theorem x_loses {l : Launch} {M : Mem} {Pq : Option gV → Mem → Prop} (la : Int) (ks : Int) (h_la : inI la) (h_ks : inI ks) (hrf : rfOK M) (hc : 0 ≤ M 6 6 ∧ M 6 6 ≤ 30) (hlc : 0 ≤ M 14 3 ∧ M 14 3 ≤ 5) (hth : thOK M) (hwc : 0 ≤ M 18 2 ∧ M 18 2 ≤ 6) (hla : laOK M) (hlw : lwOK (M 19) (M 18 2)) (hB : (¬ ((0 ≤ la ∧ la < M 14 3) ∧ 0 ≤ ks ∧ ks ≤ 63)) → Pq (some (gI (-2))) (rf M 0)) (hY : ((0 ≤ la ∧ la < M 14 3) ∧ 0 ≤ ks ∧ ks ≤ 63) → Pq (some (gI (losK (M 7) (M 8) (M 9) (M 15 la.toNat) (M 16 la.toNat) (M 17 la.toNat) (M 19) (M 18 2) ks (M 6 6).toNat))) M) : gCtr l my_X11_loses mb_X11_loses 3 ((some .int)) 7 [gR 0, gI la, gI ks] M Pq := by
  refine g_intro (by decide) (Nat.le_of_ble_eq_true rfl) ?_
  intro p e s m args below meth c D cy q A hK hr hlocks hw
  refine g_sub (L' := [(0, gR 0), (1, gI la), (2, gI ks)]) [0, 1, 2] rfl ?_
  refine g_aloadn (pc := 0) (i := 0) (x := 0) hK dd_X11_loses_0 rfl rfl ?_
  refine g_getv (pc := 1) (f := (1, 5)) (j := 3) (v := gR 5) hK (kdm kd_0) rfl ef_11 (by decide) rfl kk_385 dd_X11_loses_1 rfl ?_
  refine g_getv (pc := 4) (f := (1, 9)) (j := 1) (v := gR 14) hK (kdm kd_5) rfl ef_1 (by decide) rfl kk_262 dd_X11_loses_4 rfl ?_
  refine g_iloadn (pc := 7) (i := 1) (x := la) hK dd_X11_loses_7 rfl rfl ?_
  refine g_callV (pc := 8) (As := [gI la]) hK ws_X_177 md_X2_has ⟨Nat.zero_le _, Nat.zero_le _⟩ ⟨by decide, by decide⟩ (kdm kd_14) rfl rfl dd_X11_loses_8 rfl rfl (Nat.le_of_ble_eq_true rfl) (c_has_14 la h_la (show 0 ≤ M 14 3 ∧ M 14 3 ≤ 5 by omega) (fun c1 => g_r1 ?_) (fun c1 => g_r1 ?_))
  · refine g_if_eq (pc := 11) (tgt := 21) hK dd_X11_loses_11 (by decide) (by decide) (fun c2 => absurd c2 (by decide)) (fun _ => ?_)
    refine g_iloadn (pc := 14) (i := 2) (x := ks) hK dd_X11_loses_14 rfl rfl ?_
    refine g_callT (pc := 15) (As := [gI ks]) hK ws_X_165 md_X11_isKinds ⟨Nat.zero_le _, Nat.zero_le _⟩ ⟨by decide, by decide⟩ dd_X11_loses_15 rfl rfl (Nat.le_of_ble_eq_true rfl) (c_isKinds ks h_ks (fun c3 => g_r1 ?_) (fun c3 => g_r1 ?_))
    · refine g_if_ne (pc := 18) (tgt := 28) hK dd_X11_loses_18 (by decide) (by decide) (fun _ => ?_) (fun c4 => absurd (by decide) c4)
      refine g_aloadn (pc := 28) (i := 0) (x := 0) hK dd_X11_loses_28 rfl rfl ?_
      refine g_getv (pc := 29) (f := (1, 5)) (j := 3) (v := gR 5) hK (kdm kd_0) rfl ef_11 (by decide) rfl kk_385 dd_X11_loses_29 rfl ?_
      refine g_iloadn (pc := 32) (i := 1) (x := la) hK dd_X11_loses_32 rfl rfl ?_
      refine g_iloadn (pc := 33) (i := 2) (x := ks) hK dd_X11_loses_33 rfl rfl ?_
      refine g_callV (pc := 34) (As := [gI la, gI ks]) hK ws_X_279 md_X1_lostOnKinds ⟨Nat.zero_le _, Nat.zero_le _⟩ ⟨by decide, by decide⟩ (kdm kd_5) rfl rfl dd_X11_loses_34 rfl rfl (Nat.le_of_ble_eq_true rfl) (c_lostOnKinds la ks (by omega) (by omega) hc hth hwc hla hlw (g_r1 ?_))
      refine g_topI (fun y5 ey5 => ?_)
      refine g_iret (pc := 37) hK hr hlocks dd_X11_loses_37 rfl ?_
      first | exact g_fin (hB (by first | omega | (subst_vars; omega) | exact ⟨by first | assumption | omega | (subst_vars; first | assumption | omega), by first | assumption | omega | (subst_vars; first | assumption | omega)⟩)) (by first | rfl | omega | (subst_vars; first | rfl | omega)) (by first | rfl | (subst_vars; rfl)) | exact g_fin (hY (by first | omega | (subst_vars; omega) | exact ⟨by first | assumption | omega | (subst_vars; first | assumption | omega), by first | assumption | omega | (subst_vars; first | assumption | omega)⟩)) (by first | rfl | omega | (subst_vars; first | rfl | omega)) (by first | rfl | (subst_vars; rfl)) | (exfalso; omega)
    · refine g_if_ne (pc := 18) (tgt := 28) hK dd_X11_loses_18 (by decide) (by decide) (fun c6 => absurd c6 (by decide)) (fun _ => ?_)
      refine g_aloadn (pc := 21) (i := 0) (x := 0) hK dd_X11_loses_21 rfl rfl ?_
      refine g_bipush (pc := 22) (x := (-2)) hK dd_X11_loses_22 (by decide) ?_
      refine g_callV (pc := 24) (As := [gI (-2)]) hK ws_X_63 md_X11_refuse ⟨Nat.zero_le _, Nat.zero_le _⟩ ⟨by decide, by decide⟩ (kdm kd_0) rfl rfl dd_X11_loses_24 rfl rfl (Nat.le_of_ble_eq_true rfl) (c_refuse_0 hrf (g_r1 ?_))
      refine g_iret (pc := 27) hK hr hlocks dd_X11_loses_27 rfl ?_
      first | exact g_fin (hB (by first | omega | (subst_vars; omega) | exact ⟨by first | assumption | omega | (subst_vars; first | assumption | omega), by first | assumption | omega | (subst_vars; first | assumption | omega)⟩)) (by first | rfl | omega | (subst_vars; first | rfl | omega)) (by first | rfl | (subst_vars; rfl)) | exact g_fin (hY (by first | omega | (subst_vars; omega) | exact ⟨by first | assumption | omega | (subst_vars; first | assumption | omega), by first | assumption | omega | (subst_vars; first | assumption | omega)⟩)) (by first | rfl | omega | (subst_vars; first | rfl | omega)) (by first | rfl | (subst_vars; rfl)) | (exfalso; omega)
  · refine g_if_eq (pc := 11) (tgt := 21) hK dd_X11_loses_11 (by decide) (by decide) (fun _ => ?_) (fun c7 => absurd (by decide) c7)
    refine g_aloadn (pc := 21) (i := 0) (x := 0) hK dd_X11_loses_21 rfl rfl ?_
    refine g_bipush (pc := 22) (x := (-2)) hK dd_X11_loses_22 (by decide) ?_
    refine g_callV (pc := 24) (As := [gI (-2)]) hK ws_X_63 md_X11_refuse ⟨Nat.zero_le _, Nat.zero_le _⟩ ⟨by decide, by decide⟩ (kdm kd_0) rfl rfl dd_X11_loses_24 rfl rfl (Nat.le_of_ble_eq_true rfl) (c_refuse_0 hrf (g_r1 ?_))
    refine g_iret (pc := 27) hK hr hlocks dd_X11_loses_27 rfl ?_
    first | exact g_fin (hB (by first | omega | (subst_vars; omega) | exact ⟨by first | assumption | omega | (subst_vars; first | assumption | omega), by first | assumption | omega | (subst_vars; first | assumption | omega)⟩)) (by first | rfl | omega | (subst_vars; first | rfl | omega)) (by first | rfl | (subst_vars; rfl)) | exact g_fin (hY (by first | omega | (subst_vars; omega) | exact ⟨by first | assumption | omega | (subst_vars; first | assumption | omega), by first | assumption | omega | (subst_vars; first | assumption | omega)⟩)) (by first | rfl | omega | (subst_vars; first | rfl | omega)) (by first | rfl | (subst_vars; rfl)) | (exfalso; omega)
set_option maxHeartbeats 4000000 in
set_option maxRecDepth 100000 in
theorem d_priceBy {l : Launch} {M : Mem} {Pq : Option gV → Mem → Prop} (la : Int) (t : Int) (a1 : 0 ≤ la) (a2 : la < M 200 10) (h1 : 0 ≤ t) (h2 : t < 30) (hmlc : 0 ≤ M 200 10 ∧ M 200 10 ≤ 5) (hmwc : 0 ≤ M 200 14 ∧ M 200 14 ≤ 6) (hthm : thOKm M) (hlam : laOKm M) (hlwm : lwOK (M 216) (M 200 14)) (hQ : Pq (some (gI (prc (M 212 la.toNat) (M 213 la.toNat) (M 214 la.toNat) (M 216) (M 200 14) (M 205 t.toNat) (TW (M 205 t.toNat) (M 206 t.toNat) (M 207 t.toNat))))) M) : gCtr l my_X12_priceBy mb_X12_priceBy 10 ((some .int)) 4 [gR 200, gI la, gI t] M Pq := by
  refine g_intro (by decide) (Nat.le_of_ble_eq_true rfl) ?_
  intro p e s m args below meth c D cy q A hK hr hlocks hw
  refine g_sub (L' := [(0, gR 200), (1, gI la), (2, gI t)]) [0, 1, 2] rfl ?_
  have htw := TW_in (M 205 t.toNat) (M 207 t.toNat) (hthm t.toNat (by omega)).2.1.1 (hthm t.toNat (by omega)).2.1.2
  have hla_ := hlam la.toNat (by omega)
  have hg := hla_.2.1
  have hlw_ := hla_.2.2 (by omega)
  have hl_ := lpt_rng hlwm (M 214 la.toNat)
  refine g_aloadn (pc := 0) (i := 0) (x := 200) hK dd_X12_priceBy_0 rfl rfl ?_
  refine g_getv (pc := 1) (f := (1, 14)) (j := 13) (v := gR 214) hK (kdm kd_200) rfl ef_12 (by decide) rfl kk_1114 dd_X12_priceBy_1 rfl ?_
  refine g_iloadn (pc := 4) (i := 1) (x := la) hK dd_X12_priceBy_4 rfl rfl ?_
  refine g_iald (pc := 5) hK (kdm kd_214) nl_214 (by decide) dd_X12_priceBy_5 (by omega) (by omega) (fun x1 ex1 rx1 => ?_)
  refine g_istoren (pc := 6) (i := 3) (L' := [(0, gR 200), (1, gI la), (2, gI t), (3, gI x1)]) hK dd_X12_priceBy_6 rfl (by decide) rfl ?_
  refine g_iloadn (pc := 7) (i := 3) (x := x1) hK dd_X12_priceBy_7 rfl rfl ?_
  refine g_if_ge (pc := 8) (tgt := 16) hK dd_X12_priceBy_8 (by decide) rx1 (fun c2 => ?_) (fun c2 => ?_)
  · refine g_aloadn (pc := 16) (i := 0) (x := 200) hK dd_X12_priceBy_16 rfl rfl ?_
    refine g_getv (pc := 17) (f := (1, 16)) (j := 15) (v := gR 216) hK (kdm kd_200) rfl ef_12 (by decide) rfl kk_1116 dd_X12_priceBy_17 rfl ?_
    refine g_iconst (pc := 20) (x := 5) hK dd_X12_priceBy_20 (by decide) ?_
    refine g_iloadn (pc := 21) (i := 3) (x := x1) hK dd_X12_priceBy_21 rfl rfl ?_
    refine g_imul (pc := 22) (z := 5 * x1) hK dd_X12_priceBy_22 rfl ?_
    refine g_iald (pc := 23) hK (kdm kd_216) nl_216 (by decide) dd_X12_priceBy_23 (by omega) (by omega) (fun x3 ex3 rx3 => ?_)
    have hl0_ : x3 = lpt (M 216) (M 200 14) (M 214 la.toNat) 0 := by first | (rw [lpt_1 (by omega)]; subst_vars; (first | rfl | (congr 1; omega))) | (rw [lpt_0 (by omega)]; rfl)
    rw [hl0_]
    refine g_topI (fun l0 el0 => ?_)
    clear hl0_
    rw [← el0] at hl_
    refine g_istore (pc := 24) (i := 4) (L' := [(0, gR 200), (1, gI la), (2, gI t), (3, gI x1), (4, gI l0)]) hK dd_X12_priceBy_24 (by decide) rfl ?_
    refine g_iloadn (pc := 26) (i := 3) (x := x1) hK dd_X12_priceBy_26 rfl rfl ?_
    refine g_if_ge (pc := 27) (tgt := 35) hK dd_X12_priceBy_27 (by decide) rx1 (fun c4 => ?_) (fun c4 => absurd c4 (by omega))
    refine g_aloadn (pc := 35) (i := 0) (x := 200) hK dd_X12_priceBy_35 rfl rfl ?_
    refine g_getv (pc := 36) (f := (1, 16)) (j := 15) (v := gR 216) hK (kdm kd_200) rfl ef_12 (by decide) rfl kk_1116 dd_X12_priceBy_36 rfl ?_
    refine g_iconst (pc := 39) (x := 5) hK dd_X12_priceBy_39 (by decide) ?_
    refine g_iloadn (pc := 40) (i := 3) (x := x1) hK dd_X12_priceBy_40 rfl rfl ?_
    refine g_imul (pc := 41) (z := 5 * x1) hK dd_X12_priceBy_41 rfl ?_
    refine g_iconst (pc := 42) (x := 1) hK dd_X12_priceBy_42 (by decide) ?_
    refine g_iadd (pc := 43) (z := (5 * x1) + 1) hK dd_X12_priceBy_43 rfl ?_
    refine g_iald (pc := 44) hK (kdm kd_216) nl_216 (by decide) dd_X12_priceBy_44 (by omega) (by omega) (fun x5 ex5 rx5 => ?_)
    have hl1_ : x5 = lpt (M 216) (M 200 14) (M 214 la.toNat) 1 := by first | (rw [lpt_1 (by omega)]; subst_vars; (first | rfl | (congr 1; omega))) | (rw [lpt_0 (by omega)]; rfl)
    rw [hl1_]
    refine g_topI (fun l1 el1 => ?_)
    clear hl1_
    rw [← el1] at hl_
    refine g_istore (pc := 45) (i := 5) (L' := [(0, gR 200), (1, gI la), (2, gI t), (3, gI x1), (4, gI l0), (5, gI l1)]) hK dd_X12_priceBy_45 (by decide) rfl ?_
    refine g_iloadn (pc := 47) (i := 3) (x := x1) hK dd_X12_priceBy_47 rfl rfl ?_
    refine g_if_ge (pc := 48) (tgt := 55) hK dd_X12_priceBy_48 (by decide) rx1 (fun c6 => ?_) (fun c6 => absurd c6 (by omega))
    refine g_aloadn (pc := 55) (i := 0) (x := 200) hK dd_X12_priceBy_55 rfl rfl ?_
    refine g_getv (pc := 56) (f := (1, 16)) (j := 15) (v := gR 216) hK (kdm kd_200) rfl ef_12 (by decide) rfl kk_1116 dd_X12_priceBy_56 rfl ?_
    refine g_iconst (pc := 59) (x := 5) hK dd_X12_priceBy_59 (by decide) ?_
    refine g_iloadn (pc := 60) (i := 3) (x := x1) hK dd_X12_priceBy_60 rfl rfl ?_
    refine g_imul (pc := 61) (z := 5 * x1) hK dd_X12_priceBy_61 rfl ?_
    refine g_iconst (pc := 62) (x := 2) hK dd_X12_priceBy_62 (by decide) ?_
    refine g_iadd (pc := 63) (z := (5 * x1) + 2) hK dd_X12_priceBy_63 rfl ?_
    refine g_iald (pc := 64) hK (kdm kd_216) nl_216 (by decide) dd_X12_priceBy_64 (by omega) (by omega) (fun x7 ex7 rx7 => ?_)
    have hl2_ : x7 = lpt (M 216) (M 200 14) (M 214 la.toNat) 2 := by first | (rw [lpt_1 (by omega)]; subst_vars; (first | rfl | (congr 1; omega))) | (rw [lpt_0 (by omega)]; rfl)
    rw [hl2_]
    refine g_topI (fun l2 el2 => ?_)
    clear hl2_
    rw [← el2] at hl_
    refine g_istore (pc := 65) (i := 6) (L' := [(0, gR 200), (1, gI la), (2, gI t), (3, gI x1), (4, gI l0), (5, gI l1), (6, gI l2)]) hK dd_X12_priceBy_65 (by decide) rfl ?_
    refine g_iloadn (pc := 67) (i := 3) (x := x1) hK dd_X12_priceBy_67 rfl rfl ?_
    refine g_if_ge (pc := 68) (tgt := 75) hK dd_X12_priceBy_68 (by decide) rx1 (fun c8 => ?_) (fun c8 => absurd c8 (by omega))
    refine g_aloadn (pc := 75) (i := 0) (x := 200) hK dd_X12_priceBy_75 rfl rfl ?_
    refine g_getv (pc := 76) (f := (1, 16)) (j := 15) (v := gR 216) hK (kdm kd_200) rfl ef_12 (by decide) rfl kk_1116 dd_X12_priceBy_76 rfl ?_
    refine g_iconst (pc := 79) (x := 5) hK dd_X12_priceBy_79 (by decide) ?_
    refine g_iloadn (pc := 80) (i := 3) (x := x1) hK dd_X12_priceBy_80 rfl rfl ?_
    refine g_imul (pc := 81) (z := 5 * x1) hK dd_X12_priceBy_81 rfl ?_
    refine g_iconst (pc := 82) (x := 3) hK dd_X12_priceBy_82 (by decide) ?_
    refine g_iadd (pc := 83) (z := (5 * x1) + 3) hK dd_X12_priceBy_83 rfl ?_
    refine g_iald (pc := 84) hK (kdm kd_216) nl_216 (by decide) dd_X12_priceBy_84 (by omega) (by omega) (fun x9 ex9 rx9 => ?_)
    have hl3_ : x9 = lpt (M 216) (M 200 14) (M 214 la.toNat) 3 := by first | (rw [lpt_1 (by omega)]; subst_vars; (first | rfl | (congr 1; omega))) | (rw [lpt_0 (by omega)]; rfl)
    rw [hl3_]
    refine g_topI (fun l3 el3 => ?_)
    clear hl3_
    rw [← el3] at hl_
    refine g_istore (pc := 85) (i := 7) (L' := [(0, gR 200), (1, gI la), (2, gI t), (3, gI x1), (4, gI l0), (5, gI l1), (6, gI l2), (7, gI l3)]) hK dd_X12_priceBy_85 (by decide) rfl ?_
    refine g_iloadn (pc := 87) (i := 3) (x := x1) hK dd_X12_priceBy_87 rfl rfl ?_
    refine g_if_ge (pc := 88) (tgt := 97) hK dd_X12_priceBy_88 (by decide) rx1 (fun c10 => ?_) (fun c10 => absurd c10 (by omega))
    refine g_aloadn (pc := 97) (i := 0) (x := 200) hK dd_X12_priceBy_97 rfl rfl ?_
    refine g_getv (pc := 98) (f := (1, 16)) (j := 15) (v := gR 216) hK (kdm kd_200) rfl ef_12 (by decide) rfl kk_1116 dd_X12_priceBy_98 rfl ?_
    refine g_iconst (pc := 101) (x := 5) hK dd_X12_priceBy_101 (by decide) ?_
    refine g_iloadn (pc := 102) (i := 3) (x := x1) hK dd_X12_priceBy_102 rfl rfl ?_
    refine g_imul (pc := 103) (z := 5 * x1) hK dd_X12_priceBy_103 rfl ?_
    refine g_iconst (pc := 104) (x := 4) hK dd_X12_priceBy_104 (by decide) ?_
    refine g_iadd (pc := 105) (z := (5 * x1) + 4) hK dd_X12_priceBy_105 rfl ?_
    refine g_iald (pc := 106) hK (kdm kd_216) nl_216 (by decide) dd_X12_priceBy_106 (by omega) (by omega) (fun x11 ex11 rx11 => ?_)
    have hl4_ : x11 = lpt (M 216) (M 200 14) (M 214 la.toNat) 4 := by first | (rw [lpt_1 (by omega)]; subst_vars; (first | rfl | (congr 1; omega))) | (rw [lpt_0 (by omega)]; rfl)
    rw [hl4_]
    refine g_topI (fun l4 el4 => ?_)
    clear hl4_
    rw [← el4] at hl_
    refine g_istore (pc := 107) (i := 8) (L' := [(0, gR 200), (1, gI la), (2, gI t), (3, gI x1), (4, gI l0), (5, gI l1), (6, gI l2), (7, gI l3), (8, gI l4)]) hK dd_X12_priceBy_107 (by decide) rfl ?_
    refine g_aloadn (pc := 109) (i := 0) (x := 200) hK dd_X12_priceBy_109 rfl rfl ?_
    refine g_aloadn (pc := 110) (i := 0) (x := 200) hK dd_X12_priceBy_110 rfl rfl ?_
    refine g_getv (pc := 111) (f := (1, 12)) (j := 11) (v := gR 212) hK (kdm kd_200) rfl ef_12 (by decide) rfl kk_1112 dd_X12_priceBy_111 rfl ?_
    refine g_iloadn (pc := 114) (i := 1) (x := la) hK dd_X12_priceBy_114 rfl rfl ?_
    refine g_iald (pc := 115) hK (kdm kd_212) nl_212 (by decide) dd_X12_priceBy_115 (by omega) (by omega) (fun x12 ex12 rx12 => ?_)
    refine g_aloadn (pc := 116) (i := 0) (x := 200) hK dd_X12_priceBy_116 rfl rfl ?_
    refine g_getv (pc := 117) (f := (1, 5)) (j := 4) (v := gR 205) hK (kdm kd_200) rfl ef_12 (by decide) rfl kk_1105 dd_X12_priceBy_117 rfl ?_
    refine g_iloadn (pc := 120) (i := 2) (x := t) hK dd_X12_priceBy_120 rfl rfl ?_
    refine g_iald (pc := 121) hK (kdm kd_205) nl_205 (by decide) dd_X12_priceBy_121 (by omega) (by omega) (fun x13 ex13 rx13 => ?_)
    refine g_callV (pc := 122) (As := [gI x12, gI x13]) hK ws_M_181 md_X12_isOf ⟨Nat.zero_le _, Nat.zero_le _⟩ ⟨by decide, by decide⟩ (kdm kd_200) rfl rfl dd_X12_priceBy_122 rfl rfl (Nat.le_of_ble_eq_true rfl) (d_isOf x12 x13 (fun c14 => g_r1 ?_) (fun c14 => g_r1 ?_))
    · refine g_if_eq (pc := 125) (tgt := 142) hK dd_X12_priceBy_125 (by decide) (by decide) (fun c15 => absurd c15 (by decide)) (fun _ => ?_)
      refine g_iload (pc := 128) (i := 4) (x := l0) hK dd_X12_priceBy_128 rfl ?_
      refine g_aloadn (pc := 130) (i := 0) (x := 200) hK dd_X12_priceBy_130 rfl rfl ?_
      refine g_iloadn (pc := 131) (i := 2) (x := t) hK dd_X12_priceBy_131 rfl rfl ?_
      refine g_callV (pc := 132) (As := [gI t]) hK ws_M_175 md_X12_trueWorth ⟨Nat.zero_le _, Nat.zero_le _⟩ ⟨by decide, by decide⟩ (kdm kd_200) rfl rfl dd_X12_priceBy_132 rfl rfl (Nat.le_of_ble_eq_true rfl) (d_trueWorth t (by omega) (by omega) hthm (g_r1 ?_))
      refine g_topI (fun y16 ey16 => ?_)
      have hm_ := mul0 200 1049 (a := l0) (b := y16) (by omega) (by omega) (by omega) (by omega)
      refine g_imul (pc := 135) (z := l0 * y16) hK dd_X12_priceBy_135 rfl ?_
      refine g_bipush (pc := 136) (x := 100) hK dd_X12_priceBy_136 (by decide) ?_
      refine g_idiv (pc := 138) (z := (l0 * y16).tdiv 100) hK dd_X12_priceBy_138 ⟨by omega, by omega⟩ (by decide) (by decide) rfl ?_
      refine g_goto (pc := 139) (tgt := 154) hK dd_X12_priceBy_139 (by decide) ?_
      have hg0_ : (l0 * y16).tdiv 100 = pr0 (M 212 la.toNat) (M 213 la.toNat) l0 l1 (M 205 t.toNat) (TW (M 205 t.toNat) (M 206 t.toNat) (M 207 t.toNat)) := by unfold pr0; subst_vars; first | rw [if_pos (by assumption)] | rw [if_neg (by assumption)]
      rw [hg0_]
      refine g_topI (fun g0 eg0 => ?_)
      clear hg0_
      have hb_ := pr0_in (kn := M 212 la.toNat) (p0 := l0) (p1 := l1) (k := M 205 t.toNat) hl_.1 hl_.2.1 hg htw
      rw [← eg0] at hb_
      refine g_istore (pc := 154) (i := 9) (L' := [(0, gR 200), (1, gI la), (2, gI t), (3, gI x1), (4, gI l0), (5, gI l1), (6, gI l2), (7, gI l3), (8, gI l4), (9, gI g0)]) hK dd_X12_priceBy_154 (by decide) rfl ?_
      refine g_iload (pc := 156) (i := 9) (x := g0) hK dd_X12_priceBy_156 rfl ?_
      refine g_iload (pc := 158) (i := 9) (x := g0) hK dd_X12_priceBy_158 rfl ?_
      refine g_iload (pc := 160) (i := 6) (x := l2) hK dd_X12_priceBy_160 rfl ?_
      have ht_ := tm_in (x := g0) (r := l2) (by omega) (by omega)
      refine g_irem (pc := 162) (z := g0.tmod l2) hK dd_X12_priceBy_162 ⟨by omega, by omega⟩ ⟨by omega, by omega⟩ (by omega) rfl ?_
      refine g_isub (pc := 163) (z := g0 - (g0.tmod l2)) hK dd_X12_priceBy_163 rfl ?_
      have hg1_ : g0 - (g0.tmod l2) = pr1 g0 l2 := pr1_1 hl_.2.2.1.1
      rw [hg1_]
      refine g_topI (fun g1 eg1 => ?_)
      clear hg1_
      have hb1_ := pr1_in hb_ hl_.2.2.1.1
      rw [← eg1] at hb1_
      refine g_istore (pc := 164) (i := 9) (L' := [(0, gR 200), (1, gI la), (2, gI t), (3, gI x1), (4, gI l0), (5, gI l1), (6, gI l2), (7, gI l3), (8, gI l4), (9, gI g1)]) hK dd_X12_priceBy_164 (by decide) rfl ?_
      refine g_iload (pc := 166) (i := 9) (x := g1) hK dd_X12_priceBy_166 rfl ?_
      refine g_iload (pc := 168) (i := 7) (x := l3) hK dd_X12_priceBy_168 rfl ?_
      refine g_icmp_ge (pc := 170) (tgt := 177) hK dd_X12_priceBy_170 (by decide) ⟨by omega, by omega⟩ ⟨by omega, by omega⟩ (fun c17 => ?_) (fun c17 => ?_)
      · refine g_iload (pc := 177) (i := 9) (x := g1) hK dd_X12_priceBy_177 rfl ?_
        refine g_iload (pc := 179) (i := 8) (x := l4) hK dd_X12_priceBy_179 rfl ?_
        refine g_icmp_le (pc := 181) (tgt := 189) hK dd_X12_priceBy_181 (by decide) ⟨by omega, by omega⟩ ⟨by omega, by omega⟩ (fun c18 => ?_) (fun c18 => ?_)
        · refine g_iload (pc := 189) (i := 9) (x := g1) hK dd_X12_priceBy_189 rfl ?_
          refine g_iret (pc := 191) hK hr hlocks dd_X12_priceBy_191 rfl ?_
          exact g_fin hQ (by have e2_ : pr2 g1 l3 = g1 := (by unfold pr2; first | (rw [if_pos (by omega)]; done) | (rw [if_neg (by omega)]; done)); have e3_ : pr3 g1 l4 = g1 := (by unfold pr3; first | (rw [if_pos (by omega)]; done) | (rw [if_neg (by omega)]; done)); unfold prc; rw [← el0, ← el1, ← el2, ← el3, ← el4, ← eg0, ← eg1, e2_, e3_]) (by first | rfl | (subst_vars; rfl))
        · refine g_iload (pc := 184) (i := 8) (x := l4) hK dd_X12_priceBy_184 rfl ?_
          refine g_goto (pc := 186) (tgt := 191) hK dd_X12_priceBy_186 (by decide) ?_
          refine g_iret (pc := 191) hK hr hlocks dd_X12_priceBy_191 rfl ?_
          exact g_fin hQ (by have e2_ : pr2 g1 l3 = g1 := (by unfold pr2; first | (rw [if_pos (by omega)]; done) | (rw [if_neg (by omega)]; done)); have e3_ : pr3 g1 l4 = l4 := (by unfold pr3; first | (rw [if_pos (by omega)]; done) | (rw [if_neg (by omega)]; done)); unfold prc; rw [← el0, ← el1, ← el2, ← el3, ← el4, ← eg0, ← eg1, e2_, e3_]) (by first | rfl | (subst_vars; rfl))
      · refine g_iload (pc := 173) (i := 7) (x := l3) hK dd_X12_priceBy_173 rfl ?_
        refine g_istore (pc := 175) (i := 9) (L' := [(0, gR 200), (1, gI la), (2, gI t), (3, gI x1), (4, gI l0), (5, gI l1), (6, gI l2), (7, gI l3), (8, gI l4), (9, gI l3)]) hK dd_X12_priceBy_175 (by decide) rfl ?_
        refine g_iload (pc := 177) (i := 9) (x := l3) hK dd_X12_priceBy_177 rfl ?_
        refine g_iload (pc := 179) (i := 8) (x := l4) hK dd_X12_priceBy_179 rfl ?_
        refine g_icmp_le (pc := 181) (tgt := 189) hK dd_X12_priceBy_181 (by decide) ⟨by omega, by omega⟩ ⟨by omega, by omega⟩ (fun c19 => ?_) (fun c19 => ?_)
        · refine g_iload (pc := 189) (i := 9) (x := l3) hK dd_X12_priceBy_189 rfl ?_
          refine g_iret (pc := 191) hK hr hlocks dd_X12_priceBy_191 rfl ?_
          exact g_fin hQ (by have e2_ : pr2 g1 l3 = l3 := (by unfold pr2; first | (rw [if_pos (by omega)]; done) | (rw [if_neg (by omega)]; done)); have e3_ : pr3 l3 l4 = l3 := (by unfold pr3; first | (rw [if_pos (by omega)]; done) | (rw [if_neg (by omega)]; done)); unfold prc; rw [← el0, ← el1, ← el2, ← el3, ← el4, ← eg0, ← eg1, e2_, e3_]) (by first | rfl | (subst_vars; rfl))
        · refine g_iload (pc := 184) (i := 8) (x := l4) hK dd_X12_priceBy_184 rfl ?_
          refine g_goto (pc := 186) (tgt := 191) hK dd_X12_priceBy_186 (by decide) ?_
          refine g_iret (pc := 191) hK hr hlocks dd_X12_priceBy_191 rfl ?_
          exact g_fin hQ (by have e2_ : pr2 g1 l3 = l3 := (by unfold pr2; first | (rw [if_pos (by omega)]; done) | (rw [if_neg (by omega)]; done)); have e3_ : pr3 l3 l4 = l4 := (by unfold pr3; first | (rw [if_pos (by omega)]; done) | (rw [if_neg (by omega)]; done)); unfold prc; rw [← el0, ← el1, ← el2, ← el3, ← el4, ← eg0, ← eg1, e2_, e3_]) (by first | rfl | (subst_vars; rfl))
    · refine g_if_eq (pc := 125) (tgt := 142) hK dd_X12_priceBy_125 (by decide) (by decide) (fun _ => ?_) (fun c20 => absurd (by decide) c20)
      refine g_iload (pc := 142) (i := 5) (x := l1) hK dd_X12_priceBy_142 rfl ?_
      refine g_aloadn (pc := 144) (i := 0) (x := 200) hK dd_X12_priceBy_144 rfl rfl ?_
      refine g_getv (pc := 145) (f := (1, 13)) (j := 12) (v := gR 213) hK (kdm kd_200) rfl ef_12 (by decide) rfl kk_1113 dd_X12_priceBy_145 rfl ?_
      refine g_iloadn (pc := 148) (i := 1) (x := la) hK dd_X12_priceBy_148 rfl rfl ?_
      refine g_iald (pc := 149) hK (kdm kd_213) nl_213 (by decide) dd_X12_priceBy_149 (by omega) (by omega) (fun x21 ex21 rx21 => ?_)
      have hm_ := mul0 200 999 (a := l1) (b := x21) (by omega) (by omega) (by omega) (by omega)
      refine g_imul (pc := 150) (z := l1 * x21) hK dd_X12_priceBy_150 rfl ?_
      refine g_bipush (pc := 151) (x := 100) hK dd_X12_priceBy_151 (by decide) ?_
      refine g_idiv (pc := 153) (z := (l1 * x21).tdiv 100) hK dd_X12_priceBy_153 ⟨by omega, by omega⟩ (by decide) (by decide) rfl ?_
      have hg0_ : (l1 * x21).tdiv 100 = pr0 (M 212 la.toNat) (M 213 la.toNat) l0 l1 (M 205 t.toNat) (TW (M 205 t.toNat) (M 206 t.toNat) (M 207 t.toNat)) := by unfold pr0; subst_vars; first | rw [if_pos (by assumption)] | rw [if_neg (by assumption)]
      rw [hg0_]
      refine g_topI (fun g0 eg0 => ?_)
      clear hg0_
      have hb_ := pr0_in (kn := M 212 la.toNat) (p0 := l0) (p1 := l1) (k := M 205 t.toNat) hl_.1 hl_.2.1 hg htw
      rw [← eg0] at hb_
      refine g_istore (pc := 154) (i := 9) (L' := [(0, gR 200), (1, gI la), (2, gI t), (3, gI x1), (4, gI l0), (5, gI l1), (6, gI l2), (7, gI l3), (8, gI l4), (9, gI g0)]) hK dd_X12_priceBy_154 (by decide) rfl ?_
      refine g_iload (pc := 156) (i := 9) (x := g0) hK dd_X12_priceBy_156 rfl ?_
      refine g_iload (pc := 158) (i := 9) (x := g0) hK dd_X12_priceBy_158 rfl ?_
      refine g_iload (pc := 160) (i := 6) (x := l2) hK dd_X12_priceBy_160 rfl ?_
      have ht_ := tm_in (x := g0) (r := l2) (by omega) (by omega)
      refine g_irem (pc := 162) (z := g0.tmod l2) hK dd_X12_priceBy_162 ⟨by omega, by omega⟩ ⟨by omega, by omega⟩ (by omega) rfl ?_
      refine g_isub (pc := 163) (z := g0 - (g0.tmod l2)) hK dd_X12_priceBy_163 rfl ?_
      have hg1_ : g0 - (g0.tmod l2) = pr1 g0 l2 := pr1_1 hl_.2.2.1.1
      rw [hg1_]
      refine g_topI (fun g1 eg1 => ?_)
      clear hg1_
      have hb1_ := pr1_in hb_ hl_.2.2.1.1
      rw [← eg1] at hb1_
      refine g_istore (pc := 164) (i := 9) (L' := [(0, gR 200), (1, gI la), (2, gI t), (3, gI x1), (4, gI l0), (5, gI l1), (6, gI l2), (7, gI l3), (8, gI l4), (9, gI g1)]) hK dd_X12_priceBy_164 (by decide) rfl ?_
      refine g_iload (pc := 166) (i := 9) (x := g1) hK dd_X12_priceBy_166 rfl ?_
      refine g_iload (pc := 168) (i := 7) (x := l3) hK dd_X12_priceBy_168 rfl ?_
      refine g_icmp_ge (pc := 170) (tgt := 177) hK dd_X12_priceBy_170 (by decide) ⟨by omega, by omega⟩ ⟨by omega, by omega⟩ (fun c22 => ?_) (fun c22 => ?_)
      · refine g_iload (pc := 177) (i := 9) (x := g1) hK dd_X12_priceBy_177 rfl ?_
        refine g_iload (pc := 179) (i := 8) (x := l4) hK dd_X12_priceBy_179 rfl ?_
        refine g_icmp_le (pc := 181) (tgt := 189) hK dd_X12_priceBy_181 (by decide) ⟨by omega, by omega⟩ ⟨by omega, by omega⟩ (fun c23 => ?_) (fun c23 => ?_)
        · refine g_iload (pc := 189) (i := 9) (x := g1) hK dd_X12_priceBy_189 rfl ?_
          refine g_iret (pc := 191) hK hr hlocks dd_X12_priceBy_191 rfl ?_
          exact g_fin hQ (by have e2_ : pr2 g1 l3 = g1 := (by unfold pr2; first | (rw [if_pos (by omega)]; done) | (rw [if_neg (by omega)]; done)); have e3_ : pr3 g1 l4 = g1 := (by unfold pr3; first | (rw [if_pos (by omega)]; done) | (rw [if_neg (by omega)]; done)); unfold prc; rw [← el0, ← el1, ← el2, ← el3, ← el4, ← eg0, ← eg1, e2_, e3_]) (by first | rfl | (subst_vars; rfl))
        · refine g_iload (pc := 184) (i := 8) (x := l4) hK dd_X12_priceBy_184 rfl ?_
          refine g_goto (pc := 186) (tgt := 191) hK dd_X12_priceBy_186 (by decide) ?_
          refine g_iret (pc := 191) hK hr hlocks dd_X12_priceBy_191 rfl ?_
          exact g_fin hQ (by have e2_ : pr2 g1 l3 = g1 := (by unfold pr2; first | (rw [if_pos (by omega)]; done) | (rw [if_neg (by omega)]; done)); have e3_ : pr3 g1 l4 = l4 := (by unfold pr3; first | (rw [if_pos (by omega)]; done) | (rw [if_neg (by omega)]; done)); unfold prc; rw [← el0, ← el1, ← el2, ← el3, ← el4, ← eg0, ← eg1, e2_, e3_]) (by first | rfl | (subst_vars; rfl))
      · refine g_iload (pc := 173) (i := 7) (x := l3) hK dd_X12_priceBy_173 rfl ?_
        refine g_istore (pc := 175) (i := 9) (L' := [(0, gR 200), (1, gI la), (2, gI t), (3, gI x1), (4, gI l0), (5, gI l1), (6, gI l2), (7, gI l3), (8, gI l4), (9, gI l3)]) hK dd_X12_priceBy_175 (by decide) rfl ?_
        refine g_iload (pc := 177) (i := 9) (x := l3) hK dd_X12_priceBy_177 rfl ?_
        refine g_iload (pc := 179) (i := 8) (x := l4) hK dd_X12_priceBy_179 rfl ?_
        refine g_icmp_le (pc := 181) (tgt := 189) hK dd_X12_priceBy_181 (by decide) ⟨by omega, by omega⟩ ⟨by omega, by omega⟩ (fun c24 => ?_) (fun c24 => ?_)
        · refine g_iload (pc := 189) (i := 9) (x := l3) hK dd_X12_priceBy_189 rfl ?_
          refine g_iret (pc := 191) hK hr hlocks dd_X12_priceBy_191 rfl ?_
          exact g_fin hQ (by have e2_ : pr2 g1 l3 = l3 := (by unfold pr2; first | (rw [if_pos (by omega)]; done) | (rw [if_neg (by omega)]; done)); have e3_ : pr3 l3 l4 = l3 := (by unfold pr3; first | (rw [if_pos (by omega)]; done) | (rw [if_neg (by omega)]; done)); unfold prc; rw [← el0, ← el1, ← el2, ← el3, ← el4, ← eg0, ← eg1, e2_, e3_]) (by first | rfl | (subst_vars; rfl))
        · refine g_iload (pc := 184) (i := 8) (x := l4) hK dd_X12_priceBy_184 rfl ?_
          refine g_goto (pc := 186) (tgt := 191) hK dd_X12_priceBy_186 (by decide) ?_
          refine g_iret (pc := 191) hK hr hlocks dd_X12_priceBy_191 rfl ?_
          exact g_fin hQ (by have e2_ : pr2 g1 l3 = l3 := (by unfold pr2; first | (rw [if_pos (by omega)]; done) | (rw [if_neg (by omega)]; done)); have e3_ : pr3 l3 l4 = l4 := (by unfold pr3; first | (rw [if_pos (by omega)]; done) | (rw [if_neg (by omega)]; done)); unfold prc; rw [← el0, ← el1, ← el2, ← el3, ← el4, ← eg0, ← eg1, e2_, e3_]) (by first | rfl | (subst_vars; rfl))
  · refine g_bipush (pc := 11) (x := 100) hK dd_X12_priceBy_11 (by decide) ?_
    refine g_goto (pc := 13) (tgt := 24) hK dd_X12_priceBy_13 (by decide) ?_
    have hl0_ : 100 = lpt (M 216) (M 200 14) (M 214 la.toNat) 0 := by first | (rw [lpt_1 (by omega)]; subst_vars; (first | rfl | (congr 1; omega))) | (rw [lpt_0 (by omega)]; rfl)
    rw [hl0_]
    refine g_topI (fun l0 el0 => ?_)
    clear hl0_
    rw [← el0] at hl_
    refine g_istore (pc := 24) (i := 4) (L' := [(0, gR 200), (1, gI la), (2, gI t), (3, gI x1), (4, gI l0)]) hK dd_X12_priceBy_24 (by decide) rfl ?_
    refine g_iloadn (pc := 26) (i := 3) (x := x1) hK dd_X12_priceBy_26 rfl rfl ?_
    refine g_if_ge (pc := 27) (tgt := 35) hK dd_X12_priceBy_27 (by decide) rx1 (fun c25 => absurd c25 (by omega)) (fun c25 => ?_)
    refine g_bipush (pc := 30) (x := 50) hK dd_X12_priceBy_30 (by decide) ?_
    refine g_goto (pc := 32) (tgt := 45) hK dd_X12_priceBy_32 (by decide) ?_
    have hl1_ : 50 = lpt (M 216) (M 200 14) (M 214 la.toNat) 1 := by first | (rw [lpt_1 (by omega)]; subst_vars; (first | rfl | (congr 1; omega))) | (rw [lpt_0 (by omega)]; rfl)
    rw [hl1_]
    refine g_topI (fun l1 el1 => ?_)
    clear hl1_
    rw [← el1] at hl_
    refine g_istore (pc := 45) (i := 5) (L' := [(0, gR 200), (1, gI la), (2, gI t), (3, gI x1), (4, gI l0), (5, gI l1)]) hK dd_X12_priceBy_45 (by decide) rfl ?_
    refine g_iloadn (pc := 47) (i := 3) (x := x1) hK dd_X12_priceBy_47 rfl rfl ?_
    refine g_if_ge (pc := 48) (tgt := 55) hK dd_X12_priceBy_48 (by decide) rx1 (fun c26 => absurd c26 (by omega)) (fun c26 => ?_)
    refine g_iconst (pc := 51) (x := 1) hK dd_X12_priceBy_51 (by decide) ?_
    refine g_goto (pc := 52) (tgt := 65) hK dd_X12_priceBy_52 (by decide) ?_
    have hl2_ : 1 = lpt (M 216) (M 200 14) (M 214 la.toNat) 2 := by first | (rw [lpt_1 (by omega)]; subst_vars; (first | rfl | (congr 1; omega))) | (rw [lpt_0 (by omega)]; rfl)
    rw [hl2_]
    refine g_topI (fun l2 el2 => ?_)
    clear hl2_
    rw [← el2] at hl_
    refine g_istore (pc := 65) (i := 6) (L' := [(0, gR 200), (1, gI la), (2, gI t), (3, gI x1), (4, gI l0), (5, gI l1), (6, gI l2)]) hK dd_X12_priceBy_65 (by decide) rfl ?_
    refine g_iloadn (pc := 67) (i := 3) (x := x1) hK dd_X12_priceBy_67 rfl rfl ?_
    refine g_if_ge (pc := 68) (tgt := 75) hK dd_X12_priceBy_68 (by decide) rx1 (fun c27 => absurd c27 (by omega)) (fun c27 => ?_)
    refine g_iconst (pc := 71) (x := 0) hK dd_X12_priceBy_71 (by decide) ?_
    refine g_goto (pc := 72) (tgt := 85) hK dd_X12_priceBy_72 (by decide) ?_
    have hl3_ : 0 = lpt (M 216) (M 200 14) (M 214 la.toNat) 3 := by first | (rw [lpt_1 (by omega)]; subst_vars; (first | rfl | (congr 1; omega))) | (rw [lpt_0 (by omega)]; rfl)
    rw [hl3_]
    refine g_topI (fun l3 el3 => ?_)
    clear hl3_
    rw [← el3] at hl_
    refine g_istore (pc := 85) (i := 7) (L' := [(0, gR 200), (1, gI la), (2, gI t), (3, gI x1), (4, gI l0), (5, gI l1), (6, gI l2), (7, gI l3)]) hK dd_X12_priceBy_85 (by decide) rfl ?_
    refine g_iloadn (pc := 87) (i := 3) (x := x1) hK dd_X12_priceBy_87 rfl rfl ?_
    refine g_if_ge (pc := 88) (tgt := 97) hK dd_X12_priceBy_88 (by decide) rx1 (fun c28 => absurd c28 (by omega)) (fun c28 => ?_)
    refine g_sipush (pc := 91) (x := 999) hK dd_X12_priceBy_91 (by decide) ?_
    refine g_goto (pc := 94) (tgt := 107) hK dd_X12_priceBy_94 (by decide) ?_
    have hl4_ : 999 = lpt (M 216) (M 200 14) (M 214 la.toNat) 4 := by first | (rw [lpt_1 (by omega)]; subst_vars; (first | rfl | (congr 1; omega))) | (rw [lpt_0 (by omega)]; rfl)
    rw [hl4_]
    refine g_topI (fun l4 el4 => ?_)
    clear hl4_
    rw [← el4] at hl_
    refine g_istore (pc := 107) (i := 8) (L' := [(0, gR 200), (1, gI la), (2, gI t), (3, gI x1), (4, gI l0), (5, gI l1), (6, gI l2), (7, gI l3), (8, gI l4)]) hK dd_X12_priceBy_107 (by decide) rfl ?_
    refine g_aloadn (pc := 109) (i := 0) (x := 200) hK dd_X12_priceBy_109 rfl rfl ?_
    refine g_aloadn (pc := 110) (i := 0) (x := 200) hK dd_X12_priceBy_110 rfl rfl ?_
    refine g_getv (pc := 111) (f := (1, 12)) (j := 11) (v := gR 212) hK (kdm kd_200) rfl ef_12 (by decide) rfl kk_1112 dd_X12_priceBy_111 rfl ?_
    refine g_iloadn (pc := 114) (i := 1) (x := la) hK dd_X12_priceBy_114 rfl rfl ?_
    refine g_iald (pc := 115) hK (kdm kd_212) nl_212 (by decide) dd_X12_priceBy_115 (by omega) (by omega) (fun x29 ex29 rx29 => ?_)
    refine g_aloadn (pc := 116) (i := 0) (x := 200) hK dd_X12_priceBy_116 rfl rfl ?_
    refine g_getv (pc := 117) (f := (1, 5)) (j := 4) (v := gR 205) hK (kdm kd_200) rfl ef_12 (by decide) rfl kk_1105 dd_X12_priceBy_117 rfl ?_
    refine g_iloadn (pc := 120) (i := 2) (x := t) hK dd_X12_priceBy_120 rfl rfl ?_
    refine g_iald (pc := 121) hK (kdm kd_205) nl_205 (by decide) dd_X12_priceBy_121 (by omega) (by omega) (fun x30 ex30 rx30 => ?_)
    refine g_callV (pc := 122) (As := [gI x29, gI x30]) hK ws_M_181 md_X12_isOf ⟨Nat.zero_le _, Nat.zero_le _⟩ ⟨by decide, by decide⟩ (kdm kd_200) rfl rfl dd_X12_priceBy_122 rfl rfl (Nat.le_of_ble_eq_true rfl) (d_isOf x29 x30 (fun c31 => g_r1 ?_) (fun c31 => g_r1 ?_))
    · refine g_if_eq (pc := 125) (tgt := 142) hK dd_X12_priceBy_125 (by decide) (by decide) (fun c32 => absurd c32 (by decide)) (fun _ => ?_)
      refine g_iload (pc := 128) (i := 4) (x := l0) hK dd_X12_priceBy_128 rfl ?_
      refine g_aloadn (pc := 130) (i := 0) (x := 200) hK dd_X12_priceBy_130 rfl rfl ?_
      refine g_iloadn (pc := 131) (i := 2) (x := t) hK dd_X12_priceBy_131 rfl rfl ?_
      refine g_callV (pc := 132) (As := [gI t]) hK ws_M_175 md_X12_trueWorth ⟨Nat.zero_le _, Nat.zero_le _⟩ ⟨by decide, by decide⟩ (kdm kd_200) rfl rfl dd_X12_priceBy_132 rfl rfl (Nat.le_of_ble_eq_true rfl) (d_trueWorth t (by omega) (by omega) hthm (g_r1 ?_))
      refine g_topI (fun y33 ey33 => ?_)
      have hm_ := mul0 200 1049 (a := l0) (b := y33) (by omega) (by omega) (by omega) (by omega)
      refine g_imul (pc := 135) (z := l0 * y33) hK dd_X12_priceBy_135 rfl ?_
      refine g_bipush (pc := 136) (x := 100) hK dd_X12_priceBy_136 (by decide) ?_
      refine g_idiv (pc := 138) (z := (l0 * y33).tdiv 100) hK dd_X12_priceBy_138 ⟨by omega, by omega⟩ (by decide) (by decide) rfl ?_
      refine g_goto (pc := 139) (tgt := 154) hK dd_X12_priceBy_139 (by decide) ?_
      have hg0_ : (l0 * y33).tdiv 100 = pr0 (M 212 la.toNat) (M 213 la.toNat) l0 l1 (M 205 t.toNat) (TW (M 205 t.toNat) (M 206 t.toNat) (M 207 t.toNat)) := by unfold pr0; subst_vars; first | rw [if_pos (by assumption)] | rw [if_neg (by assumption)]
      rw [hg0_]
      refine g_topI (fun g0 eg0 => ?_)
      clear hg0_
      have hb_ := pr0_in (kn := M 212 la.toNat) (p0 := l0) (p1 := l1) (k := M 205 t.toNat) hl_.1 hl_.2.1 hg htw
      rw [← eg0] at hb_
      refine g_istore (pc := 154) (i := 9) (L' := [(0, gR 200), (1, gI la), (2, gI t), (3, gI x1), (4, gI l0), (5, gI l1), (6, gI l2), (7, gI l3), (8, gI l4), (9, gI g0)]) hK dd_X12_priceBy_154 (by decide) rfl ?_
      refine g_iload (pc := 156) (i := 9) (x := g0) hK dd_X12_priceBy_156 rfl ?_
      refine g_iload (pc := 158) (i := 9) (x := g0) hK dd_X12_priceBy_158 rfl ?_
      refine g_iload (pc := 160) (i := 6) (x := l2) hK dd_X12_priceBy_160 rfl ?_
      have ht_ := tm_in (x := g0) (r := l2) (by omega) (by omega)
      refine g_irem (pc := 162) (z := g0.tmod l2) hK dd_X12_priceBy_162 ⟨by omega, by omega⟩ ⟨by omega, by omega⟩ (by omega) rfl ?_
      refine g_isub (pc := 163) (z := g0 - (g0.tmod l2)) hK dd_X12_priceBy_163 rfl ?_
      have hg1_ : g0 - (g0.tmod l2) = pr1 g0 l2 := pr1_1 hl_.2.2.1.1
      rw [hg1_]
      refine g_topI (fun g1 eg1 => ?_)
      clear hg1_
      have hb1_ := pr1_in hb_ hl_.2.2.1.1
      rw [← eg1] at hb1_
      refine g_istore (pc := 164) (i := 9) (L' := [(0, gR 200), (1, gI la), (2, gI t), (3, gI x1), (4, gI l0), (5, gI l1), (6, gI l2), (7, gI l3), (8, gI l4), (9, gI g1)]) hK dd_X12_priceBy_164 (by decide) rfl ?_
      refine g_iload (pc := 166) (i := 9) (x := g1) hK dd_X12_priceBy_166 rfl ?_
      refine g_iload (pc := 168) (i := 7) (x := l3) hK dd_X12_priceBy_168 rfl ?_
      refine g_icmp_ge (pc := 170) (tgt := 177) hK dd_X12_priceBy_170 (by decide) ⟨by omega, by omega⟩ ⟨by omega, by omega⟩ (fun c34 => ?_) (fun c34 => ?_)
      · refine g_iload (pc := 177) (i := 9) (x := g1) hK dd_X12_priceBy_177 rfl ?_
        refine g_iload (pc := 179) (i := 8) (x := l4) hK dd_X12_priceBy_179 rfl ?_
        refine g_icmp_le (pc := 181) (tgt := 189) hK dd_X12_priceBy_181 (by decide) ⟨by omega, by omega⟩ ⟨by omega, by omega⟩ (fun c35 => ?_) (fun c35 => ?_)
        · refine g_iload (pc := 189) (i := 9) (x := g1) hK dd_X12_priceBy_189 rfl ?_
          refine g_iret (pc := 191) hK hr hlocks dd_X12_priceBy_191 rfl ?_
          exact g_fin hQ (by have e2_ : pr2 g1 l3 = g1 := (by unfold pr2; first | (rw [if_pos (by omega)]; done) | (rw [if_neg (by omega)]; done)); have e3_ : pr3 g1 l4 = g1 := (by unfold pr3; first | (rw [if_pos (by omega)]; done) | (rw [if_neg (by omega)]; done)); unfold prc; rw [← el0, ← el1, ← el2, ← el3, ← el4, ← eg0, ← eg1, e2_, e3_]) (by first | rfl | (subst_vars; rfl))
        · refine g_iload (pc := 184) (i := 8) (x := l4) hK dd_X12_priceBy_184 rfl ?_
          refine g_goto (pc := 186) (tgt := 191) hK dd_X12_priceBy_186 (by decide) ?_
          refine g_iret (pc := 191) hK hr hlocks dd_X12_priceBy_191 rfl ?_
          exact g_fin hQ (by have e2_ : pr2 g1 l3 = g1 := (by unfold pr2; first | (rw [if_pos (by omega)]; done) | (rw [if_neg (by omega)]; done)); have e3_ : pr3 g1 l4 = l4 := (by unfold pr3; first | (rw [if_pos (by omega)]; done) | (rw [if_neg (by omega)]; done)); unfold prc; rw [← el0, ← el1, ← el2, ← el3, ← el4, ← eg0, ← eg1, e2_, e3_]) (by first | rfl | (subst_vars; rfl))
      · refine g_iload (pc := 173) (i := 7) (x := l3) hK dd_X12_priceBy_173 rfl ?_
        refine g_istore (pc := 175) (i := 9) (L' := [(0, gR 200), (1, gI la), (2, gI t), (3, gI x1), (4, gI l0), (5, gI l1), (6, gI l2), (7, gI l3), (8, gI l4), (9, gI l3)]) hK dd_X12_priceBy_175 (by decide) rfl ?_
        refine g_iload (pc := 177) (i := 9) (x := l3) hK dd_X12_priceBy_177 rfl ?_
        refine g_iload (pc := 179) (i := 8) (x := l4) hK dd_X12_priceBy_179 rfl ?_
        refine g_icmp_le (pc := 181) (tgt := 189) hK dd_X12_priceBy_181 (by decide) ⟨by omega, by omega⟩ ⟨by omega, by omega⟩ (fun c36 => ?_) (fun c36 => ?_)
        · refine g_iload (pc := 189) (i := 9) (x := l3) hK dd_X12_priceBy_189 rfl ?_
          refine g_iret (pc := 191) hK hr hlocks dd_X12_priceBy_191 rfl ?_
          exact g_fin hQ (by have e2_ : pr2 g1 l3 = l3 := (by unfold pr2; first | (rw [if_pos (by omega)]; done) | (rw [if_neg (by omega)]; done)); have e3_ : pr3 l3 l4 = l3 := (by unfold pr3; first | (rw [if_pos (by omega)]; done) | (rw [if_neg (by omega)]; done)); unfold prc; rw [← el0, ← el1, ← el2, ← el3, ← el4, ← eg0, ← eg1, e2_, e3_]) (by first | rfl | (subst_vars; rfl))
        · refine g_iload (pc := 184) (i := 8) (x := l4) hK dd_X12_priceBy_184 rfl ?_
          refine g_goto (pc := 186) (tgt := 191) hK dd_X12_priceBy_186 (by decide) ?_
          refine g_iret (pc := 191) hK hr hlocks dd_X12_priceBy_191 rfl ?_
          exact g_fin hQ (by have e2_ : pr2 g1 l3 = l3 := (by unfold pr2; first | (rw [if_pos (by omega)]; done) | (rw [if_neg (by omega)]; done)); have e3_ : pr3 l3 l4 = l4 := (by unfold pr3; first | (rw [if_pos (by omega)]; done) | (rw [if_neg (by omega)]; done)); unfold prc; rw [← el0, ← el1, ← el2, ← el3, ← el4, ← eg0, ← eg1, e2_, e3_]) (by first | rfl | (subst_vars; rfl))
    · refine g_if_eq (pc := 125) (tgt := 142) hK dd_X12_priceBy_125 (by decide) (by decide) (fun _ => ?_) (fun c37 => absurd (by decide) c37)
      refine g_iload (pc := 142) (i := 5) (x := l1) hK dd_X12_priceBy_142 rfl ?_
      refine g_aloadn (pc := 144) (i := 0) (x := 200) hK dd_X12_priceBy_144 rfl rfl ?_
      refine g_getv (pc := 145) (f := (1, 13)) (j := 12) (v := gR 213) hK (kdm kd_200) rfl ef_12 (by decide) rfl kk_1113 dd_X12_priceBy_145 rfl ?_
      refine g_iloadn (pc := 148) (i := 1) (x := la) hK dd_X12_priceBy_148 rfl rfl ?_
      refine g_iald (pc := 149) hK (kdm kd_213) nl_213 (by decide) dd_X12_priceBy_149 (by omega) (by omega) (fun x38 ex38 rx38 => ?_)
      have hm_ := mul0 200 999 (a := l1) (b := x38) (by omega) (by omega) (by omega) (by omega)
      refine g_imul (pc := 150) (z := l1 * x38) hK dd_X12_priceBy_150 rfl ?_
      refine g_bipush (pc := 151) (x := 100) hK dd_X12_priceBy_151 (by decide) ?_
      refine g_idiv (pc := 153) (z := (l1 * x38).tdiv 100) hK dd_X12_priceBy_153 ⟨by omega, by omega⟩ (by decide) (by decide) rfl ?_
      have hg0_ : (l1 * x38).tdiv 100 = pr0 (M 212 la.toNat) (M 213 la.toNat) l0 l1 (M 205 t.toNat) (TW (M 205 t.toNat) (M 206 t.toNat) (M 207 t.toNat)) := by unfold pr0; subst_vars; first | rw [if_pos (by assumption)] | rw [if_neg (by assumption)]
      rw [hg0_]
      refine g_topI (fun g0 eg0 => ?_)
      clear hg0_
      have hb_ := pr0_in (kn := M 212 la.toNat) (p0 := l0) (p1 := l1) (k := M 205 t.toNat) hl_.1 hl_.2.1 hg htw
      rw [← eg0] at hb_
      refine g_istore (pc := 154) (i := 9) (L' := [(0, gR 200), (1, gI la), (2, gI t), (3, gI x1), (4, gI l0), (5, gI l1), (6, gI l2), (7, gI l3), (8, gI l4), (9, gI g0)]) hK dd_X12_priceBy_154 (by decide) rfl ?_
      refine g_iload (pc := 156) (i := 9) (x := g0) hK dd_X12_priceBy_156 rfl ?_
      refine g_iload (pc := 158) (i := 9) (x := g0) hK dd_X12_priceBy_158 rfl ?_
      refine g_iload (pc := 160) (i := 6) (x := l2) hK dd_X12_priceBy_160 rfl ?_
      have ht_ := tm_in (x := g0) (r := l2) (by omega) (by omega)
      refine g_irem (pc := 162) (z := g0.tmod l2) hK dd_X12_priceBy_162 ⟨by omega, by omega⟩ ⟨by omega, by omega⟩ (by omega) rfl ?_
      refine g_isub (pc := 163) (z := g0 - (g0.tmod l2)) hK dd_X12_priceBy_163 rfl ?_
      have hg1_ : g0 - (g0.tmod l2) = pr1 g0 l2 := pr1_1 hl_.2.2.1.1
      rw [hg1_]
      refine g_topI (fun g1 eg1 => ?_)
      clear hg1_
      have hb1_ := pr1_in hb_ hl_.2.2.1.1
      rw [← eg1] at hb1_
      refine g_istore (pc := 164) (i := 9) (L' := [(0, gR 200), (1, gI la), (2, gI t), (3, gI x1), (4, gI l0), (5, gI l1), (6, gI l2), (7, gI l3), (8, gI l4), (9, gI g1)]) hK dd_X12_priceBy_164 (by decide) rfl ?_
      refine g_iload (pc := 166) (i := 9) (x := g1) hK dd_X12_priceBy_166 rfl ?_
      refine g_iload (pc := 168) (i := 7) (x := l3) hK dd_X12_priceBy_168 rfl ?_
      refine g_icmp_ge (pc := 170) (tgt := 177) hK dd_X12_priceBy_170 (by decide) ⟨by omega, by omega⟩ ⟨by omega, by omega⟩ (fun c39 => ?_) (fun c39 => ?_)
      · refine g_iload (pc := 177) (i := 9) (x := g1) hK dd_X12_priceBy_177 rfl ?_
        refine g_iload (pc := 179) (i := 8) (x := l4) hK dd_X12_priceBy_179 rfl ?_
        refine g_icmp_le (pc := 181) (tgt := 189) hK dd_X12_priceBy_181 (by decide) ⟨by omega, by omega⟩ ⟨by omega, by omega⟩ (fun c40 => ?_) (fun c40 => ?_)
        · refine g_iload (pc := 189) (i := 9) (x := g1) hK dd_X12_priceBy_189 rfl ?_
          refine g_iret (pc := 191) hK hr hlocks dd_X12_priceBy_191 rfl ?_
          exact g_fin hQ (by have e2_ : pr2 g1 l3 = g1 := (by unfold pr2; first | (rw [if_pos (by omega)]; done) | (rw [if_neg (by omega)]; done)); have e3_ : pr3 g1 l4 = g1 := (by unfold pr3; first | (rw [if_pos (by omega)]; done) | (rw [if_neg (by omega)]; done)); unfold prc; rw [← el0, ← el1, ← el2, ← el3, ← el4, ← eg0, ← eg1, e2_, e3_]) (by first | rfl | (subst_vars; rfl))
        · refine g_iload (pc := 184) (i := 8) (x := l4) hK dd_X12_priceBy_184 rfl ?_
          refine g_goto (pc := 186) (tgt := 191) hK dd_X12_priceBy_186 (by decide) ?_
          refine g_iret (pc := 191) hK hr hlocks dd_X12_priceBy_191 rfl ?_
          exact g_fin hQ (by have e2_ : pr2 g1 l3 = g1 := (by unfold pr2; first | (rw [if_pos (by omega)]; done) | (rw [if_neg (by omega)]; done)); have e3_ : pr3 g1 l4 = l4 := (by unfold pr3; first | (rw [if_pos (by omega)]; done) | (rw [if_neg (by omega)]; done)); unfold prc; rw [← el0, ← el1, ← el2, ← el3, ← el4, ← eg0, ← eg1, e2_, e3_]) (by first | rfl | (subst_vars; rfl))
      · refine g_iload (pc := 173) (i := 7) (x := l3) hK dd_X12_priceBy_173 rfl ?_
        refine g_istore (pc := 175) (i := 9) (L' := [(0, gR 200), (1, gI la), (2, gI t), (3, gI x1), (4, gI l0), (5, gI l1), (6, gI l2), (7, gI l3), (8, gI l4), (9, gI l3)]) hK dd_X12_priceBy_175 (by decide) rfl ?_
        refine g_iload (pc := 177) (i := 9) (x := l3) hK dd_X12_priceBy_177 rfl ?_
        refine g_iload (pc := 179) (i := 8) (x := l4) hK dd_X12_priceBy_179 rfl ?_
        refine g_icmp_le (pc := 181) (tgt := 189) hK dd_X12_priceBy_181 (by decide) ⟨by omega, by omega⟩ ⟨by omega, by omega⟩ (fun c41 => ?_) (fun c41 => ?_)
        · refine g_iload (pc := 189) (i := 9) (x := l3) hK dd_X12_priceBy_189 rfl ?_
          refine g_iret (pc := 191) hK hr hlocks dd_X12_priceBy_191 rfl ?_
          exact g_fin hQ (by have e2_ : pr2 g1 l3 = l3 := (by unfold pr2; first | (rw [if_pos (by omega)]; done) | (rw [if_neg (by omega)]; done)); have e3_ : pr3 l3 l4 = l3 := (by unfold pr3; first | (rw [if_pos (by omega)]; done) | (rw [if_neg (by omega)]; done)); unfold prc; rw [← el0, ← el1, ← el2, ← el3, ← el4, ← eg0, ← eg1, e2_, e3_]) (by first | rfl | (subst_vars; rfl))
        · refine g_iload (pc := 184) (i := 8) (x := l4) hK dd_X12_priceBy_184 rfl ?_
          refine g_goto (pc := 186) (tgt := 191) hK dd_X12_priceBy_186 (by decide) ?_
          refine g_iret (pc := 191) hK hr hlocks dd_X12_priceBy_191 rfl ?_
          exact g_fin hQ (by have e2_ : pr2 g1 l3 = l3 := (by unfold pr2; first | (rw [if_pos (by omega)]; done) | (rw [if_neg (by omega)]; done)); have e3_ : pr3 l3 l4 = l4 := (by unfold pr3; first | (rw [if_pos (by omega)]; done) | (rw [if_neg (by omega)]; done)); unfold prc; rw [← el0, ← el1, ← el2, ← el3, ← el4, ← eg0, ← eg1, e2_, e3_]) (by first | rfl | (subst_vars; rfl))
set_option maxHeartbeats 4000000 in
set_option maxRecDepth 100000 in
theorem d_lostBy {l : Launch} {M : Mem} {Pq : Option gV → Mem → Prop} (la : Int) (t : Int) (a1 : 0 ≤ la) (a2 : la < M 200 10) (h1 : 0 ≤ t) (h2 : t < 30) (hmlc : 0 ≤ M 200 10 ∧ M 200 10 ≤ 5) (hmwc : 0 ≤ M 200 14 ∧ M 200 14 ≤ 6) (hthm : thOKm M) (hlam : laOKm M) (hlwm : lwOK (M 216) (M 200 14)) (hQ : Pq (some (gI (los (TW (M 205 t.toNat) (M 206 t.toNat) (M 207 t.toNat)) (prc (M 212 la.toNat) (M 213 la.toNat) (M 214 la.toNat) (M 216) (M 200 14) (M 205 t.toNat) (TW (M 205 t.toNat) (M 206 t.toNat) (M 207 t.toNat)))))) M) : gCtr l my_X12_lostBy mb_X12_lostBy 4 ((some .int)) 5 [gR 200, gI la, gI t] M Pq := by
  refine g_intro (by decide) (Nat.le_of_ble_eq_true rfl) ?_
  intro p e s m args below meth c D cy q A hK hr hlocks hw
  refine g_sub (L' := [(0, gR 200), (1, gI la), (2, gI t)]) [0, 1, 2] rfl ?_
  have htw := TW_in (M 205 t.toNat) (M 207 t.toNat) (hthm t.toNat (by omega)).2.1.1 (hthm t.toNat (by omega)).2.1.2
  have hla_ := hlam la.toNat (by omega)
  have hg := hla_.2.1
  have hlw_ := hla_.2.2 (by omega)
  have hpp := prc_in (kn := M 212 la.toNat) (lw := M 214 la.toNat) (k := M 205 t.toNat) hlwm hg htw
  refine g_aloadn (pc := 0) (i := 0) (x := 200) hK dd_X12_lostBy_0 rfl rfl ?_
  refine g_iloadn (pc := 1) (i := 2) (x := t) hK dd_X12_lostBy_1 rfl rfl ?_
  refine g_callV (pc := 2) (As := [gI t]) hK ws_M_175 md_X12_trueWorth ⟨Nat.zero_le _, Nat.zero_le _⟩ ⟨by decide, by decide⟩ (kdm kd_200) rfl rfl dd_X12_lostBy_2 rfl rfl (Nat.le_of_ble_eq_true rfl) (d_trueWorth t (by omega) (by omega) hthm (g_r1 ?_))
  refine g_topI (fun y1 ey1 => ?_)
  refine g_aloadn (pc := 5) (i := 0) (x := 200) hK dd_X12_lostBy_5 rfl rfl ?_
  refine g_iloadn (pc := 6) (i := 1) (x := la) hK dd_X12_lostBy_6 rfl rfl ?_
  refine g_iloadn (pc := 7) (i := 2) (x := t) hK dd_X12_lostBy_7 rfl rfl ?_
  refine g_callV (pc := 8) (As := [gI la, gI t]) hK ws_M_242 md_X12_priceBy ⟨Nat.zero_le _, Nat.zero_le _⟩ ⟨by decide, by decide⟩ (kdm kd_200) rfl rfl dd_X12_lostBy_8 rfl rfl (Nat.le_of_ble_eq_true rfl) (d_priceBy la t (by omega) (show la < M 200 10 by omega) (by omega) (by omega) hmlc hmwc hthm hlam hlwm (g_r1 ?_))
  refine g_topI (fun y2 ey2 => ?_)
  refine g_isub (pc := 11) (z := y1 - y2) hK dd_X12_lostBy_11 rfl ?_
  refine g_istoren (pc := 12) (i := 3) (L' := [(0, gR 200), (1, gI la), (2, gI t), (3, gI (y1 - y2))]) hK dd_X12_lostBy_12 rfl (by decide) rfl ?_
  refine g_iloadn (pc := 13) (i := 3) (x := y1 - y2) hK dd_X12_lostBy_13 rfl rfl ?_
  refine g_if_ge (pc := 14) (tgt := 21) hK dd_X12_lostBy_14 (by decide) ⟨by omega, by omega⟩ (fun c3 => ?_) (fun c3 => ?_)
  · refine g_iloadn (pc := 21) (i := 3) (x := y1 - y2) hK dd_X12_lostBy_21 rfl rfl ?_
    refine g_iret (pc := 22) hK hr hlocks dd_X12_lostBy_22 rfl ?_
    exact g_fin hQ (by unfold los; split <;> omega) (by first | rfl | (subst_vars; rfl))
  · refine g_iconst (pc := 17) (x := 0) hK dd_X12_lostBy_17 (by decide) ?_
    refine g_goto (pc := 18) (tgt := 22) hK dd_X12_lostBy_18 (by decide) ?_
    refine g_iret (pc := 22) hK hr hlocks dd_X12_lostBy_22 rfl ?_
    exact g_fin hQ (by unfold los; split <;> omega) (by first | rfl | (subst_vars; rfl))
set_option maxHeartbeats 4000000 in
set_option maxRecDepth 100000 in
theorem d_lostOver {l : Launch} {M : Mem} {Pq : Option gV → Mem → Prop} (la : Int) (ks : Int) (a1 : 0 ≤ la) (a2 : la < M 200 10) (hmc : 0 ≤ M 200 3 ∧ M 200 3 ≤ 30) (hmlc : 0 ≤ M 200 10 ∧ M 200 10 ≤ 5) (hmwc : 0 ≤ M 200 14 ∧ M 200 14 ≤ 6) (hthm : thOKm M) (hlam : laOKm M) (hlwm : lwOK (M 216) (M 200 14)) (hQ : Pq (some (gI (losK (M 205) (M 206) (M 207) (M 212 la.toNat) (M 213 la.toNat) (M 214 la.toNat) (M 216) (M 200 14) ks (M 200 3).toNat))) M) : gCtr l my_X12_lostOver mb_X12_lostOver 5 ((some .int)) 6 [gR 200, gI la, gI ks] M Pq := by
  refine g_intro (by decide) (Nat.le_of_ble_eq_true rfl) ?_
  intro p e s m args below meth c D cy q A hK hr hlocks hw
  refine g_sub (L' := [(0, gR 200), (1, gI la), (2, gI ks)]) [0, 1, 2] rfl ?_
  refine g_iconst (pc := 0) (x := 0) hK dd_X12_lostOver_0 (by decide) ?_
  refine g_istoren (pc := 1) (i := 3) (L' := [(0, gR 200), (1, gI la), (2, gI ks), (3, gI 0)]) hK dd_X12_lostOver_1 rfl (by decide) rfl ?_
  refine g_iconst (pc := 2) (x := 0) hK dd_X12_lostOver_2 (by decide) ?_
  refine g_istore (pc := 3) (i := 4) (L' := [(0, gR 200), (1, gI la), (2, gI ks), (3, gI 0), (4, gI 0)]) hK dd_X12_lostOver_3 (by decide) rfl ?_
  have lp3 : ∀ (n1 : Nat) (sm : Int) (t : Int), (0 ≤ t ∧ t ≤ M 200 3) → (sm = losK (M 205) (M 206) (M 207) (M 212 la.toNat) (M 213 la.toNat) (M 214 la.toNat) (M 216) (M 200 14) ks t.toNat) → (M 200 3 - t).toNat < n1 → G p l e (rmD 6) s m args below meth c D cy q A 0 0 5 (MQ below (gQc D cy q A Pq) args s 0 0 A) 5 [(0, gR 200), (1, gI la), (2, gI ks), (3, gI sm), (4, gI t)] [] M := by
    intro n1
    induction n1 with
    | zero => intro sm t iv4 iv5 hm6; exact absurd hm6 (Nat.not_lt_zero _)
    | succ n1 ih2 =>
      intro sm t iv4 iv5 hm6
      refine g_iload (pc := 5) (i := 4) (x := t) hK dd_X12_lostOver_5 rfl ?_
      have hg := (hlam la.toNat (by omega)).2.1
      have hlk := losK_in (k := M 205) (w := M 206) (c := M 207) (kn := M 212 la.toNat) (lw := M 214 la.toNat) (ks := ks) hlwm hg (fun j hj => (hthm j hj).2.1) t.toNat (by omega)
      refine g_aloadn (pc := 7) (i := 0) (x := 200) hK dd_X12_lostOver_7 rfl rfl ?_
      refine g_geti (pc := 8) (f := (0, 0)) (j := 3) hK (kdm kd_200) rfl ef_12 (by decide) rfl kk_1104 nl_200 dd_X12_lostOver_8 rfl (fun x7 ex7 rx7 => ?_)
      refine g_icmp_ge (pc := 11) (tgt := 45) hK dd_X12_lostOver_11 (by decide) ⟨by omega, by omega⟩ rx7 (fun c8 => ?_) (fun c8 => ?_)
      · refine g_iloadn (pc := 45) (i := 3) (x := sm) hK dd_X12_lostOver_45 rfl rfl ?_
        refine g_iret (pc := 46) hK hr hlocks dd_X12_lostOver_46 rfl ?_
        exact g_fin hQ (by rw [show M 200 3 = t by omega]; omega) (by first | rfl | (subst_vars; rfl))
      · have htw := TW_in (M 205 t.toNat) (M 207 t.toNat) (hthm t.toNat (by omega)).2.1.1 (hthm t.toNat (by omega)).2.1.2
        have hpp := prc_in (kn := M 212 la.toNat) (lw := M 214 la.toNat) (k := M 205 t.toNat) hlwm hg htw
        have hls := los_in htw hpp.1
        refine g_aloadn (pc := 14) (i := 0) (x := 200) hK dd_X12_lostOver_14 rfl rfl ?_
        refine g_iloadn (pc := 15) (i := 2) (x := ks) hK dd_X12_lostOver_15 rfl rfl ?_
        refine g_aloadn (pc := 16) (i := 0) (x := 200) hK dd_X12_lostOver_16 rfl rfl ?_
        refine g_getv (pc := 17) (f := (1, 5)) (j := 4) (v := gR 205) hK (kdm kd_200) rfl ef_12 (by decide) rfl kk_1105 dd_X12_lostOver_17 rfl ?_
        refine g_iload (pc := 20) (i := 4) (x := t) hK dd_X12_lostOver_20 rfl ?_
        refine g_iald (pc := 22) hK (kdm kd_205) nl_205 (by decide) dd_X12_lostOver_22 (by omega) (by omega) (fun x9 ex9 rx9 => ?_)
        refine g_callV (pc := 23) (As := [gI ks, gI x9]) hK ws_M_181 md_X12_isOf ⟨Nat.zero_le _, Nat.zero_le _⟩ ⟨by decide, by decide⟩ (kdm kd_200) rfl rfl dd_X12_lostOver_23 rfl rfl (Nat.le_of_ble_eq_true rfl) (d_isOf ks x9 (fun c10 => g_r1 ?_) (fun c10 => g_r1 ?_))
        · refine g_if_eq (pc := 26) (tgt := 39) hK dd_X12_lostOver_26 (by decide) (by decide) (fun c11 => absurd c11 (by decide)) (fun _ => ?_)
          refine g_iloadn (pc := 29) (i := 3) (x := sm) hK dd_X12_lostOver_29 rfl rfl ?_
          refine g_aloadn (pc := 30) (i := 0) (x := 200) hK dd_X12_lostOver_30 rfl rfl ?_
          refine g_iloadn (pc := 31) (i := 1) (x := la) hK dd_X12_lostOver_31 rfl rfl ?_
          refine g_iload (pc := 32) (i := 4) (x := t) hK dd_X12_lostOver_32 rfl ?_
          refine g_callV (pc := 34) (As := [gI la, gI t]) hK ws_M_245 md_X12_lostBy ⟨Nat.zero_le _, Nat.zero_le _⟩ ⟨by decide, by decide⟩ (kdm kd_200) rfl rfl dd_X12_lostOver_34 rfl rfl (Nat.le_of_ble_eq_true rfl) (d_lostBy la t (by omega) (show la < M 200 10 by omega) (by omega) (by omega) hmlc hmwc hthm hlam hlwm (g_r1 ?_))
          refine g_topI (fun y12 ey12 => ?_)
          refine g_iadd (pc := 37) (z := sm + y12) hK dd_X12_lostOver_37 rfl ?_
          refine g_istoren (pc := 38) (i := 3) (L' := [(0, gR 200), (1, gI la), (2, gI ks), (3, gI (sm + y12)), (4, gI t)]) hK dd_X12_lostOver_38 rfl (by decide) rfl ?_
          refine g_iinc (pc := 39) (i := 4) (y := t + 1) (L' := [(0, gR 200), (1, gI la), (2, gI ks), (3, gI (sm + y12)), (4, gI (t + 1))]) hK dd_X12_lostOver_39 rfl rfl (by decide) rfl ?_
          refine g_goto (pc := 42) (tgt := 5) hK dd_X12_lostOver_42 (by decide) ?_
          refine g_sub (L' := [(0, gR 200), (1, gI la), (2, gI ks), (3, gI (sm + y12)), (4, gI (t + 1))]) [0, 1, 2, 3, 4] rfl ?_
          exact ih2 (sm + y12) (t + 1) (by omega) (by rw [tn1 (by omega)]; simp only [losK]; first | (rw [if_pos (by first | assumption | (subst_vars; assumption))]; omega) | (rw [if_neg (by first | assumption | (subst_vars; assumption))]; omega)) (by omega)
        · refine g_if_eq (pc := 26) (tgt := 39) hK dd_X12_lostOver_26 (by decide) (by decide) (fun _ => ?_) (fun c13 => absurd (by decide) c13)
          refine g_iinc (pc := 39) (i := 4) (y := t + 1) (L' := [(0, gR 200), (1, gI la), (2, gI ks), (3, gI sm), (4, gI (t + 1))]) hK dd_X12_lostOver_39 rfl rfl (by decide) rfl ?_
          refine g_goto (pc := 42) (tgt := 5) hK dd_X12_lostOver_42 (by decide) ?_
          refine g_sub (L' := [(0, gR 200), (1, gI la), (2, gI ks), (3, gI sm), (4, gI (t + 1))]) [0, 1, 2, 3, 4] rfl ?_
          exact ih2 sm (t + 1) (by omega) (by rw [tn1 (by omega)]; simp only [losK]; first | (rw [if_pos (by first | assumption | (subst_vars; assumption))]; omega) | (rw [if_neg (by first | assumption | (subst_vars; assumption))]; omega)) (by omega)
  refine g_sub (L' := [(0, gR 200), (1, gI la), (2, gI ks), (3, gI 0), (4, gI 0)]) [0, 1, 2, 3, 4] rfl ?_
  exact lp3 _ 0 0 (by omega) (rfl) (Nat.lt_succ_self _)
set_option maxHeartbeats 4000000 in
set_option maxRecDepth 100000 in
theorem y_thinks {l : Launch} {M : Mem} {Pq : Option gV → Mem → Prop} (la : Int) (t : Int) (lo : Int) (h_la : inI la) (h_t : inI t) (h_lo : inI lo) (hrg : rgOK M) (hmc : 0 ≤ M 200 3 ∧ M 200 3 ≤ 30) (hmlc : 0 ≤ M 200 10 ∧ M 200 10 ≤ 5) (hmwc : 0 ≤ M 200 14 ∧ M 200 14 ≤ 6) (hthm : thOKm M) (hlam : laOKm M) (hlwm : lwOK (M 216) (M 200 14)) (hB : (¬ ((0 ≤ la ∧ la < M 200 10) ∧ 0 ≤ t ∧ t < M 200 3)) → Pq (some (gI (-2))) (rg M 2)) (hL : (((0 ≤ la ∧ la < M 200 10) ∧ 0 ≤ t ∧ t < M 200 3) ∧ ¬ lo = 0) → Pq (some (gI (los (TW (M 205 t.toNat) (M 206 t.toNat) (M 207 t.toNat)) (prc (M 212 la.toNat) (M 213 la.toNat) (M 214 la.toNat) (M 216) (M 200 14) (M 205 t.toNat) (TW (M 205 t.toNat) (M 206 t.toNat) (M 207 t.toNat)))))) M) (hP : (((0 ≤ la ∧ la < M 200 10) ∧ 0 ≤ t ∧ t < M 200 3) ∧ lo = 0) → Pq (some (gI (prc (M 212 la.toNat) (M 213 la.toNat) (M 214 la.toNat) (M 216) (M 200 14) (M 205 t.toNat) (TW (M 205 t.toNat) (M 206 t.toNat) (M 207 t.toNat))))) M) : gCtr l my_X12_thinks mb_X12_thinks 4 ((some .int)) 6 [gR 200, gI la, gI t, gI lo] M Pq := by
  refine g_intro (by decide) (Nat.le_of_ble_eq_true rfl) ?_
  intro p e s m args below meth c D cy q A hK hr hlocks hw
  refine g_sub (L' := [(0, gR 200), (1, gI la), (2, gI t), (3, gI lo)]) [0, 1, 2, 3] rfl ?_
  refine g_aloadn (pc := 0) (i := 0) (x := 200) hK dd_X12_thinks_0 rfl rfl ?_
  refine g_iloadn (pc := 1) (i := 1) (x := la) hK dd_X12_thinks_1 rfl rfl ?_
  refine g_callV (pc := 2) (As := [gI la]) hK ws_M_193 md_X12_isLady ⟨Nat.zero_le _, Nat.zero_le _⟩ ⟨by decide, by decide⟩ (kdm kd_200) rfl rfl dd_X12_thinks_2 rfl rfl (Nat.le_of_ble_eq_true rfl) (d_isLady la h_la (fun c1 => g_r1 ?_) (fun c1 => g_r1 ?_))
  · refine g_if_eq (pc := 5) (tgt := 16) hK dd_X12_thinks_5 (by decide) (by decide) (fun c2 => absurd c2 (by decide)) (fun _ => ?_)
    refine g_aloadn (pc := 8) (i := 0) (x := 200) hK dd_X12_thinks_8 rfl rfl ?_
    refine g_iloadn (pc := 9) (i := 2) (x := t) hK dd_X12_thinks_9 rfl rfl ?_
    refine g_callV (pc := 10) (As := [gI t]) hK ws_M_165 md_X12_isThing ⟨Nat.zero_le _, Nat.zero_le _⟩ ⟨by decide, by decide⟩ (kdm kd_200) rfl rfl dd_X12_thinks_10 rfl rfl (Nat.le_of_ble_eq_true rfl) (d_isThing t h_t (fun c3 => g_r1 ?_) (fun c3 => g_r1 ?_))
    · refine g_if_ne (pc := 13) (tgt := 23) hK dd_X12_thinks_13 (by decide) (by decide) (fun _ => ?_) (fun c4 => absurd (by decide) c4)
      refine g_iloadn (pc := 23) (i := 3) (x := lo) hK dd_X12_thinks_23 rfl rfl ?_
      refine g_if_eq (pc := 24) (tgt := 36) hK dd_X12_thinks_24 (by decide) h_lo (fun c5 => ?_) (fun c5 => ?_)
      · refine g_aloadn (pc := 36) (i := 0) (x := 200) hK dd_X12_thinks_36 rfl rfl ?_
        refine g_iloadn (pc := 37) (i := 1) (x := la) hK dd_X12_thinks_37 rfl rfl ?_
        refine g_iloadn (pc := 38) (i := 2) (x := t) hK dd_X12_thinks_38 rfl rfl ?_
        refine g_callV (pc := 39) (As := [gI la, gI t]) hK ws_M_242 md_X12_priceBy ⟨Nat.zero_le _, Nat.zero_le _⟩ ⟨by decide, by decide⟩ (kdm kd_200) rfl rfl dd_X12_thinks_39 rfl rfl (Nat.le_of_ble_eq_true rfl) (d_priceBy la t (by omega) (show la < M 200 10 by omega) (by omega) (by omega) hmlc hmwc hthm hlam hlwm (g_r1 ?_))
        refine g_topI (fun y6 ey6 => ?_)
        refine g_iret (pc := 42) hK hr hlocks dd_X12_thinks_42 rfl ?_
        first | exact g_fin (hB (by first | omega | (subst_vars; omega) | exact ⟨by first | assumption | omega | (subst_vars; first | assumption | omega), by first | assumption | omega | (subst_vars; first | assumption | omega)⟩)) (by first | rfl | omega | (subst_vars; first | rfl | omega)) (by first | rfl | (subst_vars; rfl)) | exact g_fin (hL (by first | omega | (subst_vars; omega) | exact ⟨by first | assumption | omega | (subst_vars; first | assumption | omega), by first | assumption | omega | (subst_vars; first | assumption | omega)⟩)) (by first | rfl | omega | (subst_vars; first | rfl | omega)) (by first | rfl | (subst_vars; rfl)) | exact g_fin (hP (by first | omega | (subst_vars; omega) | exact ⟨by first | assumption | omega | (subst_vars; first | assumption | omega), by first | assumption | omega | (subst_vars; first | assumption | omega)⟩)) (by first | rfl | omega | (subst_vars; first | rfl | omega)) (by first | rfl | (subst_vars; rfl)) | (exfalso; omega)
      · refine g_aloadn (pc := 27) (i := 0) (x := 200) hK dd_X12_thinks_27 rfl rfl ?_
        refine g_iloadn (pc := 28) (i := 1) (x := la) hK dd_X12_thinks_28 rfl rfl ?_
        refine g_iloadn (pc := 29) (i := 2) (x := t) hK dd_X12_thinks_29 rfl rfl ?_
        refine g_callV (pc := 30) (As := [gI la, gI t]) hK ws_M_245 md_X12_lostBy ⟨Nat.zero_le _, Nat.zero_le _⟩ ⟨by decide, by decide⟩ (kdm kd_200) rfl rfl dd_X12_thinks_30 rfl rfl (Nat.le_of_ble_eq_true rfl) (d_lostBy la t (by omega) (show la < M 200 10 by omega) (by omega) (by omega) hmlc hmwc hthm hlam hlwm (g_r1 ?_))
        refine g_topI (fun y7 ey7 => ?_)
        refine g_goto (pc := 33) (tgt := 42) hK dd_X12_thinks_33 (by decide) ?_
        refine g_iret (pc := 42) hK hr hlocks dd_X12_thinks_42 rfl ?_
        first | exact g_fin (hB (by first | omega | (subst_vars; omega) | exact ⟨by first | assumption | omega | (subst_vars; first | assumption | omega), by first | assumption | omega | (subst_vars; first | assumption | omega)⟩)) (by first | rfl | omega | (subst_vars; first | rfl | omega)) (by first | rfl | (subst_vars; rfl)) | exact g_fin (hL (by first | omega | (subst_vars; omega) | exact ⟨by first | assumption | omega | (subst_vars; first | assumption | omega), by first | assumption | omega | (subst_vars; first | assumption | omega)⟩)) (by first | rfl | omega | (subst_vars; first | rfl | omega)) (by first | rfl | (subst_vars; rfl)) | exact g_fin (hP (by first | omega | (subst_vars; omega) | exact ⟨by first | assumption | omega | (subst_vars; first | assumption | omega), by first | assumption | omega | (subst_vars; first | assumption | omega)⟩)) (by first | rfl | omega | (subst_vars; first | rfl | omega)) (by first | rfl | (subst_vars; rfl)) | (exfalso; omega)
    · refine g_if_ne (pc := 13) (tgt := 23) hK dd_X12_thinks_13 (by decide) (by decide) (fun c8 => absurd c8 (by decide)) (fun _ => ?_)
      refine g_aloadn (pc := 16) (i := 0) (x := 200) hK dd_X12_thinks_16 rfl rfl ?_
      refine g_bipush (pc := 17) (x := (-2)) hK dd_X12_thinks_17 (by decide) ?_
      refine g_callV (pc := 19) (As := [gI (-2)]) hK ws_M_152 md_X12_no ⟨Nat.zero_le _, Nat.zero_le _⟩ ⟨by decide, by decide⟩ (kdm kd_200) rfl rfl dd_X12_thinks_19 rfl rfl (Nat.le_of_ble_eq_true rfl) (d_no_2 hrg (g_r1 ?_))
      refine g_iret (pc := 22) hK hr hlocks dd_X12_thinks_22 rfl ?_
      first | exact g_fin (hB (by first | omega | (subst_vars; omega) | exact ⟨by first | assumption | omega | (subst_vars; first | assumption | omega), by first | assumption | omega | (subst_vars; first | assumption | omega)⟩)) (by first | rfl | omega | (subst_vars; first | rfl | omega)) (by first | rfl | (subst_vars; rfl)) | exact g_fin (hL (by first | omega | (subst_vars; omega) | exact ⟨by first | assumption | omega | (subst_vars; first | assumption | omega), by first | assumption | omega | (subst_vars; first | assumption | omega)⟩)) (by first | rfl | omega | (subst_vars; first | rfl | omega)) (by first | rfl | (subst_vars; rfl)) | exact g_fin (hP (by first | omega | (subst_vars; omega) | exact ⟨by first | assumption | omega | (subst_vars; first | assumption | omega), by first | assumption | omega | (subst_vars; first | assumption | omega)⟩)) (by first | rfl | omega | (subst_vars; first | rfl | omega)) (by first | rfl | (subst_vars; rfl)) | (exfalso; omega)
  · refine g_if_eq (pc := 5) (tgt := 16) hK dd_X12_thinks_5 (by decide) (by decide) (fun _ => ?_) (fun c9 => absurd (by decide) c9)
    refine g_aloadn (pc := 16) (i := 0) (x := 200) hK dd_X12_thinks_16 rfl rfl ?_
    refine g_bipush (pc := 17) (x := (-2)) hK dd_X12_thinks_17 (by decide) ?_
    refine g_callV (pc := 19) (As := [gI (-2)]) hK ws_M_152 md_X12_no ⟨Nat.zero_le _, Nat.zero_le _⟩ ⟨by decide, by decide⟩ (kdm kd_200) rfl rfl dd_X12_thinks_19 rfl rfl (Nat.le_of_ble_eq_true rfl) (d_no_2 hrg (g_r1 ?_))
    refine g_iret (pc := 22) hK hr hlocks dd_X12_thinks_22 rfl ?_
    first | exact g_fin (hB (by first | omega | (subst_vars; omega) | exact ⟨by first | assumption | omega | (subst_vars; first | assumption | omega), by first | assumption | omega | (subst_vars; first | assumption | omega)⟩)) (by first | rfl | omega | (subst_vars; first | rfl | omega)) (by first | rfl | (subst_vars; rfl)) | exact g_fin (hL (by first | omega | (subst_vars; omega) | exact ⟨by first | assumption | omega | (subst_vars; first | assumption | omega), by first | assumption | omega | (subst_vars; first | assumption | omega)⟩)) (by first | rfl | omega | (subst_vars; first | rfl | omega)) (by first | rfl | (subst_vars; rfl)) | exact g_fin (hP (by first | omega | (subst_vars; omega) | exact ⟨by first | assumption | omega | (subst_vars; first | assumption | omega), by first | assumption | omega | (subst_vars; first | assumption | omega)⟩)) (by first | rfl | omega | (subst_vars; first | rfl | omega)) (by first | rfl | (subst_vars; rfl)) | (exfalso; omega)
set_option maxHeartbeats 4000000 in
set_option maxRecDepth 100000 in
theorem y_price {l : Launch} {M : Mem} {Pq : Option gV → Mem → Prop} (la : Int) (ks : Int) (h_la : inI la) (h_ks : inI ks) (hrg : rgOK M) (hmc : 0 ≤ M 200 3 ∧ M 200 3 ≤ 30) (hmlc : 0 ≤ M 200 10 ∧ M 200 10 ≤ 5) (hmwc : 0 ≤ M 200 14 ∧ M 200 14 ≤ 6) (hthm : thOKm M) (hlam : laOKm M) (hlwm : lwOK (M 216) (M 200 14)) (hB : (¬ ((0 ≤ la ∧ la < M 200 10) ∧ 0 ≤ ks ∧ ks < 64)) → Pq (some (gI (-2))) (rg M 2)) (hY : ((0 ≤ la ∧ la < M 200 10) ∧ 0 ≤ ks ∧ ks < 64) → Pq (some (gI (prN (M 205) (M 208) ks (M 200 3).toNat))) (sr M 208 (prR (M 205) (M 206) (M 207) (M 208) (M 212 la.toNat) (M 213 la.toNat) (M 214 la.toNat) (M 216) (M 200 14) ks (M 200 3).toNat))) : gCtr l my_X12_price mb_X12_price 5 ((some .int)) 5 [gR 200, gI la, gI ks] M Pq := by
  refine g_intro (by decide) (Nat.le_of_ble_eq_true rfl) ?_
  intro p e s m args below meth c D cy q A hK hr hlocks hw
  refine g_sub (L' := [(0, gR 200), (1, gI la), (2, gI ks)]) [0, 1, 2] rfl ?_
  refine g_aloadn (pc := 0) (i := 0) (x := 200) hK dd_X12_price_0 rfl rfl ?_
  refine g_iloadn (pc := 1) (i := 1) (x := la) hK dd_X12_price_1 rfl rfl ?_
  refine g_callV (pc := 2) (As := [gI la]) hK ws_M_193 md_X12_isLady ⟨Nat.zero_le _, Nat.zero_le _⟩ ⟨by decide, by decide⟩ (kdm kd_200) rfl rfl dd_X12_price_2 rfl rfl (Nat.le_of_ble_eq_true rfl) (d_isLady la h_la (fun c1 => g_r1 ?_) (fun c1 => g_r1 ?_))
  · refine g_if_eq (pc := 5) (tgt := 16) hK dd_X12_price_5 (by decide) (by decide) (fun c2 => absurd c2 (by decide)) (fun _ => ?_)
    refine g_aloadn (pc := 8) (i := 0) (x := 200) hK dd_X12_price_8 rfl rfl ?_
    refine g_iloadn (pc := 9) (i := 2) (x := ks) hK dd_X12_price_9 rfl rfl ?_
    refine g_callV (pc := 10) (As := [gI ks]) hK ws_M_190 md_X12_areKinds ⟨Nat.zero_le _, Nat.zero_le _⟩ ⟨by decide, by decide⟩ (kdm kd_200) rfl rfl dd_X12_price_10 rfl rfl (Nat.le_of_ble_eq_true rfl) (d_areKinds ks h_ks (fun c3 => g_r1 ?_) (fun c3 => g_r1 ?_))
    · refine g_if_ne (pc := 13) (tgt := 23) hK dd_X12_price_13 (by decide) (by decide) (fun _ => ?_) (fun c4 => absurd (by decide) c4)
      refine g_iconst (pc := 23) (x := 0) hK dd_X12_price_23 (by decide) ?_
      refine g_istoren (pc := 24) (i := 3) (L' := [(0, gR 200), (1, gI la), (2, gI ks), (3, gI 0)]) hK dd_X12_price_24 rfl (by decide) rfl ?_
      refine g_iconst (pc := 25) (x := 0) hK dd_X12_price_25 (by decide) ?_
      refine g_istore (pc := 26) (i := 4) (L' := [(0, gR 200), (1, gI la), (2, gI ks), (3, gI 0), (4, gI 0)]) hK dd_X12_price_26 (by decide) rfl ?_
      have lp7 : ∀ (n5 : Nat) (n : Int) (t : Int), (0 ≤ t ∧ t ≤ M 200 3) → (n = prN (M 205) (M 208) ks t.toNat) → (M 200 3 - t).toNat < n5 → G p l e (rmD 5) s m args below meth c D cy q A 0 0 5 (MQ below (gQc D cy q A Pq) args s 0 0 A) 28 [(0, gR 200), (1, gI la), (2, gI ks), (3, gI n), (4, gI t)] [] (sr M 208 (prR (M 205) (M 206) (M 207) (M 208) (M 212 la.toNat) (M 213 la.toNat) (M 214 la.toNat) (M 216) (M 200 14) ks t.toNat)) := by
        intro n5
        induction n5 with
        | zero => intro n t iv8 iv9 hm10; exact absurd hm10 (Nat.not_lt_zero _)
        | succ n5 ih6 =>
          intro n t iv8 iv9 hm10
          refine g_iload (pc := 28) (i := 4) (x := t) hK dd_X12_price_28 rfl ?_
          have hg := (hlam la.toNat (by omega)).2.1
          have hpn := prN_in (M 205) (M 208) ks t.toNat
          have hthm0 := hthm
          have hthm : thOKm (sr M 208 (prR (M 205) (M 206) (M 207) (M 208) (M 212 la.toNat) (M 213 la.toNat) (M 214 la.toNat) (M 216) (M 200 14) ks t.toNat)) := thOKm_P hthm0 (prR_in hlwm hg (fun j hj => (hthm0 j hj).2.1) (fun j hj => (hthm0 j hj).2.2.2.1))
          refine g_aloadn (pc := 30) (i := 0) (x := 200) hK dd_X12_price_30 rfl rfl ?_
          refine g_geti (pc := 31) (f := (0, 0)) (j := 3) hK (kdm kd_200) rfl ef_12 (by decide) rfl kk_1104 nl_200 dd_X12_price_31 rfl (fun x11 ex11 rx11 => ?_)
          replace ex11 : x11 = M 200 3 := ex11
          refine g_icmp_ge (pc := 34) (tgt := 88) hK dd_X12_price_34 (by decide) ⟨by omega, by omega⟩ rx11 (fun c12 => ?_) (fun c12 => ?_)
          · refine g_iloadn (pc := 88) (i := 3) (x := n) hK dd_X12_price_88 rfl rfl ?_
            refine g_iret (pc := 89) hK hr hlocks dd_X12_price_89 rfl ?_
            first | exact g_fin (hB (by first | omega | (subst_vars; omega) | exact ⟨by first | assumption | omega | (subst_vars; first | assumption | omega), by first | assumption | omega | (subst_vars; first | assumption | omega)⟩)) (by first | rfl | omega | (subst_vars; first | rfl | omega)) (by first | rfl | (subst_vars; rfl)) | exact g_fin (hY (by first | omega | (subst_vars; omega) | exact ⟨by first | assumption | omega | (subst_vars; first | assumption | omega), by first | assumption | omega | (subst_vars; first | assumption | omega)⟩)) (by rw [show M 200 3 = t by omega]; omega) (by rw [show M 200 3 = t by omega]) | (exfalso; omega)
          · have hprt := (hthm0 t.toNat (by omega)).2.2.2.1
            have htw := TW_in (M 205 t.toNat) (M 207 t.toNat) (hthm0 t.toNat (by omega)).2.1.1 (hthm0 t.toNat (by omega)).2.1.2
            have hpp := prc_in (kn := M 212 la.toNat) (lw := M 214 la.toNat) (k := M 205 t.toNat) hlwm hg htw
            refine g_aloadn (pc := 37) (i := 0) (x := 200) hK dd_X12_price_37 rfl rfl ?_
            refine g_getv (pc := 38) (f := (1, 8)) (j := 7) (v := gR 208) hK (kdm kd_200) rfl ef_12 (by decide) rfl kk_1108 dd_X12_price_38 rfl ?_
            refine g_iload (pc := 41) (i := 4) (x := t) hK dd_X12_price_41 rfl ?_
            refine g_iald (pc := 43) hK (kdm kd_208) nl_208 (by decide) dd_X12_price_43 (by omega) (by omega) (fun x13 ex13 rx13 => ?_)
            replace ex13 : x13 = (prR (M 205) (M 206) (M 207) (M 208) (M 212 la.toNat) (M 213 la.toNat) (M 214 la.toNat) (M 216) (M 200 14) ks t.toNat) t.toNat := by first | exact ex13 | (rw [ex13]; simp [up, us, cp, sr])
            rw [prR_n] at ex13
            refine g_if_ge (pc := 44) (tgt := 82) hK dd_X12_price_44 (by decide) rx13 (fun c14 => ?_) (fun c14 => ?_)
            · refine g_iinc (pc := 82) (i := 4) (y := t + 1) (L' := [(0, gR 200), (1, gI la), (2, gI ks), (3, gI n), (4, gI (t + 1))]) hK dd_X12_price_82 rfl rfl (by decide) rfl ?_
              refine g_goto (pc := 85) (tgt := 28) hK dd_X12_price_85 (by decide) ?_
              refine g_sub (L' := [(0, gR 200), (1, gI la), (2, gI ks), (3, gI n), (4, gI (t + 1))]) [0, 1, 2, 3, 4] rfl ?_
              refine g_mem (M2 := sr M 208 (prR (M 205) (M 206) (M 207) (M 208) (M 212 la.toNat) (M 213 la.toNat) (M 214 la.toNat) (M 216) (M 200 14) ks (t + 1).toNat)) (by rw [tn1 (by omega)]; first | (rw [prR_x (fun z => absurd z.1 (by omega))]) | (rw [prR_x (fun z => absurd z.2 (by subst_vars; assumption))]) | (rw [sr_up]; congr 1; first | (rw [← prR_y ⟨by omega, by subst_vars; assumption⟩]; congr 1) | skip)) ?_
              exact ih6 n (t + 1) (by omega) (by rw [tn1 (by omega)]; simp only [prN]; first | (rw [if_pos ⟨by omega, by subst_vars; assumption⟩]; omega) | (rw [if_neg (fun z => absurd z.1 (by omega))]; omega) | (rw [if_neg (fun z => absurd z.2 (by subst_vars; assumption))]; omega)) (by omega)
            · refine g_aloadn (pc := 47) (i := 0) (x := 200) hK dd_X12_price_47 rfl rfl ?_
              refine g_iloadn (pc := 48) (i := 2) (x := ks) hK dd_X12_price_48 rfl rfl ?_
              refine g_aloadn (pc := 49) (i := 0) (x := 200) hK dd_X12_price_49 rfl rfl ?_
              refine g_getv (pc := 50) (f := (1, 5)) (j := 4) (v := gR 205) hK (kdm kd_200) rfl ef_12 (by decide) rfl kk_1105 dd_X12_price_50 rfl ?_
              refine g_iload (pc := 53) (i := 4) (x := t) hK dd_X12_price_53 rfl ?_
              refine g_iald (pc := 55) hK (kdm kd_205) nl_205 (by decide) dd_X12_price_55 (by omega) (by omega) (fun x15 ex15 rx15 => ?_)
              replace ex15 : x15 = M 205 t.toNat := ex15
              refine g_callV (pc := 56) (As := [gI ks, gI x15]) hK ws_M_181 md_X12_isOf ⟨Nat.zero_le _, Nat.zero_le _⟩ ⟨by decide, by decide⟩ (kdm kd_200) rfl rfl dd_X12_price_56 rfl rfl (Nat.le_of_ble_eq_true rfl) (d_isOf ks x15 (fun c16 => g_r1 ?_) (fun c16 => g_r1 ?_))
              · refine g_if_ne (pc := 59) (tgt := 65) hK dd_X12_price_59 (by decide) (by decide) (fun _ => ?_) (fun c17 => absurd (by decide) c17)
                refine g_aloadn (pc := 65) (i := 0) (x := 200) hK dd_X12_price_65 rfl rfl ?_
                refine g_getv (pc := 66) (f := (1, 8)) (j := 7) (v := gR 208) hK (kdm kd_200) rfl ef_12 (by decide) rfl kk_1108 dd_X12_price_66 rfl ?_
                refine g_iload (pc := 69) (i := 4) (x := t) hK dd_X12_price_69 rfl ?_
                refine g_aloadn (pc := 71) (i := 0) (x := 200) hK dd_X12_price_71 rfl rfl ?_
                refine g_iloadn (pc := 72) (i := 1) (x := la) hK dd_X12_price_72 rfl rfl ?_
                refine g_iload (pc := 73) (i := 4) (x := t) hK dd_X12_price_73 rfl ?_
                refine g_callV (pc := 75) (As := [gI la, gI t]) hK ws_M_242 md_X12_priceBy ⟨Nat.zero_le _, Nat.zero_le _⟩ ⟨by decide, by decide⟩ (kdm kd_200) rfl rfl dd_X12_price_75 rfl rfl (Nat.le_of_ble_eq_true rfl) (d_priceBy la t (by omega) (show la < M 200 10 by omega) (by omega) (by omega) hmlc hmwc hthm hlam hlwm (g_r1 ?_))
                refine g_topI (fun y18 ey18 => ?_)
                replace ey18 : y18 = prc (M 212 la.toNat) (M 213 la.toNat) (M 214 la.toNat) (M 216) (M 200 14) (M 205 t.toNat) (TW (M 205 t.toNat) (M 206 t.toNat) (M 207 t.toNat)) := ey18
                refine g_iast (pc := 78) hK (kdm kd_208) nl_208 (by decide) (by decide) dd_X12_price_78 (by omega) (by omega) ⟨by omega, by omega⟩ ?_
                refine g_iinc (pc := 79) (i := 3) (y := n + 1) (L' := [(0, gR 200), (1, gI la), (2, gI ks), (3, gI (n + 1)), (4, gI t)]) hK dd_X12_price_79 rfl rfl (by decide) rfl ?_
                refine g_iinc (pc := 82) (i := 4) (y := t + 1) (L' := [(0, gR 200), (1, gI la), (2, gI ks), (3, gI (n + 1)), (4, gI (t + 1))]) hK dd_X12_price_82 rfl rfl (by decide) rfl ?_
                refine g_goto (pc := 85) (tgt := 28) hK dd_X12_price_85 (by decide) ?_
                refine g_sub (L' := [(0, gR 200), (1, gI la), (2, gI ks), (3, gI (n + 1)), (4, gI (t + 1))]) [0, 1, 2, 3, 4] rfl ?_
                refine g_mem (M2 := sr M 208 (prR (M 205) (M 206) (M 207) (M 208) (M 212 la.toNat) (M 213 la.toNat) (M 214 la.toNat) (M 216) (M 200 14) ks (t + 1).toNat)) (by rw [tn1 (by omega)]; first | (rw [prR_x (fun z => absurd z.1 (by omega))]) | (rw [prR_x (fun z => absurd z.2 (by subst_vars; assumption))]) | (rw [sr_up]; congr 1; first | (rw [← prR_y ⟨by omega, by subst_vars; assumption⟩]; congr 1) | skip)) ?_
                exact ih6 (n + 1) (t + 1) (by omega) (by rw [tn1 (by omega)]; simp only [prN]; first | (rw [if_pos ⟨by omega, by subst_vars; assumption⟩]; omega) | (rw [if_neg (fun z => absurd z.1 (by omega))]; omega) | (rw [if_neg (fun z => absurd z.2 (by subst_vars; assumption))]; omega)) (by omega)
              · refine g_if_ne (pc := 59) (tgt := 65) hK dd_X12_price_59 (by decide) (by decide) (fun c19 => absurd c19 (by decide)) (fun _ => ?_)
                refine g_goto (pc := 62) (tgt := 82) hK dd_X12_price_62 (by decide) ?_
                refine g_iinc (pc := 82) (i := 4) (y := t + 1) (L' := [(0, gR 200), (1, gI la), (2, gI ks), (3, gI n), (4, gI (t + 1))]) hK dd_X12_price_82 rfl rfl (by decide) rfl ?_
                refine g_goto (pc := 85) (tgt := 28) hK dd_X12_price_85 (by decide) ?_
                refine g_sub (L' := [(0, gR 200), (1, gI la), (2, gI ks), (3, gI n), (4, gI (t + 1))]) [0, 1, 2, 3, 4] rfl ?_
                refine g_mem (M2 := sr M 208 (prR (M 205) (M 206) (M 207) (M 208) (M 212 la.toNat) (M 213 la.toNat) (M 214 la.toNat) (M 216) (M 200 14) ks (t + 1).toNat)) (by rw [tn1 (by omega)]; first | (rw [prR_x (fun z => absurd z.1 (by omega))]) | (rw [prR_x (fun z => absurd z.2 (by subst_vars; assumption))]) | (rw [sr_up]; congr 1; first | (rw [← prR_y ⟨by omega, by subst_vars; assumption⟩]; congr 1) | skip)) ?_
                exact ih6 n (t + 1) (by omega) (by rw [tn1 (by omega)]; simp only [prN]; first | (rw [if_pos ⟨by omega, by subst_vars; assumption⟩]; omega) | (rw [if_neg (fun z => absurd z.1 (by omega))]; omega) | (rw [if_neg (fun z => absurd z.2 (by subst_vars; assumption))]; omega)) (by omega)
      refine g_mem (M2 := sr M 208 (prR (M 205) (M 206) (M 207) (M 208) (M 212 la.toNat) (M 213 la.toNat) (M 214 la.toNat) (M 216) (M 200 14) ks (0 : Int).toNat)) (by show M = sr M 208 (prR (M 205) (M 206) (M 207) (M 208) (M 212 la.toNat) (M 213 la.toNat) (M 214 la.toNat) (M 216) (M 200 14) ks 0); rw [prR_0]; exact sr_self.symm) ?_
      refine g_sub (L' := [(0, gR 200), (1, gI la), (2, gI ks), (3, gI 0), (4, gI 0)]) [0, 1, 2, 3, 4] rfl ?_
      exact lp7 _ 0 0 (by omega) (rfl) (Nat.lt_succ_self _)
    · refine g_if_ne (pc := 13) (tgt := 23) hK dd_X12_price_13 (by decide) (by decide) (fun c20 => absurd c20 (by decide)) (fun _ => ?_)
      refine g_aloadn (pc := 16) (i := 0) (x := 200) hK dd_X12_price_16 rfl rfl ?_
      refine g_bipush (pc := 17) (x := (-2)) hK dd_X12_price_17 (by decide) ?_
      refine g_callV (pc := 19) (As := [gI (-2)]) hK ws_M_152 md_X12_no ⟨Nat.zero_le _, Nat.zero_le _⟩ ⟨by decide, by decide⟩ (kdm kd_200) rfl rfl dd_X12_price_19 rfl rfl (Nat.le_of_ble_eq_true rfl) (d_no_2 hrg (g_r1 ?_))
      refine g_iret (pc := 22) hK hr hlocks dd_X12_price_22 rfl ?_
      first | exact g_fin (hB (by first | omega | (subst_vars; omega) | exact ⟨by first | assumption | omega | (subst_vars; first | assumption | omega), by first | assumption | omega | (subst_vars; first | assumption | omega)⟩)) (by first | rfl | omega | (subst_vars; first | rfl | omega)) (by first | rfl | (subst_vars; rfl)) | exact g_fin (hY (by first | omega | (subst_vars; omega) | exact ⟨by first | assumption | omega | (subst_vars; first | assumption | omega), by first | assumption | omega | (subst_vars; first | assumption | omega)⟩)) (by rw [show M 200 3 = t by omega]; omega) (by rw [show M 200 3 = t by omega]) | (exfalso; omega)
  · refine g_if_eq (pc := 5) (tgt := 16) hK dd_X12_price_5 (by decide) (by decide) (fun _ => ?_) (fun c21 => absurd (by decide) c21)
    refine g_aloadn (pc := 16) (i := 0) (x := 200) hK dd_X12_price_16 rfl rfl ?_
    refine g_bipush (pc := 17) (x := (-2)) hK dd_X12_price_17 (by decide) ?_
    refine g_callV (pc := 19) (As := [gI (-2)]) hK ws_M_152 md_X12_no ⟨Nat.zero_le _, Nat.zero_le _⟩ ⟨by decide, by decide⟩ (kdm kd_200) rfl rfl dd_X12_price_19 rfl rfl (Nat.le_of_ble_eq_true rfl) (d_no_2 hrg (g_r1 ?_))
    refine g_iret (pc := 22) hK hr hlocks dd_X12_price_22 rfl ?_
    first | exact g_fin (hB (by first | omega | (subst_vars; omega) | exact ⟨by first | assumption | omega | (subst_vars; first | assumption | omega), by first | assumption | omega | (subst_vars; first | assumption | omega)⟩)) (by first | rfl | omega | (subst_vars; first | rfl | omega)) (by first | rfl | (subst_vars; rfl)) | exact g_fin (hY (by first | omega | (subst_vars; omega) | exact ⟨by first | assumption | omega | (subst_vars; first | assumption | omega), by first | assumption | omega | (subst_vars; first | assumption | omega)⟩)) (by rw [show M 200 3 = t by omega]; omega) (by rw [show M 200 3 = t by omega]) | (exfalso; omega)
set_option maxHeartbeats 4000000 in
set_option maxRecDepth 100000 in
theorem y_loses {l : Launch} {M : Mem} {Pq : Option gV → Mem → Prop} (la : Int) (ks : Int) (h_la : inI la) (h_ks : inI ks) (hrg : rgOK M) (hmc : 0 ≤ M 200 3 ∧ M 200 3 ≤ 30) (hmlc : 0 ≤ M 200 10 ∧ M 200 10 ≤ 5) (hmwc : 0 ≤ M 200 14 ∧ M 200 14 ≤ 6) (hthm : thOKm M) (hlam : laOKm M) (hlwm : lwOK (M 216) (M 200 14)) (hB : (¬ ((0 ≤ la ∧ la < M 200 10) ∧ 0 ≤ ks ∧ ks < 64)) → Pq (some (gI (-2))) (rg M 2)) (hY : ((0 ≤ la ∧ la < M 200 10) ∧ 0 ≤ ks ∧ ks < 64) → Pq (some (gI (losK (M 205) (M 206) (M 207) (M 212 la.toNat) (M 213 la.toNat) (M 214 la.toNat) (M 216) (M 200 14) ks (M 200 3).toNat))) M) : gCtr l my_X12_loses mb_X12_loses 3 ((some .int)) 7 [gR 200, gI la, gI ks] M Pq := by
  refine g_intro (by decide) (Nat.le_of_ble_eq_true rfl) ?_
  intro p e s m args below meth c D cy q A hK hr hlocks hw
  refine g_sub (L' := [(0, gR 200), (1, gI la), (2, gI ks)]) [0, 1, 2] rfl ?_
  refine g_aloadn (pc := 0) (i := 0) (x := 200) hK dd_X12_loses_0 rfl rfl ?_
  refine g_iloadn (pc := 1) (i := 1) (x := la) hK dd_X12_loses_1 rfl rfl ?_
  refine g_callV (pc := 2) (As := [gI la]) hK ws_M_193 md_X12_isLady ⟨Nat.zero_le _, Nat.zero_le _⟩ ⟨by decide, by decide⟩ (kdm kd_200) rfl rfl dd_X12_loses_2 rfl rfl (Nat.le_of_ble_eq_true rfl) (d_isLady la h_la (fun c1 => g_r1 ?_) (fun c1 => g_r1 ?_))
  · refine g_if_eq (pc := 5) (tgt := 16) hK dd_X12_loses_5 (by decide) (by decide) (fun c2 => absurd c2 (by decide)) (fun _ => ?_)
    refine g_aloadn (pc := 8) (i := 0) (x := 200) hK dd_X12_loses_8 rfl rfl ?_
    refine g_iloadn (pc := 9) (i := 2) (x := ks) hK dd_X12_loses_9 rfl rfl ?_
    refine g_callV (pc := 10) (As := [gI ks]) hK ws_M_190 md_X12_areKinds ⟨Nat.zero_le _, Nat.zero_le _⟩ ⟨by decide, by decide⟩ (kdm kd_200) rfl rfl dd_X12_loses_10 rfl rfl (Nat.le_of_ble_eq_true rfl) (d_areKinds ks h_ks (fun c3 => g_r1 ?_) (fun c3 => g_r1 ?_))
    · refine g_if_ne (pc := 13) (tgt := 23) hK dd_X12_loses_13 (by decide) (by decide) (fun _ => ?_) (fun c4 => absurd (by decide) c4)
      refine g_aloadn (pc := 23) (i := 0) (x := 200) hK dd_X12_loses_23 rfl rfl ?_
      refine g_iloadn (pc := 24) (i := 1) (x := la) hK dd_X12_loses_24 rfl rfl ?_
      refine g_iloadn (pc := 25) (i := 2) (x := ks) hK dd_X12_loses_25 rfl rfl ?_
      refine g_callV (pc := 26) (As := [gI la, gI ks]) hK ws_M_267 md_X12_lostOver ⟨Nat.zero_le _, Nat.zero_le _⟩ ⟨by decide, by decide⟩ (kdm kd_200) rfl rfl dd_X12_loses_26 rfl rfl (Nat.le_of_ble_eq_true rfl) (d_lostOver la ks (by omega) (show la < M 200 10 by omega) hmc hmlc hmwc hthm hlam hlwm (g_r1 ?_))
      refine g_topI (fun y5 ey5 => ?_)
      refine g_iret (pc := 29) hK hr hlocks dd_X12_loses_29 rfl ?_
      first | exact g_fin (hB (by first | omega | (subst_vars; omega) | exact ⟨by first | assumption | omega | (subst_vars; first | assumption | omega), by first | assumption | omega | (subst_vars; first | assumption | omega)⟩)) (by first | rfl | omega | (subst_vars; first | rfl | omega)) (by first | rfl | (subst_vars; rfl)) | exact g_fin (hY (by first | omega | (subst_vars; omega) | exact ⟨by first | assumption | omega | (subst_vars; first | assumption | omega), by first | assumption | omega | (subst_vars; first | assumption | omega)⟩)) (by first | rfl | omega | (subst_vars; first | rfl | omega)) (by first | rfl | (subst_vars; rfl)) | (exfalso; omega)
    · refine g_if_ne (pc := 13) (tgt := 23) hK dd_X12_loses_13 (by decide) (by decide) (fun c6 => absurd c6 (by decide)) (fun _ => ?_)
      refine g_aloadn (pc := 16) (i := 0) (x := 200) hK dd_X12_loses_16 rfl rfl ?_
      refine g_bipush (pc := 17) (x := (-2)) hK dd_X12_loses_17 (by decide) ?_
      refine g_callV (pc := 19) (As := [gI (-2)]) hK ws_M_152 md_X12_no ⟨Nat.zero_le _, Nat.zero_le _⟩ ⟨by decide, by decide⟩ (kdm kd_200) rfl rfl dd_X12_loses_19 rfl rfl (Nat.le_of_ble_eq_true rfl) (d_no_2 hrg (g_r1 ?_))
      refine g_iret (pc := 22) hK hr hlocks dd_X12_loses_22 rfl ?_
      first | exact g_fin (hB (by first | omega | (subst_vars; omega) | exact ⟨by first | assumption | omega | (subst_vars; first | assumption | omega), by first | assumption | omega | (subst_vars; first | assumption | omega)⟩)) (by first | rfl | omega | (subst_vars; first | rfl | omega)) (by first | rfl | (subst_vars; rfl)) | exact g_fin (hY (by first | omega | (subst_vars; omega) | exact ⟨by first | assumption | omega | (subst_vars; first | assumption | omega), by first | assumption | omega | (subst_vars; first | assumption | omega)⟩)) (by first | rfl | omega | (subst_vars; first | rfl | omega)) (by first | rfl | (subst_vars; rfl)) | (exfalso; omega)
  · refine g_if_eq (pc := 5) (tgt := 16) hK dd_X12_loses_5 (by decide) (by decide) (fun _ => ?_) (fun c7 => absurd (by decide) c7)
    refine g_aloadn (pc := 16) (i := 0) (x := 200) hK dd_X12_loses_16 rfl rfl ?_
    refine g_bipush (pc := 17) (x := (-2)) hK dd_X12_loses_17 (by decide) ?_
    refine g_callV (pc := 19) (As := [gI (-2)]) hK ws_M_152 md_X12_no ⟨Nat.zero_le _, Nat.zero_le _⟩ ⟨by decide, by decide⟩ (kdm kd_200) rfl rfl dd_X12_loses_19 rfl rfl (Nat.le_of_ble_eq_true rfl) (d_no_2 hrg (g_r1 ?_))
    refine g_iret (pc := 22) hK hr hlocks dd_X12_loses_22 rfl ?_
    first | exact g_fin (hB (by first | omega | (subst_vars; omega) | exact ⟨by first | assumption | omega | (subst_vars; first | assumption | omega), by first | assumption | omega | (subst_vars; first | assumption | omega)⟩)) (by first | rfl | omega | (subst_vars; first | rfl | omega)) (by first | rfl | (subst_vars; rfl)) | exact g_fin (hY (by first | omega | (subst_vars; omega) | exact ⟨by first | assumption | omega | (subst_vars; first | assumption | omega), by first | assumption | omega | (subst_vars; first | assumption | omega)⟩)) (by first | rfl | omega | (subst_vars; first | rfl | omega)) (by first | rfl | (subst_vars; rfl)) | (exfalso; omega)
