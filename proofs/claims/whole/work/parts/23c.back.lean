set_option maxHeartbeats 4000000 in
set_option maxRecDepth 100000 in
theorem c_become_46 {l : Launch} {M : Mem} {Pq : Option gV → Mem → Prop}  (hQ : Pq none (bcm46 M)) : gCtr l my_X1_become mb_X1_become 2 ((none : Option Jvm.ClassFile.FieldType)) 2 [gR 46, gR 5] M Pq := by
  refine g_intro (by decide) (Nat.le_of_ble_eq_true rfl) ?_
  intro p e s m args below meth c D cy q A hK hr hlocks hw
  refine g_sub (L' := [(0, gR 46), (1, gR 5)]) [0, 1] rfl ?_
  refine g_aloadn (pc := 0) (i := 0) (x := 46) hK dd_X1_become_0 rfl rfl ?_
  refine g_getv (pc := 1) (f := (1, 1)) (j := 0) (v := gR 47) hK (kdm kd_46) rfl ef_1 (by decide) rfl kk_258 dd_X1_become_1 rfl ?_
  refine g_aloadn (pc := 4) (i := 1) (x := 5) hK dd_X1_become_4 rfl rfl ?_
  refine g_getv (pc := 5) (f := (1, 1)) (j := 0) (v := gR 6) hK (kdm kd_5) rfl ef_1 (by decide) rfl kk_258 dd_X1_become_5 rfl ?_
  refine g_callV (pc := 8) (As := [gR 6]) hK ws_Hall_145 md_X10_become ⟨Nat.zero_le _, Nat.zero_le _⟩ ⟨by decide, by decide⟩ (kdm kd_47) rfl rfl dd_X1_become_8 rfl rfl (Nat.le_of_ble_eq_true rfl) (c_become_47_6  (g_r0 ?_))
  refine g_mem (M2 := up (cp (cp (cp (cp (cp (cp M 48 (M 7) 0 0 30) 49 (M 8) 0 0 30) 50 (M 9) 0 0 30) 51 (M 10) 0 0 30) 52 (M 11) 0 0 30) 53 (M 12) 0 0 30) 47 6 (M 6 6)) (by rfl) ?_
  refine g_aloadn (pc := 11) (i := 0) (x := 46) hK dd_X1_become_11 rfl rfl ?_
  refine g_getv (pc := 12) (f := (1, 9)) (j := 1) (v := gR 55) hK (kdm kd_46) rfl ef_1 (by decide) rfl kk_261 dd_X1_become_12 rfl ?_
  refine g_aloadn (pc := 15) (i := 1) (x := 5) hK dd_X1_become_15 rfl rfl ?_
  refine g_getv (pc := 16) (f := (1, 9)) (j := 1) (v := gR 14) hK (kdm kd_5) rfl ef_1 (by decide) rfl kk_261 dd_X1_become_16 rfl ?_
  refine g_callV (pc := 19) (As := [gR 14]) hK ws_Hall_149 md_X2_become ⟨Nat.zero_le _, Nat.zero_le _⟩ ⟨by decide, by decide⟩ (kdm kd_55) rfl rfl dd_X1_become_19 rfl rfl (Nat.le_of_ble_eq_true rfl) (c_become_55_14  (g_r0 ?_))
  refine g_mem (M2 := up (cp (cp (cp (up (cp (cp (cp (cp (cp (cp M 48 (M 7) 0 0 30) 49 (M 8) 0 0 30) 50 (M 9) 0 0 30) 51 (M 10) 0 0 30) 52 (M 11) 0 0 30) 53 (M 12) 0 0 30) 47 6 (M 6 6)) 56 (M 15) 0 0 5) 57 (M 16) 0 0 5) 58 (M 17) 0 0 5) 55 3 (M 14 3)) (by rfl) ?_
  refine g_aloadn (pc := 22) (i := 0) (x := 46) hK dd_X1_become_22 rfl rfl ?_
  refine g_getv (pc := 23) (f := (1, 13)) (j := 2) (v := gR 59) hK (kdm kd_46) rfl ef_1 (by decide) rfl kk_263 dd_X1_become_23 rfl ?_
  refine g_aloadn (pc := 26) (i := 1) (x := 5) hK dd_X1_become_26 rfl rfl ?_
  refine g_getv (pc := 27) (f := (1, 13)) (j := 2) (v := gR 18) hK (kdm kd_5) rfl ef_1 (by decide) rfl kk_263 dd_X1_become_27 rfl ?_
  refine g_callV (pc := 30) (As := [gR 18]) hK ws_Hall_152 md_X3_become ⟨Nat.zero_le _, Nat.zero_le _⟩ ⟨by decide, by decide⟩ (kdm kd_59) rfl rfl dd_X1_become_30 rfl rfl (Nat.le_of_ble_eq_true rfl) (c_become_59_18  (g_r0 ?_))
  refine g_mem (M2 := up (cp (up (cp (cp (cp (up (cp (cp (cp (cp (cp (cp M 48 (M 7) 0 0 30) 49 (M 8) 0 0 30) 50 (M 9) 0 0 30) 51 (M 10) 0 0 30) 52 (M 11) 0 0 30) 53 (M 12) 0 0 30) 47 6 (M 6 6)) 56 (M 15) 0 0 5) 57 (M 16) 0 0 5) 58 (M 17) 0 0 5) 55 3 (M 14 3)) 60 (M 19) 0 0 30) 59 2 (M 18 2)) (by rfl) ?_
  refine g_aloadn (pc := 33) (i := 0) (x := 46) hK dd_X1_become_33 rfl rfl ?_
  refine g_getv (pc := 34) (f := (1, 16)) (j := 3) (v := gR 62) hK (kdm kd_46) rfl ef_1 (by decide) rfl kk_265 dd_X1_become_34 rfl ?_
  refine g_aloadn (pc := 37) (i := 1) (x := 5) hK dd_X1_become_37 rfl rfl ?_
  refine g_getv (pc := 38) (f := (1, 16)) (j := 3) (v := gR 21) hK (kdm kd_5) rfl ef_1 (by decide) rfl kk_265 dd_X1_become_38 rfl ?_
  refine g_callV (pc := 41) (As := [gR 21]) hK ws_Hall_155 md_X0_become ⟨Nat.zero_le _, Nat.zero_le _⟩ ⟨by decide, by decide⟩ (kdm kd_62) rfl rfl dd_X1_become_41 rfl rfl (Nat.le_of_ble_eq_true rfl) (c_become_62_21  (g_r0 ?_))
  refine g_mem (M2 := up (cp (cp (cp (cp (cp (up (cp (up (cp (cp (cp (up (cp (cp (cp (cp (cp (cp M 48 (M 7) 0 0 30) 49 (M 8) 0 0 30) 50 (M 9) 0 0 30) 51 (M 10) 0 0 30) 52 (M 11) 0 0 30) 53 (M 12) 0 0 30) 47 6 (M 6 6)) 56 (M 15) 0 0 5) 57 (M 16) 0 0 5) 58 (M 17) 0 0 5) 55 3 (M 14 3)) 60 (M 19) 0 0 30) 59 2 (M 18 2)) 63 (M 22) 0 0 12) 64 (M 23) 0 0 12) 65 (M 24) 0 0 12) 66 (M 25) 0 0 12) 67 (M 26) 0 0 12) 62 5 (M 21 5)) (by rfl) ?_
  refine g_aloadn (pc := 44) (i := 0) (x := 46) hK dd_X1_become_44 rfl rfl ?_
  refine g_getv (pc := 45) (f := (1, 22)) (j := 4) (v := gR 68) hK (kdm kd_46) rfl ef_1 (by decide) rfl kk_268 dd_X1_become_45 rfl ?_
  refine g_aloadn (pc := 48) (i := 1) (x := 5) hK dd_X1_become_48 rfl rfl ?_
  refine g_getv (pc := 49) (f := (1, 22)) (j := 4) (v := gR 27) hK (kdm kd_5) rfl ef_1 (by decide) rfl kk_268 dd_X1_become_49 rfl ?_
  refine g_callV (pc := 52) (As := [gR 27]) hK ws_Hall_158 md_X8_become ⟨Nat.zero_le _, Nat.zero_le _⟩ ⟨by decide, by decide⟩ (kdm kd_68) rfl rfl dd_X1_become_52 rfl rfl (Nat.le_of_ble_eq_true rfl) (c_become_68_27  (g_r0 ?_))
  refine g_mem (M2 := up (cp (cp (cp (cp (up (cp (cp (cp (cp (cp (up (cp (up (cp (cp (cp (up (cp (cp (cp (cp (cp (cp M 48 (M 7) 0 0 30) 49 (M 8) 0 0 30) 50 (M 9) 0 0 30) 51 (M 10) 0 0 30) 52 (M 11) 0 0 30) 53 (M 12) 0 0 30) 47 6 (M 6 6)) 56 (M 15) 0 0 5) 57 (M 16) 0 0 5) 58 (M 17) 0 0 5) 55 3 (M 14 3)) 60 (M 19) 0 0 30) 59 2 (M 18 2)) 63 (M 22) 0 0 12) 64 (M 23) 0 0 12) 65 (M 24) 0 0 12) 66 (M 25) 0 0 12) 67 (M 26) 0 0 12) 62 5 (M 21 5)) 69 (M 28) 0 0 20) 70 (M 29) 0 0 20) 71 (M 30) 0 0 20) 72 (M 31) 0 0 20) 68 4 (M 27 4)) (by rfl) ?_
  refine g_aloadn (pc := 55) (i := 0) (x := 46) hK dd_X1_become_55 rfl rfl ?_
  refine g_getv (pc := 56) (f := (1, 30)) (j := 5) (v := gR 76) hK (kdm kd_46) rfl ef_1 (by decide) rfl kk_270 dd_X1_become_56 rfl ?_
  refine g_aloadn (pc := 59) (i := 1) (x := 5) hK dd_X1_become_59 rfl rfl ?_
  refine g_getv (pc := 60) (f := (1, 30)) (j := 5) (v := gR 35) hK (kdm kd_5) rfl ef_1 (by decide) rfl kk_270 dd_X1_become_60 rfl ?_
  refine g_callV (pc := 63) (As := [gR 35]) hK ws_Hall_161 md_X6_become ⟨Nat.zero_le _, Nat.zero_le _⟩ ⟨by decide, by decide⟩ (kdm kd_76) rfl rfl dd_X1_become_63 rfl rfl (Nat.le_of_ble_eq_true rfl) (c_become_76_35  (g_r0 ?_))
  refine g_mem (M2 := up (cp (cp (cp (up (cp (cp (cp (cp (up (cp (cp (cp (cp (cp (up (cp (up (cp (cp (cp (up (cp (cp (cp (cp (cp (cp M 48 (M 7) 0 0 30) 49 (M 8) 0 0 30) 50 (M 9) 0 0 30) 51 (M 10) 0 0 30) 52 (M 11) 0 0 30) 53 (M 12) 0 0 30) 47 6 (M 6 6)) 56 (M 15) 0 0 5) 57 (M 16) 0 0 5) 58 (M 17) 0 0 5) 55 3 (M 14 3)) 60 (M 19) 0 0 30) 59 2 (M 18 2)) 63 (M 22) 0 0 12) 64 (M 23) 0 0 12) 65 (M 24) 0 0 12) 66 (M 25) 0 0 12) 67 (M 26) 0 0 12) 62 5 (M 21 5)) 69 (M 28) 0 0 20) 70 (M 29) 0 0 20) 71 (M 30) 0 0 20) 72 (M 31) 0 0 20) 68 4 (M 27 4)) 77 (M 36) 0 0 10) 78 (M 37) 0 0 10) 79 (M 38) 0 0 16) 76 2 (M 35 2)) (by rfl) ?_
  refine g_aloadn (pc := 66) (i := 1) (x := 5) hK dd_X1_become_66 rfl rfl ?_
  refine g_getv (pc := 67) (f := (1, 38)) (j := 6) (v := gR 43) hK (kdm kd_5) rfl ef_1 (by decide) rfl kk_272 dd_X1_become_67 rfl ?_
  refine g_iconst (pc := 70) (x := 0) hK dd_X1_become_70 (by decide) ?_
  refine g_aloadn (pc := 71) (i := 0) (x := 46) hK dd_X1_become_71 rfl rfl ?_
  refine g_getv (pc := 72) (f := (1, 38)) (j := 6) (v := gR 84) hK (kdm kd_46) rfl ef_1 (by decide) rfl kk_272 dd_X1_become_72 rfl ?_
  refine g_iconst (pc := 75) (x := 0) hK dd_X1_become_75 (by decide) ?_
  refine g_iconst (pc := 76) (x := 5) hK dd_X1_become_76 (by decide) ?_
  refine g_copyi (pc := 77) hK wa_Hall_164 (kdm kd_43) (kdm kd_84) nl_43 nl_84 (by decide) (by decide) (by decide) (by decide) (by decide) (by decide) (by omega) (by omega) ⟨by decide, by decide⟩ (Nat.le_of_ble_eq_true rfl) dd_X1_become_77 ?_
  refine g_mem (M2 := cp (up (cp (cp (cp (up (cp (cp (cp (cp (up (cp (cp (cp (cp (cp (up (cp (up (cp (cp (cp (up (cp (cp (cp (cp (cp (cp M 48 (M 7) 0 0 30) 49 (M 8) 0 0 30) 50 (M 9) 0 0 30) 51 (M 10) 0 0 30) 52 (M 11) 0 0 30) 53 (M 12) 0 0 30) 47 6 (M 6 6)) 56 (M 15) 0 0 5) 57 (M 16) 0 0 5) 58 (M 17) 0 0 5) 55 3 (M 14 3)) 60 (M 19) 0 0 30) 59 2 (M 18 2)) 63 (M 22) 0 0 12) 64 (M 23) 0 0 12) 65 (M 24) 0 0 12) 66 (M 25) 0 0 12) 67 (M 26) 0 0 12) 62 5 (M 21 5)) 69 (M 28) 0 0 20) 70 (M 29) 0 0 20) 71 (M 30) 0 0 20) 72 (M 31) 0 0 20) 68 4 (M 27 4)) 77 (M 36) 0 0 10) 78 (M 37) 0 0 10) 79 (M 38) 0 0 16) 76 2 (M 35 2)) 84 (M 43) 0 0 5) (by rfl) ?_
  refine g_aloadn (pc := 80) (i := 0) (x := 46) hK dd_X1_become_80 rfl rfl ?_
  refine g_aloadn (pc := 81) (i := 1) (x := 5) hK dd_X1_become_81 rfl rfl ?_
  refine g_geti (pc := 82) (f := (0, 0)) (j := 7) hK (kdm kd_5) rfl ef_1 (by decide) rfl kk_274 nl_5 dd_X1_become_82 rfl (fun x1 ex1 rx1 => ?_)
  refine g_puti (pc := 85) (f := (0, 0)) (j := 7) (ty := .int) hK (kdm kd_46) rfl ef_1 (by decide) rfl kk_274 nl_46 (by decide) dd_X1_become_85 rfl rfl rfl rfl rfl rx1 ?_
  refine g_aloadn (pc := 88) (i := 0) (x := 46) hK dd_X1_become_88 rfl rfl ?_
  refine g_aloadn (pc := 89) (i := 1) (x := 5) hK dd_X1_become_89 rfl rfl ?_
  refine g_geti (pc := 90) (f := (0, 0)) (j := 8) hK (kdm kd_5) rfl ef_1 (by decide) rfl kk_276 nl_5 dd_X1_become_90 rfl (fun x2 ex2 rx2 => ?_)
  refine g_puti (pc := 93) (f := (0, 0)) (j := 8) (ty := .int) hK (kdm kd_46) rfl ef_1 (by decide) rfl kk_276 nl_46 (by decide) dd_X1_become_93 rfl rfl rfl rfl rfl rx2 ?_
  refine g_aloadn (pc := 96) (i := 0) (x := 46) hK dd_X1_become_96 rfl rfl ?_
  refine g_aloadn (pc := 97) (i := 1) (x := 5) hK dd_X1_become_97 rfl rfl ?_
  refine g_geti (pc := 98) (f := (0, 0)) (j := 9) hK (kdm kd_5) rfl ef_1 (by decide) rfl kk_278 nl_5 dd_X1_become_98 rfl (fun x3 ex3 rx3 => ?_)
  refine g_puti (pc := 101) (f := (0, 0)) (j := 9) (ty := .int) hK (kdm kd_46) rfl ef_1 (by decide) rfl kk_278 nl_46 (by decide) dd_X1_become_101 rfl rfl rfl rfl rfl rx3 ?_
  refine g_aloadn (pc := 104) (i := 0) (x := 46) hK dd_X1_become_104 rfl rfl ?_
  refine g_aloadn (pc := 105) (i := 1) (x := 5) hK dd_X1_become_105 rfl rfl ?_
  refine g_geti (pc := 106) (f := (0, 0)) (j := 10) hK (kdm kd_5) rfl ef_1 (by decide) rfl kk_280 nl_5 dd_X1_become_106 rfl (fun x4 ex4 rx4 => ?_)
  refine g_puti (pc := 109) (f := (0, 0)) (j := 10) (ty := .int) hK (kdm kd_46) rfl ef_1 (by decide) rfl kk_280 nl_46 (by decide) dd_X1_become_109 rfl rfl rfl rfl rfl rx4 ?_
  refine g_aloadn (pc := 112) (i := 0) (x := 46) hK dd_X1_become_112 rfl rfl ?_
  refine g_aloadn (pc := 113) (i := 1) (x := 5) hK dd_X1_become_113 rfl rfl ?_
  refine g_geti (pc := 114) (f := (0, 0)) (j := 11) hK (kdm kd_5) rfl ef_1 (by decide) rfl kk_282 nl_5 dd_X1_become_114 rfl (fun x5 ex5 rx5 => ?_)
  refine g_puti (pc := 117) (f := (0, 0)) (j := 11) (ty := .int) hK (kdm kd_46) rfl ef_1 (by decide) rfl kk_282 nl_46 (by decide) dd_X1_become_117 rfl rfl rfl rfl rfl rx5 ?_
  refine g_vret (pc := 120) hK hr hlocks dd_X1_become_120 ?_
  exact g_finM hQ (by subst_vars; rfl)
set_option maxHeartbeats 4000000 in
set_option maxRecDepth 100000 in
theorem c_become_5 {l : Launch} {M : Mem} {Pq : Option gV → Mem → Prop}  (hQ : Pq none (bcm5 M)) : gCtr l my_X1_become mb_X1_become 2 ((none : Option Jvm.ClassFile.FieldType)) 2 [gR 5, gR 46] M Pq := by
  refine g_intro (by decide) (Nat.le_of_ble_eq_true rfl) ?_
  intro p e s m args below meth c D cy q A hK hr hlocks hw
  refine g_sub (L' := [(0, gR 5), (1, gR 46)]) [0, 1] rfl ?_
  refine g_aloadn (pc := 0) (i := 0) (x := 5) hK dd_X1_become_0 rfl rfl ?_
  refine g_getv (pc := 1) (f := (1, 1)) (j := 0) (v := gR 6) hK (kdm kd_5) rfl ef_1 (by decide) rfl kk_258 dd_X1_become_1 rfl ?_
  refine g_aloadn (pc := 4) (i := 1) (x := 46) hK dd_X1_become_4 rfl rfl ?_
  refine g_getv (pc := 5) (f := (1, 1)) (j := 0) (v := gR 47) hK (kdm kd_46) rfl ef_1 (by decide) rfl kk_258 dd_X1_become_5 rfl ?_
  refine g_callV (pc := 8) (As := [gR 47]) hK ws_Hall_145 md_X10_become ⟨Nat.zero_le _, Nat.zero_le _⟩ ⟨by decide, by decide⟩ (kdm kd_6) rfl rfl dd_X1_become_8 rfl rfl (Nat.le_of_ble_eq_true rfl) (c_become_6_47  (g_r0 ?_))
  refine g_mem (M2 := up (cp (cp (cp (cp (cp (cp M 7 (M 48) 0 0 30) 8 (M 49) 0 0 30) 9 (M 50) 0 0 30) 10 (M 51) 0 0 30) 11 (M 52) 0 0 30) 12 (M 53) 0 0 30) 6 6 (M 47 6)) (by rfl) ?_
  refine g_aloadn (pc := 11) (i := 0) (x := 5) hK dd_X1_become_11 rfl rfl ?_
  refine g_getv (pc := 12) (f := (1, 9)) (j := 1) (v := gR 14) hK (kdm kd_5) rfl ef_1 (by decide) rfl kk_261 dd_X1_become_12 rfl ?_
  refine g_aloadn (pc := 15) (i := 1) (x := 46) hK dd_X1_become_15 rfl rfl ?_
  refine g_getv (pc := 16) (f := (1, 9)) (j := 1) (v := gR 55) hK (kdm kd_46) rfl ef_1 (by decide) rfl kk_261 dd_X1_become_16 rfl ?_
  refine g_callV (pc := 19) (As := [gR 55]) hK ws_Hall_149 md_X2_become ⟨Nat.zero_le _, Nat.zero_le _⟩ ⟨by decide, by decide⟩ (kdm kd_14) rfl rfl dd_X1_become_19 rfl rfl (Nat.le_of_ble_eq_true rfl) (c_become_14_55  (g_r0 ?_))
  refine g_mem (M2 := up (cp (cp (cp (up (cp (cp (cp (cp (cp (cp M 7 (M 48) 0 0 30) 8 (M 49) 0 0 30) 9 (M 50) 0 0 30) 10 (M 51) 0 0 30) 11 (M 52) 0 0 30) 12 (M 53) 0 0 30) 6 6 (M 47 6)) 15 (M 56) 0 0 5) 16 (M 57) 0 0 5) 17 (M 58) 0 0 5) 14 3 (M 55 3)) (by rfl) ?_
  refine g_aloadn (pc := 22) (i := 0) (x := 5) hK dd_X1_become_22 rfl rfl ?_
  refine g_getv (pc := 23) (f := (1, 13)) (j := 2) (v := gR 18) hK (kdm kd_5) rfl ef_1 (by decide) rfl kk_263 dd_X1_become_23 rfl ?_
  refine g_aloadn (pc := 26) (i := 1) (x := 46) hK dd_X1_become_26 rfl rfl ?_
  refine g_getv (pc := 27) (f := (1, 13)) (j := 2) (v := gR 59) hK (kdm kd_46) rfl ef_1 (by decide) rfl kk_263 dd_X1_become_27 rfl ?_
  refine g_callV (pc := 30) (As := [gR 59]) hK ws_Hall_152 md_X3_become ⟨Nat.zero_le _, Nat.zero_le _⟩ ⟨by decide, by decide⟩ (kdm kd_18) rfl rfl dd_X1_become_30 rfl rfl (Nat.le_of_ble_eq_true rfl) (c_become_18_59  (g_r0 ?_))
  refine g_mem (M2 := up (cp (up (cp (cp (cp (up (cp (cp (cp (cp (cp (cp M 7 (M 48) 0 0 30) 8 (M 49) 0 0 30) 9 (M 50) 0 0 30) 10 (M 51) 0 0 30) 11 (M 52) 0 0 30) 12 (M 53) 0 0 30) 6 6 (M 47 6)) 15 (M 56) 0 0 5) 16 (M 57) 0 0 5) 17 (M 58) 0 0 5) 14 3 (M 55 3)) 19 (M 60) 0 0 30) 18 2 (M 59 2)) (by rfl) ?_
  refine g_aloadn (pc := 33) (i := 0) (x := 5) hK dd_X1_become_33 rfl rfl ?_
  refine g_getv (pc := 34) (f := (1, 16)) (j := 3) (v := gR 21) hK (kdm kd_5) rfl ef_1 (by decide) rfl kk_265 dd_X1_become_34 rfl ?_
  refine g_aloadn (pc := 37) (i := 1) (x := 46) hK dd_X1_become_37 rfl rfl ?_
  refine g_getv (pc := 38) (f := (1, 16)) (j := 3) (v := gR 62) hK (kdm kd_46) rfl ef_1 (by decide) rfl kk_265 dd_X1_become_38 rfl ?_
  refine g_callV (pc := 41) (As := [gR 62]) hK ws_Hall_155 md_X0_become ⟨Nat.zero_le _, Nat.zero_le _⟩ ⟨by decide, by decide⟩ (kdm kd_21) rfl rfl dd_X1_become_41 rfl rfl (Nat.le_of_ble_eq_true rfl) (c_become_21_62  (g_r0 ?_))
  refine g_mem (M2 := up (cp (cp (cp (cp (cp (up (cp (up (cp (cp (cp (up (cp (cp (cp (cp (cp (cp M 7 (M 48) 0 0 30) 8 (M 49) 0 0 30) 9 (M 50) 0 0 30) 10 (M 51) 0 0 30) 11 (M 52) 0 0 30) 12 (M 53) 0 0 30) 6 6 (M 47 6)) 15 (M 56) 0 0 5) 16 (M 57) 0 0 5) 17 (M 58) 0 0 5) 14 3 (M 55 3)) 19 (M 60) 0 0 30) 18 2 (M 59 2)) 22 (M 63) 0 0 12) 23 (M 64) 0 0 12) 24 (M 65) 0 0 12) 25 (M 66) 0 0 12) 26 (M 67) 0 0 12) 21 5 (M 62 5)) (by rfl) ?_
  refine g_aloadn (pc := 44) (i := 0) (x := 5) hK dd_X1_become_44 rfl rfl ?_
  refine g_getv (pc := 45) (f := (1, 22)) (j := 4) (v := gR 27) hK (kdm kd_5) rfl ef_1 (by decide) rfl kk_268 dd_X1_become_45 rfl ?_
  refine g_aloadn (pc := 48) (i := 1) (x := 46) hK dd_X1_become_48 rfl rfl ?_
  refine g_getv (pc := 49) (f := (1, 22)) (j := 4) (v := gR 68) hK (kdm kd_46) rfl ef_1 (by decide) rfl kk_268 dd_X1_become_49 rfl ?_
  refine g_callV (pc := 52) (As := [gR 68]) hK ws_Hall_158 md_X8_become ⟨Nat.zero_le _, Nat.zero_le _⟩ ⟨by decide, by decide⟩ (kdm kd_27) rfl rfl dd_X1_become_52 rfl rfl (Nat.le_of_ble_eq_true rfl) (c_become_27_68  (g_r0 ?_))
  refine g_mem (M2 := up (cp (cp (cp (cp (up (cp (cp (cp (cp (cp (up (cp (up (cp (cp (cp (up (cp (cp (cp (cp (cp (cp M 7 (M 48) 0 0 30) 8 (M 49) 0 0 30) 9 (M 50) 0 0 30) 10 (M 51) 0 0 30) 11 (M 52) 0 0 30) 12 (M 53) 0 0 30) 6 6 (M 47 6)) 15 (M 56) 0 0 5) 16 (M 57) 0 0 5) 17 (M 58) 0 0 5) 14 3 (M 55 3)) 19 (M 60) 0 0 30) 18 2 (M 59 2)) 22 (M 63) 0 0 12) 23 (M 64) 0 0 12) 24 (M 65) 0 0 12) 25 (M 66) 0 0 12) 26 (M 67) 0 0 12) 21 5 (M 62 5)) 28 (M 69) 0 0 20) 29 (M 70) 0 0 20) 30 (M 71) 0 0 20) 31 (M 72) 0 0 20) 27 4 (M 68 4)) (by rfl) ?_
  refine g_aloadn (pc := 55) (i := 0) (x := 5) hK dd_X1_become_55 rfl rfl ?_
  refine g_getv (pc := 56) (f := (1, 30)) (j := 5) (v := gR 35) hK (kdm kd_5) rfl ef_1 (by decide) rfl kk_270 dd_X1_become_56 rfl ?_
  refine g_aloadn (pc := 59) (i := 1) (x := 46) hK dd_X1_become_59 rfl rfl ?_
  refine g_getv (pc := 60) (f := (1, 30)) (j := 5) (v := gR 76) hK (kdm kd_46) rfl ef_1 (by decide) rfl kk_270 dd_X1_become_60 rfl ?_
  refine g_callV (pc := 63) (As := [gR 76]) hK ws_Hall_161 md_X6_become ⟨Nat.zero_le _, Nat.zero_le _⟩ ⟨by decide, by decide⟩ (kdm kd_35) rfl rfl dd_X1_become_63 rfl rfl (Nat.le_of_ble_eq_true rfl) (c_become_35_76  (g_r0 ?_))
  refine g_mem (M2 := up (cp (cp (cp (up (cp (cp (cp (cp (up (cp (cp (cp (cp (cp (up (cp (up (cp (cp (cp (up (cp (cp (cp (cp (cp (cp M 7 (M 48) 0 0 30) 8 (M 49) 0 0 30) 9 (M 50) 0 0 30) 10 (M 51) 0 0 30) 11 (M 52) 0 0 30) 12 (M 53) 0 0 30) 6 6 (M 47 6)) 15 (M 56) 0 0 5) 16 (M 57) 0 0 5) 17 (M 58) 0 0 5) 14 3 (M 55 3)) 19 (M 60) 0 0 30) 18 2 (M 59 2)) 22 (M 63) 0 0 12) 23 (M 64) 0 0 12) 24 (M 65) 0 0 12) 25 (M 66) 0 0 12) 26 (M 67) 0 0 12) 21 5 (M 62 5)) 28 (M 69) 0 0 20) 29 (M 70) 0 0 20) 30 (M 71) 0 0 20) 31 (M 72) 0 0 20) 27 4 (M 68 4)) 36 (M 77) 0 0 10) 37 (M 78) 0 0 10) 38 (M 79) 0 0 16) 35 2 (M 76 2)) (by rfl) ?_
  refine g_aloadn (pc := 66) (i := 1) (x := 46) hK dd_X1_become_66 rfl rfl ?_
  refine g_getv (pc := 67) (f := (1, 38)) (j := 6) (v := gR 84) hK (kdm kd_46) rfl ef_1 (by decide) rfl kk_272 dd_X1_become_67 rfl ?_
  refine g_iconst (pc := 70) (x := 0) hK dd_X1_become_70 (by decide) ?_
  refine g_aloadn (pc := 71) (i := 0) (x := 5) hK dd_X1_become_71 rfl rfl ?_
  refine g_getv (pc := 72) (f := (1, 38)) (j := 6) (v := gR 43) hK (kdm kd_5) rfl ef_1 (by decide) rfl kk_272 dd_X1_become_72 rfl ?_
  refine g_iconst (pc := 75) (x := 0) hK dd_X1_become_75 (by decide) ?_
  refine g_iconst (pc := 76) (x := 5) hK dd_X1_become_76 (by decide) ?_
  refine g_copyi (pc := 77) hK wa_Hall_164 (kdm kd_84) (kdm kd_43) nl_84 nl_43 (by decide) (by decide) (by decide) (by decide) (by decide) (by decide) (by omega) (by omega) ⟨by decide, by decide⟩ (Nat.le_of_ble_eq_true rfl) dd_X1_become_77 ?_
  refine g_mem (M2 := cp (up (cp (cp (cp (up (cp (cp (cp (cp (up (cp (cp (cp (cp (cp (up (cp (up (cp (cp (cp (up (cp (cp (cp (cp (cp (cp M 7 (M 48) 0 0 30) 8 (M 49) 0 0 30) 9 (M 50) 0 0 30) 10 (M 51) 0 0 30) 11 (M 52) 0 0 30) 12 (M 53) 0 0 30) 6 6 (M 47 6)) 15 (M 56) 0 0 5) 16 (M 57) 0 0 5) 17 (M 58) 0 0 5) 14 3 (M 55 3)) 19 (M 60) 0 0 30) 18 2 (M 59 2)) 22 (M 63) 0 0 12) 23 (M 64) 0 0 12) 24 (M 65) 0 0 12) 25 (M 66) 0 0 12) 26 (M 67) 0 0 12) 21 5 (M 62 5)) 28 (M 69) 0 0 20) 29 (M 70) 0 0 20) 30 (M 71) 0 0 20) 31 (M 72) 0 0 20) 27 4 (M 68 4)) 36 (M 77) 0 0 10) 37 (M 78) 0 0 10) 38 (M 79) 0 0 16) 35 2 (M 76 2)) 43 (M 84) 0 0 5) (by rfl) ?_
  refine g_aloadn (pc := 80) (i := 0) (x := 5) hK dd_X1_become_80 rfl rfl ?_
  refine g_aloadn (pc := 81) (i := 1) (x := 46) hK dd_X1_become_81 rfl rfl ?_
  refine g_geti (pc := 82) (f := (0, 0)) (j := 7) hK (kdm kd_46) rfl ef_1 (by decide) rfl kk_274 nl_46 dd_X1_become_82 rfl (fun x1 ex1 rx1 => ?_)
  refine g_puti (pc := 85) (f := (0, 0)) (j := 7) (ty := .int) hK (kdm kd_5) rfl ef_1 (by decide) rfl kk_274 nl_5 (by decide) dd_X1_become_85 rfl rfl rfl rfl rfl rx1 ?_
  refine g_aloadn (pc := 88) (i := 0) (x := 5) hK dd_X1_become_88 rfl rfl ?_
  refine g_aloadn (pc := 89) (i := 1) (x := 46) hK dd_X1_become_89 rfl rfl ?_
  refine g_geti (pc := 90) (f := (0, 0)) (j := 8) hK (kdm kd_46) rfl ef_1 (by decide) rfl kk_276 nl_46 dd_X1_become_90 rfl (fun x2 ex2 rx2 => ?_)
  refine g_puti (pc := 93) (f := (0, 0)) (j := 8) (ty := .int) hK (kdm kd_5) rfl ef_1 (by decide) rfl kk_276 nl_5 (by decide) dd_X1_become_93 rfl rfl rfl rfl rfl rx2 ?_
  refine g_aloadn (pc := 96) (i := 0) (x := 5) hK dd_X1_become_96 rfl rfl ?_
  refine g_aloadn (pc := 97) (i := 1) (x := 46) hK dd_X1_become_97 rfl rfl ?_
  refine g_geti (pc := 98) (f := (0, 0)) (j := 9) hK (kdm kd_46) rfl ef_1 (by decide) rfl kk_278 nl_46 dd_X1_become_98 rfl (fun x3 ex3 rx3 => ?_)
  refine g_puti (pc := 101) (f := (0, 0)) (j := 9) (ty := .int) hK (kdm kd_5) rfl ef_1 (by decide) rfl kk_278 nl_5 (by decide) dd_X1_become_101 rfl rfl rfl rfl rfl rx3 ?_
  refine g_aloadn (pc := 104) (i := 0) (x := 5) hK dd_X1_become_104 rfl rfl ?_
  refine g_aloadn (pc := 105) (i := 1) (x := 46) hK dd_X1_become_105 rfl rfl ?_
  refine g_geti (pc := 106) (f := (0, 0)) (j := 10) hK (kdm kd_46) rfl ef_1 (by decide) rfl kk_280 nl_46 dd_X1_become_106 rfl (fun x4 ex4 rx4 => ?_)
  refine g_puti (pc := 109) (f := (0, 0)) (j := 10) (ty := .int) hK (kdm kd_5) rfl ef_1 (by decide) rfl kk_280 nl_5 (by decide) dd_X1_become_109 rfl rfl rfl rfl rfl rx4 ?_
  refine g_aloadn (pc := 112) (i := 0) (x := 5) hK dd_X1_become_112 rfl rfl ?_
  refine g_aloadn (pc := 113) (i := 1) (x := 46) hK dd_X1_become_113 rfl rfl ?_
  refine g_geti (pc := 114) (f := (0, 0)) (j := 11) hK (kdm kd_46) rfl ef_1 (by decide) rfl kk_282 nl_46 dd_X1_become_114 rfl (fun x5 ex5 rx5 => ?_)
  refine g_puti (pc := 117) (f := (0, 0)) (j := 11) (ty := .int) hK (kdm kd_5) rfl ef_1 (by decide) rfl kk_282 nl_5 (by decide) dd_X1_become_117 rfl rfl rfl rfl rfl rx5 ?_
  refine g_vret (pc := 120) hK hr hlocks dd_X1_become_120 ?_
  exact g_finM hQ (by subst_vars; rfl)
set_option maxHeartbeats 4000000 in
set_option maxRecDepth 100000 in
theorem x_image {l : Launch} {M : Mem} {Pq : Option gV → Mem → Prop}  (hY : Pq (some (gI 1)) (up (bcm46 M) 0 7 1)) : gCtr l my_X11_image mb_X11_image 1 ((some .int)) 3 [gR 0] M Pq := by
  refine g_intro (by decide) (Nat.le_of_ble_eq_true rfl) ?_
  intro p e s m args below meth c D cy q A hK hr hlocks hw
  refine g_sub (L' := [(0, gR 0)]) [0] rfl ?_
  refine g_aloadn (pc := 0) (i := 0) (x := 0) hK dd_X11_image_0 rfl rfl ?_
  refine g_getv (pc := 1) (f := (1, 46)) (j := 4) (v := gR 46) hK (kdm kd_0) rfl ef_11 (by decide) rfl kk_386 dd_X11_image_1 rfl ?_
  refine g_aloadn (pc := 4) (i := 0) (x := 0) hK dd_X11_image_4 rfl rfl ?_
  refine g_getv (pc := 5) (f := (1, 5)) (j := 3) (v := gR 5) hK (kdm kd_0) rfl ef_11 (by decide) rfl kk_385 dd_X11_image_5 rfl ?_
  refine g_callV (pc := 8) (As := [gR 5]) hK ws_X_369 md_X1_become ⟨Nat.zero_le _, Nat.zero_le _⟩ ⟨by decide, by decide⟩ (kdm kd_46) rfl rfl dd_X11_image_8 rfl rfl (Nat.le_of_ble_eq_true rfl) (c_become_46  (g_r0 ?_))
  refine g_aloadn (pc := 11) (i := 0) (x := 0) hK dd_X11_image_11 rfl rfl ?_
  refine g_iconst (pc := 12) (x := 1) hK dd_X11_image_12 (by decide) ?_
  refine g_puti (pc := 13) (f := (0, 0)) (j := 7) (ty := .boolean) hK (kdm kd_0) rfl ef_11 (by decide) rfl kk_389 nl_0 (by decide) dd_X11_image_13 rfl rfl rfl rfl rfl (by decide) ?_
  refine g_iconst (pc := 16) (x := 1) hK dd_X11_image_16 (by decide) ?_
  refine g_iret (pc := 17) hK hr hlocks dd_X11_image_17 rfl ?_
  first | exact g_fin (hY) (by first | rfl | omega | (subst_vars; first | rfl | omega)) (by first | rfl | (subst_vars; rfl)) | (exfalso; omega)
set_option maxHeartbeats 4000000 in
set_option maxRecDepth 100000 in
theorem x_back {l : Launch} {M : Mem} {Pq : Option gV → Mem → Prop} (hrf : rfOK M) (hkc : M 0 7 = 0 ∨ (0 ≤ M 47 6 ∧ M 47 6 ≤ 30)) (hS : (M 0 7 = 0) → Pq (some (gI (-5))) (rf M 3)) (hY : (¬ M 0 7 = 0) → Pq (some (gI 1)) (bkS (bcm5 M) 8)) : gCtr l my_X11_back mb_X11_back 2 ((some .int)) 3 [gR 0] M Pq := by
  refine g_intro (by decide) (Nat.le_of_ble_eq_true rfl) ?_
  intro p e s m args below meth c D cy q A hK hr hlocks hw
  refine g_sub (L' := [(0, gR 0)]) [0] rfl ?_
  refine g_aloadn (pc := 0) (i := 0) (x := 0) hK dd_X11_back_0 rfl rfl ?_
  refine g_geti (pc := 1) (f := (0, 0)) (j := 7) hK (kdm kd_0) rfl ef_11 (by decide) rfl kk_389 nl_0 dd_X11_back_1 rfl (fun x1 ex1 rx1 => ?_)
  refine g_if_ne (pc := 4) (tgt := 14) hK dd_X11_back_4 (by decide) rx1 (fun c2 => ?_) (fun c2 => ?_)
  · refine g_aloadn (pc := 14) (i := 0) (x := 0) hK dd_X11_back_14 rfl rfl ?_
    refine g_getv (pc := 15) (f := (1, 5)) (j := 3) (v := gR 5) hK (kdm kd_0) rfl ef_11 (by decide) rfl kk_385 dd_X11_back_15 rfl ?_
    refine g_aloadn (pc := 18) (i := 0) (x := 0) hK dd_X11_back_18 rfl rfl ?_
    refine g_getv (pc := 19) (f := (1, 46)) (j := 4) (v := gR 46) hK (kdm kd_0) rfl ef_11 (by decide) rfl kk_386 dd_X11_back_19 rfl ?_
    refine g_callV (pc := 22) (As := [gR 46]) hK ws_X_369 md_X1_become ⟨Nat.zero_le _, Nat.zero_le _⟩ ⟨by decide, by decide⟩ (kdm kd_5) rfl rfl dd_X11_back_22 rfl rfl (Nat.le_of_ble_eq_true rfl) (c_become_5  (g_r0 ?_))
    refine g_iconst (pc := 25) (x := 0) hK dd_X11_back_25 (by decide) ?_
    refine g_istoren (pc := 26) (i := 1) (L' := [(0, gR 0), (1, gI 0)]) hK dd_X11_back_26 rfl (by decide) rfl ?_
    have lp5 : ∀ (n3 : Nat) (s1 : Int), (0 ≤ s1 ∧ s1 ≤ 8) → (8 - s1).toNat < n3 → G p l e (rmD 3) s m args below meth c D cy q A 0 0 2 (MQ below (gQc D cy q A Pq) args s 0 0 A) 27 [(0, gR 0), (1, gI s1)] [] (bkS (bcm5 M) s1.toNat) := by
      intro n3
      induction n3 with
      | zero => intro s1 iv6 hm7; exact absurd hm7 (Nat.not_lt_zero _)
      | succ n3 ih4 =>
        intro s1 iv6 hm7
        refine g_iloadn (pc := 27) (i := 1) (x := s1) hK dd_X11_back_27 rfl rfl ?_
        refine g_bipush (pc := 28) (x := 8) hK dd_X11_back_28 (by decide) ?_
        refine g_icmp_ge (pc := 30) (tgt := 86) hK dd_X11_back_30 (by decide) ⟨by omega, by omega⟩ (by decide) (fun c8 => ?_) (fun c8 => ?_)
        · refine g_iconst (pc := 86) (x := 1) hK dd_X11_back_86 (by decide) ?_
          refine g_iret (pc := 87) hK hr hlocks dd_X11_back_87 rfl ?_
          exact g_fin (hY (by first | omega | (subst_vars; omega) | exact ⟨by first | assumption | omega | (subst_vars; first | assumption | omega), by first | assumption | omega | (subst_vars; first | assumption | omega)⟩)) (by first | rfl | omega | (subst_vars; first | rfl | omega)) (by rw [show (8 : Nat) = s1.toNat by omega])
        · have hc6_ : 0 ≤ (bkS (bcm5 M) s1.toNat) 6 6 ∧ (bkS (bcm5 M) s1.toNat) 6 6 ≤ 30 := by rw [bkS_o (by decide)]; show 0 ≤ M 47 6 ∧ M 47 6 ≤ 30; omega
          refine g_aloadn (pc := 33) (i := 0) (x := 0) hK dd_X11_back_33 rfl rfl ?_
          refine g_getv (pc := 34) (f := (1, 1)) (j := 0) (v := gR 1) hK (kdm kd_0) rfl ef_11 (by decide) rfl kk_382 dd_X11_back_34 rfl ?_
          refine g_iloadn (pc := 37) (i := 1) (x := s1) hK dd_X11_back_37 rfl rfl ?_
          refine g_aald (pc := 38) hK (kdm kd_1) (by decide) dd_X11_back_38 (by omega) (by omega) ?_
          refine g_topv (v := gR (1 + 96 + 2 * s1.toNat)) rfl ?_
          refine g_callV (pc := 39) (As := []) hK ws_X_82 md_X7_hasThing ⟨Nat.zero_le _, Nat.zero_le _⟩ ⟨by decide, by decide⟩ (kdm (kd_sh (by omega) (by omega))) rfl rfl dd_X11_back_39 rfl rfl (Nat.le_of_ble_eq_true rfl) (c_hasThing s1 (by omega) (by omega) (fun c9 => g_r1 ?_) (fun c9 => g_r1 ?_))
          · refine g_if_eq (pc := 42) (tgt := 80) hK dd_X11_back_42 (by decide) (by decide) (fun c10 => absurd c10 (by decide)) (fun _ => ?_)
            refine g_aloadn (pc := 45) (i := 0) (x := 0) hK dd_X11_back_45 rfl rfl ?_
            refine g_getv (pc := 46) (f := (1, 5)) (j := 3) (v := gR 5) hK (kdm kd_0) rfl ef_11 (by decide) rfl kk_385 dd_X11_back_46 rfl ?_
            refine g_getv (pc := 49) (f := (1, 1)) (j := 0) (v := gR 6) hK (kdm kd_5) rfl ef_1 (by decide) rfl kk_260 dd_X11_back_49 rfl ?_
            refine g_aloadn (pc := 52) (i := 0) (x := 0) hK dd_X11_back_52 rfl rfl ?_
            refine g_getv (pc := 53) (f := (1, 1)) (j := 0) (v := gR 1) hK (kdm kd_0) rfl ef_11 (by decide) rfl kk_382 dd_X11_back_53 rfl ?_
            refine g_iloadn (pc := 56) (i := 1) (x := s1) hK dd_X11_back_56 rfl rfl ?_
            refine g_aald (pc := 57) hK (kdm kd_1) (by decide) dd_X11_back_57 (by omega) (by omega) ?_
            refine g_topv (v := gR (1 + 96 + 2 * s1.toNat)) rfl ?_
            refine g_geti (pc := 58) (f := (0, 0)) (j := 1) hK (kdm (kd_sh (by omega) (by omega))) rfl ef_7 (by decide) rfl kk_371 (nl_sh (by omega) (by omega)) dd_X11_back_58 rfl (fun x11 ex11 rx11 => ?_)
            refine g_bipush (pc := 61) (x := 10) hK dd_X11_back_61 (by decide) ?_
            refine g_isub (pc := 63) (z := x11 - 10) hK dd_X11_back_63 rfl ?_
            refine g_callV (pc := 64) (As := [gI (x11 - 10)]) hK ws_X_117 md_X10_has ⟨Nat.zero_le _, Nat.zero_le _⟩ ⟨by decide, by decide⟩ (kdm kd_6) rfl rfl dd_X11_back_64 rfl rfl (Nat.le_of_ble_eq_true rfl) (c_has10 (x11 - 10) (show inI (x11 - 10) by omega) (show 0 ≤ (bkS (bcm5 M) s1.toNat) 6 6 ∧ (bkS (bcm5 M) s1.toNat) 6 6 ≤ 30 by omega) (fun c12 => g_r1 ?_) (fun c12 => g_r1 ?_))
            · refine g_if_ne (pc := 67) (tgt := 80) hK dd_X11_back_67 (by decide) (by decide) (fun _ => ?_) (fun c13 => absurd (by decide) c13)
              refine g_iinc (pc := 80) (i := 1) (y := s1 + 1) (L' := [(0, gR 0), (1, gI (s1 + 1))]) hK dd_X11_back_80 rfl rfl (by decide) rfl ?_
              refine g_goto (pc := 83) (tgt := 27) hK dd_X11_back_83 (by decide) ?_
              refine g_sub (L' := [(0, gR 0), (1, gI (s1 + 1))]) [0, 1] rfl ?_
              refine g_mem (M2 := bkS (bcm5 M) (s1 + 1).toNat) (by rw [tn1 (by omega)]; simp only [bkS]; first | (rw [if_pos ⟨by omega, by omega⟩]) | (rw [if_neg (by omega)])) ?_
              exact ih4 (s1 + 1) (by omega) (by omega)
            · refine g_if_ne (pc := 67) (tgt := 80) hK dd_X11_back_67 (by decide) (by decide) (fun c14 => absurd c14 (by decide)) (fun _ => ?_)
              refine g_aloadn (pc := 70) (i := 0) (x := 0) hK dd_X11_back_70 rfl rfl ?_
              refine g_getv (pc := 71) (f := (1, 1)) (j := 0) (v := gR 1) hK (kdm kd_0) rfl ef_11 (by decide) rfl kk_382 dd_X11_back_71 rfl ?_
              refine g_iloadn (pc := 74) (i := 1) (x := s1) hK dd_X11_back_74 rfl rfl ?_
              refine g_aald (pc := 75) hK (kdm kd_1) (by decide) dd_X11_back_75 (by omega) (by omega) ?_
              refine g_topv (v := gR (1 + 96 + 2 * s1.toNat)) rfl ?_
              refine g_iconst (pc := 76) (x := (-1)) hK dd_X11_back_76 (by decide) ?_
              refine g_puti (pc := 77) (f := (0, 0)) (j := 1) (ty := .int) hK (kdm (kd_sh (by omega) (by omega))) rfl ef_7 (by decide) rfl kk_371 (nl_sh (by omega) (by omega)) (fun z => absurd (show 1 + 96 + 2 * s1.toNat = 200 from z.1) (by omega)) dd_X11_back_77 rfl rfl rfl rfl rfl (by decide) ?_
              refine g_iinc (pc := 80) (i := 1) (y := s1 + 1) (L' := [(0, gR 0), (1, gI (s1 + 1))]) hK dd_X11_back_80 rfl rfl (by decide) rfl ?_
              refine g_goto (pc := 83) (tgt := 27) hK dd_X11_back_83 (by decide) ?_
              refine g_sub (L' := [(0, gR 0), (1, gI (s1 + 1))]) [0, 1] rfl ?_
              refine g_mem (M2 := bkS (bcm5 M) (s1 + 1).toNat) (by rw [tn1 (by omega)]; simp only [bkS]; first | (rw [if_pos ⟨by omega, by omega⟩]) | (rw [if_neg (by omega)])) ?_
              exact ih4 (s1 + 1) (by omega) (by omega)
          · refine g_if_eq (pc := 42) (tgt := 80) hK dd_X11_back_42 (by decide) (by decide) (fun _ => ?_) (fun c15 => absurd (by decide) c15)
            refine g_iinc (pc := 80) (i := 1) (y := s1 + 1) (L' := [(0, gR 0), (1, gI (s1 + 1))]) hK dd_X11_back_80 rfl rfl (by decide) rfl ?_
            refine g_goto (pc := 83) (tgt := 27) hK dd_X11_back_83 (by decide) ?_
            refine g_sub (L' := [(0, gR 0), (1, gI (s1 + 1))]) [0, 1] rfl ?_
            refine g_mem (M2 := bkS (bcm5 M) (s1 + 1).toNat) (by rw [tn1 (by omega)]; simp only [bkS]; first | (rw [if_pos ⟨by omega, by omega⟩]) | (rw [if_neg (by omega)])) ?_
            exact ih4 (s1 + 1) (by omega) (by omega)
    refine g_mem (M2 := bkS (bcm5 M) (0 : Int).toNat) (rfl) ?_
    refine g_sub (L' := [(0, gR 0), (1, gI 0)]) [0, 1] rfl ?_
    exact lp5 _ 0 (by omega) (Nat.lt_succ_self _)
  · refine g_aloadn (pc := 7) (i := 0) (x := 0) hK dd_X11_back_7 rfl rfl ?_
    refine g_bipush (pc := 8) (x := (-5)) hK dd_X11_back_8 (by decide) ?_
    refine g_callV (pc := 10) (As := [gI (-5)]) hK ws_X_63 md_X11_refuse ⟨Nat.zero_le _, Nat.zero_le _⟩ ⟨by decide, by decide⟩ (kdm kd_0) rfl rfl dd_X11_back_10 rfl rfl (Nat.le_of_ble_eq_true rfl) (c_refuse_3 hrf (g_r1 ?_))
    refine g_iret (pc := 13) hK hr hlocks dd_X11_back_13 rfl ?_
    exact g_fin (hS (by first | omega | (subst_vars; omega) | exact ⟨by first | assumption | omega | (subst_vars; first | assumption | omega), by first | assumption | omega | (subst_vars; first | assumption | omega)⟩)) (by first | rfl | omega | (subst_vars; first | rfl | omega)) (by first | rfl | (subst_vars; rfl))
set_option maxHeartbeats 4000000 in
set_option maxRecDepth 100000 in
theorem d_mvAk {l : Launch} {M : Mem} {Pq : Option gV → Mem → Prop}  (hQ : Pq none (mvK M)) : gCtr l my_X12_moveAll mb_X12_moveAll 3 ((none : Option Jvm.ClassFile.FieldType)) 2 [gR 200, gI 1] M Pq := by
  refine g_intro (by decide) (Nat.le_of_ble_eq_true rfl) ?_
  intro p e s m args below meth c D cy q A hK hr hlocks hw
  refine g_sub (L' := [(0, gR 200), (1, gI 1)]) [0, 1] rfl ?_
  refine g_aloadn (pc := 0) (i := 0) (x := 200) hK dd_X12_moveAll_0 rfl rfl ?_
  refine g_aloadn (pc := 1) (i := 0) (x := 200) hK dd_X12_moveAll_1 rfl rfl ?_
  refine g_getv (pc := 2) (f := (1, 40)) (j := 39) (v := gR 240) hK (kdm kd_200) rfl ef_12 (by decide) rfl kk_1140 dd_X12_moveAll_2 rfl ?_
  refine g_iconst (pc := 5) (x := 0) hK dd_X12_moveAll_5 (by decide) ?_
  refine g_iloadn (pc := 6) (i := 1) (x := 1) hK dd_X12_moveAll_6 rfl rfl ?_
  refine g_callV (pc := 7) (As := [gR 240, gI 0, gI 1]) hK ws_M_302 md_X12_move ⟨Nat.zero_le _, Nat.zero_le _⟩ ⟨by decide, by decide⟩ (kdm kd_200) rfl rfl dd_X12_moveAll_7 rfl rfl (Nat.le_of_ble_eq_true rfl) (d_mvk_240  (g_r1 ?_))
  refine g_mem (M2 := cp M 239 (M 240) 0 0 7) (by rfl) ?_
  refine g_istoren (pc := 10) (i := 2) (L' := [(0, gR 200), (1, gI 1), (2, gI 7)]) hK dd_X12_moveAll_10 rfl (by decide) rfl ?_
  refine g_aloadn (pc := 11) (i := 0) (x := 200) hK dd_X12_moveAll_11 rfl rfl ?_
  refine g_aloadn (pc := 12) (i := 0) (x := 200) hK dd_X12_moveAll_12 rfl rfl ?_
  refine g_getv (pc := 13) (f := (1, 5)) (j := 4) (v := gR 205) hK (kdm kd_200) rfl ef_12 (by decide) rfl kk_1105 dd_X12_moveAll_13 rfl ?_
  refine g_iloadn (pc := 16) (i := 2) (x := 7) hK dd_X12_moveAll_16 rfl rfl ?_
  refine g_iloadn (pc := 17) (i := 1) (x := 1) hK dd_X12_moveAll_17 rfl rfl ?_
  refine g_callV (pc := 18) (As := [gR 205, gI 7, gI 1]) hK ws_M_302 md_X12_move ⟨Nat.zero_le _, Nat.zero_le _⟩ ⟨by decide, by decide⟩ (kdm kd_200) rfl rfl dd_X12_moveAll_18 rfl rfl (Nat.le_of_ble_eq_true rfl) (d_mvk_205  (g_r1 ?_))
  refine g_mem (M2 := cp (cp M 239 (M 240) 0 0 7) 239 (M 205) 0 7 30) (by rfl) ?_
  refine g_istoren (pc := 21) (i := 2) (L' := [(0, gR 200), (1, gI 1), (2, gI 37)]) hK dd_X12_moveAll_21 rfl (by decide) rfl ?_
  refine g_aloadn (pc := 22) (i := 0) (x := 200) hK dd_X12_moveAll_22 rfl rfl ?_
  refine g_aloadn (pc := 23) (i := 0) (x := 200) hK dd_X12_moveAll_23 rfl rfl ?_
  refine g_getv (pc := 24) (f := (1, 6)) (j := 5) (v := gR 206) hK (kdm kd_200) rfl ef_12 (by decide) rfl kk_1106 dd_X12_moveAll_24 rfl ?_
  refine g_iloadn (pc := 27) (i := 2) (x := 37) hK dd_X12_moveAll_27 rfl rfl ?_
  refine g_iloadn (pc := 28) (i := 1) (x := 1) hK dd_X12_moveAll_28 rfl rfl ?_
  refine g_callV (pc := 29) (As := [gR 206, gI 37, gI 1]) hK ws_M_302 md_X12_move ⟨Nat.zero_le _, Nat.zero_le _⟩ ⟨by decide, by decide⟩ (kdm kd_200) rfl rfl dd_X12_moveAll_29 rfl rfl (Nat.le_of_ble_eq_true rfl) (d_mvk_206  (g_r1 ?_))
  refine g_mem (M2 := cp (cp (cp M 239 (M 240) 0 0 7) 239 (M 205) 0 7 30) 239 (M 206) 0 37 30) (by rfl) ?_
  refine g_istoren (pc := 32) (i := 2) (L' := [(0, gR 200), (1, gI 1), (2, gI 67)]) hK dd_X12_moveAll_32 rfl (by decide) rfl ?_
  refine g_aloadn (pc := 33) (i := 0) (x := 200) hK dd_X12_moveAll_33 rfl rfl ?_
  refine g_aloadn (pc := 34) (i := 0) (x := 200) hK dd_X12_moveAll_34 rfl rfl ?_
  refine g_getv (pc := 35) (f := (1, 7)) (j := 6) (v := gR 207) hK (kdm kd_200) rfl ef_12 (by decide) rfl kk_1107 dd_X12_moveAll_35 rfl ?_
  refine g_iloadn (pc := 38) (i := 2) (x := 67) hK dd_X12_moveAll_38 rfl rfl ?_
  refine g_iloadn (pc := 39) (i := 1) (x := 1) hK dd_X12_moveAll_39 rfl rfl ?_
  refine g_callV (pc := 40) (As := [gR 207, gI 67, gI 1]) hK ws_M_302 md_X12_move ⟨Nat.zero_le _, Nat.zero_le _⟩ ⟨by decide, by decide⟩ (kdm kd_200) rfl rfl dd_X12_moveAll_40 rfl rfl (Nat.le_of_ble_eq_true rfl) (d_mvk_207  (g_r1 ?_))
  refine g_mem (M2 := cp (cp (cp (cp M 239 (M 240) 0 0 7) 239 (M 205) 0 7 30) 239 (M 206) 0 37 30) 239 (M 207) 0 67 30) (by rfl) ?_
  refine g_istoren (pc := 43) (i := 2) (L' := [(0, gR 200), (1, gI 1), (2, gI 97)]) hK dd_X12_moveAll_43 rfl (by decide) rfl ?_
  refine g_aloadn (pc := 44) (i := 0) (x := 200) hK dd_X12_moveAll_44 rfl rfl ?_
  refine g_aloadn (pc := 45) (i := 0) (x := 200) hK dd_X12_moveAll_45 rfl rfl ?_
  refine g_getv (pc := 46) (f := (1, 8)) (j := 7) (v := gR 208) hK (kdm kd_200) rfl ef_12 (by decide) rfl kk_1108 dd_X12_moveAll_46 rfl ?_
  refine g_iloadn (pc := 49) (i := 2) (x := 97) hK dd_X12_moveAll_49 rfl rfl ?_
  refine g_iloadn (pc := 50) (i := 1) (x := 1) hK dd_X12_moveAll_50 rfl rfl ?_
  refine g_callV (pc := 51) (As := [gR 208, gI 97, gI 1]) hK ws_M_302 md_X12_move ⟨Nat.zero_le _, Nat.zero_le _⟩ ⟨by decide, by decide⟩ (kdm kd_200) rfl rfl dd_X12_moveAll_51 rfl rfl (Nat.le_of_ble_eq_true rfl) (d_mvk_208  (g_r1 ?_))
  refine g_mem (M2 := cp (cp (cp (cp (cp M 239 (M 240) 0 0 7) 239 (M 205) 0 7 30) 239 (M 206) 0 37 30) 239 (M 207) 0 67 30) 239 (M 208) 0 97 30) (by rfl) ?_
  refine g_istoren (pc := 54) (i := 2) (L' := [(0, gR 200), (1, gI 1), (2, gI 127)]) hK dd_X12_moveAll_54 rfl (by decide) rfl ?_
  refine g_aloadn (pc := 55) (i := 0) (x := 200) hK dd_X12_moveAll_55 rfl rfl ?_
  refine g_aloadn (pc := 56) (i := 0) (x := 200) hK dd_X12_moveAll_56 rfl rfl ?_
  refine g_getv (pc := 57) (f := (1, 9)) (j := 8) (v := gR 209) hK (kdm kd_200) rfl ef_12 (by decide) rfl kk_1109 dd_X12_moveAll_57 rfl ?_
  refine g_iloadn (pc := 60) (i := 2) (x := 127) hK dd_X12_moveAll_60 rfl rfl ?_
  refine g_iloadn (pc := 61) (i := 1) (x := 1) hK dd_X12_moveAll_61 rfl rfl ?_
  refine g_callV (pc := 62) (As := [gR 209, gI 127, gI 1]) hK ws_M_302 md_X12_move ⟨Nat.zero_le _, Nat.zero_le _⟩ ⟨by decide, by decide⟩ (kdm kd_200) rfl rfl dd_X12_moveAll_62 rfl rfl (Nat.le_of_ble_eq_true rfl) (d_mvk_209  (g_r1 ?_))
  refine g_mem (M2 := cp (cp (cp (cp (cp (cp M 239 (M 240) 0 0 7) 239 (M 205) 0 7 30) 239 (M 206) 0 37 30) 239 (M 207) 0 67 30) 239 (M 208) 0 97 30) 239 (M 209) 0 127 30) (by rfl) ?_
  refine g_istoren (pc := 65) (i := 2) (L' := [(0, gR 200), (1, gI 1), (2, gI 157)]) hK dd_X12_moveAll_65 rfl (by decide) rfl ?_
  refine g_aloadn (pc := 66) (i := 0) (x := 200) hK dd_X12_moveAll_66 rfl rfl ?_
  refine g_aloadn (pc := 67) (i := 0) (x := 200) hK dd_X12_moveAll_67 rfl rfl ?_
  refine g_getv (pc := 68) (f := (1, 10)) (j := 9) (v := gR 210) hK (kdm kd_200) rfl ef_12 (by decide) rfl kk_1110 dd_X12_moveAll_68 rfl ?_
  refine g_iloadn (pc := 71) (i := 2) (x := 157) hK dd_X12_moveAll_71 rfl rfl ?_
  refine g_iloadn (pc := 72) (i := 1) (x := 1) hK dd_X12_moveAll_72 rfl rfl ?_
  refine g_callV (pc := 73) (As := [gR 210, gI 157, gI 1]) hK ws_M_302 md_X12_move ⟨Nat.zero_le _, Nat.zero_le _⟩ ⟨by decide, by decide⟩ (kdm kd_200) rfl rfl dd_X12_moveAll_73 rfl rfl (Nat.le_of_ble_eq_true rfl) (d_mvk_210  (g_r1 ?_))
  refine g_mem (M2 := cp (cp (cp (cp (cp (cp (cp M 239 (M 240) 0 0 7) 239 (M 205) 0 7 30) 239 (M 206) 0 37 30) 239 (M 207) 0 67 30) 239 (M 208) 0 97 30) 239 (M 209) 0 127 30) 239 (M 210) 0 157 30) (by rfl) ?_
  refine g_istoren (pc := 76) (i := 2) (L' := [(0, gR 200), (1, gI 1), (2, gI 187)]) hK dd_X12_moveAll_76 rfl (by decide) rfl ?_
  refine g_aloadn (pc := 77) (i := 0) (x := 200) hK dd_X12_moveAll_77 rfl rfl ?_
  refine g_aloadn (pc := 78) (i := 0) (x := 200) hK dd_X12_moveAll_78 rfl rfl ?_
  refine g_getv (pc := 79) (f := (1, 12)) (j := 11) (v := gR 212) hK (kdm kd_200) rfl ef_12 (by decide) rfl kk_1112 dd_X12_moveAll_79 rfl ?_
  refine g_iloadn (pc := 82) (i := 2) (x := 187) hK dd_X12_moveAll_82 rfl rfl ?_
  refine g_iloadn (pc := 83) (i := 1) (x := 1) hK dd_X12_moveAll_83 rfl rfl ?_
  refine g_callV (pc := 84) (As := [gR 212, gI 187, gI 1]) hK ws_M_302 md_X12_move ⟨Nat.zero_le _, Nat.zero_le _⟩ ⟨by decide, by decide⟩ (kdm kd_200) rfl rfl dd_X12_moveAll_84 rfl rfl (Nat.le_of_ble_eq_true rfl) (d_mvk_212  (g_r1 ?_))
  refine g_mem (M2 := cp (cp (cp (cp (cp (cp (cp (cp M 239 (M 240) 0 0 7) 239 (M 205) 0 7 30) 239 (M 206) 0 37 30) 239 (M 207) 0 67 30) 239 (M 208) 0 97 30) 239 (M 209) 0 127 30) 239 (M 210) 0 157 30) 239 (M 212) 0 187 5) (by rfl) ?_
  refine g_istoren (pc := 87) (i := 2) (L' := [(0, gR 200), (1, gI 1), (2, gI 192)]) hK dd_X12_moveAll_87 rfl (by decide) rfl ?_
  refine g_aloadn (pc := 88) (i := 0) (x := 200) hK dd_X12_moveAll_88 rfl rfl ?_
  refine g_aloadn (pc := 89) (i := 0) (x := 200) hK dd_X12_moveAll_89 rfl rfl ?_
  refine g_getv (pc := 90) (f := (1, 13)) (j := 12) (v := gR 213) hK (kdm kd_200) rfl ef_12 (by decide) rfl kk_1113 dd_X12_moveAll_90 rfl ?_
  refine g_iloadn (pc := 93) (i := 2) (x := 192) hK dd_X12_moveAll_93 rfl rfl ?_
  refine g_iloadn (pc := 94) (i := 1) (x := 1) hK dd_X12_moveAll_94 rfl rfl ?_
  refine g_callV (pc := 95) (As := [gR 213, gI 192, gI 1]) hK ws_M_302 md_X12_move ⟨Nat.zero_le _, Nat.zero_le _⟩ ⟨by decide, by decide⟩ (kdm kd_200) rfl rfl dd_X12_moveAll_95 rfl rfl (Nat.le_of_ble_eq_true rfl) (d_mvk_213  (g_r1 ?_))
  refine g_mem (M2 := cp (cp (cp (cp (cp (cp (cp (cp (cp M 239 (M 240) 0 0 7) 239 (M 205) 0 7 30) 239 (M 206) 0 37 30) 239 (M 207) 0 67 30) 239 (M 208) 0 97 30) 239 (M 209) 0 127 30) 239 (M 210) 0 157 30) 239 (M 212) 0 187 5) 239 (M 213) 0 192 5) (by rfl) ?_
  refine g_istoren (pc := 98) (i := 2) (L' := [(0, gR 200), (1, gI 1), (2, gI 197)]) hK dd_X12_moveAll_98 rfl (by decide) rfl ?_
  refine g_aloadn (pc := 99) (i := 0) (x := 200) hK dd_X12_moveAll_99 rfl rfl ?_
  refine g_aloadn (pc := 100) (i := 0) (x := 200) hK dd_X12_moveAll_100 rfl rfl ?_
  refine g_getv (pc := 101) (f := (1, 14)) (j := 13) (v := gR 214) hK (kdm kd_200) rfl ef_12 (by decide) rfl kk_1114 dd_X12_moveAll_101 rfl ?_
  refine g_iloadn (pc := 104) (i := 2) (x := 197) hK dd_X12_moveAll_104 rfl rfl ?_
  refine g_iloadn (pc := 105) (i := 1) (x := 1) hK dd_X12_moveAll_105 rfl rfl ?_
  refine g_callV (pc := 106) (As := [gR 214, gI 197, gI 1]) hK ws_M_302 md_X12_move ⟨Nat.zero_le _, Nat.zero_le _⟩ ⟨by decide, by decide⟩ (kdm kd_200) rfl rfl dd_X12_moveAll_106 rfl rfl (Nat.le_of_ble_eq_true rfl) (d_mvk_214  (g_r1 ?_))
  refine g_mem (M2 := cp (cp (cp (cp (cp (cp (cp (cp (cp (cp M 239 (M 240) 0 0 7) 239 (M 205) 0 7 30) 239 (M 206) 0 37 30) 239 (M 207) 0 67 30) 239 (M 208) 0 97 30) 239 (M 209) 0 127 30) 239 (M 210) 0 157 30) 239 (M 212) 0 187 5) 239 (M 213) 0 192 5) 239 (M 214) 0 197 5) (by rfl) ?_
  refine g_istoren (pc := 109) (i := 2) (L' := [(0, gR 200), (1, gI 1), (2, gI 202)]) hK dd_X12_moveAll_109 rfl (by decide) rfl ?_
  refine g_aloadn (pc := 110) (i := 0) (x := 200) hK dd_X12_moveAll_110 rfl rfl ?_
  refine g_aloadn (pc := 111) (i := 0) (x := 200) hK dd_X12_moveAll_111 rfl rfl ?_
  refine g_getv (pc := 112) (f := (1, 16)) (j := 15) (v := gR 216) hK (kdm kd_200) rfl ef_12 (by decide) rfl kk_1116 dd_X12_moveAll_112 rfl ?_
  refine g_iloadn (pc := 115) (i := 2) (x := 202) hK dd_X12_moveAll_115 rfl rfl ?_
  refine g_iloadn (pc := 116) (i := 1) (x := 1) hK dd_X12_moveAll_116 rfl rfl ?_
  refine g_callV (pc := 117) (As := [gR 216, gI 202, gI 1]) hK ws_M_302 md_X12_move ⟨Nat.zero_le _, Nat.zero_le _⟩ ⟨by decide, by decide⟩ (kdm kd_200) rfl rfl dd_X12_moveAll_117 rfl rfl (Nat.le_of_ble_eq_true rfl) (d_mvk_216  (g_r1 ?_))
  refine g_mem (M2 := cp (cp (cp (cp (cp (cp (cp (cp (cp (cp (cp M 239 (M 240) 0 0 7) 239 (M 205) 0 7 30) 239 (M 206) 0 37 30) 239 (M 207) 0 67 30) 239 (M 208) 0 97 30) 239 (M 209) 0 127 30) 239 (M 210) 0 157 30) 239 (M 212) 0 187 5) 239 (M 213) 0 192 5) 239 (M 214) 0 197 5) 239 (M 216) 0 202 30) (by rfl) ?_
  refine g_istoren (pc := 120) (i := 2) (L' := [(0, gR 200), (1, gI 1), (2, gI 232)]) hK dd_X12_moveAll_120 rfl (by decide) rfl ?_
  refine g_aloadn (pc := 121) (i := 0) (x := 200) hK dd_X12_moveAll_121 rfl rfl ?_
  refine g_aloadn (pc := 122) (i := 0) (x := 200) hK dd_X12_moveAll_122 rfl rfl ?_
  refine g_getv (pc := 123) (f := (1, 20)) (j := 19) (v := gR 220) hK (kdm kd_200) rfl ef_12 (by decide) rfl kk_1120 dd_X12_moveAll_123 rfl ?_
  refine g_iloadn (pc := 126) (i := 2) (x := 232) hK dd_X12_moveAll_126 rfl rfl ?_
  refine g_iloadn (pc := 127) (i := 1) (x := 1) hK dd_X12_moveAll_127 rfl rfl ?_
  refine g_callV (pc := 128) (As := [gR 220, gI 232, gI 1]) hK ws_M_302 md_X12_move ⟨Nat.zero_le _, Nat.zero_le _⟩ ⟨by decide, by decide⟩ (kdm kd_200) rfl rfl dd_X12_moveAll_128 rfl rfl (Nat.le_of_ble_eq_true rfl) (d_mvk_220  (g_r1 ?_))
  refine g_mem (M2 := cp (cp (cp (cp (cp (cp (cp (cp (cp (cp (cp (cp M 239 (M 240) 0 0 7) 239 (M 205) 0 7 30) 239 (M 206) 0 37 30) 239 (M 207) 0 67 30) 239 (M 208) 0 97 30) 239 (M 209) 0 127 30) 239 (M 210) 0 157 30) 239 (M 212) 0 187 5) 239 (M 213) 0 192 5) 239 (M 214) 0 197 5) 239 (M 216) 0 202 30) 239 (M 220) 0 232 12) (by rfl) ?_
  refine g_istoren (pc := 131) (i := 2) (L' := [(0, gR 200), (1, gI 1), (2, gI 244)]) hK dd_X12_moveAll_131 rfl (by decide) rfl ?_
  refine g_aloadn (pc := 132) (i := 0) (x := 200) hK dd_X12_moveAll_132 rfl rfl ?_
  refine g_aloadn (pc := 133) (i := 0) (x := 200) hK dd_X12_moveAll_133 rfl rfl ?_
  refine g_getv (pc := 134) (f := (1, 21)) (j := 20) (v := gR 221) hK (kdm kd_200) rfl ef_12 (by decide) rfl kk_1121 dd_X12_moveAll_134 rfl ?_
  refine g_iloadn (pc := 137) (i := 2) (x := 244) hK dd_X12_moveAll_137 rfl rfl ?_
  refine g_iloadn (pc := 138) (i := 1) (x := 1) hK dd_X12_moveAll_138 rfl rfl ?_
  refine g_callV (pc := 139) (As := [gR 221, gI 244, gI 1]) hK ws_M_302 md_X12_move ⟨Nat.zero_le _, Nat.zero_le _⟩ ⟨by decide, by decide⟩ (kdm kd_200) rfl rfl dd_X12_moveAll_139 rfl rfl (Nat.le_of_ble_eq_true rfl) (d_mvk_221  (g_r1 ?_))
  refine g_mem (M2 := cp (cp (cp (cp (cp (cp (cp (cp (cp (cp (cp (cp (cp M 239 (M 240) 0 0 7) 239 (M 205) 0 7 30) 239 (M 206) 0 37 30) 239 (M 207) 0 67 30) 239 (M 208) 0 97 30) 239 (M 209) 0 127 30) 239 (M 210) 0 157 30) 239 (M 212) 0 187 5) 239 (M 213) 0 192 5) 239 (M 214) 0 197 5) 239 (M 216) 0 202 30) 239 (M 220) 0 232 12) 239 (M 221) 0 244 12) (by rfl) ?_
  refine g_istoren (pc := 142) (i := 2) (L' := [(0, gR 200), (1, gI 1), (2, gI 256)]) hK dd_X12_moveAll_142 rfl (by decide) rfl ?_
  refine g_aloadn (pc := 143) (i := 0) (x := 200) hK dd_X12_moveAll_143 rfl rfl ?_
  refine g_aloadn (pc := 144) (i := 0) (x := 200) hK dd_X12_moveAll_144 rfl rfl ?_
  refine g_getv (pc := 145) (f := (1, 22)) (j := 21) (v := gR 222) hK (kdm kd_200) rfl ef_12 (by decide) rfl kk_1122 dd_X12_moveAll_145 rfl ?_
  refine g_iloadn (pc := 148) (i := 2) (x := 256) hK dd_X12_moveAll_148 rfl rfl ?_
  refine g_iloadn (pc := 149) (i := 1) (x := 1) hK dd_X12_moveAll_149 rfl rfl ?_
  refine g_callV (pc := 150) (As := [gR 222, gI 256, gI 1]) hK ws_M_302 md_X12_move ⟨Nat.zero_le _, Nat.zero_le _⟩ ⟨by decide, by decide⟩ (kdm kd_200) rfl rfl dd_X12_moveAll_150 rfl rfl (Nat.le_of_ble_eq_true rfl) (d_mvk_222  (g_r1 ?_))
  refine g_mem (M2 := cp (cp (cp (cp (cp (cp (cp (cp (cp (cp (cp (cp (cp (cp M 239 (M 240) 0 0 7) 239 (M 205) 0 7 30) 239 (M 206) 0 37 30) 239 (M 207) 0 67 30) 239 (M 208) 0 97 30) 239 (M 209) 0 127 30) 239 (M 210) 0 157 30) 239 (M 212) 0 187 5) 239 (M 213) 0 192 5) 239 (M 214) 0 197 5) 239 (M 216) 0 202 30) 239 (M 220) 0 232 12) 239 (M 221) 0 244 12) 239 (M 222) 0 256 12) (by rfl) ?_
  refine g_istoren (pc := 153) (i := 2) (L' := [(0, gR 200), (1, gI 1), (2, gI 268)]) hK dd_X12_moveAll_153 rfl (by decide) rfl ?_
  refine g_aloadn (pc := 154) (i := 0) (x := 200) hK dd_X12_moveAll_154 rfl rfl ?_
  refine g_aloadn (pc := 155) (i := 0) (x := 200) hK dd_X12_moveAll_155 rfl rfl ?_
  refine g_getv (pc := 156) (f := (1, 23)) (j := 22) (v := gR 223) hK (kdm kd_200) rfl ef_12 (by decide) rfl kk_1123 dd_X12_moveAll_156 rfl ?_
  refine g_iloadn (pc := 159) (i := 2) (x := 268) hK dd_X12_moveAll_159 rfl rfl ?_
  refine g_iloadn (pc := 160) (i := 1) (x := 1) hK dd_X12_moveAll_160 rfl rfl ?_
  refine g_callV (pc := 161) (As := [gR 223, gI 268, gI 1]) hK ws_M_302 md_X12_move ⟨Nat.zero_le _, Nat.zero_le _⟩ ⟨by decide, by decide⟩ (kdm kd_200) rfl rfl dd_X12_moveAll_161 rfl rfl (Nat.le_of_ble_eq_true rfl) (d_mvk_223  (g_r1 ?_))
  refine g_mem (M2 := cp (cp (cp (cp (cp (cp (cp (cp (cp (cp (cp (cp (cp (cp (cp M 239 (M 240) 0 0 7) 239 (M 205) 0 7 30) 239 (M 206) 0 37 30) 239 (M 207) 0 67 30) 239 (M 208) 0 97 30) 239 (M 209) 0 127 30) 239 (M 210) 0 157 30) 239 (M 212) 0 187 5) 239 (M 213) 0 192 5) 239 (M 214) 0 197 5) 239 (M 216) 0 202 30) 239 (M 220) 0 232 12) 239 (M 221) 0 244 12) 239 (M 222) 0 256 12) 239 (M 223) 0 268 12) (by rfl) ?_
  refine g_istoren (pc := 164) (i := 2) (L' := [(0, gR 200), (1, gI 1), (2, gI 280)]) hK dd_X12_moveAll_164 rfl (by decide) rfl ?_
  refine g_aloadn (pc := 165) (i := 0) (x := 200) hK dd_X12_moveAll_165 rfl rfl ?_
  refine g_aloadn (pc := 166) (i := 0) (x := 200) hK dd_X12_moveAll_166 rfl rfl ?_
  refine g_getv (pc := 167) (f := (1, 24)) (j := 23) (v := gR 224) hK (kdm kd_200) rfl ef_12 (by decide) rfl kk_1124 dd_X12_moveAll_167 rfl ?_
  refine g_iloadn (pc := 170) (i := 2) (x := 280) hK dd_X12_moveAll_170 rfl rfl ?_
  refine g_iloadn (pc := 171) (i := 1) (x := 1) hK dd_X12_moveAll_171 rfl rfl ?_
  refine g_callV (pc := 172) (As := [gR 224, gI 280, gI 1]) hK ws_M_302 md_X12_move ⟨Nat.zero_le _, Nat.zero_le _⟩ ⟨by decide, by decide⟩ (kdm kd_200) rfl rfl dd_X12_moveAll_172 rfl rfl (Nat.le_of_ble_eq_true rfl) (d_mvk_224  (g_r1 ?_))
  refine g_mem (M2 := cp (cp (cp (cp (cp (cp (cp (cp (cp (cp (cp (cp (cp (cp (cp (cp M 239 (M 240) 0 0 7) 239 (M 205) 0 7 30) 239 (M 206) 0 37 30) 239 (M 207) 0 67 30) 239 (M 208) 0 97 30) 239 (M 209) 0 127 30) 239 (M 210) 0 157 30) 239 (M 212) 0 187 5) 239 (M 213) 0 192 5) 239 (M 214) 0 197 5) 239 (M 216) 0 202 30) 239 (M 220) 0 232 12) 239 (M 221) 0 244 12) 239 (M 222) 0 256 12) 239 (M 223) 0 268 12) 239 (M 224) 0 280 12) (by rfl) ?_
  refine g_istoren (pc := 175) (i := 2) (L' := [(0, gR 200), (1, gI 1), (2, gI 292)]) hK dd_X12_moveAll_175 rfl (by decide) rfl ?_
  refine g_aloadn (pc := 176) (i := 0) (x := 200) hK dd_X12_moveAll_176 rfl rfl ?_
  refine g_aloadn (pc := 177) (i := 0) (x := 200) hK dd_X12_moveAll_177 rfl rfl ?_
  refine g_getv (pc := 178) (f := (1, 26)) (j := 25) (v := gR 226) hK (kdm kd_200) rfl ef_12 (by decide) rfl kk_1126 dd_X12_moveAll_178 rfl ?_
  refine g_iloadn (pc := 181) (i := 2) (x := 292) hK dd_X12_moveAll_181 rfl rfl ?_
  refine g_iloadn (pc := 182) (i := 1) (x := 1) hK dd_X12_moveAll_182 rfl rfl ?_
  refine g_callV (pc := 183) (As := [gR 226, gI 292, gI 1]) hK ws_M_302 md_X12_move ⟨Nat.zero_le _, Nat.zero_le _⟩ ⟨by decide, by decide⟩ (kdm kd_200) rfl rfl dd_X12_moveAll_183 rfl rfl (Nat.le_of_ble_eq_true rfl) (d_mvk_226  (g_r1 ?_))
  refine g_mem (M2 := cp (cp (cp (cp (cp (cp (cp (cp (cp (cp (cp (cp (cp (cp (cp (cp (cp M 239 (M 240) 0 0 7) 239 (M 205) 0 7 30) 239 (M 206) 0 37 30) 239 (M 207) 0 67 30) 239 (M 208) 0 97 30) 239 (M 209) 0 127 30) 239 (M 210) 0 157 30) 239 (M 212) 0 187 5) 239 (M 213) 0 192 5) 239 (M 214) 0 197 5) 239 (M 216) 0 202 30) 239 (M 220) 0 232 12) 239 (M 221) 0 244 12) 239 (M 222) 0 256 12) 239 (M 223) 0 268 12) 239 (M 224) 0 280 12) 239 (M 226) 0 292 5) (by rfl) ?_
  refine g_istoren (pc := 186) (i := 2) (L' := [(0, gR 200), (1, gI 1), (2, gI 297)]) hK dd_X12_moveAll_186 rfl (by decide) rfl ?_
  refine g_aloadn (pc := 187) (i := 0) (x := 200) hK dd_X12_moveAll_187 rfl rfl ?_
  refine g_aloadn (pc := 188) (i := 0) (x := 200) hK dd_X12_moveAll_188 rfl rfl ?_
  refine g_getv (pc := 189) (f := (1, 28)) (j := 27) (v := gR 228) hK (kdm kd_200) rfl ef_12 (by decide) rfl kk_1128 dd_X12_moveAll_189 rfl ?_
  refine g_iloadn (pc := 192) (i := 2) (x := 297) hK dd_X12_moveAll_192 rfl rfl ?_
  refine g_iloadn (pc := 193) (i := 1) (x := 1) hK dd_X12_moveAll_193 rfl rfl ?_
  refine g_callV (pc := 194) (As := [gR 228, gI 297, gI 1]) hK ws_M_302 md_X12_move ⟨Nat.zero_le _, Nat.zero_le _⟩ ⟨by decide, by decide⟩ (kdm kd_200) rfl rfl dd_X12_moveAll_194 rfl rfl (Nat.le_of_ble_eq_true rfl) (d_mvk_228  (g_r1 ?_))
  refine g_mem (M2 := cp (cp (cp (cp (cp (cp (cp (cp (cp (cp (cp (cp (cp (cp (cp (cp (cp (cp M 239 (M 240) 0 0 7) 239 (M 205) 0 7 30) 239 (M 206) 0 37 30) 239 (M 207) 0 67 30) 239 (M 208) 0 97 30) 239 (M 209) 0 127 30) 239 (M 210) 0 157 30) 239 (M 212) 0 187 5) 239 (M 213) 0 192 5) 239 (M 214) 0 197 5) 239 (M 216) 0 202 30) 239 (M 220) 0 232 12) 239 (M 221) 0 244 12) 239 (M 222) 0 256 12) 239 (M 223) 0 268 12) 239 (M 224) 0 280 12) 239 (M 226) 0 292 5) 239 (M 228) 0 297 20) (by rfl) ?_
  refine g_istoren (pc := 197) (i := 2) (L' := [(0, gR 200), (1, gI 1), (2, gI 317)]) hK dd_X12_moveAll_197 rfl (by decide) rfl ?_
  refine g_aloadn (pc := 198) (i := 0) (x := 200) hK dd_X12_moveAll_198 rfl rfl ?_
  refine g_aloadn (pc := 199) (i := 0) (x := 200) hK dd_X12_moveAll_199 rfl rfl ?_
  refine g_getv (pc := 200) (f := (1, 29)) (j := 28) (v := gR 229) hK (kdm kd_200) rfl ef_12 (by decide) rfl kk_1129 dd_X12_moveAll_200 rfl ?_
  refine g_iloadn (pc := 203) (i := 2) (x := 317) hK dd_X12_moveAll_203 rfl rfl ?_
  refine g_iloadn (pc := 204) (i := 1) (x := 1) hK dd_X12_moveAll_204 rfl rfl ?_
  refine g_callV (pc := 205) (As := [gR 229, gI 317, gI 1]) hK ws_M_302 md_X12_move ⟨Nat.zero_le _, Nat.zero_le _⟩ ⟨by decide, by decide⟩ (kdm kd_200) rfl rfl dd_X12_moveAll_205 rfl rfl (Nat.le_of_ble_eq_true rfl) (d_mvk_229  (g_r1 ?_))
  refine g_mem (M2 := cp (cp (cp (cp (cp (cp (cp (cp (cp (cp (cp (cp (cp (cp (cp (cp (cp (cp (cp M 239 (M 240) 0 0 7) 239 (M 205) 0 7 30) 239 (M 206) 0 37 30) 239 (M 207) 0 67 30) 239 (M 208) 0 97 30) 239 (M 209) 0 127 30) 239 (M 210) 0 157 30) 239 (M 212) 0 187 5) 239 (M 213) 0 192 5) 239 (M 214) 0 197 5) 239 (M 216) 0 202 30) 239 (M 220) 0 232 12) 239 (M 221) 0 244 12) 239 (M 222) 0 256 12) 239 (M 223) 0 268 12) 239 (M 224) 0 280 12) 239 (M 226) 0 292 5) 239 (M 228) 0 297 20) 239 (M 229) 0 317 20) (by rfl) ?_
  refine g_istoren (pc := 208) (i := 2) (L' := [(0, gR 200), (1, gI 1), (2, gI 337)]) hK dd_X12_moveAll_208 rfl (by decide) rfl ?_
  refine g_aloadn (pc := 209) (i := 0) (x := 200) hK dd_X12_moveAll_209 rfl rfl ?_
  refine g_aloadn (pc := 210) (i := 0) (x := 200) hK dd_X12_moveAll_210 rfl rfl ?_
  refine g_getv (pc := 211) (f := (1, 30)) (j := 29) (v := gR 230) hK (kdm kd_200) rfl ef_12 (by decide) rfl kk_1130 dd_X12_moveAll_211 rfl ?_
  refine g_iloadn (pc := 214) (i := 2) (x := 337) hK dd_X12_moveAll_214 rfl rfl ?_
  refine g_iloadn (pc := 215) (i := 1) (x := 1) hK dd_X12_moveAll_215 rfl rfl ?_
  refine g_callV (pc := 216) (As := [gR 230, gI 337, gI 1]) hK ws_M_302 md_X12_move ⟨Nat.zero_le _, Nat.zero_le _⟩ ⟨by decide, by decide⟩ (kdm kd_200) rfl rfl dd_X12_moveAll_216 rfl rfl (Nat.le_of_ble_eq_true rfl) (d_mvk_230  (g_r1 ?_))
  refine g_mem (M2 := cp (cp (cp (cp (cp (cp (cp (cp (cp (cp (cp (cp (cp (cp (cp (cp (cp (cp (cp (cp M 239 (M 240) 0 0 7) 239 (M 205) 0 7 30) 239 (M 206) 0 37 30) 239 (M 207) 0 67 30) 239 (M 208) 0 97 30) 239 (M 209) 0 127 30) 239 (M 210) 0 157 30) 239 (M 212) 0 187 5) 239 (M 213) 0 192 5) 239 (M 214) 0 197 5) 239 (M 216) 0 202 30) 239 (M 220) 0 232 12) 239 (M 221) 0 244 12) 239 (M 222) 0 256 12) 239 (M 223) 0 268 12) 239 (M 224) 0 280 12) 239 (M 226) 0 292 5) 239 (M 228) 0 297 20) 239 (M 229) 0 317 20) 239 (M 230) 0 337 20) (by rfl) ?_
  refine g_istoren (pc := 219) (i := 2) (L' := [(0, gR 200), (1, gI 1), (2, gI 357)]) hK dd_X12_moveAll_219 rfl (by decide) rfl ?_
  refine g_aloadn (pc := 220) (i := 0) (x := 200) hK dd_X12_moveAll_220 rfl rfl ?_
  refine g_aloadn (pc := 221) (i := 0) (x := 200) hK dd_X12_moveAll_221 rfl rfl ?_
  refine g_getv (pc := 222) (f := (1, 31)) (j := 30) (v := gR 231) hK (kdm kd_200) rfl ef_12 (by decide) rfl kk_1131 dd_X12_moveAll_222 rfl ?_
  refine g_iloadn (pc := 225) (i := 2) (x := 357) hK dd_X12_moveAll_225 rfl rfl ?_
  refine g_iloadn (pc := 226) (i := 1) (x := 1) hK dd_X12_moveAll_226 rfl rfl ?_
  refine g_callV (pc := 227) (As := [gR 231, gI 357, gI 1]) hK ws_M_302 md_X12_move ⟨Nat.zero_le _, Nat.zero_le _⟩ ⟨by decide, by decide⟩ (kdm kd_200) rfl rfl dd_X12_moveAll_227 rfl rfl (Nat.le_of_ble_eq_true rfl) (d_mvk_231  (g_r1 ?_))
  refine g_mem (M2 := cp (cp (cp (cp (cp (cp (cp (cp (cp (cp (cp (cp (cp (cp (cp (cp (cp (cp (cp (cp (cp M 239 (M 240) 0 0 7) 239 (M 205) 0 7 30) 239 (M 206) 0 37 30) 239 (M 207) 0 67 30) 239 (M 208) 0 97 30) 239 (M 209) 0 127 30) 239 (M 210) 0 157 30) 239 (M 212) 0 187 5) 239 (M 213) 0 192 5) 239 (M 214) 0 197 5) 239 (M 216) 0 202 30) 239 (M 220) 0 232 12) 239 (M 221) 0 244 12) 239 (M 222) 0 256 12) 239 (M 223) 0 268 12) 239 (M 224) 0 280 12) 239 (M 226) 0 292 5) 239 (M 228) 0 297 20) 239 (M 229) 0 317 20) 239 (M 230) 0 337 20) 239 (M 231) 0 357 20) (by rfl) ?_
  refine g_istoren (pc := 230) (i := 2) (L' := [(0, gR 200), (1, gI 1), (2, gI 377)]) hK dd_X12_moveAll_230 rfl (by decide) rfl ?_
  refine g_aloadn (pc := 231) (i := 0) (x := 200) hK dd_X12_moveAll_231 rfl rfl ?_
  refine g_aloadn (pc := 232) (i := 0) (x := 200) hK dd_X12_moveAll_232 rfl rfl ?_
  refine g_getv (pc := 233) (f := (1, 33)) (j := 32) (v := gR 233) hK (kdm kd_200) rfl ef_12 (by decide) rfl kk_1133 dd_X12_moveAll_233 rfl ?_
  refine g_iloadn (pc := 236) (i := 2) (x := 377) hK dd_X12_moveAll_236 rfl rfl ?_
  refine g_iloadn (pc := 237) (i := 1) (x := 1) hK dd_X12_moveAll_237 rfl rfl ?_
  refine g_callV (pc := 238) (As := [gR 233, gI 377, gI 1]) hK ws_M_302 md_X12_move ⟨Nat.zero_le _, Nat.zero_le _⟩ ⟨by decide, by decide⟩ (kdm kd_200) rfl rfl dd_X12_moveAll_238 rfl rfl (Nat.le_of_ble_eq_true rfl) (d_mvk_233  (g_r1 ?_))
  refine g_mem (M2 := cp (cp (cp (cp (cp (cp (cp (cp (cp (cp (cp (cp (cp (cp (cp (cp (cp (cp (cp (cp (cp (cp M 239 (M 240) 0 0 7) 239 (M 205) 0 7 30) 239 (M 206) 0 37 30) 239 (M 207) 0 67 30) 239 (M 208) 0 97 30) 239 (M 209) 0 127 30) 239 (M 210) 0 157 30) 239 (M 212) 0 187 5) 239 (M 213) 0 192 5) 239 (M 214) 0 197 5) 239 (M 216) 0 202 30) 239 (M 220) 0 232 12) 239 (M 221) 0 244 12) 239 (M 222) 0 256 12) 239 (M 223) 0 268 12) 239 (M 224) 0 280 12) 239 (M 226) 0 292 5) 239 (M 228) 0 297 20) 239 (M 229) 0 317 20) 239 (M 230) 0 337 20) 239 (M 231) 0 357 20) 239 (M 233) 0 377 10) (by rfl) ?_
  refine g_istoren (pc := 241) (i := 2) (L' := [(0, gR 200), (1, gI 1), (2, gI 387)]) hK dd_X12_moveAll_241 rfl (by decide) rfl ?_
  refine g_aloadn (pc := 242) (i := 0) (x := 200) hK dd_X12_moveAll_242 rfl rfl ?_
  refine g_aloadn (pc := 243) (i := 0) (x := 200) hK dd_X12_moveAll_243 rfl rfl ?_
  refine g_getv (pc := 244) (f := (1, 34)) (j := 33) (v := gR 234) hK (kdm kd_200) rfl ef_12 (by decide) rfl kk_1134 dd_X12_moveAll_244 rfl ?_
  refine g_iloadn (pc := 247) (i := 2) (x := 387) hK dd_X12_moveAll_247 rfl rfl ?_
  refine g_iloadn (pc := 248) (i := 1) (x := 1) hK dd_X12_moveAll_248 rfl rfl ?_
  refine g_callV (pc := 249) (As := [gR 234, gI 387, gI 1]) hK ws_M_302 md_X12_move ⟨Nat.zero_le _, Nat.zero_le _⟩ ⟨by decide, by decide⟩ (kdm kd_200) rfl rfl dd_X12_moveAll_249 rfl rfl (Nat.le_of_ble_eq_true rfl) (d_mvk_234  (g_r1 ?_))
  refine g_mem (M2 := cp (cp (cp (cp (cp (cp (cp (cp (cp (cp (cp (cp (cp (cp (cp (cp (cp (cp (cp (cp (cp (cp (cp M 239 (M 240) 0 0 7) 239 (M 205) 0 7 30) 239 (M 206) 0 37 30) 239 (M 207) 0 67 30) 239 (M 208) 0 97 30) 239 (M 209) 0 127 30) 239 (M 210) 0 157 30) 239 (M 212) 0 187 5) 239 (M 213) 0 192 5) 239 (M 214) 0 197 5) 239 (M 216) 0 202 30) 239 (M 220) 0 232 12) 239 (M 221) 0 244 12) 239 (M 222) 0 256 12) 239 (M 223) 0 268 12) 239 (M 224) 0 280 12) 239 (M 226) 0 292 5) 239 (M 228) 0 297 20) 239 (M 229) 0 317 20) 239 (M 230) 0 337 20) 239 (M 231) 0 357 20) 239 (M 233) 0 377 10) 239 (M 234) 0 387 10) (by rfl) ?_
  refine g_istoren (pc := 252) (i := 2) (L' := [(0, gR 200), (1, gI 1), (2, gI 397)]) hK dd_X12_moveAll_252 rfl (by decide) rfl ?_
  refine g_aloadn (pc := 253) (i := 0) (x := 200) hK dd_X12_moveAll_253 rfl rfl ?_
  refine g_aloadn (pc := 254) (i := 0) (x := 200) hK dd_X12_moveAll_254 rfl rfl ?_
  refine g_getv (pc := 255) (f := (1, 35)) (j := 34) (v := gR 235) hK (kdm kd_200) rfl ef_12 (by decide) rfl kk_1135 dd_X12_moveAll_255 rfl ?_
  refine g_iloadn (pc := 258) (i := 2) (x := 397) hK dd_X12_moveAll_258 rfl rfl ?_
  refine g_iloadn (pc := 259) (i := 1) (x := 1) hK dd_X12_moveAll_259 rfl rfl ?_
  refine g_callV (pc := 260) (As := [gR 235, gI 397, gI 1]) hK ws_M_302 md_X12_move ⟨Nat.zero_le _, Nat.zero_le _⟩ ⟨by decide, by decide⟩ (kdm kd_200) rfl rfl dd_X12_moveAll_260 rfl rfl (Nat.le_of_ble_eq_true rfl) (d_mvk_235  (g_r1 ?_))
  refine g_mem (M2 := cp (cp (cp (cp (cp (cp (cp (cp (cp (cp (cp (cp (cp (cp (cp (cp (cp (cp (cp (cp (cp (cp (cp (cp M 239 (M 240) 0 0 7) 239 (M 205) 0 7 30) 239 (M 206) 0 37 30) 239 (M 207) 0 67 30) 239 (M 208) 0 97 30) 239 (M 209) 0 127 30) 239 (M 210) 0 157 30) 239 (M 212) 0 187 5) 239 (M 213) 0 192 5) 239 (M 214) 0 197 5) 239 (M 216) 0 202 30) 239 (M 220) 0 232 12) 239 (M 221) 0 244 12) 239 (M 222) 0 256 12) 239 (M 223) 0 268 12) 239 (M 224) 0 280 12) 239 (M 226) 0 292 5) 239 (M 228) 0 297 20) 239 (M 229) 0 317 20) 239 (M 230) 0 337 20) 239 (M 231) 0 357 20) 239 (M 233) 0 377 10) 239 (M 234) 0 387 10) 239 (M 235) 0 397 16) (by rfl) ?_
  refine g_istoren (pc := 263) (i := 2) (L' := [(0, gR 200), (1, gI 1), (2, gI 413)]) hK dd_X12_moveAll_263 rfl (by decide) rfl ?_
  refine g_aloadn (pc := 264) (i := 0) (x := 200) hK dd_X12_moveAll_264 rfl rfl ?_
  refine g_aloadn (pc := 265) (i := 0) (x := 200) hK dd_X12_moveAll_265 rfl rfl ?_
  refine g_getv (pc := 266) (f := (1, 36)) (j := 35) (v := gR 236) hK (kdm kd_200) rfl ef_12 (by decide) rfl kk_1136 dd_X12_moveAll_266 rfl ?_
  refine g_iloadn (pc := 269) (i := 2) (x := 413) hK dd_X12_moveAll_269 rfl rfl ?_
  refine g_iloadn (pc := 270) (i := 1) (x := 1) hK dd_X12_moveAll_270 rfl rfl ?_
  refine g_callV (pc := 271) (As := [gR 236, gI 413, gI 1]) hK ws_M_302 md_X12_move ⟨Nat.zero_le _, Nat.zero_le _⟩ ⟨by decide, by decide⟩ (kdm kd_200) rfl rfl dd_X12_moveAll_271 rfl rfl (Nat.le_of_ble_eq_true rfl) (d_mvk_236  (g_r1 ?_))
  refine g_mem (M2 := cp (cp (cp (cp (cp (cp (cp (cp (cp (cp (cp (cp (cp (cp (cp (cp (cp (cp (cp (cp (cp (cp (cp (cp (cp M 239 (M 240) 0 0 7) 239 (M 205) 0 7 30) 239 (M 206) 0 37 30) 239 (M 207) 0 67 30) 239 (M 208) 0 97 30) 239 (M 209) 0 127 30) 239 (M 210) 0 157 30) 239 (M 212) 0 187 5) 239 (M 213) 0 192 5) 239 (M 214) 0 197 5) 239 (M 216) 0 202 30) 239 (M 220) 0 232 12) 239 (M 221) 0 244 12) 239 (M 222) 0 256 12) 239 (M 223) 0 268 12) 239 (M 224) 0 280 12) 239 (M 226) 0 292 5) 239 (M 228) 0 297 20) 239 (M 229) 0 317 20) 239 (M 230) 0 337 20) 239 (M 231) 0 357 20) 239 (M 233) 0 377 10) 239 (M 234) 0 387 10) 239 (M 235) 0 397 16) 239 (M 236) 0 413 4) (by rfl) ?_
  refine g_pop (pc := 274) hK dd_X12_moveAll_274 rfl ?_
  refine g_vret (pc := 275) hK hr hlocks dd_X12_moveAll_275 ?_
  exact g_finM hQ (by rfl)
set_option maxHeartbeats 4000000 in
set_option maxRecDepth 100000 in
theorem d_mvAb {l : Launch} {M : Mem} {Pq : Option gV → Mem → Prop}  (hQ : Pq none (mvB M)) : gCtr l my_X12_moveAll mb_X12_moveAll 3 ((none : Option Jvm.ClassFile.FieldType)) 2 [gR 200, gI 0] M Pq := by
  refine g_intro (by decide) (Nat.le_of_ble_eq_true rfl) ?_
  intro p e s m args below meth c D cy q A hK hr hlocks hw
  refine g_sub (L' := [(0, gR 200), (1, gI 0)]) [0, 1] rfl ?_
  refine g_aloadn (pc := 0) (i := 0) (x := 200) hK dd_X12_moveAll_0 rfl rfl ?_
  refine g_aloadn (pc := 1) (i := 0) (x := 200) hK dd_X12_moveAll_1 rfl rfl ?_
  refine g_getv (pc := 2) (f := (1, 40)) (j := 39) (v := gR 240) hK (kdm kd_200) rfl ef_12 (by decide) rfl kk_1140 dd_X12_moveAll_2 rfl ?_
  refine g_iconst (pc := 5) (x := 0) hK dd_X12_moveAll_5 (by decide) ?_
  refine g_iloadn (pc := 6) (i := 1) (x := 0) hK dd_X12_moveAll_6 rfl rfl ?_
  refine g_callV (pc := 7) (As := [gR 240, gI 0, gI 0]) hK ws_M_302 md_X12_move ⟨Nat.zero_le _, Nat.zero_le _⟩ ⟨by decide, by decide⟩ (kdm kd_200) rfl rfl dd_X12_moveAll_7 rfl rfl (Nat.le_of_ble_eq_true rfl) (d_mvb_240  (g_r1 ?_))
  refine g_mem (M2 := cp M 240 (M 239) 0 0 7) (by rfl) ?_
  refine g_istoren (pc := 10) (i := 2) (L' := [(0, gR 200), (1, gI 0), (2, gI 7)]) hK dd_X12_moveAll_10 rfl (by decide) rfl ?_
  refine g_aloadn (pc := 11) (i := 0) (x := 200) hK dd_X12_moveAll_11 rfl rfl ?_
  refine g_aloadn (pc := 12) (i := 0) (x := 200) hK dd_X12_moveAll_12 rfl rfl ?_
  refine g_getv (pc := 13) (f := (1, 5)) (j := 4) (v := gR 205) hK (kdm kd_200) rfl ef_12 (by decide) rfl kk_1105 dd_X12_moveAll_13 rfl ?_
  refine g_iloadn (pc := 16) (i := 2) (x := 7) hK dd_X12_moveAll_16 rfl rfl ?_
  refine g_iloadn (pc := 17) (i := 1) (x := 0) hK dd_X12_moveAll_17 rfl rfl ?_
  refine g_callV (pc := 18) (As := [gR 205, gI 7, gI 0]) hK ws_M_302 md_X12_move ⟨Nat.zero_le _, Nat.zero_le _⟩ ⟨by decide, by decide⟩ (kdm kd_200) rfl rfl dd_X12_moveAll_18 rfl rfl (Nat.le_of_ble_eq_true rfl) (d_mvb_205  (g_r1 ?_))
  refine g_mem (M2 := cp (cp M 240 (M 239) 0 0 7) 205 (M 239) 7 0 30) (by rfl) ?_
  refine g_istoren (pc := 21) (i := 2) (L' := [(0, gR 200), (1, gI 0), (2, gI 37)]) hK dd_X12_moveAll_21 rfl (by decide) rfl ?_
  refine g_aloadn (pc := 22) (i := 0) (x := 200) hK dd_X12_moveAll_22 rfl rfl ?_
  refine g_aloadn (pc := 23) (i := 0) (x := 200) hK dd_X12_moveAll_23 rfl rfl ?_
  refine g_getv (pc := 24) (f := (1, 6)) (j := 5) (v := gR 206) hK (kdm kd_200) rfl ef_12 (by decide) rfl kk_1106 dd_X12_moveAll_24 rfl ?_
  refine g_iloadn (pc := 27) (i := 2) (x := 37) hK dd_X12_moveAll_27 rfl rfl ?_
  refine g_iloadn (pc := 28) (i := 1) (x := 0) hK dd_X12_moveAll_28 rfl rfl ?_
  refine g_callV (pc := 29) (As := [gR 206, gI 37, gI 0]) hK ws_M_302 md_X12_move ⟨Nat.zero_le _, Nat.zero_le _⟩ ⟨by decide, by decide⟩ (kdm kd_200) rfl rfl dd_X12_moveAll_29 rfl rfl (Nat.le_of_ble_eq_true rfl) (d_mvb_206  (g_r1 ?_))
  refine g_mem (M2 := cp (cp (cp M 240 (M 239) 0 0 7) 205 (M 239) 7 0 30) 206 (M 239) 37 0 30) (by rfl) ?_
  refine g_istoren (pc := 32) (i := 2) (L' := [(0, gR 200), (1, gI 0), (2, gI 67)]) hK dd_X12_moveAll_32 rfl (by decide) rfl ?_
  refine g_aloadn (pc := 33) (i := 0) (x := 200) hK dd_X12_moveAll_33 rfl rfl ?_
  refine g_aloadn (pc := 34) (i := 0) (x := 200) hK dd_X12_moveAll_34 rfl rfl ?_
  refine g_getv (pc := 35) (f := (1, 7)) (j := 6) (v := gR 207) hK (kdm kd_200) rfl ef_12 (by decide) rfl kk_1107 dd_X12_moveAll_35 rfl ?_
  refine g_iloadn (pc := 38) (i := 2) (x := 67) hK dd_X12_moveAll_38 rfl rfl ?_
  refine g_iloadn (pc := 39) (i := 1) (x := 0) hK dd_X12_moveAll_39 rfl rfl ?_
  refine g_callV (pc := 40) (As := [gR 207, gI 67, gI 0]) hK ws_M_302 md_X12_move ⟨Nat.zero_le _, Nat.zero_le _⟩ ⟨by decide, by decide⟩ (kdm kd_200) rfl rfl dd_X12_moveAll_40 rfl rfl (Nat.le_of_ble_eq_true rfl) (d_mvb_207  (g_r1 ?_))
  refine g_mem (M2 := cp (cp (cp (cp M 240 (M 239) 0 0 7) 205 (M 239) 7 0 30) 206 (M 239) 37 0 30) 207 (M 239) 67 0 30) (by rfl) ?_
  refine g_istoren (pc := 43) (i := 2) (L' := [(0, gR 200), (1, gI 0), (2, gI 97)]) hK dd_X12_moveAll_43 rfl (by decide) rfl ?_
  refine g_aloadn (pc := 44) (i := 0) (x := 200) hK dd_X12_moveAll_44 rfl rfl ?_
  refine g_aloadn (pc := 45) (i := 0) (x := 200) hK dd_X12_moveAll_45 rfl rfl ?_
  refine g_getv (pc := 46) (f := (1, 8)) (j := 7) (v := gR 208) hK (kdm kd_200) rfl ef_12 (by decide) rfl kk_1108 dd_X12_moveAll_46 rfl ?_
  refine g_iloadn (pc := 49) (i := 2) (x := 97) hK dd_X12_moveAll_49 rfl rfl ?_
  refine g_iloadn (pc := 50) (i := 1) (x := 0) hK dd_X12_moveAll_50 rfl rfl ?_
  refine g_callV (pc := 51) (As := [gR 208, gI 97, gI 0]) hK ws_M_302 md_X12_move ⟨Nat.zero_le _, Nat.zero_le _⟩ ⟨by decide, by decide⟩ (kdm kd_200) rfl rfl dd_X12_moveAll_51 rfl rfl (Nat.le_of_ble_eq_true rfl) (d_mvb_208  (g_r1 ?_))
  refine g_mem (M2 := cp (cp (cp (cp (cp M 240 (M 239) 0 0 7) 205 (M 239) 7 0 30) 206 (M 239) 37 0 30) 207 (M 239) 67 0 30) 208 (M 239) 97 0 30) (by rfl) ?_
  refine g_istoren (pc := 54) (i := 2) (L' := [(0, gR 200), (1, gI 0), (2, gI 127)]) hK dd_X12_moveAll_54 rfl (by decide) rfl ?_
  refine g_aloadn (pc := 55) (i := 0) (x := 200) hK dd_X12_moveAll_55 rfl rfl ?_
  refine g_aloadn (pc := 56) (i := 0) (x := 200) hK dd_X12_moveAll_56 rfl rfl ?_
  refine g_getv (pc := 57) (f := (1, 9)) (j := 8) (v := gR 209) hK (kdm kd_200) rfl ef_12 (by decide) rfl kk_1109 dd_X12_moveAll_57 rfl ?_
  refine g_iloadn (pc := 60) (i := 2) (x := 127) hK dd_X12_moveAll_60 rfl rfl ?_
  refine g_iloadn (pc := 61) (i := 1) (x := 0) hK dd_X12_moveAll_61 rfl rfl ?_
  refine g_callV (pc := 62) (As := [gR 209, gI 127, gI 0]) hK ws_M_302 md_X12_move ⟨Nat.zero_le _, Nat.zero_le _⟩ ⟨by decide, by decide⟩ (kdm kd_200) rfl rfl dd_X12_moveAll_62 rfl rfl (Nat.le_of_ble_eq_true rfl) (d_mvb_209  (g_r1 ?_))
  refine g_mem (M2 := cp (cp (cp (cp (cp (cp M 240 (M 239) 0 0 7) 205 (M 239) 7 0 30) 206 (M 239) 37 0 30) 207 (M 239) 67 0 30) 208 (M 239) 97 0 30) 209 (M 239) 127 0 30) (by rfl) ?_
  refine g_istoren (pc := 65) (i := 2) (L' := [(0, gR 200), (1, gI 0), (2, gI 157)]) hK dd_X12_moveAll_65 rfl (by decide) rfl ?_
  refine g_aloadn (pc := 66) (i := 0) (x := 200) hK dd_X12_moveAll_66 rfl rfl ?_
  refine g_aloadn (pc := 67) (i := 0) (x := 200) hK dd_X12_moveAll_67 rfl rfl ?_
  refine g_getv (pc := 68) (f := (1, 10)) (j := 9) (v := gR 210) hK (kdm kd_200) rfl ef_12 (by decide) rfl kk_1110 dd_X12_moveAll_68 rfl ?_
  refine g_iloadn (pc := 71) (i := 2) (x := 157) hK dd_X12_moveAll_71 rfl rfl ?_
  refine g_iloadn (pc := 72) (i := 1) (x := 0) hK dd_X12_moveAll_72 rfl rfl ?_
  refine g_callV (pc := 73) (As := [gR 210, gI 157, gI 0]) hK ws_M_302 md_X12_move ⟨Nat.zero_le _, Nat.zero_le _⟩ ⟨by decide, by decide⟩ (kdm kd_200) rfl rfl dd_X12_moveAll_73 rfl rfl (Nat.le_of_ble_eq_true rfl) (d_mvb_210  (g_r1 ?_))
  refine g_mem (M2 := cp (cp (cp (cp (cp (cp (cp M 240 (M 239) 0 0 7) 205 (M 239) 7 0 30) 206 (M 239) 37 0 30) 207 (M 239) 67 0 30) 208 (M 239) 97 0 30) 209 (M 239) 127 0 30) 210 (M 239) 157 0 30) (by rfl) ?_
  refine g_istoren (pc := 76) (i := 2) (L' := [(0, gR 200), (1, gI 0), (2, gI 187)]) hK dd_X12_moveAll_76 rfl (by decide) rfl ?_
  refine g_aloadn (pc := 77) (i := 0) (x := 200) hK dd_X12_moveAll_77 rfl rfl ?_
  refine g_aloadn (pc := 78) (i := 0) (x := 200) hK dd_X12_moveAll_78 rfl rfl ?_
  refine g_getv (pc := 79) (f := (1, 12)) (j := 11) (v := gR 212) hK (kdm kd_200) rfl ef_12 (by decide) rfl kk_1112 dd_X12_moveAll_79 rfl ?_
  refine g_iloadn (pc := 82) (i := 2) (x := 187) hK dd_X12_moveAll_82 rfl rfl ?_
  refine g_iloadn (pc := 83) (i := 1) (x := 0) hK dd_X12_moveAll_83 rfl rfl ?_
  refine g_callV (pc := 84) (As := [gR 212, gI 187, gI 0]) hK ws_M_302 md_X12_move ⟨Nat.zero_le _, Nat.zero_le _⟩ ⟨by decide, by decide⟩ (kdm kd_200) rfl rfl dd_X12_moveAll_84 rfl rfl (Nat.le_of_ble_eq_true rfl) (d_mvb_212  (g_r1 ?_))
  refine g_mem (M2 := cp (cp (cp (cp (cp (cp (cp (cp M 240 (M 239) 0 0 7) 205 (M 239) 7 0 30) 206 (M 239) 37 0 30) 207 (M 239) 67 0 30) 208 (M 239) 97 0 30) 209 (M 239) 127 0 30) 210 (M 239) 157 0 30) 212 (M 239) 187 0 5) (by rfl) ?_
  refine g_istoren (pc := 87) (i := 2) (L' := [(0, gR 200), (1, gI 0), (2, gI 192)]) hK dd_X12_moveAll_87 rfl (by decide) rfl ?_
  refine g_aloadn (pc := 88) (i := 0) (x := 200) hK dd_X12_moveAll_88 rfl rfl ?_
  refine g_aloadn (pc := 89) (i := 0) (x := 200) hK dd_X12_moveAll_89 rfl rfl ?_
  refine g_getv (pc := 90) (f := (1, 13)) (j := 12) (v := gR 213) hK (kdm kd_200) rfl ef_12 (by decide) rfl kk_1113 dd_X12_moveAll_90 rfl ?_
  refine g_iloadn (pc := 93) (i := 2) (x := 192) hK dd_X12_moveAll_93 rfl rfl ?_
  refine g_iloadn (pc := 94) (i := 1) (x := 0) hK dd_X12_moveAll_94 rfl rfl ?_
  refine g_callV (pc := 95) (As := [gR 213, gI 192, gI 0]) hK ws_M_302 md_X12_move ⟨Nat.zero_le _, Nat.zero_le _⟩ ⟨by decide, by decide⟩ (kdm kd_200) rfl rfl dd_X12_moveAll_95 rfl rfl (Nat.le_of_ble_eq_true rfl) (d_mvb_213  (g_r1 ?_))
  refine g_mem (M2 := cp (cp (cp (cp (cp (cp (cp (cp (cp M 240 (M 239) 0 0 7) 205 (M 239) 7 0 30) 206 (M 239) 37 0 30) 207 (M 239) 67 0 30) 208 (M 239) 97 0 30) 209 (M 239) 127 0 30) 210 (M 239) 157 0 30) 212 (M 239) 187 0 5) 213 (M 239) 192 0 5) (by rfl) ?_
  refine g_istoren (pc := 98) (i := 2) (L' := [(0, gR 200), (1, gI 0), (2, gI 197)]) hK dd_X12_moveAll_98 rfl (by decide) rfl ?_
  refine g_aloadn (pc := 99) (i := 0) (x := 200) hK dd_X12_moveAll_99 rfl rfl ?_
  refine g_aloadn (pc := 100) (i := 0) (x := 200) hK dd_X12_moveAll_100 rfl rfl ?_
  refine g_getv (pc := 101) (f := (1, 14)) (j := 13) (v := gR 214) hK (kdm kd_200) rfl ef_12 (by decide) rfl kk_1114 dd_X12_moveAll_101 rfl ?_
  refine g_iloadn (pc := 104) (i := 2) (x := 197) hK dd_X12_moveAll_104 rfl rfl ?_
  refine g_iloadn (pc := 105) (i := 1) (x := 0) hK dd_X12_moveAll_105 rfl rfl ?_
  refine g_callV (pc := 106) (As := [gR 214, gI 197, gI 0]) hK ws_M_302 md_X12_move ⟨Nat.zero_le _, Nat.zero_le _⟩ ⟨by decide, by decide⟩ (kdm kd_200) rfl rfl dd_X12_moveAll_106 rfl rfl (Nat.le_of_ble_eq_true rfl) (d_mvb_214  (g_r1 ?_))
  refine g_mem (M2 := cp (cp (cp (cp (cp (cp (cp (cp (cp (cp M 240 (M 239) 0 0 7) 205 (M 239) 7 0 30) 206 (M 239) 37 0 30) 207 (M 239) 67 0 30) 208 (M 239) 97 0 30) 209 (M 239) 127 0 30) 210 (M 239) 157 0 30) 212 (M 239) 187 0 5) 213 (M 239) 192 0 5) 214 (M 239) 197 0 5) (by rfl) ?_
  refine g_istoren (pc := 109) (i := 2) (L' := [(0, gR 200), (1, gI 0), (2, gI 202)]) hK dd_X12_moveAll_109 rfl (by decide) rfl ?_
  refine g_aloadn (pc := 110) (i := 0) (x := 200) hK dd_X12_moveAll_110 rfl rfl ?_
  refine g_aloadn (pc := 111) (i := 0) (x := 200) hK dd_X12_moveAll_111 rfl rfl ?_
  refine g_getv (pc := 112) (f := (1, 16)) (j := 15) (v := gR 216) hK (kdm kd_200) rfl ef_12 (by decide) rfl kk_1116 dd_X12_moveAll_112 rfl ?_
  refine g_iloadn (pc := 115) (i := 2) (x := 202) hK dd_X12_moveAll_115 rfl rfl ?_
  refine g_iloadn (pc := 116) (i := 1) (x := 0) hK dd_X12_moveAll_116 rfl rfl ?_
  refine g_callV (pc := 117) (As := [gR 216, gI 202, gI 0]) hK ws_M_302 md_X12_move ⟨Nat.zero_le _, Nat.zero_le _⟩ ⟨by decide, by decide⟩ (kdm kd_200) rfl rfl dd_X12_moveAll_117 rfl rfl (Nat.le_of_ble_eq_true rfl) (d_mvb_216  (g_r1 ?_))
  refine g_mem (M2 := cp (cp (cp (cp (cp (cp (cp (cp (cp (cp (cp M 240 (M 239) 0 0 7) 205 (M 239) 7 0 30) 206 (M 239) 37 0 30) 207 (M 239) 67 0 30) 208 (M 239) 97 0 30) 209 (M 239) 127 0 30) 210 (M 239) 157 0 30) 212 (M 239) 187 0 5) 213 (M 239) 192 0 5) 214 (M 239) 197 0 5) 216 (M 239) 202 0 30) (by rfl) ?_
  refine g_istoren (pc := 120) (i := 2) (L' := [(0, gR 200), (1, gI 0), (2, gI 232)]) hK dd_X12_moveAll_120 rfl (by decide) rfl ?_
  refine g_aloadn (pc := 121) (i := 0) (x := 200) hK dd_X12_moveAll_121 rfl rfl ?_
  refine g_aloadn (pc := 122) (i := 0) (x := 200) hK dd_X12_moveAll_122 rfl rfl ?_
  refine g_getv (pc := 123) (f := (1, 20)) (j := 19) (v := gR 220) hK (kdm kd_200) rfl ef_12 (by decide) rfl kk_1120 dd_X12_moveAll_123 rfl ?_
  refine g_iloadn (pc := 126) (i := 2) (x := 232) hK dd_X12_moveAll_126 rfl rfl ?_
  refine g_iloadn (pc := 127) (i := 1) (x := 0) hK dd_X12_moveAll_127 rfl rfl ?_
  refine g_callV (pc := 128) (As := [gR 220, gI 232, gI 0]) hK ws_M_302 md_X12_move ⟨Nat.zero_le _, Nat.zero_le _⟩ ⟨by decide, by decide⟩ (kdm kd_200) rfl rfl dd_X12_moveAll_128 rfl rfl (Nat.le_of_ble_eq_true rfl) (d_mvb_220  (g_r1 ?_))
  refine g_mem (M2 := cp (cp (cp (cp (cp (cp (cp (cp (cp (cp (cp (cp M 240 (M 239) 0 0 7) 205 (M 239) 7 0 30) 206 (M 239) 37 0 30) 207 (M 239) 67 0 30) 208 (M 239) 97 0 30) 209 (M 239) 127 0 30) 210 (M 239) 157 0 30) 212 (M 239) 187 0 5) 213 (M 239) 192 0 5) 214 (M 239) 197 0 5) 216 (M 239) 202 0 30) 220 (M 239) 232 0 12) (by rfl) ?_
  refine g_istoren (pc := 131) (i := 2) (L' := [(0, gR 200), (1, gI 0), (2, gI 244)]) hK dd_X12_moveAll_131 rfl (by decide) rfl ?_
  refine g_aloadn (pc := 132) (i := 0) (x := 200) hK dd_X12_moveAll_132 rfl rfl ?_
  refine g_aloadn (pc := 133) (i := 0) (x := 200) hK dd_X12_moveAll_133 rfl rfl ?_
  refine g_getv (pc := 134) (f := (1, 21)) (j := 20) (v := gR 221) hK (kdm kd_200) rfl ef_12 (by decide) rfl kk_1121 dd_X12_moveAll_134 rfl ?_
  refine g_iloadn (pc := 137) (i := 2) (x := 244) hK dd_X12_moveAll_137 rfl rfl ?_
  refine g_iloadn (pc := 138) (i := 1) (x := 0) hK dd_X12_moveAll_138 rfl rfl ?_
  refine g_callV (pc := 139) (As := [gR 221, gI 244, gI 0]) hK ws_M_302 md_X12_move ⟨Nat.zero_le _, Nat.zero_le _⟩ ⟨by decide, by decide⟩ (kdm kd_200) rfl rfl dd_X12_moveAll_139 rfl rfl (Nat.le_of_ble_eq_true rfl) (d_mvb_221  (g_r1 ?_))
  refine g_mem (M2 := cp (cp (cp (cp (cp (cp (cp (cp (cp (cp (cp (cp (cp M 240 (M 239) 0 0 7) 205 (M 239) 7 0 30) 206 (M 239) 37 0 30) 207 (M 239) 67 0 30) 208 (M 239) 97 0 30) 209 (M 239) 127 0 30) 210 (M 239) 157 0 30) 212 (M 239) 187 0 5) 213 (M 239) 192 0 5) 214 (M 239) 197 0 5) 216 (M 239) 202 0 30) 220 (M 239) 232 0 12) 221 (M 239) 244 0 12) (by rfl) ?_
  refine g_istoren (pc := 142) (i := 2) (L' := [(0, gR 200), (1, gI 0), (2, gI 256)]) hK dd_X12_moveAll_142 rfl (by decide) rfl ?_
  refine g_aloadn (pc := 143) (i := 0) (x := 200) hK dd_X12_moveAll_143 rfl rfl ?_
  refine g_aloadn (pc := 144) (i := 0) (x := 200) hK dd_X12_moveAll_144 rfl rfl ?_
  refine g_getv (pc := 145) (f := (1, 22)) (j := 21) (v := gR 222) hK (kdm kd_200) rfl ef_12 (by decide) rfl kk_1122 dd_X12_moveAll_145 rfl ?_
  refine g_iloadn (pc := 148) (i := 2) (x := 256) hK dd_X12_moveAll_148 rfl rfl ?_
  refine g_iloadn (pc := 149) (i := 1) (x := 0) hK dd_X12_moveAll_149 rfl rfl ?_
  refine g_callV (pc := 150) (As := [gR 222, gI 256, gI 0]) hK ws_M_302 md_X12_move ⟨Nat.zero_le _, Nat.zero_le _⟩ ⟨by decide, by decide⟩ (kdm kd_200) rfl rfl dd_X12_moveAll_150 rfl rfl (Nat.le_of_ble_eq_true rfl) (d_mvb_222  (g_r1 ?_))
  refine g_mem (M2 := cp (cp (cp (cp (cp (cp (cp (cp (cp (cp (cp (cp (cp (cp M 240 (M 239) 0 0 7) 205 (M 239) 7 0 30) 206 (M 239) 37 0 30) 207 (M 239) 67 0 30) 208 (M 239) 97 0 30) 209 (M 239) 127 0 30) 210 (M 239) 157 0 30) 212 (M 239) 187 0 5) 213 (M 239) 192 0 5) 214 (M 239) 197 0 5) 216 (M 239) 202 0 30) 220 (M 239) 232 0 12) 221 (M 239) 244 0 12) 222 (M 239) 256 0 12) (by rfl) ?_
  refine g_istoren (pc := 153) (i := 2) (L' := [(0, gR 200), (1, gI 0), (2, gI 268)]) hK dd_X12_moveAll_153 rfl (by decide) rfl ?_
  refine g_aloadn (pc := 154) (i := 0) (x := 200) hK dd_X12_moveAll_154 rfl rfl ?_
  refine g_aloadn (pc := 155) (i := 0) (x := 200) hK dd_X12_moveAll_155 rfl rfl ?_
  refine g_getv (pc := 156) (f := (1, 23)) (j := 22) (v := gR 223) hK (kdm kd_200) rfl ef_12 (by decide) rfl kk_1123 dd_X12_moveAll_156 rfl ?_
  refine g_iloadn (pc := 159) (i := 2) (x := 268) hK dd_X12_moveAll_159 rfl rfl ?_
  refine g_iloadn (pc := 160) (i := 1) (x := 0) hK dd_X12_moveAll_160 rfl rfl ?_
  refine g_callV (pc := 161) (As := [gR 223, gI 268, gI 0]) hK ws_M_302 md_X12_move ⟨Nat.zero_le _, Nat.zero_le _⟩ ⟨by decide, by decide⟩ (kdm kd_200) rfl rfl dd_X12_moveAll_161 rfl rfl (Nat.le_of_ble_eq_true rfl) (d_mvb_223  (g_r1 ?_))
  refine g_mem (M2 := cp (cp (cp (cp (cp (cp (cp (cp (cp (cp (cp (cp (cp (cp (cp M 240 (M 239) 0 0 7) 205 (M 239) 7 0 30) 206 (M 239) 37 0 30) 207 (M 239) 67 0 30) 208 (M 239) 97 0 30) 209 (M 239) 127 0 30) 210 (M 239) 157 0 30) 212 (M 239) 187 0 5) 213 (M 239) 192 0 5) 214 (M 239) 197 0 5) 216 (M 239) 202 0 30) 220 (M 239) 232 0 12) 221 (M 239) 244 0 12) 222 (M 239) 256 0 12) 223 (M 239) 268 0 12) (by rfl) ?_
  refine g_istoren (pc := 164) (i := 2) (L' := [(0, gR 200), (1, gI 0), (2, gI 280)]) hK dd_X12_moveAll_164 rfl (by decide) rfl ?_
  refine g_aloadn (pc := 165) (i := 0) (x := 200) hK dd_X12_moveAll_165 rfl rfl ?_
  refine g_aloadn (pc := 166) (i := 0) (x := 200) hK dd_X12_moveAll_166 rfl rfl ?_
  refine g_getv (pc := 167) (f := (1, 24)) (j := 23) (v := gR 224) hK (kdm kd_200) rfl ef_12 (by decide) rfl kk_1124 dd_X12_moveAll_167 rfl ?_
  refine g_iloadn (pc := 170) (i := 2) (x := 280) hK dd_X12_moveAll_170 rfl rfl ?_
  refine g_iloadn (pc := 171) (i := 1) (x := 0) hK dd_X12_moveAll_171 rfl rfl ?_
  refine g_callV (pc := 172) (As := [gR 224, gI 280, gI 0]) hK ws_M_302 md_X12_move ⟨Nat.zero_le _, Nat.zero_le _⟩ ⟨by decide, by decide⟩ (kdm kd_200) rfl rfl dd_X12_moveAll_172 rfl rfl (Nat.le_of_ble_eq_true rfl) (d_mvb_224  (g_r1 ?_))
  refine g_mem (M2 := cp (cp (cp (cp (cp (cp (cp (cp (cp (cp (cp (cp (cp (cp (cp (cp M 240 (M 239) 0 0 7) 205 (M 239) 7 0 30) 206 (M 239) 37 0 30) 207 (M 239) 67 0 30) 208 (M 239) 97 0 30) 209 (M 239) 127 0 30) 210 (M 239) 157 0 30) 212 (M 239) 187 0 5) 213 (M 239) 192 0 5) 214 (M 239) 197 0 5) 216 (M 239) 202 0 30) 220 (M 239) 232 0 12) 221 (M 239) 244 0 12) 222 (M 239) 256 0 12) 223 (M 239) 268 0 12) 224 (M 239) 280 0 12) (by rfl) ?_
  refine g_istoren (pc := 175) (i := 2) (L' := [(0, gR 200), (1, gI 0), (2, gI 292)]) hK dd_X12_moveAll_175 rfl (by decide) rfl ?_
  refine g_aloadn (pc := 176) (i := 0) (x := 200) hK dd_X12_moveAll_176 rfl rfl ?_
  refine g_aloadn (pc := 177) (i := 0) (x := 200) hK dd_X12_moveAll_177 rfl rfl ?_
  refine g_getv (pc := 178) (f := (1, 26)) (j := 25) (v := gR 226) hK (kdm kd_200) rfl ef_12 (by decide) rfl kk_1126 dd_X12_moveAll_178 rfl ?_
  refine g_iloadn (pc := 181) (i := 2) (x := 292) hK dd_X12_moveAll_181 rfl rfl ?_
  refine g_iloadn (pc := 182) (i := 1) (x := 0) hK dd_X12_moveAll_182 rfl rfl ?_
  refine g_callV (pc := 183) (As := [gR 226, gI 292, gI 0]) hK ws_M_302 md_X12_move ⟨Nat.zero_le _, Nat.zero_le _⟩ ⟨by decide, by decide⟩ (kdm kd_200) rfl rfl dd_X12_moveAll_183 rfl rfl (Nat.le_of_ble_eq_true rfl) (d_mvb_226  (g_r1 ?_))
  refine g_mem (M2 := cp (cp (cp (cp (cp (cp (cp (cp (cp (cp (cp (cp (cp (cp (cp (cp (cp M 240 (M 239) 0 0 7) 205 (M 239) 7 0 30) 206 (M 239) 37 0 30) 207 (M 239) 67 0 30) 208 (M 239) 97 0 30) 209 (M 239) 127 0 30) 210 (M 239) 157 0 30) 212 (M 239) 187 0 5) 213 (M 239) 192 0 5) 214 (M 239) 197 0 5) 216 (M 239) 202 0 30) 220 (M 239) 232 0 12) 221 (M 239) 244 0 12) 222 (M 239) 256 0 12) 223 (M 239) 268 0 12) 224 (M 239) 280 0 12) 226 (M 239) 292 0 5) (by rfl) ?_
  refine g_istoren (pc := 186) (i := 2) (L' := [(0, gR 200), (1, gI 0), (2, gI 297)]) hK dd_X12_moveAll_186 rfl (by decide) rfl ?_
  refine g_aloadn (pc := 187) (i := 0) (x := 200) hK dd_X12_moveAll_187 rfl rfl ?_
  refine g_aloadn (pc := 188) (i := 0) (x := 200) hK dd_X12_moveAll_188 rfl rfl ?_
  refine g_getv (pc := 189) (f := (1, 28)) (j := 27) (v := gR 228) hK (kdm kd_200) rfl ef_12 (by decide) rfl kk_1128 dd_X12_moveAll_189 rfl ?_
  refine g_iloadn (pc := 192) (i := 2) (x := 297) hK dd_X12_moveAll_192 rfl rfl ?_
  refine g_iloadn (pc := 193) (i := 1) (x := 0) hK dd_X12_moveAll_193 rfl rfl ?_
  refine g_callV (pc := 194) (As := [gR 228, gI 297, gI 0]) hK ws_M_302 md_X12_move ⟨Nat.zero_le _, Nat.zero_le _⟩ ⟨by decide, by decide⟩ (kdm kd_200) rfl rfl dd_X12_moveAll_194 rfl rfl (Nat.le_of_ble_eq_true rfl) (d_mvb_228  (g_r1 ?_))
  refine g_mem (M2 := cp (cp (cp (cp (cp (cp (cp (cp (cp (cp (cp (cp (cp (cp (cp (cp (cp (cp M 240 (M 239) 0 0 7) 205 (M 239) 7 0 30) 206 (M 239) 37 0 30) 207 (M 239) 67 0 30) 208 (M 239) 97 0 30) 209 (M 239) 127 0 30) 210 (M 239) 157 0 30) 212 (M 239) 187 0 5) 213 (M 239) 192 0 5) 214 (M 239) 197 0 5) 216 (M 239) 202 0 30) 220 (M 239) 232 0 12) 221 (M 239) 244 0 12) 222 (M 239) 256 0 12) 223 (M 239) 268 0 12) 224 (M 239) 280 0 12) 226 (M 239) 292 0 5) 228 (M 239) 297 0 20) (by rfl) ?_
  refine g_istoren (pc := 197) (i := 2) (L' := [(0, gR 200), (1, gI 0), (2, gI 317)]) hK dd_X12_moveAll_197 rfl (by decide) rfl ?_
  refine g_aloadn (pc := 198) (i := 0) (x := 200) hK dd_X12_moveAll_198 rfl rfl ?_
  refine g_aloadn (pc := 199) (i := 0) (x := 200) hK dd_X12_moveAll_199 rfl rfl ?_
  refine g_getv (pc := 200) (f := (1, 29)) (j := 28) (v := gR 229) hK (kdm kd_200) rfl ef_12 (by decide) rfl kk_1129 dd_X12_moveAll_200 rfl ?_
  refine g_iloadn (pc := 203) (i := 2) (x := 317) hK dd_X12_moveAll_203 rfl rfl ?_
  refine g_iloadn (pc := 204) (i := 1) (x := 0) hK dd_X12_moveAll_204 rfl rfl ?_
  refine g_callV (pc := 205) (As := [gR 229, gI 317, gI 0]) hK ws_M_302 md_X12_move ⟨Nat.zero_le _, Nat.zero_le _⟩ ⟨by decide, by decide⟩ (kdm kd_200) rfl rfl dd_X12_moveAll_205 rfl rfl (Nat.le_of_ble_eq_true rfl) (d_mvb_229  (g_r1 ?_))
  refine g_mem (M2 := cp (cp (cp (cp (cp (cp (cp (cp (cp (cp (cp (cp (cp (cp (cp (cp (cp (cp (cp M 240 (M 239) 0 0 7) 205 (M 239) 7 0 30) 206 (M 239) 37 0 30) 207 (M 239) 67 0 30) 208 (M 239) 97 0 30) 209 (M 239) 127 0 30) 210 (M 239) 157 0 30) 212 (M 239) 187 0 5) 213 (M 239) 192 0 5) 214 (M 239) 197 0 5) 216 (M 239) 202 0 30) 220 (M 239) 232 0 12) 221 (M 239) 244 0 12) 222 (M 239) 256 0 12) 223 (M 239) 268 0 12) 224 (M 239) 280 0 12) 226 (M 239) 292 0 5) 228 (M 239) 297 0 20) 229 (M 239) 317 0 20) (by rfl) ?_
  refine g_istoren (pc := 208) (i := 2) (L' := [(0, gR 200), (1, gI 0), (2, gI 337)]) hK dd_X12_moveAll_208 rfl (by decide) rfl ?_
  refine g_aloadn (pc := 209) (i := 0) (x := 200) hK dd_X12_moveAll_209 rfl rfl ?_
  refine g_aloadn (pc := 210) (i := 0) (x := 200) hK dd_X12_moveAll_210 rfl rfl ?_
  refine g_getv (pc := 211) (f := (1, 30)) (j := 29) (v := gR 230) hK (kdm kd_200) rfl ef_12 (by decide) rfl kk_1130 dd_X12_moveAll_211 rfl ?_
  refine g_iloadn (pc := 214) (i := 2) (x := 337) hK dd_X12_moveAll_214 rfl rfl ?_
  refine g_iloadn (pc := 215) (i := 1) (x := 0) hK dd_X12_moveAll_215 rfl rfl ?_
  refine g_callV (pc := 216) (As := [gR 230, gI 337, gI 0]) hK ws_M_302 md_X12_move ⟨Nat.zero_le _, Nat.zero_le _⟩ ⟨by decide, by decide⟩ (kdm kd_200) rfl rfl dd_X12_moveAll_216 rfl rfl (Nat.le_of_ble_eq_true rfl) (d_mvb_230  (g_r1 ?_))
  refine g_mem (M2 := cp (cp (cp (cp (cp (cp (cp (cp (cp (cp (cp (cp (cp (cp (cp (cp (cp (cp (cp (cp M 240 (M 239) 0 0 7) 205 (M 239) 7 0 30) 206 (M 239) 37 0 30) 207 (M 239) 67 0 30) 208 (M 239) 97 0 30) 209 (M 239) 127 0 30) 210 (M 239) 157 0 30) 212 (M 239) 187 0 5) 213 (M 239) 192 0 5) 214 (M 239) 197 0 5) 216 (M 239) 202 0 30) 220 (M 239) 232 0 12) 221 (M 239) 244 0 12) 222 (M 239) 256 0 12) 223 (M 239) 268 0 12) 224 (M 239) 280 0 12) 226 (M 239) 292 0 5) 228 (M 239) 297 0 20) 229 (M 239) 317 0 20) 230 (M 239) 337 0 20) (by rfl) ?_
  refine g_istoren (pc := 219) (i := 2) (L' := [(0, gR 200), (1, gI 0), (2, gI 357)]) hK dd_X12_moveAll_219 rfl (by decide) rfl ?_
  refine g_aloadn (pc := 220) (i := 0) (x := 200) hK dd_X12_moveAll_220 rfl rfl ?_
  refine g_aloadn (pc := 221) (i := 0) (x := 200) hK dd_X12_moveAll_221 rfl rfl ?_
  refine g_getv (pc := 222) (f := (1, 31)) (j := 30) (v := gR 231) hK (kdm kd_200) rfl ef_12 (by decide) rfl kk_1131 dd_X12_moveAll_222 rfl ?_
  refine g_iloadn (pc := 225) (i := 2) (x := 357) hK dd_X12_moveAll_225 rfl rfl ?_
  refine g_iloadn (pc := 226) (i := 1) (x := 0) hK dd_X12_moveAll_226 rfl rfl ?_
  refine g_callV (pc := 227) (As := [gR 231, gI 357, gI 0]) hK ws_M_302 md_X12_move ⟨Nat.zero_le _, Nat.zero_le _⟩ ⟨by decide, by decide⟩ (kdm kd_200) rfl rfl dd_X12_moveAll_227 rfl rfl (Nat.le_of_ble_eq_true rfl) (d_mvb_231  (g_r1 ?_))
  refine g_mem (M2 := cp (cp (cp (cp (cp (cp (cp (cp (cp (cp (cp (cp (cp (cp (cp (cp (cp (cp (cp (cp (cp M 240 (M 239) 0 0 7) 205 (M 239) 7 0 30) 206 (M 239) 37 0 30) 207 (M 239) 67 0 30) 208 (M 239) 97 0 30) 209 (M 239) 127 0 30) 210 (M 239) 157 0 30) 212 (M 239) 187 0 5) 213 (M 239) 192 0 5) 214 (M 239) 197 0 5) 216 (M 239) 202 0 30) 220 (M 239) 232 0 12) 221 (M 239) 244 0 12) 222 (M 239) 256 0 12) 223 (M 239) 268 0 12) 224 (M 239) 280 0 12) 226 (M 239) 292 0 5) 228 (M 239) 297 0 20) 229 (M 239) 317 0 20) 230 (M 239) 337 0 20) 231 (M 239) 357 0 20) (by rfl) ?_
  refine g_istoren (pc := 230) (i := 2) (L' := [(0, gR 200), (1, gI 0), (2, gI 377)]) hK dd_X12_moveAll_230 rfl (by decide) rfl ?_
  refine g_aloadn (pc := 231) (i := 0) (x := 200) hK dd_X12_moveAll_231 rfl rfl ?_
  refine g_aloadn (pc := 232) (i := 0) (x := 200) hK dd_X12_moveAll_232 rfl rfl ?_
  refine g_getv (pc := 233) (f := (1, 33)) (j := 32) (v := gR 233) hK (kdm kd_200) rfl ef_12 (by decide) rfl kk_1133 dd_X12_moveAll_233 rfl ?_
  refine g_iloadn (pc := 236) (i := 2) (x := 377) hK dd_X12_moveAll_236 rfl rfl ?_
  refine g_iloadn (pc := 237) (i := 1) (x := 0) hK dd_X12_moveAll_237 rfl rfl ?_
  refine g_callV (pc := 238) (As := [gR 233, gI 377, gI 0]) hK ws_M_302 md_X12_move ⟨Nat.zero_le _, Nat.zero_le _⟩ ⟨by decide, by decide⟩ (kdm kd_200) rfl rfl dd_X12_moveAll_238 rfl rfl (Nat.le_of_ble_eq_true rfl) (d_mvb_233  (g_r1 ?_))
  refine g_mem (M2 := cp (cp (cp (cp (cp (cp (cp (cp (cp (cp (cp (cp (cp (cp (cp (cp (cp (cp (cp (cp (cp (cp M 240 (M 239) 0 0 7) 205 (M 239) 7 0 30) 206 (M 239) 37 0 30) 207 (M 239) 67 0 30) 208 (M 239) 97 0 30) 209 (M 239) 127 0 30) 210 (M 239) 157 0 30) 212 (M 239) 187 0 5) 213 (M 239) 192 0 5) 214 (M 239) 197 0 5) 216 (M 239) 202 0 30) 220 (M 239) 232 0 12) 221 (M 239) 244 0 12) 222 (M 239) 256 0 12) 223 (M 239) 268 0 12) 224 (M 239) 280 0 12) 226 (M 239) 292 0 5) 228 (M 239) 297 0 20) 229 (M 239) 317 0 20) 230 (M 239) 337 0 20) 231 (M 239) 357 0 20) 233 (M 239) 377 0 10) (by rfl) ?_
  refine g_istoren (pc := 241) (i := 2) (L' := [(0, gR 200), (1, gI 0), (2, gI 387)]) hK dd_X12_moveAll_241 rfl (by decide) rfl ?_
  refine g_aloadn (pc := 242) (i := 0) (x := 200) hK dd_X12_moveAll_242 rfl rfl ?_
  refine g_aloadn (pc := 243) (i := 0) (x := 200) hK dd_X12_moveAll_243 rfl rfl ?_
  refine g_getv (pc := 244) (f := (1, 34)) (j := 33) (v := gR 234) hK (kdm kd_200) rfl ef_12 (by decide) rfl kk_1134 dd_X12_moveAll_244 rfl ?_
  refine g_iloadn (pc := 247) (i := 2) (x := 387) hK dd_X12_moveAll_247 rfl rfl ?_
  refine g_iloadn (pc := 248) (i := 1) (x := 0) hK dd_X12_moveAll_248 rfl rfl ?_
  refine g_callV (pc := 249) (As := [gR 234, gI 387, gI 0]) hK ws_M_302 md_X12_move ⟨Nat.zero_le _, Nat.zero_le _⟩ ⟨by decide, by decide⟩ (kdm kd_200) rfl rfl dd_X12_moveAll_249 rfl rfl (Nat.le_of_ble_eq_true rfl) (d_mvb_234  (g_r1 ?_))
  refine g_mem (M2 := cp (cp (cp (cp (cp (cp (cp (cp (cp (cp (cp (cp (cp (cp (cp (cp (cp (cp (cp (cp (cp (cp (cp M 240 (M 239) 0 0 7) 205 (M 239) 7 0 30) 206 (M 239) 37 0 30) 207 (M 239) 67 0 30) 208 (M 239) 97 0 30) 209 (M 239) 127 0 30) 210 (M 239) 157 0 30) 212 (M 239) 187 0 5) 213 (M 239) 192 0 5) 214 (M 239) 197 0 5) 216 (M 239) 202 0 30) 220 (M 239) 232 0 12) 221 (M 239) 244 0 12) 222 (M 239) 256 0 12) 223 (M 239) 268 0 12) 224 (M 239) 280 0 12) 226 (M 239) 292 0 5) 228 (M 239) 297 0 20) 229 (M 239) 317 0 20) 230 (M 239) 337 0 20) 231 (M 239) 357 0 20) 233 (M 239) 377 0 10) 234 (M 239) 387 0 10) (by rfl) ?_
  refine g_istoren (pc := 252) (i := 2) (L' := [(0, gR 200), (1, gI 0), (2, gI 397)]) hK dd_X12_moveAll_252 rfl (by decide) rfl ?_
  refine g_aloadn (pc := 253) (i := 0) (x := 200) hK dd_X12_moveAll_253 rfl rfl ?_
  refine g_aloadn (pc := 254) (i := 0) (x := 200) hK dd_X12_moveAll_254 rfl rfl ?_
  refine g_getv (pc := 255) (f := (1, 35)) (j := 34) (v := gR 235) hK (kdm kd_200) rfl ef_12 (by decide) rfl kk_1135 dd_X12_moveAll_255 rfl ?_
  refine g_iloadn (pc := 258) (i := 2) (x := 397) hK dd_X12_moveAll_258 rfl rfl ?_
  refine g_iloadn (pc := 259) (i := 1) (x := 0) hK dd_X12_moveAll_259 rfl rfl ?_
  refine g_callV (pc := 260) (As := [gR 235, gI 397, gI 0]) hK ws_M_302 md_X12_move ⟨Nat.zero_le _, Nat.zero_le _⟩ ⟨by decide, by decide⟩ (kdm kd_200) rfl rfl dd_X12_moveAll_260 rfl rfl (Nat.le_of_ble_eq_true rfl) (d_mvb_235  (g_r1 ?_))
  refine g_mem (M2 := cp (cp (cp (cp (cp (cp (cp (cp (cp (cp (cp (cp (cp (cp (cp (cp (cp (cp (cp (cp (cp (cp (cp (cp M 240 (M 239) 0 0 7) 205 (M 239) 7 0 30) 206 (M 239) 37 0 30) 207 (M 239) 67 0 30) 208 (M 239) 97 0 30) 209 (M 239) 127 0 30) 210 (M 239) 157 0 30) 212 (M 239) 187 0 5) 213 (M 239) 192 0 5) 214 (M 239) 197 0 5) 216 (M 239) 202 0 30) 220 (M 239) 232 0 12) 221 (M 239) 244 0 12) 222 (M 239) 256 0 12) 223 (M 239) 268 0 12) 224 (M 239) 280 0 12) 226 (M 239) 292 0 5) 228 (M 239) 297 0 20) 229 (M 239) 317 0 20) 230 (M 239) 337 0 20) 231 (M 239) 357 0 20) 233 (M 239) 377 0 10) 234 (M 239) 387 0 10) 235 (M 239) 397 0 16) (by rfl) ?_
  refine g_istoren (pc := 263) (i := 2) (L' := [(0, gR 200), (1, gI 0), (2, gI 413)]) hK dd_X12_moveAll_263 rfl (by decide) rfl ?_
  refine g_aloadn (pc := 264) (i := 0) (x := 200) hK dd_X12_moveAll_264 rfl rfl ?_
  refine g_aloadn (pc := 265) (i := 0) (x := 200) hK dd_X12_moveAll_265 rfl rfl ?_
  refine g_getv (pc := 266) (f := (1, 36)) (j := 35) (v := gR 236) hK (kdm kd_200) rfl ef_12 (by decide) rfl kk_1136 dd_X12_moveAll_266 rfl ?_
  refine g_iloadn (pc := 269) (i := 2) (x := 413) hK dd_X12_moveAll_269 rfl rfl ?_
  refine g_iloadn (pc := 270) (i := 1) (x := 0) hK dd_X12_moveAll_270 rfl rfl ?_
  refine g_callV (pc := 271) (As := [gR 236, gI 413, gI 0]) hK ws_M_302 md_X12_move ⟨Nat.zero_le _, Nat.zero_le _⟩ ⟨by decide, by decide⟩ (kdm kd_200) rfl rfl dd_X12_moveAll_271 rfl rfl (Nat.le_of_ble_eq_true rfl) (d_mvb_236  (g_r1 ?_))
  refine g_mem (M2 := cp (cp (cp (cp (cp (cp (cp (cp (cp (cp (cp (cp (cp (cp (cp (cp (cp (cp (cp (cp (cp (cp (cp (cp (cp M 240 (M 239) 0 0 7) 205 (M 239) 7 0 30) 206 (M 239) 37 0 30) 207 (M 239) 67 0 30) 208 (M 239) 97 0 30) 209 (M 239) 127 0 30) 210 (M 239) 157 0 30) 212 (M 239) 187 0 5) 213 (M 239) 192 0 5) 214 (M 239) 197 0 5) 216 (M 239) 202 0 30) 220 (M 239) 232 0 12) 221 (M 239) 244 0 12) 222 (M 239) 256 0 12) 223 (M 239) 268 0 12) 224 (M 239) 280 0 12) 226 (M 239) 292 0 5) 228 (M 239) 297 0 20) 229 (M 239) 317 0 20) 230 (M 239) 337 0 20) 231 (M 239) 357 0 20) 233 (M 239) 377 0 10) 234 (M 239) 387 0 10) 235 (M 239) 397 0 16) 236 (M 239) 413 0 4) (by rfl) ?_
  refine g_pop (pc := 274) hK dd_X12_moveAll_274 rfl ?_
  refine g_vret (pc := 275) hK hr hlocks dd_X12_moveAll_275 ?_
  exact g_finM hQ (by rfl)
set_option maxHeartbeats 4000000 in
set_option maxRecDepth 100000 in
theorem y_image {l : Launch} {M : Mem} {Pq : Option gV → Mem → Prop}  (hY : Pq (some (gI 1)) (up (mvK (up (up (up (up (up (up (up M 240 0 (M 200 3)) 240 1 (M 200 10)) 240 2 (M 200 14)) 240 3 (M 200 18)) 240 4 (M 200 24)) 240 5 (M 200 26)) 240 6 (M 200 31))) 200 37 1)) : gCtr l my_X12_image mb_X12_image 1 ((some .int)) 3 [gR 200] M Pq := by
  refine g_intro (by decide) (Nat.le_of_ble_eq_true rfl) ?_
  intro p e s m args below meth c D cy q A hK hr hlocks hw
  refine g_sub (L' := [(0, gR 200)]) [0] rfl ?_
  refine g_aloadn (pc := 0) (i := 0) (x := 200) hK dd_X12_image_0 rfl rfl ?_
  refine g_getv (pc := 1) (f := (1, 40)) (j := 39) (v := gR 240) hK (kdm kd_200) rfl ef_12 (by decide) rfl kk_1140 dd_X12_image_1 rfl ?_
  refine g_iconst (pc := 4) (x := 0) hK dd_X12_image_4 (by decide) ?_
  refine g_aloadn (pc := 5) (i := 0) (x := 200) hK dd_X12_image_5 rfl rfl ?_
  refine g_geti (pc := 6) (f := (0, 0)) (j := 3) hK (kdm kd_200) rfl ef_12 (by decide) rfl kk_1104 nl_200 dd_X12_image_6 rfl (fun x1 ex1 rx1 => ?_)
  refine g_iast (pc := 9) hK (kdm kd_240) nl_240 (by decide) (by decide) dd_X12_image_9 (by omega) (by omega) rx1 ?_
  refine g_aloadn (pc := 10) (i := 0) (x := 200) hK dd_X12_image_10 rfl rfl ?_
  refine g_getv (pc := 11) (f := (1, 40)) (j := 39) (v := gR 240) hK (kdm kd_200) rfl ef_12 (by decide) rfl kk_1140 dd_X12_image_11 rfl ?_
  refine g_iconst (pc := 14) (x := 1) hK dd_X12_image_14 (by decide) ?_
  refine g_aloadn (pc := 15) (i := 0) (x := 200) hK dd_X12_image_15 rfl rfl ?_
  refine g_geti (pc := 16) (f := (0, 0)) (j := 10) hK (kdm kd_200) rfl ef_12 (by decide) rfl kk_1111 nl_200 dd_X12_image_16 rfl (fun x2 ex2 rx2 => ?_)
  replace ex2 : x2 = M 200 10 := ex2
  refine g_iast (pc := 19) hK (kdm kd_240) nl_240 (by decide) (by decide) dd_X12_image_19 (by omega) (by omega) rx2 ?_
  refine g_aloadn (pc := 20) (i := 0) (x := 200) hK dd_X12_image_20 rfl rfl ?_
  refine g_getv (pc := 21) (f := (1, 40)) (j := 39) (v := gR 240) hK (kdm kd_200) rfl ef_12 (by decide) rfl kk_1140 dd_X12_image_21 rfl ?_
  refine g_iconst (pc := 24) (x := 2) hK dd_X12_image_24 (by decide) ?_
  refine g_aloadn (pc := 25) (i := 0) (x := 200) hK dd_X12_image_25 rfl rfl ?_
  refine g_geti (pc := 26) (f := (0, 0)) (j := 14) hK (kdm kd_200) rfl ef_12 (by decide) rfl kk_1115 nl_200 dd_X12_image_26 rfl (fun x3 ex3 rx3 => ?_)
  replace ex3 : x3 = M 200 14 := ex3
  refine g_iast (pc := 29) hK (kdm kd_240) nl_240 (by decide) (by decide) dd_X12_image_29 (by omega) (by omega) rx3 ?_
  refine g_aloadn (pc := 30) (i := 0) (x := 200) hK dd_X12_image_30 rfl rfl ?_
  refine g_getv (pc := 31) (f := (1, 40)) (j := 39) (v := gR 240) hK (kdm kd_200) rfl ef_12 (by decide) rfl kk_1140 dd_X12_image_31 rfl ?_
  refine g_iconst (pc := 34) (x := 3) hK dd_X12_image_34 (by decide) ?_
  refine g_aloadn (pc := 35) (i := 0) (x := 200) hK dd_X12_image_35 rfl rfl ?_
  refine g_geti (pc := 36) (f := (0, 0)) (j := 18) hK (kdm kd_200) rfl ef_12 (by decide) rfl kk_1119 nl_200 dd_X12_image_36 rfl (fun x4 ex4 rx4 => ?_)
  replace ex4 : x4 = M 200 18 := ex4
  refine g_iast (pc := 39) hK (kdm kd_240) nl_240 (by decide) (by decide) dd_X12_image_39 (by omega) (by omega) rx4 ?_
  refine g_aloadn (pc := 40) (i := 0) (x := 200) hK dd_X12_image_40 rfl rfl ?_
  refine g_getv (pc := 41) (f := (1, 40)) (j := 39) (v := gR 240) hK (kdm kd_200) rfl ef_12 (by decide) rfl kk_1140 dd_X12_image_41 rfl ?_
  refine g_iconst (pc := 44) (x := 4) hK dd_X12_image_44 (by decide) ?_
  refine g_aloadn (pc := 45) (i := 0) (x := 200) hK dd_X12_image_45 rfl rfl ?_
  refine g_geti (pc := 46) (f := (0, 0)) (j := 24) hK (kdm kd_200) rfl ef_12 (by decide) rfl kk_1125 nl_200 dd_X12_image_46 rfl (fun x5 ex5 rx5 => ?_)
  replace ex5 : x5 = M 200 24 := ex5
  refine g_iast (pc := 49) hK (kdm kd_240) nl_240 (by decide) (by decide) dd_X12_image_49 (by omega) (by omega) rx5 ?_
  refine g_aloadn (pc := 50) (i := 0) (x := 200) hK dd_X12_image_50 rfl rfl ?_
  refine g_getv (pc := 51) (f := (1, 40)) (j := 39) (v := gR 240) hK (kdm kd_200) rfl ef_12 (by decide) rfl kk_1140 dd_X12_image_51 rfl ?_
  refine g_iconst (pc := 54) (x := 5) hK dd_X12_image_54 (by decide) ?_
  refine g_aloadn (pc := 55) (i := 0) (x := 200) hK dd_X12_image_55 rfl rfl ?_
  refine g_geti (pc := 56) (f := (0, 0)) (j := 26) hK (kdm kd_200) rfl ef_12 (by decide) rfl kk_1127 nl_200 dd_X12_image_56 rfl (fun x6 ex6 rx6 => ?_)
  replace ex6 : x6 = M 200 26 := ex6
  refine g_iast (pc := 59) hK (kdm kd_240) nl_240 (by decide) (by decide) dd_X12_image_59 (by omega) (by omega) rx6 ?_
  refine g_aloadn (pc := 60) (i := 0) (x := 200) hK dd_X12_image_60 rfl rfl ?_
  refine g_getv (pc := 61) (f := (1, 40)) (j := 39) (v := gR 240) hK (kdm kd_200) rfl ef_12 (by decide) rfl kk_1140 dd_X12_image_61 rfl ?_
  refine g_bipush (pc := 64) (x := 6) hK dd_X12_image_64 (by decide) ?_
  refine g_aloadn (pc := 66) (i := 0) (x := 200) hK dd_X12_image_66 rfl rfl ?_
  refine g_geti (pc := 67) (f := (0, 0)) (j := 31) hK (kdm kd_200) rfl ef_12 (by decide) rfl kk_1132 nl_200 dd_X12_image_67 rfl (fun x7 ex7 rx7 => ?_)
  replace ex7 : x7 = M 200 31 := ex7
  refine g_iast (pc := 70) hK (kdm kd_240) nl_240 (by decide) (by decide) dd_X12_image_70 (by omega) (by omega) rx7 ?_
  refine g_aloadn (pc := 71) (i := 0) (x := 200) hK dd_X12_image_71 rfl rfl ?_
  refine g_iconst (pc := 72) (x := 1) hK dd_X12_image_72 (by decide) ?_
  refine g_callV (pc := 73) (As := [gI 1]) hK ws_M_306 md_X12_moveAll ⟨Nat.zero_le _, Nat.zero_le _⟩ ⟨by decide, by decide⟩ (kdm kd_200) rfl rfl dd_X12_image_73 rfl rfl (Nat.le_of_ble_eq_true rfl) (d_mvAk  (g_r0 ?_))
  refine g_aloadn (pc := 76) (i := 0) (x := 200) hK dd_X12_image_76 rfl rfl ?_
  refine g_iconst (pc := 77) (x := 1) hK dd_X12_image_77 (by decide) ?_
  refine g_puti (pc := 78) (f := (0, 0)) (j := 37) (ty := .boolean) hK (kdm kd_200) rfl ef_12 (by decide) rfl kk_1138 nl_200 (by decide) dd_X12_image_78 rfl rfl rfl rfl rfl (by decide) ?_
  refine g_iconst (pc := 81) (x := 1) hK dd_X12_image_81 (by decide) ?_
  refine g_iret (pc := 82) hK hr hlocks dd_X12_image_82 rfl ?_
  first | exact g_fin (hY) (by first | rfl | omega | (subst_vars; first | rfl | omega)) (by first | rfl | (subst_vars; rfl)) | (exfalso; omega)
set_option maxHeartbeats 4000000 in
set_option maxRecDepth 100000 in
theorem y_back {l : Launch} {M : Mem} {Pq : Option gV → Mem → Prop} (hrg : rgOK M) (hS : (M 200 37 = 0) → Pq (some (gI (-5))) (rg M 5)) (hY : (¬ M 200 37 = 0) → Pq (some (gI 1)) (bkR (cntB M) 8)) : gCtr l my_X12_back mb_X12_back 2 ((some .int)) 3 [gR 200] M Pq := by
  refine g_intro (by decide) (Nat.le_of_ble_eq_true rfl) ?_
  intro p e s m args below meth c D cy q A hK hr hlocks hw
  refine g_sub (L' := [(0, gR 200)]) [0] rfl ?_
  refine g_aloadn (pc := 0) (i := 0) (x := 200) hK dd_X12_back_0 rfl rfl ?_
  refine g_geti (pc := 1) (f := (0, 0)) (j := 37) hK (kdm kd_200) rfl ef_12 (by decide) rfl kk_1138 nl_200 dd_X12_back_1 rfl (fun x1 ex1 rx1 => ?_)
  refine g_if_ne (pc := 4) (tgt := 14) hK dd_X12_back_4 (by decide) rx1 (fun c2 => ?_) (fun c2 => ?_)
  · refine g_aloadn (pc := 14) (i := 0) (x := 200) hK dd_X12_back_14 rfl rfl ?_
    refine g_iconst (pc := 15) (x := 0) hK dd_X12_back_15 (by decide) ?_
    refine g_callV (pc := 16) (As := [gI 0]) hK ws_M_306 md_X12_moveAll ⟨Nat.zero_le _, Nat.zero_le _⟩ ⟨by decide, by decide⟩ (kdm kd_200) rfl rfl dd_X12_back_16 rfl rfl (Nat.le_of_ble_eq_true rfl) (d_mvAb  (g_r0 ?_))
    refine g_aloadn (pc := 19) (i := 0) (x := 200) hK dd_X12_back_19 rfl rfl ?_
    refine g_aloadn (pc := 20) (i := 0) (x := 200) hK dd_X12_back_20 rfl rfl ?_
    refine g_getv (pc := 21) (f := (1, 40)) (j := 39) (v := gR 240) hK (kdm kd_200) rfl ef_12 (by decide) rfl kk_1140 dd_X12_back_21 rfl ?_
    refine g_iconst (pc := 24) (x := 0) hK dd_X12_back_24 (by decide) ?_
    refine g_iald (pc := 25) hK (kdm kd_240) nl_240 (by decide) dd_X12_back_25 (by omega) (by omega) (fun x3 ex3 rx3 => ?_)
    refine g_puti (pc := 26) (f := (0, 0)) (j := 3) (ty := .int) hK (kdm kd_200) rfl ef_12 (by decide) rfl kk_1104 nl_200 (by decide) dd_X12_back_26 rfl rfl rfl rfl rfl rx3 ?_
    refine g_aloadn (pc := 29) (i := 0) (x := 200) hK dd_X12_back_29 rfl rfl ?_
    refine g_aloadn (pc := 30) (i := 0) (x := 200) hK dd_X12_back_30 rfl rfl ?_
    refine g_getv (pc := 31) (f := (1, 40)) (j := 39) (v := gR 240) hK (kdm kd_200) rfl ef_12 (by decide) rfl kk_1140 dd_X12_back_31 rfl ?_
    refine g_iconst (pc := 34) (x := 1) hK dd_X12_back_34 (by decide) ?_
    refine g_iald (pc := 35) hK (kdm kd_240) nl_240 (by decide) dd_X12_back_35 (by omega) (by omega) (fun x4 ex4 rx4 => ?_)
    refine g_puti (pc := 36) (f := (0, 0)) (j := 10) (ty := .int) hK (kdm kd_200) rfl ef_12 (by decide) rfl kk_1111 nl_200 (by decide) dd_X12_back_36 rfl rfl rfl rfl rfl rx4 ?_
    refine g_aloadn (pc := 39) (i := 0) (x := 200) hK dd_X12_back_39 rfl rfl ?_
    refine g_aloadn (pc := 40) (i := 0) (x := 200) hK dd_X12_back_40 rfl rfl ?_
    refine g_getv (pc := 41) (f := (1, 40)) (j := 39) (v := gR 240) hK (kdm kd_200) rfl ef_12 (by decide) rfl kk_1140 dd_X12_back_41 rfl ?_
    refine g_iconst (pc := 44) (x := 2) hK dd_X12_back_44 (by decide) ?_
    refine g_iald (pc := 45) hK (kdm kd_240) nl_240 (by decide) dd_X12_back_45 (by omega) (by omega) (fun x5 ex5 rx5 => ?_)
    refine g_puti (pc := 46) (f := (0, 0)) (j := 14) (ty := .int) hK (kdm kd_200) rfl ef_12 (by decide) rfl kk_1115 nl_200 (by decide) dd_X12_back_46 rfl rfl rfl rfl rfl rx5 ?_
    refine g_aloadn (pc := 49) (i := 0) (x := 200) hK dd_X12_back_49 rfl rfl ?_
    refine g_aloadn (pc := 50) (i := 0) (x := 200) hK dd_X12_back_50 rfl rfl ?_
    refine g_getv (pc := 51) (f := (1, 40)) (j := 39) (v := gR 240) hK (kdm kd_200) rfl ef_12 (by decide) rfl kk_1140 dd_X12_back_51 rfl ?_
    refine g_iconst (pc := 54) (x := 3) hK dd_X12_back_54 (by decide) ?_
    refine g_iald (pc := 55) hK (kdm kd_240) nl_240 (by decide) dd_X12_back_55 (by omega) (by omega) (fun x6 ex6 rx6 => ?_)
    refine g_puti (pc := 56) (f := (0, 0)) (j := 18) (ty := .int) hK (kdm kd_200) rfl ef_12 (by decide) rfl kk_1119 nl_200 (by decide) dd_X12_back_56 rfl rfl rfl rfl rfl rx6 ?_
    refine g_aloadn (pc := 59) (i := 0) (x := 200) hK dd_X12_back_59 rfl rfl ?_
    refine g_aloadn (pc := 60) (i := 0) (x := 200) hK dd_X12_back_60 rfl rfl ?_
    refine g_getv (pc := 61) (f := (1, 40)) (j := 39) (v := gR 240) hK (kdm kd_200) rfl ef_12 (by decide) rfl kk_1140 dd_X12_back_61 rfl ?_
    refine g_iconst (pc := 64) (x := 4) hK dd_X12_back_64 (by decide) ?_
    refine g_iald (pc := 65) hK (kdm kd_240) nl_240 (by decide) dd_X12_back_65 (by omega) (by omega) (fun x7 ex7 rx7 => ?_)
    refine g_puti (pc := 66) (f := (0, 0)) (j := 24) (ty := .int) hK (kdm kd_200) rfl ef_12 (by decide) rfl kk_1125 nl_200 (by decide) dd_X12_back_66 rfl rfl rfl rfl rfl rx7 ?_
    refine g_aloadn (pc := 69) (i := 0) (x := 200) hK dd_X12_back_69 rfl rfl ?_
    refine g_aloadn (pc := 70) (i := 0) (x := 200) hK dd_X12_back_70 rfl rfl ?_
    refine g_getv (pc := 71) (f := (1, 40)) (j := 39) (v := gR 240) hK (kdm kd_200) rfl ef_12 (by decide) rfl kk_1140 dd_X12_back_71 rfl ?_
    refine g_iconst (pc := 74) (x := 5) hK dd_X12_back_74 (by decide) ?_
    refine g_iald (pc := 75) hK (kdm kd_240) nl_240 (by decide) dd_X12_back_75 (by omega) (by omega) (fun x8 ex8 rx8 => ?_)
    refine g_puti (pc := 76) (f := (0, 0)) (j := 26) (ty := .int) hK (kdm kd_200) rfl ef_12 (by decide) rfl kk_1127 nl_200 (by decide) dd_X12_back_76 rfl rfl rfl rfl rfl rx8 ?_
    refine g_aloadn (pc := 79) (i := 0) (x := 200) hK dd_X12_back_79 rfl rfl ?_
    refine g_aloadn (pc := 80) (i := 0) (x := 200) hK dd_X12_back_80 rfl rfl ?_
    refine g_getv (pc := 81) (f := (1, 40)) (j := 39) (v := gR 240) hK (kdm kd_200) rfl ef_12 (by decide) rfl kk_1140 dd_X12_back_81 rfl ?_
    refine g_bipush (pc := 84) (x := 6) hK dd_X12_back_84 (by decide) ?_
    refine g_iald (pc := 86) hK (kdm kd_240) nl_240 (by decide) dd_X12_back_86 (by omega) (by omega) (fun x9 ex9 rx9 => ?_)
    refine g_puti (pc := 87) (f := (0, 0)) (j := 31) (ty := .int) hK (kdm kd_200) rfl ef_12 (by decide) rfl kk_1132 nl_200 (by decide) dd_X12_back_87 rfl rfl rfl rfl rfl rx9 ?_
    refine g_iconst (pc := 90) (x := 0) hK dd_X12_back_90 (by decide) ?_
    refine g_istoren (pc := 91) (i := 1) (L' := [(0, gR 200), (1, gI 0)]) hK dd_X12_back_91 rfl (by decide) rfl ?_
    have lp12 : ∀ (n10 : Nat) (s1 : Int), (0 ≤ s1 ∧ s1 ≤ 8) → (8 - s1).toNat < n10 → G p l e (rmD 3) s m args below meth c D cy q A 0 0 2 (MQ below (gQc D cy q A Pq) args s 0 0 A) 92 [(0, gR 200), (1, gI s1)] [] (bkR (cntB M) s1.toNat) := by
      intro n10
      induction n10 with
      | zero => intro s1 iv13 hm14; exact absurd hm14 (Nat.not_lt_zero _)
      | succ n10 ih11 =>
        intro s1 iv13 hm14
        refine g_iloadn (pc := 92) (i := 1) (x := s1) hK dd_X12_back_92 rfl rfl ?_
        refine g_bipush (pc := 93) (x := 8) hK dd_X12_back_93 (by decide) ?_
        refine g_icmp_ge (pc := 95) (tgt := 132) hK dd_X12_back_95 (by decide) ⟨by omega, by omega⟩ (by decide) (fun c15 => ?_) (fun c15 => ?_)
        · refine g_iconst (pc := 132) (x := 1) hK dd_X12_back_132 (by decide) ?_
          refine g_iret (pc := 133) hK hr hlocks dd_X12_back_133 rfl ?_
          exact g_fin (hY (by first | omega | (subst_vars; omega) | exact ⟨by first | assumption | omega | (subst_vars; first | assumption | omega), by first | assumption | omega | (subst_vars; first | assumption | omega)⟩)) (by first | rfl | omega | (subst_vars; first | rfl | omega)) (by rw [show (8 : Nat) = s1.toNat by omega])
        · refine g_aloadn (pc := 98) (i := 0) (x := 200) hK dd_X12_back_98 rfl rfl ?_
          refine g_iloadn (pc := 99) (i := 1) (x := s1) hK dd_X12_back_99 rfl rfl ?_
          refine g_callV (pc := 100) (As := [gI s1]) hK ws_M_156 md_X12_holdsThing ⟨Nat.zero_le _, Nat.zero_le _⟩ ⟨by decide, by decide⟩ (kdm kd_200) rfl rfl dd_X12_back_100 rfl rfl (Nat.le_of_ble_eq_true rfl) (d_holdsThing s1 (by omega) (by omega) (fun c16 => g_r1 ?_) (fun c16 => g_r1 ?_))
          · refine g_if_eq (pc := 103) (tgt := 126) hK dd_X12_back_103 (by decide) (by decide) (fun c17 => absurd c17 (by decide)) (fun _ => ?_)
            refine g_aloadn (pc := 106) (i := 0) (x := 200) hK dd_X12_back_106 rfl rfl ?_
            refine g_getv (pc := 107) (f := (1, 1)) (j := 0) (v := gR 201) hK (kdm kd_200) rfl ef_12 (by decide) rfl kk_1101 dd_X12_back_107 rfl ?_
            refine g_iloadn (pc := 110) (i := 1) (x := s1) hK dd_X12_back_110 rfl rfl ?_
            refine g_iald (pc := 111) hK (kdm kd_201) nl_201 (by decide) dd_X12_back_111 (by omega) (by omega) (fun x18 ex18 rx18 => ?_)
            refine g_aloadn (pc := 112) (i := 0) (x := 200) hK dd_X12_back_112 rfl rfl ?_
            refine g_geti (pc := 113) (f := (0, 0)) (j := 3) hK (kdm kd_200) rfl ef_12 (by decide) rfl kk_1104 nl_200 dd_X12_back_113 rfl (fun x19 ex19 rx19 => ?_)
            refine g_icmp_lt (pc := 116) (tgt := 126) hK dd_X12_back_116 (by decide) rx18 rx19 (fun c20 => ?_) (fun c20 => ?_)
            · refine g_iinc (pc := 126) (i := 1) (y := s1 + 1) (L' := [(0, gR 200), (1, gI (s1 + 1))]) hK dd_X12_back_126 rfl rfl (by decide) rfl ?_
              refine g_goto (pc := 129) (tgt := 92) hK dd_X12_back_129 (by decide) ?_
              refine g_sub (L' := [(0, gR 200), (1, gI (s1 + 1))]) [0, 1] rfl ?_
              refine g_mem (M2 := bkR (cntB M) (s1 + 1).toNat) (by rw [tn1 (by omega)]; simp only [bkR]; first | (rw [if_pos ⟨by omega, by omega⟩]) | (rw [if_neg (by omega)])) ?_
              exact ih11 (s1 + 1) (by omega) (by omega)
            · refine g_aloadn (pc := 119) (i := 0) (x := 200) hK dd_X12_back_119 rfl rfl ?_
              refine g_getv (pc := 120) (f := (1, 1)) (j := 0) (v := gR 201) hK (kdm kd_200) rfl ef_12 (by decide) rfl kk_1101 dd_X12_back_120 rfl ?_
              refine g_iloadn (pc := 123) (i := 1) (x := s1) hK dd_X12_back_123 rfl rfl ?_
              refine g_iconst (pc := 124) (x := (-1)) hK dd_X12_back_124 (by decide) ?_
              refine g_iast (pc := 125) hK (kdm kd_201) nl_201 (by decide) (by decide) dd_X12_back_125 (by omega) (by omega) (by decide) ?_
              refine g_iinc (pc := 126) (i := 1) (y := s1 + 1) (L' := [(0, gR 200), (1, gI (s1 + 1))]) hK dd_X12_back_126 rfl rfl (by decide) rfl ?_
              refine g_goto (pc := 129) (tgt := 92) hK dd_X12_back_129 (by decide) ?_
              refine g_sub (L' := [(0, gR 200), (1, gI (s1 + 1))]) [0, 1] rfl ?_
              refine g_mem (M2 := bkR (cntB M) (s1 + 1).toNat) (by rw [tn1 (by omega)]; simp only [bkR]; first | (rw [if_pos ⟨by omega, by omega⟩]) | (rw [if_neg (by omega)])) ?_
              exact ih11 (s1 + 1) (by omega) (by omega)
          · refine g_if_eq (pc := 103) (tgt := 126) hK dd_X12_back_103 (by decide) (by decide) (fun _ => ?_) (fun c21 => absurd (by decide) c21)
            refine g_iinc (pc := 126) (i := 1) (y := s1 + 1) (L' := [(0, gR 200), (1, gI (s1 + 1))]) hK dd_X12_back_126 rfl rfl (by decide) rfl ?_
            refine g_goto (pc := 129) (tgt := 92) hK dd_X12_back_129 (by decide) ?_
            refine g_sub (L' := [(0, gR 200), (1, gI (s1 + 1))]) [0, 1] rfl ?_
            refine g_mem (M2 := bkR (cntB M) (s1 + 1).toNat) (by rw [tn1 (by omega)]; simp only [bkR]; first | (rw [if_pos ⟨by omega, by omega⟩]) | (rw [if_neg (by omega)])) ?_
            exact ih11 (s1 + 1) (by omega) (by omega)
    refine g_mem (M2 := bkR (cntB M) (0 : Int).toNat) (by subst_vars; rfl) ?_
    refine g_sub (L' := [(0, gR 200), (1, gI 0)]) [0, 1] rfl ?_
    exact lp12 _ 0 (by omega) (Nat.lt_succ_self _)
  · refine g_aloadn (pc := 7) (i := 0) (x := 200) hK dd_X12_back_7 rfl rfl ?_
    refine g_bipush (pc := 8) (x := (-5)) hK dd_X12_back_8 (by decide) ?_
    refine g_callV (pc := 10) (As := [gI (-5)]) hK ws_M_152 md_X12_no ⟨Nat.zero_le _, Nat.zero_le _⟩ ⟨by decide, by decide⟩ (kdm kd_200) rfl rfl dd_X12_back_10 rfl rfl (Nat.le_of_ble_eq_true rfl) (d_no_5 hrg (g_r1 ?_))
    refine g_iret (pc := 13) hK hr hlocks dd_X12_back_13 rfl ?_
    exact g_fin (hS (by first | omega | (subst_vars; omega) | exact ⟨by first | assumption | omega | (subst_vars; first | assumption | omega), by first | assumption | omega | (subst_vars; first | assumption | omega)⟩)) (by first | rfl | omega | (subst_vars; first | rfl | omega)) (by first | rfl | (subst_vars; rfl))
