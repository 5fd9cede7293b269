set_option maxHeartbeats 4000000 in
set_option maxRecDepth 100000 in
theorem y_who {l : Launch} {M : Mem} {Pq : Option gV → Mem → Prop} (wh : Int) (h_wh : inI wh) (hrg : rgOK M) (hmc : 0 ≤ M 200 3 ∧ M 200 3 ≤ 30) (hmtc : 0 ≤ M 200 24 ∧ M 200 24 ≤ 5) (hmlc : 0 ≤ M 200 10 ∧ M 200 10 ≤ 5) (hmwc : 0 ≤ M 200 14 ∧ M 200 14 ≤ 6) (hthm : thOKm M) (hlam : laOKm M) (hlwm : lwOK (M 216) (M 200 14)) (hB : (¬ (-1 ≤ wh ∧ wh < M 200 24)) → Pq (some (gI (-2))) (rg M 2)) (hS : ((-1 ≤ wh ∧ wh < M 200 24) ∧ M 200 10 < M 200 24) → Pq (some (gI (-5))) (rg M 5)) (hA : (wh = -1 ∧ M 200 24 ≤ M 200 10) → Pq (some (gI ((wbS (wyf (lsT (M 205) (M 206) (M 207) (M 212) (M 213) (M 214) (M 216) (M 200 14) (M 226) (M 200 3).toNat) (M 200 10) wh (M 200 24).toNat) (pwI (M 200 10) (M 200 24).toNat).toNat).1))) (sr M 250 (ltF (M 250) (lsT (M 205) (M 206) (M 207) (M 212) (M 213) (M 214) (M 216) (M 200 14) (M 226) (M 200 3).toNat) (M 200 24).toNat 0 (M 200 10).toNat))) (hY : ((0 ≤ wh ∧ wh < M 200 24) ∧ M 200 24 ≤ M 200 10) → Pq (some (gI ((wbS (wyf (lsT (M 205) (M 206) (M 207) (M 212) (M 213) (M 214) (M 216) (M 200 14) (M 226) (M 200 3).toNat) (M 200 10) wh (M 200 24).toNat) (pwI (M 200 10) (M 200 24).toNat).toNat).2))) (sr M 250 (ltF (M 250) (lsT (M 205) (M 206) (M 207) (M 212) (M 213) (M 214) (M 216) (M 200 14) (M 226) (M 200 3).toNat) (M 200 24).toNat 0 (M 200 10).toNat))) : gCtr l my_X12_who mb_X12_who 13 ((some .int)) 7 [gR 200, gI wh] M Pq := by
  refine g_intro (by decide) (Nat.le_of_ble_eq_true rfl) ?_
  intro p e s m args below meth c D cy q A hK hr hlocks hw
  refine g_sub (L' := [(0, gR 200), (1, gI wh)]) [0, 1] rfl ?_
  refine g_iloadn (pc := 0) (i := 1) (x := wh) hK dd_X12_who_0 rfl rfl ?_
  refine g_iconst (pc := 1) (x := (-1)) hK dd_X12_who_1 (by decide) ?_
  refine g_icmp_lt (pc := 2) (tgt := 13) hK dd_X12_who_2 (by decide) h_wh (by decide) (fun c1 => ?_) (fun c1 => ?_)
  · refine g_aloadn (pc := 13) (i := 0) (x := 200) hK dd_X12_who_13 rfl rfl ?_
    refine g_bipush (pc := 14) (x := (-2)) hK dd_X12_who_14 (by decide) ?_
    refine g_callV (pc := 16) (As := [gI (-2)]) hK ws_M_152 md_X12_no ⟨Nat.zero_le _, Nat.zero_le _⟩ ⟨by decide, by decide⟩ (kdm kd_200) rfl rfl dd_X12_who_16 rfl rfl (Nat.le_of_ble_eq_true rfl) (d_no_2 hrg (g_r1 ?_))
    refine g_iret (pc := 19) hK hr hlocks dd_X12_who_19 rfl ?_
    first | exact g_fin (hB (by first | omega | (subst_vars; omega) | exact ⟨by first | assumption | omega | (subst_vars; first | assumption | omega), by first | assumption | omega | (subst_vars; first | assumption | omega)⟩)) (by first | rfl | omega | (subst_vars; first | rfl | omega)) (by first | rfl | (subst_vars; rfl)) | exact g_fin (hA (by first | omega | (subst_vars; omega) | exact ⟨by first | assumption | omega | (subst_vars; first | assumption | omega), by first | assumption | omega | (subst_vars; first | assumption | omega)⟩)) (by rw [hfe_]) (by first | rfl | (subst_vars; rfl)) | exact g_fin (hY (by first | omega | (subst_vars; omega) | exact ⟨by first | assumption | omega | (subst_vars; first | assumption | omega), by first | assumption | omega | (subst_vars; first | assumption | omega)⟩)) (by rw [hfe_]) (by first | rfl | (subst_vars; rfl)) | (exfalso; omega)
  · refine g_iloadn (pc := 5) (i := 1) (x := wh) hK dd_X12_who_5 rfl rfl ?_
    refine g_aloadn (pc := 6) (i := 0) (x := 200) hK dd_X12_who_6 rfl rfl ?_
    refine g_geti (pc := 7) (f := (0, 0)) (j := 24) hK (kdm kd_200) rfl ef_12 (by decide) rfl kk_1125 nl_200 dd_X12_who_7 rfl (fun x2 ex2 rx2 => ?_)
    refine g_icmp_lt (pc := 10) (tgt := 20) hK dd_X12_who_10 (by decide) h_wh rx2 (fun c3 => ?_) (fun c3 => ?_)
    · refine g_aloadn (pc := 20) (i := 0) (x := 200) hK dd_X12_who_20 rfl rfl ?_
      refine g_geti (pc := 21) (f := (0, 0)) (j := 24) hK (kdm kd_200) rfl ef_12 (by decide) rfl kk_1125 nl_200 dd_X12_who_21 rfl (fun x4 ex4 rx4 => ?_)
      refine g_aloadn (pc := 24) (i := 0) (x := 200) hK dd_X12_who_24 rfl rfl ?_
      refine g_geti (pc := 25) (f := (0, 0)) (j := 10) hK (kdm kd_200) rfl ef_12 (by decide) rfl kk_1111 nl_200 dd_X12_who_25 rfl (fun x5 ex5 rx5 => ?_)
      refine g_icmp_le (pc := 28) (tgt := 38) hK dd_X12_who_28 (by decide) rx4 rx5 (fun c6 => ?_) (fun c6 => ?_)
      · have hls_ : ∀ t a : Nat, (a : Int) < M 200 10 → 0 ≤ (lsT (M 205) (M 206) (M 207) (M 212) (M 213) (M 214) (M 216) (M 200 14) (M 226) (M 200 3).toNat) t a ∧ (lsT (M 205) (M 206) (M 207) (M 212) (M 213) (M 214) (M 216) (M 200 14) (M 226) (M 200 3).toNat) t a ≤ 31470 := fun t a ha => by have q_ := losK_in (k := M 205) (w := M 206) (c := M 207) (kn := M 212 a) (gs := M 213 a) (lw := M 214 a) (ks := M 226 t) hlwm (hlam a (by omega)).2.1 (fun j hj => (hthm j hj).2.1) (M 200 3).toNat (by omega); unfold lsT; omega
        refine g_iconst (pc := 38) (x := 0) hK dd_X12_who_38 (by decide) ?_
        refine g_istoren (pc := 39) (i := 2) (L' := [(0, gR 200), (1, gI wh), (2, gI 0)]) hK dd_X12_who_39 rfl (by decide) rfl ?_
        have lp9 : ∀ (n7 : Nat) (t : Int), (0 ≤ t ∧ t ≤ M 200 24) → (M 200 24 - t).toNat < n7 → G p l e (rmD 7) s m args below meth c D cy q A 0 0 13 (MQ below (gQc D cy q A Pq) args s 0 0 A) 40 [(0, gR 200), (1, gI wh), (2, gI t)] [] (sr M 250 (ltF (M 250) (lsT (M 205) (M 206) (M 207) (M 212) (M 213) (M 214) (M 216) (M 200 14) (M 226) (M 200 3).toNat) t.toNat 0 (M 200 10).toNat)) := by
          intro n7
          induction n7 with
          | zero => intro t iv10 hm11; exact absurd hm11 (Nat.not_lt_zero _)
          | succ n7 ih8 =>
            intro t iv10 hm11
            refine g_iloadn (pc := 40) (i := 2) (x := t) hK dd_X12_who_40 rfl rfl ?_
            refine g_aloadn (pc := 41) (i := 0) (x := 200) hK dd_X12_who_41 rfl rfl ?_
            refine g_geti (pc := 42) (f := (0, 0)) (j := 24) hK (kdm kd_200) rfl ef_12 (by decide) rfl kk_1125 nl_200 dd_X12_who_42 rfl (fun x12 ex12 rx12 => ?_)
            replace ex12 : x12 = M 200 24 := ex12
            refine g_icmp_ge (pc := 45) (tgt := 91) hK dd_X12_who_45 (by decide) ⟨by omega, by omega⟩ rx12 (fun c13 => ?_) (fun c13 => ?_)
            · refine g_iconst (pc := 91) (x := 1) hK dd_X12_who_91 (by decide) ?_
              refine g_istoren (pc := 92) (i := 2) (L' := [(0, gR 200), (1, gI wh), (2, gI 1)]) hK dd_X12_who_92 rfl (by decide) rfl ?_
              refine g_iconst (pc := 93) (x := 0) hK dd_X12_who_93 (by decide) ?_
              refine g_istoren (pc := 94) (i := 3) (L' := [(0, gR 200), (1, gI wh), (2, gI 1), (3, gI 0)]) hK dd_X12_who_94 rfl (by decide) rfl ?_
              have lp16 : ∀ (n14 : Nat) (wv : Int) (t : Int), (0 ≤ t ∧ t ≤ M 200 24) → (wv = pwI (M 200 10) t.toNat) → (M 200 24 - t).toNat < n14 → G p l e (rmD 7) s m args below meth c D cy q A 0 0 13 (MQ below (gQc D cy q A Pq) args s 0 0 A) 95 [(0, gR 200), (1, gI wh), (2, gI wv), (3, gI t)] [] (sr M 250 (ltF (M 250) (lsT (M 205) (M 206) (M 207) (M 212) (M 213) (M 214) (M 216) (M 200 14) (M 226) (M 200 3).toNat) (M 200 24).toNat 0 (M 200 10).toNat)) := by
                intro n14
                induction n14 with
                | zero => intro wv t iv17 hwv_ hm18; exact absurd hm18 (Nat.not_lt_zero _)
                | succ n14 ih15 =>
                  intro wv t iv17 hwv_ hm18
                  refine g_iloadn (pc := 95) (i := 3) (x := t) hK dd_X12_who_95 rfl rfl ?_
                  refine g_aloadn (pc := 96) (i := 0) (x := 200) hK dd_X12_who_96 rfl rfl ?_
                  refine g_geti (pc := 97) (f := (0, 0)) (j := 24) hK (kdm kd_200) rfl ef_12 (by decide) rfl kk_1125 nl_200 dd_X12_who_97 rfl (fun x19 ex19 rx19 => ?_)
                  replace ex19 : x19 = M 200 24 := ex19
                  refine g_icmp_ge (pc := 100) (tgt := 116) hK dd_X12_who_100 (by decide) ⟨by omega, by omega⟩ rx19 (fun c20 => ?_) (fun c20 => ?_)
                  · have hpw_ := pwI_in (n := M 200 10) (by omega) (by omega) (M 200 24).toNat (by omega)
                    have hwe0_ : wv = pwI (M 200 10) (M 200 24).toNat := by rw [hwv_, show t.toNat = (M 200 24).toNat by omega]
                    refine g_iconst (pc := 116) (x := (-1)) hK dd_X12_who_116 (by decide) ?_
                    refine g_istoren (pc := 117) (i := 3) (L' := [(0, gR 200), (1, gI wh), (2, gI wv), (3, gI (-1))]) hK dd_X12_who_117 rfl (by decide) rfl ?_
                    refine g_iconst (pc := 118) (x := (-1)) hK dd_X12_who_118 (by decide) ?_
                    refine g_istore (pc := 119) (i := 4) (L' := [(0, gR 200), (1, gI wh), (2, gI wv), (3, gI (-1)), (4, gI (-1))]) hK dd_X12_who_119 (by decide) rfl ?_
                    refine g_iconst (pc := 121) (x := 0) hK dd_X12_who_121 (by decide) ?_
                    refine g_istore (pc := 122) (i := 5) (L' := [(0, gR 200), (1, gI wh), (2, gI wv), (3, gI (-1)), (4, gI (-1)), (5, gI 0)]) hK dd_X12_who_122 (by decide) rfl ?_
                    have lp23 : ∀ (n21 : Nat) (le : Int) (an : Int) (wy : Int), (0 ≤ wy ∧ wy ≤ wv) → (wbS (wyf (lsT (M 205) (M 206) (M 207) (M 212) (M 213) (M 214) (M 216) (M 200 14) (M 226) (M 200 3).toNat) (M 200 10) wh (M 200 24).toNat) wy.toNat = (le, an)) → (-1 ≤ le ∧ le ≤ 200000) → (wv - wy).toNat < n21 → G p l e (rmD 7) s m args below meth c D cy q A 0 0 13 (MQ below (gQc D cy q A Pq) args s 0 0 A) 124 [(0, gR 200), (1, gI wh), (2, gI wv), (3, gI le), (4, gI an), (5, gI wy)] [] (sr M 250 (ltF (M 250) (lsT (M 205) (M 206) (M 207) (M 212) (M 213) (M 214) (M 216) (M 200 14) (M 226) (M 200 3).toNat) (M 200 24).toNat 0 (M 200 10).toNat)) := by
                      intro n21
                      induction n21 with
                      | zero => intro le an wy iv24 hws2_ iv25 hm26; exact absurd hm26 (Nat.not_lt_zero _)
                      | succ n21 ih22 =>
                        intro le an wy iv24 hws2_ iv25 hm26
                        refine g_iload (pc := 124) (i := 5) (x := wy) hK dd_X12_who_124 rfl ?_
                        refine g_iloadn (pc := 126) (i := 2) (x := wv) hK dd_X12_who_126 rfl rfl ?_
                        refine g_icmp_ge (pc := 127) (tgt := 261) hK dd_X12_who_127 (by decide) ⟨by omega, by omega⟩ ⟨by omega, by omega⟩ (fun c27 => ?_) (fun c27 => ?_)
                        · have hfe_ : wbS (wyf (lsT (M 205) (M 206) (M 207) (M 212) (M 213) (M 214) (M 216) (M 200 14) (M 226) (M 200 3).toNat) (M 200 10) wh (M 200 24).toNat) (pwI (M 200 10) (M 200 24).toNat).toNat = (le, an) := by rw [← hws2_, show (pwI (M 200 10) (M 200 24).toNat).toNat = wy.toNat by rw [← hwe0_]; omega]
                          refine g_iloadn (pc := 261) (i := 1) (x := wh) hK dd_X12_who_261 rfl rfl ?_
                          refine g_if_ge (pc := 262) (tgt := 269) hK dd_X12_who_262 (by decide) h_wh (fun c28 => ?_) (fun c28 => ?_)
                          · refine g_iload (pc := 269) (i := 4) (x := an) hK dd_X12_who_269 rfl ?_
                            refine g_iret (pc := 271) hK hr hlocks dd_X12_who_271 rfl ?_
                            first | exact g_fin (hA (by first | omega | (subst_vars; omega) | exact ⟨by first | assumption | omega | (subst_vars; first | assumption | omega), by first | assumption | omega | (subst_vars; first | assumption | omega)⟩)) (by rw [hfe_]) (by first | rfl | (subst_vars; rfl)) | exact g_fin (hY (by first | omega | (subst_vars; omega) | exact ⟨by first | assumption | omega | (subst_vars; first | assumption | omega), by first | assumption | omega | (subst_vars; first | assumption | omega)⟩)) (by rw [hfe_]) (by first | rfl | (subst_vars; rfl)) | (exfalso; omega)
                          · refine g_iloadn (pc := 265) (i := 3) (x := le) hK dd_X12_who_265 rfl rfl ?_
                            refine g_goto (pc := 266) (tgt := 271) hK dd_X12_who_266 (by decide) ?_
                            refine g_iret (pc := 271) hK hr hlocks dd_X12_who_271 rfl ?_
                            first | exact g_fin (hA (by first | omega | (subst_vars; omega) | exact ⟨by first | assumption | omega | (subst_vars; first | assumption | omega), by first | assumption | omega | (subst_vars; first | assumption | omega)⟩)) (by rw [hfe_]) (by first | rfl | (subst_vars; rfl)) | exact g_fin (hY (by first | omega | (subst_vars; omega) | exact ⟨by first | assumption | omega | (subst_vars; first | assumption | omega), by first | assumption | omega | (subst_vars; first | assumption | omega)⟩)) (by rw [hfe_]) (by first | rfl | (subst_vars; rfl)) | (exfalso; omega)
                        · refine g_iload (pc := 130) (i := 5) (x := wy) hK dd_X12_who_130 rfl ?_
                          refine g_istore (pc := 132) (i := 6) (L' := [(0, gR 200), (1, gI wh), (2, gI wv), (3, gI le), (4, gI an), (5, gI wy), (6, gI wy)]) hK dd_X12_who_132 (by decide) rfl ?_
                          refine g_iconst (pc := 134) (x := 0) hK dd_X12_who_134 (by decide) ?_
                          refine g_istore (pc := 135) (i := 7) (L' := [(0, gR 200), (1, gI wh), (2, gI wv), (3, gI le), (4, gI an), (5, gI wy), (6, gI wy), (7, gI 0)]) hK dd_X12_who_135 (by decide) rfl ?_
                          refine g_iconst (pc := 137) (x := 0) hK dd_X12_who_137 (by decide) ?_
                          refine g_istore (pc := 138) (i := 8) (L' := [(0, gR 200), (1, gI wh), (2, gI wv), (3, gI le), (4, gI an), (5, gI wy), (6, gI wy), (7, gI 0), (8, gI 0)]) hK dd_X12_who_138 (by decide) rfl ?_
                          refine g_iconst (pc := 140) (x := (-1)) hK dd_X12_who_140 (by decide) ?_
                          refine g_istore (pc := 141) (i := 9) (L' := [(0, gR 200), (1, gI wh), (2, gI wv), (3, gI le), (4, gI an), (5, gI wy), (6, gI wy), (7, gI 0), (8, gI 0), (9, gI (-1))]) hK dd_X12_who_141 (by decide) rfl ?_
                          refine g_iconst (pc := 143) (x := 1) hK dd_X12_who_143 (by decide) ?_
                          refine g_istore (pc := 144) (i := 10) (L' := [(0, gR 200), (1, gI wh), (2, gI wv), (3, gI le), (4, gI an), (5, gI wy), (6, gI wy), (7, gI 0), (8, gI 0), (9, gI (-1)), (10, gI 1)]) hK dd_X12_who_144 (by decide) rfl ?_
                          refine g_aloadn (pc := 146) (i := 0) (x := 200) hK dd_X12_who_146 rfl rfl ?_
                          refine g_geti (pc := 147) (f := (0, 0)) (j := 24) hK (kdm kd_200) rfl ef_12 (by decide) rfl kk_1125 nl_200 dd_X12_who_147 rfl (fun x29 ex29 rx29 => ?_)
                          replace ex29 : x29 = M 200 24 := ex29
                          refine g_topv (v := gI (M 200 24)) (by rw [ex29]) ?_
                          refine g_iconst (pc := 150) (x := 1) hK dd_X12_who_150 (by decide) ?_
                          refine g_isub (pc := 151) (z := (M 200 24) - 1) hK dd_X12_who_151 rfl ?_
                          refine g_istore (pc := 152) (i := 11) (L' := [(0, gR 200), (1, gI wh), (2, gI wv), (3, gI le), (4, gI an), (5, gI wy), (6, gI wy), (7, gI 0), (8, gI 0), (9, gI (-1)), (10, gI 1), (11, gI ((M 200 24) - 1))]) hK dd_X12_who_152 (by decide) rfl ?_
                          have lp32 : ∀ (n30 : Nat) (re : Int) (bz : Int) (sm : Int) (hx : Int) (ca : Int) (t : Int), (-1 ≤ t ∧ t < M 200 24) → (wyS (lsT (M 205) (M 206) (M 207) (M 212) (M 213) (M 214) (M 216) (M 200 14) (M 226) (M 200 3).toNat) (M 200 10) wh (M 200 24).toNat wy (M 200 24 - 1 - t).toNat = (re, bz, sm, hx, ca)) → (ca = 0 ∨ ca = 1) → (inI bz) → (t + 1).toNat < n30 → G p l e (rmD 7) s m args below meth c D cy q A 0 0 13 (MQ below (gQc D cy q A Pq) args s 0 0 A) 154 [(0, gR 200), (1, gI wh), (2, gI wv), (3, gI le), (4, gI an), (5, gI wy), (6, gI re), (7, gI bz), (8, gI sm), (9, gI hx), (10, gI ca), (11, gI t)] [] (sr M 250 (ltF (M 250) (lsT (M 205) (M 206) (M 207) (M 212) (M 213) (M 214) (M 216) (M 200 14) (M 226) (M 200 3).toNat) (M 200 24).toNat 0 (M 200 10).toNat)) := by
                            intro n30
                            induction n30 with
                            | zero => intro re bz sm hx ca t iv33 hwy_ iv34 iv35 hm36; exact absurd hm36 (Nat.not_lt_zero _)
                            | succ n30 ih31 =>
                              intro re bz sm hx ca t iv33 hwy_ iv34 iv35 hm36
                              refine g_iload (pc := 154) (i := 11) (x := t) hK dd_X12_who_154 rfl ?_
                              refine g_if_lt (pc := 156) (tgt := 233) hK dd_X12_who_156 (by decide) ⟨by omega, by omega⟩ (fun c37 => ?_) (fun c37 => ?_)
                              · have hwe_ : wyS (lsT (M 205) (M 206) (M 207) (M 212) (M 213) (M 214) (M 216) (M 200 14) (M 226) (M 200 3).toNat) (M 200 10) wh (M 200 24).toNat wy (M 200 24).toNat = (re, bz, sm, hx, ca) := by have q_ := hwy_; rw [show (M 200 24 - 1 - t).toNat = (M 200 24).toNat by omega] at q_; exact q_
                                have hls2_ : le = (wbS (wyf (lsT (M 205) (M 206) (M 207) (M 212) (M 213) (M 214) (M 216) (M 200 14) (M 226) (M 200 3).toNat) (M 200 10) wh (M 200 24).toNat) wy.toNat).1 := by rw [hws2_]
                                have hsr_ : 0 ≤ sm ∧ sm ≤ 157350 := by
                                  by_cases z_ : 0 < M 200 10
                                  · have q_ := wy_in (L := (lsT (M 205) (M 206) (M 207) (M 212) (M 213) (M 214) (M 216) (M 200 14) (M 226) (M 200 3).toNat)) (n := M 200 10) (wh := wh) (tc := (M 200 24).toNat) (way := wy) (by omega) z_ (fun t a _ ha => hls_ t a ha) (M 200 24).toNat (Nat.le_refl _)
                                    rw [hwe_] at q_; simp only at q_; omega
                                  · rw [show (M 200 24).toNat = 0 by omega] at hwe_
                                    have q_ : sm = 0 := (congrArg (fun z_ : W5 => z_.2.2.1) hwe_).symm
                                    omega
                                refine g_iload (pc := 233) (i := 10) (x := ca) hK dd_X12_who_233 rfl ?_
                                refine g_if_eq (pc := 235) (tgt := 255) hK dd_X12_who_235 (by decide) ⟨by omega, by omega⟩ (fun c38 => ?_) (fun c38 => ?_)
                                · have hw2_ : wbS (wyf (lsT (M 205) (M 206) (M 207) (M 212) (M 213) (M 214) (M 216) (M 200 14) (M 226) (M 200 3).toNat) (M 200 10) wh (M 200 24).toNat) (wy + 1).toNat = (le, an) := (ws_n hwe_ (by omega) (by rw [← hls2_]; exact fun z_ => by omega)).trans hws2_
                                  refine g_iinc (pc := 255) (i := 5) (y := wy + 1) (L' := [(0, gR 200), (1, gI wh), (2, gI wv), (3, gI le), (4, gI an), (5, gI (wy + 1)), (6, gI re), (7, gI bz), (8, gI sm), (9, gI hx), (10, gI ca), (11, gI t)]) hK dd_X12_who_255 rfl rfl (by decide) rfl ?_
                                  refine g_goto (pc := 258) (tgt := 124) hK dd_X12_who_258 (by decide) ?_
                                  refine g_sub (L' := [(0, gR 200), (1, gI wh), (2, gI wv), (3, gI le), (4, gI an), (5, gI (wy + 1))]) [0, 1, 2, 3, 4, 5] rfl ?_
                                  refine g_mem (M2 := sr M 250 (ltF (M 250) (lsT (M 205) (M 206) (M 207) (M 212) (M 213) (M 214) (M 216) (M 200 14) (M 226) (M 200 3).toNat) (M 200 24).toNat 0 (M 200 10).toNat)) (rfl) ?_
                                  exact ih22 le an (wy + 1) (by omega) (hw2_) (by omega) (by omega)
                                · refine g_iloadn (pc := 238) (i := 3) (x := le) hK dd_X12_who_238 rfl rfl ?_
                                  refine g_if_lt (pc := 239) (tgt := 248) hK dd_X12_who_239 (by decide) ⟨by omega, by omega⟩ (fun c39 => ?_) (fun c39 => ?_)
                                  · refine g_iload (pc := 248) (i := 8) (x := sm) hK dd_X12_who_248 rfl ?_
                                    refine g_istoren (pc := 250) (i := 3) (L' := [(0, gR 200), (1, gI wh), (2, gI wv), (3, gI sm), (4, gI an), (5, gI wy), (6, gI re), (7, gI bz), (8, gI sm), (9, gI hx), (10, gI ca), (11, gI t)]) hK dd_X12_who_250 rfl (by decide) rfl ?_
                                    refine g_iload (pc := 251) (i := 9) (x := hx) hK dd_X12_who_251 rfl ?_
                                    refine g_istore (pc := 253) (i := 4) (L' := [(0, gR 200), (1, gI wh), (2, gI wv), (3, gI sm), (4, gI hx), (5, gI wy), (6, gI re), (7, gI bz), (8, gI sm), (9, gI hx), (10, gI ca), (11, gI t)]) hK dd_X12_who_253 (by decide) rfl ?_
                                    have hw2_ : wbS (wyf (lsT (M 205) (M 206) (M 207) (M 212) (M 213) (M 214) (M 216) (M 200 14) (M 226) (M 200 3).toNat) (M 200 10) wh (M 200 24).toNat) (wy + 1).toNat = (sm, hx) := ws_y hwe_ (by omega) (by rw [← hls2_]; exact ⟨by omega, by omega⟩)
                                    refine g_iinc (pc := 255) (i := 5) (y := wy + 1) (L' := [(0, gR 200), (1, gI wh), (2, gI wv), (3, gI sm), (4, gI hx), (5, gI (wy + 1)), (6, gI re), (7, gI bz), (8, gI sm), (9, gI hx), (10, gI ca), (11, gI t)]) hK dd_X12_who_255 rfl rfl (by decide) rfl ?_
                                    refine g_goto (pc := 258) (tgt := 124) hK dd_X12_who_258 (by decide) ?_
                                    refine g_sub (L' := [(0, gR 200), (1, gI wh), (2, gI wv), (3, gI sm), (4, gI hx), (5, gI (wy + 1))]) [0, 1, 2, 3, 4, 5] rfl ?_
                                    refine g_mem (M2 := sr M 250 (ltF (M 250) (lsT (M 205) (M 206) (M 207) (M 212) (M 213) (M 214) (M 216) (M 200 14) (M 226) (M 200 3).toNat) (M 200 24).toNat 0 (M 200 10).toNat)) (rfl) ?_
                                    exact ih22 sm hx (wy + 1) (by omega) (hw2_) (by omega) (by omega)
                                  · refine g_iload (pc := 242) (i := 8) (x := sm) hK dd_X12_who_242 rfl ?_
                                    refine g_iloadn (pc := 244) (i := 3) (x := le) hK dd_X12_who_244 rfl rfl ?_
                                    refine g_icmp_ge (pc := 245) (tgt := 255) hK dd_X12_who_245 (by decide) ⟨by omega, by omega⟩ ⟨by omega, by omega⟩ (fun c40 => ?_) (fun c40 => ?_)
                                    · have hw2_ : wbS (wyf (lsT (M 205) (M 206) (M 207) (M 212) (M 213) (M 214) (M 216) (M 200 14) (M 226) (M 200 3).toNat) (M 200 10) wh (M 200 24).toNat) (wy + 1).toNat = (le, an) := (ws_n hwe_ (by omega) (by rw [← hls2_]; exact fun z_ => by omega)).trans hws2_
                                      refine g_iinc (pc := 255) (i := 5) (y := wy + 1) (L' := [(0, gR 200), (1, gI wh), (2, gI wv), (3, gI le), (4, gI an), (5, gI (wy + 1)), (6, gI re), (7, gI bz), (8, gI sm), (9, gI hx), (10, gI ca), (11, gI t)]) hK dd_X12_who_255 rfl rfl (by decide) rfl ?_
                                      refine g_goto (pc := 258) (tgt := 124) hK dd_X12_who_258 (by decide) ?_
                                      refine g_sub (L' := [(0, gR 200), (1, gI wh), (2, gI wv), (3, gI le), (4, gI an), (5, gI (wy + 1))]) [0, 1, 2, 3, 4, 5] rfl ?_
                                      refine g_mem (M2 := sr M 250 (ltF (M 250) (lsT (M 205) (M 206) (M 207) (M 212) (M 213) (M 214) (M 216) (M 200 14) (M 226) (M 200 3).toNat) (M 200 24).toNat 0 (M 200 10).toNat)) (rfl) ?_
                                      exact ih22 le an (wy + 1) (by omega) (hw2_) (by omega) (by omega)
                                    · refine g_iload (pc := 248) (i := 8) (x := sm) hK dd_X12_who_248 rfl ?_
                                      refine g_istoren (pc := 250) (i := 3) (L' := [(0, gR 200), (1, gI wh), (2, gI wv), (3, gI sm), (4, gI an), (5, gI wy), (6, gI re), (7, gI bz), (8, gI sm), (9, gI hx), (10, gI ca), (11, gI t)]) hK dd_X12_who_250 rfl (by decide) rfl ?_
                                      refine g_iload (pc := 251) (i := 9) (x := hx) hK dd_X12_who_251 rfl ?_
                                      refine g_istore (pc := 253) (i := 4) (L' := [(0, gR 200), (1, gI wh), (2, gI wv), (3, gI sm), (4, gI hx), (5, gI wy), (6, gI re), (7, gI bz), (8, gI sm), (9, gI hx), (10, gI ca), (11, gI t)]) hK dd_X12_who_253 (by decide) rfl ?_
                                      have hw2_ : wbS (wyf (lsT (M 205) (M 206) (M 207) (M 212) (M 213) (M 214) (M 216) (M 200 14) (M 226) (M 200 3).toNat) (M 200 10) wh (M 200 24).toNat) (wy + 1).toNat = (sm, hx) := ws_y hwe_ (by omega) (by rw [← hls2_]; exact ⟨by omega, by omega⟩)
                                      refine g_iinc (pc := 255) (i := 5) (y := wy + 1) (L' := [(0, gR 200), (1, gI wh), (2, gI wv), (3, gI sm), (4, gI hx), (5, gI (wy + 1)), (6, gI re), (7, gI bz), (8, gI sm), (9, gI hx), (10, gI ca), (11, gI t)]) hK dd_X12_who_255 rfl rfl (by decide) rfl ?_
                                      refine g_goto (pc := 258) (tgt := 124) hK dd_X12_who_258 (by decide) ?_
                                      refine g_sub (L' := [(0, gR 200), (1, gI wh), (2, gI wv), (3, gI sm), (4, gI hx), (5, gI (wy + 1))]) [0, 1, 2, 3, 4, 5] rfl ?_
                                      refine g_mem (M2 := sr M 250 (ltF (M 250) (lsT (M 205) (M 206) (M 207) (M 212) (M 213) (M 214) (M 216) (M 200 14) (M 226) (M 200 3).toNat) (M 200 24).toNat 0 (M 200 10).toNat)) (rfl) ?_
                                      exact ih22 sm hx (wy + 1) (by omega) (hw2_) (by omega) (by omega)
                              · have hin_ := wy_in (L := (lsT (M 205) (M 206) (M 207) (M 212) (M 213) (M 214) (M 216) (M 200 14) (M 226) (M 200 3).toNat)) (n := M 200 10) (wh := wh) (tc := (M 200 24).toNat) (way := wy) (by omega) (by omega) (fun t a _ ha => hls_ t a ha) (M 200 24 - 1 - t).toNat (by omega)
                                rw [hwy_] at hin_
                                simp only at hin_
                                refine g_iload (pc := 159) (i := 6) (x := re) hK dd_X12_who_159 rfl ?_
                                refine g_aloadn (pc := 161) (i := 0) (x := 200) hK dd_X12_who_161 rfl rfl ?_
                                refine g_geti (pc := 162) (f := (0, 0)) (j := 10) hK (kdm kd_200) rfl ef_12 (by decide) rfl kk_1111 nl_200 dd_X12_who_162 rfl (fun x41 ex41 rx41 => ?_)
                                replace ex41 : x41 = M 200 10 := ex41
                                refine g_topv (v := gI (M 200 10)) (by rw [ex41]) ?_
                                refine g_irem (pc := 165) (z := re.tmod (M 200 10)) hK dd_X12_who_165 ⟨by omega, by omega⟩ ⟨by omega, by omega⟩ (by omega) rfl ?_
                                have hti_ := tmr (x := re) (n := M 200 10) (by omega) (by omega)
                                refine g_topI (fun ai eai => ?_)
                                rw [← eai] at hti_
                                have hla_ := hls_ t.toNat ai.toNat (by omega)
                                refine g_istore (pc := 166) (i := 12) (L' := [(0, gR 200), (1, gI wh), (2, gI wv), (3, gI le), (4, gI an), (5, gI wy), (6, gI re), (7, gI bz), (8, gI sm), (9, gI hx), (10, gI ca), (11, gI t), (12, gI ai)]) hK dd_X12_who_166 (by decide) rfl ?_
                                refine g_iload (pc := 168) (i := 6) (x := re) hK dd_X12_who_168 rfl ?_
                                refine g_aloadn (pc := 170) (i := 0) (x := 200) hK dd_X12_who_170 rfl rfl ?_
                                refine g_geti (pc := 171) (f := (0, 0)) (j := 10) hK (kdm kd_200) rfl ef_12 (by decide) rfl kk_1111 nl_200 dd_X12_who_171 rfl (fun x42 ex42 rx42 => ?_)
                                replace ex42 : x42 = M 200 10 := ex42
                                refine g_topv (v := gI (M 200 10)) (by rw [ex42]) ?_
                                refine g_idiv (pc := 174) (z := re.tdiv (M 200 10)) hK dd_X12_who_174 ⟨by omega, by omega⟩ ⟨by omega, by omega⟩ (by omega) rfl ?_
                                have htd_ := td_in (w := re) (by omega) (M 200 10) (by omega)
                                refine g_istore (pc := 175) (i := 6) (L' := [(0, gR 200), (1, gI wh), (2, gI wv), (3, gI le), (4, gI an), (5, gI wy), (6, gI (re.tdiv (M 200 10))), (7, gI bz), (8, gI sm), (9, gI hx), (10, gI ca), (11, gI t), (12, gI ai)]) hK dd_X12_who_175 (by decide) rfl ?_
                                refine g_aloadn (pc := 177) (i := 0) (x := 200) hK dd_X12_who_177 rfl rfl ?_
                                refine g_iload (pc := 178) (i := 7) (x := bz) hK dd_X12_who_178 rfl ?_
                                refine g_iload (pc := 180) (i := 12) (x := ai) hK dd_X12_who_180 rfl ?_
                                refine g_callV (pc := 182) (As := [gI bz, gI ai]) hK ws_M_181 md_X12_isOf ⟨Nat.zero_le _, Nat.zero_le _⟩ ⟨by decide, by decide⟩ (kdm kd_200) rfl rfl dd_X12_who_182 rfl rfl (Nat.le_of_ble_eq_true rfl) (d_isOf bz ai (fun c43 => g_r1 ?_) (fun c43 => g_r1 ?_))
                                · replace c43 : hb bz ai := c43
                                  refine g_if_eq (pc := 185) (tgt := 191) hK dd_X12_who_185 (by decide) (by decide) (fun c44 => absurd c44 (by decide)) (fun _ => ?_)
                                  refine g_iconst (pc := 188) (x := 0) hK dd_X12_who_188 (by decide) ?_
                                  refine g_istore (pc := 189) (i := 10) (L' := [(0, gR 200), (1, gI wh), (2, gI wv), (3, gI le), (4, gI an), (5, gI wy), (6, gI (re.tdiv (M 200 10))), (7, gI bz), (8, gI sm), (9, gI hx), (10, gI 0), (11, gI t), (12, gI ai)]) hK dd_X12_who_189 (by decide) rfl ?_
                                  refine g_iload (pc := 191) (i := 7) (x := bz) hK dd_X12_who_191 rfl ?_
                                  refine g_iconst (pc := 193) (x := 1) hK dd_X12_who_193 (by decide) ?_
                                  refine g_iload (pc := 194) (i := 12) (x := ai) hK dd_X12_who_194 rfl ?_
                                  refine g_ishl (pc := 196) (z := jshl 1 ai) hK dd_X12_who_196 rfl ?_
                                  refine g_ior (pc := 197) (z := jor bz (jshl 1 ai)) hK dd_X12_who_197 rfl ?_
                                  refine g_istore (pc := 198) (i := 7) (L' := [(0, gR 200), (1, gI wh), (2, gI wv), (3, gI le), (4, gI an), (5, gI wy), (6, gI (re.tdiv (M 200 10))), (7, gI (jor bz (jshl 1 ai))), (8, gI sm), (9, gI hx), (10, gI 0), (11, gI t), (12, gI ai)]) hK dd_X12_who_198 (by decide) rfl ?_
                                  refine g_iload (pc := 200) (i := 8) (x := sm) hK dd_X12_who_200 rfl ?_
                                  refine g_aloadn (pc := 202) (i := 0) (x := 200) hK dd_X12_who_202 rfl rfl ?_
                                  refine g_getv (pc := 203) (f := (1, 50)) (j := 49) (v := gR 250) hK (kdm kd_200) rfl ef_12 (by decide) rfl kk_1150 dd_X12_who_203 rfl ?_
                                  refine g_iconst (pc := 206) (x := 5) hK dd_X12_who_206 (by decide) ?_
                                  refine g_iload (pc := 207) (i := 11) (x := t) hK dd_X12_who_207 rfl ?_
                                  refine g_imul (pc := 209) (z := 5 * t) hK dd_X12_who_209 rfl ?_
                                  refine g_iload (pc := 210) (i := 12) (x := ai) hK dd_X12_who_210 rfl ?_
                                  refine g_iadd (pc := 212) (z := (5 * t) + ai) hK dd_X12_who_212 rfl ?_
                                  refine g_iald (pc := 213) hK (kdm kd_250) nl_250 (by decide) dd_X12_who_213 (by omega) (by omega) (fun x45 ex45 rx45 => ?_)
                                  replace ex45 : x45 = (ltF (M 250) (lsT (M 205) (M 206) (M 207) (M 212) (M 213) (M 214) (M 216) (M 200 14) (M 226) (M 200 3).toNat) (M 200 24).toNat 0 (M 200 10).toNat) (((5 * t) + ai).toNat) := by first | exact ex45 | (rw [ex45]; simp [up, us, cp, sr])
                                  rw [show (5 * t + ai).toNat = t.toNat * 5 + ai.toNat by omega, ltF_in (by omega) (by omega) (by omega)] at ex45
                                  refine g_iadd (pc := 214) (z := sm + x45) hK dd_X12_who_214 rfl ?_
                                  refine g_istore (pc := 215) (i := 8) (L' := [(0, gR 200), (1, gI wh), (2, gI wv), (3, gI le), (4, gI an), (5, gI wy), (6, gI (re.tdiv (M 200 10))), (7, gI (jor bz (jshl 1 ai))), (8, gI (sm + x45)), (9, gI hx), (10, gI 0), (11, gI t), (12, gI ai)]) hK dd_X12_who_215 (by decide) rfl ?_
                                  refine g_iload (pc := 217) (i := 11) (x := t) hK dd_X12_who_217 rfl ?_
                                  refine g_iloadn (pc := 219) (i := 1) (x := wh) hK dd_X12_who_219 rfl rfl ?_
                                  refine g_icmp_ne (pc := 220) (tgt := 227) hK dd_X12_who_220 (by decide) ⟨by omega, by omega⟩ h_wh (fun c46 => ?_) (fun c46 => ?_)
                                  · have hws_ : wyS (lsT (M 205) (M 206) (M 207) (M 212) (M 213) (M 214) (M 216) (M 200 14) (M 226) (M 200 3).toNat) (M 200 10) wh (M 200 24).toNat wy ((M 200 24 - 1 - t).toNat + 1) = (re.tdiv (M 200 10), jor bz (jshl 1 ai), sm + x45, hx, 0) := wy_s (t := t.toNat) hwy_ (by omega) eai (by rfl) (by rfl) (by omega) (by first | (rw [if_pos (by omega)]; done) | (rw [if_neg (by omega)])) (by first | (rw [if_pos (by assumption)]; done) | (rw [if_neg (by assumption)]))
                                    refine g_iinc (pc := 227) (i := 11) (y := t - 1) (L' := [(0, gR 200), (1, gI wh), (2, gI wv), (3, gI le), (4, gI an), (5, gI wy), (6, gI (re.tdiv (M 200 10))), (7, gI (jor bz (jshl 1 ai))), (8, gI (sm + x45)), (9, gI hx), (10, gI 0), (11, gI (t - 1)), (12, gI ai)]) hK dd_X12_who_227 rfl (by omega) (by decide) rfl ?_
                                    refine g_goto (pc := 230) (tgt := 154) hK dd_X12_who_230 (by decide) ?_
                                    refine g_sub (L' := [(0, gR 200), (1, gI wh), (2, gI wv), (3, gI le), (4, gI an), (5, gI wy), (6, gI (re.tdiv (M 200 10))), (7, gI (jor bz (jshl 1 ai))), (8, gI (sm + x45)), (9, gI hx), (10, gI 0), (11, gI (t - 1))]) [0, 1, 2, 3, 4, 5, 6, 7, 8, 9, 10, 11] rfl ?_
                                    refine g_mem (M2 := sr M 250 (ltF (M 250) (lsT (M 205) (M 206) (M 207) (M 212) (M 213) (M 214) (M 216) (M 200 14) (M 226) (M 200 3).toNat) (M 200 24).toNat 0 (M 200 10).toNat)) (rfl) ?_
                                    exact ih31 (re.tdiv (M 200 10)) (jor bz (jshl 1 ai)) (sm + x45) hx 0 (t - 1) (by omega) (by rw [show (M 200 24 - 1 - (t - 1)).toNat = (M 200 24 - 1 - t).toNat + 1 by omega]; exact hws_) (by omega) (jor_in _ _) (by omega)
                                  · refine g_iload (pc := 223) (i := 12) (x := ai) hK dd_X12_who_223 rfl ?_
                                    refine g_istore (pc := 225) (i := 9) (L' := [(0, gR 200), (1, gI wh), (2, gI wv), (3, gI le), (4, gI an), (5, gI wy), (6, gI (re.tdiv (M 200 10))), (7, gI (jor bz (jshl 1 ai))), (8, gI (sm + x45)), (9, gI ai), (10, gI 0), (11, gI t), (12, gI ai)]) hK dd_X12_who_225 (by decide) rfl ?_
                                    have hws_ : wyS (lsT (M 205) (M 206) (M 207) (M 212) (M 213) (M 214) (M 216) (M 200 14) (M 226) (M 200 3).toNat) (M 200 10) wh (M 200 24).toNat wy ((M 200 24 - 1 - t).toNat + 1) = (re.tdiv (M 200 10), jor bz (jshl 1 ai), sm + x45, ai, 0) := wy_s (t := t.toNat) hwy_ (by omega) eai (by rfl) (by rfl) (by omega) (by first | (rw [if_pos (by omega)]; done) | (rw [if_neg (by omega)])) (by first | (rw [if_pos (by assumption)]; done) | (rw [if_neg (by assumption)]))
                                    refine g_iinc (pc := 227) (i := 11) (y := t - 1) (L' := [(0, gR 200), (1, gI wh), (2, gI wv), (3, gI le), (4, gI an), (5, gI wy), (6, gI (re.tdiv (M 200 10))), (7, gI (jor bz (jshl 1 ai))), (8, gI (sm + x45)), (9, gI ai), (10, gI 0), (11, gI (t - 1)), (12, gI ai)]) hK dd_X12_who_227 rfl (by omega) (by decide) rfl ?_
                                    refine g_goto (pc := 230) (tgt := 154) hK dd_X12_who_230 (by decide) ?_
                                    refine g_sub (L' := [(0, gR 200), (1, gI wh), (2, gI wv), (3, gI le), (4, gI an), (5, gI wy), (6, gI (re.tdiv (M 200 10))), (7, gI (jor bz (jshl 1 ai))), (8, gI (sm + x45)), (9, gI ai), (10, gI 0), (11, gI (t - 1))]) [0, 1, 2, 3, 4, 5, 6, 7, 8, 9, 10, 11] rfl ?_
                                    refine g_mem (M2 := sr M 250 (ltF (M 250) (lsT (M 205) (M 206) (M 207) (M 212) (M 213) (M 214) (M 216) (M 200 14) (M 226) (M 200 3).toNat) (M 200 24).toNat 0 (M 200 10).toNat)) (rfl) ?_
                                    exact ih31 (re.tdiv (M 200 10)) (jor bz (jshl 1 ai)) (sm + x45) ai 0 (t - 1) (by omega) (by rw [show (M 200 24 - 1 - (t - 1)).toNat = (M 200 24 - 1 - t).toNat + 1 by omega]; exact hws_) (by omega) (jor_in _ _) (by omega)
                                · replace c43 : ¬ (hb bz ai) := c43
                                  refine g_if_eq (pc := 185) (tgt := 191) hK dd_X12_who_185 (by decide) (by decide) (fun _ => ?_) (fun c47 => absurd (by decide) c47)
                                  refine g_iload (pc := 191) (i := 7) (x := bz) hK dd_X12_who_191 rfl ?_
                                  refine g_iconst (pc := 193) (x := 1) hK dd_X12_who_193 (by decide) ?_
                                  refine g_iload (pc := 194) (i := 12) (x := ai) hK dd_X12_who_194 rfl ?_
                                  refine g_ishl (pc := 196) (z := jshl 1 ai) hK dd_X12_who_196 rfl ?_
                                  refine g_ior (pc := 197) (z := jor bz (jshl 1 ai)) hK dd_X12_who_197 rfl ?_
                                  refine g_istore (pc := 198) (i := 7) (L' := [(0, gR 200), (1, gI wh), (2, gI wv), (3, gI le), (4, gI an), (5, gI wy), (6, gI (re.tdiv (M 200 10))), (7, gI (jor bz (jshl 1 ai))), (8, gI sm), (9, gI hx), (10, gI ca), (11, gI t), (12, gI ai)]) hK dd_X12_who_198 (by decide) rfl ?_
                                  refine g_iload (pc := 200) (i := 8) (x := sm) hK dd_X12_who_200 rfl ?_
                                  refine g_aloadn (pc := 202) (i := 0) (x := 200) hK dd_X12_who_202 rfl rfl ?_
                                  refine g_getv (pc := 203) (f := (1, 50)) (j := 49) (v := gR 250) hK (kdm kd_200) rfl ef_12 (by decide) rfl kk_1150 dd_X12_who_203 rfl ?_
                                  refine g_iconst (pc := 206) (x := 5) hK dd_X12_who_206 (by decide) ?_
                                  refine g_iload (pc := 207) (i := 11) (x := t) hK dd_X12_who_207 rfl ?_
                                  refine g_imul (pc := 209) (z := 5 * t) hK dd_X12_who_209 rfl ?_
                                  refine g_iload (pc := 210) (i := 12) (x := ai) hK dd_X12_who_210 rfl ?_
                                  refine g_iadd (pc := 212) (z := (5 * t) + ai) hK dd_X12_who_212 rfl ?_
                                  refine g_iald (pc := 213) hK (kdm kd_250) nl_250 (by decide) dd_X12_who_213 (by omega) (by omega) (fun x48 ex48 rx48 => ?_)
                                  replace ex48 : x48 = (ltF (M 250) (lsT (M 205) (M 206) (M 207) (M 212) (M 213) (M 214) (M 216) (M 200 14) (M 226) (M 200 3).toNat) (M 200 24).toNat 0 (M 200 10).toNat) (((5 * t) + ai).toNat) := by first | exact ex48 | (rw [ex48]; simp [up, us, cp, sr])
                                  rw [show (5 * t + ai).toNat = t.toNat * 5 + ai.toNat by omega, ltF_in (by omega) (by omega) (by omega)] at ex48
                                  refine g_iadd (pc := 214) (z := sm + x48) hK dd_X12_who_214 rfl ?_
                                  refine g_istore (pc := 215) (i := 8) (L' := [(0, gR 200), (1, gI wh), (2, gI wv), (3, gI le), (4, gI an), (5, gI wy), (6, gI (re.tdiv (M 200 10))), (7, gI (jor bz (jshl 1 ai))), (8, gI (sm + x48)), (9, gI hx), (10, gI ca), (11, gI t), (12, gI ai)]) hK dd_X12_who_215 (by decide) rfl ?_
                                  refine g_iload (pc := 217) (i := 11) (x := t) hK dd_X12_who_217 rfl ?_
                                  refine g_iloadn (pc := 219) (i := 1) (x := wh) hK dd_X12_who_219 rfl rfl ?_
                                  refine g_icmp_ne (pc := 220) (tgt := 227) hK dd_X12_who_220 (by decide) ⟨by omega, by omega⟩ h_wh (fun c49 => ?_) (fun c49 => ?_)
                                  · have hws_ : wyS (lsT (M 205) (M 206) (M 207) (M 212) (M 213) (M 214) (M 216) (M 200 14) (M 226) (M 200 3).toNat) (M 200 10) wh (M 200 24).toNat wy ((M 200 24 - 1 - t).toNat + 1) = (re.tdiv (M 200 10), jor bz (jshl 1 ai), sm + x48, hx, ca) := wy_s (t := t.toNat) hwy_ (by omega) eai (by rfl) (by rfl) (by omega) (by first | (rw [if_pos (by omega)]; done) | (rw [if_neg (by omega)])) (by first | (rw [if_pos (by assumption)]; done) | (rw [if_neg (by assumption)]))
                                    refine g_iinc (pc := 227) (i := 11) (y := t - 1) (L' := [(0, gR 200), (1, gI wh), (2, gI wv), (3, gI le), (4, gI an), (5, gI wy), (6, gI (re.tdiv (M 200 10))), (7, gI (jor bz (jshl 1 ai))), (8, gI (sm + x48)), (9, gI hx), (10, gI ca), (11, gI (t - 1)), (12, gI ai)]) hK dd_X12_who_227 rfl (by omega) (by decide) rfl ?_
                                    refine g_goto (pc := 230) (tgt := 154) hK dd_X12_who_230 (by decide) ?_
                                    refine g_sub (L' := [(0, gR 200), (1, gI wh), (2, gI wv), (3, gI le), (4, gI an), (5, gI wy), (6, gI (re.tdiv (M 200 10))), (7, gI (jor bz (jshl 1 ai))), (8, gI (sm + x48)), (9, gI hx), (10, gI ca), (11, gI (t - 1))]) [0, 1, 2, 3, 4, 5, 6, 7, 8, 9, 10, 11] rfl ?_
                                    refine g_mem (M2 := sr M 250 (ltF (M 250) (lsT (M 205) (M 206) (M 207) (M 212) (M 213) (M 214) (M 216) (M 200 14) (M 226) (M 200 3).toNat) (M 200 24).toNat 0 (M 200 10).toNat)) (rfl) ?_
                                    exact ih31 (re.tdiv (M 200 10)) (jor bz (jshl 1 ai)) (sm + x48) hx ca (t - 1) (by omega) (by rw [show (M 200 24 - 1 - (t - 1)).toNat = (M 200 24 - 1 - t).toNat + 1 by omega]; exact hws_) (by omega) (jor_in _ _) (by omega)
                                  · refine g_iload (pc := 223) (i := 12) (x := ai) hK dd_X12_who_223 rfl ?_
                                    refine g_istore (pc := 225) (i := 9) (L' := [(0, gR 200), (1, gI wh), (2, gI wv), (3, gI le), (4, gI an), (5, gI wy), (6, gI (re.tdiv (M 200 10))), (7, gI (jor bz (jshl 1 ai))), (8, gI (sm + x48)), (9, gI ai), (10, gI ca), (11, gI t), (12, gI ai)]) hK dd_X12_who_225 (by decide) rfl ?_
                                    have hws_ : wyS (lsT (M 205) (M 206) (M 207) (M 212) (M 213) (M 214) (M 216) (M 200 14) (M 226) (M 200 3).toNat) (M 200 10) wh (M 200 24).toNat wy ((M 200 24 - 1 - t).toNat + 1) = (re.tdiv (M 200 10), jor bz (jshl 1 ai), sm + x48, ai, ca) := wy_s (t := t.toNat) hwy_ (by omega) eai (by rfl) (by rfl) (by omega) (by first | (rw [if_pos (by omega)]; done) | (rw [if_neg (by omega)])) (by first | (rw [if_pos (by assumption)]; done) | (rw [if_neg (by assumption)]))
                                    refine g_iinc (pc := 227) (i := 11) (y := t - 1) (L' := [(0, gR 200), (1, gI wh), (2, gI wv), (3, gI le), (4, gI an), (5, gI wy), (6, gI (re.tdiv (M 200 10))), (7, gI (jor bz (jshl 1 ai))), (8, gI (sm + x48)), (9, gI ai), (10, gI ca), (11, gI (t - 1)), (12, gI ai)]) hK dd_X12_who_227 rfl (by omega) (by decide) rfl ?_
                                    refine g_goto (pc := 230) (tgt := 154) hK dd_X12_who_230 (by decide) ?_
                                    refine g_sub (L' := [(0, gR 200), (1, gI wh), (2, gI wv), (3, gI le), (4, gI an), (5, gI wy), (6, gI (re.tdiv (M 200 10))), (7, gI (jor bz (jshl 1 ai))), (8, gI (sm + x48)), (9, gI ai), (10, gI ca), (11, gI (t - 1))]) [0, 1, 2, 3, 4, 5, 6, 7, 8, 9, 10, 11] rfl ?_
                                    refine g_mem (M2 := sr M 250 (ltF (M 250) (lsT (M 205) (M 206) (M 207) (M 212) (M 213) (M 214) (M 216) (M 200 14) (M 226) (M 200 3).toNat) (M 200 24).toNat 0 (M 200 10).toNat)) (rfl) ?_
                                    exact ih31 (re.tdiv (M 200 10)) (jor bz (jshl 1 ai)) (sm + x48) ai ca (t - 1) (by omega) (by rw [show (M 200 24 - 1 - (t - 1)).toNat = (M 200 24 - 1 - t).toNat + 1 by omega]; exact hws_) (by omega) (jor_in _ _) (by omega)
                          refine g_mem (M2 := sr M 250 (ltF (M 250) (lsT (M 205) (M 206) (M 207) (M 212) (M 213) (M 214) (M 216) (M 200 14) (M 226) (M 200 3).toNat) (M 200 24).toNat 0 (M 200 10).toNat)) (rfl) ?_
                          refine g_sub (L' := [(0, gR 200), (1, gI wh), (2, gI wv), (3, gI le), (4, gI an), (5, gI wy), (6, gI wy), (7, gI 0), (8, gI 0), (9, gI (-1)), (10, gI 1), (11, gI ((M 200 24) - 1))]) [0, 1, 2, 3, 4, 5, 6, 7, 8, 9, 10, 11] rfl ?_
                          exact lp32 _ wy 0 0 (-1) 1 ((M 200 24) - 1) (by omega) (by rw [show (M 200 24 - 1 - (M 200 24 - 1)).toNat = 0 by omega]; rfl) (by omega) (⟨by decide, by decide⟩) (Nat.lt_succ_self _)
                    refine g_mem (M2 := sr M 250 (ltF (M 250) (lsT (M 205) (M 206) (M 207) (M 212) (M 213) (M 214) (M 216) (M 200 14) (M 226) (M 200 3).toNat) (M 200 24).toNat 0 (M 200 10).toNat)) (rfl) ?_
                    refine g_sub (L' := [(0, gR 200), (1, gI wh), (2, gI wv), (3, gI (-1)), (4, gI (-1)), (5, gI 0)]) [0, 1, 2, 3, 4, 5] rfl ?_
                    exact lp23 _ (-1) (-1) 0 (by omega) (rfl) (by omega) (Nat.lt_succ_self _)
                  · refine g_iloadn (pc := 103) (i := 2) (x := wv) hK dd_X12_who_103 rfl rfl ?_
                    refine g_aloadn (pc := 104) (i := 0) (x := 200) hK dd_X12_who_104 rfl rfl ?_
                    refine g_geti (pc := 105) (f := (0, 0)) (j := 10) hK (kdm kd_200) rfl ef_12 (by decide) rfl kk_1111 nl_200 dd_X12_who_105 rfl (fun x50 ex50 rx50 => ?_)
                    replace ex50 : x50 = M 200 10 := ex50
                    refine g_topv (v := gI (M 200 10)) (by rw [ex50]) ?_
                    refine g_imul (pc := 108) (z := wv * (M 200 10)) hK dd_X12_who_108 rfl ?_
                    refine g_istoren (pc := 109) (i := 2) (L' := [(0, gR 200), (1, gI wh), (2, gI (wv * (M 200 10))), (3, gI t)]) hK dd_X12_who_109 rfl (by decide) rfl ?_
                    refine g_iinc (pc := 110) (i := 3) (y := t + 1) (L' := [(0, gR 200), (1, gI wh), (2, gI (wv * (M 200 10))), (3, gI (t + 1))]) hK dd_X12_who_110 rfl rfl (by decide) rfl ?_
                    refine g_goto (pc := 113) (tgt := 95) hK dd_X12_who_113 (by decide) ?_
                    refine g_sub (L' := [(0, gR 200), (1, gI wh), (2, gI (wv * (M 200 10))), (3, gI (t + 1))]) [0, 1, 2, 3] rfl ?_
                    refine g_mem (M2 := sr M 250 (ltF (M 250) (lsT (M 205) (M 206) (M 207) (M 212) (M 213) (M 214) (M 216) (M 200 14) (M 226) (M 200 3).toNat) (M 200 24).toNat 0 (M 200 10).toNat)) (rfl) ?_
                    exact ih15 (wv * (M 200 10)) (t + 1) (by omega) (by rw [tn1 (t := t) (by omega), pwI, ← hwv_]) (by omega)
              refine g_mem (M2 := sr M 250 (ltF (M 250) (lsT (M 205) (M 206) (M 207) (M 212) (M 213) (M 214) (M 216) (M 200 14) (M 226) (M 200 3).toNat) (M 200 24).toNat 0 (M 200 10).toNat)) (by rw [show t.toNat = (M 200 24).toNat by omega]) ?_
              refine g_sub (L' := [(0, gR 200), (1, gI wh), (2, gI 1), (3, gI 0)]) [0, 1, 2, 3] rfl ?_
              exact lp16 _ 1 0 (by omega) (rfl) (Nat.lt_succ_self _)
            · refine g_iconst (pc := 48) (x := 0) hK dd_X12_who_48 (by decide) ?_
              refine g_istoren (pc := 49) (i := 3) (L' := [(0, gR 200), (1, gI wh), (2, gI t), (3, gI 0)]) hK dd_X12_who_49 rfl (by decide) rfl ?_
              have lp53 : ∀ (n51 : Nat) (a : Int), (0 ≤ a ∧ a ≤ M 200 10) → (M 200 10 - a).toNat < n51 → G p l e (rmD 7) s m args below meth c D cy q A 0 0 13 (MQ below (gQc D cy q A Pq) args s 0 0 A) 50 [(0, gR 200), (1, gI wh), (2, gI t), (3, gI a)] [] (sr M 250 (ltF (M 250) (lsT (M 205) (M 206) (M 207) (M 212) (M 213) (M 214) (M 216) (M 200 14) (M 226) (M 200 3).toNat) t.toNat a.toNat (M 200 10).toNat)) := by
                intro n51
                induction n51 with
                | zero => intro a iv54 hm55; exact absurd hm55 (Nat.not_lt_zero _)
                | succ n51 ih52 =>
                  intro a iv54 hm55
                  refine g_iloadn (pc := 50) (i := 3) (x := a) hK dd_X12_who_50 rfl rfl ?_
                  refine g_aloadn (pc := 51) (i := 0) (x := 200) hK dd_X12_who_51 rfl rfl ?_
                  skip
                  refine g_geti (pc := 52) (f := (0, 0)) (j := 10) hK (kdm kd_200) rfl ef_12 (by decide) rfl kk_1111 nl_200 dd_X12_who_52 rfl (fun x56 ex56 rx56 => ?_)
                  replace ex56 : x56 = M 200 10 := ex56
                  refine g_icmp_ge (pc := 55) (tgt := 85) hK dd_X12_who_55 (by decide) ⟨by omega, by omega⟩ rx56 (fun c57 => ?_) (fun c57 => ?_)
                  · refine g_iinc (pc := 85) (i := 2) (y := t + 1) (L' := [(0, gR 200), (1, gI wh), (2, gI (t + 1)), (3, gI a)]) hK dd_X12_who_85 rfl rfl (by decide) rfl ?_
                    refine g_goto (pc := 88) (tgt := 40) hK dd_X12_who_88 (by decide) ?_
                    refine g_sub (L' := [(0, gR 200), (1, gI wh), (2, gI (t + 1))]) [0, 1, 2] rfl ?_
                    refine g_mem (M2 := sr M 250 (ltF (M 250) (lsT (M 205) (M 206) (M 207) (M 212) (M 213) (M 214) (M 216) (M 200 14) (M 226) (M 200 3).toNat) (t + 1).toNat 0 (M 200 10).toNat)) (by rw [tn1 (t := t) (by omega), show a.toNat = (M 200 10).toNat by omega, ltF_r]) ?_
                    exact ih8 (t + 1) (by omega) (by omega)
                  · refine g_aloadn (pc := 58) (i := 0) (x := 200) hK dd_X12_who_58 rfl rfl ?_
                    refine g_getv (pc := 59) (f := (1, 50)) (j := 49) (v := gR 250) hK (kdm kd_200) rfl ef_12 (by decide) rfl kk_1150 dd_X12_who_59 rfl ?_
                    refine g_iconst (pc := 62) (x := 5) hK dd_X12_who_62 (by decide) ?_
                    refine g_iloadn (pc := 63) (i := 2) (x := t) hK dd_X12_who_63 rfl rfl ?_
                    refine g_imul (pc := 64) (z := 5 * t) hK dd_X12_who_64 rfl ?_
                    refine g_iloadn (pc := 65) (i := 3) (x := a) hK dd_X12_who_65 rfl rfl ?_
                    refine g_iadd (pc := 66) (z := (5 * t) + a) hK dd_X12_who_66 rfl ?_
                    refine g_aloadn (pc := 67) (i := 0) (x := 200) hK dd_X12_who_67 rfl rfl ?_
                    refine g_iloadn (pc := 68) (i := 3) (x := a) hK dd_X12_who_68 rfl rfl ?_
                    refine g_aloadn (pc := 69) (i := 0) (x := 200) hK dd_X12_who_69 rfl rfl ?_
                    refine g_getv (pc := 70) (f := (1, 26)) (j := 25) (v := gR 226) hK (kdm kd_200) rfl ef_12 (by decide) rfl kk_1126 dd_X12_who_70 rfl ?_
                    refine g_iloadn (pc := 73) (i := 2) (x := t) hK dd_X12_who_73 rfl rfl ?_
                    refine g_iald (pc := 74) hK (kdm kd_226) nl_226 (by decide) dd_X12_who_74 (by omega) (by omega) (fun x58 ex58 rx58 => ?_)
                    replace ex58 : x58 = M 226 t.toNat := ex58
                    skip
                    refine g_callV (pc := 75) (As := [gI a, gI x58]) hK ws_M_267 md_X12_lostOver ⟨Nat.zero_le _, Nat.zero_le _⟩ ⟨by decide, by decide⟩ (kdm kd_200) rfl rfl dd_X12_who_75 rfl rfl (Nat.le_of_ble_eq_true rfl) (d_lostOver a x58 (by omega) (show a < M 200 10 by omega) hmc hmlc hmwc hthm hlam hlwm (g_r1 ?_))
                    refine g_topI (fun y59 ey59 => ?_)
                    replace ey59 : y59 = losK (M 205) (M 206) (M 207) (M 212 a.toNat) (M 213 a.toNat) (M 214 a.toNat) (M 216) (M 200 14) x58 (M 200 3).toNat := ey59
                    have hix_ : (5 * t + a).toNat = t.toNat * 5 + a.toNat := by omega
                    have hly_ := hls_ t.toNat a.toNat (by omega)
                    unfold lsT at hly_
                    rw [← ex58] at hly_
                    refine g_iast (pc := 78) hK (kdm kd_250) nl_250 (by decide) (by decide) dd_X12_who_78 (by omega) (by omega) ⟨by omega, by omega⟩ ?_
                    refine g_iinc (pc := 79) (i := 3) (y := a + 1) (L' := [(0, gR 200), (1, gI wh), (2, gI t), (3, gI (a + 1))]) hK dd_X12_who_79 rfl rfl (by decide) rfl ?_
                    refine g_goto (pc := 82) (tgt := 50) hK dd_X12_who_82 (by decide) ?_
                    refine g_sub (L' := [(0, gR 200), (1, gI wh), (2, gI t), (3, gI (a + 1))]) [0, 1, 2, 3] rfl ?_
                    refine g_mem (M2 := sr M 250 (ltF (M 250) (lsT (M 205) (M 206) (M 207) (M 212) (M 213) (M 214) (M 216) (M 200 14) (M 226) (M 200 3).toNat) t.toNat (a + 1).toNat (M 200 10).toNat)) (by rw [tn1 (t := a) (by omega), ← ltF_s (by omega) (by omega), ← hix_]; subst_vars; simp (disch := decide) only [Int.reduceToNat, up_sr, sr_cp, sr_k, sr_o, sr_sr, us_us]; try rfl) ?_
                    exact ih52 (a + 1) (by omega) (by omega)
              refine g_mem (M2 := sr M 250 (ltF (M 250) (lsT (M 205) (M 206) (M 207) (M 212) (M 213) (M 214) (M 216) (M 200 14) (M 226) (M 200 3).toNat) t.toNat (0 : Int).toNat (M 200 10).toNat)) (rfl) ?_
              refine g_sub (L' := [(0, gR 200), (1, gI wh), (2, gI t), (3, gI 0)]) [0, 1, 2, 3] rfl ?_
              exact lp53 _ 0 (by omega) (Nat.lt_succ_self _)
        refine g_mem (M2 := sr M 250 (ltF (M 250) (lsT (M 205) (M 206) (M 207) (M 212) (M 213) (M 214) (M 216) (M 200 14) (M 226) (M 200 3).toNat) (0 : Int).toNat 0 (M 200 10).toNat)) (by show M = sr M 250 (ltF (M 250) _ 0 0 _); rw [ltF_0]; exact sr_self.symm) ?_
        refine g_sub (L' := [(0, gR 200), (1, gI wh), (2, gI 0)]) [0, 1, 2] rfl ?_
        exact lp9 _ 0 (by omega) (Nat.lt_succ_self _)
      · refine g_aloadn (pc := 31) (i := 0) (x := 200) hK dd_X12_who_31 rfl rfl ?_
        refine g_bipush (pc := 32) (x := (-5)) hK dd_X12_who_32 (by decide) ?_
        refine g_callV (pc := 34) (As := [gI (-5)]) hK ws_M_152 md_X12_no ⟨Nat.zero_le _, Nat.zero_le _⟩ ⟨by decide, by decide⟩ (kdm kd_200) rfl rfl dd_X12_who_34 rfl rfl (Nat.le_of_ble_eq_true rfl) (d_no_5 hrg (g_r1 ?_))
        refine g_iret (pc := 37) hK hr hlocks dd_X12_who_37 rfl ?_
        first | exact g_fin (hS (by first | omega | (subst_vars; omega) | exact ⟨by first | assumption | omega | (subst_vars; first | assumption | omega), by first | assumption | omega | (subst_vars; first | assumption | omega)⟩)) (by first | rfl | omega | (subst_vars; first | rfl | omega)) (by first | rfl | (subst_vars; rfl)) | exact g_fin (hA (by first | omega | (subst_vars; omega) | exact ⟨by first | assumption | omega | (subst_vars; first | assumption | omega), by first | assumption | omega | (subst_vars; first | assumption | omega)⟩)) (by rw [hfe_]) (by first | rfl | (subst_vars; rfl)) | exact g_fin (hY (by first | omega | (subst_vars; omega) | exact ⟨by first | assumption | omega | (subst_vars; first | assumption | omega), by first | assumption | omega | (subst_vars; first | assumption | omega)⟩)) (by rw [hfe_]) (by first | rfl | (subst_vars; rfl)) | (exfalso; omega)
    · refine g_aloadn (pc := 13) (i := 0) (x := 200) hK dd_X12_who_13 rfl rfl ?_
      refine g_bipush (pc := 14) (x := (-2)) hK dd_X12_who_14 (by decide) ?_
      refine g_callV (pc := 16) (As := [gI (-2)]) hK ws_M_152 md_X12_no ⟨Nat.zero_le _, Nat.zero_le _⟩ ⟨by decide, by decide⟩ (kdm kd_200) rfl rfl dd_X12_who_16 rfl rfl (Nat.le_of_ble_eq_true rfl) (d_no_2 hrg (g_r1 ?_))
      refine g_iret (pc := 19) hK hr hlocks dd_X12_who_19 rfl ?_
      first | exact g_fin (hB (by first | omega | (subst_vars; omega) | exact ⟨by first | assumption | omega | (subst_vars; first | assumption | omega), by first | assumption | omega | (subst_vars; first | assumption | omega)⟩)) (by first | rfl | omega | (subst_vars; first | rfl | omega)) (by first | rfl | (subst_vars; rfl)) | exact g_fin (hA (by first | omega | (subst_vars; omega) | exact ⟨by first | assumption | omega | (subst_vars; first | assumption | omega), by first | assumption | omega | (subst_vars; first | assumption | omega)⟩)) (by rw [hfe_]) (by first | rfl | (subst_vars; rfl)) | exact g_fin (hY (by first | omega | (subst_vars; omega) | exact ⟨by first | assumption | omega | (subst_vars; first | assumption | omega), by first | assumption | omega | (subst_vars; first | assumption | omega)⟩)) (by rw [hfe_]) (by first | rfl | (subst_vars; rfl)) | (exfalso; omega)
