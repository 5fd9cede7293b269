set_option maxHeartbeats 4000000 in
set_option maxRecDepth 100000 in
theorem y_shown {l : Launch} {M : Mem} {Pq : Option gV → Mem → Prop} (mi : Int) (h_mi : inI mi) (hrg : rgOK M) (hmc : 0 ≤ M 200 3 ∧ M 200 3 ≤ 30) (hthm : thOKm M) (hB : (¬ (0 ≤ mi ∧ mi ≤ 200)) → Pq (some (gI (-2))) (rg M 2)) (hY : (0 ≤ mi ∧ mi ≤ 200) → Pq (some (gI ((bkW (gB (M 208) (M 209) (M 205) (TWf (M 205) (M 206) (M 207))) (fun j => 2 + M 205 j) (M 200 3).toNat (0, mi)).1))) (sr M 243 (bwF (M 243) (gB (M 208) (M 209) (M 205) (TWf (M 205) (M 206) (M 207))) mi.toNat ((M 200 3).toNat + 1) 0))) : gCtr l my_X12_shown mb_X12_shown 8 ((some .int)) 4 [gR 200, gI mi] M Pq := by
  refine g_intro (by decide) (Nat.le_of_ble_eq_true rfl) ?_
  intro p e s m args below meth c D cy q A hK hr hlocks hw
  refine g_sub (L' := [(0, gR 200), (1, gI mi)]) [0, 1] rfl ?_
  refine g_iloadn (pc := 0) (i := 1) (x := mi) hK dd_X12_shown_0 rfl rfl ?_
  refine g_if_lt (pc := 1) (tgt := 11) hK dd_X12_shown_1 (by decide) h_mi (fun c1 => ?_) (fun c1 => ?_)
  · refine g_aloadn (pc := 11) (i := 0) (x := 200) hK dd_X12_shown_11 rfl rfl ?_
    refine g_bipush (pc := 12) (x := (-2)) hK dd_X12_shown_12 (by decide) ?_
    refine g_callV (pc := 14) (As := [gI (-2)]) hK ws_M_152 md_X12_no ⟨Nat.zero_le _, Nat.zero_le _⟩ ⟨by decide, by decide⟩ (kdm kd_200) rfl rfl dd_X12_shown_14 rfl rfl (Nat.le_of_ble_eq_true rfl) (d_no_2 hrg (g_r1 ?_))
    refine g_iret (pc := 17) hK hr hlocks dd_X12_shown_17 rfl ?_
    exact g_fin (hB (by first | omega | (subst_vars; omega) | exact ⟨by first | assumption | omega | (subst_vars; first | assumption | omega), by first | assumption | omega | (subst_vars; first | assumption | omega)⟩)) (by first | rfl | omega | (subst_vars; first | rfl | omega)) (by first | rfl | (subst_vars; rfl))
  · refine g_iloadn (pc := 4) (i := 1) (x := mi) hK dd_X12_shown_4 rfl rfl ?_
    refine g_sipush (pc := 5) (x := 200) hK dd_X12_shown_5 (by decide) ?_
    refine g_icmp_le (pc := 8) (tgt := 18) hK dd_X12_shown_8 (by decide) h_mi (by decide) (fun c2 => ?_) (fun c2 => ?_)
    · refine g_iconst (pc := 18) (x := 0) hK dd_X12_shown_18 (by decide) ?_
      refine g_istoren (pc := 19) (i := 2) (L' := [(0, gR 200), (1, gI mi), (2, gI 0)]) hK dd_X12_shown_19 rfl (by decide) rfl ?_
      have lp5 : ∀ (n3 : Nat) (mx : Int), (0 ≤ mx ∧ mx ≤ mi + 1) → (mi + 1 - mx).toNat < n3 → G p l e (rmD 4) s m args below meth c D cy q A 0 0 8 (MQ below (gQc D cy q A Pq) args s 0 0 A) 20 [(0, gR 200), (1, gI mi), (2, gI mx)] [] (sr M 243 (bwF (M 243) (gB (M 208) (M 209) (M 205) (TWf (M 205) (M 206) (M 207))) mi.toNat 0 mx.toNat)) := by
        intro n3
        induction n3 with
        | zero => intro mx iv6 hm7; exact absurd hm7 (Nat.not_lt_zero _)
        | succ n3 ih4 =>
          intro mx iv6 hm7
          refine g_iloadn (pc := 20) (i := 2) (x := mx) hK dd_X12_shown_20 rfl rfl ?_
          refine g_iloadn (pc := 21) (i := 1) (x := mi) hK dd_X12_shown_21 rfl rfl ?_
          refine g_icmp_gt (pc := 22) (tgt := 38) hK dd_X12_shown_22 (by decide) ⟨by omega, by omega⟩ h_mi (fun c8 => ?_) (fun c8 => ?_)
          · refine g_iconst (pc := 38) (x := 0) hK dd_X12_shown_38 (by decide) ?_
            refine g_istoren (pc := 39) (i := 2) (L' := [(0, gR 200), (1, gI mi), (2, gI 0)]) hK dd_X12_shown_39 rfl (by decide) rfl ?_
            have lp11 : ∀ (n9 : Nat) (t : Int), (0 ≤ t ∧ t ≤ M 200 3) → (M 200 3 - t).toNat < n9 → G p l e (rmD 4) s m args below meth c D cy q A 0 0 8 (MQ below (gQc D cy q A Pq) args s 0 0 A) 40 [(0, gR 200), (1, gI mi), (2, gI t)] [] (sr M 243 (bwF (M 243) (gB (M 208) (M 209) (M 205) (TWf (M 205) (M 206) (M 207))) mi.toNat (t.toNat + 1) 0)) := by
              intro n9
              induction n9 with
              | zero => intro t iv12 hm13; exact absurd hm13 (Nat.not_lt_zero _)
              | succ n9 ih10 =>
                intro t iv12 hm13
                refine g_iloadn (pc := 40) (i := 2) (x := t) hK dd_X12_shown_40 rfl rfl ?_
                refine g_aloadn (pc := 41) (i := 0) (x := 200) hK dd_X12_shown_41 rfl rfl ?_
                refine g_geti (pc := 42) (f := (0, 0)) (j := 3) hK (kdm kd_200) rfl ef_12 (by decide) rfl kk_1104 nl_200 dd_X12_shown_42 rfl (fun x14 ex14 rx14 => ?_)
                replace ex14 : x14 = M 200 3 := ex14
                refine g_icmp_ge (pc := 45) (tgt := 193) hK dd_X12_shown_45 (by decide) ⟨by omega, by omega⟩ rx14 (fun c15 => ?_) (fun c15 => ?_)
                · refine g_iconst (pc := 193) (x := 0) hK dd_X12_shown_193 (by decide) ?_
                  refine g_istoren (pc := 194) (i := 2) (L' := [(0, gR 200), (1, gI mi), (2, gI 0)]) hK dd_X12_shown_194 rfl (by decide) rfl ?_
                  refine g_iloadn (pc := 195) (i := 1) (x := mi) hK dd_X12_shown_195 rfl rfl ?_
                  refine g_istoren (pc := 196) (i := 3) (L' := [(0, gR 200), (1, gI mi), (2, gI 0), (3, gI mi)]) hK dd_X12_shown_196 rfl (by decide) rfl ?_
                  refine g_aloadn (pc := 197) (i := 0) (x := 200) hK dd_X12_shown_197 rfl rfl ?_
                  refine g_geti (pc := 198) (f := (0, 0)) (j := 3) hK (kdm kd_200) rfl ef_12 (by decide) rfl kk_1104 nl_200 dd_X12_shown_198 rfl (fun x16 ex16 rx16 => ?_)
                  replace ex16 : x16 = M 200 3 := ex16
                  refine g_topv (v := gI (M 200 3)) (by rw [ex16]) ?_
                  refine g_iconst (pc := 201) (x := 1) hK dd_X12_shown_201 (by decide) ?_
                  refine g_isub (pc := 202) (z := (M 200 3) - 1) hK dd_X12_shown_202 rfl ?_
                  refine g_istore (pc := 203) (i := 4) (L' := [(0, gR 200), (1, gI mi), (2, gI 0), (3, gI mi), (4, gI ((M 200 3) - 1))]) hK dd_X12_shown_203 (by decide) rfl ?_
                  have lp19 : ∀ (n17 : Nat) (sv : Int) (lf : Int) (t : Int), (-1 ≤ t ∧ t < M 200 3) → (0 ≤ lf ∧ lf ≤ mi) → (bkW (gB (M 208) (M 209) (M 205) (TWf (M 205) (M 206) (M 207))) (fun j => 2 + M 205 j) (M 200 3).toNat (0, mi) = bkW (gB (M 208) (M 209) (M 205) (TWf (M 205) (M 206) (M 207))) (fun j => 2 + M 205 j) (t + 1).toNat (sv, lf)) → (t + 1).toNat < n17 → G p l e (rmD 4) s m args below meth c D cy q A 0 0 8 (MQ below (gQc D cy q A Pq) args s 0 0 A) 205 [(0, gR 200), (1, gI mi), (2, gI sv), (3, gI lf), (4, gI t)] [] (sr M 243 (bwF (M 243) (gB (M 208) (M 209) (M 205) (TWf (M 205) (M 206) (M 207))) mi.toNat ((M 200 3).toNat + 1) 0)) := by
                    intro n17
                    induction n17 with
                    | zero => intro sv lf t iv20 iv21 hbk_ hm22; exact absurd hm22 (Nat.not_lt_zero _)
                    | succ n17 ih18 =>
                      intro sv lf t iv20 iv21 hbk_ hm22
                      refine g_iload (pc := 205) (i := 4) (x := t) hK dd_X12_shown_205 rfl ?_
                      refine g_if_lt (pc := 207) (tgt := 269) hK dd_X12_shown_207 (by decide) ⟨by omega, by omega⟩ (fun c23 => ?_) (fun c23 => ?_)
                      · refine g_iloadn (pc := 269) (i := 2) (x := sv) hK dd_X12_shown_269 rfl rfl ?_
                        refine g_iret (pc := 270) hK hr hlocks dd_X12_shown_270 rfl ?_
                        exact g_fin (hY (by first | omega | (subst_vars; omega) | exact ⟨by first | assumption | omega | (subst_vars; first | assumption | omega), by first | assumption | omega | (subst_vars; first | assumption | omega)⟩)) (by rw [hbk_, show (t + 1).toNat = 0 by omega]; rfl) (by first | rfl | (subst_vars; rfl))
                      · have hv1_ := gB_in (P := M 208) (B := M 209) (K := M 205) (T := (TWf (M 205) (M 206) (M 207))) (fun j hj => (hthm j hj).2.2.2.1) (TWm_in hthm) (t.toNat + 1) lf.toNat (by omega)
                        have hv2_ := gB_in (P := M 208) (B := M 209) (K := M 205) (T := (TWf (M 205) (M 206) (M 207))) (fun j hj => (hthm j hj).2.2.2.1) (TWm_in hthm) t.toNat lf.toNat (by omega)
                        refine g_aloadn (pc := 210) (i := 0) (x := 200) hK dd_X12_shown_210 rfl rfl ?_
                        refine g_getv (pc := 211) (f := (1, 43)) (j := 42) (v := gR 243) hK (kdm kd_200) rfl ef_12 (by decide) rfl kk_1143 dd_X12_shown_211 rfl ?_
                        refine g_sipush (pc := 214) (x := 201) hK dd_X12_shown_214 (by decide) ?_
                        refine g_iload (pc := 217) (i := 4) (x := t) hK dd_X12_shown_217 rfl ?_
                        refine g_iconst (pc := 219) (x := 1) hK dd_X12_shown_219 (by decide) ?_
                        refine g_iadd (pc := 220) (z := t + 1) hK dd_X12_shown_220 rfl ?_
                        refine g_imul (pc := 221) (z := 201 * (t + 1)) hK dd_X12_shown_221 rfl ?_
                        refine g_iloadn (pc := 222) (i := 3) (x := lf) hK dd_X12_shown_222 rfl rfl ?_
                        refine g_iadd (pc := 223) (z := (201 * (t + 1)) + lf) hK dd_X12_shown_223 rfl ?_
                        refine g_iald (pc := 224) hK (kdm kd_243) nl_243 (by decide) dd_X12_shown_224 (by omega) (by omega) (fun x24 ex24 rx24 => ?_)
                        replace ex24 : x24 = (bwF (M 243) (gB (M 208) (M 209) (M 205) (TWf (M 205) (M 206) (M 207))) mi.toNat ((M 200 3).toNat + 1) 0) (((201 * (t + 1)) + lf).toNat) := by first | exact ex24 | (rw [ex24]; simp [up, us, cp, sr])
                        rw [show (201 * (t + 1) + lf).toNat = 201 * (t.toNat + 1) + lf.toNat by omega, bwF_at (by omega) (by omega) (Or.inl (by omega))] at ex24
                        refine g_aloadn (pc := 225) (i := 0) (x := 200) hK dd_X12_shown_225 rfl rfl ?_
                        refine g_getv (pc := 226) (f := (1, 43)) (j := 42) (v := gR 243) hK (kdm kd_200) rfl ef_12 (by decide) rfl kk_1143 dd_X12_shown_226 rfl ?_
                        refine g_sipush (pc := 229) (x := 201) hK dd_X12_shown_229 (by decide) ?_
                        refine g_iload (pc := 232) (i := 4) (x := t) hK dd_X12_shown_232 rfl ?_
                        refine g_imul (pc := 234) (z := 201 * t) hK dd_X12_shown_234 rfl ?_
                        refine g_iloadn (pc := 235) (i := 3) (x := lf) hK dd_X12_shown_235 rfl rfl ?_
                        refine g_iadd (pc := 236) (z := (201 * t) + lf) hK dd_X12_shown_236 rfl ?_
                        refine g_iald (pc := 237) hK (kdm kd_243) nl_243 (by decide) dd_X12_shown_237 (by omega) (by omega) (fun x25 ex25 rx25 => ?_)
                        replace ex25 : x25 = (bwF (M 243) (gB (M 208) (M 209) (M 205) (TWf (M 205) (M 206) (M 207))) mi.toNat ((M 200 3).toNat + 1) 0) (((201 * t) + lf).toNat) := by first | exact ex25 | (rw [ex25]; simp [up, us, cp, sr])
                        rw [show (201 * t + lf).toNat = 201 * t.toNat + lf.toNat by omega, bwF_at (by omega) (by omega) (Or.inl (by omega))] at ex25
                        refine g_icmp_ne (pc := 238) (tgt := 244) hK dd_X12_shown_238 (by decide) rx24 rx25 (fun c26 => ?_) (fun c26 => ?_)
                        · have hne_ : ¬ (gB (M 208) (M 209) (M 205) (TWf (M 205) (M 206) (M 207))) (t.toNat + 1) lf.toNat = (gB (M 208) (M 209) (M 205) (TWf (M 205) (M 206) (M 207))) t.toNat lf.toNat := by omega
                          have hge_ := gB_eq hne_ hv2_.1
                          have hkt_ := (hthm t.toNat (by omega)).1
                          refine g_iloadn (pc := 244) (i := 2) (x := sv) hK dd_X12_shown_244 rfl rfl ?_
                          refine g_iconst (pc := 245) (x := 1) hK dd_X12_shown_245 (by decide) ?_
                          refine g_iload (pc := 246) (i := 4) (x := t) hK dd_X12_shown_246 rfl ?_
                          refine g_ishl (pc := 248) (z := jshl 1 t) hK dd_X12_shown_248 rfl ?_
                          refine g_ior (pc := 249) (z := jor sv (jshl 1 t)) hK dd_X12_shown_249 rfl ?_
                          refine g_istoren (pc := 250) (i := 2) (L' := [(0, gR 200), (1, gI mi), (2, gI (jor sv (jshl 1 t))), (3, gI lf), (4, gI t)]) hK dd_X12_shown_250 rfl (by decide) rfl ?_
                          refine g_iloadn (pc := 251) (i := 3) (x := lf) hK dd_X12_shown_251 rfl rfl ?_
                          refine g_iconst (pc := 252) (x := 2) hK dd_X12_shown_252 (by decide) ?_
                          refine g_aloadn (pc := 253) (i := 0) (x := 200) hK dd_X12_shown_253 rfl rfl ?_
                          refine g_getv (pc := 254) (f := (1, 5)) (j := 4) (v := gR 205) hK (kdm kd_200) rfl ef_12 (by decide) rfl kk_1105 dd_X12_shown_254 rfl ?_
                          refine g_iload (pc := 257) (i := 4) (x := t) hK dd_X12_shown_257 rfl ?_
                          refine g_iald (pc := 259) hK (kdm kd_205) nl_205 (by decide) dd_X12_shown_259 (by omega) (by omega) (fun x27 ex27 rx27 => ?_)
                          replace ex27 : x27 = M 205 t.toNat := ex27
                          refine g_iadd (pc := 260) (z := 2 + x27) hK dd_X12_shown_260 rfl ?_
                          refine g_isub (pc := 261) (z := lf - (2 + x27)) hK dd_X12_shown_261 rfl ?_
                          refine g_istoren (pc := 262) (i := 3) (L' := [(0, gR 200), (1, gI mi), (2, gI (jor sv (jshl 1 t))), (3, gI (lf - (2 + x27))), (4, gI t)]) hK dd_X12_shown_262 rfl (by decide) rfl ?_
                          refine g_iinc (pc := 263) (i := 4) (y := t - 1) (L' := [(0, gR 200), (1, gI mi), (2, gI (jor sv (jshl 1 t))), (3, gI (lf - (2 + x27))), (4, gI (t - 1))]) hK dd_X12_shown_263 rfl (by omega) (by decide) rfl ?_
                          refine g_goto (pc := 266) (tgt := 205) hK dd_X12_shown_266 (by decide) ?_
                          refine g_sub (L' := [(0, gR 200), (1, gI mi), (2, gI (jor sv (jshl 1 t))), (3, gI (lf - (2 + x27))), (4, gI (t - 1))]) [0, 1, 2, 3, 4] rfl ?_
                          refine g_mem (M2 := sr M 243 (bwF (M 243) (gB (M 208) (M 209) (M 205) (TWf (M 205) (M 206) (M 207))) mi.toNat ((M 200 3).toNat + 1) 0)) (rfl) ?_
                          exact ih18 (jor sv (jshl 1 t)) (lf - (2 + x27)) (t - 1) (by omega) (by omega) (by rw [hbk_, show (t - 1 + 1).toNat = t.toNat by omega, show (t + 1).toNat = t.toNat + 1 by omega]; first | exact bk_y heq_ | (rw [bk_n hne_, show ((t.toNat : Nat) : Int) = t by omega]; subst_vars; rfl)) (by omega)
                        · have heq_ : (gB (M 208) (M 209) (M 205) (TWf (M 205) (M 206) (M 207))) (t.toNat + 1) lf.toNat = (gB (M 208) (M 209) (M 205) (TWf (M 205) (M 206) (M 207))) t.toNat lf.toNat := by omega
                          refine g_goto (pc := 241) (tgt := 263) hK dd_X12_shown_241 (by decide) ?_
                          refine g_iinc (pc := 263) (i := 4) (y := t - 1) (L' := [(0, gR 200), (1, gI mi), (2, gI sv), (3, gI lf), (4, gI (t - 1))]) hK dd_X12_shown_263 rfl (by omega) (by decide) rfl ?_
                          refine g_goto (pc := 266) (tgt := 205) hK dd_X12_shown_266 (by decide) ?_
                          refine g_sub (L' := [(0, gR 200), (1, gI mi), (2, gI sv), (3, gI lf), (4, gI (t - 1))]) [0, 1, 2, 3, 4] rfl ?_
                          refine g_mem (M2 := sr M 243 (bwF (M 243) (gB (M 208) (M 209) (M 205) (TWf (M 205) (M 206) (M 207))) mi.toNat ((M 200 3).toNat + 1) 0)) (rfl) ?_
                          exact ih18 sv lf (t - 1) (by omega) (by omega) (by rw [hbk_, show (t - 1 + 1).toNat = t.toNat by omega, show (t + 1).toNat = t.toNat + 1 by omega]; first | exact bk_y heq_ | (rw [bk_n hne_, show ((t.toNat : Nat) : Int) = t by omega]; subst_vars; rfl)) (by omega)
                  refine g_mem (M2 := sr M 243 (bwF (M 243) (gB (M 208) (M 209) (M 205) (TWf (M 205) (M 206) (M 207))) mi.toNat ((M 200 3).toNat + 1) 0)) (by rw [show t.toNat = (M 200 3).toNat by omega]) ?_
                  refine g_sub (L' := [(0, gR 200), (1, gI mi), (2, gI 0), (3, gI mi), (4, gI ((M 200 3) - 1))]) [0, 1, 2, 3, 4] rfl ?_
                  exact lp19 _ 0 mi ((M 200 3) - 1) (by omega) (by omega) (by rw [show (M 200 3 - 1 + 1).toNat = (M 200 3).toNat by omega]) (Nat.lt_succ_self _)
                · have htt := hthm t.toNat (by omega)
                  have htw := TW_in (M 205 t.toNat) (M 207 t.toNat) htt.2.1.1 htt.2.1.2
                  refine g_aloadn (pc := 48) (i := 0) (x := 200) hK dd_X12_shown_48 rfl rfl ?_
                  refine g_getv (pc := 49) (f := (1, 8)) (j := 7) (v := gR 208) hK (kdm kd_200) rfl ef_12 (by decide) rfl kk_1108 dd_X12_shown_49 rfl ?_
                  refine g_iloadn (pc := 52) (i := 2) (x := t) hK dd_X12_shown_52 rfl rfl ?_
                  refine g_iald (pc := 53) hK (kdm kd_208) nl_208 (by decide) dd_X12_shown_53 (by omega) (by omega) (fun x28 ex28 rx28 => ?_)
                  replace ex28 : x28 = M 208 t.toNat := ex28
                  refine g_if_lt (pc := 54) (tgt := 66) hK dd_X12_shown_54 (by decide) rx28 (fun c29 => ?_) (fun c29 => ?_)
                  · refine g_iconst (pc := 66) (x := 0) hK dd_X12_shown_66 (by decide) ?_
                    refine g_goto (pc := 67) (tgt := 82) hK dd_X12_shown_67 (by decide) ?_
                    have hgn0_ : (0 : Int) = gnT (M 208) (M 209) (TWf (M 205) (M 206) (M 207)) t.toNat := by unfold gnT; first | (rw [if_pos (by omega)]; done) | (rw [if_neg (by omega)]; subst_vars; rfl)
                    refine g_topv (v := gI (gnT (M 208) (M 209) (TWf (M 205) (M 206) (M 207)) t.toNat)) (by rw [hgn0_]) ?_
                    refine g_topI (fun gn egn => ?_)
                    have hgb_ : -999 ≤ gn ∧ gn ≤ 1049 := by omega
                    refine g_istoren (pc := 82) (i := 3) (L' := [(0, gR 200), (1, gI mi), (2, gI t), (3, gI gn)]) hK dd_X12_shown_82 rfl (by decide) rfl ?_
                    refine g_iconst (pc := 83) (x := 2) hK dd_X12_shown_83 (by decide) ?_
                    refine g_aloadn (pc := 84) (i := 0) (x := 200) hK dd_X12_shown_84 rfl rfl ?_
                    refine g_getv (pc := 85) (f := (1, 5)) (j := 4) (v := gR 205) hK (kdm kd_200) rfl ef_12 (by decide) rfl kk_1105 dd_X12_shown_85 rfl ?_
                    refine g_iloadn (pc := 88) (i := 2) (x := t) hK dd_X12_shown_88 rfl rfl ?_
                    refine g_iald (pc := 89) hK (kdm kd_205) nl_205 (by decide) dd_X12_shown_89 (by omega) (by omega) (fun x30 ex30 rx30 => ?_)
                    replace ex30 : x30 = M 205 t.toNat := ex30
                    refine g_iadd (pc := 90) (z := 2 + x30) hK dd_X12_shown_90 rfl ?_
                    have htk0_ : (2 + x30) = 2 + M 205 t.toNat := by omega
                    refine g_topv (v := gI (2 + M 205 t.toNat)) (by rw [htk0_]) ?_
                    refine g_topI (fun tk etk => ?_)
                    have htk_ : 2 ≤ tk ∧ tk ≤ 7 := by omega
                    refine g_istore (pc := 91) (i := 4) (L' := [(0, gR 200), (1, gI mi), (2, gI t), (3, gI gn), (4, gI tk)]) hK dd_X12_shown_91 (by decide) rfl ?_
                    refine g_iconst (pc := 93) (x := 0) hK dd_X12_shown_93 (by decide) ?_
                    refine g_istore (pc := 94) (i := 5) (L' := [(0, gR 200), (1, gI mi), (2, gI t), (3, gI gn), (4, gI tk), (5, gI 0)]) hK dd_X12_shown_94 (by decide) rfl ?_
                    have lp33 : ∀ (n31 : Nat) (mx : Int), (0 ≤ mx ∧ mx ≤ mi + 1) → (mi + 1 - mx).toNat < n31 → G p l e (rmD 4) s m args below meth c D cy q A 0 0 8 (MQ below (gQc D cy q A Pq) args s 0 0 A) 96 [(0, gR 200), (1, gI mi), (2, gI t), (3, gI gn), (4, gI tk), (5, gI mx)] [] (sr M 243 (bwF (M 243) (gB (M 208) (M 209) (M 205) (TWf (M 205) (M 206) (M 207))) mi.toNat (t.toNat + 1) mx.toNat)) := by
                      intro n31
                      induction n31 with
                      | zero => intro mx iv34 hm35; exact absurd hm35 (Nat.not_lt_zero _)
                      | succ n31 ih32 =>
                        intro mx iv34 hm35
                        refine g_iload (pc := 96) (i := 5) (x := mx) hK dd_X12_shown_96 rfl ?_
                        refine g_iloadn (pc := 98) (i := 1) (x := mi) hK dd_X12_shown_98 rfl rfl ?_
                        refine g_icmp_gt (pc := 99) (tgt := 187) hK dd_X12_shown_99 (by decide) ⟨by omega, by omega⟩ h_mi (fun c36 => ?_) (fun c36 => ?_)
                        · refine g_iinc (pc := 187) (i := 2) (y := t + 1) (L' := [(0, gR 200), (1, gI mi), (2, gI (t + 1)), (3, gI gn), (4, gI tk), (5, gI mx)]) hK dd_X12_shown_187 rfl rfl (by decide) rfl ?_
                          refine g_goto (pc := 190) (tgt := 40) hK dd_X12_shown_190 (by decide) ?_
                          refine g_sub (L' := [(0, gR 200), (1, gI mi), (2, gI (t + 1))]) [0, 1, 2] rfl ?_
                          refine g_mem (M2 := sr M 243 (bwF (M 243) (gB (M 208) (M 209) (M 205) (TWf (M 205) (M 206) (M 207))) mi.toNat ((t + 1).toNat + 1) 0)) (by rw [tn1 (t := t) (by omega), show mx.toNat = mi.toNat + 1 by omega, bwF_r]) ?_
                          exact ih10 (t + 1) (by omega) (by omega)
                        · refine g_aloadn (pc := 102) (i := 0) (x := 200) hK dd_X12_shown_102 rfl rfl ?_
                          refine g_getv (pc := 103) (f := (1, 43)) (j := 42) (v := gR 243) hK (kdm kd_200) rfl ef_12 (by decide) rfl kk_1143 dd_X12_shown_103 rfl ?_
                          refine g_sipush (pc := 106) (x := 201) hK dd_X12_shown_106 (by decide) ?_
                          refine g_iloadn (pc := 109) (i := 2) (x := t) hK dd_X12_shown_109 rfl rfl ?_
                          refine g_imul (pc := 110) (z := 201 * t) hK dd_X12_shown_110 rfl ?_
                          refine g_iload (pc := 111) (i := 5) (x := mx) hK dd_X12_shown_111 rfl ?_
                          refine g_iadd (pc := 113) (z := (201 * t) + mx) hK dd_X12_shown_113 rfl ?_
                          refine g_iald (pc := 114) hK (kdm kd_243) nl_243 (by decide) dd_X12_shown_114 (by omega) (by omega) (fun x37 ex37 rx37 => ?_)
                          replace ex37 : x37 = (bwF (M 243) (gB (M 208) (M 209) (M 205) (TWf (M 205) (M 206) (M 207))) mi.toNat (t.toNat + 1) mx.toNat) (((201 * t) + mx).toNat) := by first | exact ex37 | (rw [ex37]; simp [up, us, cp, sr])
                          rw [show (201 * t + mx).toNat = 201 * t.toNat + mx.toNat by omega, bwF_at (by omega) (by omega) (Or.inl (by omega))] at ex37
                          have hwo0_ : x37 = (gB (M 208) (M 209) (M 205) (TWf (M 205) (M 206) (M 207))) t.toNat mx.toNat := ex37
                          refine g_topv (v := gI ((gB (M 208) (M 209) (M 205) (TWf (M 205) (M 206) (M 207))) t.toNat mx.toNat)) (by rw [hwo0_]) ?_
                          refine g_topI (fun wo ewo => ?_)
                          have hwo_ := gB_in (P := M 208) (B := M 209) (K := M 205) (T := (TWf (M 205) (M 206) (M 207))) (fun j hj => (hthm j hj).2.2.2.1) (TWm_in hthm) t.toNat mx.toNat (by omega)
                          rw [← ewo] at hwo_
                          refine g_istore (pc := 115) (i := 6) (L' := [(0, gR 200), (1, gI mi), (2, gI t), (3, gI gn), (4, gI tk), (5, gI mx), (6, gI wo)]) hK dd_X12_shown_115 (by decide) rfl ?_
                          refine g_iloadn (pc := 117) (i := 3) (x := gn) hK dd_X12_shown_117 rfl rfl ?_
                          refine g_if_le (pc := 118) (tgt := 149) hK dd_X12_shown_118 (by decide) ⟨by omega, by omega⟩ (fun c38 => ?_) (fun c38 => ?_)
                          · refine g_iconst (pc := 149) (x := 0) hK dd_X12_shown_149 (by decide) ?_
                            have hwi0_ : (0 : Int) = gBw (M 208) (M 209) (M 205) (TWf (M 205) (M 206) (M 207)) ((gB (M 208) (M 209) (M 205) (TWf (M 205) (M 206) (M 207))) t.toNat) t.toNat mx.toNat := by first | (rw [← gBw_y egn etk (by omega) ⟨by omega, by omega⟩]; omega) | exact gBw_n egn etk (by omega) (by omega)
                            refine g_topv (v := gI (gBw (M 208) (M 209) (M 205) (TWf (M 205) (M 206) (M 207)) ((gB (M 208) (M 209) (M 205) (TWf (M 205) (M 206) (M 207))) t.toNat) t.toNat mx.toNat)) (by rw [hwi0_]) ?_
                            refine g_topI (fun wi ewi => ?_)
                            refine g_istore (pc := 150) (i := 7) (L' := [(0, gR 200), (1, gI mi), (2, gI t), (3, gI gn), (4, gI tk), (5, gI mx), (6, gI wo), (7, gI wi)]) hK dd_X12_shown_150 (by decide) rfl ?_
                            refine g_aloadn (pc := 152) (i := 0) (x := 200) hK dd_X12_shown_152 rfl rfl ?_
                            refine g_getv (pc := 153) (f := (1, 43)) (j := 42) (v := gR 243) hK (kdm kd_200) rfl ef_12 (by decide) rfl kk_1143 dd_X12_shown_153 rfl ?_
                            refine g_sipush (pc := 156) (x := 201) hK dd_X12_shown_156 (by decide) ?_
                            refine g_iloadn (pc := 159) (i := 2) (x := t) hK dd_X12_shown_159 rfl rfl ?_
                            refine g_iconst (pc := 160) (x := 1) hK dd_X12_shown_160 (by decide) ?_
                            refine g_iadd (pc := 161) (z := t + 1) hK dd_X12_shown_161 rfl ?_
                            refine g_imul (pc := 162) (z := 201 * (t + 1)) hK dd_X12_shown_162 rfl ?_
                            refine g_iload (pc := 163) (i := 5) (x := mx) hK dd_X12_shown_163 rfl ?_
                            refine g_iadd (pc := 165) (z := (201 * (t + 1)) + mx) hK dd_X12_shown_165 rfl ?_
                            refine g_iload (pc := 166) (i := 7) (x := wi) hK dd_X12_shown_166 rfl ?_
                            refine g_iload (pc := 168) (i := 6) (x := wo) hK dd_X12_shown_168 rfl ?_
                            refine g_icmp_le (pc := 170) (tgt := 178) hK dd_X12_shown_170 (by decide) ⟨by omega, by omega⟩ ⟨by omega, by omega⟩ (fun c39 => ?_) (fun c39 => ?_)
                            · refine g_iload (pc := 178) (i := 6) (x := wo) hK dd_X12_shown_178 rfl ?_
                              have hst_ : (gB (M 208) (M 209) (M 205) (TWf (M 205) (M 206) (M 207))) (t.toNat + 1) mx.toNat = wo := gB_n ewi ewo (by omega)
                              have hix_ : (201 * (t + 1) + mx).toNat = 201 * (t.toNat + 1) + mx.toNat := by omega
                              refine g_iast (pc := 180) hK (kdm kd_243) nl_243 (by decide) (by decide) dd_X12_shown_180 (by omega) (by omega) ⟨by omega, by omega⟩ ?_
                              refine g_iinc (pc := 181) (i := 5) (y := mx + 1) (L' := [(0, gR 200), (1, gI mi), (2, gI t), (3, gI gn), (4, gI tk), (5, gI (mx + 1)), (6, gI wo), (7, gI wi)]) hK dd_X12_shown_181 rfl rfl (by decide) rfl ?_
                              refine g_goto (pc := 184) (tgt := 96) hK dd_X12_shown_184 (by decide) ?_
                              refine g_sub (L' := [(0, gR 200), (1, gI mi), (2, gI t), (3, gI gn), (4, gI tk), (5, gI (mx + 1))]) [0, 1, 2, 3, 4, 5] rfl ?_
                              refine g_mem (M2 := sr M 243 (bwF (M 243) (gB (M 208) (M 209) (M 205) (TWf (M 205) (M 206) (M 207))) mi.toNat (t.toNat + 1) (mx + 1).toNat)) (by rw [tn1 (t := mx) (by omega), ← bwF_s (T := t.toNat + 1) (K := mx.toNat) (by omega) (by omega), hst_, ← hix_]; simp (disch := decide) only [Int.reduceToNat, up_sr, sr_cp, sr_k, sr_o, sr_sr, us_us]; try rfl) ?_
                              exact ih32 (mx + 1) (by omega) (by omega)
                            · refine g_iload (pc := 173) (i := 7) (x := wi) hK dd_X12_shown_173 rfl ?_
                              refine g_goto (pc := 175) (tgt := 180) hK dd_X12_shown_175 (by decide) ?_
                              have hst_ : (gB (M 208) (M 209) (M 205) (TWf (M 205) (M 206) (M 207))) (t.toNat + 1) mx.toNat = wi := gB_y ewi ewo (by omega)
                              have hix_ : (201 * (t + 1) + mx).toNat = 201 * (t.toNat + 1) + mx.toNat := by omega
                              refine g_iast (pc := 180) hK (kdm kd_243) nl_243 (by decide) (by decide) dd_X12_shown_180 (by omega) (by omega) ⟨by omega, by omega⟩ ?_
                              refine g_iinc (pc := 181) (i := 5) (y := mx + 1) (L' := [(0, gR 200), (1, gI mi), (2, gI t), (3, gI gn), (4, gI tk), (5, gI (mx + 1)), (6, gI wo), (7, gI wi)]) hK dd_X12_shown_181 rfl rfl (by decide) rfl ?_
                              refine g_goto (pc := 184) (tgt := 96) hK dd_X12_shown_184 (by decide) ?_
                              refine g_sub (L' := [(0, gR 200), (1, gI mi), (2, gI t), (3, gI gn), (4, gI tk), (5, gI (mx + 1))]) [0, 1, 2, 3, 4, 5] rfl ?_
                              refine g_mem (M2 := sr M 243 (bwF (M 243) (gB (M 208) (M 209) (M 205) (TWf (M 205) (M 206) (M 207))) mi.toNat (t.toNat + 1) (mx + 1).toNat)) (by rw [tn1 (t := mx) (by omega), ← bwF_s (T := t.toNat + 1) (K := mx.toNat) (by omega) (by omega), hst_, ← hix_]; simp (disch := decide) only [Int.reduceToNat, up_sr, sr_cp, sr_k, sr_o, sr_sr, us_us]; try rfl) ?_
                              exact ih32 (mx + 1) (by omega) (by omega)
                          · refine g_iload (pc := 121) (i := 5) (x := mx) hK dd_X12_shown_121 rfl ?_
                            refine g_iload (pc := 123) (i := 4) (x := tk) hK dd_X12_shown_123 rfl ?_
                            refine g_icmp_lt (pc := 125) (tgt := 149) hK dd_X12_shown_125 (by decide) ⟨by omega, by omega⟩ ⟨by omega, by omega⟩ (fun c40 => ?_) (fun c40 => ?_)
                            · refine g_iconst (pc := 149) (x := 0) hK dd_X12_shown_149 (by decide) ?_
                              have hwi0_ : (0 : Int) = gBw (M 208) (M 209) (M 205) (TWf (M 205) (M 206) (M 207)) ((gB (M 208) (M 209) (M 205) (TWf (M 205) (M 206) (M 207))) t.toNat) t.toNat mx.toNat := by first | (rw [← gBw_y egn etk (by omega) ⟨by omega, by omega⟩]; omega) | exact gBw_n egn etk (by omega) (by omega)
                              refine g_topv (v := gI (gBw (M 208) (M 209) (M 205) (TWf (M 205) (M 206) (M 207)) ((gB (M 208) (M 209) (M 205) (TWf (M 205) (M 206) (M 207))) t.toNat) t.toNat mx.toNat)) (by rw [hwi0_]) ?_
                              refine g_topI (fun wi ewi => ?_)
                              refine g_istore (pc := 150) (i := 7) (L' := [(0, gR 200), (1, gI mi), (2, gI t), (3, gI gn), (4, gI tk), (5, gI mx), (6, gI wo), (7, gI wi)]) hK dd_X12_shown_150 (by decide) rfl ?_
                              refine g_aloadn (pc := 152) (i := 0) (x := 200) hK dd_X12_shown_152 rfl rfl ?_
                              refine g_getv (pc := 153) (f := (1, 43)) (j := 42) (v := gR 243) hK (kdm kd_200) rfl ef_12 (by decide) rfl kk_1143 dd_X12_shown_153 rfl ?_
                              refine g_sipush (pc := 156) (x := 201) hK dd_X12_shown_156 (by decide) ?_
                              refine g_iloadn (pc := 159) (i := 2) (x := t) hK dd_X12_shown_159 rfl rfl ?_
                              refine g_iconst (pc := 160) (x := 1) hK dd_X12_shown_160 (by decide) ?_
                              refine g_iadd (pc := 161) (z := t + 1) hK dd_X12_shown_161 rfl ?_
                              refine g_imul (pc := 162) (z := 201 * (t + 1)) hK dd_X12_shown_162 rfl ?_
                              refine g_iload (pc := 163) (i := 5) (x := mx) hK dd_X12_shown_163 rfl ?_
                              refine g_iadd (pc := 165) (z := (201 * (t + 1)) + mx) hK dd_X12_shown_165 rfl ?_
                              refine g_iload (pc := 166) (i := 7) (x := wi) hK dd_X12_shown_166 rfl ?_
                              refine g_iload (pc := 168) (i := 6) (x := wo) hK dd_X12_shown_168 rfl ?_
                              refine g_icmp_le (pc := 170) (tgt := 178) hK dd_X12_shown_170 (by decide) ⟨by omega, by omega⟩ ⟨by omega, by omega⟩ (fun c41 => ?_) (fun c41 => ?_)
                              · refine g_iload (pc := 178) (i := 6) (x := wo) hK dd_X12_shown_178 rfl ?_
                                have hst_ : (gB (M 208) (M 209) (M 205) (TWf (M 205) (M 206) (M 207))) (t.toNat + 1) mx.toNat = wo := gB_n ewi ewo (by omega)
                                have hix_ : (201 * (t + 1) + mx).toNat = 201 * (t.toNat + 1) + mx.toNat := by omega
                                refine g_iast (pc := 180) hK (kdm kd_243) nl_243 (by decide) (by decide) dd_X12_shown_180 (by omega) (by omega) ⟨by omega, by omega⟩ ?_
                                refine g_iinc (pc := 181) (i := 5) (y := mx + 1) (L' := [(0, gR 200), (1, gI mi), (2, gI t), (3, gI gn), (4, gI tk), (5, gI (mx + 1)), (6, gI wo), (7, gI wi)]) hK dd_X12_shown_181 rfl rfl (by decide) rfl ?_
                                refine g_goto (pc := 184) (tgt := 96) hK dd_X12_shown_184 (by decide) ?_
                                refine g_sub (L' := [(0, gR 200), (1, gI mi), (2, gI t), (3, gI gn), (4, gI tk), (5, gI (mx + 1))]) [0, 1, 2, 3, 4, 5] rfl ?_
                                refine g_mem (M2 := sr M 243 (bwF (M 243) (gB (M 208) (M 209) (M 205) (TWf (M 205) (M 206) (M 207))) mi.toNat (t.toNat + 1) (mx + 1).toNat)) (by rw [tn1 (t := mx) (by omega), ← bwF_s (T := t.toNat + 1) (K := mx.toNat) (by omega) (by omega), hst_, ← hix_]; simp (disch := decide) only [Int.reduceToNat, up_sr, sr_cp, sr_k, sr_o, sr_sr, us_us]; try rfl) ?_
                                exact ih32 (mx + 1) (by omega) (by omega)
                              · refine g_iload (pc := 173) (i := 7) (x := wi) hK dd_X12_shown_173 rfl ?_
                                refine g_goto (pc := 175) (tgt := 180) hK dd_X12_shown_175 (by decide) ?_
                                have hst_ : (gB (M 208) (M 209) (M 205) (TWf (M 205) (M 206) (M 207))) (t.toNat + 1) mx.toNat = wi := gB_y ewi ewo (by omega)
                                have hix_ : (201 * (t + 1) + mx).toNat = 201 * (t.toNat + 1) + mx.toNat := by omega
                                refine g_iast (pc := 180) hK (kdm kd_243) nl_243 (by decide) (by decide) dd_X12_shown_180 (by omega) (by omega) ⟨by omega, by omega⟩ ?_
                                refine g_iinc (pc := 181) (i := 5) (y := mx + 1) (L' := [(0, gR 200), (1, gI mi), (2, gI t), (3, gI gn), (4, gI tk), (5, gI (mx + 1)), (6, gI wo), (7, gI wi)]) hK dd_X12_shown_181 rfl rfl (by decide) rfl ?_
                                refine g_goto (pc := 184) (tgt := 96) hK dd_X12_shown_184 (by decide) ?_
                                refine g_sub (L' := [(0, gR 200), (1, gI mi), (2, gI t), (3, gI gn), (4, gI tk), (5, gI (mx + 1))]) [0, 1, 2, 3, 4, 5] rfl ?_
                                refine g_mem (M2 := sr M 243 (bwF (M 243) (gB (M 208) (M 209) (M 205) (TWf (M 205) (M 206) (M 207))) mi.toNat (t.toNat + 1) (mx + 1).toNat)) (by rw [tn1 (t := mx) (by omega), ← bwF_s (T := t.toNat + 1) (K := mx.toNat) (by omega) (by omega), hst_, ← hix_]; simp (disch := decide) only [Int.reduceToNat, up_sr, sr_cp, sr_k, sr_o, sr_sr, us_us]; try rfl) ?_
                                exact ih32 (mx + 1) (by omega) (by omega)
                            · refine g_aloadn (pc := 128) (i := 0) (x := 200) hK dd_X12_shown_128 rfl rfl ?_
                              refine g_getv (pc := 129) (f := (1, 43)) (j := 42) (v := gR 243) hK (kdm kd_200) rfl ef_12 (by decide) rfl kk_1143 dd_X12_shown_129 rfl ?_
                              refine g_sipush (pc := 132) (x := 201) hK dd_X12_shown_132 (by decide) ?_
                              refine g_iloadn (pc := 135) (i := 2) (x := t) hK dd_X12_shown_135 rfl rfl ?_
                              refine g_imul (pc := 136) (z := 201 * t) hK dd_X12_shown_136 rfl ?_
                              refine g_iload (pc := 137) (i := 5) (x := mx) hK dd_X12_shown_137 rfl ?_
                              refine g_iadd (pc := 139) (z := (201 * t) + mx) hK dd_X12_shown_139 rfl ?_
                              refine g_iload (pc := 140) (i := 4) (x := tk) hK dd_X12_shown_140 rfl ?_
                              refine g_isub (pc := 142) (z := ((201 * t) + mx) - tk) hK dd_X12_shown_142 rfl ?_
                              have hw2_ := gB_in (P := M 208) (B := M 209) (K := M 205) (T := (TWf (M 205) (M 206) (M 207))) (fun j hj => (hthm j hj).2.2.2.1) (TWm_in hthm) t.toNat (mx - tk).toNat (by omega)
                              refine g_iald (pc := 143) hK (kdm kd_243) nl_243 (by decide) dd_X12_shown_143 (by omega) (by omega) (fun x42 ex42 rx42 => ?_)
                              replace ex42 : x42 = (bwF (M 243) (gB (M 208) (M 209) (M 205) (TWf (M 205) (M 206) (M 207))) mi.toNat (t.toNat + 1) mx.toNat) ((((201 * t) + mx) - tk).toNat) := by first | exact ex42 | (rw [ex42]; simp [up, us, cp, sr])
                              rw [show (201 * t + mx - tk).toNat = 201 * t.toNat + (mx - tk).toNat by omega, bwF_at (by omega) (by omega) (Or.inl (by omega))] at ex42
                              refine g_iloadn (pc := 144) (i := 3) (x := gn) hK dd_X12_shown_144 rfl rfl ?_
                              refine g_iadd (pc := 145) (z := x42 + gn) hK dd_X12_shown_145 rfl ?_
                              refine g_goto (pc := 146) (tgt := 150) hK dd_X12_shown_146 (by decide) ?_
                              have hwi0_ : (x42 + gn) = gBw (M 208) (M 209) (M 205) (TWf (M 205) (M 206) (M 207)) ((gB (M 208) (M 209) (M 205) (TWf (M 205) (M 206) (M 207))) t.toNat) t.toNat mx.toNat := by first | (rw [← gBw_y egn etk (by omega) ⟨by omega, by omega⟩]; omega) | exact gBw_n egn etk (by omega) (by omega)
                              refine g_topv (v := gI (gBw (M 208) (M 209) (M 205) (TWf (M 205) (M 206) (M 207)) ((gB (M 208) (M 209) (M 205) (TWf (M 205) (M 206) (M 207))) t.toNat) t.toNat mx.toNat)) (by rw [hwi0_]) ?_
                              refine g_topI (fun wi ewi => ?_)
                              refine g_istore (pc := 150) (i := 7) (L' := [(0, gR 200), (1, gI mi), (2, gI t), (3, gI gn), (4, gI tk), (5, gI mx), (6, gI wo), (7, gI wi)]) hK dd_X12_shown_150 (by decide) rfl ?_
                              refine g_aloadn (pc := 152) (i := 0) (x := 200) hK dd_X12_shown_152 rfl rfl ?_
                              refine g_getv (pc := 153) (f := (1, 43)) (j := 42) (v := gR 243) hK (kdm kd_200) rfl ef_12 (by decide) rfl kk_1143 dd_X12_shown_153 rfl ?_
                              refine g_sipush (pc := 156) (x := 201) hK dd_X12_shown_156 (by decide) ?_
                              refine g_iloadn (pc := 159) (i := 2) (x := t) hK dd_X12_shown_159 rfl rfl ?_
                              refine g_iconst (pc := 160) (x := 1) hK dd_X12_shown_160 (by decide) ?_
                              refine g_iadd (pc := 161) (z := t + 1) hK dd_X12_shown_161 rfl ?_
                              refine g_imul (pc := 162) (z := 201 * (t + 1)) hK dd_X12_shown_162 rfl ?_
                              refine g_iload (pc := 163) (i := 5) (x := mx) hK dd_X12_shown_163 rfl ?_
                              refine g_iadd (pc := 165) (z := (201 * (t + 1)) + mx) hK dd_X12_shown_165 rfl ?_
                              refine g_iload (pc := 166) (i := 7) (x := wi) hK dd_X12_shown_166 rfl ?_
                              refine g_iload (pc := 168) (i := 6) (x := wo) hK dd_X12_shown_168 rfl ?_
                              refine g_icmp_le (pc := 170) (tgt := 178) hK dd_X12_shown_170 (by decide) ⟨by omega, by omega⟩ ⟨by omega, by omega⟩ (fun c43 => ?_) (fun c43 => ?_)
                              · refine g_iload (pc := 178) (i := 6) (x := wo) hK dd_X12_shown_178 rfl ?_
                                have hst_ : (gB (M 208) (M 209) (M 205) (TWf (M 205) (M 206) (M 207))) (t.toNat + 1) mx.toNat = wo := gB_n ewi ewo (by omega)
                                have hix_ : (201 * (t + 1) + mx).toNat = 201 * (t.toNat + 1) + mx.toNat := by omega
                                refine g_iast (pc := 180) hK (kdm kd_243) nl_243 (by decide) (by decide) dd_X12_shown_180 (by omega) (by omega) ⟨by omega, by omega⟩ ?_
                                refine g_iinc (pc := 181) (i := 5) (y := mx + 1) (L' := [(0, gR 200), (1, gI mi), (2, gI t), (3, gI gn), (4, gI tk), (5, gI (mx + 1)), (6, gI wo), (7, gI wi)]) hK dd_X12_shown_181 rfl rfl (by decide) rfl ?_
                                refine g_goto (pc := 184) (tgt := 96) hK dd_X12_shown_184 (by decide) ?_
                                refine g_sub (L' := [(0, gR 200), (1, gI mi), (2, gI t), (3, gI gn), (4, gI tk), (5, gI (mx + 1))]) [0, 1, 2, 3, 4, 5] rfl ?_
                                refine g_mem (M2 := sr M 243 (bwF (M 243) (gB (M 208) (M 209) (M 205) (TWf (M 205) (M 206) (M 207))) mi.toNat (t.toNat + 1) (mx + 1).toNat)) (by rw [tn1 (t := mx) (by omega), ← bwF_s (T := t.toNat + 1) (K := mx.toNat) (by omega) (by omega), hst_, ← hix_]; simp (disch := decide) only [Int.reduceToNat, up_sr, sr_cp, sr_k, sr_o, sr_sr, us_us]; try rfl) ?_
                                exact ih32 (mx + 1) (by omega) (by omega)
                              · refine g_iload (pc := 173) (i := 7) (x := wi) hK dd_X12_shown_173 rfl ?_
                                refine g_goto (pc := 175) (tgt := 180) hK dd_X12_shown_175 (by decide) ?_
                                have hst_ : (gB (M 208) (M 209) (M 205) (TWf (M 205) (M 206) (M 207))) (t.toNat + 1) mx.toNat = wi := gB_y ewi ewo (by omega)
                                have hix_ : (201 * (t + 1) + mx).toNat = 201 * (t.toNat + 1) + mx.toNat := by omega
                                refine g_iast (pc := 180) hK (kdm kd_243) nl_243 (by decide) (by decide) dd_X12_shown_180 (by omega) (by omega) ⟨by omega, by omega⟩ ?_
                                refine g_iinc (pc := 181) (i := 5) (y := mx + 1) (L' := [(0, gR 200), (1, gI mi), (2, gI t), (3, gI gn), (4, gI tk), (5, gI (mx + 1)), (6, gI wo), (7, gI wi)]) hK dd_X12_shown_181 rfl rfl (by decide) rfl ?_
                                refine g_goto (pc := 184) (tgt := 96) hK dd_X12_shown_184 (by decide) ?_
                                refine g_sub (L' := [(0, gR 200), (1, gI mi), (2, gI t), (3, gI gn), (4, gI tk), (5, gI (mx + 1))]) [0, 1, 2, 3, 4, 5] rfl ?_
                                refine g_mem (M2 := sr M 243 (bwF (M 243) (gB (M 208) (M 209) (M 205) (TWf (M 205) (M 206) (M 207))) mi.toNat (t.toNat + 1) (mx + 1).toNat)) (by rw [tn1 (t := mx) (by omega), ← bwF_s (T := t.toNat + 1) (K := mx.toNat) (by omega) (by omega), hst_, ← hix_]; simp (disch := decide) only [Int.reduceToNat, up_sr, sr_cp, sr_k, sr_o, sr_sr, us_us]; try rfl) ?_
                                exact ih32 (mx + 1) (by omega) (by omega)
                    refine g_mem (M2 := sr M 243 (bwF (M 243) (gB (M 208) (M 209) (M 205) (TWf (M 205) (M 206) (M 207))) mi.toNat (t.toNat + 1) (0 : Int).toNat)) (rfl) ?_
                    refine g_sub (L' := [(0, gR 200), (1, gI mi), (2, gI t), (3, gI gn), (4, gI tk), (5, gI 0)]) [0, 1, 2, 3, 4, 5] rfl ?_
                    exact lp33 _ 0 (by omega) (Nat.lt_succ_self _)
                  · refine g_aloadn (pc := 57) (i := 0) (x := 200) hK dd_X12_shown_57 rfl rfl ?_
                    refine g_getv (pc := 58) (f := (1, 9)) (j := 8) (v := gR 209) hK (kdm kd_200) rfl ef_12 (by decide) rfl kk_1109 dd_X12_shown_58 rfl ?_
                    refine g_iloadn (pc := 61) (i := 2) (x := t) hK dd_X12_shown_61 rfl rfl ?_
                    refine g_iald (pc := 62) hK (kdm kd_209) nl_209 (by decide) dd_X12_shown_62 (by omega) (by omega) (fun x44 ex44 rx44 => ?_)
                    replace ex44 : x44 = M 209 t.toNat := ex44
                    refine g_if_lt (pc := 63) (tgt := 70) hK dd_X12_shown_63 (by decide) rx44 (fun c45 => ?_) (fun c45 => ?_)
                    · refine g_aloadn (pc := 70) (i := 0) (x := 200) hK dd_X12_shown_70 rfl rfl ?_
                      refine g_iloadn (pc := 71) (i := 2) (x := t) hK dd_X12_shown_71 rfl rfl ?_
                      refine g_callV (pc := 72) (As := [gI t]) hK ws_M_175 md_X12_trueWorth ⟨Nat.zero_le _, Nat.zero_le _⟩ ⟨by decide, by decide⟩ (kdm kd_200) rfl rfl dd_X12_shown_72 rfl rfl (Nat.le_of_ble_eq_true rfl) (d_trueWorth t (by omega) (by omega) hthm (g_r1 ?_))
                      refine g_topI (fun y46 ey46 => ?_)
                      replace ey46 : y46 = TW (M 205 t.toNat) (M 206 t.toNat) (M 207 t.toNat) := ey46
                      refine g_aloadn (pc := 75) (i := 0) (x := 200) hK dd_X12_shown_75 rfl rfl ?_
                      refine g_getv (pc := 76) (f := (1, 8)) (j := 7) (v := gR 208) hK (kdm kd_200) rfl ef_12 (by decide) rfl kk_1108 dd_X12_shown_76 rfl ?_
                      refine g_iloadn (pc := 79) (i := 2) (x := t) hK dd_X12_shown_79 rfl rfl ?_
                      refine g_iald (pc := 80) hK (kdm kd_208) nl_208 (by decide) dd_X12_shown_80 (by omega) (by omega) (fun x47 ex47 rx47 => ?_)
                      replace ex47 : x47 = M 208 t.toNat := ex47
                      refine g_isub (pc := 81) (z := y46 - x47) hK dd_X12_shown_81 rfl ?_
                      have hgn0_ : (y46 - x47) = gnT (M 208) (M 209) (TWf (M 205) (M 206) (M 207)) t.toNat := by unfold gnT; first | (rw [if_pos (by omega)]; done) | (rw [if_neg (by omega)]; subst_vars; rfl)
                      refine g_topv (v := gI (gnT (M 208) (M 209) (TWf (M 205) (M 206) (M 207)) t.toNat)) (by rw [hgn0_]) ?_
                      refine g_topI (fun gn egn => ?_)
                      have hgb_ : -999 ≤ gn ∧ gn ≤ 1049 := by omega
                      refine g_istoren (pc := 82) (i := 3) (L' := [(0, gR 200), (1, gI mi), (2, gI t), (3, gI gn)]) hK dd_X12_shown_82 rfl (by decide) rfl ?_
                      refine g_iconst (pc := 83) (x := 2) hK dd_X12_shown_83 (by decide) ?_
                      refine g_aloadn (pc := 84) (i := 0) (x := 200) hK dd_X12_shown_84 rfl rfl ?_
                      refine g_getv (pc := 85) (f := (1, 5)) (j := 4) (v := gR 205) hK (kdm kd_200) rfl ef_12 (by decide) rfl kk_1105 dd_X12_shown_85 rfl ?_
                      refine g_iloadn (pc := 88) (i := 2) (x := t) hK dd_X12_shown_88 rfl rfl ?_
                      refine g_iald (pc := 89) hK (kdm kd_205) nl_205 (by decide) dd_X12_shown_89 (by omega) (by omega) (fun x48 ex48 rx48 => ?_)
                      replace ex48 : x48 = M 205 t.toNat := ex48
                      refine g_iadd (pc := 90) (z := 2 + x48) hK dd_X12_shown_90 rfl ?_
                      have htk0_ : (2 + x48) = 2 + M 205 t.toNat := by omega
                      refine g_topv (v := gI (2 + M 205 t.toNat)) (by rw [htk0_]) ?_
                      refine g_topI (fun tk etk => ?_)
                      have htk_ : 2 ≤ tk ∧ tk ≤ 7 := by omega
                      refine g_istore (pc := 91) (i := 4) (L' := [(0, gR 200), (1, gI mi), (2, gI t), (3, gI gn), (4, gI tk)]) hK dd_X12_shown_91 (by decide) rfl ?_
                      refine g_iconst (pc := 93) (x := 0) hK dd_X12_shown_93 (by decide) ?_
                      refine g_istore (pc := 94) (i := 5) (L' := [(0, gR 200), (1, gI mi), (2, gI t), (3, gI gn), (4, gI tk), (5, gI 0)]) hK dd_X12_shown_94 (by decide) rfl ?_
                      have lp51 : ∀ (n49 : Nat) (mx : Int), (0 ≤ mx ∧ mx ≤ mi + 1) → (mi + 1 - mx).toNat < n49 → G p l e (rmD 4) s m args below meth c D cy q A 0 0 8 (MQ below (gQc D cy q A Pq) args s 0 0 A) 96 [(0, gR 200), (1, gI mi), (2, gI t), (3, gI gn), (4, gI tk), (5, gI mx)] [] (sr M 243 (bwF (M 243) (gB (M 208) (M 209) (M 205) (TWf (M 205) (M 206) (M 207))) mi.toNat (t.toNat + 1) mx.toNat)) := by
                        intro n49
                        induction n49 with
                        | zero => intro mx iv52 hm53; exact absurd hm53 (Nat.not_lt_zero _)
                        | succ n49 ih50 =>
                          intro mx iv52 hm53
                          refine g_iload (pc := 96) (i := 5) (x := mx) hK dd_X12_shown_96 rfl ?_
                          refine g_iloadn (pc := 98) (i := 1) (x := mi) hK dd_X12_shown_98 rfl rfl ?_
                          refine g_icmp_gt (pc := 99) (tgt := 187) hK dd_X12_shown_99 (by decide) ⟨by omega, by omega⟩ h_mi (fun c54 => ?_) (fun c54 => ?_)
                          · refine g_iinc (pc := 187) (i := 2) (y := t + 1) (L' := [(0, gR 200), (1, gI mi), (2, gI (t + 1)), (3, gI gn), (4, gI tk), (5, gI mx)]) hK dd_X12_shown_187 rfl rfl (by decide) rfl ?_
                            refine g_goto (pc := 190) (tgt := 40) hK dd_X12_shown_190 (by decide) ?_
                            refine g_sub (L' := [(0, gR 200), (1, gI mi), (2, gI (t + 1))]) [0, 1, 2] rfl ?_
                            refine g_mem (M2 := sr M 243 (bwF (M 243) (gB (M 208) (M 209) (M 205) (TWf (M 205) (M 206) (M 207))) mi.toNat ((t + 1).toNat + 1) 0)) (by rw [tn1 (t := t) (by omega), show mx.toNat = mi.toNat + 1 by omega, bwF_r]) ?_
                            exact ih10 (t + 1) (by omega) (by omega)
                          · refine g_aloadn (pc := 102) (i := 0) (x := 200) hK dd_X12_shown_102 rfl rfl ?_
                            refine g_getv (pc := 103) (f := (1, 43)) (j := 42) (v := gR 243) hK (kdm kd_200) rfl ef_12 (by decide) rfl kk_1143 dd_X12_shown_103 rfl ?_
                            refine g_sipush (pc := 106) (x := 201) hK dd_X12_shown_106 (by decide) ?_
                            refine g_iloadn (pc := 109) (i := 2) (x := t) hK dd_X12_shown_109 rfl rfl ?_
                            refine g_imul (pc := 110) (z := 201 * t) hK dd_X12_shown_110 rfl ?_
                            refine g_iload (pc := 111) (i := 5) (x := mx) hK dd_X12_shown_111 rfl ?_
                            refine g_iadd (pc := 113) (z := (201 * t) + mx) hK dd_X12_shown_113 rfl ?_
                            refine g_iald (pc := 114) hK (kdm kd_243) nl_243 (by decide) dd_X12_shown_114 (by omega) (by omega) (fun x55 ex55 rx55 => ?_)
                            replace ex55 : x55 = (bwF (M 243) (gB (M 208) (M 209) (M 205) (TWf (M 205) (M 206) (M 207))) mi.toNat (t.toNat + 1) mx.toNat) (((201 * t) + mx).toNat) := by first | exact ex55 | (rw [ex55]; simp [up, us, cp, sr])
                            rw [show (201 * t + mx).toNat = 201 * t.toNat + mx.toNat by omega, bwF_at (by omega) (by omega) (Or.inl (by omega))] at ex55
                            have hwo0_ : x55 = (gB (M 208) (M 209) (M 205) (TWf (M 205) (M 206) (M 207))) t.toNat mx.toNat := ex55
                            refine g_topv (v := gI ((gB (M 208) (M 209) (M 205) (TWf (M 205) (M 206) (M 207))) t.toNat mx.toNat)) (by rw [hwo0_]) ?_
                            refine g_topI (fun wo ewo => ?_)
                            have hwo_ := gB_in (P := M 208) (B := M 209) (K := M 205) (T := (TWf (M 205) (M 206) (M 207))) (fun j hj => (hthm j hj).2.2.2.1) (TWm_in hthm) t.toNat mx.toNat (by omega)
                            rw [← ewo] at hwo_
                            refine g_istore (pc := 115) (i := 6) (L' := [(0, gR 200), (1, gI mi), (2, gI t), (3, gI gn), (4, gI tk), (5, gI mx), (6, gI wo)]) hK dd_X12_shown_115 (by decide) rfl ?_
                            refine g_iloadn (pc := 117) (i := 3) (x := gn) hK dd_X12_shown_117 rfl rfl ?_
                            refine g_if_le (pc := 118) (tgt := 149) hK dd_X12_shown_118 (by decide) ⟨by omega, by omega⟩ (fun c56 => ?_) (fun c56 => ?_)
                            · refine g_iconst (pc := 149) (x := 0) hK dd_X12_shown_149 (by decide) ?_
                              have hwi0_ : (0 : Int) = gBw (M 208) (M 209) (M 205) (TWf (M 205) (M 206) (M 207)) ((gB (M 208) (M 209) (M 205) (TWf (M 205) (M 206) (M 207))) t.toNat) t.toNat mx.toNat := by first | (rw [← gBw_y egn etk (by omega) ⟨by omega, by omega⟩]; omega) | exact gBw_n egn etk (by omega) (by omega)
                              refine g_topv (v := gI (gBw (M 208) (M 209) (M 205) (TWf (M 205) (M 206) (M 207)) ((gB (M 208) (M 209) (M 205) (TWf (M 205) (M 206) (M 207))) t.toNat) t.toNat mx.toNat)) (by rw [hwi0_]) ?_
                              refine g_topI (fun wi ewi => ?_)
                              refine g_istore (pc := 150) (i := 7) (L' := [(0, gR 200), (1, gI mi), (2, gI t), (3, gI gn), (4, gI tk), (5, gI mx), (6, gI wo), (7, gI wi)]) hK dd_X12_shown_150 (by decide) rfl ?_
                              refine g_aloadn (pc := 152) (i := 0) (x := 200) hK dd_X12_shown_152 rfl rfl ?_
                              refine g_getv (pc := 153) (f := (1, 43)) (j := 42) (v := gR 243) hK (kdm kd_200) rfl ef_12 (by decide) rfl kk_1143 dd_X12_shown_153 rfl ?_
                              refine g_sipush (pc := 156) (x := 201) hK dd_X12_shown_156 (by decide) ?_
                              refine g_iloadn (pc := 159) (i := 2) (x := t) hK dd_X12_shown_159 rfl rfl ?_
                              refine g_iconst (pc := 160) (x := 1) hK dd_X12_shown_160 (by decide) ?_
                              refine g_iadd (pc := 161) (z := t + 1) hK dd_X12_shown_161 rfl ?_
                              refine g_imul (pc := 162) (z := 201 * (t + 1)) hK dd_X12_shown_162 rfl ?_
                              refine g_iload (pc := 163) (i := 5) (x := mx) hK dd_X12_shown_163 rfl ?_
                              refine g_iadd (pc := 165) (z := (201 * (t + 1)) + mx) hK dd_X12_shown_165 rfl ?_
                              refine g_iload (pc := 166) (i := 7) (x := wi) hK dd_X12_shown_166 rfl ?_
                              refine g_iload (pc := 168) (i := 6) (x := wo) hK dd_X12_shown_168 rfl ?_
                              refine g_icmp_le (pc := 170) (tgt := 178) hK dd_X12_shown_170 (by decide) ⟨by omega, by omega⟩ ⟨by omega, by omega⟩ (fun c57 => ?_) (fun c57 => ?_)
                              · refine g_iload (pc := 178) (i := 6) (x := wo) hK dd_X12_shown_178 rfl ?_
                                have hst_ : (gB (M 208) (M 209) (M 205) (TWf (M 205) (M 206) (M 207))) (t.toNat + 1) mx.toNat = wo := gB_n ewi ewo (by omega)
                                have hix_ : (201 * (t + 1) + mx).toNat = 201 * (t.toNat + 1) + mx.toNat := by omega
                                refine g_iast (pc := 180) hK (kdm kd_243) nl_243 (by decide) (by decide) dd_X12_shown_180 (by omega) (by omega) ⟨by omega, by omega⟩ ?_
                                refine g_iinc (pc := 181) (i := 5) (y := mx + 1) (L' := [(0, gR 200), (1, gI mi), (2, gI t), (3, gI gn), (4, gI tk), (5, gI (mx + 1)), (6, gI wo), (7, gI wi)]) hK dd_X12_shown_181 rfl rfl (by decide) rfl ?_
                                refine g_goto (pc := 184) (tgt := 96) hK dd_X12_shown_184 (by decide) ?_
                                refine g_sub (L' := [(0, gR 200), (1, gI mi), (2, gI t), (3, gI gn), (4, gI tk), (5, gI (mx + 1))]) [0, 1, 2, 3, 4, 5] rfl ?_
                                refine g_mem (M2 := sr M 243 (bwF (M 243) (gB (M 208) (M 209) (M 205) (TWf (M 205) (M 206) (M 207))) mi.toNat (t.toNat + 1) (mx + 1).toNat)) (by rw [tn1 (t := mx) (by omega), ← bwF_s (T := t.toNat + 1) (K := mx.toNat) (by omega) (by omega), hst_, ← hix_]; simp (disch := decide) only [Int.reduceToNat, up_sr, sr_cp, sr_k, sr_o, sr_sr, us_us]; try rfl) ?_
                                exact ih50 (mx + 1) (by omega) (by omega)
                              · refine g_iload (pc := 173) (i := 7) (x := wi) hK dd_X12_shown_173 rfl ?_
                                refine g_goto (pc := 175) (tgt := 180) hK dd_X12_shown_175 (by decide) ?_
                                have hst_ : (gB (M 208) (M 209) (M 205) (TWf (M 205) (M 206) (M 207))) (t.toNat + 1) mx.toNat = wi := gB_y ewi ewo (by omega)
                                have hix_ : (201 * (t + 1) + mx).toNat = 201 * (t.toNat + 1) + mx.toNat := by omega
                                refine g_iast (pc := 180) hK (kdm kd_243) nl_243 (by decide) (by decide) dd_X12_shown_180 (by omega) (by omega) ⟨by omega, by omega⟩ ?_
                                refine g_iinc (pc := 181) (i := 5) (y := mx + 1) (L' := [(0, gR 200), (1, gI mi), (2, gI t), (3, gI gn), (4, gI tk), (5, gI (mx + 1)), (6, gI wo), (7, gI wi)]) hK dd_X12_shown_181 rfl rfl (by decide) rfl ?_
                                refine g_goto (pc := 184) (tgt := 96) hK dd_X12_shown_184 (by decide) ?_
                                refine g_sub (L' := [(0, gR 200), (1, gI mi), (2, gI t), (3, gI gn), (4, gI tk), (5, gI (mx + 1))]) [0, 1, 2, 3, 4, 5] rfl ?_
                                refine g_mem (M2 := sr M 243 (bwF (M 243) (gB (M 208) (M 209) (M 205) (TWf (M 205) (M 206) (M 207))) mi.toNat (t.toNat + 1) (mx + 1).toNat)) (by rw [tn1 (t := mx) (by omega), ← bwF_s (T := t.toNat + 1) (K := mx.toNat) (by omega) (by omega), hst_, ← hix_]; simp (disch := decide) only [Int.reduceToNat, up_sr, sr_cp, sr_k, sr_o, sr_sr, us_us]; try rfl) ?_
                                exact ih50 (mx + 1) (by omega) (by omega)
                            · refine g_iload (pc := 121) (i := 5) (x := mx) hK dd_X12_shown_121 rfl ?_
                              refine g_iload (pc := 123) (i := 4) (x := tk) hK dd_X12_shown_123 rfl ?_
                              refine g_icmp_lt (pc := 125) (tgt := 149) hK dd_X12_shown_125 (by decide) ⟨by omega, by omega⟩ ⟨by omega, by omega⟩ (fun c58 => ?_) (fun c58 => ?_)
                              · refine g_iconst (pc := 149) (x := 0) hK dd_X12_shown_149 (by decide) ?_
                                have hwi0_ : (0 : Int) = gBw (M 208) (M 209) (M 205) (TWf (M 205) (M 206) (M 207)) ((gB (M 208) (M 209) (M 205) (TWf (M 205) (M 206) (M 207))) t.toNat) t.toNat mx.toNat := by first | (rw [← gBw_y egn etk (by omega) ⟨by omega, by omega⟩]; omega) | exact gBw_n egn etk (by omega) (by omega)
                                refine g_topv (v := gI (gBw (M 208) (M 209) (M 205) (TWf (M 205) (M 206) (M 207)) ((gB (M 208) (M 209) (M 205) (TWf (M 205) (M 206) (M 207))) t.toNat) t.toNat mx.toNat)) (by rw [hwi0_]) ?_
                                refine g_topI (fun wi ewi => ?_)
                                refine g_istore (pc := 150) (i := 7) (L' := [(0, gR 200), (1, gI mi), (2, gI t), (3, gI gn), (4, gI tk), (5, gI mx), (6, gI wo), (7, gI wi)]) hK dd_X12_shown_150 (by decide) rfl ?_
                                refine g_aloadn (pc := 152) (i := 0) (x := 200) hK dd_X12_shown_152 rfl rfl ?_
                                refine g_getv (pc := 153) (f := (1, 43)) (j := 42) (v := gR 243) hK (kdm kd_200) rfl ef_12 (by decide) rfl kk_1143 dd_X12_shown_153 rfl ?_
                                refine g_sipush (pc := 156) (x := 201) hK dd_X12_shown_156 (by decide) ?_
                                refine g_iloadn (pc := 159) (i := 2) (x := t) hK dd_X12_shown_159 rfl rfl ?_
                                refine g_iconst (pc := 160) (x := 1) hK dd_X12_shown_160 (by decide) ?_
                                refine g_iadd (pc := 161) (z := t + 1) hK dd_X12_shown_161 rfl ?_
                                refine g_imul (pc := 162) (z := 201 * (t + 1)) hK dd_X12_shown_162 rfl ?_
                                refine g_iload (pc := 163) (i := 5) (x := mx) hK dd_X12_shown_163 rfl ?_
                                refine g_iadd (pc := 165) (z := (201 * (t + 1)) + mx) hK dd_X12_shown_165 rfl ?_
                                refine g_iload (pc := 166) (i := 7) (x := wi) hK dd_X12_shown_166 rfl ?_
                                refine g_iload (pc := 168) (i := 6) (x := wo) hK dd_X12_shown_168 rfl ?_
                                refine g_icmp_le (pc := 170) (tgt := 178) hK dd_X12_shown_170 (by decide) ⟨by omega, by omega⟩ ⟨by omega, by omega⟩ (fun c59 => ?_) (fun c59 => ?_)
                                · refine g_iload (pc := 178) (i := 6) (x := wo) hK dd_X12_shown_178 rfl ?_
                                  have hst_ : (gB (M 208) (M 209) (M 205) (TWf (M 205) (M 206) (M 207))) (t.toNat + 1) mx.toNat = wo := gB_n ewi ewo (by omega)
                                  have hix_ : (201 * (t + 1) + mx).toNat = 201 * (t.toNat + 1) + mx.toNat := by omega
                                  refine g_iast (pc := 180) hK (kdm kd_243) nl_243 (by decide) (by decide) dd_X12_shown_180 (by omega) (by omega) ⟨by omega, by omega⟩ ?_
                                  refine g_iinc (pc := 181) (i := 5) (y := mx + 1) (L' := [(0, gR 200), (1, gI mi), (2, gI t), (3, gI gn), (4, gI tk), (5, gI (mx + 1)), (6, gI wo), (7, gI wi)]) hK dd_X12_shown_181 rfl rfl (by decide) rfl ?_
                                  refine g_goto (pc := 184) (tgt := 96) hK dd_X12_shown_184 (by decide) ?_
                                  refine g_sub (L' := [(0, gR 200), (1, gI mi), (2, gI t), (3, gI gn), (4, gI tk), (5, gI (mx + 1))]) [0, 1, 2, 3, 4, 5] rfl ?_
                                  refine g_mem (M2 := sr M 243 (bwF (M 243) (gB (M 208) (M 209) (M 205) (TWf (M 205) (M 206) (M 207))) mi.toNat (t.toNat + 1) (mx + 1).toNat)) (by rw [tn1 (t := mx) (by omega), ← bwF_s (T := t.toNat + 1) (K := mx.toNat) (by omega) (by omega), hst_, ← hix_]; simp (disch := decide) only [Int.reduceToNat, up_sr, sr_cp, sr_k, sr_o, sr_sr, us_us]; try rfl) ?_
                                  exact ih50 (mx + 1) (by omega) (by omega)
                                · refine g_iload (pc := 173) (i := 7) (x := wi) hK dd_X12_shown_173 rfl ?_
                                  refine g_goto (pc := 175) (tgt := 180) hK dd_X12_shown_175 (by decide) ?_
                                  have hst_ : (gB (M 208) (M 209) (M 205) (TWf (M 205) (M 206) (M 207))) (t.toNat + 1) mx.toNat = wi := gB_y ewi ewo (by omega)
                                  have hix_ : (201 * (t + 1) + mx).toNat = 201 * (t.toNat + 1) + mx.toNat := by omega
                                  refine g_iast (pc := 180) hK (kdm kd_243) nl_243 (by decide) (by decide) dd_X12_shown_180 (by omega) (by omega) ⟨by omega, by omega⟩ ?_
                                  refine g_iinc (pc := 181) (i := 5) (y := mx + 1) (L' := [(0, gR 200), (1, gI mi), (2, gI t), (3, gI gn), (4, gI tk), (5, gI (mx + 1)), (6, gI wo), (7, gI wi)]) hK dd_X12_shown_181 rfl rfl (by decide) rfl ?_
                                  refine g_goto (pc := 184) (tgt := 96) hK dd_X12_shown_184 (by decide) ?_
                                  refine g_sub (L' := [(0, gR 200), (1, gI mi), (2, gI t), (3, gI gn), (4, gI tk), (5, gI (mx + 1))]) [0, 1, 2, 3, 4, 5] rfl ?_
                                  refine g_mem (M2 := sr M 243 (bwF (M 243) (gB (M 208) (M 209) (M 205) (TWf (M 205) (M 206) (M 207))) mi.toNat (t.toNat + 1) (mx + 1).toNat)) (by rw [tn1 (t := mx) (by omega), ← bwF_s (T := t.toNat + 1) (K := mx.toNat) (by omega) (by omega), hst_, ← hix_]; simp (disch := decide) only [Int.reduceToNat, up_sr, sr_cp, sr_k, sr_o, sr_sr, us_us]; try rfl) ?_
                                  exact ih50 (mx + 1) (by omega) (by omega)
                              · refine g_aloadn (pc := 128) (i := 0) (x := 200) hK dd_X12_shown_128 rfl rfl ?_
                                refine g_getv (pc := 129) (f := (1, 43)) (j := 42) (v := gR 243) hK (kdm kd_200) rfl ef_12 (by decide) rfl kk_1143 dd_X12_shown_129 rfl ?_
                                refine g_sipush (pc := 132) (x := 201) hK dd_X12_shown_132 (by decide) ?_
                                refine g_iloadn (pc := 135) (i := 2) (x := t) hK dd_X12_shown_135 rfl rfl ?_
                                refine g_imul (pc := 136) (z := 201 * t) hK dd_X12_shown_136 rfl ?_
                                refine g_iload (pc := 137) (i := 5) (x := mx) hK dd_X12_shown_137 rfl ?_
                                refine g_iadd (pc := 139) (z := (201 * t) + mx) hK dd_X12_shown_139 rfl ?_
                                refine g_iload (pc := 140) (i := 4) (x := tk) hK dd_X12_shown_140 rfl ?_
                                refine g_isub (pc := 142) (z := ((201 * t) + mx) - tk) hK dd_X12_shown_142 rfl ?_
                                have hw2_ := gB_in (P := M 208) (B := M 209) (K := M 205) (T := (TWf (M 205) (M 206) (M 207))) (fun j hj => (hthm j hj).2.2.2.1) (TWm_in hthm) t.toNat (mx - tk).toNat (by omega)
                                refine g_iald (pc := 143) hK (kdm kd_243) nl_243 (by decide) dd_X12_shown_143 (by omega) (by omega) (fun x60 ex60 rx60 => ?_)
                                replace ex60 : x60 = (bwF (M 243) (gB (M 208) (M 209) (M 205) (TWf (M 205) (M 206) (M 207))) mi.toNat (t.toNat + 1) mx.toNat) ((((201 * t) + mx) - tk).toNat) := by first | exact ex60 | (rw [ex60]; simp [up, us, cp, sr])
                                rw [show (201 * t + mx - tk).toNat = 201 * t.toNat + (mx - tk).toNat by omega, bwF_at (by omega) (by omega) (Or.inl (by omega))] at ex60
                                refine g_iloadn (pc := 144) (i := 3) (x := gn) hK dd_X12_shown_144 rfl rfl ?_
                                refine g_iadd (pc := 145) (z := x60 + gn) hK dd_X12_shown_145 rfl ?_
                                refine g_goto (pc := 146) (tgt := 150) hK dd_X12_shown_146 (by decide) ?_
                                have hwi0_ : (x60 + gn) = gBw (M 208) (M 209) (M 205) (TWf (M 205) (M 206) (M 207)) ((gB (M 208) (M 209) (M 205) (TWf (M 205) (M 206) (M 207))) t.toNat) t.toNat mx.toNat := by first | (rw [← gBw_y egn etk (by omega) ⟨by omega, by omega⟩]; omega) | exact gBw_n egn etk (by omega) (by omega)
                                refine g_topv (v := gI (gBw (M 208) (M 209) (M 205) (TWf (M 205) (M 206) (M 207)) ((gB (M 208) (M 209) (M 205) (TWf (M 205) (M 206) (M 207))) t.toNat) t.toNat mx.toNat)) (by rw [hwi0_]) ?_
                                refine g_topI (fun wi ewi => ?_)
                                refine g_istore (pc := 150) (i := 7) (L' := [(0, gR 200), (1, gI mi), (2, gI t), (3, gI gn), (4, gI tk), (5, gI mx), (6, gI wo), (7, gI wi)]) hK dd_X12_shown_150 (by decide) rfl ?_
                                refine g_aloadn (pc := 152) (i := 0) (x := 200) hK dd_X12_shown_152 rfl rfl ?_
                                refine g_getv (pc := 153) (f := (1, 43)) (j := 42) (v := gR 243) hK (kdm kd_200) rfl ef_12 (by decide) rfl kk_1143 dd_X12_shown_153 rfl ?_
                                refine g_sipush (pc := 156) (x := 201) hK dd_X12_shown_156 (by decide) ?_
                                refine g_iloadn (pc := 159) (i := 2) (x := t) hK dd_X12_shown_159 rfl rfl ?_
                                refine g_iconst (pc := 160) (x := 1) hK dd_X12_shown_160 (by decide) ?_
                                refine g_iadd (pc := 161) (z := t + 1) hK dd_X12_shown_161 rfl ?_
                                refine g_imul (pc := 162) (z := 201 * (t + 1)) hK dd_X12_shown_162 rfl ?_
                                refine g_iload (pc := 163) (i := 5) (x := mx) hK dd_X12_shown_163 rfl ?_
                                refine g_iadd (pc := 165) (z := (201 * (t + 1)) + mx) hK dd_X12_shown_165 rfl ?_
                                refine g_iload (pc := 166) (i := 7) (x := wi) hK dd_X12_shown_166 rfl ?_
                                refine g_iload (pc := 168) (i := 6) (x := wo) hK dd_X12_shown_168 rfl ?_
                                refine g_icmp_le (pc := 170) (tgt := 178) hK dd_X12_shown_170 (by decide) ⟨by omega, by omega⟩ ⟨by omega, by omega⟩ (fun c61 => ?_) (fun c61 => ?_)
                                · refine g_iload (pc := 178) (i := 6) (x := wo) hK dd_X12_shown_178 rfl ?_
                                  have hst_ : (gB (M 208) (M 209) (M 205) (TWf (M 205) (M 206) (M 207))) (t.toNat + 1) mx.toNat = wo := gB_n ewi ewo (by omega)
                                  have hix_ : (201 * (t + 1) + mx).toNat = 201 * (t.toNat + 1) + mx.toNat := by omega
                                  refine g_iast (pc := 180) hK (kdm kd_243) nl_243 (by decide) (by decide) dd_X12_shown_180 (by omega) (by omega) ⟨by omega, by omega⟩ ?_
                                  refine g_iinc (pc := 181) (i := 5) (y := mx + 1) (L' := [(0, gR 200), (1, gI mi), (2, gI t), (3, gI gn), (4, gI tk), (5, gI (mx + 1)), (6, gI wo), (7, gI wi)]) hK dd_X12_shown_181 rfl rfl (by decide) rfl ?_
                                  refine g_goto (pc := 184) (tgt := 96) hK dd_X12_shown_184 (by decide) ?_
                                  refine g_sub (L' := [(0, gR 200), (1, gI mi), (2, gI t), (3, gI gn), (4, gI tk), (5, gI (mx + 1))]) [0, 1, 2, 3, 4, 5] rfl ?_
                                  refine g_mem (M2 := sr M 243 (bwF (M 243) (gB (M 208) (M 209) (M 205) (TWf (M 205) (M 206) (M 207))) mi.toNat (t.toNat + 1) (mx + 1).toNat)) (by rw [tn1 (t := mx) (by omega), ← bwF_s (T := t.toNat + 1) (K := mx.toNat) (by omega) (by omega), hst_, ← hix_]; simp (disch := decide) only [Int.reduceToNat, up_sr, sr_cp, sr_k, sr_o, sr_sr, us_us]; try rfl) ?_
                                  exact ih50 (mx + 1) (by omega) (by omega)
                                · refine g_iload (pc := 173) (i := 7) (x := wi) hK dd_X12_shown_173 rfl ?_
                                  refine g_goto (pc := 175) (tgt := 180) hK dd_X12_shown_175 (by decide) ?_
                                  have hst_ : (gB (M 208) (M 209) (M 205) (TWf (M 205) (M 206) (M 207))) (t.toNat + 1) mx.toNat = wi := gB_y ewi ewo (by omega)
                                  have hix_ : (201 * (t + 1) + mx).toNat = 201 * (t.toNat + 1) + mx.toNat := by omega
                                  refine g_iast (pc := 180) hK (kdm kd_243) nl_243 (by decide) (by decide) dd_X12_shown_180 (by omega) (by omega) ⟨by omega, by omega⟩ ?_
                                  refine g_iinc (pc := 181) (i := 5) (y := mx + 1) (L' := [(0, gR 200), (1, gI mi), (2, gI t), (3, gI gn), (4, gI tk), (5, gI (mx + 1)), (6, gI wo), (7, gI wi)]) hK dd_X12_shown_181 rfl rfl (by decide) rfl ?_
                                  refine g_goto (pc := 184) (tgt := 96) hK dd_X12_shown_184 (by decide) ?_
                                  refine g_sub (L' := [(0, gR 200), (1, gI mi), (2, gI t), (3, gI gn), (4, gI tk), (5, gI (mx + 1))]) [0, 1, 2, 3, 4, 5] rfl ?_
                                  refine g_mem (M2 := sr M 243 (bwF (M 243) (gB (M 208) (M 209) (M 205) (TWf (M 205) (M 206) (M 207))) mi.toNat (t.toNat + 1) (mx + 1).toNat)) (by rw [tn1 (t := mx) (by omega), ← bwF_s (T := t.toNat + 1) (K := mx.toNat) (by omega) (by omega), hst_, ← hix_]; simp (disch := decide) only [Int.reduceToNat, up_sr, sr_cp, sr_k, sr_o, sr_sr, us_us]; try rfl) ?_
                                  exact ih50 (mx + 1) (by omega) (by omega)
                      refine g_mem (M2 := sr M 243 (bwF (M 243) (gB (M 208) (M 209) (M 205) (TWf (M 205) (M 206) (M 207))) mi.toNat (t.toNat + 1) (0 : Int).toNat)) (rfl) ?_
                      refine g_sub (L' := [(0, gR 200), (1, gI mi), (2, gI t), (3, gI gn), (4, gI tk), (5, gI 0)]) [0, 1, 2, 3, 4, 5] rfl ?_
                      exact lp51 _ 0 (by omega) (Nat.lt_succ_self _)
                    · refine g_iconst (pc := 66) (x := 0) hK dd_X12_shown_66 (by decide) ?_
                      refine g_goto (pc := 67) (tgt := 82) hK dd_X12_shown_67 (by decide) ?_
                      have hgn0_ : (0 : Int) = gnT (M 208) (M 209) (TWf (M 205) (M 206) (M 207)) t.toNat := by unfold gnT; first | (rw [if_pos (by omega)]; done) | (rw [if_neg (by omega)]; subst_vars; rfl)
                      refine g_topv (v := gI (gnT (M 208) (M 209) (TWf (M 205) (M 206) (M 207)) t.toNat)) (by rw [hgn0_]) ?_
                      refine g_topI (fun gn egn => ?_)
                      have hgb_ : -999 ≤ gn ∧ gn ≤ 1049 := by omega
                      refine g_istoren (pc := 82) (i := 3) (L' := [(0, gR 200), (1, gI mi), (2, gI t), (3, gI gn)]) hK dd_X12_shown_82 rfl (by decide) rfl ?_
                      refine g_iconst (pc := 83) (x := 2) hK dd_X12_shown_83 (by decide) ?_
                      refine g_aloadn (pc := 84) (i := 0) (x := 200) hK dd_X12_shown_84 rfl rfl ?_
                      refine g_getv (pc := 85) (f := (1, 5)) (j := 4) (v := gR 205) hK (kdm kd_200) rfl ef_12 (by decide) rfl kk_1105 dd_X12_shown_85 rfl ?_
                      refine g_iloadn (pc := 88) (i := 2) (x := t) hK dd_X12_shown_88 rfl rfl ?_
                      refine g_iald (pc := 89) hK (kdm kd_205) nl_205 (by decide) dd_X12_shown_89 (by omega) (by omega) (fun x62 ex62 rx62 => ?_)
                      replace ex62 : x62 = M 205 t.toNat := ex62
                      refine g_iadd (pc := 90) (z := 2 + x62) hK dd_X12_shown_90 rfl ?_
                      have htk0_ : (2 + x62) = 2 + M 205 t.toNat := by omega
                      refine g_topv (v := gI (2 + M 205 t.toNat)) (by rw [htk0_]) ?_
                      refine g_topI (fun tk etk => ?_)
                      have htk_ : 2 ≤ tk ∧ tk ≤ 7 := by omega
                      refine g_istore (pc := 91) (i := 4) (L' := [(0, gR 200), (1, gI mi), (2, gI t), (3, gI gn), (4, gI tk)]) hK dd_X12_shown_91 (by decide) rfl ?_
                      refine g_iconst (pc := 93) (x := 0) hK dd_X12_shown_93 (by decide) ?_
                      refine g_istore (pc := 94) (i := 5) (L' := [(0, gR 200), (1, gI mi), (2, gI t), (3, gI gn), (4, gI tk), (5, gI 0)]) hK dd_X12_shown_94 (by decide) rfl ?_
                      have lp65 : ∀ (n63 : Nat) (mx : Int), (0 ≤ mx ∧ mx ≤ mi + 1) → (mi + 1 - mx).toNat < n63 → G p l e (rmD 4) s m args below meth c D cy q A 0 0 8 (MQ below (gQc D cy q A Pq) args s 0 0 A) 96 [(0, gR 200), (1, gI mi), (2, gI t), (3, gI gn), (4, gI tk), (5, gI mx)] [] (sr M 243 (bwF (M 243) (gB (M 208) (M 209) (M 205) (TWf (M 205) (M 206) (M 207))) mi.toNat (t.toNat + 1) mx.toNat)) := by
                        intro n63
                        induction n63 with
                        | zero => intro mx iv66 hm67; exact absurd hm67 (Nat.not_lt_zero _)
                        | succ n63 ih64 =>
                          intro mx iv66 hm67
                          refine g_iload (pc := 96) (i := 5) (x := mx) hK dd_X12_shown_96 rfl ?_
                          refine g_iloadn (pc := 98) (i := 1) (x := mi) hK dd_X12_shown_98 rfl rfl ?_
                          refine g_icmp_gt (pc := 99) (tgt := 187) hK dd_X12_shown_99 (by decide) ⟨by omega, by omega⟩ h_mi (fun c68 => ?_) (fun c68 => ?_)
                          · refine g_iinc (pc := 187) (i := 2) (y := t + 1) (L' := [(0, gR 200), (1, gI mi), (2, gI (t + 1)), (3, gI gn), (4, gI tk), (5, gI mx)]) hK dd_X12_shown_187 rfl rfl (by decide) rfl ?_
                            refine g_goto (pc := 190) (tgt := 40) hK dd_X12_shown_190 (by decide) ?_
                            refine g_sub (L' := [(0, gR 200), (1, gI mi), (2, gI (t + 1))]) [0, 1, 2] rfl ?_
                            refine g_mem (M2 := sr M 243 (bwF (M 243) (gB (M 208) (M 209) (M 205) (TWf (M 205) (M 206) (M 207))) mi.toNat ((t + 1).toNat + 1) 0)) (by rw [tn1 (t := t) (by omega), show mx.toNat = mi.toNat + 1 by omega, bwF_r]) ?_
                            exact ih10 (t + 1) (by omega) (by omega)
                          · refine g_aloadn (pc := 102) (i := 0) (x := 200) hK dd_X12_shown_102 rfl rfl ?_
                            refine g_getv (pc := 103) (f := (1, 43)) (j := 42) (v := gR 243) hK (kdm kd_200) rfl ef_12 (by decide) rfl kk_1143 dd_X12_shown_103 rfl ?_
                            refine g_sipush (pc := 106) (x := 201) hK dd_X12_shown_106 (by decide) ?_
                            refine g_iloadn (pc := 109) (i := 2) (x := t) hK dd_X12_shown_109 rfl rfl ?_
                            refine g_imul (pc := 110) (z := 201 * t) hK dd_X12_shown_110 rfl ?_
                            refine g_iload (pc := 111) (i := 5) (x := mx) hK dd_X12_shown_111 rfl ?_
                            refine g_iadd (pc := 113) (z := (201 * t) + mx) hK dd_X12_shown_113 rfl ?_
                            refine g_iald (pc := 114) hK (kdm kd_243) nl_243 (by decide) dd_X12_shown_114 (by omega) (by omega) (fun x69 ex69 rx69 => ?_)
                            replace ex69 : x69 = (bwF (M 243) (gB (M 208) (M 209) (M 205) (TWf (M 205) (M 206) (M 207))) mi.toNat (t.toNat + 1) mx.toNat) (((201 * t) + mx).toNat) := by first | exact ex69 | (rw [ex69]; simp [up, us, cp, sr])
                            rw [show (201 * t + mx).toNat = 201 * t.toNat + mx.toNat by omega, bwF_at (by omega) (by omega) (Or.inl (by omega))] at ex69
                            have hwo0_ : x69 = (gB (M 208) (M 209) (M 205) (TWf (M 205) (M 206) (M 207))) t.toNat mx.toNat := ex69
                            refine g_topv (v := gI ((gB (M 208) (M 209) (M 205) (TWf (M 205) (M 206) (M 207))) t.toNat mx.toNat)) (by rw [hwo0_]) ?_
                            refine g_topI (fun wo ewo => ?_)
                            have hwo_ := gB_in (P := M 208) (B := M 209) (K := M 205) (T := (TWf (M 205) (M 206) (M 207))) (fun j hj => (hthm j hj).2.2.2.1) (TWm_in hthm) t.toNat mx.toNat (by omega)
                            rw [← ewo] at hwo_
                            refine g_istore (pc := 115) (i := 6) (L' := [(0, gR 200), (1, gI mi), (2, gI t), (3, gI gn), (4, gI tk), (5, gI mx), (6, gI wo)]) hK dd_X12_shown_115 (by decide) rfl ?_
                            refine g_iloadn (pc := 117) (i := 3) (x := gn) hK dd_X12_shown_117 rfl rfl ?_
                            refine g_if_le (pc := 118) (tgt := 149) hK dd_X12_shown_118 (by decide) ⟨by omega, by omega⟩ (fun c70 => ?_) (fun c70 => ?_)
                            · refine g_iconst (pc := 149) (x := 0) hK dd_X12_shown_149 (by decide) ?_
                              have hwi0_ : (0 : Int) = gBw (M 208) (M 209) (M 205) (TWf (M 205) (M 206) (M 207)) ((gB (M 208) (M 209) (M 205) (TWf (M 205) (M 206) (M 207))) t.toNat) t.toNat mx.toNat := by first | (rw [← gBw_y egn etk (by omega) ⟨by omega, by omega⟩]; omega) | exact gBw_n egn etk (by omega) (by omega)
                              refine g_topv (v := gI (gBw (M 208) (M 209) (M 205) (TWf (M 205) (M 206) (M 207)) ((gB (M 208) (M 209) (M 205) (TWf (M 205) (M 206) (M 207))) t.toNat) t.toNat mx.toNat)) (by rw [hwi0_]) ?_
                              refine g_topI (fun wi ewi => ?_)
                              refine g_istore (pc := 150) (i := 7) (L' := [(0, gR 200), (1, gI mi), (2, gI t), (3, gI gn), (4, gI tk), (5, gI mx), (6, gI wo), (7, gI wi)]) hK dd_X12_shown_150 (by decide) rfl ?_
                              refine g_aloadn (pc := 152) (i := 0) (x := 200) hK dd_X12_shown_152 rfl rfl ?_
                              refine g_getv (pc := 153) (f := (1, 43)) (j := 42) (v := gR 243) hK (kdm kd_200) rfl ef_12 (by decide) rfl kk_1143 dd_X12_shown_153 rfl ?_
                              refine g_sipush (pc := 156) (x := 201) hK dd_X12_shown_156 (by decide) ?_
                              refine g_iloadn (pc := 159) (i := 2) (x := t) hK dd_X12_shown_159 rfl rfl ?_
                              refine g_iconst (pc := 160) (x := 1) hK dd_X12_shown_160 (by decide) ?_
                              refine g_iadd (pc := 161) (z := t + 1) hK dd_X12_shown_161 rfl ?_
                              refine g_imul (pc := 162) (z := 201 * (t + 1)) hK dd_X12_shown_162 rfl ?_
                              refine g_iload (pc := 163) (i := 5) (x := mx) hK dd_X12_shown_163 rfl ?_
                              refine g_iadd (pc := 165) (z := (201 * (t + 1)) + mx) hK dd_X12_shown_165 rfl ?_
                              refine g_iload (pc := 166) (i := 7) (x := wi) hK dd_X12_shown_166 rfl ?_
                              refine g_iload (pc := 168) (i := 6) (x := wo) hK dd_X12_shown_168 rfl ?_
                              refine g_icmp_le (pc := 170) (tgt := 178) hK dd_X12_shown_170 (by decide) ⟨by omega, by omega⟩ ⟨by omega, by omega⟩ (fun c71 => ?_) (fun c71 => ?_)
                              · refine g_iload (pc := 178) (i := 6) (x := wo) hK dd_X12_shown_178 rfl ?_
                                have hst_ : (gB (M 208) (M 209) (M 205) (TWf (M 205) (M 206) (M 207))) (t.toNat + 1) mx.toNat = wo := gB_n ewi ewo (by omega)
                                have hix_ : (201 * (t + 1) + mx).toNat = 201 * (t.toNat + 1) + mx.toNat := by omega
                                refine g_iast (pc := 180) hK (kdm kd_243) nl_243 (by decide) (by decide) dd_X12_shown_180 (by omega) (by omega) ⟨by omega, by omega⟩ ?_
                                refine g_iinc (pc := 181) (i := 5) (y := mx + 1) (L' := [(0, gR 200), (1, gI mi), (2, gI t), (3, gI gn), (4, gI tk), (5, gI (mx + 1)), (6, gI wo), (7, gI wi)]) hK dd_X12_shown_181 rfl rfl (by decide) rfl ?_
                                refine g_goto (pc := 184) (tgt := 96) hK dd_X12_shown_184 (by decide) ?_
                                refine g_sub (L' := [(0, gR 200), (1, gI mi), (2, gI t), (3, gI gn), (4, gI tk), (5, gI (mx + 1))]) [0, 1, 2, 3, 4, 5] rfl ?_
                                refine g_mem (M2 := sr M 243 (bwF (M 243) (gB (M 208) (M 209) (M 205) (TWf (M 205) (M 206) (M 207))) mi.toNat (t.toNat + 1) (mx + 1).toNat)) (by rw [tn1 (t := mx) (by omega), ← bwF_s (T := t.toNat + 1) (K := mx.toNat) (by omega) (by omega), hst_, ← hix_]; simp (disch := decide) only [Int.reduceToNat, up_sr, sr_cp, sr_k, sr_o, sr_sr, us_us]; try rfl) ?_
                                exact ih64 (mx + 1) (by omega) (by omega)
                              · refine g_iload (pc := 173) (i := 7) (x := wi) hK dd_X12_shown_173 rfl ?_
                                refine g_goto (pc := 175) (tgt := 180) hK dd_X12_shown_175 (by decide) ?_
                                have hst_ : (gB (M 208) (M 209) (M 205) (TWf (M 205) (M 206) (M 207))) (t.toNat + 1) mx.toNat = wi := gB_y ewi ewo (by omega)
                                have hix_ : (201 * (t + 1) + mx).toNat = 201 * (t.toNat + 1) + mx.toNat := by omega
                                refine g_iast (pc := 180) hK (kdm kd_243) nl_243 (by decide) (by decide) dd_X12_shown_180 (by omega) (by omega) ⟨by omega, by omega⟩ ?_
                                refine g_iinc (pc := 181) (i := 5) (y := mx + 1) (L' := [(0, gR 200), (1, gI mi), (2, gI t), (3, gI gn), (4, gI tk), (5, gI (mx + 1)), (6, gI wo), (7, gI wi)]) hK dd_X12_shown_181 rfl rfl (by decide) rfl ?_
                                refine g_goto (pc := 184) (tgt := 96) hK dd_X12_shown_184 (by decide) ?_
                                refine g_sub (L' := [(0, gR 200), (1, gI mi), (2, gI t), (3, gI gn), (4, gI tk), (5, gI (mx + 1))]) [0, 1, 2, 3, 4, 5] rfl ?_
                                refine g_mem (M2 := sr M 243 (bwF (M 243) (gB (M 208) (M 209) (M 205) (TWf (M 205) (M 206) (M 207))) mi.toNat (t.toNat + 1) (mx + 1).toNat)) (by rw [tn1 (t := mx) (by omega), ← bwF_s (T := t.toNat + 1) (K := mx.toNat) (by omega) (by omega), hst_, ← hix_]; simp (disch := decide) only [Int.reduceToNat, up_sr, sr_cp, sr_k, sr_o, sr_sr, us_us]; try rfl) ?_
                                exact ih64 (mx + 1) (by omega) (by omega)
                            · refine g_iload (pc := 121) (i := 5) (x := mx) hK dd_X12_shown_121 rfl ?_
                              refine g_iload (pc := 123) (i := 4) (x := tk) hK dd_X12_shown_123 rfl ?_
                              refine g_icmp_lt (pc := 125) (tgt := 149) hK dd_X12_shown_125 (by decide) ⟨by omega, by omega⟩ ⟨by omega, by omega⟩ (fun c72 => ?_) (fun c72 => ?_)
                              · refine g_iconst (pc := 149) (x := 0) hK dd_X12_shown_149 (by decide) ?_
                                have hwi0_ : (0 : Int) = gBw (M 208) (M 209) (M 205) (TWf (M 205) (M 206) (M 207)) ((gB (M 208) (M 209) (M 205) (TWf (M 205) (M 206) (M 207))) t.toNat) t.toNat mx.toNat := by first | (rw [← gBw_y egn etk (by omega) ⟨by omega, by omega⟩]; omega) | exact gBw_n egn etk (by omega) (by omega)
                                refine g_topv (v := gI (gBw (M 208) (M 209) (M 205) (TWf (M 205) (M 206) (M 207)) ((gB (M 208) (M 209) (M 205) (TWf (M 205) (M 206) (M 207))) t.toNat) t.toNat mx.toNat)) (by rw [hwi0_]) ?_
                                refine g_topI (fun wi ewi => ?_)
                                refine g_istore (pc := 150) (i := 7) (L' := [(0, gR 200), (1, gI mi), (2, gI t), (3, gI gn), (4, gI tk), (5, gI mx), (6, gI wo), (7, gI wi)]) hK dd_X12_shown_150 (by decide) rfl ?_
                                refine g_aloadn (pc := 152) (i := 0) (x := 200) hK dd_X12_shown_152 rfl rfl ?_
                                refine g_getv (pc := 153) (f := (1, 43)) (j := 42) (v := gR 243) hK (kdm kd_200) rfl ef_12 (by decide) rfl kk_1143 dd_X12_shown_153 rfl ?_
                                refine g_sipush (pc := 156) (x := 201) hK dd_X12_shown_156 (by decide) ?_
                                refine g_iloadn (pc := 159) (i := 2) (x := t) hK dd_X12_shown_159 rfl rfl ?_
                                refine g_iconst (pc := 160) (x := 1) hK dd_X12_shown_160 (by decide) ?_
                                refine g_iadd (pc := 161) (z := t + 1) hK dd_X12_shown_161 rfl ?_
                                refine g_imul (pc := 162) (z := 201 * (t + 1)) hK dd_X12_shown_162 rfl ?_
                                refine g_iload (pc := 163) (i := 5) (x := mx) hK dd_X12_shown_163 rfl ?_
                                refine g_iadd (pc := 165) (z := (201 * (t + 1)) + mx) hK dd_X12_shown_165 rfl ?_
                                refine g_iload (pc := 166) (i := 7) (x := wi) hK dd_X12_shown_166 rfl ?_
                                refine g_iload (pc := 168) (i := 6) (x := wo) hK dd_X12_shown_168 rfl ?_
                                refine g_icmp_le (pc := 170) (tgt := 178) hK dd_X12_shown_170 (by decide) ⟨by omega, by omega⟩ ⟨by omega, by omega⟩ (fun c73 => ?_) (fun c73 => ?_)
                                · refine g_iload (pc := 178) (i := 6) (x := wo) hK dd_X12_shown_178 rfl ?_
                                  have hst_ : (gB (M 208) (M 209) (M 205) (TWf (M 205) (M 206) (M 207))) (t.toNat + 1) mx.toNat = wo := gB_n ewi ewo (by omega)
                                  have hix_ : (201 * (t + 1) + mx).toNat = 201 * (t.toNat + 1) + mx.toNat := by omega
                                  refine g_iast (pc := 180) hK (kdm kd_243) nl_243 (by decide) (by decide) dd_X12_shown_180 (by omega) (by omega) ⟨by omega, by omega⟩ ?_
                                  refine g_iinc (pc := 181) (i := 5) (y := mx + 1) (L' := [(0, gR 200), (1, gI mi), (2, gI t), (3, gI gn), (4, gI tk), (5, gI (mx + 1)), (6, gI wo), (7, gI wi)]) hK dd_X12_shown_181 rfl rfl (by decide) rfl ?_
                                  refine g_goto (pc := 184) (tgt := 96) hK dd_X12_shown_184 (by decide) ?_
                                  refine g_sub (L' := [(0, gR 200), (1, gI mi), (2, gI t), (3, gI gn), (4, gI tk), (5, gI (mx + 1))]) [0, 1, 2, 3, 4, 5] rfl ?_
                                  refine g_mem (M2 := sr M 243 (bwF (M 243) (gB (M 208) (M 209) (M 205) (TWf (M 205) (M 206) (M 207))) mi.toNat (t.toNat + 1) (mx + 1).toNat)) (by rw [tn1 (t := mx) (by omega), ← bwF_s (T := t.toNat + 1) (K := mx.toNat) (by omega) (by omega), hst_, ← hix_]; simp (disch := decide) only [Int.reduceToNat, up_sr, sr_cp, sr_k, sr_o, sr_sr, us_us]; try rfl) ?_
                                  exact ih64 (mx + 1) (by omega) (by omega)
                                · refine g_iload (pc := 173) (i := 7) (x := wi) hK dd_X12_shown_173 rfl ?_
                                  refine g_goto (pc := 175) (tgt := 180) hK dd_X12_shown_175 (by decide) ?_
                                  have hst_ : (gB (M 208) (M 209) (M 205) (TWf (M 205) (M 206) (M 207))) (t.toNat + 1) mx.toNat = wi := gB_y ewi ewo (by omega)
                                  have hix_ : (201 * (t + 1) + mx).toNat = 201 * (t.toNat + 1) + mx.toNat := by omega
                                  refine g_iast (pc := 180) hK (kdm kd_243) nl_243 (by decide) (by decide) dd_X12_shown_180 (by omega) (by omega) ⟨by omega, by omega⟩ ?_
                                  refine g_iinc (pc := 181) (i := 5) (y := mx + 1) (L' := [(0, gR 200), (1, gI mi), (2, gI t), (3, gI gn), (4, gI tk), (5, gI (mx + 1)), (6, gI wo), (7, gI wi)]) hK dd_X12_shown_181 rfl rfl (by decide) rfl ?_
                                  refine g_goto (pc := 184) (tgt := 96) hK dd_X12_shown_184 (by decide) ?_
                                  refine g_sub (L' := [(0, gR 200), (1, gI mi), (2, gI t), (3, gI gn), (4, gI tk), (5, gI (mx + 1))]) [0, 1, 2, 3, 4, 5] rfl ?_
                                  refine g_mem (M2 := sr M 243 (bwF (M 243) (gB (M 208) (M 209) (M 205) (TWf (M 205) (M 206) (M 207))) mi.toNat (t.toNat + 1) (mx + 1).toNat)) (by rw [tn1 (t := mx) (by omega), ← bwF_s (T := t.toNat + 1) (K := mx.toNat) (by omega) (by omega), hst_, ← hix_]; simp (disch := decide) only [Int.reduceToNat, up_sr, sr_cp, sr_k, sr_o, sr_sr, us_us]; try rfl) ?_
                                  exact ih64 (mx + 1) (by omega) (by omega)
                              · refine g_aloadn (pc := 128) (i := 0) (x := 200) hK dd_X12_shown_128 rfl rfl ?_
                                refine g_getv (pc := 129) (f := (1, 43)) (j := 42) (v := gR 243) hK (kdm kd_200) rfl ef_12 (by decide) rfl kk_1143 dd_X12_shown_129 rfl ?_
                                refine g_sipush (pc := 132) (x := 201) hK dd_X12_shown_132 (by decide) ?_
                                refine g_iloadn (pc := 135) (i := 2) (x := t) hK dd_X12_shown_135 rfl rfl ?_
                                refine g_imul (pc := 136) (z := 201 * t) hK dd_X12_shown_136 rfl ?_
                                refine g_iload (pc := 137) (i := 5) (x := mx) hK dd_X12_shown_137 rfl ?_
                                refine g_iadd (pc := 139) (z := (201 * t) + mx) hK dd_X12_shown_139 rfl ?_
                                refine g_iload (pc := 140) (i := 4) (x := tk) hK dd_X12_shown_140 rfl ?_
                                refine g_isub (pc := 142) (z := ((201 * t) + mx) - tk) hK dd_X12_shown_142 rfl ?_
                                have hw2_ := gB_in (P := M 208) (B := M 209) (K := M 205) (T := (TWf (M 205) (M 206) (M 207))) (fun j hj => (hthm j hj).2.2.2.1) (TWm_in hthm) t.toNat (mx - tk).toNat (by omega)
                                refine g_iald (pc := 143) hK (kdm kd_243) nl_243 (by decide) dd_X12_shown_143 (by omega) (by omega) (fun x74 ex74 rx74 => ?_)
                                replace ex74 : x74 = (bwF (M 243) (gB (M 208) (M 209) (M 205) (TWf (M 205) (M 206) (M 207))) mi.toNat (t.toNat + 1) mx.toNat) ((((201 * t) + mx) - tk).toNat) := by first | exact ex74 | (rw [ex74]; simp [up, us, cp, sr])
                                rw [show (201 * t + mx - tk).toNat = 201 * t.toNat + (mx - tk).toNat by omega, bwF_at (by omega) (by omega) (Or.inl (by omega))] at ex74
                                refine g_iloadn (pc := 144) (i := 3) (x := gn) hK dd_X12_shown_144 rfl rfl ?_
                                refine g_iadd (pc := 145) (z := x74 + gn) hK dd_X12_shown_145 rfl ?_
                                refine g_goto (pc := 146) (tgt := 150) hK dd_X12_shown_146 (by decide) ?_
                                have hwi0_ : (x74 + gn) = gBw (M 208) (M 209) (M 205) (TWf (M 205) (M 206) (M 207)) ((gB (M 208) (M 209) (M 205) (TWf (M 205) (M 206) (M 207))) t.toNat) t.toNat mx.toNat := by first | (rw [← gBw_y egn etk (by omega) ⟨by omega, by omega⟩]; omega) | exact gBw_n egn etk (by omega) (by omega)
                                refine g_topv (v := gI (gBw (M 208) (M 209) (M 205) (TWf (M 205) (M 206) (M 207)) ((gB (M 208) (M 209) (M 205) (TWf (M 205) (M 206) (M 207))) t.toNat) t.toNat mx.toNat)) (by rw [hwi0_]) ?_
                                refine g_topI (fun wi ewi => ?_)
                                refine g_istore (pc := 150) (i := 7) (L' := [(0, gR 200), (1, gI mi), (2, gI t), (3, gI gn), (4, gI tk), (5, gI mx), (6, gI wo), (7, gI wi)]) hK dd_X12_shown_150 (by decide) rfl ?_
                                refine g_aloadn (pc := 152) (i := 0) (x := 200) hK dd_X12_shown_152 rfl rfl ?_
                                refine g_getv (pc := 153) (f := (1, 43)) (j := 42) (v := gR 243) hK (kdm kd_200) rfl ef_12 (by decide) rfl kk_1143 dd_X12_shown_153 rfl ?_
                                refine g_sipush (pc := 156) (x := 201) hK dd_X12_shown_156 (by decide) ?_
                                refine g_iloadn (pc := 159) (i := 2) (x := t) hK dd_X12_shown_159 rfl rfl ?_
                                refine g_iconst (pc := 160) (x := 1) hK dd_X12_shown_160 (by decide) ?_
                                refine g_iadd (pc := 161) (z := t + 1) hK dd_X12_shown_161 rfl ?_
                                refine g_imul (pc := 162) (z := 201 * (t + 1)) hK dd_X12_shown_162 rfl ?_
                                refine g_iload (pc := 163) (i := 5) (x := mx) hK dd_X12_shown_163 rfl ?_
                                refine g_iadd (pc := 165) (z := (201 * (t + 1)) + mx) hK dd_X12_shown_165 rfl ?_
                                refine g_iload (pc := 166) (i := 7) (x := wi) hK dd_X12_shown_166 rfl ?_
                                refine g_iload (pc := 168) (i := 6) (x := wo) hK dd_X12_shown_168 rfl ?_
                                refine g_icmp_le (pc := 170) (tgt := 178) hK dd_X12_shown_170 (by decide) ⟨by omega, by omega⟩ ⟨by omega, by omega⟩ (fun c75 => ?_) (fun c75 => ?_)
                                · refine g_iload (pc := 178) (i := 6) (x := wo) hK dd_X12_shown_178 rfl ?_
                                  have hst_ : (gB (M 208) (M 209) (M 205) (TWf (M 205) (M 206) (M 207))) (t.toNat + 1) mx.toNat = wo := gB_n ewi ewo (by omega)
                                  have hix_ : (201 * (t + 1) + mx).toNat = 201 * (t.toNat + 1) + mx.toNat := by omega
                                  refine g_iast (pc := 180) hK (kdm kd_243) nl_243 (by decide) (by decide) dd_X12_shown_180 (by omega) (by omega) ⟨by omega, by omega⟩ ?_
                                  refine g_iinc (pc := 181) (i := 5) (y := mx + 1) (L' := [(0, gR 200), (1, gI mi), (2, gI t), (3, gI gn), (4, gI tk), (5, gI (mx + 1)), (6, gI wo), (7, gI wi)]) hK dd_X12_shown_181 rfl rfl (by decide) rfl ?_
                                  refine g_goto (pc := 184) (tgt := 96) hK dd_X12_shown_184 (by decide) ?_
                                  refine g_sub (L' := [(0, gR 200), (1, gI mi), (2, gI t), (3, gI gn), (4, gI tk), (5, gI (mx + 1))]) [0, 1, 2, 3, 4, 5] rfl ?_
                                  refine g_mem (M2 := sr M 243 (bwF (M 243) (gB (M 208) (M 209) (M 205) (TWf (M 205) (M 206) (M 207))) mi.toNat (t.toNat + 1) (mx + 1).toNat)) (by rw [tn1 (t := mx) (by omega), ← bwF_s (T := t.toNat + 1) (K := mx.toNat) (by omega) (by omega), hst_, ← hix_]; simp (disch := decide) only [Int.reduceToNat, up_sr, sr_cp, sr_k, sr_o, sr_sr, us_us]; try rfl) ?_
                                  exact ih64 (mx + 1) (by omega) (by omega)
                                · refine g_iload (pc := 173) (i := 7) (x := wi) hK dd_X12_shown_173 rfl ?_
                                  refine g_goto (pc := 175) (tgt := 180) hK dd_X12_shown_175 (by decide) ?_
                                  have hst_ : (gB (M 208) (M 209) (M 205) (TWf (M 205) (M 206) (M 207))) (t.toNat + 1) mx.toNat = wi := gB_y ewi ewo (by omega)
                                  have hix_ : (201 * (t + 1) + mx).toNat = 201 * (t.toNat + 1) + mx.toNat := by omega
                                  refine g_iast (pc := 180) hK (kdm kd_243) nl_243 (by decide) (by decide) dd_X12_shown_180 (by omega) (by omega) ⟨by omega, by omega⟩ ?_
                                  refine g_iinc (pc := 181) (i := 5) (y := mx + 1) (L' := [(0, gR 200), (1, gI mi), (2, gI t), (3, gI gn), (4, gI tk), (5, gI (mx + 1)), (6, gI wo), (7, gI wi)]) hK dd_X12_shown_181 rfl rfl (by decide) rfl ?_
                                  refine g_goto (pc := 184) (tgt := 96) hK dd_X12_shown_184 (by decide) ?_
                                  refine g_sub (L' := [(0, gR 200), (1, gI mi), (2, gI t), (3, gI gn), (4, gI tk), (5, gI (mx + 1))]) [0, 1, 2, 3, 4, 5] rfl ?_
                                  refine g_mem (M2 := sr M 243 (bwF (M 243) (gB (M 208) (M 209) (M 205) (TWf (M 205) (M 206) (M 207))) mi.toNat (t.toNat + 1) (mx + 1).toNat)) (by rw [tn1 (t := mx) (by omega), ← bwF_s (T := t.toNat + 1) (K := mx.toNat) (by omega) (by omega), hst_, ← hix_]; simp (disch := decide) only [Int.reduceToNat, up_sr, sr_cp, sr_k, sr_o, sr_sr, us_us]; try rfl) ?_
                                  exact ih64 (mx + 1) (by omega) (by omega)
                      refine g_mem (M2 := sr M 243 (bwF (M 243) (gB (M 208) (M 209) (M 205) (TWf (M 205) (M 206) (M 207))) mi.toNat (t.toNat + 1) (0 : Int).toNat)) (rfl) ?_
                      refine g_sub (L' := [(0, gR 200), (1, gI mi), (2, gI t), (3, gI gn), (4, gI tk), (5, gI 0)]) [0, 1, 2, 3, 4, 5] rfl ?_
                      exact lp65 _ 0 (by omega) (Nat.lt_succ_self _)
            refine g_mem (M2 := sr M 243 (bwF (M 243) (gB (M 208) (M 209) (M 205) (TWf (M 205) (M 206) (M 207))) mi.toNat ((0 : Int).toNat + 1) 0)) (by rw [show mx.toNat = mi.toNat + 1 by omega, bwF_r]; rfl) ?_
            refine g_sub (L' := [(0, gR 200), (1, gI mi), (2, gI 0)]) [0, 1, 2] rfl ?_
            exact lp11 _ 0 (by omega) (Nat.lt_succ_self _)
          · refine g_aloadn (pc := 25) (i := 0) (x := 200) hK dd_X12_shown_25 rfl rfl ?_
            refine g_getv (pc := 26) (f := (1, 43)) (j := 42) (v := gR 243) hK (kdm kd_200) rfl ef_12 (by decide) rfl kk_1143 dd_X12_shown_26 rfl ?_
            refine g_iloadn (pc := 29) (i := 2) (x := mx) hK dd_X12_shown_29 rfl rfl ?_
            refine g_iconst (pc := 30) (x := 0) hK dd_X12_shown_30 (by decide) ?_
            refine g_iast (pc := 31) hK (kdm kd_243) nl_243 (by decide) (by decide) dd_X12_shown_31 (by omega) (by omega) (by decide) ?_
            refine g_iinc (pc := 32) (i := 2) (y := mx + 1) (L' := [(0, gR 200), (1, gI mi), (2, gI (mx + 1))]) hK dd_X12_shown_32 rfl rfl (by decide) rfl ?_
            refine g_goto (pc := 35) (tgt := 20) hK dd_X12_shown_35 (by decide) ?_
            refine g_sub (L' := [(0, gR 200), (1, gI mi), (2, gI (mx + 1))]) [0, 1, 2] rfl ?_
            refine g_mem (M2 := sr M 243 (bwF (M 243) (gB (M 208) (M 209) (M 205) (TWf (M 205) (M 206) (M 207))) mi.toNat 0 (mx + 1).toNat)) (by rw [tn1 (t := mx) (by omega)]; refine Eq.trans ?_ (congrArg (sr M 243) (bwF_s0 (F := M 243) (V := (gB (M 208) (M 209) (M 205) (TWf (M 205) (M 206) (M 207)))) (mi := mi.toNat) (K := mx.toNat) (by omega) (by omega))); simp (disch := decide) only [Int.reduceToNat, up_sr, sr_cp, sr_k, sr_o, sr_sr, us_us]; try rfl) ?_
            exact ih4 (mx + 1) (by omega) (by omega)
      refine g_mem (M2 := sr M 243 (bwF (M 243) (gB (M 208) (M 209) (M 205) (TWf (M 205) (M 206) (M 207))) mi.toNat 0 (0 : Int).toNat)) (by show M = sr M 243 (bwF _ _ _ 0 0); rw [bwF_0]; exact sr_self.symm) ?_
      refine g_sub (L' := [(0, gR 200), (1, gI mi), (2, gI 0)]) [0, 1, 2] rfl ?_
      exact lp5 _ 0 (by omega) (Nat.lt_succ_self _)
    · refine g_aloadn (pc := 11) (i := 0) (x := 200) hK dd_X12_shown_11 rfl rfl ?_
      refine g_bipush (pc := 12) (x := (-2)) hK dd_X12_shown_12 (by decide) ?_
      refine g_callV (pc := 14) (As := [gI (-2)]) hK ws_M_152 md_X12_no ⟨Nat.zero_le _, Nat.zero_le _⟩ ⟨by decide, by decide⟩ (kdm kd_200) rfl rfl dd_X12_shown_14 rfl rfl (Nat.le_of_ble_eq_true rfl) (d_no_2 hrg (g_r1 ?_))
      refine g_iret (pc := 17) hK hr hlocks dd_X12_shown_17 rfl ?_
      exact g_fin (hB (by first | omega | (subst_vars; omega) | exact ⟨by first | assumption | omega | (subst_vars; first | assumption | omega), by first | assumption | omega | (subst_vars; first | assumption | omega)⟩)) (by first | rfl | omega | (subst_vars; first | rfl | omega)) (by first | rfl | (subst_vars; rfl))
