section S35
variable {p : Program} {l : Launch} {e : Env} {R : Room} {s : State} {m : MethodId} {args : Array Value} {below : List Frame} {meth : Method} {c : Code} {D : va_G} {cy : Nat → ClassId} {q : Nat → Nat} {A : Nat → Prop} {cells slots : Nat} {Q : State → Prop}
set_option maxHeartbeats 4000000 in
set_option maxRecDepth 100000 in
theorem y_short35 {M : Mem} (hK : OK p s m args c D cy q A 8 mb_X12_shortBy "WhiteElephantsModel") (sm : Int) (s0 : 1 ≤ sm ∧ sm ≤ 9999) (hmc : 0 ≤ M 200 3 ∧ M 200 3 ≤ 30) (hpd : ∀ j : Nat, j < 30 → 0 ≤ M 209 j → 0 ≤ M 210 j ∧ M 210 j ≤ 999) (hfw_ : ¬ M 200 50 = 0) (hN : (fwV (M 209) (M 210)) (M 200 3).toNat sm.toNat = 99 → G p l e R s m args below meth c D cy q A cells slots 8 Q 222 [] [gI (-1)] (sr M 251 (bwX (M 251) (fwV (M 209) (M 210)) sm.toNat ((M 200 3).toNat + 1) 0))) (hY : ¬ (fwV (M 209) (M 210)) (M 200 3).toNat sm.toNat = 99 → G p l e R s m args below meth c D cy q A cells slots 8 Q 298 [] [gI (bkW (fwV (M 209) (M 210)) (M 210) (M 200 3).toNat (0, sm)).1] (sr M 251 (bwX (M 251) (fwV (M 209) (M 210)) sm.toNat ((M 200 3).toNat + 1) 0))) : G p l e R s m args below meth c D cy q A cells slots 8 Q 35 [(0, gR 200), (1, gI sm)] [] M := by
  refine g_iconst (pc := 35) (x := 0) hK dd_X12_shortBy_35 (by decide) ?_
  refine g_istoren (pc := 36) (i := 2) (L' := [(0, gR 200), (1, gI sm), (2, gI 0)]) hK dd_X12_shortBy_36 rfl (by decide) rfl ?_
  have lp3 : ∀ (n1 : Nat) (v : Int), (0 ≤ v ∧ v ≤ sm + 1) → (sm + 1 - v).toNat < n1 → G p l e R s m args below meth c D cy q A cells slots 8 Q 37 [(0, gR 200), (1, gI sm), (2, gI v)] [] (sr M 251 (bwX (M 251) (fwV (M 209) (M 210)) sm.toNat 0 v.toNat)) := by
    intro n1
    induction n1 with
    | zero => intro v iv4 hm5; exact absurd hm5 (Nat.not_lt_zero _)
    | succ n1 ih2 =>
      intro v iv4 hm5
      refine g_iloadn (pc := 37) (i := 2) (x := v) hK dd_X12_shortBy_37 rfl rfl ?_
      refine g_iloadn (pc := 38) (i := 1) (x := sm) hK dd_X12_shortBy_38 rfl rfl ?_
      refine g_icmp_gt (pc := 39) (tgt := 65) hK dd_X12_shortBy_39 (by decide) ⟨by omega, by omega⟩ ⟨by omega, by omega⟩ (fun c6 => ?_) (fun c6 => ?_)
      · refine g_iconst (pc := 65) (x := 0) hK dd_X12_shortBy_65 (by decide) ?_
        refine g_istoren (pc := 66) (i := 2) (L' := [(0, gR 200), (1, gI sm), (2, gI 0)]) hK dd_X12_shortBy_66 rfl (by decide) rfl ?_
        have lp9 : ∀ (n7 : Nat) (t : Int), (0 ≤ t ∧ t ≤ M 200 3) → (M 200 3 - t).toNat < n7 → G p l e R s m args below meth c D cy q A cells slots 8 Q 67 [(0, gR 200), (1, gI sm), (2, gI t)] [] (sr M 251 (bwX (M 251) (fwV (M 209) (M 210)) sm.toNat (t.toNat + 1) 0)) := by
          intro n7
          induction n7 with
          | zero => intro t iv10 hm11; exact absurd hm11 (Nat.not_lt_zero _)
          | succ n7 ih8 =>
            intro t iv10 hm11
            refine g_iloadn (pc := 67) (i := 2) (x := t) hK dd_X12_shortBy_67 rfl rfl ?_
            refine g_aloadn (pc := 68) (i := 0) (x := 200) hK dd_X12_shortBy_68 rfl rfl ?_
            refine g_geti (pc := 69) (f := (0, 0)) (j := 3) hK (kdm kd_200) rfl ef_12 (by decide) rfl kk_1104 nl_200 dd_X12_shortBy_69 rfl (fun x12 ex12 rx12 => ?_)
            replace ex12 : x12 = M 200 3 := ex12
            refine g_icmp_ge (pc := 72) (tgt := 201) hK dd_X12_shortBy_72 (by decide) ⟨by omega, by omega⟩ rx12 (fun c13 => ?_) (fun c13 => ?_)
            · rw [show t.toNat = (M 200 3).toNat by omega]
              skip
              refine g_aloadn (pc := 201) (i := 0) (x := 200) hK dd_X12_shortBy_201 rfl rfl ?_
              refine g_getv (pc := 202) (f := (2, 51)) (j := 50) (v := gR 251) hK (kdm kd_200) rfl ef_12 (by decide) (by decide +kernel) kk_1151 dd_X12_shortBy_202 (fa_few (M := (sr M 251 (bwX (M 251) (fwV (M 209) (M 210)) sm.toNat ((M 200 3).toNat + 1) 0))) hfw_) ?_
              refine g_sipush (pc := 205) (x := 10000) hK dd_X12_shortBy_205 (by decide) ?_
              refine g_aloadn (pc := 208) (i := 0) (x := 200) hK dd_X12_shortBy_208 rfl rfl ?_
              refine g_geti (pc := 209) (f := (0, 0)) (j := 3) hK (kdm kd_200) rfl ef_12 (by decide) rfl kk_1104 nl_200 dd_X12_shortBy_209 rfl (fun x14 ex14 rx14 => ?_)
              replace ex14 : x14 = M 200 3 := ex14
              refine g_topv (v := gI (M 200 3)) (by rw [ex14]) ?_
              refine g_imul (pc := 212) (z := 10000 * (M 200 3)) hK dd_X12_shortBy_212 rfl ?_
              refine g_iloadn (pc := 213) (i := 1) (x := sm) hK dd_X12_shortBy_213 rfl rfl ?_
              refine g_iadd (pc := 214) (z := (10000 * (M 200 3)) + sm) hK dd_X12_shortBy_214 rfl ?_
              refine g_bald (pc := 215) hK (kdF hfw_) nl_251 (by decide) dd_X12_shortBy_215 (by omega) (by omega) (fun x15 ex15 rx15 => ?_)
              replace ex15 : x15 = (bwX (M 251) (fwV (M 209) (M 210)) sm.toNat ((M 200 3).toNat + 1) 0) (((10000 * (M 200 3)) + sm).toNat) := by first | exact ex15 | (rw [ex15]; simp [up, us, cp, sr])
              rw [show (10000 * M 200 3 + sm).toNat = 10000 * (M 200 3).toNat + sm.toNat by omega, bwX_at (by omega) (by omega) (Or.inl (by omega))] at ex15
              have hfe0_ : x15 = (fwV (M 209) (M 210)) (M 200 3).toNat sm.toNat := ex15
              refine g_topv (v := gI ((fwV (M 209) (M 210)) (M 200 3).toNat sm.toNat)) (by rw [hfe0_]) ?_
              refine g_topI (fun fe efe => ?_)
              refine g_bipush (pc := 216) (x := 99) hK dd_X12_shortBy_216 (by decide) ?_
              refine g_icmp_ne (pc := 218) (tgt := 223) hK dd_X12_shortBy_218 (by decide) ⟨by omega, by omega⟩ (by decide) (fun c16 => ?_) (fun c16 => ?_)
              · have h99_ : ¬ (fwV (M 209) (M 210)) (M 200 3).toNat sm.toNat = 99 := by omega
                refine g_iconst (pc := 223) (x := 0) hK dd_X12_shortBy_223 (by decide) ?_
                refine g_istoren (pc := 224) (i := 2) (L' := [(0, gR 200), (1, gI sm), (2, gI 0)]) hK dd_X12_shortBy_224 rfl (by decide) rfl ?_
                refine g_iloadn (pc := 225) (i := 1) (x := sm) hK dd_X12_shortBy_225 rfl rfl ?_
                refine g_istoren (pc := 226) (i := 3) (L' := [(0, gR 200), (1, gI sm), (2, gI 0), (3, gI sm)]) hK dd_X12_shortBy_226 rfl (by decide) rfl ?_
                refine g_aloadn (pc := 227) (i := 0) (x := 200) hK dd_X12_shortBy_227 rfl rfl ?_
                refine g_geti (pc := 228) (f := (0, 0)) (j := 3) hK (kdm kd_200) rfl ef_12 (by decide) rfl kk_1104 nl_200 dd_X12_shortBy_228 rfl (fun x17 ex17 rx17 => ?_)
                replace ex17 : x17 = M 200 3 := ex17
                refine g_topv (v := gI (M 200 3)) (by rw [ex17]) ?_
                refine g_iconst (pc := 231) (x := 1) hK dd_X12_shortBy_231 (by decide) ?_
                refine g_isub (pc := 232) (z := (M 200 3) - 1) hK dd_X12_shortBy_232 rfl ?_
                refine g_istore (pc := 233) (i := 4) (L' := [(0, gR 200), (1, gI sm), (2, gI 0), (3, gI sm), (4, gI ((M 200 3) - 1))]) hK dd_X12_shortBy_233 (by decide) rfl ?_
                have lp20 : ∀ (n18 : Nat) (sv : Int) (lf : Int) (t : Int), (-1 ≤ t ∧ t < M 200 3) → (0 ≤ lf ∧ lf ≤ sm) → (bkW (fwV (M 209) (M 210)) (M 210) (M 200 3).toNat (0, sm) = bkW (fwV (M 209) (M 210)) (M 210) (t + 1).toNat (sv, lf)) → (t + 1).toNat < n18 → G p l e R s m args below meth c D cy q A cells slots 8 Q 235 [(0, gR 200), (1, gI sm), (2, gI sv), (3, gI lf), (4, gI t)] [] (sr M 251 (bwX (M 251) (fwV (M 209) (M 210)) sm.toNat ((M 200 3).toNat + 1) 0)) := by
                  intro n18
                  induction n18 with
                  | zero => intro sv lf t iv21 iv22 hbk_ hm23; exact absurd hm23 (Nat.not_lt_zero _)
                  | succ n18 ih19 =>
                    intro sv lf t iv21 iv22 hbk_ hm23
                    refine g_iload (pc := 235) (i := 4) (x := t) hK dd_X12_shortBy_235 rfl ?_
                    refine g_if_lt (pc := 237) (tgt := 297) hK dd_X12_shortBy_237 (by decide) ⟨by omega, by omega⟩ (fun c24 => ?_) (fun c24 => ?_)
                    · refine g_iloadn (pc := 297) (i := 2) (x := sv) hK dd_X12_shortBy_297 rfl rfl ?_
                      refine g_sub (L' := []) [] rfl ?_
                      refine g_topv (v := gI (bkW (fwV (M 209) (M 210)) (M 210) (M 200 3).toNat (0, sm)).1) (by rw [hbk_, show (t + 1).toNat = 0 by omega]; rfl) ?_
                      exact hY h99_
                    · have hv1_ := fwV_in (B := M 209) (PD := M 210) (t.toNat + 1) lf.toNat
                      have hv2_ := fwV_in (B := M 209) (PD := M 210) t.toNat lf.toNat
                      refine g_aloadn (pc := 240) (i := 0) (x := 200) hK dd_X12_shortBy_240 rfl rfl ?_
                      refine g_getv (pc := 241) (f := (2, 51)) (j := 50) (v := gR 251) hK (kdm kd_200) rfl ef_12 (by decide) (by decide +kernel) kk_1151 dd_X12_shortBy_241 (fa_few (M := (sr M 251 (bwX (M 251) (fwV (M 209) (M 210)) sm.toNat ((M 200 3).toNat + 1) 0))) hfw_) ?_
                      refine g_sipush (pc := 244) (x := 10000) hK dd_X12_shortBy_244 (by decide) ?_
                      refine g_iload (pc := 247) (i := 4) (x := t) hK dd_X12_shortBy_247 rfl ?_
                      refine g_iconst (pc := 249) (x := 1) hK dd_X12_shortBy_249 (by decide) ?_
                      refine g_iadd (pc := 250) (z := t + 1) hK dd_X12_shortBy_250 rfl ?_
                      refine g_imul (pc := 251) (z := 10000 * (t + 1)) hK dd_X12_shortBy_251 rfl ?_
                      refine g_iloadn (pc := 252) (i := 3) (x := lf) hK dd_X12_shortBy_252 rfl rfl ?_
                      refine g_iadd (pc := 253) (z := (10000 * (t + 1)) + lf) hK dd_X12_shortBy_253 rfl ?_
                      refine g_bald (pc := 254) hK (kdF hfw_) nl_251 (by decide) dd_X12_shortBy_254 (by omega) (by omega) (fun x25 ex25 rx25 => ?_)
                      replace ex25 : x25 = (bwX (M 251) (fwV (M 209) (M 210)) sm.toNat ((M 200 3).toNat + 1) 0) (((10000 * (t + 1)) + lf).toNat) := by first | exact ex25 | (rw [ex25]; simp [up, us, cp, sr])
                      rw [show (10000 * (t + 1) + lf).toNat = 10000 * (t.toNat + 1) + lf.toNat by omega, bwX_at (by omega) (by omega) (Or.inl (by omega))] at ex25
                      refine g_aloadn (pc := 255) (i := 0) (x := 200) hK dd_X12_shortBy_255 rfl rfl ?_
                      refine g_getv (pc := 256) (f := (2, 51)) (j := 50) (v := gR 251) hK (kdm kd_200) rfl ef_12 (by decide) (by decide +kernel) kk_1151 dd_X12_shortBy_256 (fa_few (M := (sr M 251 (bwX (M 251) (fwV (M 209) (M 210)) sm.toNat ((M 200 3).toNat + 1) 0))) hfw_) ?_
                      refine g_sipush (pc := 259) (x := 10000) hK dd_X12_shortBy_259 (by decide) ?_
                      refine g_iload (pc := 262) (i := 4) (x := t) hK dd_X12_shortBy_262 rfl ?_
                      refine g_imul (pc := 264) (z := 10000 * t) hK dd_X12_shortBy_264 rfl ?_
                      refine g_iloadn (pc := 265) (i := 3) (x := lf) hK dd_X12_shortBy_265 rfl rfl ?_
                      refine g_iadd (pc := 266) (z := (10000 * t) + lf) hK dd_X12_shortBy_266 rfl ?_
                      refine g_bald (pc := 267) hK (kdF hfw_) nl_251 (by decide) dd_X12_shortBy_267 (by omega) (by omega) (fun x26 ex26 rx26 => ?_)
                      replace ex26 : x26 = (bwX (M 251) (fwV (M 209) (M 210)) sm.toNat ((M 200 3).toNat + 1) 0) (((10000 * t) + lf).toNat) := by first | exact ex26 | (rw [ex26]; simp [up, us, cp, sr])
                      rw [show (10000 * t + lf).toNat = 10000 * t.toNat + (lf).toNat by omega, bwX_at (by omega) (by omega) (Or.inl (by omega))] at ex26
                      refine g_icmp_ne (pc := 268) (tgt := 274) hK dd_X12_shortBy_268 (by decide) rx25 rx26 (fun c27 => ?_) (fun c27 => ?_)
                      · have hne_ : ¬ (fwV (M 209) (M 210)) (t.toNat + 1) lf.toNat = (fwV (M 209) (M 210)) t.toNat lf.toNat := by omega
                        have hge_ := fwV_ne hne_
                        refine g_iloadn (pc := 274) (i := 2) (x := sv) hK dd_X12_shortBy_274 rfl rfl ?_
                        refine g_iconst (pc := 275) (x := 1) hK dd_X12_shortBy_275 (by decide) ?_
                        refine g_iload (pc := 276) (i := 4) (x := t) hK dd_X12_shortBy_276 rfl ?_
                        refine g_ishl (pc := 278) (z := jshl 1 t) hK dd_X12_shortBy_278 rfl ?_
                        refine g_ior (pc := 279) (z := jor sv (jshl 1 t)) hK dd_X12_shortBy_279 rfl ?_
                        refine g_istoren (pc := 280) (i := 2) (L' := [(0, gR 200), (1, gI sm), (2, gI (jor sv (jshl 1 t))), (3, gI lf), (4, gI t)]) hK dd_X12_shortBy_280 rfl (by decide) rfl ?_
                        refine g_iloadn (pc := 281) (i := 3) (x := lf) hK dd_X12_shortBy_281 rfl rfl ?_
                        refine g_aloadn (pc := 282) (i := 0) (x := 200) hK dd_X12_shortBy_282 rfl rfl ?_
                        refine g_getv (pc := 283) (f := (1, 10)) (j := 9) (v := gR 210) hK (kdm kd_200) rfl ef_12 (by decide) rfl kk_1110 dd_X12_shortBy_283 rfl ?_
                        refine g_iload (pc := 286) (i := 4) (x := t) hK dd_X12_shortBy_286 rfl ?_
                        refine g_iald (pc := 288) hK (kdm kd_210) nl_210 (by decide) dd_X12_shortBy_288 (by omega) (by omega) (fun x28 ex28 rx28 => ?_)
                        replace ex28 : x28 = M 210 t.toNat := ex28
                        refine g_isub (pc := 289) (z := lf - x28) hK dd_X12_shortBy_289 rfl ?_
                        refine g_istoren (pc := 290) (i := 3) (L' := [(0, gR 200), (1, gI sm), (2, gI (jor sv (jshl 1 t))), (3, gI (lf - x28)), (4, gI t)]) hK dd_X12_shortBy_290 rfl (by decide) rfl ?_
                        refine g_iinc (pc := 291) (i := 4) (y := t - 1) (L' := [(0, gR 200), (1, gI sm), (2, gI (jor sv (jshl 1 t))), (3, gI (lf - x28)), (4, gI (t - 1))]) hK dd_X12_shortBy_291 rfl (by omega) (by decide) rfl ?_
                        refine g_goto (pc := 294) (tgt := 235) hK dd_X12_shortBy_294 (by decide) ?_
                        refine g_sub (L' := [(0, gR 200), (1, gI sm), (2, gI (jor sv (jshl 1 t))), (3, gI (lf - x28)), (4, gI (t - 1))]) [0, 1, 2, 3, 4] rfl ?_
                        refine g_mem (M2 := sr M 251 (bwX (M 251) (fwV (M 209) (M 210)) sm.toNat ((M 200 3).toNat + 1) 0)) (rfl) ?_
                        exact ih19 (jor sv (jshl 1 t)) (lf - x28) (t - 1) (by omega) (by omega) (by rw [hbk_, show (t - 1 + 1).toNat = t.toNat by omega, show (t + 1).toNat = t.toNat + 1 by omega]; first | exact bk_y heq_ | (rw [bk_n hne_, show ((t.toNat : Nat) : Int) = t by omega]; subst_vars; rfl)) (by omega)
                      · have heq_ : (fwV (M 209) (M 210)) (t.toNat + 1) lf.toNat = (fwV (M 209) (M 210)) t.toNat lf.toNat := by omega
                        refine g_goto (pc := 271) (tgt := 291) hK dd_X12_shortBy_271 (by decide) ?_
                        refine g_iinc (pc := 291) (i := 4) (y := t - 1) (L' := [(0, gR 200), (1, gI sm), (2, gI sv), (3, gI lf), (4, gI (t - 1))]) hK dd_X12_shortBy_291 rfl (by omega) (by decide) rfl ?_
                        refine g_goto (pc := 294) (tgt := 235) hK dd_X12_shortBy_294 (by decide) ?_
                        refine g_sub (L' := [(0, gR 200), (1, gI sm), (2, gI sv), (3, gI lf), (4, gI (t - 1))]) [0, 1, 2, 3, 4] rfl ?_
                        refine g_mem (M2 := sr M 251 (bwX (M 251) (fwV (M 209) (M 210)) sm.toNat ((M 200 3).toNat + 1) 0)) (rfl) ?_
                        exact ih19 sv lf (t - 1) (by omega) (by omega) (by rw [hbk_, show (t - 1 + 1).toNat = t.toNat by omega, show (t + 1).toNat = t.toNat + 1 by omega]; first | exact bk_y heq_ | (rw [bk_n hne_, show ((t.toNat : Nat) : Int) = t by omega]; subst_vars; rfl)) (by omega)
                refine g_mem (M2 := sr M 251 (bwX (M 251) (fwV (M 209) (M 210)) sm.toNat ((M 200 3).toNat + 1) 0)) (rfl) ?_
                refine g_sub (L' := [(0, gR 200), (1, gI sm), (2, gI 0), (3, gI sm), (4, gI ((M 200 3) - 1))]) [0, 1, 2, 3, 4] rfl ?_
                exact lp20 _ 0 sm ((M 200 3) - 1) (by omega) (by omega) (by rw [show (M 200 3 - 1 + 1).toNat = (M 200 3).toNat by omega]) (Nat.lt_succ_self _)
              · have h99_ : (fwV (M 209) (M 210)) (M 200 3).toNat sm.toNat = 99 := by omega
                refine g_iconst (pc := 221) (x := (-1)) hK dd_X12_shortBy_221 (by decide) ?_
                refine g_sub (L' := []) [] rfl ?_
                exact hN h99_
            · refine g_sipush (pc := 75) (x := 10000) hK dd_X12_shortBy_75 (by decide) ?_
              refine g_iloadn (pc := 78) (i := 2) (x := t) hK dd_X12_shortBy_78 rfl rfl ?_
              refine g_imul (pc := 79) (z := 10000 * t) hK dd_X12_shortBy_79 rfl ?_
              refine g_istoren (pc := 80) (i := 3) (L' := [(0, gR 200), (1, gI sm), (2, gI t), (3, gI (10000 * t))]) hK dd_X12_shortBy_80 rfl (by decide) rfl ?_
              refine g_iloadn (pc := 81) (i := 3) (x := 10000 * t) hK dd_X12_shortBy_81 rfl rfl ?_
              refine g_sipush (pc := 82) (x := 10000) hK dd_X12_shortBy_82 (by decide) ?_
              refine g_iadd (pc := 85) (z := (10000 * t) + 10000) hK dd_X12_shortBy_85 rfl ?_
              refine g_istore (pc := 86) (i := 4) (L' := [(0, gR 200), (1, gI sm), (2, gI t), (3, gI (10000 * t)), (4, gI ((10000 * t) + 10000))]) hK dd_X12_shortBy_86 (by decide) rfl ?_
              have hpj_ := hpd t.toNat (by omega)
              refine g_aloadn (pc := 88) (i := 0) (x := 200) hK dd_X12_shortBy_88 rfl rfl ?_
              refine g_getv (pc := 89) (f := (1, 9)) (j := 8) (v := gR 209) hK (kdm kd_200) rfl ef_12 (by decide) rfl kk_1109 dd_X12_shortBy_89 rfl ?_
              refine g_iloadn (pc := 92) (i := 2) (x := t) hK dd_X12_shortBy_92 rfl rfl ?_
              refine g_iald (pc := 93) hK (kdm kd_209) nl_209 (by decide) dd_X12_shortBy_93 (by omega) (by omega) (fun x29 ex29 rx29 => ?_)
              replace ex29 : x29 = M 209 t.toNat := ex29
              refine g_if_ge (pc := 94) (tgt := 101) hK dd_X12_shortBy_94 (by decide) rx29 (fun c30 => ?_) (fun c30 => ?_)
              · refine g_aloadn (pc := 101) (i := 0) (x := 200) hK dd_X12_shortBy_101 rfl rfl ?_
                refine g_getv (pc := 102) (f := (1, 10)) (j := 9) (v := gR 210) hK (kdm kd_200) rfl ef_12 (by decide) rfl kk_1110 dd_X12_shortBy_102 rfl ?_
                refine g_iloadn (pc := 105) (i := 2) (x := t) hK dd_X12_shortBy_105 rfl rfl ?_
                refine g_iald (pc := 106) hK (kdm kd_210) nl_210 (by decide) dd_X12_shortBy_106 (by omega) (by omega) (fun x31 ex31 rx31 => ?_)
                replace ex31 : x31 = M 210 t.toNat := ex31
                have hpd0_ : x31 = pdT (M 209) (M 210) t.toNat := by unfold pdT; first | (rw [if_pos (by omega)]; done) | (rw [if_neg (by omega)]; subst_vars; rfl)
                refine g_topv (v := gI (pdT (M 209) (M 210) t.toNat)) (by rw [hpd0_]) ?_
                refine g_topI (fun pd epd => ?_)
                have hpb_ : 0 ≤ pd ∧ pd ≤ 999 := by omega
                refine g_istore (pc := 107) (i := 5) (L' := [(0, gR 200), (1, gI sm), (2, gI t), (3, gI (10000 * t)), (4, gI ((10000 * t) + 10000)), (5, gI pd)]) hK dd_X12_shortBy_107 (by decide) rfl ?_
                refine g_iconst (pc := 109) (x := 0) hK dd_X12_shortBy_109 (by decide) ?_
                refine g_istore (pc := 110) (i := 6) (L' := [(0, gR 200), (1, gI sm), (2, gI t), (3, gI (10000 * t)), (4, gI ((10000 * t) + 10000)), (5, gI pd), (6, gI 0)]) hK dd_X12_shortBy_110 (by decide) rfl ?_
                have lp34 : ∀ (n32 : Nat) (v : Int), (0 ≤ v ∧ v ≤ sm + 1) → (sm + 1 - v).toNat < n32 → G p l e R s m args below meth c D cy q A cells slots 8 Q 112 [(0, gR 200), (1, gI sm), (2, gI t), (3, gI (10000 * t)), (4, gI ((10000 * t) + 10000)), (5, gI pd), (6, gI v)] [] (sr M 251 (bwX (M 251) (fwV (M 209) (M 210)) sm.toNat (t.toNat + 1) v.toNat)) := by
                  intro n32
                  induction n32 with
                  | zero => intro v iv35 hm36; exact absurd hm36 (Nat.not_lt_zero _)
                  | succ n32 ih33 =>
                    intro v iv35 hm36
                    refine g_iload (pc := 112) (i := 6) (x := v) hK dd_X12_shortBy_112 rfl ?_
                    refine g_iloadn (pc := 114) (i := 1) (x := sm) hK dd_X12_shortBy_114 rfl rfl ?_
                    refine g_icmp_gt (pc := 115) (tgt := 195) hK dd_X12_shortBy_115 (by decide) ⟨by omega, by omega⟩ ⟨by omega, by omega⟩ (fun c37 => ?_) (fun c37 => ?_)
                    · refine g_iinc (pc := 195) (i := 2) (y := t + 1) (L' := [(0, gR 200), (1, gI sm), (2, gI (t + 1)), (3, gI (10000 * t)), (4, gI ((10000 * t) + 10000)), (5, gI pd), (6, gI v)]) hK dd_X12_shortBy_195 rfl rfl (by decide) rfl ?_
                      refine g_goto (pc := 198) (tgt := 67) hK dd_X12_shortBy_198 (by decide) ?_
                      refine g_sub (L' := [(0, gR 200), (1, gI sm), (2, gI (t + 1))]) [0, 1, 2] rfl ?_
                      refine g_mem (M2 := sr M 251 (bwX (M 251) (fwV (M 209) (M 210)) sm.toNat ((t + 1).toNat + 1) 0)) (by rw [tn1 (t := t) (by omega), show v.toNat = sm.toNat + 1 by omega, bwX_r]) ?_
                      exact ih8 (t + 1) (by omega) (by omega)
                    · refine g_aloadn (pc := 118) (i := 0) (x := 200) hK dd_X12_shortBy_118 rfl rfl ?_
                      refine g_getv (pc := 119) (f := (2, 51)) (j := 50) (v := gR 251) hK (kdm kd_200) rfl ef_12 (by decide) (by decide +kernel) kk_1151 dd_X12_shortBy_119 (fa_few (M := (sr M 251 (bwX (M 251) (fwV (M 209) (M 210)) sm.toNat (t.toNat + 1) v.toNat))) hfw_) ?_
                      refine g_iloadn (pc := 122) (i := 3) (x := 10000 * t) hK dd_X12_shortBy_122 rfl rfl ?_
                      refine g_iload (pc := 123) (i := 6) (x := v) hK dd_X12_shortBy_123 rfl ?_
                      refine g_iadd (pc := 125) (z := (10000 * t) + v) hK dd_X12_shortBy_125 rfl ?_
                      refine g_bald (pc := 126) hK (kdF hfw_) nl_251 (by decide) dd_X12_shortBy_126 (by omega) (by omega) (fun x38 ex38 rx38 => ?_)
                      replace ex38 : x38 = (bwX (M 251) (fwV (M 209) (M 210)) sm.toNat (t.toNat + 1) v.toNat) (((10000 * t) + v).toNat) := by first | exact ex38 | (rw [ex38]; simp [up, us, cp, sr])
                      rw [show (10000 * t + v).toNat = 10000 * t.toNat + (v).toNat by omega, bwX_at (by omega) (by omega) (Or.inl (by omega))] at ex38
                      have hwo0_ : x38 = (fwV (M 209) (M 210)) t.toNat v.toNat := ex38
                      refine g_topv (v := gI ((fwV (M 209) (M 210)) t.toNat v.toNat)) (by rw [hwo0_]) ?_
                      refine g_topI (fun wo ewo => ?_)
                      have hwo_ := fwV_in (B := M 209) (PD := M 210) t.toNat v.toNat
                      rw [← ewo] at hwo_
                      refine g_istore (pc := 127) (i := 7) (L' := [(0, gR 200), (1, gI sm), (2, gI t), (3, gI (10000 * t)), (4, gI ((10000 * t) + 10000)), (5, gI pd), (6, gI v), (7, gI wo)]) hK dd_X12_shortBy_127 (by decide) rfl ?_
                      refine g_iload (pc := 129) (i := 5) (x := pd) hK dd_X12_shortBy_129 rfl ?_
                      refine g_if_le (pc := 131) (tgt := 176) hK dd_X12_shortBy_131 (by decide) ⟨by omega, by omega⟩ (fun c39 => ?_) (fun c39 => ?_)
                      · skip
                        refine g_aloadn (pc := 176) (i := 0) (x := 200) hK dd_X12_shortBy_176 rfl rfl ?_
                        refine g_getv (pc := 177) (f := (2, 51)) (j := 50) (v := gR 251) hK (kdm kd_200) rfl ef_12 (by decide) (by decide +kernel) kk_1151 dd_X12_shortBy_177 (fa_few (M := (sr M 251 (bwX (M 251) (fwV (M 209) (M 210)) sm.toNat (t.toNat + 1) v.toNat))) hfw_) ?_
                        refine g_iload (pc := 180) (i := 4) (x := (10000 * t) + 10000) hK dd_X12_shortBy_180 rfl ?_
                        refine g_iload (pc := 182) (i := 6) (x := v) hK dd_X12_shortBy_182 rfl ?_
                        refine g_iadd (pc := 184) (z := ((10000 * t) + 10000) + v) hK dd_X12_shortBy_184 rfl ?_
                        refine g_iload (pc := 185) (i := 7) (x := wo) hK dd_X12_shortBy_185 rfl ?_
                        have hst_ : (fwV (M 209) (M 210)) (t.toNat + 1) v.toNat = wo := fwV_n epd (by omega) ewo (by omega)
                        have hix_ : (10000 * t + 10000 + v).toNat = 10000 * (t.toNat + 1) + v.toNat := by omega
                        refine g_i2b (pc := 187) (z := wo) hK dd_X12_shortBy_187 (ji2b_id (by omega) (by omega)) ?_
                        refine g_bast (pc := 188) hK (kdF hfw_) nl_251 (by decide) (by decide) dd_X12_shortBy_188 (by omega) (by omega) ⟨by omega, by omega⟩ ?_
                        refine g_iinc (pc := 189) (i := 6) (y := v + 1) (L' := [(0, gR 200), (1, gI sm), (2, gI t), (3, gI (10000 * t)), (4, gI ((10000 * t) + 10000)), (5, gI pd), (6, gI (v + 1)), (7, gI wo)]) hK dd_X12_shortBy_189 rfl rfl (by decide) rfl ?_
                        refine g_goto (pc := 192) (tgt := 112) hK dd_X12_shortBy_192 (by decide) ?_
                        refine g_sub (L' := [(0, gR 200), (1, gI sm), (2, gI t), (3, gI (10000 * t)), (4, gI ((10000 * t) + 10000)), (5, gI pd), (6, gI (v + 1))]) [0, 1, 2, 3, 4, 5, 6] rfl ?_
                        refine g_mem (M2 := sr M 251 (bwX (M 251) (fwV (M 209) (M 210)) sm.toNat (t.toNat + 1) (v + 1).toNat)) (by rw [tn1 (t := v) (by omega), ← bwX_s (T := t.toNat + 1) (K := v.toNat) (by omega) (by omega), hst_, ← hix_]; simp (disch := decide) only [Int.reduceToNat, up_sr, sr_cp, sr_k, sr_o, sr_sr, us_us]; try rfl) ?_
                        exact ih33 (v + 1) (by omega) (by omega)
                      · refine g_iload (pc := 134) (i := 6) (x := v) hK dd_X12_shortBy_134 rfl ?_
                        refine g_iload (pc := 136) (i := 5) (x := pd) hK dd_X12_shortBy_136 rfl ?_
                        refine g_icmp_lt (pc := 138) (tgt := 176) hK dd_X12_shortBy_138 (by decide) ⟨by omega, by omega⟩ ⟨by omega, by omega⟩ (fun c40 => ?_) (fun c40 => ?_)
                        · skip
                          refine g_aloadn (pc := 176) (i := 0) (x := 200) hK dd_X12_shortBy_176 rfl rfl ?_
                          refine g_getv (pc := 177) (f := (2, 51)) (j := 50) (v := gR 251) hK (kdm kd_200) rfl ef_12 (by decide) (by decide +kernel) kk_1151 dd_X12_shortBy_177 (fa_few (M := (sr M 251 (bwX (M 251) (fwV (M 209) (M 210)) sm.toNat (t.toNat + 1) v.toNat))) hfw_) ?_
                          refine g_iload (pc := 180) (i := 4) (x := (10000 * t) + 10000) hK dd_X12_shortBy_180 rfl ?_
                          refine g_iload (pc := 182) (i := 6) (x := v) hK dd_X12_shortBy_182 rfl ?_
                          refine g_iadd (pc := 184) (z := ((10000 * t) + 10000) + v) hK dd_X12_shortBy_184 rfl ?_
                          refine g_iload (pc := 185) (i := 7) (x := wo) hK dd_X12_shortBy_185 rfl ?_
                          have hst_ : (fwV (M 209) (M 210)) (t.toNat + 1) v.toNat = wo := fwV_n epd (by omega) ewo (by omega)
                          have hix_ : (10000 * t + 10000 + v).toNat = 10000 * (t.toNat + 1) + v.toNat := by omega
                          refine g_i2b (pc := 187) (z := wo) hK dd_X12_shortBy_187 (ji2b_id (by omega) (by omega)) ?_
                          refine g_bast (pc := 188) hK (kdF hfw_) nl_251 (by decide) (by decide) dd_X12_shortBy_188 (by omega) (by omega) ⟨by omega, by omega⟩ ?_
                          refine g_iinc (pc := 189) (i := 6) (y := v + 1) (L' := [(0, gR 200), (1, gI sm), (2, gI t), (3, gI (10000 * t)), (4, gI ((10000 * t) + 10000)), (5, gI pd), (6, gI (v + 1)), (7, gI wo)]) hK dd_X12_shortBy_189 rfl rfl (by decide) rfl ?_
                          refine g_goto (pc := 192) (tgt := 112) hK dd_X12_shortBy_192 (by decide) ?_
                          refine g_sub (L' := [(0, gR 200), (1, gI sm), (2, gI t), (3, gI (10000 * t)), (4, gI ((10000 * t) + 10000)), (5, gI pd), (6, gI (v + 1))]) [0, 1, 2, 3, 4, 5, 6] rfl ?_
                          refine g_mem (M2 := sr M 251 (bwX (M 251) (fwV (M 209) (M 210)) sm.toNat (t.toNat + 1) (v + 1).toNat)) (by rw [tn1 (t := v) (by omega), ← bwX_s (T := t.toNat + 1) (K := v.toNat) (by omega) (by omega), hst_, ← hix_]; simp (disch := decide) only [Int.reduceToNat, up_sr, sr_cp, sr_k, sr_o, sr_sr, us_us]; try rfl) ?_
                          exact ih33 (v + 1) (by omega) (by omega)
                        · refine g_aloadn (pc := 141) (i := 0) (x := 200) hK dd_X12_shortBy_141 rfl rfl ?_
                          refine g_getv (pc := 142) (f := (2, 51)) (j := 50) (v := gR 251) hK (kdm kd_200) rfl ef_12 (by decide) (by decide +kernel) kk_1151 dd_X12_shortBy_142 (fa_few (M := (sr M 251 (bwX (M 251) (fwV (M 209) (M 210)) sm.toNat (t.toNat + 1) v.toNat))) hfw_) ?_
                          refine g_iloadn (pc := 145) (i := 3) (x := 10000 * t) hK dd_X12_shortBy_145 rfl rfl ?_
                          refine g_iload (pc := 146) (i := 6) (x := v) hK dd_X12_shortBy_146 rfl ?_
                          refine g_iadd (pc := 148) (z := (10000 * t) + v) hK dd_X12_shortBy_148 rfl ?_
                          refine g_iload (pc := 149) (i := 5) (x := pd) hK dd_X12_shortBy_149 rfl ?_
                          refine g_isub (pc := 151) (z := ((10000 * t) + v) - pd) hK dd_X12_shortBy_151 rfl ?_
                          refine g_bald (pc := 152) hK (kdF hfw_) nl_251 (by decide) dd_X12_shortBy_152 (by omega) (by omega) (fun x41 ex41 rx41 => ?_)
                          replace ex41 : x41 = (bwX (M 251) (fwV (M 209) (M 210)) sm.toNat (t.toNat + 1) v.toNat) ((((10000 * t) + v) - pd).toNat) := by first | exact ex41 | (rw [ex41]; simp [up, us, cp, sr])
                          rw [show (10000 * t + v - pd).toNat = 10000 * t.toNat + (v - pd).toNat by omega, bwX_at (by omega) (by omega) (Or.inl (by omega))] at ex41
                          have hwi0_ : x41 = (fwV (M 209) (M 210)) t.toNat (v - pd).toNat := ex41
                          refine g_topv (v := gI ((fwV (M 209) (M 210)) t.toNat (v - pd).toNat)) (by rw [hwi0_]) ?_
                          refine g_topI (fun wi ewi => ?_)
                          have hwi_ := fwV_in (B := M 209) (PD := M 210) t.toNat (v - pd).toNat
                          rw [← ewi] at hwi_
                          refine g_iconst (pc := 153) (x := 1) hK dd_X12_shortBy_153 (by decide) ?_
                          refine g_iadd (pc := 154) (z := wi + 1) hK dd_X12_shortBy_154 rfl ?_
                          refine g_iload (pc := 155) (i := 7) (x := wo) hK dd_X12_shortBy_155 rfl ?_
                          refine g_icmp_ge (pc := 157) (tgt := 176) hK dd_X12_shortBy_157 (by decide) ⟨by omega, by omega⟩ ⟨by omega, by omega⟩ (fun c42 => ?_) (fun c42 => ?_)
                          · skip
                            refine g_aloadn (pc := 176) (i := 0) (x := 200) hK dd_X12_shortBy_176 rfl rfl ?_
                            refine g_getv (pc := 177) (f := (2, 51)) (j := 50) (v := gR 251) hK (kdm kd_200) rfl ef_12 (by decide) (by decide +kernel) kk_1151 dd_X12_shortBy_177 (fa_few (M := (sr M 251 (bwX (M 251) (fwV (M 209) (M 210)) sm.toNat (t.toNat + 1) v.toNat))) hfw_) ?_
                            refine g_iload (pc := 180) (i := 4) (x := (10000 * t) + 10000) hK dd_X12_shortBy_180 rfl ?_
                            refine g_iload (pc := 182) (i := 6) (x := v) hK dd_X12_shortBy_182 rfl ?_
                            refine g_iadd (pc := 184) (z := ((10000 * t) + 10000) + v) hK dd_X12_shortBy_184 rfl ?_
                            refine g_iload (pc := 185) (i := 7) (x := wo) hK dd_X12_shortBy_185 rfl ?_
                            have hst_ : (fwV (M 209) (M 210)) (t.toNat + 1) v.toNat = wo := fwV_n epd (by omega) ewo (by rw [← ewi]; omega)
                            have hix_ : (10000 * t + 10000 + v).toNat = 10000 * (t.toNat + 1) + v.toNat := by omega
                            refine g_i2b (pc := 187) (z := wo) hK dd_X12_shortBy_187 (ji2b_id (by omega) (by omega)) ?_
                            refine g_bast (pc := 188) hK (kdF hfw_) nl_251 (by decide) (by decide) dd_X12_shortBy_188 (by omega) (by omega) ⟨by omega, by omega⟩ ?_
                            refine g_iinc (pc := 189) (i := 6) (y := v + 1) (L' := [(0, gR 200), (1, gI sm), (2, gI t), (3, gI (10000 * t)), (4, gI ((10000 * t) + 10000)), (5, gI pd), (6, gI (v + 1)), (7, gI wo)]) hK dd_X12_shortBy_189 rfl rfl (by decide) rfl ?_
                            refine g_goto (pc := 192) (tgt := 112) hK dd_X12_shortBy_192 (by decide) ?_
                            refine g_sub (L' := [(0, gR 200), (1, gI sm), (2, gI t), (3, gI (10000 * t)), (4, gI ((10000 * t) + 10000)), (5, gI pd), (6, gI (v + 1))]) [0, 1, 2, 3, 4, 5, 6] rfl ?_
                            refine g_mem (M2 := sr M 251 (bwX (M 251) (fwV (M 209) (M 210)) sm.toNat (t.toNat + 1) (v + 1).toNat)) (by rw [tn1 (t := v) (by omega), ← bwX_s (T := t.toNat + 1) (K := v.toNat) (by omega) (by omega), hst_, ← hix_]; simp (disch := decide) only [Int.reduceToNat, up_sr, sr_cp, sr_k, sr_o, sr_sr, us_us]; try rfl) ?_
                            exact ih33 (v + 1) (by omega) (by omega)
                          · refine g_aloadn (pc := 160) (i := 0) (x := 200) hK dd_X12_shortBy_160 rfl rfl ?_
                            refine g_getv (pc := 161) (f := (2, 51)) (j := 50) (v := gR 251) hK (kdm kd_200) rfl ef_12 (by decide) (by decide +kernel) kk_1151 dd_X12_shortBy_161 (fa_few (M := (sr M 251 (bwX (M 251) (fwV (M 209) (M 210)) sm.toNat (t.toNat + 1) v.toNat))) hfw_) ?_
                            refine g_iloadn (pc := 164) (i := 3) (x := 10000 * t) hK dd_X12_shortBy_164 rfl rfl ?_
                            refine g_iload (pc := 165) (i := 6) (x := v) hK dd_X12_shortBy_165 rfl ?_
                            refine g_iadd (pc := 167) (z := (10000 * t) + v) hK dd_X12_shortBy_167 rfl ?_
                            refine g_iload (pc := 168) (i := 5) (x := pd) hK dd_X12_shortBy_168 rfl ?_
                            refine g_isub (pc := 170) (z := ((10000 * t) + v) - pd) hK dd_X12_shortBy_170 rfl ?_
                            refine g_bald (pc := 171) hK (kdF hfw_) nl_251 (by decide) dd_X12_shortBy_171 (by omega) (by omega) (fun x43 ex43 rx43 => ?_)
                            replace ex43 : x43 = (bwX (M 251) (fwV (M 209) (M 210)) sm.toNat (t.toNat + 1) v.toNat) ((((10000 * t) + v) - pd).toNat) := by first | exact ex43 | (rw [ex43]; simp [up, us, cp, sr])
                            rw [show (10000 * t + v - pd).toNat = 10000 * t.toNat + (v - pd).toNat by omega, bwX_at (by omega) (by omega) (Or.inl (by omega))] at ex43
                            refine g_topv (v := gI wi) (by rw [ewi, ex43]) ?_
                            refine g_iconst (pc := 172) (x := 1) hK dd_X12_shortBy_172 (by decide) ?_
                            refine g_iadd (pc := 173) (z := wi + 1) hK dd_X12_shortBy_173 rfl ?_
                            refine g_istore (pc := 174) (i := 7) (L' := [(0, gR 200), (1, gI sm), (2, gI t), (3, gI (10000 * t)), (4, gI ((10000 * t) + 10000)), (5, gI pd), (6, gI v), (7, gI (wi + 1))]) hK dd_X12_shortBy_174 (by decide) rfl ?_
                            skip
                            refine g_aloadn (pc := 176) (i := 0) (x := 200) hK dd_X12_shortBy_176 rfl rfl ?_
                            refine g_getv (pc := 177) (f := (2, 51)) (j := 50) (v := gR 251) hK (kdm kd_200) rfl ef_12 (by decide) (by decide +kernel) kk_1151 dd_X12_shortBy_177 (fa_few (M := (sr M 251 (bwX (M 251) (fwV (M 209) (M 210)) sm.toNat (t.toNat + 1) v.toNat))) hfw_) ?_
                            refine g_iload (pc := 180) (i := 4) (x := (10000 * t) + 10000) hK dd_X12_shortBy_180 rfl ?_
                            refine g_iload (pc := 182) (i := 6) (x := v) hK dd_X12_shortBy_182 rfl ?_
                            refine g_iadd (pc := 184) (z := ((10000 * t) + 10000) + v) hK dd_X12_shortBy_184 rfl ?_
                            refine g_iload (pc := 185) (i := 7) (x := wi + 1) hK dd_X12_shortBy_185 rfl ?_
                            have hst_ : (fwV (M 209) (M 210)) (t.toNat + 1) v.toNat = wi + 1 := fwV_y epd (by omega) ewo ewi ⟨by omega, by omega, by omega⟩
                            have hix_ : (10000 * t + 10000 + v).toNat = 10000 * (t.toNat + 1) + v.toNat := by omega
                            refine g_i2b (pc := 187) (z := wi + 1) hK dd_X12_shortBy_187 (ji2b_id (by omega) (by omega)) ?_
                            refine g_bast (pc := 188) hK (kdF hfw_) nl_251 (by decide) (by decide) dd_X12_shortBy_188 (by omega) (by omega) ⟨by omega, by omega⟩ ?_
                            refine g_iinc (pc := 189) (i := 6) (y := v + 1) (L' := [(0, gR 200), (1, gI sm), (2, gI t), (3, gI (10000 * t)), (4, gI ((10000 * t) + 10000)), (5, gI pd), (6, gI (v + 1)), (7, gI (wi + 1))]) hK dd_X12_shortBy_189 rfl rfl (by decide) rfl ?_
                            refine g_goto (pc := 192) (tgt := 112) hK dd_X12_shortBy_192 (by decide) ?_
                            refine g_sub (L' := [(0, gR 200), (1, gI sm), (2, gI t), (3, gI (10000 * t)), (4, gI ((10000 * t) + 10000)), (5, gI pd), (6, gI (v + 1))]) [0, 1, 2, 3, 4, 5, 6] rfl ?_
                            refine g_mem (M2 := sr M 251 (bwX (M 251) (fwV (M 209) (M 210)) sm.toNat (t.toNat + 1) (v + 1).toNat)) (by rw [tn1 (t := v) (by omega), ← bwX_s (T := t.toNat + 1) (K := v.toNat) (by omega) (by omega), hst_, ← hix_]; simp (disch := decide) only [Int.reduceToNat, up_sr, sr_cp, sr_k, sr_o, sr_sr, us_us]; try rfl) ?_
                            exact ih33 (v + 1) (by omega) (by omega)
                refine g_mem (M2 := sr M 251 (bwX (M 251) (fwV (M 209) (M 210)) sm.toNat (t.toNat + 1) (0 : Int).toNat)) (rfl) ?_
                refine g_sub (L' := [(0, gR 200), (1, gI sm), (2, gI t), (3, gI (10000 * t)), (4, gI ((10000 * t) + 10000)), (5, gI pd), (6, gI 0)]) [0, 1, 2, 3, 4, 5, 6] rfl ?_
                exact lp34 _ 0 (by omega) (Nat.lt_succ_self _)
              · refine g_iconst (pc := 97) (x := 0) hK dd_X12_shortBy_97 (by decide) ?_
                refine g_goto (pc := 98) (tgt := 107) hK dd_X12_shortBy_98 (by decide) ?_
                have hpd0_ : (0 : Int) = pdT (M 209) (M 210) t.toNat := by unfold pdT; first | (rw [if_pos (by omega)]; done) | (rw [if_neg (by omega)]; subst_vars; rfl)
                refine g_topv (v := gI (pdT (M 209) (M 210) t.toNat)) (by rw [hpd0_]) ?_
                refine g_topI (fun pd epd => ?_)
                have hpb_ : 0 ≤ pd ∧ pd ≤ 999 := by omega
                refine g_istore (pc := 107) (i := 5) (L' := [(0, gR 200), (1, gI sm), (2, gI t), (3, gI (10000 * t)), (4, gI ((10000 * t) + 10000)), (5, gI pd)]) hK dd_X12_shortBy_107 (by decide) rfl ?_
                refine g_iconst (pc := 109) (x := 0) hK dd_X12_shortBy_109 (by decide) ?_
                refine g_istore (pc := 110) (i := 6) (L' := [(0, gR 200), (1, gI sm), (2, gI t), (3, gI (10000 * t)), (4, gI ((10000 * t) + 10000)), (5, gI pd), (6, gI 0)]) hK dd_X12_shortBy_110 (by decide) rfl ?_
                have lp46 : ∀ (n44 : Nat) (v : Int), (0 ≤ v ∧ v ≤ sm + 1) → (sm + 1 - v).toNat < n44 → G p l e R s m args below meth c D cy q A cells slots 8 Q 112 [(0, gR 200), (1, gI sm), (2, gI t), (3, gI (10000 * t)), (4, gI ((10000 * t) + 10000)), (5, gI pd), (6, gI v)] [] (sr M 251 (bwX (M 251) (fwV (M 209) (M 210)) sm.toNat (t.toNat + 1) v.toNat)) := by
                  intro n44
                  induction n44 with
                  | zero => intro v iv47 hm48; exact absurd hm48 (Nat.not_lt_zero _)
                  | succ n44 ih45 =>
                    intro v iv47 hm48
                    refine g_iload (pc := 112) (i := 6) (x := v) hK dd_X12_shortBy_112 rfl ?_
                    refine g_iloadn (pc := 114) (i := 1) (x := sm) hK dd_X12_shortBy_114 rfl rfl ?_
                    refine g_icmp_gt (pc := 115) (tgt := 195) hK dd_X12_shortBy_115 (by decide) ⟨by omega, by omega⟩ ⟨by omega, by omega⟩ (fun c49 => ?_) (fun c49 => ?_)
                    · refine g_iinc (pc := 195) (i := 2) (y := t + 1) (L' := [(0, gR 200), (1, gI sm), (2, gI (t + 1)), (3, gI (10000 * t)), (4, gI ((10000 * t) + 10000)), (5, gI pd), (6, gI v)]) hK dd_X12_shortBy_195 rfl rfl (by decide) rfl ?_
                      refine g_goto (pc := 198) (tgt := 67) hK dd_X12_shortBy_198 (by decide) ?_
                      refine g_sub (L' := [(0, gR 200), (1, gI sm), (2, gI (t + 1))]) [0, 1, 2] rfl ?_
                      refine g_mem (M2 := sr M 251 (bwX (M 251) (fwV (M 209) (M 210)) sm.toNat ((t + 1).toNat + 1) 0)) (by rw [tn1 (t := t) (by omega), show v.toNat = sm.toNat + 1 by omega, bwX_r]) ?_
                      exact ih8 (t + 1) (by omega) (by omega)
                    · refine g_aloadn (pc := 118) (i := 0) (x := 200) hK dd_X12_shortBy_118 rfl rfl ?_
                      refine g_getv (pc := 119) (f := (2, 51)) (j := 50) (v := gR 251) hK (kdm kd_200) rfl ef_12 (by decide) (by decide +kernel) kk_1151 dd_X12_shortBy_119 (fa_few (M := (sr M 251 (bwX (M 251) (fwV (M 209) (M 210)) sm.toNat (t.toNat + 1) v.toNat))) hfw_) ?_
                      refine g_iloadn (pc := 122) (i := 3) (x := 10000 * t) hK dd_X12_shortBy_122 rfl rfl ?_
                      refine g_iload (pc := 123) (i := 6) (x := v) hK dd_X12_shortBy_123 rfl ?_
                      refine g_iadd (pc := 125) (z := (10000 * t) + v) hK dd_X12_shortBy_125 rfl ?_
                      refine g_bald (pc := 126) hK (kdF hfw_) nl_251 (by decide) dd_X12_shortBy_126 (by omega) (by omega) (fun x50 ex50 rx50 => ?_)
                      replace ex50 : x50 = (bwX (M 251) (fwV (M 209) (M 210)) sm.toNat (t.toNat + 1) v.toNat) (((10000 * t) + v).toNat) := by first | exact ex50 | (rw [ex50]; simp [up, us, cp, sr])
                      rw [show (10000 * t + v).toNat = 10000 * t.toNat + (v).toNat by omega, bwX_at (by omega) (by omega) (Or.inl (by omega))] at ex50
                      have hwo0_ : x50 = (fwV (M 209) (M 210)) t.toNat v.toNat := ex50
                      refine g_topv (v := gI ((fwV (M 209) (M 210)) t.toNat v.toNat)) (by rw [hwo0_]) ?_
                      refine g_topI (fun wo ewo => ?_)
                      have hwo_ := fwV_in (B := M 209) (PD := M 210) t.toNat v.toNat
                      rw [← ewo] at hwo_
                      refine g_istore (pc := 127) (i := 7) (L' := [(0, gR 200), (1, gI sm), (2, gI t), (3, gI (10000 * t)), (4, gI ((10000 * t) + 10000)), (5, gI pd), (6, gI v), (7, gI wo)]) hK dd_X12_shortBy_127 (by decide) rfl ?_
                      refine g_iload (pc := 129) (i := 5) (x := pd) hK dd_X12_shortBy_129 rfl ?_
                      refine g_if_le (pc := 131) (tgt := 176) hK dd_X12_shortBy_131 (by decide) ⟨by omega, by omega⟩ (fun c51 => ?_) (fun c51 => ?_)
                      · skip
                        refine g_aloadn (pc := 176) (i := 0) (x := 200) hK dd_X12_shortBy_176 rfl rfl ?_
                        refine g_getv (pc := 177) (f := (2, 51)) (j := 50) (v := gR 251) hK (kdm kd_200) rfl ef_12 (by decide) (by decide +kernel) kk_1151 dd_X12_shortBy_177 (fa_few (M := (sr M 251 (bwX (M 251) (fwV (M 209) (M 210)) sm.toNat (t.toNat + 1) v.toNat))) hfw_) ?_
                        refine g_iload (pc := 180) (i := 4) (x := (10000 * t) + 10000) hK dd_X12_shortBy_180 rfl ?_
                        refine g_iload (pc := 182) (i := 6) (x := v) hK dd_X12_shortBy_182 rfl ?_
                        refine g_iadd (pc := 184) (z := ((10000 * t) + 10000) + v) hK dd_X12_shortBy_184 rfl ?_
                        refine g_iload (pc := 185) (i := 7) (x := wo) hK dd_X12_shortBy_185 rfl ?_
                        have hst_ : (fwV (M 209) (M 210)) (t.toNat + 1) v.toNat = wo := fwV_n epd (by omega) ewo (by omega)
                        have hix_ : (10000 * t + 10000 + v).toNat = 10000 * (t.toNat + 1) + v.toNat := by omega
                        refine g_i2b (pc := 187) (z := wo) hK dd_X12_shortBy_187 (ji2b_id (by omega) (by omega)) ?_
                        refine g_bast (pc := 188) hK (kdF hfw_) nl_251 (by decide) (by decide) dd_X12_shortBy_188 (by omega) (by omega) ⟨by omega, by omega⟩ ?_
                        refine g_iinc (pc := 189) (i := 6) (y := v + 1) (L' := [(0, gR 200), (1, gI sm), (2, gI t), (3, gI (10000 * t)), (4, gI ((10000 * t) + 10000)), (5, gI pd), (6, gI (v + 1)), (7, gI wo)]) hK dd_X12_shortBy_189 rfl rfl (by decide) rfl ?_
                        refine g_goto (pc := 192) (tgt := 112) hK dd_X12_shortBy_192 (by decide) ?_
                        refine g_sub (L' := [(0, gR 200), (1, gI sm), (2, gI t), (3, gI (10000 * t)), (4, gI ((10000 * t) + 10000)), (5, gI pd), (6, gI (v + 1))]) [0, 1, 2, 3, 4, 5, 6] rfl ?_
                        refine g_mem (M2 := sr M 251 (bwX (M 251) (fwV (M 209) (M 210)) sm.toNat (t.toNat + 1) (v + 1).toNat)) (by rw [tn1 (t := v) (by omega), ← bwX_s (T := t.toNat + 1) (K := v.toNat) (by omega) (by omega), hst_, ← hix_]; simp (disch := decide) only [Int.reduceToNat, up_sr, sr_cp, sr_k, sr_o, sr_sr, us_us]; try rfl) ?_
                        exact ih45 (v + 1) (by omega) (by omega)
                      · refine g_iload (pc := 134) (i := 6) (x := v) hK dd_X12_shortBy_134 rfl ?_
                        refine g_iload (pc := 136) (i := 5) (x := pd) hK dd_X12_shortBy_136 rfl ?_
                        refine g_icmp_lt (pc := 138) (tgt := 176) hK dd_X12_shortBy_138 (by decide) ⟨by omega, by omega⟩ ⟨by omega, by omega⟩ (fun c52 => ?_) (fun c52 => ?_)
                        · skip
                          refine g_aloadn (pc := 176) (i := 0) (x := 200) hK dd_X12_shortBy_176 rfl rfl ?_
                          refine g_getv (pc := 177) (f := (2, 51)) (j := 50) (v := gR 251) hK (kdm kd_200) rfl ef_12 (by decide) (by decide +kernel) kk_1151 dd_X12_shortBy_177 (fa_few (M := (sr M 251 (bwX (M 251) (fwV (M 209) (M 210)) sm.toNat (t.toNat + 1) v.toNat))) hfw_) ?_
                          refine g_iload (pc := 180) (i := 4) (x := (10000 * t) + 10000) hK dd_X12_shortBy_180 rfl ?_
                          refine g_iload (pc := 182) (i := 6) (x := v) hK dd_X12_shortBy_182 rfl ?_
                          refine g_iadd (pc := 184) (z := ((10000 * t) + 10000) + v) hK dd_X12_shortBy_184 rfl ?_
                          refine g_iload (pc := 185) (i := 7) (x := wo) hK dd_X12_shortBy_185 rfl ?_
                          have hst_ : (fwV (M 209) (M 210)) (t.toNat + 1) v.toNat = wo := fwV_n epd (by omega) ewo (by omega)
                          have hix_ : (10000 * t + 10000 + v).toNat = 10000 * (t.toNat + 1) + v.toNat := by omega
                          refine g_i2b (pc := 187) (z := wo) hK dd_X12_shortBy_187 (ji2b_id (by omega) (by omega)) ?_
                          refine g_bast (pc := 188) hK (kdF hfw_) nl_251 (by decide) (by decide) dd_X12_shortBy_188 (by omega) (by omega) ⟨by omega, by omega⟩ ?_
                          refine g_iinc (pc := 189) (i := 6) (y := v + 1) (L' := [(0, gR 200), (1, gI sm), (2, gI t), (3, gI (10000 * t)), (4, gI ((10000 * t) + 10000)), (5, gI pd), (6, gI (v + 1)), (7, gI wo)]) hK dd_X12_shortBy_189 rfl rfl (by decide) rfl ?_
                          refine g_goto (pc := 192) (tgt := 112) hK dd_X12_shortBy_192 (by decide) ?_
                          refine g_sub (L' := [(0, gR 200), (1, gI sm), (2, gI t), (3, gI (10000 * t)), (4, gI ((10000 * t) + 10000)), (5, gI pd), (6, gI (v + 1))]) [0, 1, 2, 3, 4, 5, 6] rfl ?_
                          refine g_mem (M2 := sr M 251 (bwX (M 251) (fwV (M 209) (M 210)) sm.toNat (t.toNat + 1) (v + 1).toNat)) (by rw [tn1 (t := v) (by omega), ← bwX_s (T := t.toNat + 1) (K := v.toNat) (by omega) (by omega), hst_, ← hix_]; simp (disch := decide) only [Int.reduceToNat, up_sr, sr_cp, sr_k, sr_o, sr_sr, us_us]; try rfl) ?_
                          exact ih45 (v + 1) (by omega) (by omega)
                        · refine g_aloadn (pc := 141) (i := 0) (x := 200) hK dd_X12_shortBy_141 rfl rfl ?_
                          refine g_getv (pc := 142) (f := (2, 51)) (j := 50) (v := gR 251) hK (kdm kd_200) rfl ef_12 (by decide) (by decide +kernel) kk_1151 dd_X12_shortBy_142 (fa_few (M := (sr M 251 (bwX (M 251) (fwV (M 209) (M 210)) sm.toNat (t.toNat + 1) v.toNat))) hfw_) ?_
                          refine g_iloadn (pc := 145) (i := 3) (x := 10000 * t) hK dd_X12_shortBy_145 rfl rfl ?_
                          refine g_iload (pc := 146) (i := 6) (x := v) hK dd_X12_shortBy_146 rfl ?_
                          refine g_iadd (pc := 148) (z := (10000 * t) + v) hK dd_X12_shortBy_148 rfl ?_
                          refine g_iload (pc := 149) (i := 5) (x := pd) hK dd_X12_shortBy_149 rfl ?_
                          refine g_isub (pc := 151) (z := ((10000 * t) + v) - pd) hK dd_X12_shortBy_151 rfl ?_
                          refine g_bald (pc := 152) hK (kdF hfw_) nl_251 (by decide) dd_X12_shortBy_152 (by omega) (by omega) (fun x53 ex53 rx53 => ?_)
                          replace ex53 : x53 = (bwX (M 251) (fwV (M 209) (M 210)) sm.toNat (t.toNat + 1) v.toNat) ((((10000 * t) + v) - pd).toNat) := by first | exact ex53 | (rw [ex53]; simp [up, us, cp, sr])
                          rw [show (10000 * t + v - pd).toNat = 10000 * t.toNat + (v - pd).toNat by omega, bwX_at (by omega) (by omega) (Or.inl (by omega))] at ex53
                          have hwi0_ : x53 = (fwV (M 209) (M 210)) t.toNat (v - pd).toNat := ex53
                          refine g_topv (v := gI ((fwV (M 209) (M 210)) t.toNat (v - pd).toNat)) (by rw [hwi0_]) ?_
                          refine g_topI (fun wi ewi => ?_)
                          have hwi_ := fwV_in (B := M 209) (PD := M 210) t.toNat (v - pd).toNat
                          rw [← ewi] at hwi_
                          refine g_iconst (pc := 153) (x := 1) hK dd_X12_shortBy_153 (by decide) ?_
                          refine g_iadd (pc := 154) (z := wi + 1) hK dd_X12_shortBy_154 rfl ?_
                          refine g_iload (pc := 155) (i := 7) (x := wo) hK dd_X12_shortBy_155 rfl ?_
                          refine g_icmp_ge (pc := 157) (tgt := 176) hK dd_X12_shortBy_157 (by decide) ⟨by omega, by omega⟩ ⟨by omega, by omega⟩ (fun c54 => ?_) (fun c54 => ?_)
                          · skip
                            refine g_aloadn (pc := 176) (i := 0) (x := 200) hK dd_X12_shortBy_176 rfl rfl ?_
                            refine g_getv (pc := 177) (f := (2, 51)) (j := 50) (v := gR 251) hK (kdm kd_200) rfl ef_12 (by decide) (by decide +kernel) kk_1151 dd_X12_shortBy_177 (fa_few (M := (sr M 251 (bwX (M 251) (fwV (M 209) (M 210)) sm.toNat (t.toNat + 1) v.toNat))) hfw_) ?_
                            refine g_iload (pc := 180) (i := 4) (x := (10000 * t) + 10000) hK dd_X12_shortBy_180 rfl ?_
                            refine g_iload (pc := 182) (i := 6) (x := v) hK dd_X12_shortBy_182 rfl ?_
                            refine g_iadd (pc := 184) (z := ((10000 * t) + 10000) + v) hK dd_X12_shortBy_184 rfl ?_
                            refine g_iload (pc := 185) (i := 7) (x := wo) hK dd_X12_shortBy_185 rfl ?_
                            have hst_ : (fwV (M 209) (M 210)) (t.toNat + 1) v.toNat = wo := fwV_n epd (by omega) ewo (by rw [← ewi]; omega)
                            have hix_ : (10000 * t + 10000 + v).toNat = 10000 * (t.toNat + 1) + v.toNat := by omega
                            refine g_i2b (pc := 187) (z := wo) hK dd_X12_shortBy_187 (ji2b_id (by omega) (by omega)) ?_
                            refine g_bast (pc := 188) hK (kdF hfw_) nl_251 (by decide) (by decide) dd_X12_shortBy_188 (by omega) (by omega) ⟨by omega, by omega⟩ ?_
                            refine g_iinc (pc := 189) (i := 6) (y := v + 1) (L' := [(0, gR 200), (1, gI sm), (2, gI t), (3, gI (10000 * t)), (4, gI ((10000 * t) + 10000)), (5, gI pd), (6, gI (v + 1)), (7, gI wo)]) hK dd_X12_shortBy_189 rfl rfl (by decide) rfl ?_
                            refine g_goto (pc := 192) (tgt := 112) hK dd_X12_shortBy_192 (by decide) ?_
                            refine g_sub (L' := [(0, gR 200), (1, gI sm), (2, gI t), (3, gI (10000 * t)), (4, gI ((10000 * t) + 10000)), (5, gI pd), (6, gI (v + 1))]) [0, 1, 2, 3, 4, 5, 6] rfl ?_
                            refine g_mem (M2 := sr M 251 (bwX (M 251) (fwV (M 209) (M 210)) sm.toNat (t.toNat + 1) (v + 1).toNat)) (by rw [tn1 (t := v) (by omega), ← bwX_s (T := t.toNat + 1) (K := v.toNat) (by omega) (by omega), hst_, ← hix_]; simp (disch := decide) only [Int.reduceToNat, up_sr, sr_cp, sr_k, sr_o, sr_sr, us_us]; try rfl) ?_
                            exact ih45 (v + 1) (by omega) (by omega)
                          · refine g_aloadn (pc := 160) (i := 0) (x := 200) hK dd_X12_shortBy_160 rfl rfl ?_
                            refine g_getv (pc := 161) (f := (2, 51)) (j := 50) (v := gR 251) hK (kdm kd_200) rfl ef_12 (by decide) (by decide +kernel) kk_1151 dd_X12_shortBy_161 (fa_few (M := (sr M 251 (bwX (M 251) (fwV (M 209) (M 210)) sm.toNat (t.toNat + 1) v.toNat))) hfw_) ?_
                            refine g_iloadn (pc := 164) (i := 3) (x := 10000 * t) hK dd_X12_shortBy_164 rfl rfl ?_
                            refine g_iload (pc := 165) (i := 6) (x := v) hK dd_X12_shortBy_165 rfl ?_
                            refine g_iadd (pc := 167) (z := (10000 * t) + v) hK dd_X12_shortBy_167 rfl ?_
                            refine g_iload (pc := 168) (i := 5) (x := pd) hK dd_X12_shortBy_168 rfl ?_
                            refine g_isub (pc := 170) (z := ((10000 * t) + v) - pd) hK dd_X12_shortBy_170 rfl ?_
                            refine g_bald (pc := 171) hK (kdF hfw_) nl_251 (by decide) dd_X12_shortBy_171 (by omega) (by omega) (fun x55 ex55 rx55 => ?_)
                            replace ex55 : x55 = (bwX (M 251) (fwV (M 209) (M 210)) sm.toNat (t.toNat + 1) v.toNat) ((((10000 * t) + v) - pd).toNat) := by first | exact ex55 | (rw [ex55]; simp [up, us, cp, sr])
                            rw [show (10000 * t + v - pd).toNat = 10000 * t.toNat + (v - pd).toNat by omega, bwX_at (by omega) (by omega) (Or.inl (by omega))] at ex55
                            refine g_topv (v := gI wi) (by rw [ewi, ex55]) ?_
                            refine g_iconst (pc := 172) (x := 1) hK dd_X12_shortBy_172 (by decide) ?_
                            refine g_iadd (pc := 173) (z := wi + 1) hK dd_X12_shortBy_173 rfl ?_
                            refine g_istore (pc := 174) (i := 7) (L' := [(0, gR 200), (1, gI sm), (2, gI t), (3, gI (10000 * t)), (4, gI ((10000 * t) + 10000)), (5, gI pd), (6, gI v), (7, gI (wi + 1))]) hK dd_X12_shortBy_174 (by decide) rfl ?_
                            skip
                            refine g_aloadn (pc := 176) (i := 0) (x := 200) hK dd_X12_shortBy_176 rfl rfl ?_
                            refine g_getv (pc := 177) (f := (2, 51)) (j := 50) (v := gR 251) hK (kdm kd_200) rfl ef_12 (by decide) (by decide +kernel) kk_1151 dd_X12_shortBy_177 (fa_few (M := (sr M 251 (bwX (M 251) (fwV (M 209) (M 210)) sm.toNat (t.toNat + 1) v.toNat))) hfw_) ?_
                            refine g_iload (pc := 180) (i := 4) (x := (10000 * t) + 10000) hK dd_X12_shortBy_180 rfl ?_
                            refine g_iload (pc := 182) (i := 6) (x := v) hK dd_X12_shortBy_182 rfl ?_
                            refine g_iadd (pc := 184) (z := ((10000 * t) + 10000) + v) hK dd_X12_shortBy_184 rfl ?_
                            refine g_iload (pc := 185) (i := 7) (x := wi + 1) hK dd_X12_shortBy_185 rfl ?_
                            have hst_ : (fwV (M 209) (M 210)) (t.toNat + 1) v.toNat = wi + 1 := fwV_y epd (by omega) ewo ewi ⟨by omega, by omega, by omega⟩
                            have hix_ : (10000 * t + 10000 + v).toNat = 10000 * (t.toNat + 1) + v.toNat := by omega
                            refine g_i2b (pc := 187) (z := wi + 1) hK dd_X12_shortBy_187 (ji2b_id (by omega) (by omega)) ?_
                            refine g_bast (pc := 188) hK (kdF hfw_) nl_251 (by decide) (by decide) dd_X12_shortBy_188 (by omega) (by omega) ⟨by omega, by omega⟩ ?_
                            refine g_iinc (pc := 189) (i := 6) (y := v + 1) (L' := [(0, gR 200), (1, gI sm), (2, gI t), (3, gI (10000 * t)), (4, gI ((10000 * t) + 10000)), (5, gI pd), (6, gI (v + 1)), (7, gI (wi + 1))]) hK dd_X12_shortBy_189 rfl rfl (by decide) rfl ?_
                            refine g_goto (pc := 192) (tgt := 112) hK dd_X12_shortBy_192 (by decide) ?_
                            refine g_sub (L' := [(0, gR 200), (1, gI sm), (2, gI t), (3, gI (10000 * t)), (4, gI ((10000 * t) + 10000)), (5, gI pd), (6, gI (v + 1))]) [0, 1, 2, 3, 4, 5, 6] rfl ?_
                            refine g_mem (M2 := sr M 251 (bwX (M 251) (fwV (M 209) (M 210)) sm.toNat (t.toNat + 1) (v + 1).toNat)) (by rw [tn1 (t := v) (by omega), ← bwX_s (T := t.toNat + 1) (K := v.toNat) (by omega) (by omega), hst_, ← hix_]; simp (disch := decide) only [Int.reduceToNat, up_sr, sr_cp, sr_k, sr_o, sr_sr, us_us]; try rfl) ?_
                            exact ih45 (v + 1) (by omega) (by omega)
                refine g_mem (M2 := sr M 251 (bwX (M 251) (fwV (M 209) (M 210)) sm.toNat (t.toNat + 1) (0 : Int).toNat)) (rfl) ?_
                refine g_sub (L' := [(0, gR 200), (1, gI sm), (2, gI t), (3, gI (10000 * t)), (4, gI ((10000 * t) + 10000)), (5, gI pd), (6, gI 0)]) [0, 1, 2, 3, 4, 5, 6] rfl ?_
                exact lp46 _ 0 (by omega) (Nat.lt_succ_self _)
        refine g_mem (M2 := sr M 251 (bwX (M 251) (fwV (M 209) (M 210)) sm.toNat ((0 : Int).toNat + 1) 0)) (by rw [show v.toNat = sm.toNat + 1 by omega, bwX_r]; rfl) ?_
        refine g_sub (L' := [(0, gR 200), (1, gI sm), (2, gI 0)]) [0, 1, 2] rfl ?_
        exact lp9 _ 0 (by omega) (Nat.lt_succ_self _)
      · refine g_aloadn (pc := 42) (i := 0) (x := 200) hK dd_X12_shortBy_42 rfl rfl ?_
        refine g_getv (pc := 43) (f := (2, 51)) (j := 50) (v := gR 251) hK (kdm kd_200) rfl ef_12 (by decide) (by decide +kernel) kk_1151 dd_X12_shortBy_43 (fa_few (M := (sr M 251 (bwX (M 251) (fwV (M 209) (M 210)) sm.toNat 0 v.toNat))) hfw_) ?_
        refine g_iloadn (pc := 46) (i := 2) (x := v) hK dd_X12_shortBy_46 rfl rfl ?_
        refine g_iloadn (pc := 47) (i := 2) (x := v) hK dd_X12_shortBy_47 rfl rfl ?_
        refine g_if_ne (pc := 48) (tgt := 55) hK dd_X12_shortBy_48 (by decide) ⟨by omega, by omega⟩ (fun c56 => ?_) (fun c56 => ?_)
        · have hv0_ : (fwV (M 209) (M 210)) 0 v.toNat = 99 := by show (if v.toNat = 0 then (0 : Int) else 99) = 99; rw [if_neg (by omega)]
          refine g_bipush (pc := 55) (x := 99) hK dd_X12_shortBy_55 (by decide) ?_
          refine g_i2b (pc := 57) (z := 99) hK dd_X12_shortBy_57 (ji2b_id (by omega) (by omega)) ?_
          refine g_bast (pc := 58) hK (kdF hfw_) nl_251 (by decide) (by decide) dd_X12_shortBy_58 (by omega) (by omega) ⟨by omega, by omega⟩ ?_
          refine g_iinc (pc := 59) (i := 2) (y := v + 1) (L' := [(0, gR 200), (1, gI sm), (2, gI (v + 1))]) hK dd_X12_shortBy_59 rfl rfl (by decide) rfl ?_
          refine g_goto (pc := 62) (tgt := 37) hK dd_X12_shortBy_62 (by decide) ?_
          refine g_sub (L' := [(0, gR 200), (1, gI sm), (2, gI (v + 1))]) [0, 1, 2] rfl ?_
          refine g_mem (M2 := sr M 251 (bwX (M 251) (fwV (M 209) (M 210)) sm.toNat 0 (v + 1).toNat)) (by rw [tn1 (t := v) (by omega)]; refine Eq.trans ?_ (congrArg (sr M 251) (bwX_s0 (F := M 251) (V := (fwV (M 209) (M 210))) (mi := sm.toNat) (K := v.toNat) (by omega) (by omega))); rw [hv0_]; simp (disch := decide) only [Int.reduceToNat, up_sr, sr_cp, sr_k, sr_o, sr_sr, us_us]; try rfl) ?_
          exact ih2 (v + 1) (by omega) (by omega)
        · have hv0_ : (fwV (M 209) (M 210)) 0 v.toNat = 0 := by show (if v.toNat = 0 then (0 : Int) else 99) = 0; rw [if_pos (by omega)]
          refine g_iconst (pc := 51) (x := 0) hK dd_X12_shortBy_51 (by decide) ?_
          refine g_goto (pc := 52) (tgt := 57) hK dd_X12_shortBy_52 (by decide) ?_
          refine g_i2b (pc := 57) (z := 0) hK dd_X12_shortBy_57 (ji2b_id (by omega) (by omega)) ?_
          refine g_bast (pc := 58) hK (kdF hfw_) nl_251 (by decide) (by decide) dd_X12_shortBy_58 (by omega) (by omega) ⟨by omega, by omega⟩ ?_
          refine g_iinc (pc := 59) (i := 2) (y := v + 1) (L' := [(0, gR 200), (1, gI sm), (2, gI (v + 1))]) hK dd_X12_shortBy_59 rfl rfl (by decide) rfl ?_
          refine g_goto (pc := 62) (tgt := 37) hK dd_X12_shortBy_62 (by decide) ?_
          refine g_sub (L' := [(0, gR 200), (1, gI sm), (2, gI (v + 1))]) [0, 1, 2] rfl ?_
          refine g_mem (M2 := sr M 251 (bwX (M 251) (fwV (M 209) (M 210)) sm.toNat 0 (v + 1).toNat)) (by rw [tn1 (t := v) (by omega)]; refine Eq.trans ?_ (congrArg (sr M 251) (bwX_s0 (F := M 251) (V := (fwV (M 209) (M 210))) (mi := sm.toNat) (K := v.toNat) (by omega) (by omega))); rw [hv0_]; simp (disch := decide) only [Int.reduceToNat, up_sr, sr_cp, sr_k, sr_o, sr_sr, us_us]; try rfl) ?_
          exact ih2 (v + 1) (by omega) (by omega)
  refine g_mem (M2 := sr M 251 (bwX (M 251) (fwV (M 209) (M 210)) sm.toNat 0 (0 : Int).toNat)) (by show M = sr M 251 (bwX _ _ _ 0 0); rw [bwX_0]; exact sr_self.symm) ?_
  refine g_sub (L' := [(0, gR 200), (1, gI sm), (2, gI 0)]) [0, 1, 2] rfl ?_
  exact lp3 _ 0 (by omega) (Nat.lt_succ_self _)
end S35
set_option maxHeartbeats 4000000 in
set_option maxRecDepth 100000 in
theorem y_shortBy {l : Launch} {M : Mem} {Pq : Option gV → Mem → Prop} (sm : Int) (h_sm : inI sm) (hrg : rgOK M) (hmc : 0 ≤ M 200 3 ∧ M 200 3 ≤ 30) (hpd : ∀ j : Nat, j < 30 → 0 ≤ M 209 j → 0 ≤ M 210 j ∧ M 210 j ≤ 999) (hfw_ : ¬ M 200 50 = 0) (hB : (¬ (1 ≤ sm ∧ sm ≤ 9999)) → Pq (some (gI (-2))) (rg M 2)) (hN : ((1 ≤ sm ∧ sm ≤ 9999) ∧ (fwV (M 209) (M 210)) (M 200 3).toNat sm.toNat = 99) → Pq (some (gI (-1))) (sr M 251 (bwX (M 251) (fwV (M 209) (M 210)) sm.toNat ((M 200 3).toNat + 1) 0))) (hY : ((1 ≤ sm ∧ sm ≤ 9999) ∧ ¬ (fwV (M 209) (M 210)) (M 200 3).toNat sm.toNat = 99) → Pq (some (gI ((bkW (fwV (M 209) (M 210)) (M 210) (M 200 3).toNat (0, sm)).1))) (sr M 251 (bwX (M 251) (fwV (M 209) (M 210)) sm.toNat ((M 200 3).toNat + 1) 0))) : gCtr l my_X12_shortBy mb_X12_shortBy 8 ((some .int)) 2 [gR 200, gI sm] M Pq := by
  refine g_intro (by decide) (Nat.le_of_ble_eq_true rfl) ?_
  intro p e s m args below meth c D cy q A hK hr hlocks hw
  refine g_sub (L' := [(0, gR 200), (1, gI sm)]) [0, 1] rfl ?_
  refine g_iloadn (pc := 0) (i := 1) (x := sm) hK dd_X12_shortBy_0 rfl rfl ?_
  refine g_iconst (pc := 1) (x := 1) hK dd_X12_shortBy_1 (by decide) ?_
  refine g_icmp_lt (pc := 2) (tgt := 12) hK dd_X12_shortBy_2 (by decide) h_sm (by decide) (fun c1 => ?_) (fun c1 => ?_)
  · refine g_aloadn (pc := 12) (i := 0) (x := 200) hK dd_X12_shortBy_12 rfl rfl ?_
    refine g_bipush (pc := 13) (x := (-2)) hK dd_X12_shortBy_13 (by decide) ?_
    refine g_callV (pc := 15) (As := [gI (-2)]) hK ws_M_152 md_X12_no ⟨Nat.zero_le _, Nat.zero_le _⟩ ⟨by decide, by decide⟩ (kdm kd_200) rfl rfl dd_X12_shortBy_15 rfl rfl (Nat.le_of_ble_eq_true rfl) (d_no_2 hrg (g_r1 ?_))
    refine g_iret (pc := 18) hK hr hlocks dd_X12_shortBy_18 rfl ?_
    exact hB (by omega)
  · refine g_iloadn (pc := 5) (i := 1) (x := sm) hK dd_X12_shortBy_5 rfl rfl ?_
    refine g_sipush (pc := 6) (x := 9999) hK dd_X12_shortBy_6 (by decide) ?_
    refine g_icmp_le (pc := 9) (tgt := 19) hK dd_X12_shortBy_9 (by decide) h_sm (by decide) (fun c2 => ?_) (fun c2 => ?_)
    · refine g_aloadn (pc := 19) (i := 0) (x := 200) hK dd_X12_shortBy_19 rfl rfl ?_
      refine g_getv (pc := 20) (f := (2, 51)) (j := 50) (v := gR 251) hK (kdm kd_200) rfl ef_12 (by decide) (by decide +kernel) kk_1151 dd_X12_shortBy_20 (fa_few hfw_) ?_
      refine g_ifnonnull (pc := 23) (tgt := 35) hK dd_X12_shortBy_23 (by decide) ?_
      exact y_short35 hK sm (by omega) hmc hpd hfw_ (fun h99 => g_iret (pc := 222) hK hr hlocks dd_X12_shortBy_222 rfl (hN ⟨by omega, h99⟩)) (fun h99 => g_iret (pc := 298) hK hr hlocks dd_X12_shortBy_298 rfl (hY ⟨by omega, h99⟩))
    · refine g_aloadn (pc := 12) (i := 0) (x := 200) hK dd_X12_shortBy_12 rfl rfl ?_
      refine g_bipush (pc := 13) (x := (-2)) hK dd_X12_shortBy_13 (by decide) ?_
      refine g_callV (pc := 15) (As := [gI (-2)]) hK ws_M_152 md_X12_no ⟨Nat.zero_le _, Nat.zero_le _⟩ ⟨by decide, by decide⟩ (kdm kd_200) rfl rfl dd_X12_shortBy_15 rfl rfl (Nat.le_of_ble_eq_true rfl) (d_no_2 hrg (g_r1 ?_))
      refine g_iret (pc := 18) hK hr hlocks dd_X12_shortBy_18 rfl ?_
      exact hB (by omega)
set_option maxHeartbeats 4000000 in
set_option maxRecDepth 100000 in
theorem y_shortByN {l : Launch} {M : Mem} {Pq : Option gV → Mem → Prop} (sm : Int) (h_sm : inI sm) (hrg : rgOK M) (hmc : 0 ≤ M 200 3 ∧ M 200 3 ≤ 30) (hpd : ∀ j : Nat, j < 30 → 0 ≤ M 209 j → 0 ≤ M 210 j ∧ M 210 j ≤ 999) (hfw_ : M 200 50 = 0) (hB : (¬ (1 ≤ sm ∧ sm ≤ 9999)) → Pq (some (gI (-2))) (rg M 2)) (hN : ((1 ≤ sm ∧ sm ≤ 9999) ∧ (fwV (M 209) (M 210)) (M 200 3).toNat sm.toNat = 99) → Pq (some (gI (-1))) (sr (MF1 M) 251 (bwX ((MF1 M) 251) (fwV (M 209) (M 210)) sm.toNat ((M 200 3).toNat + 1) 0))) (hY : ((1 ≤ sm ∧ sm ≤ 9999) ∧ ¬ (fwV (M 209) (M 210)) (M 200 3).toNat sm.toNat = 99) → Pq (some (gI ((bkW (fwV (M 209) (M 210)) (M 210) (M 200 3).toNat (0, sm)).1))) (sr (MF1 M) 251 (bwX ((MF1 M) 251) (fwV (M 209) (M 210)) sm.toNat ((M 200 3).toNat + 1) 0))) : gCtrN l my_X12_shortBy mb_X12_shortBy 8 ((some .int)) 2 [gR 200, gI sm] M Pq := by
  refine g_introN (by decide) (Nat.le_of_ble_eq_true rfl) ?_
  intro p e s m args below meth c D cy q A hK hr hlocks hw
  refine g_sub (L' := [(0, gR 200), (1, gI sm)]) [0, 1] rfl ?_
  refine g_iloadn (pc := 0) (i := 1) (x := sm) hK dd_X12_shortBy_0 rfl rfl ?_
  refine g_iconst (pc := 1) (x := 1) hK dd_X12_shortBy_1 (by decide) ?_
  refine g_icmp_lt (pc := 2) (tgt := 12) hK dd_X12_shortBy_2 (by decide) h_sm (by decide) (fun c1 => ?_) (fun c1 => ?_)
  · refine g_aloadn (pc := 12) (i := 0) (x := 200) hK dd_X12_shortBy_12 rfl rfl ?_
    refine g_bipush (pc := 13) (x := (-2)) hK dd_X12_shortBy_13 (by decide) ?_
    refine g_callV (pc := 15) (As := [gI (-2)]) hK ws_M_152 md_X12_no ⟨Nat.zero_le _, Nat.zero_le _⟩ ⟨by decide, by decide⟩ (kdm kd_200) rfl rfl dd_X12_shortBy_15 rfl rfl (Nat.le_of_ble_eq_true rfl) (d_no_2 hrg (g_r1 ?_))
    refine g_widen (k := 1) (n := 310000) (by decide) (Nat.zero_le _) ?_
    refine g_iretN (pc := 18) hK hr hlocks dd_X12_shortBy_18 rfl (fun _ _ => rfl) ?_
    exact hB (by omega)
  · refine g_iloadn (pc := 5) (i := 1) (x := sm) hK dd_X12_shortBy_5 rfl rfl ?_
    refine g_sipush (pc := 6) (x := 9999) hK dd_X12_shortBy_6 (by decide) ?_
    refine g_icmp_le (pc := 9) (tgt := 19) hK dd_X12_shortBy_9 (by decide) h_sm (by decide) (fun c2 => ?_) (fun c2 => ?_)
    · refine g_aloadn (pc := 19) (i := 0) (x := 200) hK dd_X12_shortBy_19 rfl rfl ?_
      refine g_getv (pc := 20) (f := (2, 51)) (j := 50) (v := gN) hK (kdm kd_200) rfl ef_12 (by decide) (by decide +kernel) kk_1151 dd_X12_shortBy_20 (fa_few0 hfw_) ?_
      refine g_ifnonnullN (pc := 23) hK dd_X12_shortBy_23 ?_
      refine g_aloadn (pc := 26) (i := 0) (x := 200) hK dd_X12_shortBy_26 rfl rfl ?_
      refine g_ldcw (pc := 27) (x := 310000) hK kk_1577 dd_X12_shortBy_27 (by decide) ?_
      refine g_newF (pc := 30) hK kk_1151 hfw_ (by decide) (Nat.le_of_ble_eq_true rfl) dd_X12_shortBy_30 dd_X12_shortBy_32 (fun _ => rfl) (fun xq => ?_)
      exact y_short35 (M := MF1 M) (OK_q hK (fun _ hk => if_neg hk)) sm (by omega) hmc hpd (show ¬ (1 : Int) = 0 by decide) (fun h99 => g_iretN (pc := 222) (OK_q hK (fun _ hk => if_neg hk)) hr hlocks dd_X12_shortBy_222 rfl (fun _ hk => if_neg hk) (hN ⟨by omega, h99⟩)) (fun h99 => g_iretN (pc := 298) (OK_q hK (fun _ hk => if_neg hk)) hr hlocks dd_X12_shortBy_298 rfl (fun _ hk => if_neg hk) (hY ⟨by omega, h99⟩))
    · refine g_aloadn (pc := 12) (i := 0) (x := 200) hK dd_X12_shortBy_12 rfl rfl ?_
      refine g_bipush (pc := 13) (x := (-2)) hK dd_X12_shortBy_13 (by decide) ?_
      refine g_callV (pc := 15) (As := [gI (-2)]) hK ws_M_152 md_X12_no ⟨Nat.zero_le _, Nat.zero_le _⟩ ⟨by decide, by decide⟩ (kdm kd_200) rfl rfl dd_X12_shortBy_15 rfl rfl (Nat.le_of_ble_eq_true rfl) (d_no_2 hrg (g_r1 ?_))
      refine g_widen (k := 1) (n := 310000) (by decide) (Nat.zero_le _) ?_
      refine g_iretN (pc := 18) hK hr hlocks dd_X12_shortBy_18 rfl (fun _ _ => rfl) ?_
      exact hB (by omega)
