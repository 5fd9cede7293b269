set_option maxHeartbeats 4000000 in
set_option maxRecDepth 100000 in
theorem d_follow {l : Launch} {M : Mem} {Pq : Option gV → Mem → Prop} (i : Int) (hmsc : 0 ≤ M 200 26 ∧ M 200 26 ≤ 20) (hi : 0 ≤ i ∧ i < M 200 26) (hv : Vl (M 200 26).toNat (mbe (M 228) (M 229) (M 230) (M 231)) (M 245)) (ho : ∀ a : Int, 0 ≤ a → occ (M 200 26).toNat (M 245) a ≤ 1) (h0 : occ (M 200 26).toNat (M 245) i = 0) (hm : MC (M 200 26).toNat (M 245) (M 244)) (hT : ∀ (B1 : Nat → Int) (m1 : Nat → Int) (F1 : Nat → Int) (L1 : Nat → Int), (Aug (M 200 26).toNat (mbe (M 228) (M 229) (M 230) (M 231)) i (M 245) (fun _ => -1) B1 ∧ MC (M 200 26).toNat B1 m1) → Pq (some (gI 1)) (sr (sr (sr (sr M 244 (m1)) 245 (B1)) 246 (F1)) 247 (L1))) (hF : ∀ (F1 : Nat → Int) (L1 : Nat → Int), (Nno (M 200 26).toNat (mbe (M 228) (M 229) (M 230) (M 231)) i (M 245) (fun _ => -1) F1) → Pq (some (gI 0)) (sr (sr M 246 (F1)) 247 (L1))) : gCtr l my_X12_follow mb_X12_follow 9 ((some .boolean)) 2 [gR 200, gI i] M Pq := by
  refine g_intro (by decide) (Nat.le_of_ble_eq_true rfl) ?_
  intro p e s m args below meth c D cy q A hK hr hlocks hw
  refine g_sub (L' := [(0, gR 200), (1, gI i)]) [0, 1] rfl ?_
  refine g_iconst (pc := 0) (x := 0) hK dd_X12_follow_0 (by decide) ?_
  refine g_istoren (pc := 1) (i := 2) (L' := [(0, gR 200), (1, gI i), (2, gI 0)]) hK dd_X12_follow_1 rfl (by decide) rfl ?_
  have lp3 : ∀ (n1 : Nat) (b : Int), (0 ≤ b ∧ b ≤ M 200 26) → (M 200 26 - b).toNat < n1 → G p l e (rmD 2) s m args below meth c D cy q A 0 0 9 (MQ below (gQc D cy q A Pq) args s 0 0 A) 2 [(0, gR 200), (1, gI i), (2, gI b)] [] (sr M 246 (puA (fun _ => -1) (M 246) b.toNat)) := by
    intro n1
    induction n1 with
    | zero => intro b iv4 hm5; exact absurd hm5 (Nat.not_lt_zero _)
    | succ n1 ih2 =>
      intro b iv4 hm5
      refine g_iloadn (pc := 2) (i := 2) (x := b) hK dd_X12_follow_2 rfl rfl ?_
      refine g_aloadn (pc := 3) (i := 0) (x := 200) hK dd_X12_follow_3 rfl rfl ?_
      refine g_geti (pc := 4) (f := (0, 0)) (j := 26) hK (kdm kd_200) rfl ef_12 (by decide) rfl kk_1127 nl_200 dd_X12_follow_4 rfl (fun x6 ex6 rx6 => ?_)
      replace ex6 : x6 = M 200 26 := ex6
      refine g_icmp_ge (pc := 7) (tgt := 23) hK dd_X12_follow_7 (by decide) ⟨by omega, by omega⟩ rx6 (fun c7 => ?_) (fun c7 => ?_)
      · refine g_iconst (pc := 23) (x := 0) hK dd_X12_follow_23 (by decide) ?_
        refine g_istoren (pc := 24) (i := 2) (L' := [(0, gR 200), (1, gI i), (2, gI 0)]) hK dd_X12_follow_24 rfl (by decide) rfl ?_
        refine g_aloadn (pc := 25) (i := 0) (x := 200) hK dd_X12_follow_25 rfl rfl ?_
        refine g_getv (pc := 26) (f := (1, 47)) (j := 46) (v := gR 247) hK (kdm kd_200) rfl ef_12 (by decide) rfl kk_1147 dd_X12_follow_26 rfl ?_
        refine g_iloadn (pc := 29) (i := 2) (x := 0) hK dd_X12_follow_29 rfl rfl ?_
        refine g_iinc (pc := 30) (i := 2) (y := 1) (L' := [(0, gR 200), (1, gI i), (2, gI 1)]) hK dd_X12_follow_30 rfl rfl (by decide) rfl ?_
        refine g_iloadn (pc := 33) (i := 1) (x := i) hK dd_X12_follow_33 rfl rfl ?_
        refine g_iast (pc := 34) hK (kdm kd_247) nl_247 (by decide) (by decide) dd_X12_follow_34 (by omega) (by omega) ⟨by omega, by omega⟩ ?_
        refine g_iconst (pc := 35) (x := 0) hK dd_X12_follow_35 (by decide) ?_
        refine g_istoren (pc := 36) (i := 3) (L' := [(0, gR 200), (1, gI i), (2, gI 1), (3, gI 0)]) hK dd_X12_follow_36 rfl (by decide) rfl ?_
        have lp10 : ∀ (n8 : Nat) (cl : Int) (k : Int) (Fg : Nat → Int) (Lg : Nat → Int), (1 ≤ cl ∧ cl ≤ 20) → (0 ≤ k ∧ k ≤ cl) → (SB (M 200 26).toNat (mbe (M 228) (M 229) (M 230) (M 231)) i (M 245) (Fg) (Lg) cl.toNat k.toNat 0) → (20 - k).toNat < n8 → G p l e (rmD 2) s m args below meth c D cy q A 0 0 9 (MQ below (gQc D cy q A Pq) args s 0 0 A) 37 [(0, gR 200), (1, gI i), (2, gI cl), (3, gI k)] [] (sr (sr M 246 (Fg)) 247 (Lg)) := by
          intro n8
          induction n8 with
          | zero => intro cl k Fg Lg iv11 iv12 hsb_ hm13; exact absurd hm13 (Nat.not_lt_zero _)
          | succ n8 ih9 =>
            intro cl k Fg Lg iv11 iv12 hsb_ hm13
            refine g_iloadn (pc := 37) (i := 3) (x := k) hK dd_X12_follow_37 rfl rfl ?_
            refine g_iloadn (pc := 38) (i := 2) (x := cl) hK dd_X12_follow_38 rfl rfl ?_
            refine g_icmp_ge (pc := 39) (tgt := 190) hK dd_X12_follow_39 (by decide) ⟨by omega, by omega⟩ ⟨by omega, by omega⟩ (fun c14 => ?_) (fun c14 => ?_)
            · have hno_ : Nno (M 200 26).toNat (mbe (M 228) (M 229) (M 230) (M 231)) i (M 245) (fun _ => -1) Fg := by have q_ := hsb_; rw [show k = cl by omega] at q_; exact sb_none q_
              refine g_iconst (pc := 190) (x := 0) hK dd_X12_follow_190 (by decide) ?_
              refine g_iret (pc := 191) hK hr hlocks dd_X12_follow_191 rfl ?_
              exact g_fin (hF Fg Lg (by exact hno_)) (by first | rfl | omega | (subst_vars; first | rfl | omega)) (rfl)
            · refine g_aloadn (pc := 42) (i := 0) (x := 200) hK dd_X12_follow_42 rfl rfl ?_
              refine g_getv (pc := 43) (f := (1, 47)) (j := 46) (v := gR 247) hK (kdm kd_200) rfl ef_12 (by decide) rfl kk_1147 dd_X12_follow_43 rfl ?_
              refine g_iloadn (pc := 46) (i := 3) (x := k) hK dd_X12_follow_46 rfl rfl ?_
              refine g_iald (pc := 47) hK (kdm kd_247) nl_247 (by decide) dd_X12_follow_47 (by omega) (by omega) (fun x15 ex15 rx15 => ?_)
              replace ex15 : x15 = Lg k.toNat := by first | exact ex15 | (rw [ex15]; simp [up, us, cp, sr])
              refine g_topI (fun aL eaL => ?_)
              replace eaL := eaL.trans ex15
              have hak_ := hsb_.2.2.1 k.toNat (by omega)
              rw [← eaL] at hak_
              refine g_istore (pc := 48) (i := 4) (L' := [(0, gR 200), (1, gI i), (2, gI cl), (3, gI k), (4, gI aL)]) hK dd_X12_follow_48 (by decide) rfl ?_
              refine g_iconst (pc := 50) (x := 0) hK dd_X12_follow_50 (by decide) ?_
              refine g_istore (pc := 51) (i := 5) (L' := [(0, gR 200), (1, gI i), (2, gI cl), (3, gI k), (4, gI aL), (5, gI 0)]) hK dd_X12_follow_51 (by decide) rfl ?_
              have lp18 : ∀ (n16 : Nat) (c2 : Int) (b : Int) (Fi : Nat → Int) (Li : Nat → Int), (1 ≤ c2 ∧ c2 ≤ 20 ∧ k < c2) → (0 ≤ b ∧ b ≤ M 200 26) → (aL = Li k.toNat) → (SB (M 200 26).toNat (mbe (M 228) (M 229) (M 230) (M 231)) i (M 245) (Fi) (Li) c2.toNat k.toNat b.toNat) → (M 200 26 - b).toNat < n16 → G p l e (rmD 2) s m args below meth c D cy q A 0 0 9 (MQ below (gQc D cy q A Pq) args s 0 0 A) 53 [(0, gR 200), (1, gI i), (2, gI c2), (3, gI k), (4, gI aL), (5, gI b)] [] (sr (sr M 246 (Fi)) 247 (Li)) := by
                intro n16
                induction n16 with
                | zero => intro c2 b Fi Li iv19 iv20 hal_ hsb2_ hm21; exact absurd hm21 (Nat.not_lt_zero _)
                | succ n16 ih17 =>
                  intro c2 b Fi Li iv19 iv20 hal_ hsb2_ hm21
                  refine g_iload (pc := 53) (i := 5) (x := b) hK dd_X12_follow_53 rfl ?_
                  refine g_aloadn (pc := 55) (i := 0) (x := 200) hK dd_X12_follow_55 rfl rfl ?_
                  refine g_geti (pc := 56) (f := (0, 0)) (j := 26) hK (kdm kd_200) rfl ef_12 (by decide) rfl kk_1127 nl_200 dd_X12_follow_56 rfl (fun x22 ex22 rx22 => ?_)
                  replace ex22 : x22 = M 200 26 := ex22
                  refine g_icmp_ge (pc := 59) (tgt := 184) hK dd_X12_follow_59 (by decide) ⟨by omega, by omega⟩ rx22 (fun c23 => ?_) (fun c23 => ?_)
                  · refine g_iinc (pc := 184) (i := 3) (y := k + 1) (L' := [(0, gR 200), (1, gI i), (2, gI c2), (3, gI (k + 1)), (4, gI aL), (5, gI b)]) hK dd_X12_follow_184 rfl rfl (by decide) rfl ?_
                    refine g_goto (pc := 187) (tgt := 37) hK dd_X12_follow_187 (by decide) ?_
                    refine g_sub (L' := [(0, gR 200), (1, gI i), (2, gI c2), (3, gI (k + 1))]) [0, 1, 2, 3] rfl ?_
                    refine g_mem (M2 := sr (sr M 246 (Fi)) 247 (Li)) (rfl) ?_
                    exact ih9 c2 (k + 1) Fi Li (by omega) (by omega) (by rw [tn1 (t := k) (by omega)]; have q_ := hsb2_; rw [show b.toNat = (M 200 26).toNat by omega] at q_; exact sb_row q_) (by omega)
                  · have hfx_ : Fi b.toNat = -1 ∨ 0 ≤ Fi b.toNat := by
                      by_cases z_ : Fi b.toNat = -1
                      · exact Or.inl z_
                      · exact Or.inr (hsb2_.2.2.2.2.1 b.toNat (by omega) z_).2.2.1.1
                    refine g_aloadn (pc := 62) (i := 0) (x := 200) hK dd_X12_follow_62 rfl rfl ?_
                    refine g_getv (pc := 63) (f := (1, 46)) (j := 45) (v := gR 246) hK (kdm kd_200) rfl ef_12 (by decide) rfl kk_1146 dd_X12_follow_63 rfl ?_
                    refine g_iload (pc := 66) (i := 5) (x := b) hK dd_X12_follow_66 rfl ?_
                    refine g_iald (pc := 68) hK (kdm kd_246) nl_246 (by decide) dd_X12_follow_68 (by omega) (by omega) (fun x24 ex24 rx24 => ?_)
                    replace ex24 : x24 = Fi b.toNat := by first | exact ex24 | (rw [ex24]; simp [up, us, cp, sr])
                    refine g_if_ge (pc := 69) (tgt := 178) hK dd_X12_follow_69 (by decide) rx24 (fun c25 => ?_) (fun c25 => ?_)
                    · have hsk_ : SB (M 200 26).toNat (mbe (M 228) (M 229) (M 230) (M 231)) i (M 245) (Fi) (Li) c2.toNat k.toNat (b + 1).toNat := by rw [tn1 (by omega)]; exact sb_skip hsb2_ (Or.inl (by omega))
                      refine g_iinc (pc := 178) (i := 5) (y := b + 1) (L' := [(0, gR 200), (1, gI i), (2, gI c2), (3, gI k), (4, gI aL), (5, gI (b + 1))]) hK dd_X12_follow_178 rfl rfl (by decide) rfl ?_
                      refine g_goto (pc := 181) (tgt := 53) hK dd_X12_follow_181 (by decide) ?_
                      refine g_sub (L' := [(0, gR 200), (1, gI i), (2, gI c2), (3, gI k), (4, gI aL), (5, gI (b + 1))]) [0, 1, 2, 3, 4, 5] rfl ?_
                      refine g_mem (M2 := sr (sr M 246 (Fi)) 247 (Li)) (rfl) ?_
                      exact ih17 c2 (b + 1) Fi Li (by omega) (by omega) (by first | exact hal_ | (rw [us_o (by omega)]; exact hal_)) (hsk_) (by omega)
                    · refine g_aloadn (pc := 72) (i := 0) (x := 200) hK dd_X12_follow_72 rfl rfl ?_
                      refine g_iload (pc := 73) (i := 4) (x := aL) hK dd_X12_follow_73 rfl ?_
                      refine g_iload (pc := 75) (i := 5) (x := b) hK dd_X12_follow_75 rfl ?_
                      refine g_callV (pc := 77) (As := [gI aL, gI b]) hK ws_M_282 md_X12_mayBecome ⟨Nat.zero_le _, Nat.zero_le _⟩ ⟨by decide, by decide⟩ (kdm kd_200) rfl rfl dd_X12_follow_77 rfl rfl (Nat.le_of_ble_eq_true rfl) (d_mayBecome aL b (show 0 ≤ aL ∧ aL < 20 by omega) (show 0 ≤ b ∧ b < 20 by omega) (fun c26 => g_r1 ?_) (fun c26 => g_r1 ?_))
                      · replace c26 : mbe (M 228) (M 229) (M 230) (M 231) aL.toNat b.toNat := c26
                        refine g_if_ne (pc := 80) (tgt := 86) hK dd_X12_follow_80 (by decide) (by decide) (fun _ => ?_) (fun c27 => absurd (by decide) c27)
                        have hme_ : (mbe (M 228) (M 229) (M 230) (M 231)) aL.toNat b.toNat := c26
                        have hbv_ := hv b.toNat (by omega)
                        refine g_aloadn (pc := 86) (i := 0) (x := 200) hK dd_X12_follow_86 rfl rfl ?_
                        refine g_getv (pc := 87) (f := (1, 46)) (j := 45) (v := gR 246) hK (kdm kd_200) rfl ef_12 (by decide) rfl kk_1146 dd_X12_follow_87 rfl ?_
                        refine g_iload (pc := 90) (i := 5) (x := b) hK dd_X12_follow_90 rfl ?_
                        refine g_iload (pc := 92) (i := 4) (x := aL) hK dd_X12_follow_92 rfl ?_
                        refine g_iast (pc := 94) hK (kdm kd_246) nl_246 (by decide) (by decide) dd_X12_follow_94 (by omega) (by omega) ⟨by omega, by omega⟩ ?_
                        refine g_aloadn (pc := 95) (i := 0) (x := 200) hK dd_X12_follow_95 rfl rfl ?_
                        refine g_getv (pc := 96) (f := (1, 45)) (j := 44) (v := gR 245) hK (kdm kd_200) rfl ef_12 (by decide) rfl kk_1145 dd_X12_follow_96 rfl ?_
                        refine g_iload (pc := 99) (i := 5) (x := b) hK dd_X12_follow_99 rfl ?_
                        refine g_iald (pc := 101) hK (kdm kd_245) nl_245 (by decide) dd_X12_follow_101 (by omega) (by omega) (fun x28 ex28 rx28 => ?_)
                        replace ex28 : x28 = M 245 b.toNat := ex28
                        refine g_if_lt (pc := 102) (tgt := 124) hK dd_X12_follow_102 (by decide) rx28 (fun c29 => ?_) (fun c29 => ?_)
                        · refine g_iload (pc := 124) (i := 5) (x := b) hK dd_X12_follow_124 rfl ?_
                          refine g_istore (pc := 126) (i := 6) (L' := [(0, gR 200), (1, gI i), (2, gI c2), (3, gI k), (4, gI aL), (5, gI b), (6, gI b)]) hK dd_X12_follow_126 (by decide) rfl ?_
                          have lp32 : ∀ (n30 : Nat) (xv : Int) (g : Nat) (Bx : Nat → Int) (mx : Nat → Int), (-1 ≤ xv ∧ xv < M 200 26) → (AH (M 200 26).toNat (mbe (M 228) (M 229) (M 230) (M 231)) i (M 245) (M 244) (us Fi b.toNat (Li k.toNat)) Li c2.toNat xv g Bx mx) → g < n30 → G p l e (rmD 2) s m args below meth c D cy q A 0 0 9 (MQ below (gQc D cy q A Pq) args s 0 0 A) 128 [(0, gR 200), (1, gI i), (2, gI c2), (3, gI k), (4, gI aL), (5, gI b), (6, gI xv)] [] (sr (sr (sr (sr M 244 (mx)) 245 (Bx)) 246 (us Fi b.toNat (Li k.toNat))) 247 (Li)) := by
                            intro n30
                            induction n30 with
                            | zero => intro xv g Bx mx iv33 hah_ hm34; exact absurd hm34 (Nat.not_lt_zero _)
                            | succ n30 ih31 =>
                              intro xv g Bx mx iv33 hah_ hm34
                              refine g_iload (pc := 128) (i := 6) (x := xv) hK dd_X12_follow_128 rfl ?_
                              refine g_if_lt (pc := 130) (tgt := 176) hK dd_X12_follow_130 (by decide) ⟨by omega, by omega⟩ (fun c35 => ?_) (fun c35 => ?_)
                              · have hae_ := ah_e hah_ (by omega)
                                refine g_iconst (pc := 176) (x := 1) hK dd_X12_follow_176 (by decide) ?_
                                refine g_iret (pc := 177) hK hr hlocks dd_X12_follow_177 rfl ?_
                                exact g_fin (hT Bx mx (us Fi b.toNat (Li k.toNat)) Li (by exact hae_)) (by first | rfl | omega | (subst_vars; first | rfl | omega)) (rfl)
                              · obtain ⟨hb3_, g2_, hg2_, hah2_⟩ := ah_s hsb2_ rfl (by omega) (by omega) (by omega) hv ho hm (by omega) h0 hah_ (by omega)
                                have hd1_ := hah_.2.1 ((us Fi b.toNat (Li k.toNat)) xv.toNat).toNat (by omega)
                                refine g_aloadn (pc := 133) (i := 0) (x := 200) hK dd_X12_follow_133 rfl rfl ?_
                                refine g_getv (pc := 134) (f := (1, 46)) (j := 45) (v := gR 246) hK (kdm kd_200) rfl ef_12 (by decide) rfl kk_1146 dd_X12_follow_134 rfl ?_
                                refine g_iload (pc := 137) (i := 6) (x := xv) hK dd_X12_follow_137 rfl ?_
                                refine g_iald (pc := 139) hK (kdm kd_246) nl_246 (by decide) dd_X12_follow_139 (by omega) (by omega) (fun x36 ex36 rx36 => ?_)
                                replace ex36 : x36 = (us Fi b.toNat (Li k.toNat)) xv.toNat := by first | exact ex36 | (rw [ex36]; simp [up, us, cp, sr])
                                refine g_istore (pc := 140) (i := 7) (L' := [(0, gR 200), (1, gI i), (2, gI c2), (3, gI k), (4, gI aL), (5, gI b), (6, gI xv), (7, gI x36)]) hK dd_X12_follow_140 (by decide) rfl ?_
                                refine g_aloadn (pc := 142) (i := 0) (x := 200) hK dd_X12_follow_142 rfl rfl ?_
                                refine g_getv (pc := 143) (f := (1, 44)) (j := 43) (v := gR 244) hK (kdm kd_200) rfl ef_12 (by decide) rfl kk_1144 dd_X12_follow_143 rfl ?_
                                refine g_iload (pc := 146) (i := 7) (x := x36) hK dd_X12_follow_146 rfl ?_
                                refine g_iald (pc := 148) hK (kdm kd_244) nl_244 (by decide) dd_X12_follow_148 (by omega) (by omega) (fun x37 ex37 rx37 => ?_)
                                replace ex37 : x37 = mx x36.toNat := by first | exact ex37 | (rw [ex37]; simp [up, us, cp, sr])
                                refine g_istore (pc := 149) (i := 8) (L' := [(0, gR 200), (1, gI i), (2, gI c2), (3, gI k), (4, gI aL), (5, gI b), (6, gI xv), (7, gI x36), (8, gI x37)]) hK dd_X12_follow_149 (by decide) rfl ?_
                                refine g_aloadn (pc := 151) (i := 0) (x := 200) hK dd_X12_follow_151 rfl rfl ?_
                                refine g_getv (pc := 152) (f := (1, 44)) (j := 43) (v := gR 244) hK (kdm kd_200) rfl ef_12 (by decide) rfl kk_1144 dd_X12_follow_152 rfl ?_
                                refine g_iload (pc := 155) (i := 7) (x := x36) hK dd_X12_follow_155 rfl ?_
                                refine g_iload (pc := 157) (i := 6) (x := xv) hK dd_X12_follow_157 rfl ?_
                                refine g_iast (pc := 159) hK (kdm kd_244) nl_244 (by decide) (by decide) dd_X12_follow_159 (by omega) (by omega) ⟨by omega, by omega⟩ ?_
                                refine g_aloadn (pc := 160) (i := 0) (x := 200) hK dd_X12_follow_160 rfl rfl ?_
                                refine g_getv (pc := 161) (f := (1, 45)) (j := 44) (v := gR 245) hK (kdm kd_200) rfl ef_12 (by decide) rfl kk_1145 dd_X12_follow_161 rfl ?_
                                refine g_iload (pc := 164) (i := 6) (x := xv) hK dd_X12_follow_164 rfl ?_
                                refine g_iload (pc := 166) (i := 7) (x := x36) hK dd_X12_follow_166 rfl ?_
                                refine g_iast (pc := 168) hK (kdm kd_245) nl_245 (by decide) (by decide) dd_X12_follow_168 (by omega) (by omega) rx36 ?_
                                refine g_iload (pc := 169) (i := 8) (x := x37) hK dd_X12_follow_169 rfl ?_
                                refine g_istore (pc := 171) (i := 6) (L' := [(0, gR 200), (1, gI i), (2, gI c2), (3, gI k), (4, gI aL), (5, gI b), (6, gI x37), (7, gI x36), (8, gI x37)]) hK dd_X12_follow_171 (by decide) rfl ?_
                                refine g_goto (pc := 173) (tgt := 128) hK dd_X12_follow_173 (by decide) ?_
                                refine g_sub (L' := [(0, gR 200), (1, gI i), (2, gI c2), (3, gI k), (4, gI aL), (5, gI b), (6, gI x37)]) [0, 1, 2, 3, 4, 5, 6] rfl ?_
                                refine g_mem (M2 := sr (sr (sr (sr M 244 ((us mx x36.toNat xv))) 245 ((us Bx xv.toNat x36))) 246 (us Fi b.toNat (Li k.toNat))) 247 (Li)) (by simp (disch := decide) only [Int.reduceToNat, up_sr, sr_cp, sr_k, sr_o, sr_sr, us_us, @sr_lt _ 245 244 _ _ (by decide), @sr_lt _ 246 244 _ _ (by decide), @sr_lt _ 246 245 _ _ (by decide), @sr_lt _ 247 244 _ _ (by decide), @sr_lt _ 247 245 _ _ (by decide), @sr_lt _ 247 246 _ _ (by decide)]; try rfl) ?_
                                exact ih31 x37 g2_ (us Bx xv.toNat x36) (us mx x36.toNat xv) (by have q_ := ah_x hah2_; subst_vars; omega) (by subst_vars; exact hah2_) (by omega)
                          refine g_mem (M2 := sr (sr (sr (sr M 244 ((M 244))) 245 ((M 245))) 246 (us Fi b.toNat (Li k.toNat))) 247 (Li)) (by rw [@sr_self M 244, @sr_self M 245, ← hal_]; subst_vars; simp (disch := decide) only [Int.reduceToNat, up_sr, sr_cp, sr_k, sr_o, sr_sr, us_us, @sr_lt _ 247 246 _ _ (by decide)]; try rfl) ?_
                          refine g_sub (L' := [(0, gR 200), (1, gI i), (2, gI c2), (3, gI k), (4, gI aL), (5, gI b), (6, gI b)]) [0, 1, 2, 3, 4, 5, 6] rfl ?_
                          exact lp32 _ b (k.toNat + 1) (M 245) (M 244) (by omega) (by have q_ := ah_0 hsb2_ hv hm (by omega) (by omega) (by omega) (by rw [← hal_]; exact hme_); rw [show ((b.toNat : Nat) : Int) = b by omega] at q_; exact q_) (Nat.lt_succ_self _)
                        · refine g_aloadn (pc := 105) (i := 0) (x := 200) hK dd_X12_follow_105 rfl rfl ?_
                          refine g_getv (pc := 106) (f := (1, 47)) (j := 46) (v := gR 247) hK (kdm kd_200) rfl ef_12 (by decide) rfl kk_1147 dd_X12_follow_106 rfl ?_
                          have hcl_ := sb_len (x := b.toNat) hsb2_ hv ho (by omega) h0 (by omega) (by omega) (by omega)
                          refine g_iloadn (pc := 109) (i := 2) (x := c2) hK dd_X12_follow_109 rfl rfl ?_
                          refine g_iinc (pc := 110) (i := 2) (y := c2 + 1) (L' := [(0, gR 200), (1, gI i), (2, gI (c2 + 1)), (3, gI k), (4, gI aL), (5, gI b)]) hK dd_X12_follow_110 rfl rfl (by decide) rfl ?_
                          refine g_aloadn (pc := 113) (i := 0) (x := 200) hK dd_X12_follow_113 rfl rfl ?_
                          refine g_getv (pc := 114) (f := (1, 45)) (j := 44) (v := gR 245) hK (kdm kd_200) rfl ef_12 (by decide) rfl kk_1145 dd_X12_follow_114 rfl ?_
                          refine g_iload (pc := 117) (i := 5) (x := b) hK dd_X12_follow_117 rfl ?_
                          refine g_iald (pc := 119) hK (kdm kd_245) nl_245 (by decide) dd_X12_follow_119 (by omega) (by omega) (fun x38 ex38 rx38 => ?_)
                          replace ex38 : x38 = M 245 b.toNat := ex38
                          refine g_iast (pc := 120) hK (kdm kd_247) nl_247 (by decide) (by decide) dd_X12_follow_120 (by omega) (by omega) rx38 ?_
                          refine g_mem (M2 := sr (sr M 246 (us Fi b.toNat (Li k.toNat))) 247 (us Li c2.toNat (M 245 b.toNat))) (by rw [← hal_]; subst_vars; simp (disch := decide) only [Int.reduceToNat, up_sr, sr_cp, sr_k, sr_o, sr_sr, us_us, @sr_lt _ 247 246 _ _ (by decide)]; try rfl) ?_
                          refine g_goto (pc := 121) (tgt := 178) hK dd_X12_follow_121 (by decide) ?_
                          have hsk_ : SB (M 200 26).toNat (mbe (M 228) (M 229) (M 230) (M 231)) i (M 245) (us Fi b.toNat (Li k.toNat)) (us Li c2.toNat (M 245 b.toNat)) (c2 + 1).toNat k.toNat (b + 1).toNat := by rw [tn1 (t := b) (by omega), tn1 (t := c2) (by omega)]; exact sb_push hsb2_ hv ho hi.1 h0 (by omega) (by omega) (by omega) (by omega) (by rw [← hal_]; exact hme_)
                          refine g_iinc (pc := 178) (i := 5) (y := b + 1) (L' := [(0, gR 200), (1, gI i), (2, gI (c2 + 1)), (3, gI k), (4, gI aL), (5, gI (b + 1))]) hK dd_X12_follow_178 rfl rfl (by decide) rfl ?_
                          refine g_goto (pc := 181) (tgt := 53) hK dd_X12_follow_181 (by decide) ?_
                          refine g_sub (L' := [(0, gR 200), (1, gI i), (2, gI (c2 + 1)), (3, gI k), (4, gI aL), (5, gI (b + 1))]) [0, 1, 2, 3, 4, 5] rfl ?_
                          refine g_mem (M2 := sr (sr M 246 ((us Fi b.toNat (Li k.toNat)))) 247 ((us Li c2.toNat (M 245 b.toNat)))) (rfl) ?_
                          exact ih17 (c2 + 1) (b + 1) (us Fi b.toNat (Li k.toNat)) (us Li c2.toNat (M 245 b.toNat)) (by omega) (by omega) (by first | exact hal_ | (rw [us_o (by omega)]; exact hal_)) (hsk_) (by omega)
                      · replace c26 : ¬ (mbe (M 228) (M 229) (M 230) (M 231) aL.toNat b.toNat) := c26
                        refine g_if_ne (pc := 80) (tgt := 86) hK dd_X12_follow_80 (by decide) (by decide) (fun c39 => absurd c39 (by decide)) (fun _ => ?_)
                        skip
                        refine g_goto (pc := 83) (tgt := 178) hK dd_X12_follow_83 (by decide) ?_
                        have hsk_ : SB (M 200 26).toNat (mbe (M 228) (M 229) (M 230) (M 231)) i (M 245) (Fi) (Li) c2.toNat k.toNat (b + 1).toNat := by rw [tn1 (by omega)]; exact sb_skip hsb2_ (Or.inr (by rw [← hal_]; exact c26))
                        refine g_iinc (pc := 178) (i := 5) (y := b + 1) (L' := [(0, gR 200), (1, gI i), (2, gI c2), (3, gI k), (4, gI aL), (5, gI (b + 1))]) hK dd_X12_follow_178 rfl rfl (by decide) rfl ?_
                        refine g_goto (pc := 181) (tgt := 53) hK dd_X12_follow_181 (by decide) ?_
                        refine g_sub (L' := [(0, gR 200), (1, gI i), (2, gI c2), (3, gI k), (4, gI aL), (5, gI (b + 1))]) [0, 1, 2, 3, 4, 5] rfl ?_
                        refine g_mem (M2 := sr (sr M 246 (Fi)) 247 (Li)) (rfl) ?_
                        exact ih17 c2 (b + 1) Fi Li (by omega) (by omega) (by first | exact hal_ | (rw [us_o (by omega)]; exact hal_)) (hsk_) (by omega)
              refine g_mem (M2 := sr (sr M 246 (Fg)) 247 (Lg)) (rfl) ?_
              refine g_sub (L' := [(0, gR 200), (1, gI i), (2, gI cl), (3, gI k), (4, gI aL), (5, gI 0)]) [0, 1, 2, 3, 4, 5] rfl ?_
              exact lp18 _ cl 0 Fg Lg (by omega) (by omega) (eaL) (hsb_) (Nat.lt_succ_self _)
        refine g_mem (M2 := sr (sr M 246 ((puA (fun _ => -1) (M 246) (M 200 26).toNat))) 247 ((us (M 247) 0 i))) (by rw [show b.toNat = (M 200 26).toNat by omega]; simp (disch := decide) only [Int.reduceToNat, up_sr, sr_cp, sr_k, sr_o, sr_sr, us_us, @sr_lt _ 247 246 _ _ (by decide)]; try rfl) ?_
        refine g_sub (L' := [(0, gR 200), (1, gI i), (2, gI 1), (3, gI 0)]) [0, 1, 2, 3] rfl ?_
        exact lp10 _ 1 0 (puA (fun _ => -1) (M 246) (M 200 26).toNat) (us (M 247) 0 i) (by omega) (by omega) (sb_0 (fun b hb => by unfold puA; rw [if_pos hb]) (by omega)) (Nat.lt_succ_self _)
      · refine g_aloadn (pc := 10) (i := 0) (x := 200) hK dd_X12_follow_10 rfl rfl ?_
        refine g_getv (pc := 11) (f := (1, 46)) (j := 45) (v := gR 246) hK (kdm kd_200) rfl ef_12 (by decide) rfl kk_1146 dd_X12_follow_11 rfl ?_
        refine g_iloadn (pc := 14) (i := 2) (x := b) hK dd_X12_follow_14 rfl rfl ?_
        refine g_iconst (pc := 15) (x := (-1)) hK dd_X12_follow_15 (by decide) ?_
        refine g_iast (pc := 16) hK (kdm kd_246) nl_246 (by decide) (by decide) dd_X12_follow_16 (by omega) (by omega) (by decide) ?_
        refine g_iinc (pc := 17) (i := 2) (y := b + 1) (L' := [(0, gR 200), (1, gI i), (2, gI (b + 1))]) hK dd_X12_follow_17 rfl rfl (by decide) rfl ?_
        refine g_goto (pc := 20) (tgt := 2) hK dd_X12_follow_20 (by decide) ?_
        refine g_sub (L' := [(0, gR 200), (1, gI i), (2, gI (b + 1))]) [0, 1, 2] rfl ?_
        refine g_mem (M2 := sr M 246 (puA (fun _ => -1) (M 246) (b + 1).toNat)) (by rw [tn1 (t := b) (by omega), ← @puA_s (fun _ => -1) (M 246) b.toNat (-1) rfl]; simp (disch := decide) only [Int.reduceToNat, up_sr, sr_cp, sr_k, sr_o, sr_sr, us_us]; try rfl) ?_
        exact ih2 (b + 1) (by omega) (by omega)
  refine g_mem (M2 := sr M 246 (puA (fun _ => -1) (M 246) (0 : Int).toNat)) (by show M = sr M 246 (puA (fun _ => -1) (M 246) 0); rw [puA_0]; exact sr_self.symm) ?_
  refine g_sub (L' := [(0, gR 200), (1, gI i), (2, gI 0)]) [0, 1, 2] rfl ?_
  exact lp3 _ 0 (by omega) (Nat.lt_succ_self _)
set_option maxHeartbeats 4000000 in
set_option maxRecDepth 100000 in
theorem y_vases {l : Launch} {M : Mem} {Pq : Option gV → Mem → Prop} (hmsc : 0 ≤ M 200 26 ∧ M 200 26 ≤ 20) (hY : ∀ (u : Nat) (m1 : Nat → Int) (B1 : Nat → Int) (F1 : Nat → Int) (L1 : Nat → Int), (Opt (M 200 26).toNat (mbe (M 228) (M 229) (M 230) (M 231)) u) → Pq (some (gI (u : Int))) (sr (sr (sr (sr M 244 (m1)) 245 (B1)) 246 (F1)) 247 (L1))) : gCtr l my_X12_vases mb_X12_vases 3 ((some .int)) 3 [gR 200] M Pq := by
  refine g_intro (by decide) (Nat.le_of_ble_eq_true rfl) ?_
  intro p e s m args below meth c D cy q A hK hr hlocks hw
  refine g_sub (L' := [(0, gR 200)]) [0] rfl ?_
  refine g_iconst (pc := 0) (x := 0) hK dd_X12_vases_0 (by decide) ?_
  refine g_istoren (pc := 1) (i := 1) (L' := [(0, gR 200), (1, gI 0)]) hK dd_X12_vases_1 rfl (by decide) rfl ?_
  have lp3 : ∀ (n1 : Nat) (a : Int), (0 ≤ a ∧ a ≤ M 200 26) → (M 200 26 - a).toNat < n1 → G p l e (rmD 3) s m args below meth c D cy q A 0 0 3 (MQ below (gQc D cy q A Pq) args s 0 0 A) 2 [(0, gR 200), (1, gI a)] [] (sr (sr M 244 (puA (fun _ => -1) (M 244) a.toNat)) 245 (puA (fun _ => -1) (M 245) a.toNat)) := by
    intro n1
    induction n1 with
    | zero => intro a iv4 hm5; exact absurd hm5 (Nat.not_lt_zero _)
    | succ n1 ih2 =>
      intro a iv4 hm5
      refine g_iloadn (pc := 2) (i := 1) (x := a) hK dd_X12_vases_2 rfl rfl ?_
      refine g_aloadn (pc := 3) (i := 0) (x := 200) hK dd_X12_vases_3 rfl rfl ?_
      refine g_geti (pc := 4) (f := (0, 0)) (j := 26) hK (kdm kd_200) rfl ef_12 (by decide) rfl kk_1127 nl_200 dd_X12_vases_4 rfl (fun x6 ex6 rx6 => ?_)
      replace ex6 : x6 = M 200 26 := ex6
      refine g_icmp_ge (pc := 7) (tgt := 30) hK dd_X12_vases_7 (by decide) ⟨by omega, by omega⟩ rx6 (fun c7 => ?_) (fun c7 => ?_)
      · refine g_aloadn (pc := 30) (i := 0) (x := 200) hK dd_X12_vases_30 rfl rfl ?_
        refine g_geti (pc := 31) (f := (0, 0)) (j := 26) hK (kdm kd_200) rfl ef_12 (by decide) rfl kk_1127 nl_200 dd_X12_vases_31 rfl (fun x8 ex8 rx8 => ?_)
        replace ex8 : x8 = M 200 26 := ex8
        refine g_topv (v := gI (M 200 26)) (by rw [ex8]) ?_
        refine g_istoren (pc := 34) (i := 1) (L' := [(0, gR 200), (1, gI (M 200 26))]) hK dd_X12_vases_34 rfl (by decide) rfl ?_
        refine g_iconst (pc := 35) (x := 0) hK dd_X12_vases_35 (by decide) ?_
        refine g_istoren (pc := 36) (i := 2) (L' := [(0, gR 200), (1, gI (M 200 26)), (2, gI 0)]) hK dd_X12_vases_36 rfl (by decide) rfl ?_
        have lp11 : ∀ (n9 : Nat) (uv : Int) (a : Int) (mg : Nat → Int) (Bg : Nat → Int) (Fg : Nat → Int) (Lg : Nat → Int), (0 ≤ a ∧ a ≤ M 200 26) → (0 ≤ M 200 26 - uv ∧ M 200 26 - uv ≤ a) → (MI (M 200 26).toNat (mbe (M 228) (M 229) (M 230) (M 231)) a.toNat Bg (M 200 26 - uv).toNat) → (MC (M 200 26).toNat Bg mg) → (M 200 26 - a).toNat < n9 → G p l e (rmD 3) s m args below meth c D cy q A 0 0 3 (MQ below (gQc D cy q A Pq) args s 0 0 A) 37 [(0, gR 200), (1, gI uv), (2, gI a)] [] (sr (sr (sr (sr M 244 (mg)) 245 (Bg)) 246 (Fg)) 247 (Lg)) := by
          intro n9
          induction n9 with
          | zero => intro uv a mg Bg Fg Lg iv12 iv13 hmi_ hmc_ hm14; exact absurd hm14 (Nat.not_lt_zero _)
          | succ n9 ih10 =>
            intro uv a mg Bg Fg Lg iv12 iv13 hmi_ hmc_ hm14
            refine g_iloadn (pc := 37) (i := 2) (x := a) hK dd_X12_vases_37 rfl rfl ?_
            refine g_aloadn (pc := 38) (i := 0) (x := 200) hK dd_X12_vases_38 rfl rfl ?_
            refine g_geti (pc := 39) (f := (0, 0)) (j := 26) hK (kdm kd_200) rfl ef_12 (by decide) rfl kk_1127 nl_200 dd_X12_vases_39 rfl (fun x15 ex15 rx15 => ?_)
            replace ex15 : x15 = M 200 26 := ex15
            refine g_icmp_ge (pc := 42) (tgt := 62) hK dd_X12_vases_42 (by decide) ⟨by omega, by omega⟩ rx15 (fun c16 => ?_) (fun c16 => ?_)
            · have hmi3_ : MI (M 200 26).toNat (mbe (M 228) (M 229) (M 230) (M 231)) (M 200 26).toNat Bg (M 200 26 - uv).toNat := by have q_ := hmi_; rw [show a.toNat = (M 200 26).toNat by omega] at q_; exact q_
              refine g_iloadn (pc := 62) (i := 1) (x := uv) hK dd_X12_vases_62 rfl rfl ?_
              refine g_iret (pc := 63) hK hr hlocks dd_X12_vases_63 rfl ?_
              first | exact g_fin (hY ((M 200 26).toNat - (M 200 26 - uv).toNat) mg Bg Fg Lg (by exact (mi_opt hmi3_).1)) (by have q_ := (mi_opt hmi3_).2; omega) (rfl) | (exfalso; omega)
            · refine g_aloadn (pc := 45) (i := 0) (x := 200) hK dd_X12_vases_45 rfl rfl ?_
              refine g_iloadn (pc := 46) (i := 2) (x := a) hK dd_X12_vases_46 rfl rfl ?_
              refine g_callV (pc := 47) (As := [gI a]) hK ws_M_285 md_X12_follow ⟨Nat.zero_le _, Nat.zero_le _⟩ ⟨by decide, by decide⟩ (kdm kd_200) rfl rfl dd_X12_vases_47 rfl rfl (Nat.le_of_ble_eq_true rfl) (d_follow a hmsc (show 0 ≤ a ∧ a < M 200 26 by omega) hmi_.1 hmi_.2.1 (hmi_.2.2.1 a (by omega)) hmc_ (fun B17 m18 F19 L20 c21 => g_r1 ?_) (fun F22 L23 c24 => g_r1 ?_))
              · replace c21 : Aug (M 200 26).toNat (mbe (M 228) (M 229) (M 230) (M 231)) a (Bg) (fun _ => -1) B17 ∧ MC (M 200 26).toNat B17 m18 := c21
                refine g_mem (M2 := sr (sr (sr (sr M 244 ((m18))) 245 ((B17))) 246 ((F19))) 247 ((L20))) (by simp (disch := decide) only [Int.reduceToNat, up_sr, sr_cp, sr_k, sr_o, sr_sr, us_us, @sr_lt _ 245 244 _ _ (by decide), @sr_lt _ 246 244 _ _ (by decide), @sr_lt _ 246 245 _ _ (by decide), @sr_lt _ 247 244 _ _ (by decide), @sr_lt _ 247 245 _ _ (by decide), @sr_lt _ 247 246 _ _ (by decide)]; try rfl) ?_
                have hmi2_ : MI (M 200 26).toNat (mbe (M 228) (M 229) (M 230) (M 231)) (a.toNat + 1) (B17) ((M 200 26 - uv).toNat + 1) := mi_yes (T := fun _ => -1) hmi_ (by rw [show ((a.toNat : Nat) : Int) = a by omega]; exact c21.1)
                have hmc2_ : MC (M 200 26).toNat (B17) (m18) := c21.2
                refine g_if_eq (pc := 50) (tgt := 56) hK dd_X12_vases_50 (by decide) (by decide) (fun c25 => absurd c25 (by decide)) (fun _ => ?_)
                refine g_iinc (pc := 53) (i := 1) (y := uv - 1) (L' := [(0, gR 200), (1, gI (uv - 1)), (2, gI a)]) hK dd_X12_vases_53 rfl (by omega) (by decide) rfl ?_
                refine g_iinc (pc := 56) (i := 2) (y := a + 1) (L' := [(0, gR 200), (1, gI (uv - 1)), (2, gI (a + 1))]) hK dd_X12_vases_56 rfl rfl (by decide) rfl ?_
                refine g_goto (pc := 59) (tgt := 37) hK dd_X12_vases_59 (by decide) ?_
                refine g_sub (L' := [(0, gR 200), (1, gI (uv - 1)), (2, gI (a + 1))]) [0, 1, 2] rfl ?_
                refine g_mem (M2 := sr (sr (sr (sr M 244 ((m18))) 245 ((B17))) 246 ((F19))) 247 ((L20))) (rfl) ?_
                exact ih10 (uv - 1) (a + 1) (m18) (B17) (F19) (L20) (by omega) (by omega) (by rw [tn1 (t := a) (by omega)]; first | exact hmi2_ | (rw [show (M 200 26 - (uv - 1)).toNat = (M 200 26 - uv).toNat + 1 by omega]; exact hmi2_)) (hmc2_) (by omega)
              · replace c24 : Nno (M 200 26).toNat (mbe (M 228) (M 229) (M 230) (M 231)) a (Bg) (fun _ => -1) F22 := c24
                refine g_mem (M2 := sr (sr (sr (sr M 244 (mg)) 245 (Bg)) 246 ((F22))) 247 ((L23))) (by simp (disch := decide) only [Int.reduceToNat, up_sr, sr_cp, sr_k, sr_o, sr_sr, us_us, @sr_lt _ 245 244 _ _ (by decide), @sr_lt _ 246 244 _ _ (by decide), @sr_lt _ 246 245 _ _ (by decide), @sr_lt _ 247 244 _ _ (by decide), @sr_lt _ 247 245 _ _ (by decide), @sr_lt _ 247 246 _ _ (by decide)]; try rfl) ?_
                have hmi2_ : MI (M 200 26).toNat (mbe (M 228) (M 229) (M 230) (M 231)) (a.toNat + 1) Bg (M 200 26 - uv).toNat := mi_no (T := fun _ => -1) (T' := (F22)) hmi_ (fun _ _ => rfl) (by rw [show ((a.toNat : Nat) : Int) = a by omega]; exact c24)
                have hmc2_ : MC (M 200 26).toNat Bg mg := hmc_
                refine g_if_eq (pc := 50) (tgt := 56) hK dd_X12_vases_50 (by decide) (by decide) (fun _ => ?_) (fun c26 => absurd (by decide) c26)
                refine g_iinc (pc := 56) (i := 2) (y := a + 1) (L' := [(0, gR 200), (1, gI uv), (2, gI (a + 1))]) hK dd_X12_vases_56 rfl rfl (by decide) rfl ?_
                refine g_goto (pc := 59) (tgt := 37) hK dd_X12_vases_59 (by decide) ?_
                refine g_sub (L' := [(0, gR 200), (1, gI uv), (2, gI (a + 1))]) [0, 1, 2] rfl ?_
                refine g_mem (M2 := sr (sr (sr (sr M 244 (mg)) 245 (Bg)) 246 ((F22))) 247 ((L23))) (rfl) ?_
                exact ih10 uv (a + 1) mg Bg (F22) (L23) (by omega) (by omega) (by rw [tn1 (t := a) (by omega)]; first | exact hmi2_ | (rw [show (M 200 26 - (uv - 1)).toNat = (M 200 26 - uv).toNat + 1 by omega]; exact hmi2_)) (hmc2_) (by omega)
        refine g_mem (M2 := sr (sr (sr (sr M 244 ((puA (fun _ => -1) (M 244) (M 200 26).toNat))) 245 ((puA (fun _ => -1) (M 245) (M 200 26).toNat))) 246 ((M 246))) 247 ((M 247))) (by rw [show a.toNat = (M 200 26).toNat by omega]; refine Eq.trans ?_ (sr_id (k := 247) rfl).symm; exact (sr_id (k := 246) rfl).symm) ?_
        refine g_sub (L' := [(0, gR 200), (1, gI (M 200 26)), (2, gI 0)]) [0, 1, 2] rfl ?_
        exact lp11 _ (M 200 26) 0 (puA (fun _ => -1) (M 244) (M 200 26).toNat) (puA (fun _ => -1) (M 245) (M 200 26).toNat) (M 246) (M 247) (by omega) (by omega) (by rw [show (M 200 26 - M 200 26).toNat = 0 by omega]; exact mi0 (fun b hb => by unfold puA; rw [if_pos hb])) (mc_0 (fun b hb => by unfold puA; rw [if_pos hb]) (fun b hb => by unfold puA; rw [if_pos hb])) (Nat.lt_succ_self _)
      · refine g_aloadn (pc := 10) (i := 0) (x := 200) hK dd_X12_vases_10 rfl rfl ?_
        refine g_getv (pc := 11) (f := (1, 44)) (j := 43) (v := gR 244) hK (kdm kd_200) rfl ef_12 (by decide) rfl kk_1144 dd_X12_vases_11 rfl ?_
        refine g_iloadn (pc := 14) (i := 1) (x := a) hK dd_X12_vases_14 rfl rfl ?_
        refine g_iconst (pc := 15) (x := (-1)) hK dd_X12_vases_15 (by decide) ?_
        refine g_iast (pc := 16) hK (kdm kd_244) nl_244 (by decide) (by decide) dd_X12_vases_16 (by omega) (by omega) (by decide) ?_
        refine g_aloadn (pc := 17) (i := 0) (x := 200) hK dd_X12_vases_17 rfl rfl ?_
        refine g_getv (pc := 18) (f := (1, 45)) (j := 44) (v := gR 245) hK (kdm kd_200) rfl ef_12 (by decide) rfl kk_1145 dd_X12_vases_18 rfl ?_
        refine g_iloadn (pc := 21) (i := 1) (x := a) hK dd_X12_vases_21 rfl rfl ?_
        refine g_iconst (pc := 22) (x := (-1)) hK dd_X12_vases_22 (by decide) ?_
        refine g_iast (pc := 23) hK (kdm kd_245) nl_245 (by decide) (by decide) dd_X12_vases_23 (by omega) (by omega) (by decide) ?_
        refine g_iinc (pc := 24) (i := 1) (y := a + 1) (L' := [(0, gR 200), (1, gI (a + 1))]) hK dd_X12_vases_24 rfl rfl (by decide) rfl ?_
        refine g_goto (pc := 27) (tgt := 2) hK dd_X12_vases_27 (by decide) ?_
        refine g_sub (L' := [(0, gR 200), (1, gI (a + 1))]) [0, 1] rfl ?_
        refine g_mem (M2 := sr (sr M 244 (puA (fun _ => -1) (M 244) (a + 1).toNat)) 245 (puA (fun _ => -1) (M 245) (a + 1).toNat)) (by rw [tn1 (t := a) (by omega), ← @puA_s (fun _ => -1) (M 244) a.toNat (-1) rfl, ← @puA_s (fun _ => -1) (M 245) a.toNat (-1) rfl]; simp (disch := decide) only [Int.reduceToNat, up_sr, sr_cp, sr_k, sr_o, sr_sr, us_us, @sr_lt _ 245 244 _ _ (by decide)]; try rfl) ?_
        exact ih2 (a + 1) (by omega) (by omega)
  refine g_mem (M2 := sr (sr M 244 (puA (fun _ => -1) (M 244) (0 : Int).toNat)) 245 (puA (fun _ => -1) (M 245) (0 : Int).toNat)) (by show M = sr (sr M 244 (puA (fun _ => -1) (M 244) 0)) 245 (puA (fun _ => -1) (M 245) 0); rw [puA_0, puA_0, @sr_self M 244]; exact sr_self.symm) ?_
  refine g_sub (L' := [(0, gR 200), (1, gI 0)]) [0, 1] rfl ?_
  exact lp3 _ 0 (by omega) (Nat.lt_succ_self _)
