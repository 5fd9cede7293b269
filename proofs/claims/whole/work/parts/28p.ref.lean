set_option maxHeartbeats 4000000 in
set_option maxRecDepth 100000 in
theorem y_longest {l : Launch} {M : Mem} {Pq : Option gV → Mem → Prop} (hmsc : 0 ≤ M 200 26 ∧ M 200 26 ≤ 20) (hsim : siOKm M) (hQ : Pq (some (gI ((lhO (M 228) (M 229) (M 230) (M 231) (M 200 26).toNat (puA (fun _ => 1) (M 247) (M 200 26).toNat, 0) 100).2))) (sr M 247 (lhO (M 228) (M 229) (M 230) (M 231) (M 200 26).toNat (puA (fun _ => 1) (M 247) (M 200 26).toNat, 0) 100).1)) : gCtr l my_X12_longest mb_X12_longest 5 ((some .int)) 2 [gR 200] M Pq := by
  refine g_intro (by decide) (Nat.le_of_ble_eq_true rfl) ?_
  intro p e s m args below meth c D cy q A hK hr hlocks hw
  refine g_sub (L' := [(0, gR 200)]) [0] rfl ?_
  refine g_iconst (pc := 0) (x := 0) hK dd_X12_longest_0 (by decide) ?_
  refine g_istoren (pc := 1) (i := 1) (L' := [(0, gR 200), (1, gI 0)]) hK dd_X12_longest_1 rfl (by decide) rfl ?_
  refine g_iconst (pc := 2) (x := 0) hK dd_X12_longest_2 (by decide) ?_
  refine g_istoren (pc := 3) (i := 2) (L' := [(0, gR 200), (1, gI 0), (2, gI 0)]) hK dd_X12_longest_3 rfl (by decide) rfl ?_
  have lp3 : ∀ (n1 : Nat) (a : Int), (0 ≤ a ∧ a ≤ M 200 26) → (M 200 26 - a).toNat < n1 → G p l e (rmD 2) s m args below meth c D cy q A 0 0 5 (MQ below (gQc D cy q A Pq) args s 0 0 A) 4 [(0, gR 200), (1, gI 0), (2, gI a)] [] (sr M 247 (puA (fun _ => 1) (M 247) a.toNat)) := by
    intro n1
    induction n1 with
    | zero => intro a iv4 hm5; exact absurd hm5 (Nat.not_lt_zero _)
    | succ n1 ih2 =>
      intro a iv4 hm5
      refine g_iloadn (pc := 4) (i := 2) (x := a) hK dd_X12_longest_4 rfl rfl ?_
      refine g_aloadn (pc := 5) (i := 0) (x := 200) hK dd_X12_longest_5 rfl rfl ?_
      refine g_geti (pc := 6) (f := (0, 0)) (j := 26) hK (kdm kd_200) rfl ef_12 (by decide) rfl kk_1127 nl_200 dd_X12_longest_6 rfl (fun x6 ex6 rx6 => ?_)
      replace ex6 : x6 = M 200 26 := ex6
      refine g_icmp_ge (pc := 9) (tgt := 25) hK dd_X12_longest_9 (by decide) ⟨by omega, by omega⟩ rx6 (fun c7 => ?_) (fun c7 => ?_)
      · refine g_iconst (pc := 25) (x := 0) hK dd_X12_longest_25 (by decide) ?_
        refine g_istoren (pc := 26) (i := 2) (L' := [(0, gR 200), (1, gI 0), (2, gI 0)]) hK dd_X12_longest_26 rfl (by decide) rfl ?_
        have lp10 : ∀ (n8 : Nat) (q1 : Int) (y : Int), (0 ≤ y ∧ y ≤ 100) → (q1 = (lhO (M 228) (M 229) (M 230) (M 231) (M 200 26).toNat (puA (fun _ => 1) (M 247) (M 200 26).toNat, 0) y.toNat).2) → (100 - y).toNat < n8 → G p l e (rmD 2) s m args below meth c D cy q A 0 0 5 (MQ below (gQc D cy q A Pq) args s 0 0 A) 27 [(0, gR 200), (1, gI q1), (2, gI y)] [] (sr M 247 ((lhO (M 228) (M 229) (M 230) (M 231) (M 200 26).toNat (puA (fun _ => 1) (M 247) (M 200 26).toNat, 0) y.toNat).1)) := by
          intro n8
          induction n8 with
          | zero => intro q1 y iv11 hq_ hm12; exact absurd hm12 (Nat.not_lt_zero _)
          | succ n8 ih9 =>
            intro q1 y iv11 hq_ hm12
            refine g_iloadn (pc := 27) (i := 2) (x := y) hK dd_X12_longest_27 rfl rfl ?_
            refine g_bipush (pc := 28) (x := 100) hK dd_X12_longest_28 (by decide) ?_
            refine g_icmp_ge (pc := 30) (tgt := 146) hK dd_X12_longest_30 (by decide) ⟨by omega, by omega⟩ (by decide) (fun c13 => ?_) (fun c13 => ?_)
            · refine g_iloadn (pc := 146) (i := 1) (x := q1) hK dd_X12_longest_146 rfl rfl ?_
              refine g_iret (pc := 147) hK hr hlocks dd_X12_longest_147 rfl ?_
              exact g_fin hQ (by rw [hq_, show y.toNat = 100 by omega]) (by rw [show y.toNat = 100 by omega])
            · refine g_iconst (pc := 33) (x := 0) hK dd_X12_longest_33 (by decide) ?_
              refine g_istoren (pc := 34) (i := 3) (L' := [(0, gR 200), (1, gI q1), (2, gI y), (3, gI 0)]) hK dd_X12_longest_34 rfl (by decide) rfl ?_
              have lp16 : ∀ (n14 : Nat) (q2 : Int) (b : Int), (0 ≤ b ∧ b ≤ M 200 26) → (q2 = (lhI (M 228) (M 229) (M 230) (M 231) (M 200 26).toNat y (lhO (M 228) (M 229) (M 230) (M 231) (M 200 26).toNat (puA (fun _ => 1) (M 247) (M 200 26).toNat, 0) y.toNat) b.toNat).2) → (M 200 26 - b).toNat < n14 → G p l e (rmD 2) s m args below meth c D cy q A 0 0 5 (MQ below (gQc D cy q A Pq) args s 0 0 A) 35 [(0, gR 200), (1, gI q2), (2, gI y), (3, gI b)] [] (sr M 247 ((lhI (M 228) (M 229) (M 230) (M 231) (M 200 26).toNat y (lhO (M 228) (M 229) (M 230) (M 231) (M 200 26).toNat (puA (fun _ => 1) (M 247) (M 200 26).toNat, 0) y.toNat) b.toNat).1)) := by
                intro n14
                induction n14 with
                | zero => intro q2 b iv17 hq2_ hm18; exact absurd hm18 (Nat.not_lt_zero _)
                | succ n14 ih15 =>
                  intro q2 b iv17 hq2_ hm18
                  refine g_iloadn (pc := 35) (i := 3) (x := b) hK dd_X12_longest_35 rfl rfl ?_
                  refine g_aloadn (pc := 36) (i := 0) (x := 200) hK dd_X12_longest_36 rfl rfl ?_
                  have hok_ := lhI_ok (y := M 228) (n := (M 200 26).toNat) (c := M 229) (g := M 230) (b := M 231) (k := y) (fun a ha => (hsim a (by omega)).1) (lhO_ok (c := M 229) (g := M 230) (b := M 231) (fun a ha => (hsim a (by omega)).1) (lh_0 (F := M 247) (fun a ha => (hsim a (by omega)).1)) y.toNat) b.toNat (by omega)
                  have hok2_ : 0 ≤ q2 ∧ q2 ≤ 100 := by rw [hq2_]; exact hok_.2
                  refine g_geti (pc := 37) (f := (0, 0)) (j := 26) hK (kdm kd_200) rfl ef_12 (by decide) rfl kk_1127 nl_200 dd_X12_longest_37 rfl (fun x19 ex19 rx19 => ?_)
                  replace ex19 : x19 = M 200 26 := ex19
                  refine g_icmp_ge (pc := 40) (tgt := 140) hK dd_X12_longest_40 (by decide) ⟨by omega, by omega⟩ rx19 (fun c20 => ?_) (fun c20 => ?_)
                  · refine g_iinc (pc := 140) (i := 2) (y := y + 1) (L' := [(0, gR 200), (1, gI q2), (2, gI (y + 1)), (3, gI b)]) hK dd_X12_longest_140 rfl rfl (by decide) rfl ?_
                    refine g_goto (pc := 143) (tgt := 27) hK dd_X12_longest_143 (by decide) ?_
                    refine g_sub (L' := [(0, gR 200), (1, gI q2), (2, gI (y + 1))]) [0, 1, 2] rfl ?_
                    refine g_mem (M2 := sr M 247 ((lhO (M 228) (M 229) (M 230) (M 231) (M 200 26).toNat (puA (fun _ => 1) (M 247) (M 200 26).toNat, 0) (y + 1).toNat).1)) (by rw [tn1 (by omega)]; simp only [lhO]; rw [show ((y.toNat : Nat) : Int) = y by omega, show M 200 26 = b by omega]) ?_
                    exact ih9 q2 (y + 1) (by omega) (by rw [tn1 (by omega)]; simp only [lhO]; rw [show ((y.toNat : Nat) : Int) = y by omega, hq2_, show M 200 26 = b by omega]) (by omega)
                  · refine g_aloadn (pc := 43) (i := 0) (x := 200) hK dd_X12_longest_43 rfl rfl ?_
                    refine g_getv (pc := 44) (f := (1, 28)) (j := 27) (v := gR 228) hK (kdm kd_200) rfl ef_12 (by decide) rfl kk_1128 dd_X12_longest_44 rfl ?_
                    refine g_iloadn (pc := 47) (i := 3) (x := b) hK dd_X12_longest_47 rfl rfl ?_
                    refine g_iald (pc := 48) hK (kdm kd_228) nl_228 (by decide) dd_X12_longest_48 (by omega) (by omega) (fun x21 ex21 rx21 => ?_)
                    replace ex21 : x21 = M 228 b.toNat := ex21
                    refine g_iloadn (pc := 49) (i := 2) (x := y) hK dd_X12_longest_49 rfl rfl ?_
                    refine g_icmp_eq (pc := 50) (tgt := 56) hK dd_X12_longest_50 (by decide) rx21 ⟨by omega, by omega⟩ (fun c22 => ?_) (fun c22 => ?_)
                    · have hye_ : M 228 b.toNat = y := by omega
                      refine g_iconst (pc := 56) (x := 0) hK dd_X12_longest_56 (by decide) ?_
                      refine g_istore (pc := 57) (i := 4) (L' := [(0, gR 200), (1, gI q2), (2, gI y), (3, gI b), (4, gI 0)]) hK dd_X12_longest_57 (by decide) rfl ?_
                      have lp25 : ∀ (n23 : Nat) (a : Int), (0 ≤ a ∧ a ≤ M 200 26) → (M 200 26 - a).toNat < n23 → G p l e (rmD 2) s m args below meth c D cy q A 0 0 5 (MQ below (gQc D cy q A Pq) args s 0 0 A) 59 [(0, gR 200), (1, gI q2), (2, gI y), (3, gI b), (4, gI a)] [] (sr M 247 (us (lhI (M 228) (M 229) (M 230) (M 231) (M 200 26).toNat y (lhO (M 228) (M 229) (M 230) (M 231) (M 200 26).toNat (puA (fun _ => 1) (M 247) (M 200 26).toNat, 0) y.toNat) b.toNat).1 b.toNat (lhA (M 228) (M 229) (M 230) (M 231) (lhI (M 228) (M 229) (M 230) (M 231) (M 200 26).toNat y (lhO (M 228) (M 229) (M 230) (M 231) (M 200 26).toNat (puA (fun _ => 1) (M 247) (M 200 26).toNat, 0) y.toNat) b.toNat).1 b.toNat a.toNat))) := by
                        intro n23
                        induction n23 with
                        | zero => intro a iv26 hm27; exact absurd hm27 (Nat.not_lt_zero _)
                        | succ n23 ih24 =>
                          intro a iv26 hm27
                          refine g_iload (pc := 59) (i := 4) (x := a) hK dd_X12_longest_59 rfl ?_
                          refine g_aloadn (pc := 61) (i := 0) (x := 200) hK dd_X12_longest_61 rfl rfl ?_
                          have hla_ := lhA_in (c := M 229) (g := M 230) (b := M 231) (j := b.toNat) (n := (M 200 26).toNat) (by omega) hok_.1 a.toNat (by omega)
                          have hls_ := hok_.1 a.toNat
                          have hyb_ := (hsim b.toNat (by omega)).1
                          refine g_geti (pc := 62) (f := (0, 0)) (j := 26) hK (kdm kd_200) rfl ef_12 (by decide) rfl kk_1127 nl_200 dd_X12_longest_62 rfl (fun x28 ex28 rx28 => ?_)
                          replace ex28 : x28 = M 200 26 := ex28
                          refine g_icmp_ge (pc := 65) (tgt := 117) hK dd_X12_longest_65 (by decide) ⟨by omega, by omega⟩ rx28 (fun c29 => ?_) (fun c29 => ?_)
                          · have hae_ : a.toNat = (M 200 26).toNat := by omega
                            rw [hae_]
                            have hla2_ := lhA_in (c := M 229) (g := M 230) (b := M 231) (j := b.toNat) (n := (M 200 26).toNat) (by omega) hok_.1 (M 200 26).toNat (Nat.le_refl _)
                            have hyb2_ := (hsim b.toNat (by omega)).1
                            skip
                            refine g_aloadn (pc := 117) (i := 0) (x := 200) hK dd_X12_longest_117 rfl rfl ?_
                            refine g_getv (pc := 118) (f := (1, 47)) (j := 46) (v := gR 247) hK (kdm kd_200) rfl ef_12 (by decide) rfl kk_1147 dd_X12_longest_118 rfl ?_
                            refine g_iloadn (pc := 121) (i := 3) (x := b) hK dd_X12_longest_121 rfl rfl ?_
                            refine g_iald (pc := 122) hK (kdm kd_247) nl_247 (by decide) dd_X12_longest_122 (by omega) (by omega) (fun x30 ex30 rx30 => ?_)
                            replace ex30 : x30 = (us (lhI (M 228) (M 229) (M 230) (M 231) (M 200 26).toNat y (lhO (M 228) (M 229) (M 230) (M 231) (M 200 26).toNat (puA (fun _ => 1) (M 247) (M 200 26).toNat, 0) y.toNat) b.toNat).1 b.toNat (lhA (M 228) (M 229) (M 230) (M 231) (lhI (M 228) (M 229) (M 230) (M 231) (M 200 26).toNat y (lhO (M 228) (M 229) (M 230) (M 231) (M 200 26).toNat (puA (fun _ => 1) (M 247) (M 200 26).toNat, 0) y.toNat) b.toNat).1 b.toNat (M 200 26).toNat)) b.toNat := by first | exact ex30 | (rw [ex30]; simp [up, us, cp, sr])
                            rw [us_k] at ex30
                            refine g_iloadn (pc := 123) (i := 1) (x := q2) hK dd_X12_longest_123 rfl rfl ?_
                            refine g_icmp_le (pc := 124) (tgt := 134) hK dd_X12_longest_124 (by decide) rx30 ⟨by omega, by omega⟩ (fun c31 => ?_) (fun c31 => ?_)
                            · refine g_iinc (pc := 134) (i := 3) (y := b + 1) (L' := [(0, gR 200), (1, gI q2), (2, gI y), (3, gI (b + 1)), (4, gI a)]) hK dd_X12_longest_134 rfl rfl (by decide) rfl ?_
                              refine g_goto (pc := 137) (tgt := 35) hK dd_X12_longest_137 (by decide) ?_
                              refine g_sub (L' := [(0, gR 200), (1, gI q2), (2, gI y), (3, gI (b + 1))]) [0, 1, 2, 3] rfl ?_
                              refine g_mem (M2 := sr M 247 ((lhI (M 228) (M 229) (M 230) (M 231) (M 200 26).toNat y (lhO (M 228) (M 229) (M 230) (M 231) (M 200 26).toNat (puA (fun _ => 1) (M 247) (M 200 26).toNat, 0) y.toNat) (b + 1).toNat).1)) (by rw [tn1 (by omega)]; simp only [lhI]; first | (rw [if_neg hne_]; done) | (rw [if_pos hye_]; done)) ?_
                              exact ih15 q2 (b + 1) (by omega) (by rw [tn1 (by omega)]; simp only [lhI]; first | (rw [if_neg hne_]; assumption) | (rw [if_pos hye_]; simp only; first | (rw [if_pos (by omega)]; omega) | (rw [if_neg (by omega)]; omega))) (by omega)
                            · refine g_aloadn (pc := 127) (i := 0) (x := 200) hK dd_X12_longest_127 rfl rfl ?_
                              refine g_getv (pc := 128) (f := (1, 47)) (j := 46) (v := gR 247) hK (kdm kd_200) rfl ef_12 (by decide) rfl kk_1147 dd_X12_longest_128 rfl ?_
                              refine g_iloadn (pc := 131) (i := 3) (x := b) hK dd_X12_longest_131 rfl rfl ?_
                              refine g_iald (pc := 132) hK (kdm kd_247) nl_247 (by decide) dd_X12_longest_132 (by omega) (by omega) (fun x32 ex32 rx32 => ?_)
                              replace ex32 : x32 = (us (lhI (M 228) (M 229) (M 230) (M 231) (M 200 26).toNat y (lhO (M 228) (M 229) (M 230) (M 231) (M 200 26).toNat (puA (fun _ => 1) (M 247) (M 200 26).toNat, 0) y.toNat) b.toNat).1 b.toNat (lhA (M 228) (M 229) (M 230) (M 231) (lhI (M 228) (M 229) (M 230) (M 231) (M 200 26).toNat y (lhO (M 228) (M 229) (M 230) (M 231) (M 200 26).toNat (puA (fun _ => 1) (M 247) (M 200 26).toNat, 0) y.toNat) b.toNat).1 b.toNat (M 200 26).toNat)) b.toNat := by first | exact ex32 | (rw [ex32]; simp [up, us, cp, sr])
                              rw [us_k] at ex32
                              refine g_istoren (pc := 133) (i := 1) (L' := [(0, gR 200), (1, gI x32), (2, gI y), (3, gI b), (4, gI a)]) hK dd_X12_longest_133 rfl (by decide) rfl ?_
                              refine g_iinc (pc := 134) (i := 3) (y := b + 1) (L' := [(0, gR 200), (1, gI x32), (2, gI y), (3, gI (b + 1)), (4, gI a)]) hK dd_X12_longest_134 rfl rfl (by decide) rfl ?_
                              refine g_goto (pc := 137) (tgt := 35) hK dd_X12_longest_137 (by decide) ?_
                              refine g_sub (L' := [(0, gR 200), (1, gI x32), (2, gI y), (3, gI (b + 1))]) [0, 1, 2, 3] rfl ?_
                              refine g_mem (M2 := sr M 247 ((lhI (M 228) (M 229) (M 230) (M 231) (M 200 26).toNat y (lhO (M 228) (M 229) (M 230) (M 231) (M 200 26).toNat (puA (fun _ => 1) (M 247) (M 200 26).toNat, 0) y.toNat) (b + 1).toNat).1)) (by rw [tn1 (by omega)]; simp only [lhI]; first | (rw [if_neg hne_]; done) | (rw [if_pos hye_]; done)) ?_
                              exact ih15 x32 (b + 1) (by omega) (by rw [tn1 (by omega)]; simp only [lhI]; first | (rw [if_neg hne_]; assumption) | (rw [if_pos hye_]; simp only; first | (rw [if_pos (by omega)]; omega) | (rw [if_neg (by omega)]; omega))) (by omega)
                          · refine g_aloadn (pc := 68) (i := 0) (x := 200) hK dd_X12_longest_68 rfl rfl ?_
                            refine g_iload (pc := 69) (i := 4) (x := a) hK dd_X12_longest_69 rfl ?_
                            refine g_iloadn (pc := 71) (i := 3) (x := b) hK dd_X12_longest_71 rfl rfl ?_
                            refine g_callV (pc := 72) (As := [gI a, gI b]) hK ws_M_282 md_X12_mayBecome ⟨Nat.zero_le _, Nat.zero_le _⟩ ⟨by decide, by decide⟩ (kdm kd_200) rfl rfl dd_X12_longest_72 rfl rfl (Nat.le_of_ble_eq_true rfl) (d_mayBecome a b (show 0 ≤ a ∧ a < 20 by omega) (show 0 ≤ b ∧ b < 20 by omega) (fun c33 => g_r1 ?_) (fun c33 => g_r1 ?_))
                            · replace c33 : mbe (M 228) (M 229) (M 230) (M 231) a.toNat b.toNat := c33
                              refine g_if_eq (pc := 75) (tgt := 111) hK dd_X12_longest_75 (by decide) (by decide) (fun c34 => absurd c34 (by decide)) (fun _ => ?_)
                              have hme_ : mbe (M 228) (M 229) (M 230) (M 231) a.toNat b.toNat := c33
                              have hab_ : a.toNat ≠ b.toNat := fun z_ => by have q_ : M 228 a.toNat < M 228 b.toNat := hme_.1; rw [z_] at q_; omega
                              have hls2_ := hls_ (by omega)
                              have hya_ := (hsim a.toNat (by omega)).1
                              refine g_aloadn (pc := 78) (i := 0) (x := 200) hK dd_X12_longest_78 rfl rfl ?_
                              refine g_getv (pc := 79) (f := (1, 47)) (j := 46) (v := gR 247) hK (kdm kd_200) rfl ef_12 (by decide) rfl kk_1147 dd_X12_longest_79 rfl ?_
                              refine g_iload (pc := 82) (i := 4) (x := a) hK dd_X12_longest_82 rfl ?_
                              refine g_iald (pc := 84) hK (kdm kd_247) nl_247 (by decide) dd_X12_longest_84 (by omega) (by omega) (fun x35 ex35 rx35 => ?_)
                              replace ex35 : x35 = (us (lhI (M 228) (M 229) (M 230) (M 231) (M 200 26).toNat y (lhO (M 228) (M 229) (M 230) (M 231) (M 200 26).toNat (puA (fun _ => 1) (M 247) (M 200 26).toNat, 0) y.toNat) b.toNat).1 b.toNat (lhA (M 228) (M 229) (M 230) (M 231) (lhI (M 228) (M 229) (M 230) (M 231) (M 200 26).toNat y (lhO (M 228) (M 229) (M 230) (M 231) (M 200 26).toNat (puA (fun _ => 1) (M 247) (M 200 26).toNat, 0) y.toNat) b.toNat).1 b.toNat a.toNat)) a.toNat := by first | exact ex35 | (rw [ex35]; simp [up, us, cp, sr])
                              rw [us_o hab_] at ex35
                              refine g_iconst (pc := 85) (x := 1) hK dd_X12_longest_85 (by decide) ?_
                              refine g_iadd (pc := 86) (z := x35 + 1) hK dd_X12_longest_86 rfl ?_
                              refine g_aloadn (pc := 87) (i := 0) (x := 200) hK dd_X12_longest_87 rfl rfl ?_
                              refine g_getv (pc := 88) (f := (1, 47)) (j := 46) (v := gR 247) hK (kdm kd_200) rfl ef_12 (by decide) rfl kk_1147 dd_X12_longest_88 rfl ?_
                              refine g_iloadn (pc := 91) (i := 3) (x := b) hK dd_X12_longest_91 rfl rfl ?_
                              refine g_iald (pc := 92) hK (kdm kd_247) nl_247 (by decide) dd_X12_longest_92 (by omega) (by omega) (fun x36 ex36 rx36 => ?_)
                              replace ex36 : x36 = (us (lhI (M 228) (M 229) (M 230) (M 231) (M 200 26).toNat y (lhO (M 228) (M 229) (M 230) (M 231) (M 200 26).toNat (puA (fun _ => 1) (M 247) (M 200 26).toNat, 0) y.toNat) b.toNat).1 b.toNat (lhA (M 228) (M 229) (M 230) (M 231) (lhI (M 228) (M 229) (M 230) (M 231) (M 200 26).toNat y (lhO (M 228) (M 229) (M 230) (M 231) (M 200 26).toNat (puA (fun _ => 1) (M 247) (M 200 26).toNat, 0) y.toNat) b.toNat).1 b.toNat a.toNat)) b.toNat := by first | exact ex36 | (rw [ex36]; simp [up, us, cp, sr])
                              rw [us_k] at ex36
                              refine g_icmp_le (pc := 93) (tgt := 111) hK dd_X12_longest_93 (by decide) ⟨by omega, by omega⟩ rx36 (fun c37 => ?_) (fun c37 => ?_)
                              · have hno_ : ¬ (mbe (M 228) (M 229) (M 230) (M 231) a.toNat b.toNat ∧ lhA (M 228) (M 229) (M 230) (M 231) (lhI (M 228) (M 229) (M 230) (M 231) (M 200 26).toNat y (lhO (M 228) (M 229) (M 230) (M 231) (M 200 26).toNat (puA (fun _ => 1) (M 247) (M 200 26).toNat, 0) y.toNat) b.toNat).1 b.toNat a.toNat < (lhI (M 228) (M 229) (M 230) (M 231) (M 200 26).toNat y (lhO (M 228) (M 229) (M 230) (M 231) (M 200 26).toNat (puA (fun _ => 1) (M 247) (M 200 26).toNat, 0) y.toNat) b.toNat).1 a.toNat + 1) := fun z_ => absurd z_.2 (by omega)
                                refine g_iinc (pc := 111) (i := 4) (y := a + 1) (L' := [(0, gR 200), (1, gI q2), (2, gI y), (3, gI b), (4, gI (a + 1))]) hK dd_X12_longest_111 rfl rfl (by decide) rfl ?_
                                refine g_goto (pc := 114) (tgt := 59) hK dd_X12_longest_114 (by decide) ?_
                                refine g_sub (L' := [(0, gR 200), (1, gI q2), (2, gI y), (3, gI b), (4, gI (a + 1))]) [0, 1, 2, 3, 4] rfl ?_
                                refine g_mem (M2 := sr M 247 (us (lhI (M 228) (M 229) (M 230) (M 231) (M 200 26).toNat y (lhO (M 228) (M 229) (M 230) (M 231) (M 200 26).toNat (puA (fun _ => 1) (M 247) (M 200 26).toNat, 0) y.toNat) b.toNat).1 b.toNat (lhA (M 228) (M 229) (M 230) (M 231) (lhI (M 228) (M 229) (M 230) (M 231) (M 200 26).toNat y (lhO (M 228) (M 229) (M 230) (M 231) (M 200 26).toNat (puA (fun _ => 1) (M 247) (M 200 26).toNat, 0) y.toNat) b.toNat).1 b.toNat (a + 1).toNat))) (by rw [tn1 (by omega)]; first | (rw [lhA_n hno_]; done) | (rw [lhA_y hme_ (by omega)]; subst_vars; simp (disch := decide) only [Int.reduceToNat, up_sr, sr_cp, sr_k, sr_o, sr_sr, us_us]; try rfl)) ?_
                                exact ih24 (a + 1) (by omega) (by omega)
                              · refine g_aloadn (pc := 96) (i := 0) (x := 200) hK dd_X12_longest_96 rfl rfl ?_
                                refine g_getv (pc := 97) (f := (1, 47)) (j := 46) (v := gR 247) hK (kdm kd_200) rfl ef_12 (by decide) rfl kk_1147 dd_X12_longest_97 rfl ?_
                                refine g_iloadn (pc := 100) (i := 3) (x := b) hK dd_X12_longest_100 rfl rfl ?_
                                refine g_aloadn (pc := 101) (i := 0) (x := 200) hK dd_X12_longest_101 rfl rfl ?_
                                refine g_getv (pc := 102) (f := (1, 47)) (j := 46) (v := gR 247) hK (kdm kd_200) rfl ef_12 (by decide) rfl kk_1147 dd_X12_longest_102 rfl ?_
                                refine g_iload (pc := 105) (i := 4) (x := a) hK dd_X12_longest_105 rfl ?_
                                refine g_iald (pc := 107) hK (kdm kd_247) nl_247 (by decide) dd_X12_longest_107 (by omega) (by omega) (fun x38 ex38 rx38 => ?_)
                                replace ex38 : x38 = (us (lhI (M 228) (M 229) (M 230) (M 231) (M 200 26).toNat y (lhO (M 228) (M 229) (M 230) (M 231) (M 200 26).toNat (puA (fun _ => 1) (M 247) (M 200 26).toNat, 0) y.toNat) b.toNat).1 b.toNat (lhA (M 228) (M 229) (M 230) (M 231) (lhI (M 228) (M 229) (M 230) (M 231) (M 200 26).toNat y (lhO (M 228) (M 229) (M 230) (M 231) (M 200 26).toNat (puA (fun _ => 1) (M 247) (M 200 26).toNat, 0) y.toNat) b.toNat).1 b.toNat a.toNat)) a.toNat := by first | exact ex38 | (rw [ex38]; simp [up, us, cp, sr])
                                rw [us_o hab_] at ex38
                                refine g_iconst (pc := 108) (x := 1) hK dd_X12_longest_108 (by decide) ?_
                                refine g_iadd (pc := 109) (z := x38 + 1) hK dd_X12_longest_109 rfl ?_
                                refine g_iast (pc := 110) hK (kdm kd_247) nl_247 (by decide) (by decide) dd_X12_longest_110 (by omega) (by omega) ⟨by omega, by omega⟩ ?_
                                skip
                                refine g_iinc (pc := 111) (i := 4) (y := a + 1) (L' := [(0, gR 200), (1, gI q2), (2, gI y), (3, gI b), (4, gI (a + 1))]) hK dd_X12_longest_111 rfl rfl (by decide) rfl ?_
                                refine g_goto (pc := 114) (tgt := 59) hK dd_X12_longest_114 (by decide) ?_
                                refine g_sub (L' := [(0, gR 200), (1, gI q2), (2, gI y), (3, gI b), (4, gI (a + 1))]) [0, 1, 2, 3, 4] rfl ?_
                                refine g_mem (M2 := sr M 247 (us (lhI (M 228) (M 229) (M 230) (M 231) (M 200 26).toNat y (lhO (M 228) (M 229) (M 230) (M 231) (M 200 26).toNat (puA (fun _ => 1) (M 247) (M 200 26).toNat, 0) y.toNat) b.toNat).1 b.toNat (lhA (M 228) (M 229) (M 230) (M 231) (lhI (M 228) (M 229) (M 230) (M 231) (M 200 26).toNat y (lhO (M 228) (M 229) (M 230) (M 231) (M 200 26).toNat (puA (fun _ => 1) (M 247) (M 200 26).toNat, 0) y.toNat) b.toNat).1 b.toNat (a + 1).toNat))) (by rw [tn1 (by omega)]; first | (rw [lhA_n hno_]; done) | (rw [lhA_y hme_ (by omega)]; subst_vars; simp (disch := decide) only [Int.reduceToNat, up_sr, sr_cp, sr_k, sr_o, sr_sr, us_us]; try rfl)) ?_
                                exact ih24 (a + 1) (by omega) (by omega)
                            · replace c33 : ¬ (mbe (M 228) (M 229) (M 230) (M 231) a.toNat b.toNat) := c33
                              refine g_if_eq (pc := 75) (tgt := 111) hK dd_X12_longest_75 (by decide) (by decide) (fun _ => ?_) (fun c39 => absurd (by decide) c39)
                              have hno_ : ¬ (mbe (M 228) (M 229) (M 230) (M 231) a.toNat b.toNat ∧ lhA (M 228) (M 229) (M 230) (M 231) (lhI (M 228) (M 229) (M 230) (M 231) (M 200 26).toNat y (lhO (M 228) (M 229) (M 230) (M 231) (M 200 26).toNat (puA (fun _ => 1) (M 247) (M 200 26).toNat, 0) y.toNat) b.toNat).1 b.toNat a.toNat < (lhI (M 228) (M 229) (M 230) (M 231) (M 200 26).toNat y (lhO (M 228) (M 229) (M 230) (M 231) (M 200 26).toNat (puA (fun _ => 1) (M 247) (M 200 26).toNat, 0) y.toNat) b.toNat).1 a.toNat + 1) := fun z_ => absurd z_.1 c33
                              refine g_iinc (pc := 111) (i := 4) (y := a + 1) (L' := [(0, gR 200), (1, gI q2), (2, gI y), (3, gI b), (4, gI (a + 1))]) hK dd_X12_longest_111 rfl rfl (by decide) rfl ?_
                              refine g_goto (pc := 114) (tgt := 59) hK dd_X12_longest_114 (by decide) ?_
                              refine g_sub (L' := [(0, gR 200), (1, gI q2), (2, gI y), (3, gI b), (4, gI (a + 1))]) [0, 1, 2, 3, 4] rfl ?_
                              refine g_mem (M2 := sr M 247 (us (lhI (M 228) (M 229) (M 230) (M 231) (M 200 26).toNat y (lhO (M 228) (M 229) (M 230) (M 231) (M 200 26).toNat (puA (fun _ => 1) (M 247) (M 200 26).toNat, 0) y.toNat) b.toNat).1 b.toNat (lhA (M 228) (M 229) (M 230) (M 231) (lhI (M 228) (M 229) (M 230) (M 231) (M 200 26).toNat y (lhO (M 228) (M 229) (M 230) (M 231) (M 200 26).toNat (puA (fun _ => 1) (M 247) (M 200 26).toNat, 0) y.toNat) b.toNat).1 b.toNat (a + 1).toNat))) (by rw [tn1 (by omega)]; first | (rw [lhA_n hno_]; done) | (rw [lhA_y hme_ (by omega)]; subst_vars; simp (disch := decide) only [Int.reduceToNat, up_sr, sr_cp, sr_k, sr_o, sr_sr, us_us]; try rfl)) ?_
                              exact ih24 (a + 1) (by omega) (by omega)
                      refine g_mem (M2 := sr M 247 (us (lhI (M 228) (M 229) (M 230) (M 231) (M 200 26).toNat y (lhO (M 228) (M 229) (M 230) (M 231) (M 200 26).toNat (puA (fun _ => 1) (M 247) (M 200 26).toNat, 0) y.toNat) b.toNat).1 b.toNat (lhA (M 228) (M 229) (M 230) (M 231) (lhI (M 228) (M 229) (M 230) (M 231) (M 200 26).toNat y (lhO (M 228) (M 229) (M 230) (M 231) (M 200 26).toNat (puA (fun _ => 1) (M 247) (M 200 26).toNat, 0) y.toNat) b.toNat).1 b.toNat (0 : Int).toNat))) (by show _ = sr M 247 (us _ _ (lhA _ _ _ _ _ _ 0)); rw [lhA, us_self]) ?_
                      refine g_sub (L' := [(0, gR 200), (1, gI q2), (2, gI y), (3, gI b), (4, gI 0)]) [0, 1, 2, 3, 4] rfl ?_
                      exact lp25 _ 0 (by omega) (Nat.lt_succ_self _)
                    · have hne_ : ¬ M 228 b.toNat = y := by omega
                      refine g_goto (pc := 53) (tgt := 134) hK dd_X12_longest_53 (by decide) ?_
                      refine g_iinc (pc := 134) (i := 3) (y := b + 1) (L' := [(0, gR 200), (1, gI q2), (2, gI y), (3, gI (b + 1))]) hK dd_X12_longest_134 rfl rfl (by decide) rfl ?_
                      refine g_goto (pc := 137) (tgt := 35) hK dd_X12_longest_137 (by decide) ?_
                      refine g_sub (L' := [(0, gR 200), (1, gI q2), (2, gI y), (3, gI (b + 1))]) [0, 1, 2, 3] rfl ?_
                      refine g_mem (M2 := sr M 247 ((lhI (M 228) (M 229) (M 230) (M 231) (M 200 26).toNat y (lhO (M 228) (M 229) (M 230) (M 231) (M 200 26).toNat (puA (fun _ => 1) (M 247) (M 200 26).toNat, 0) y.toNat) (b + 1).toNat).1)) (by rw [tn1 (by omega)]; simp only [lhI]; first | (rw [if_neg hne_]; done) | (rw [if_pos hye_]; done)) ?_
                      exact ih15 q2 (b + 1) (by omega) (by rw [tn1 (by omega)]; simp only [lhI]; first | (rw [if_neg hne_]; assumption) | (rw [if_pos hye_]; simp only; first | (rw [if_pos (by omega)]; omega) | (rw [if_neg (by omega)]; omega))) (by omega)
              refine g_mem (M2 := sr M 247 ((lhI (M 228) (M 229) (M 230) (M 231) (M 200 26).toNat y (lhO (M 228) (M 229) (M 230) (M 231) (M 200 26).toNat (puA (fun _ => 1) (M 247) (M 200 26).toNat, 0) y.toNat) (0 : Int).toNat).1)) (rfl) ?_
              refine g_sub (L' := [(0, gR 200), (1, gI q1), (2, gI y), (3, gI 0)]) [0, 1, 2, 3] rfl ?_
              exact lp16 _ q1 0 (by omega) (hq_) (Nat.lt_succ_self _)
        refine g_mem (M2 := sr M 247 ((lhO (M 228) (M 229) (M 230) (M 231) (M 200 26).toNat (puA (fun _ => 1) (M 247) (M 200 26).toNat, 0) (0 : Int).toNat).1)) (by rw [show a.toNat = (M 200 26).toNat by omega]; rfl) ?_
        refine g_sub (L' := [(0, gR 200), (1, gI 0), (2, gI 0)]) [0, 1, 2] rfl ?_
        exact lp10 _ 0 0 (by omega) (rfl) (Nat.lt_succ_self _)
      · refine g_aloadn (pc := 12) (i := 0) (x := 200) hK dd_X12_longest_12 rfl rfl ?_
        refine g_getv (pc := 13) (f := (1, 47)) (j := 46) (v := gR 247) hK (kdm kd_200) rfl ef_12 (by decide) rfl kk_1147 dd_X12_longest_13 rfl ?_
        refine g_iloadn (pc := 16) (i := 2) (x := a) hK dd_X12_longest_16 rfl rfl ?_
        refine g_iconst (pc := 17) (x := 1) hK dd_X12_longest_17 (by decide) ?_
        refine g_iast (pc := 18) hK (kdm kd_247) nl_247 (by decide) (by decide) dd_X12_longest_18 (by omega) (by omega) (by decide) ?_
        refine g_iinc (pc := 19) (i := 2) (y := a + 1) (L' := [(0, gR 200), (1, gI 0), (2, gI (a + 1))]) hK dd_X12_longest_19 rfl rfl (by decide) rfl ?_
        refine g_goto (pc := 22) (tgt := 4) hK dd_X12_longest_22 (by decide) ?_
        refine g_sub (L' := [(0, gR 200), (1, gI 0), (2, gI (a + 1))]) [0, 1, 2] rfl ?_
        refine g_mem (M2 := sr M 247 (puA (fun _ => 1) (M 247) (a + 1).toNat)) (by rw [tn1 (by omega), ← @puA_s (fun _ => 1) (M 247) a.toNat 1 rfl]; simp (disch := decide) only [Int.reduceToNat, up_sr, sr_cp, sr_k, sr_o, sr_sr, us_us]; try rfl) ?_
        exact ih2 (a + 1) (by omega) (by omega)
  refine g_mem (M2 := sr M 247 (puA (fun _ => 1) (M 247) (0 : Int).toNat)) (by show M = sr M 247 (puA (fun _ => 1) (M 247) 0); rw [puA_0]; exact sr_self.symm) ?_
  refine g_sub (L' := [(0, gR 200), (1, gI 0), (2, gI 0)]) [0, 1, 2] rfl ?_
  exact lp3 _ 0 (by omega) (Nat.lt_succ_self _)
set_option maxHeartbeats 4000000 in
set_option maxRecDepth 100000 in
theorem d_fits0 {l : Launch} {M : Mem} {Pq : Option gV → Mem → Prop} (hmc : 0 ≤ M 200 3 ∧ M 200 3 ≤ 30) (hrm : ∀ j : Nat, j < 5 → 0 ≤ M 249 j ∧ M 249 j ≤ 10) (hT : (cLm (M 249) (M 248) 0 (M 200 3).toNat) → Pq (some (gI 1)) M) (hF : ¬ (cLm (M 249) (M 248) 0 (M 200 3).toNat) → Pq (some (gI 0)) M) : gCtr l my_X12_fits mb_X12_fits 5 ((some .boolean)) 2 [gR 200, gI 0] M Pq := by
  refine g_intro (by decide) (Nat.le_of_ble_eq_true rfl) ?_
  intro p e s m args below meth c D cy q A hK hr hlocks hw
  refine g_sub (L' := [(0, gR 200), (1, gI 0)]) [0, 1] rfl ?_
  refine g_iconst (pc := 0) (x := 0) hK dd_X12_fits_0 (by decide) ?_
  refine g_istoren (pc := 1) (i := 2) (L' := [(0, gR 200), (1, gI 0), (2, gI 0)]) hK dd_X12_fits_1 rfl (by decide) rfl ?_
  have lp3 : ∀ (n1 : Nat) (z : Int), (0 ≤ z ∧ z ≤ 32) → (∀ w : Nat, w < z.toNat → cmN (M 248) w 0 ((M 200 3).toNat - 0) ≤ spN (M 249) w 5) → (32 - z).toNat < n1 → G p l e (rmD 2) s m args below meth c D cy q A 0 0 5 (MQ below (gQc D cy q A Pq) args s 0 0 A) 2 [(0, gR 200), (1, gI 0), (2, gI z)] [] M := by
    intro n1
    induction n1 with
    | zero => intro z iv4 hall_ hm5; exact absurd hm5 (Nat.not_lt_zero _)
    | succ n1 ih2 =>
      intro z iv4 hall_ hm5
      refine g_iloadn (pc := 2) (i := 2) (x := z) hK dd_X12_fits_2 rfl rfl ?_
      refine g_bipush (pc := 3) (x := 32) hK dd_X12_fits_3 (by decide) ?_
      refine g_icmp_ge (pc := 5) (tgt := 102) hK dd_X12_fits_5 (by decide) ⟨by omega, by omega⟩ (by decide) (fun c6 => ?_) (fun c6 => ?_)
      · refine g_iconst (pc := 102) (x := 1) hK dd_X12_fits_102 (by decide) ?_
        refine g_iret (pc := 103) hK hr hlocks dd_X12_fits_103 rfl ?_
        exact g_finM (hT (by first | exact fun w_ hw_ => hall_ w_ (by omega) | (intro hP_; have q_ := hP_ z.toNat (by omega); rw [show ((z.toNat : Nat) : Int) = z by omega] at q_; omega))) (by first | rfl | (subst_vars; rfl))
      · refine g_iconst (pc := 8) (x := 0) hK dd_X12_fits_8 (by decide) ?_
        refine g_istoren (pc := 9) (i := 3) (L' := [(0, gR 200), (1, gI 0), (2, gI z), (3, gI 0)]) hK dd_X12_fits_9 rfl (by decide) rfl ?_
        refine g_iconst (pc := 10) (x := 0) hK dd_X12_fits_10 (by decide) ?_
        refine g_istore (pc := 11) (i := 4) (L' := [(0, gR 200), (1, gI 0), (2, gI z), (3, gI 0), (4, gI 0)]) hK dd_X12_fits_11 (by decide) rfl ?_
        have lp9 : ∀ (n7 : Nat) (pa : Int) (k : Int), (0 ≤ k ∧ k ≤ 5) → (pa = spN (M 249) z k.toNat) → (5 - k).toNat < n7 → G p l e (rmD 2) s m args below meth c D cy q A 0 0 5 (MQ below (gQc D cy q A Pq) args s 0 0 A) 13 [(0, gR 200), (1, gI 0), (2, gI z), (3, gI pa), (4, gI k)] [] M := by
          intro n7
          induction n7 with
          | zero => intro pa k iv10 hpa_ hm11; exact absurd hm11 (Nat.not_lt_zero _)
          | succ n7 ih8 =>
            intro pa k iv10 hpa_ hm11
            refine g_iload (pc := 13) (i := 4) (x := k) hK dd_X12_fits_13 rfl ?_
            have hsn_ := spN_in (z := z) hrm k.toNat (by omega)
            refine g_iconst (pc := 15) (x := 5) hK dd_X12_fits_15 (by decide) ?_
            refine g_icmp_ge (pc := 16) (tgt := 45) hK dd_X12_fits_16 (by decide) ⟨by omega, by omega⟩ (by decide) (fun c12 => ?_) (fun c12 => ?_)
            · refine g_iloadn (pc := 45) (i := 1) (x := 0) hK dd_X12_fits_45 rfl rfl ?_
              refine g_istore (pc := 46) (i := 4) (L' := [(0, gR 200), (1, gI 0), (2, gI z), (3, gI pa), (4, gI 0)]) hK dd_X12_fits_46 (by decide) rfl ?_
              have lp15 : ∀ (n13 : Nat) (pb : Int) (t : Int), ((0 : Int) ≤ t ∧ t ≤ M 200 3) → (pb = spN (M 249) z 5 - cmN (M 248) z 0 (t - (0 : Int)).toNat) → (M 200 3 - t).toNat < n13 → G p l e (rmD 2) s m args below meth c D cy q A 0 0 5 (MQ below (gQc D cy q A Pq) args s 0 0 A) 48 [(0, gR 200), (1, gI 0), (2, gI z), (3, gI pb), (4, gI t)] [] M := by
                intro n13
                induction n13 with
                | zero => intro pb t iv16 hpb_ hm17; exact absurd hm17 (Nat.not_lt_zero _)
                | succ n13 ih14 =>
                  intro pb t iv16 hpb_ hm17
                  refine g_iload (pc := 48) (i := 4) (x := t) hK dd_X12_fits_48 rfl ?_
                  have hs5_ := spN_in (z := z) hrm 5 (by omega)
                  have hcn_ := cmN_in (M 248) z 0 (t - (0 : Int)).toNat
                  refine g_aloadn (pc := 50) (i := 0) (x := 200) hK dd_X12_fits_50 rfl rfl ?_
                  refine g_geti (pc := 51) (f := (0, 0)) (j := 3) hK (kdm kd_200) rfl ef_12 (by decide) rfl kk_1104 nl_200 dd_X12_fits_51 rfl (fun x18 ex18 rx18 => ?_)
                  refine g_icmp_ge (pc := 54) (tgt := 90) hK dd_X12_fits_54 (by decide) ⟨by omega, by omega⟩ rx18 (fun c19 => ?_) (fun c19 => ?_)
                  · have hco_ : (t - (0 : Int)).toNat = (M 200 3).toNat - 0 := by omega
                    rw [hco_] at hpb_ hcn_
                    refine g_iloadn (pc := 90) (i := 3) (x := pb) hK dd_X12_fits_90 rfl rfl ?_
                    refine g_if_ge (pc := 91) (tgt := 96) hK dd_X12_fits_91 (by decide) ⟨by omega, by omega⟩ (fun c20 => ?_) (fun c20 => ?_)
                    · refine g_iinc (pc := 96) (i := 2) (y := z + 1) (L' := [(0, gR 200), (1, gI 0), (2, gI (z + 1)), (3, gI pb), (4, gI t)]) hK dd_X12_fits_96 rfl rfl (by decide) rfl ?_
                      refine g_goto (pc := 99) (tgt := 2) hK dd_X12_fits_99 (by decide) ?_
                      refine g_sub (L' := [(0, gR 200), (1, gI 0), (2, gI (z + 1))]) [0, 1, 2] rfl ?_
                      exact ih2 (z + 1) (by omega) (fun w hw => by
                        by_cases e : w = z.toNat
                        · subst e; rw [show ((z.toNat : Nat) : Int) = z by omega]; omega
                        · exact hall_ w (by omega)) (by omega)
                    · refine g_iconst (pc := 94) (x := 0) hK dd_X12_fits_94 (by decide) ?_
                      refine g_iret (pc := 95) hK hr hlocks dd_X12_fits_95 rfl ?_
                      exact g_finM (hF (by first | exact fun w_ hw_ => hall_ w_ (by omega) | (intro hP_; have q_ := hP_ z.toNat (by omega); rw [show ((z.toNat : Nat) : Int) = z by omega] at q_; omega))) (by first | rfl | (subst_vars; rfl))
                  · refine g_aloadn (pc := 57) (i := 0) (x := 200) hK dd_X12_fits_57 rfl rfl ?_
                    refine g_getv (pc := 58) (f := (1, 48)) (j := 47) (v := gR 248) hK (kdm kd_200) rfl ef_12 (by decide) rfl kk_1148 dd_X12_fits_58 rfl ?_
                    refine g_iload (pc := 61) (i := 4) (x := t) hK dd_X12_fits_61 rfl ?_
                    refine g_iald (pc := 63) hK (kdm kd_248) nl_248 (by decide) dd_X12_fits_63 (by omega) (by omega) (fun x21 ex21 rx21 => ?_)
                    refine g_if_lt (pc := 64) (tgt := 84) hK dd_X12_fits_64 (by decide) rx21 (fun c22 => ?_) (fun c22 => ?_)
                    · refine g_iinc (pc := 84) (i := 4) (y := t + 1) (L' := [(0, gR 200), (1, gI 0), (2, gI z), (3, gI pb), (4, gI (t + 1))]) hK dd_X12_fits_84 rfl rfl (by decide) rfl ?_
                      refine g_goto (pc := 87) (tgt := 48) hK dd_X12_fits_87 (by decide) ?_
                      refine g_sub (L' := [(0, gR 200), (1, gI 0), (2, gI z), (3, gI pb), (4, gI (t + 1))]) [0, 1, 2, 3, 4] rfl ?_
                      exact ih14 pb (t + 1) (by omega) (by rw [show (t + 1 - (0 : Int)).toNat = (t - (0 : Int)).toNat + 1 by omega]; simp only [cmN]; rw [show 0 + (t - (0 : Int)).toNat = t.toNat by omega]; first | (rw [if_pos ⟨by omega, by subst_vars; omega⟩]; omega) | (rw [if_neg (fun z_ => by subst_vars; omega)]; omega)) (by omega)
                    · refine g_aloadn (pc := 67) (i := 0) (x := 200) hK dd_X12_fits_67 rfl rfl ?_
                      refine g_getv (pc := 68) (f := (1, 48)) (j := 47) (v := gR 248) hK (kdm kd_200) rfl ef_12 (by decide) rfl kk_1148 dd_X12_fits_68 rfl ?_
                      refine g_iload (pc := 71) (i := 4) (x := t) hK dd_X12_fits_71 rfl ?_
                      refine g_iald (pc := 73) hK (kdm kd_248) nl_248 (by decide) dd_X12_fits_73 (by omega) (by omega) (fun x23 ex23 rx23 => ?_)
                      refine g_iloadn (pc := 74) (i := 2) (x := z) hK dd_X12_fits_74 rfl rfl ?_
                      refine g_iconst (pc := 75) (x := (-1)) hK dd_X12_fits_75 (by decide) ?_
                      refine g_ixor (pc := 76) (z := jxor z (-1)) hK dd_X12_fits_76 rfl ?_
                      refine g_iand (pc := 77) (z := jand x23 (jxor z (-1))) hK dd_X12_fits_77 rfl ?_
                      refine g_if_ne (pc := 78) (tgt := 84) hK dd_X12_fits_78 (by decide) (jand_in _ _) (fun c24 => ?_) (fun c24 => ?_)
                      · refine g_iinc (pc := 84) (i := 4) (y := t + 1) (L' := [(0, gR 200), (1, gI 0), (2, gI z), (3, gI pb), (4, gI (t + 1))]) hK dd_X12_fits_84 rfl rfl (by decide) rfl ?_
                        refine g_goto (pc := 87) (tgt := 48) hK dd_X12_fits_87 (by decide) ?_
                        refine g_sub (L' := [(0, gR 200), (1, gI 0), (2, gI z), (3, gI pb), (4, gI (t + 1))]) [0, 1, 2, 3, 4] rfl ?_
                        exact ih14 pb (t + 1) (by omega) (by rw [show (t + 1 - (0 : Int)).toNat = (t - (0 : Int)).toNat + 1 by omega]; simp only [cmN]; rw [show 0 + (t - (0 : Int)).toNat = t.toNat by omega]; first | (rw [if_pos ⟨by omega, by subst_vars; omega⟩]; omega) | (rw [if_neg (fun z_ => by subst_vars; omega)]; omega)) (by omega)
                      · refine g_iinc (pc := 81) (i := 3) (y := pb - 1) (L' := [(0, gR 200), (1, gI 0), (2, gI z), (3, gI (pb - 1)), (4, gI t)]) hK dd_X12_fits_81 rfl (by omega) (by decide) rfl ?_
                        refine g_iinc (pc := 84) (i := 4) (y := t + 1) (L' := [(0, gR 200), (1, gI 0), (2, gI z), (3, gI (pb - 1)), (4, gI (t + 1))]) hK dd_X12_fits_84 rfl rfl (by decide) rfl ?_
                        refine g_goto (pc := 87) (tgt := 48) hK dd_X12_fits_87 (by decide) ?_
                        refine g_sub (L' := [(0, gR 200), (1, gI 0), (2, gI z), (3, gI (pb - 1)), (4, gI (t + 1))]) [0, 1, 2, 3, 4] rfl ?_
                        exact ih14 (pb - 1) (t + 1) (by omega) (by rw [show (t + 1 - (0 : Int)).toNat = (t - (0 : Int)).toNat + 1 by omega]; simp only [cmN]; rw [show 0 + (t - (0 : Int)).toNat = t.toNat by omega]; first | (rw [if_pos ⟨by omega, by subst_vars; omega⟩]; omega) | (rw [if_neg (fun z_ => by subst_vars; omega)]; omega)) (by omega)
              refine g_sub (L' := [(0, gR 200), (1, gI 0), (2, gI z), (3, gI pa), (4, gI 0)]) [0, 1, 2, 3, 4] rfl ?_
              exact lp15 _ pa 0 (by omega) (by rw [hpa_, show k.toNat = 5 by omega, show ((0 : Int) - (0 : Int)).toNat = 0 by omega]; simp only [cmN]; omega) (Nat.lt_succ_self _)
            · refine g_aloadn (pc := 19) (i := 0) (x := 200) hK dd_X12_fits_19 rfl rfl ?_
              refine g_iloadn (pc := 20) (i := 2) (x := z) hK dd_X12_fits_20 rfl rfl ?_
              refine g_iload (pc := 21) (i := 4) (x := k) hK dd_X12_fits_21 rfl ?_
              refine g_callV (pc := 23) (As := [gI z, gI k]) hK ws_M_181 md_X12_isOf ⟨Nat.zero_le _, Nat.zero_le _⟩ ⟨by decide, by decide⟩ (kdm kd_200) rfl rfl dd_X12_fits_23 rfl rfl (Nat.le_of_ble_eq_true rfl) (d_isOf z k (fun c25 => g_r1 ?_) (fun c25 => g_r1 ?_))
              · refine g_if_eq (pc := 26) (tgt := 39) hK dd_X12_fits_26 (by decide) (by decide) (fun c26 => absurd c26 (by decide)) (fun _ => ?_)
                have hs1_ := hrm k.toNat (by omega)
                refine g_iloadn (pc := 29) (i := 3) (x := pa) hK dd_X12_fits_29 rfl rfl ?_
                refine g_aloadn (pc := 30) (i := 0) (x := 200) hK dd_X12_fits_30 rfl rfl ?_
                refine g_getv (pc := 31) (f := (1, 49)) (j := 48) (v := gR 249) hK (kdm kd_200) rfl ef_12 (by decide) rfl kk_1149 dd_X12_fits_31 rfl ?_
                refine g_iload (pc := 34) (i := 4) (x := k) hK dd_X12_fits_34 rfl ?_
                refine g_iald (pc := 36) hK (kdm kd_249) nl_249 (by decide) dd_X12_fits_36 (by omega) (by omega) (fun x27 ex27 rx27 => ?_)
                refine g_iadd (pc := 37) (z := pa + x27) hK dd_X12_fits_37 rfl ?_
                refine g_istoren (pc := 38) (i := 3) (L' := [(0, gR 200), (1, gI 0), (2, gI z), (3, gI (pa + x27)), (4, gI k)]) hK dd_X12_fits_38 rfl (by decide) rfl ?_
                refine g_iinc (pc := 39) (i := 4) (y := k + 1) (L' := [(0, gR 200), (1, gI 0), (2, gI z), (3, gI (pa + x27)), (4, gI (k + 1))]) hK dd_X12_fits_39 rfl rfl (by decide) rfl ?_
                refine g_goto (pc := 42) (tgt := 13) hK dd_X12_fits_42 (by decide) ?_
                refine g_sub (L' := [(0, gR 200), (1, gI 0), (2, gI z), (3, gI (pa + x27)), (4, gI (k + 1))]) [0, 1, 2, 3, 4] rfl ?_
                exact ih8 (pa + x27) (k + 1) (by omega) (by rw [tn1 (by omega)]; simp only [spN]; rw [show ((k.toNat : Nat) : Int) = k by omega]; first | (rw [if_pos (by assumption)]; omega) | (rw [if_neg (by assumption)]; omega)) (by omega)
              · refine g_if_eq (pc := 26) (tgt := 39) hK dd_X12_fits_26 (by decide) (by decide) (fun _ => ?_) (fun c28 => absurd (by decide) c28)
                refine g_iinc (pc := 39) (i := 4) (y := k + 1) (L' := [(0, gR 200), (1, gI 0), (2, gI z), (3, gI pa), (4, gI (k + 1))]) hK dd_X12_fits_39 rfl rfl (by decide) rfl ?_
                refine g_goto (pc := 42) (tgt := 13) hK dd_X12_fits_42 (by decide) ?_
                refine g_sub (L' := [(0, gR 200), (1, gI 0), (2, gI z), (3, gI pa), (4, gI (k + 1))]) [0, 1, 2, 3, 4] rfl ?_
                exact ih8 pa (k + 1) (by omega) (by rw [tn1 (by omega)]; simp only [spN]; rw [show ((k.toNat : Nat) : Int) = k by omega]; first | (rw [if_pos (by assumption)]; omega) | (rw [if_neg (by assumption)]; omega)) (by omega)
        refine g_sub (L' := [(0, gR 200), (1, gI 0), (2, gI z), (3, gI 0), (4, gI 0)]) [0, 1, 2, 3, 4] rfl ?_
        exact lp9 _ 0 0 (by omega) (rfl) (Nat.lt_succ_self _)
  refine g_sub (L' := [(0, gR 200), (1, gI 0), (2, gI 0)]) [0, 1, 2] rfl ?_
  exact lp3 _ 0 (by omega) (fun w hw => absurd hw (Nat.not_lt_zero _)) (Nat.lt_succ_self _)
set_option maxHeartbeats 4000000 in
set_option maxRecDepth 100000 in
theorem d_fits {l : Launch} {M : Mem} {Pq : Option gV → Mem → Prop} (f : Int) (f1 : 0 ≤ f ∧ f ≤ M 200 3) (hmc : 0 ≤ M 200 3 ∧ M 200 3 ≤ 30) (hrm : ∀ j : Nat, j < 5 → 0 ≤ M 249 j ∧ M 249 j ≤ 10) (hT : (cLm (M 249) (M 248) f.toNat (M 200 3).toNat) → Pq (some (gI 1)) M) (hF : ¬ (cLm (M 249) (M 248) f.toNat (M 200 3).toNat) → Pq (some (gI 0)) M) : gCtr l my_X12_fits mb_X12_fits 5 ((some .boolean)) 2 [gR 200, gI f] M Pq := by
  refine g_intro (by decide) (Nat.le_of_ble_eq_true rfl) ?_
  intro p e s m args below meth c D cy q A hK hr hlocks hw
  refine g_sub (L' := [(0, gR 200), (1, gI f)]) [0, 1] rfl ?_
  refine g_iconst (pc := 0) (x := 0) hK dd_X12_fits_0 (by decide) ?_
  refine g_istoren (pc := 1) (i := 2) (L' := [(0, gR 200), (1, gI f), (2, gI 0)]) hK dd_X12_fits_1 rfl (by decide) rfl ?_
  have lp3 : ∀ (n1 : Nat) (z : Int), (0 ≤ z ∧ z ≤ 32) → (∀ w : Nat, w < z.toNat → cmN (M 248) w f.toNat ((M 200 3).toNat - f.toNat) ≤ spN (M 249) w 5) → (32 - z).toNat < n1 → G p l e (rmD 2) s m args below meth c D cy q A 0 0 5 (MQ below (gQc D cy q A Pq) args s 0 0 A) 2 [(0, gR 200), (1, gI f), (2, gI z)] [] M := by
    intro n1
    induction n1 with
    | zero => intro z iv4 hall_ hm5; exact absurd hm5 (Nat.not_lt_zero _)
    | succ n1 ih2 =>
      intro z iv4 hall_ hm5
      refine g_iloadn (pc := 2) (i := 2) (x := z) hK dd_X12_fits_2 rfl rfl ?_
      refine g_bipush (pc := 3) (x := 32) hK dd_X12_fits_3 (by decide) ?_
      refine g_icmp_ge (pc := 5) (tgt := 102) hK dd_X12_fits_5 (by decide) ⟨by omega, by omega⟩ (by decide) (fun c6 => ?_) (fun c6 => ?_)
      · refine g_iconst (pc := 102) (x := 1) hK dd_X12_fits_102 (by decide) ?_
        refine g_iret (pc := 103) hK hr hlocks dd_X12_fits_103 rfl ?_
        exact g_finM (hT (by first | exact fun w_ hw_ => hall_ w_ (by omega) | (intro hP_; have q_ := hP_ z.toNat (by omega); rw [show ((z.toNat : Nat) : Int) = z by omega] at q_; omega))) (by first | rfl | (subst_vars; rfl))
      · refine g_iconst (pc := 8) (x := 0) hK dd_X12_fits_8 (by decide) ?_
        refine g_istoren (pc := 9) (i := 3) (L' := [(0, gR 200), (1, gI f), (2, gI z), (3, gI 0)]) hK dd_X12_fits_9 rfl (by decide) rfl ?_
        refine g_iconst (pc := 10) (x := 0) hK dd_X12_fits_10 (by decide) ?_
        refine g_istore (pc := 11) (i := 4) (L' := [(0, gR 200), (1, gI f), (2, gI z), (3, gI 0), (4, gI 0)]) hK dd_X12_fits_11 (by decide) rfl ?_
        have lp9 : ∀ (n7 : Nat) (pa : Int) (k : Int), (0 ≤ k ∧ k ≤ 5) → (pa = spN (M 249) z k.toNat) → (5 - k).toNat < n7 → G p l e (rmD 2) s m args below meth c D cy q A 0 0 5 (MQ below (gQc D cy q A Pq) args s 0 0 A) 13 [(0, gR 200), (1, gI f), (2, gI z), (3, gI pa), (4, gI k)] [] M := by
          intro n7
          induction n7 with
          | zero => intro pa k iv10 hpa_ hm11; exact absurd hm11 (Nat.not_lt_zero _)
          | succ n7 ih8 =>
            intro pa k iv10 hpa_ hm11
            refine g_iload (pc := 13) (i := 4) (x := k) hK dd_X12_fits_13 rfl ?_
            have hsn_ := spN_in (z := z) hrm k.toNat (by omega)
            refine g_iconst (pc := 15) (x := 5) hK dd_X12_fits_15 (by decide) ?_
            refine g_icmp_ge (pc := 16) (tgt := 45) hK dd_X12_fits_16 (by decide) ⟨by omega, by omega⟩ (by decide) (fun c12 => ?_) (fun c12 => ?_)
            · refine g_iloadn (pc := 45) (i := 1) (x := f) hK dd_X12_fits_45 rfl rfl ?_
              refine g_istore (pc := 46) (i := 4) (L' := [(0, gR 200), (1, gI f), (2, gI z), (3, gI pa), (4, gI f)]) hK dd_X12_fits_46 (by decide) rfl ?_
              have lp15 : ∀ (n13 : Nat) (pb : Int) (t : Int), (f ≤ t ∧ t ≤ M 200 3) → (pb = spN (M 249) z 5 - cmN (M 248) z f.toNat (t - f).toNat) → (M 200 3 - t).toNat < n13 → G p l e (rmD 2) s m args below meth c D cy q A 0 0 5 (MQ below (gQc D cy q A Pq) args s 0 0 A) 48 [(0, gR 200), (1, gI f), (2, gI z), (3, gI pb), (4, gI t)] [] M := by
                intro n13
                induction n13 with
                | zero => intro pb t iv16 hpb_ hm17; exact absurd hm17 (Nat.not_lt_zero _)
                | succ n13 ih14 =>
                  intro pb t iv16 hpb_ hm17
                  refine g_iload (pc := 48) (i := 4) (x := t) hK dd_X12_fits_48 rfl ?_
                  have hs5_ := spN_in (z := z) hrm 5 (by omega)
                  have hcn_ := cmN_in (M 248) z f.toNat (t - f).toNat
                  refine g_aloadn (pc := 50) (i := 0) (x := 200) hK dd_X12_fits_50 rfl rfl ?_
                  refine g_geti (pc := 51) (f := (0, 0)) (j := 3) hK (kdm kd_200) rfl ef_12 (by decide) rfl kk_1104 nl_200 dd_X12_fits_51 rfl (fun x18 ex18 rx18 => ?_)
                  refine g_icmp_ge (pc := 54) (tgt := 90) hK dd_X12_fits_54 (by decide) ⟨by omega, by omega⟩ rx18 (fun c19 => ?_) (fun c19 => ?_)
                  · have hco_ : (t - f).toNat = (M 200 3).toNat - f.toNat := by omega
                    rw [hco_] at hpb_ hcn_
                    refine g_iloadn (pc := 90) (i := 3) (x := pb) hK dd_X12_fits_90 rfl rfl ?_
                    refine g_if_ge (pc := 91) (tgt := 96) hK dd_X12_fits_91 (by decide) ⟨by omega, by omega⟩ (fun c20 => ?_) (fun c20 => ?_)
                    · refine g_iinc (pc := 96) (i := 2) (y := z + 1) (L' := [(0, gR 200), (1, gI f), (2, gI (z + 1)), (3, gI pb), (4, gI t)]) hK dd_X12_fits_96 rfl rfl (by decide) rfl ?_
                      refine g_goto (pc := 99) (tgt := 2) hK dd_X12_fits_99 (by decide) ?_
                      refine g_sub (L' := [(0, gR 200), (1, gI f), (2, gI (z + 1))]) [0, 1, 2] rfl ?_
                      exact ih2 (z + 1) (by omega) (fun w hw => by
                        by_cases e : w = z.toNat
                        · subst e; rw [show ((z.toNat : Nat) : Int) = z by omega]; omega
                        · exact hall_ w (by omega)) (by omega)
                    · refine g_iconst (pc := 94) (x := 0) hK dd_X12_fits_94 (by decide) ?_
                      refine g_iret (pc := 95) hK hr hlocks dd_X12_fits_95 rfl ?_
                      exact g_finM (hF (by first | exact fun w_ hw_ => hall_ w_ (by omega) | (intro hP_; have q_ := hP_ z.toNat (by omega); rw [show ((z.toNat : Nat) : Int) = z by omega] at q_; omega))) (by first | rfl | (subst_vars; rfl))
                  · refine g_aloadn (pc := 57) (i := 0) (x := 200) hK dd_X12_fits_57 rfl rfl ?_
                    refine g_getv (pc := 58) (f := (1, 48)) (j := 47) (v := gR 248) hK (kdm kd_200) rfl ef_12 (by decide) rfl kk_1148 dd_X12_fits_58 rfl ?_
                    refine g_iload (pc := 61) (i := 4) (x := t) hK dd_X12_fits_61 rfl ?_
                    refine g_iald (pc := 63) hK (kdm kd_248) nl_248 (by decide) dd_X12_fits_63 (by omega) (by omega) (fun x21 ex21 rx21 => ?_)
                    refine g_if_lt (pc := 64) (tgt := 84) hK dd_X12_fits_64 (by decide) rx21 (fun c22 => ?_) (fun c22 => ?_)
                    · refine g_iinc (pc := 84) (i := 4) (y := t + 1) (L' := [(0, gR 200), (1, gI f), (2, gI z), (3, gI pb), (4, gI (t + 1))]) hK dd_X12_fits_84 rfl rfl (by decide) rfl ?_
                      refine g_goto (pc := 87) (tgt := 48) hK dd_X12_fits_87 (by decide) ?_
                      refine g_sub (L' := [(0, gR 200), (1, gI f), (2, gI z), (3, gI pb), (4, gI (t + 1))]) [0, 1, 2, 3, 4] rfl ?_
                      exact ih14 pb (t + 1) (by omega) (by rw [show (t + 1 - f).toNat = (t - f).toNat + 1 by omega]; simp only [cmN]; rw [show f.toNat + (t - f).toNat = t.toNat by omega]; first | (rw [if_pos ⟨by omega, by subst_vars; omega⟩]; omega) | (rw [if_neg (fun z_ => by subst_vars; omega)]; omega)) (by omega)
                    · refine g_aloadn (pc := 67) (i := 0) (x := 200) hK dd_X12_fits_67 rfl rfl ?_
                      refine g_getv (pc := 68) (f := (1, 48)) (j := 47) (v := gR 248) hK (kdm kd_200) rfl ef_12 (by decide) rfl kk_1148 dd_X12_fits_68 rfl ?_
                      refine g_iload (pc := 71) (i := 4) (x := t) hK dd_X12_fits_71 rfl ?_
                      refine g_iald (pc := 73) hK (kdm kd_248) nl_248 (by decide) dd_X12_fits_73 (by omega) (by omega) (fun x23 ex23 rx23 => ?_)
                      refine g_iloadn (pc := 74) (i := 2) (x := z) hK dd_X12_fits_74 rfl rfl ?_
                      refine g_iconst (pc := 75) (x := (-1)) hK dd_X12_fits_75 (by decide) ?_
                      refine g_ixor (pc := 76) (z := jxor z (-1)) hK dd_X12_fits_76 rfl ?_
                      refine g_iand (pc := 77) (z := jand x23 (jxor z (-1))) hK dd_X12_fits_77 rfl ?_
                      refine g_if_ne (pc := 78) (tgt := 84) hK dd_X12_fits_78 (by decide) (jand_in _ _) (fun c24 => ?_) (fun c24 => ?_)
                      · refine g_iinc (pc := 84) (i := 4) (y := t + 1) (L' := [(0, gR 200), (1, gI f), (2, gI z), (3, gI pb), (4, gI (t + 1))]) hK dd_X12_fits_84 rfl rfl (by decide) rfl ?_
                        refine g_goto (pc := 87) (tgt := 48) hK dd_X12_fits_87 (by decide) ?_
                        refine g_sub (L' := [(0, gR 200), (1, gI f), (2, gI z), (3, gI pb), (4, gI (t + 1))]) [0, 1, 2, 3, 4] rfl ?_
                        exact ih14 pb (t + 1) (by omega) (by rw [show (t + 1 - f).toNat = (t - f).toNat + 1 by omega]; simp only [cmN]; rw [show f.toNat + (t - f).toNat = t.toNat by omega]; first | (rw [if_pos ⟨by omega, by subst_vars; omega⟩]; omega) | (rw [if_neg (fun z_ => by subst_vars; omega)]; omega)) (by omega)
                      · refine g_iinc (pc := 81) (i := 3) (y := pb - 1) (L' := [(0, gR 200), (1, gI f), (2, gI z), (3, gI (pb - 1)), (4, gI t)]) hK dd_X12_fits_81 rfl (by omega) (by decide) rfl ?_
                        refine g_iinc (pc := 84) (i := 4) (y := t + 1) (L' := [(0, gR 200), (1, gI f), (2, gI z), (3, gI (pb - 1)), (4, gI (t + 1))]) hK dd_X12_fits_84 rfl rfl (by decide) rfl ?_
                        refine g_goto (pc := 87) (tgt := 48) hK dd_X12_fits_87 (by decide) ?_
                        refine g_sub (L' := [(0, gR 200), (1, gI f), (2, gI z), (3, gI (pb - 1)), (4, gI (t + 1))]) [0, 1, 2, 3, 4] rfl ?_
                        exact ih14 (pb - 1) (t + 1) (by omega) (by rw [show (t + 1 - f).toNat = (t - f).toNat + 1 by omega]; simp only [cmN]; rw [show f.toNat + (t - f).toNat = t.toNat by omega]; first | (rw [if_pos ⟨by omega, by subst_vars; omega⟩]; omega) | (rw [if_neg (fun z_ => by subst_vars; omega)]; omega)) (by omega)
              refine g_sub (L' := [(0, gR 200), (1, gI f), (2, gI z), (3, gI pa), (4, gI f)]) [0, 1, 2, 3, 4] rfl ?_
              exact lp15 _ pa f (by omega) (by rw [hpa_, show k.toNat = 5 by omega, show (f - f).toNat = 0 by omega]; simp only [cmN]; omega) (Nat.lt_succ_self _)
            · refine g_aloadn (pc := 19) (i := 0) (x := 200) hK dd_X12_fits_19 rfl rfl ?_
              refine g_iloadn (pc := 20) (i := 2) (x := z) hK dd_X12_fits_20 rfl rfl ?_
              refine g_iload (pc := 21) (i := 4) (x := k) hK dd_X12_fits_21 rfl ?_
              refine g_callV (pc := 23) (As := [gI z, gI k]) hK ws_M_181 md_X12_isOf ⟨Nat.zero_le _, Nat.zero_le _⟩ ⟨by decide, by decide⟩ (kdm kd_200) rfl rfl dd_X12_fits_23 rfl rfl (Nat.le_of_ble_eq_true rfl) (d_isOf z k (fun c25 => g_r1 ?_) (fun c25 => g_r1 ?_))
              · refine g_if_eq (pc := 26) (tgt := 39) hK dd_X12_fits_26 (by decide) (by decide) (fun c26 => absurd c26 (by decide)) (fun _ => ?_)
                have hs1_ := hrm k.toNat (by omega)
                refine g_iloadn (pc := 29) (i := 3) (x := pa) hK dd_X12_fits_29 rfl rfl ?_
                refine g_aloadn (pc := 30) (i := 0) (x := 200) hK dd_X12_fits_30 rfl rfl ?_
                refine g_getv (pc := 31) (f := (1, 49)) (j := 48) (v := gR 249) hK (kdm kd_200) rfl ef_12 (by decide) rfl kk_1149 dd_X12_fits_31 rfl ?_
                refine g_iload (pc := 34) (i := 4) (x := k) hK dd_X12_fits_34 rfl ?_
                refine g_iald (pc := 36) hK (kdm kd_249) nl_249 (by decide) dd_X12_fits_36 (by omega) (by omega) (fun x27 ex27 rx27 => ?_)
                refine g_iadd (pc := 37) (z := pa + x27) hK dd_X12_fits_37 rfl ?_
                refine g_istoren (pc := 38) (i := 3) (L' := [(0, gR 200), (1, gI f), (2, gI z), (3, gI (pa + x27)), (4, gI k)]) hK dd_X12_fits_38 rfl (by decide) rfl ?_
                refine g_iinc (pc := 39) (i := 4) (y := k + 1) (L' := [(0, gR 200), (1, gI f), (2, gI z), (3, gI (pa + x27)), (4, gI (k + 1))]) hK dd_X12_fits_39 rfl rfl (by decide) rfl ?_
                refine g_goto (pc := 42) (tgt := 13) hK dd_X12_fits_42 (by decide) ?_
                refine g_sub (L' := [(0, gR 200), (1, gI f), (2, gI z), (3, gI (pa + x27)), (4, gI (k + 1))]) [0, 1, 2, 3, 4] rfl ?_
                exact ih8 (pa + x27) (k + 1) (by omega) (by rw [tn1 (by omega)]; simp only [spN]; rw [show ((k.toNat : Nat) : Int) = k by omega]; first | (rw [if_pos (by assumption)]; omega) | (rw [if_neg (by assumption)]; omega)) (by omega)
              · refine g_if_eq (pc := 26) (tgt := 39) hK dd_X12_fits_26 (by decide) (by decide) (fun _ => ?_) (fun c28 => absurd (by decide) c28)
                refine g_iinc (pc := 39) (i := 4) (y := k + 1) (L' := [(0, gR 200), (1, gI f), (2, gI z), (3, gI pa), (4, gI (k + 1))]) hK dd_X12_fits_39 rfl rfl (by decide) rfl ?_
                refine g_goto (pc := 42) (tgt := 13) hK dd_X12_fits_42 (by decide) ?_
                refine g_sub (L' := [(0, gR 200), (1, gI f), (2, gI z), (3, gI pa), (4, gI (k + 1))]) [0, 1, 2, 3, 4] rfl ?_
                exact ih8 pa (k + 1) (by omega) (by rw [tn1 (by omega)]; simp only [spN]; rw [show ((k.toNat : Nat) : Int) = k by omega]; first | (rw [if_pos (by assumption)]; omega) | (rw [if_neg (by assumption)]; omega)) (by omega)
        refine g_sub (L' := [(0, gR 200), (1, gI f), (2, gI z), (3, gI 0), (4, gI 0)]) [0, 1, 2, 3, 4] rfl ?_
        exact lp9 _ 0 0 (by omega) (rfl) (Nat.lt_succ_self _)
  refine g_sub (L' := [(0, gR 200), (1, gI f), (2, gI 0)]) [0, 1, 2] rfl ?_
  exact lp3 _ 0 (by omega) (fun w hw => absurd hw (Nat.not_lt_zero _)) (Nat.lt_succ_self _)
set_option maxHeartbeats 4000000 in
set_option maxRecDepth 100000 in
theorem y_laid {l : Launch} {M : Mem} {Pq : Option gV → Mem → Prop} (r : Int) (t : Int) (h_r : inI r) (h_t : inI t) (hrg : rgOK M) (hmc : 0 ≤ M 200 3 ∧ M 200 3 ≤ 30) (hmec : 0 ≤ M 200 31 ∧ M 200 31 ≤ 10) (hsem : ∀ j : Nat, j < 10 → (j : Int) < M 200 31 → (0 ≤ M 233 j ∧ M 233 j < M 200 3) ∧ 0 ≤ M 234 j ∧ M 234 j ≤ 15) (hB : (¬ ((1 ≤ r ∧ r ≤ 10) ∧ 0 ≤ t ∧ t < M 200 3)) → Pq (some (gI (-2))) (rg M 2)) (hS : ∀ (G1 : Nat → Int) (G2 : Nat → Int), (((1 ≤ r ∧ r ≤ 10) ∧ 0 ≤ t ∧ t < M 200 3) ∧ ¬ cLm (puA (fun _ => r) (M 249) 5) (maS (M 233) (M 234) (M 235) (puA (fun _ => -1) (M 248) (M 200 3).toNat) (M 200 31).toNat) 0 (M 200 3).toNat) → Pq (some (gI (-5))) (rg (sr (sr M 248 G1) 249 G2) 5)) (hN : ∀ (G1 : Nat → Int) (G2 : Nat → Int), (((1 ≤ r ∧ r ≤ 10) ∧ 0 ≤ t ∧ t < M 200 3) ∧ cLm (puA (fun _ => r) (M 249) 5) (maS (M 233) (M 234) (M 235) (puA (fun _ => -1) (M 248) (M 200 3).toNat) (M 200 31).toNat) 0 (M 200 3).toNat ∧ (maS (M 233) (M 234) (M 235) (puA (fun _ => -1) (M 248) (M 200 3).toNat) (M 200 31).toNat) t.toNat < 0) → Pq (some (gI (-1))) (sr (sr M 248 G1) 249 G2)) (hY : ∀ (G1 : Nat → Int) (G2 : Nat → Int), (((1 ≤ r ∧ r ≤ 10) ∧ 0 ≤ t ∧ t < M 200 3) ∧ cLm (puA (fun _ => r) (M 249) 5) (maS (M 233) (M 234) (M 235) (puA (fun _ => -1) (M 248) (M 200 3).toNat) (M 200 31).toNat) 0 (M 200 3).toNat ∧ ¬ (maS (M 233) (M 234) (M 235) (puA (fun _ => -1) (M 248) (M 200 3).toNat) (M 200 31).toNat) t.toNat < 0) → Pq (some (gI ((frR (laR (maS (M 233) (M 234) (M 235) (puA (fun _ => -1) (M 248) (M 200 3).toNat) (M 200 31).toNat) (M 200 3).toNat (puA (fun _ => r) (M 249) 5) t.toNat) (maS (M 233) (M 234) (M 235) (puA (fun _ => -1) (M 248) (M 200 3).toNat) (M 200 31).toNat) t.toNat (M 200 3).toNat 5 0).1))) (sr (sr M 248 G1) 249 G2)) : gCtr l my_X12_laid mb_X12_laid 6 ((some .int)) 3 [gR 200, gI r, gI t] M Pq := by
  refine g_intro (by decide) (Nat.le_of_ble_eq_true rfl) ?_
  intro p e s m args below meth c D cy q A hK hr hlocks hw
  refine g_sub (L' := [(0, gR 200), (1, gI r), (2, gI t)]) [0, 1, 2] rfl ?_
  refine g_iloadn (pc := 0) (i := 1) (x := r) hK dd_X12_laid_0 rfl rfl ?_
  refine g_iconst (pc := 1) (x := 1) hK dd_X12_laid_1 (by decide) ?_
  refine g_icmp_lt (pc := 2) (tgt := 19) hK dd_X12_laid_2 (by decide) h_r (by decide) (fun c1 => ?_) (fun c1 => ?_)
  · refine g_aloadn (pc := 19) (i := 0) (x := 200) hK dd_X12_laid_19 rfl rfl ?_
    refine g_bipush (pc := 20) (x := (-2)) hK dd_X12_laid_20 (by decide) ?_
    refine g_callV (pc := 22) (As := [gI (-2)]) hK ws_M_152 md_X12_no ⟨Nat.zero_le _, Nat.zero_le _⟩ ⟨by decide, by decide⟩ (kdm kd_200) rfl rfl dd_X12_laid_22 rfl rfl (Nat.le_of_ble_eq_true rfl) (d_no_2 hrg (g_r1 ?_))
    refine g_iret (pc := 25) hK hr hlocks dd_X12_laid_25 rfl ?_
    first | exact g_fin (hB (by first | omega | (subst_vars; omega) | exact ⟨by first | assumption | omega | (subst_vars; first | assumption | omega), by first | assumption | omega | (subst_vars; first | assumption | omega)⟩)) (by first | rfl | omega | (subst_vars; first | rfl | omega)) (by first | rfl | (subst_vars; rfl)) | exact g_fin (hY (rg M 2 248) (rg M 2 249) (by exact ⟨by omega, hly_, hmt_⟩)) (by rw [hfe2_]) (by first | rfl | (simp (disch := decide) only [Int.reduceToNat, up_sr, sr_cp, sr_k, sr_o, sr_sr, us_us, @sr_lt _ 249 248 _ _ (by decide)]; try rfl)) | (exfalso; omega)
  · refine g_iloadn (pc := 5) (i := 1) (x := r) hK dd_X12_laid_5 rfl rfl ?_
    refine g_bipush (pc := 6) (x := 10) hK dd_X12_laid_6 (by decide) ?_
    refine g_icmp_gt (pc := 8) (tgt := 19) hK dd_X12_laid_8 (by decide) h_r (by decide) (fun c2 => ?_) (fun c2 => ?_)
    · refine g_aloadn (pc := 19) (i := 0) (x := 200) hK dd_X12_laid_19 rfl rfl ?_
      refine g_bipush (pc := 20) (x := (-2)) hK dd_X12_laid_20 (by decide) ?_
      refine g_callV (pc := 22) (As := [gI (-2)]) hK ws_M_152 md_X12_no ⟨Nat.zero_le _, Nat.zero_le _⟩ ⟨by decide, by decide⟩ (kdm kd_200) rfl rfl dd_X12_laid_22 rfl rfl (Nat.le_of_ble_eq_true rfl) (d_no_2 hrg (g_r1 ?_))
      refine g_iret (pc := 25) hK hr hlocks dd_X12_laid_25 rfl ?_
      first | exact g_fin (hB (by first | omega | (subst_vars; omega) | exact ⟨by first | assumption | omega | (subst_vars; first | assumption | omega), by first | assumption | omega | (subst_vars; first | assumption | omega)⟩)) (by first | rfl | omega | (subst_vars; first | rfl | omega)) (by first | rfl | (subst_vars; rfl)) | exact g_fin (hY (rg M 2 248) (rg M 2 249) (by exact ⟨by omega, hly_, hmt_⟩)) (by rw [hfe2_]) (by first | rfl | (simp (disch := decide) only [Int.reduceToNat, up_sr, sr_cp, sr_k, sr_o, sr_sr, us_us, @sr_lt _ 249 248 _ _ (by decide)]; try rfl)) | (exfalso; omega)
    · refine g_aloadn (pc := 11) (i := 0) (x := 200) hK dd_X12_laid_11 rfl rfl ?_
      refine g_iloadn (pc := 12) (i := 2) (x := t) hK dd_X12_laid_12 rfl rfl ?_
      refine g_callV (pc := 13) (As := [gI t]) hK ws_M_165 md_X12_isThing ⟨Nat.zero_le _, Nat.zero_le _⟩ ⟨by decide, by decide⟩ (kdm kd_200) rfl rfl dd_X12_laid_13 rfl rfl (Nat.le_of_ble_eq_true rfl) (d_isThing t h_t (fun c3 => g_r1 ?_) (fun c3 => g_r1 ?_))
      · refine g_if_ne (pc := 16) (tgt := 26) hK dd_X12_laid_16 (by decide) (by decide) (fun _ => ?_) (fun c4 => absurd (by decide) c4)
        refine g_iconst (pc := 26) (x := 0) hK dd_X12_laid_26 (by decide) ?_
        refine g_istoren (pc := 27) (i := 3) (L' := [(0, gR 200), (1, gI r), (2, gI t), (3, gI 0)]) hK dd_X12_laid_27 rfl (by decide) rfl ?_
        have lp7 : ∀ (n5 : Nat) (a : Int), (0 ≤ a ∧ a ≤ M 200 3) → (M 200 3 - a).toNat < n5 → G p l e (rmD 3) s m args below meth c D cy q A 0 0 6 (MQ below (gQc D cy q A Pq) args s 0 0 A) 28 [(0, gR 200), (1, gI r), (2, gI t), (3, gI a)] [] (sr M 248 (puA (fun _ => -1) (M 248) a.toNat)) := by
          intro n5
          induction n5 with
          | zero => intro a iv8 hm9; exact absurd hm9 (Nat.not_lt_zero _)
          | succ n5 ih6 =>
            intro a iv8 hm9
            refine g_iloadn (pc := 28) (i := 3) (x := a) hK dd_X12_laid_28 rfl rfl ?_
            refine g_aloadn (pc := 29) (i := 0) (x := 200) hK dd_X12_laid_29 rfl rfl ?_
            refine g_geti (pc := 30) (f := (0, 0)) (j := 3) hK (kdm kd_200) rfl ef_12 (by decide) rfl kk_1104 nl_200 dd_X12_laid_30 rfl (fun x10 ex10 rx10 => ?_)
            replace ex10 : x10 = M 200 3 := ex10
            refine g_icmp_ge (pc := 33) (tgt := 49) hK dd_X12_laid_33 (by decide) ⟨by omega, by omega⟩ rx10 (fun c11 => ?_) (fun c11 => ?_)
            · refine g_iconst (pc := 49) (x := 0) hK dd_X12_laid_49 (by decide) ?_
              refine g_istoren (pc := 50) (i := 3) (L' := [(0, gR 200), (1, gI r), (2, gI t), (3, gI 0)]) hK dd_X12_laid_50 rfl (by decide) rfl ?_
              have lp14 : ∀ (n12 : Nat) (k : Int), (0 ≤ k ∧ k ≤ M 200 31) → (M 200 31 - k).toNat < n12 → G p l e (rmD 3) s m args below meth c D cy q A 0 0 6 (MQ below (gQc D cy q A Pq) args s 0 0 A) 51 [(0, gR 200), (1, gI r), (2, gI t), (3, gI k)] [] (sr M 248 (maS (M 233) (M 234) (M 235) (puA (fun _ => -1) (M 248) (M 200 3).toNat) k.toNat)) := by
                intro n12
                induction n12 with
                | zero => intro k iv15 hm16; exact absurd hm16 (Nat.not_lt_zero _)
                | succ n12 ih13 =>
                  intro k iv15 hm16
                  refine g_iloadn (pc := 51) (i := 3) (x := k) hK dd_X12_laid_51 rfl rfl ?_
                  refine g_aloadn (pc := 52) (i := 0) (x := 200) hK dd_X12_laid_52 rfl rfl ?_
                  refine g_geti (pc := 53) (f := (0, 0)) (j := 31) hK (kdm kd_200) rfl ef_12 (by decide) rfl kk_1132 nl_200 dd_X12_laid_53 rfl (fun x17 ex17 rx17 => ?_)
                  replace ex17 : x17 = M 200 31 := ex17
                  refine g_icmp_ge (pc := 56) (tgt := 115) hK dd_X12_laid_56 (by decide) ⟨by omega, by omega⟩ rx17 (fun c18 => ?_) (fun c18 => ?_)
                  · refine g_iconst (pc := 115) (x := 0) hK dd_X12_laid_115 (by decide) ?_
                    refine g_istoren (pc := 116) (i := 3) (L' := [(0, gR 200), (1, gI r), (2, gI t), (3, gI 0)]) hK dd_X12_laid_116 rfl (by decide) rfl ?_
                    have lp21 : ∀ (n19 : Nat) (k : Int), (0 ≤ k ∧ k ≤ 5) → (5 - k).toNat < n19 → G p l e (rmD 3) s m args below meth c D cy q A 0 0 6 (MQ below (gQc D cy q A Pq) args s 0 0 A) 117 [(0, gR 200), (1, gI r), (2, gI t), (3, gI k)] [] (sr (sr M 248 (maS (M 233) (M 234) (M 235) (puA (fun _ => -1) (M 248) (M 200 3).toNat) (M 200 31).toNat)) 249 (puA (fun _ => r) (M 249) k.toNat)) := by
                      intro n19
                      induction n19 with
                      | zero => intro k iv22 hm23; exact absurd hm23 (Nat.not_lt_zero _)
                      | succ n19 ih20 =>
                        intro k iv22 hm23
                        refine g_iloadn (pc := 117) (i := 3) (x := k) hK dd_X12_laid_117 rfl rfl ?_
                        refine g_iconst (pc := 118) (x := 5) hK dd_X12_laid_118 (by decide) ?_
                        refine g_icmp_ge (pc := 119) (tgt := 135) hK dd_X12_laid_119 (by decide) ⟨by omega, by omega⟩ (by decide) (fun c24 => ?_) (fun c24 => ?_)
                        · rw [show k.toNat = 5 by omega]
                          skip
                          have hrm_ : ∀ j : Nat, j < 5 → 0 ≤ (puA (fun _ => r) (M 249) 5) j ∧ (puA (fun _ => r) (M 249) 5) j ≤ 10 := fun j hj => by unfold puA; rw [if_pos hj]; exact ⟨by show 0 ≤ r; omega, by show r ≤ 10; omega⟩
                          refine g_aloadn (pc := 135) (i := 0) (x := 200) hK dd_X12_laid_135 rfl rfl ?_
                          refine g_iconst (pc := 136) (x := 0) hK dd_X12_laid_136 (by decide) ?_
                          refine g_callV (pc := 137) (As := [gI 0]) hK ws_M_291 md_X12_fits ⟨Nat.zero_le _, Nat.zero_le _⟩ ⟨by decide, by decide⟩ (kdm kd_200) rfl rfl dd_X12_laid_137 rfl rfl (Nat.le_of_ble_eq_true rfl) (d_fits0 hmc hrm_ (fun c25 => g_r1 ?_) (fun c25 => g_r1 ?_))
                          · replace c25 : cLm ((puA (fun _ => r) (M 249) 5)) ((maS (M 233) (M 234) (M 235) (puA (fun _ => -1) (M 248) (M 200 3).toNat) (M 200 31).toNat)) 0 (M 200 3).toNat := c25
                            refine g_if_ne (pc := 140) (tgt := 150) hK dd_X12_laid_140 (by decide) (by decide) (fun _ => ?_) (fun c26 => absurd (by decide) c26)
                            have hly_ : cLm (puA (fun _ => r) (M 249) 5) (maS (M 233) (M 234) (M 235) (puA (fun _ => -1) (M 248) (M 200 3).toNat) (M 200 31).toNat) 0 (M 200 3).toNat := c25
                            refine g_iconst (pc := 150) (x := 0) hK dd_X12_laid_150 (by decide) ?_
                            refine g_istoren (pc := 151) (i := 3) (L' := [(0, gR 200), (1, gI r), (2, gI t), (3, gI 0)]) hK dd_X12_laid_151 rfl (by decide) rfl ?_
                            have lp29 : ∀ (n27 : Nat) (u : Int), (0 ≤ u ∧ u ≤ M 200 3) → (u ≤ t ∨ (maS (M 233) (M 234) (M 235) (puA (fun _ => -1) (M 248) (M 200 3).toNat) (M 200 31).toNat) t.toNat < 0) → (M 200 3 - u).toNat < n27 → G p l e (rmD 3) s m args below meth c D cy q A 0 0 6 (MQ below (gQc D cy q A Pq) args s 0 0 A) 152 [(0, gR 200), (1, gI r), (2, gI t), (3, gI u)] [] (sr (sr M 248 (maS (M 233) (M 234) (M 235) (puA (fun _ => -1) (M 248) (M 200 3).toNat) (M 200 31).toNat)) 249 (laR (maS (M 233) (M 234) (M 235) (puA (fun _ => -1) (M 248) (M 200 3).toNat) (M 200 31).toNat) (M 200 3).toNat (puA (fun _ => r) (M 249) 5) u.toNat)) := by
                              intro n27
                              induction n27 with
                              | zero => intro u iv30 hut_ hm31; exact absurd hm31 (Nat.not_lt_zero _)
                              | succ n27 ih28 =>
                                intro u iv30 hut_ hm31
                                refine g_iloadn (pc := 152) (i := 3) (x := u) hK dd_X12_laid_152 rfl rfl ?_
                                refine g_aloadn (pc := 153) (i := 0) (x := 200) hK dd_X12_laid_153 rfl rfl ?_
                                refine g_geti (pc := 154) (f := (0, 0)) (j := 3) hK (kdm kd_200) rfl ef_12 (by decide) rfl kk_1104 nl_200 dd_X12_laid_154 rfl (fun x32 ex32 rx32 => ?_)
                                replace ex32 : x32 = M 200 3 := ex32
                                refine g_icmp_ge (pc := 157) (tgt := 276) hK dd_X12_laid_157 (by decide) ⟨by omega, by omega⟩ rx32 (fun c33 => ?_) (fun c33 => ?_)
                                · have hmt_ := hut_.resolve_left (by omega)
                                  refine g_iconst (pc := 276) (x := (-1)) hK dd_X12_laid_276 (by decide) ?_
                                  refine g_iret (pc := 277) hK hr hlocks dd_X12_laid_277 rfl ?_
                                  exact g_fin (hN (maS (M 233) (M 234) (M 235) (puA (fun _ => -1) (M 248) (M 200 3).toNat) (M 200 31).toNat) (laR (maS (M 233) (M 234) (M 235) (puA (fun _ => -1) (M 248) (M 200 3).toNat) (M 200 31).toNat) (M 200 3).toNat (puA (fun _ => r) (M 249) 5) u.toNat) (by exact ⟨by omega, hly_, hmt_⟩)) (by first | rfl | omega | (subst_vars; first | rfl | omega)) (by first | rfl | (simp (disch := decide) only [Int.reduceToNat, up_sr, sr_cp, sr_k, sr_o, sr_sr, us_us, @sr_lt _ 249 248 _ _ (by decide)]; try rfl))
                                · refine g_aloadn (pc := 160) (i := 0) (x := 200) hK dd_X12_laid_160 rfl rfl ?_
                                  refine g_getv (pc := 161) (f := (1, 48)) (j := 47) (v := gR 248) hK (kdm kd_200) rfl ef_12 (by decide) rfl kk_1148 dd_X12_laid_161 rfl ?_
                                  refine g_iloadn (pc := 164) (i := 3) (x := u) hK dd_X12_laid_164 rfl rfl ?_
                                  refine g_iald (pc := 165) hK (kdm kd_248) nl_248 (by decide) dd_X12_laid_165 (by omega) (by omega) (fun x34 ex34 rx34 => ?_)
                                  replace ex34 : x34 = (maS (M 233) (M 234) (M 235) (puA (fun _ => -1) (M 248) (M 200 3).toNat) (M 200 31).toNat) u.toNat := by first | exact ex34 | (rw [ex34]; simp [up, us, cp, sr])
                                  refine g_if_ge (pc := 166) (tgt := 172) hK dd_X12_laid_166 (by decide) rx34 (fun c35 => ?_) (fun c35 => ?_)
                                  · have hmu_ : ¬ (maS (M 233) (M 234) (M 235) (puA (fun _ => -1) (M 248) (M 200 3).toNat) (M 200 31).toNat) u.toNat < 0 := by subst_vars; omega
                                    refine g_iconst (pc := 172) (x := (-1)) hK dd_X12_laid_172 (by decide) ?_
                                    refine g_istore (pc := 173) (i := 4) (L' := [(0, gR 200), (1, gI r), (2, gI t), (3, gI u), (4, gI (-1))]) hK dd_X12_laid_173 (by decide) rfl ?_
                                    refine g_iconst (pc := 175) (x := 0) hK dd_X12_laid_175 (by decide) ?_
                                    refine g_istore (pc := 176) (i := 5) (L' := [(0, gR 200), (1, gI r), (2, gI t), (3, gI u), (4, gI (-1)), (5, gI 0)]) hK dd_X12_laid_176 (by decide) rfl ?_
                                    have lp38 : ∀ (n36 : Nat) (fo : Int) (k : Int) (Gr : Nat → Int), (0 ≤ k ∧ k ≤ 5) → (-1 ≤ fo ∧ fo ≤ 4) → (LZ (laR (maS (M 233) (M 234) (M 235) (puA (fun _ => -1) (M 248) (M 200 3).toNat) (M 200 31).toNat) (M 200 3).toNat (puA (fun _ => r) (M 249) 5) u.toNat) (maS (M 233) (M 234) (M 235) (puA (fun _ => -1) (M 248) (M 200 3).toNat) (M 200 31).toNat) u.toNat (M 200 3).toNat k fo Gr) → (∀ j : Nat, j < 5 → 0 ≤ Gr j ∧ Gr j ≤ 10) → (5 - k).toNat < n36 → G p l e (rmD 3) s m args below meth c D cy q A 0 0 6 (MQ below (gQc D cy q A Pq) args s 0 0 A) 178 [(0, gR 200), (1, gI r), (2, gI t), (3, gI u), (4, gI fo), (5, gI k)] [] (sr (sr M 248 (maS (M 233) (M 234) (M 235) (puA (fun _ => -1) (M 248) (M 200 3).toNat) (M 200 31).toNat)) 249 (Gr)) := by
                                      intro n36
                                      induction n36 with
                                      | zero => intro fo k Gr iv39 iv40 hlz_ hgr_ hm41; exact absurd hm41 (Nat.not_lt_zero _)
                                      | succ n36 ih37 =>
                                        intro fo k Gr iv39 iv40 hlz_ hgr_ hm41
                                        refine g_iload (pc := 178) (i := 5) (x := k) hK dd_X12_laid_178 rfl ?_
                                        refine g_iconst (pc := 180) (x := 5) hK dd_X12_laid_180 (by decide) ?_
                                        refine g_icmp_ge (pc := 181) (tgt := 262) hK dd_X12_laid_181 (by decide) ⟨by omega, by omega⟩ (by decide) (fun c42 => ?_) (fun c42 => ?_)
                                        · have hfe_ : frR (laR (maS (M 233) (M 234) (M 235) (puA (fun _ => -1) (M 248) (M 200 3).toNat) (M 200 31).toNat) (M 200 3).toNat (puA (fun _ => r) (M 249) 5) u.toNat) (maS (M 233) (M 234) (M 235) (puA (fun _ => -1) (M 248) (M 200 3).toNat) (M 200 31).toNat) u.toNat (M 200 3).toNat 5 0 = (fo, Gr) := lz_e hlz_ (by omega)
                                          refine g_iloadn (pc := 262) (i := 3) (x := u) hK dd_X12_laid_262 rfl rfl ?_
                                          refine g_iloadn (pc := 263) (i := 2) (x := t) hK dd_X12_laid_263 rfl rfl ?_
                                          refine g_icmp_ne (pc := 264) (tgt := 270) hK dd_X12_laid_264 (by decide) ⟨by omega, by omega⟩ h_t (fun c43 => ?_) (fun c43 => ?_)
                                          · refine g_iinc (pc := 270) (i := 3) (y := u + 1) (L' := [(0, gR 200), (1, gI r), (2, gI t), (3, gI (u + 1)), (4, gI fo), (5, gI k)]) hK dd_X12_laid_270 rfl rfl (by decide) rfl ?_
                                            refine g_goto (pc := 273) (tgt := 152) hK dd_X12_laid_273 (by decide) ?_
                                            refine g_sub (L' := [(0, gR 200), (1, gI r), (2, gI t), (3, gI (u + 1))]) [0, 1, 2, 3] rfl ?_
                                            refine g_mem (M2 := sr (sr M 248 (maS (M 233) (M 234) (M 235) (puA (fun _ => -1) (M 248) (M 200 3).toNat) (M 200 31).toNat)) 249 (laR (maS (M 233) (M 234) (M 235) (puA (fun _ => -1) (M 248) (M 200 3).toNat) (M 200 31).toNat) (M 200 3).toNat (puA (fun _ => r) (M 249) 5) (u + 1).toNat)) (by rw [tn1 (t := u) (by omega)]; simp only [laR]; first | (rw [if_pos hmu_]; done) | (rw [if_neg hmu_, hfe_])) ?_
                                            exact ih28 (u + 1) (by omega) (by first | exact ut_s hut_ (fun e_ => absurd e_ (by omega)) | exact ut_s hut_ (fun e_ => by rw [← e_]; exact hmu_)) (by omega)
                                          · have e_ : u = t := by omega
                                            have hmt_ : ¬ (maS (M 233) (M 234) (M 235) (puA (fun _ => -1) (M 248) (M 200 3).toNat) (M 200 31).toNat) t.toNat < 0 := by rw [← e_]; exact hmu_
                                            have hfe2_ : frR (laR (maS (M 233) (M 234) (M 235) (puA (fun _ => -1) (M 248) (M 200 3).toNat) (M 200 31).toNat) (M 200 3).toNat (puA (fun _ => r) (M 249) 5) t.toNat) (maS (M 233) (M 234) (M 235) (puA (fun _ => -1) (M 248) (M 200 3).toNat) (M 200 31).toNat) t.toNat (M 200 3).toNat 5 0 = (fo, Gr) := by rw [← e_]; exact hfe_
                                            refine g_iload (pc := 267) (i := 4) (x := fo) hK dd_X12_laid_267 rfl ?_
                                            refine g_iret (pc := 269) hK hr hlocks dd_X12_laid_269 rfl ?_
                                            exact g_fin (hY (maS (M 233) (M 234) (M 235) (puA (fun _ => -1) (M 248) (M 200 3).toNat) (M 200 31).toNat) Gr (by exact ⟨by omega, hly_, hmt_⟩)) (by rw [hfe2_]) (by first | rfl | (simp (disch := decide) only [Int.reduceToNat, up_sr, sr_cp, sr_k, sr_o, sr_sr, us_us, @sr_lt _ 249 248 _ _ (by decide)]; try rfl))
                                        · refine g_iload (pc := 184) (i := 4) (x := fo) hK dd_X12_laid_184 rfl ?_
                                          refine g_if_ge (pc := 186) (tgt := 262) hK dd_X12_laid_186 (by decide) ⟨by omega, by omega⟩ (fun c44 => ?_) (fun c44 => ?_)
                                          · have hfe_ : frR (laR (maS (M 233) (M 234) (M 235) (puA (fun _ => -1) (M 248) (M 200 3).toNat) (M 200 31).toNat) (M 200 3).toNat (puA (fun _ => r) (M 249) 5) u.toNat) (maS (M 233) (M 234) (M 235) (puA (fun _ => -1) (M 248) (M 200 3).toNat) (M 200 31).toNat) u.toNat (M 200 3).toNat 5 0 = (fo, Gr) := lz_e hlz_ (by omega)
                                            refine g_iloadn (pc := 262) (i := 3) (x := u) hK dd_X12_laid_262 rfl rfl ?_
                                            refine g_iloadn (pc := 263) (i := 2) (x := t) hK dd_X12_laid_263 rfl rfl ?_
                                            refine g_icmp_ne (pc := 264) (tgt := 270) hK dd_X12_laid_264 (by decide) ⟨by omega, by omega⟩ h_t (fun c45 => ?_) (fun c45 => ?_)
                                            · refine g_iinc (pc := 270) (i := 3) (y := u + 1) (L' := [(0, gR 200), (1, gI r), (2, gI t), (3, gI (u + 1)), (4, gI fo), (5, gI k)]) hK dd_X12_laid_270 rfl rfl (by decide) rfl ?_
                                              refine g_goto (pc := 273) (tgt := 152) hK dd_X12_laid_273 (by decide) ?_
                                              refine g_sub (L' := [(0, gR 200), (1, gI r), (2, gI t), (3, gI (u + 1))]) [0, 1, 2, 3] rfl ?_
                                              refine g_mem (M2 := sr (sr M 248 (maS (M 233) (M 234) (M 235) (puA (fun _ => -1) (M 248) (M 200 3).toNat) (M 200 31).toNat)) 249 (laR (maS (M 233) (M 234) (M 235) (puA (fun _ => -1) (M 248) (M 200 3).toNat) (M 200 31).toNat) (M 200 3).toNat (puA (fun _ => r) (M 249) 5) (u + 1).toNat)) (by rw [tn1 (t := u) (by omega)]; simp only [laR]; first | (rw [if_pos hmu_]; done) | (rw [if_neg hmu_, hfe_])) ?_
                                              exact ih28 (u + 1) (by omega) (by first | exact ut_s hut_ (fun e_ => absurd e_ (by omega)) | exact ut_s hut_ (fun e_ => by rw [← e_]; exact hmu_)) (by omega)
                                            · have e_ : u = t := by omega
                                              have hmt_ : ¬ (maS (M 233) (M 234) (M 235) (puA (fun _ => -1) (M 248) (M 200 3).toNat) (M 200 31).toNat) t.toNat < 0 := by rw [← e_]; exact hmu_
                                              have hfe2_ : frR (laR (maS (M 233) (M 234) (M 235) (puA (fun _ => -1) (M 248) (M 200 3).toNat) (M 200 31).toNat) (M 200 3).toNat (puA (fun _ => r) (M 249) 5) t.toNat) (maS (M 233) (M 234) (M 235) (puA (fun _ => -1) (M 248) (M 200 3).toNat) (M 200 31).toNat) t.toNat (M 200 3).toNat 5 0 = (fo, Gr) := by rw [← e_]; exact hfe_
                                              refine g_iload (pc := 267) (i := 4) (x := fo) hK dd_X12_laid_267 rfl ?_
                                              refine g_iret (pc := 269) hK hr hlocks dd_X12_laid_269 rfl ?_
                                              exact g_fin (hY (maS (M 233) (M 234) (M 235) (puA (fun _ => -1) (M 248) (M 200 3).toNat) (M 200 31).toNat) Gr (by exact ⟨by omega, hly_, hmt_⟩)) (by rw [hfe2_]) (by first | rfl | (simp (disch := decide) only [Int.reduceToNat, up_sr, sr_cp, sr_k, sr_o, sr_sr, us_us, @sr_lt _ 249 248 _ _ (by decide)]; try rfl))
                                          · refine g_aloadn (pc := 189) (i := 0) (x := 200) hK dd_X12_laid_189 rfl rfl ?_
                                            refine g_aloadn (pc := 190) (i := 0) (x := 200) hK dd_X12_laid_190 rfl rfl ?_
                                            refine g_getv (pc := 191) (f := (1, 48)) (j := 47) (v := gR 248) hK (kdm kd_200) rfl ef_12 (by decide) rfl kk_1148 dd_X12_laid_191 rfl ?_
                                            refine g_iloadn (pc := 194) (i := 3) (x := u) hK dd_X12_laid_194 rfl rfl ?_
                                            refine g_iald (pc := 195) hK (kdm kd_248) nl_248 (by decide) dd_X12_laid_195 (by omega) (by omega) (fun x46 ex46 rx46 => ?_)
                                            replace ex46 : x46 = (maS (M 233) (M 234) (M 235) (puA (fun _ => -1) (M 248) (M 200 3).toNat) (M 200 31).toNat) u.toNat := by first | exact ex46 | (rw [ex46]; simp [up, us, cp, sr])
                                            refine g_iload (pc := 196) (i := 5) (x := k) hK dd_X12_laid_196 rfl ?_
                                            refine g_callV (pc := 198) (As := [gI x46, gI k]) hK ws_M_181 md_X12_isOf ⟨Nat.zero_le _, Nat.zero_le _⟩ ⟨by decide, by decide⟩ (kdm kd_200) rfl rfl dd_X12_laid_198 rfl rfl (Nat.le_of_ble_eq_true rfl) (d_isOf x46 k (fun c47 => g_r1 ?_) (fun c47 => g_r1 ?_))
                                            · replace c47 : hb x46 k := c47
                                              refine g_if_eq (pc := 201) (tgt := 256) hK dd_X12_laid_201 (by decide) (by decide) (fun c48 => absurd c48 (by decide)) (fun _ => ?_)
                                              have hbk_ : hb ((maS (M 233) (M 234) (M 235) (puA (fun _ => -1) (M 248) (M 200 3).toNat) (M 200 31).toNat) u.toNat) k := by subst_vars; exact c47
                                              refine g_aloadn (pc := 204) (i := 0) (x := 200) hK dd_X12_laid_204 rfl rfl ?_
                                              refine g_getv (pc := 205) (f := (1, 49)) (j := 48) (v := gR 249) hK (kdm kd_200) rfl ef_12 (by decide) rfl kk_1149 dd_X12_laid_205 rfl ?_
                                              refine g_iload (pc := 208) (i := 5) (x := k) hK dd_X12_laid_208 rfl ?_
                                              refine g_iald (pc := 210) hK (kdm kd_249) nl_249 (by decide) dd_X12_laid_210 (by omega) (by omega) (fun x49 ex49 rx49 => ?_)
                                              replace ex49 : x49 = Gr k.toNat := by first | exact ex49 | (rw [ex49]; simp [up, us, cp, sr])
                                              refine g_if_ne (pc := 211) (tgt := 217) hK dd_X12_laid_211 (by decide) rx49 (fun c50 => ?_) (fun c50 => ?_)
                                              · refine g_aloadn (pc := 217) (i := 0) (x := 200) hK dd_X12_laid_217 rfl rfl ?_
                                                refine g_getv (pc := 218) (f := (1, 49)) (j := 48) (v := gR 249) hK (kdm kd_200) rfl ef_12 (by decide) rfl kk_1149 dd_X12_laid_218 rfl ?_
                                                refine g_iload (pc := 221) (i := 5) (x := k) hK dd_X12_laid_221 rfl ?_
                                                refine g_dup2 (pc := 223) hK dd_X12_laid_223 rfl rfl ?_
                                                have hgk_ := hgr_ k.toNat (by omega)
                                                refine g_iald (pc := 224) hK (kdm kd_249) nl_249 (by decide) dd_X12_laid_224 (by omega) (by omega) (fun x51 ex51 rx51 => ?_)
                                                replace ex51 : x51 = Gr k.toNat := by first | exact ex51 | (rw [ex51]; simp [up, us, cp, sr])
                                                refine g_iconst (pc := 225) (x := 1) hK dd_X12_laid_225 (by decide) ?_
                                                refine g_isub (pc := 226) (z := x51 - 1) hK dd_X12_laid_226 rfl ?_
                                                refine g_iast (pc := 227) hK (kdm kd_249) nl_249 (by decide) (by decide) dd_X12_laid_227 (by omega) (by omega) ⟨by omega, by omega⟩ ?_
                                                refine g_mem (M2 := sr (sr M 248 (maS (M 233) (M 234) (M 235) (puA (fun _ => -1) (M 248) (M 200 3).toNat) (M 200 31).toNat)) 249 (us Gr k.toNat (Gr k.toNat - 1))) (by subst_vars; simp (disch := decide) only [Int.reduceToNat, up_sr, sr_cp, sr_k, sr_o, sr_sr, us_us, @sr_lt _ 249 248 _ _ (by decide)]; try rfl) ?_
                                                have hgr2_ : ∀ j : Nat, j < 5 → 0 ≤ (us Gr k.toNat (Gr k.toNat - 1)) j ∧ (us Gr k.toNat (Gr k.toNat - 1)) j ≤ 10 := us_rng hgr_ (by omega)
                                                refine g_aloadn (pc := 228) (i := 0) (x := 200) hK dd_X12_laid_228 rfl rfl ?_
                                                refine g_iloadn (pc := 229) (i := 3) (x := u) hK dd_X12_laid_229 rfl rfl ?_
                                                refine g_iconst (pc := 230) (x := 1) hK dd_X12_laid_230 (by decide) ?_
                                                refine g_iadd (pc := 231) (z := u + 1) hK dd_X12_laid_231 rfl ?_
                                                refine g_callV (pc := 232) (As := [gI (u + 1)]) hK ws_M_291 md_X12_fits ⟨Nat.zero_le _, Nat.zero_le _⟩ ⟨by decide, by decide⟩ (kdm kd_200) rfl rfl dd_X12_laid_232 rfl rfl (Nat.le_of_ble_eq_true rfl) (d_fits (u + 1) (show 0 ≤ u + 1 ∧ u + 1 ≤ M 200 3 by omega) hmc hgr2_ (fun c52 => g_r1 ?_) (fun c52 => g_r1 ?_))
                                                · replace c52 : cLm ((us Gr k.toNat (Gr k.toNat - 1))) ((maS (M 233) (M 234) (M 235) (puA (fun _ => -1) (M 248) (M 200 3).toNat) (M 200 31).toNat)) (u + 1).toNat (M 200 3).toNat := c52
                                                  refine g_if_eq (pc := 235) (tgt := 245) hK dd_X12_laid_235 (by decide) (by decide) (fun c53 => absurd c53 (by decide)) (fun _ => ?_)
                                                  have hft_ : cLm (us Gr k.toNat (Gr k.toNat - 1)) (maS (M 233) (M 234) (M 235) (puA (fun _ => -1) (M 248) (M 200 3).toNat) (M 200 31).toNat) (u.toNat + 1) (M 200 3).toNat := by have q_ := c52; rw [tn1 (by omega)] at q_; exact q_
                                                  refine g_iload (pc := 238) (i := 5) (x := k) hK dd_X12_laid_238 rfl ?_
                                                  refine g_istore (pc := 240) (i := 4) (L' := [(0, gR 200), (1, gI r), (2, gI t), (3, gI u), (4, gI k), (5, gI k)]) hK dd_X12_laid_240 (by decide) rfl ?_
                                                  refine g_goto (pc := 242) (tgt := 256) hK dd_X12_laid_242 (by decide) ?_
                                                  have hlz2_ : LZ (laR (maS (M 233) (M 234) (M 235) (puA (fun _ => -1) (M 248) (M 200 3).toNat) (M 200 31).toNat) (M 200 3).toNat (puA (fun _ => r) (M 249) 5) u.toNat) (maS (M 233) (M 234) (M 235) (puA (fun _ => -1) (M 248) (M 200 3).toNat) (M 200 31).toNat) u.toNat (M 200 3).toNat (k + 1) k (us Gr k.toNat (Gr k.toNat - 1)) := lz_y hlz_ (by omega) (by omega) (by omega) ⟨hbk_, by omega, hft_⟩
                                                  refine g_iinc (pc := 256) (i := 5) (y := k + 1) (L' := [(0, gR 200), (1, gI r), (2, gI t), (3, gI u), (4, gI k), (5, gI (k + 1))]) hK dd_X12_laid_256 rfl rfl (by decide) rfl ?_
                                                  refine g_goto (pc := 259) (tgt := 178) hK dd_X12_laid_259 (by decide) ?_
                                                  refine g_sub (L' := [(0, gR 200), (1, gI r), (2, gI t), (3, gI u), (4, gI k), (5, gI (k + 1))]) [0, 1, 2, 3, 4, 5] rfl ?_
                                                  refine g_mem (M2 := sr (sr M 248 (maS (M 233) (M 234) (M 235) (puA (fun _ => -1) (M 248) (M 200 3).toNat) (M 200 31).toNat)) 249 ((us Gr k.toNat (Gr k.toNat - 1)))) (by first | rfl | exact up_bk (by subst_vars; omega) | (simp (disch := decide) only [Int.reduceToNat, up_sr, sr_cp, sr_k, sr_o, sr_sr, us_us, @sr_lt _ 249 248 _ _ (by decide)]; try rfl)) ?_
                                                  exact ih37 k (k + 1) (us Gr k.toNat (Gr k.toNat - 1)) (by omega) (by omega) (hlz2_) (by first | exact hgr_ | exact hgr2_) (by omega)
                                                · replace c52 : ¬ (cLm ((us Gr k.toNat (Gr k.toNat - 1))) ((maS (M 233) (M 234) (M 235) (puA (fun _ => -1) (M 248) (M 200 3).toNat) (M 200 31).toNat)) (u + 1).toNat (M 200 3).toNat) := c52
                                                  refine g_if_eq (pc := 235) (tgt := 245) hK dd_X12_laid_235 (by decide) (by decide) (fun _ => ?_) (fun c54 => absurd (by decide) c54)
                                                  have hft_ : ¬ cLm (us Gr k.toNat (Gr k.toNat - 1)) (maS (M 233) (M 234) (M 235) (puA (fun _ => -1) (M 248) (M 200 3).toNat) (M 200 31).toNat) (u.toNat + 1) (M 200 3).toNat := by have q_ := c52; rw [tn1 (by omega)] at q_; exact q_
                                                  refine g_aloadn (pc := 245) (i := 0) (x := 200) hK dd_X12_laid_245 rfl rfl ?_
                                                  refine g_getv (pc := 246) (f := (1, 49)) (j := 48) (v := gR 249) hK (kdm kd_200) rfl ef_12 (by decide) rfl kk_1149 dd_X12_laid_246 rfl ?_
                                                  refine g_iload (pc := 249) (i := 5) (x := k) hK dd_X12_laid_249 rfl ?_
                                                  refine g_dup2 (pc := 251) hK dd_X12_laid_251 rfl rfl ?_
                                                  refine g_iald (pc := 252) hK (kdm kd_249) nl_249 (by decide) dd_X12_laid_252 (by omega) (by omega) (fun x55 ex55 rx55 => ?_)
                                                  replace ex55 : x55 = (us Gr k.toNat (Gr k.toNat - 1)) k.toNat := by first | exact ex55 | (rw [ex55]; simp [up, us, cp, sr])
                                                  rw [us_k] at ex55
                                                  refine g_iconst (pc := 253) (x := 1) hK dd_X12_laid_253 (by decide) ?_
                                                  refine g_iadd (pc := 254) (z := x55 + 1) hK dd_X12_laid_254 rfl ?_
                                                  refine g_iast (pc := 255) hK (kdm kd_249) nl_249 (by decide) (by decide) dd_X12_laid_255 (by omega) (by omega) ⟨by omega, by omega⟩ ?_
                                                  refine g_mem (M2 := sr (sr M 248 (maS (M 233) (M 234) (M 235) (puA (fun _ => -1) (M 248) (M 200 3).toNat) (M 200 31).toNat)) 249 (Gr)) (by rw [show x55 + 1 = Gr k.toNat by omega]; simp (disch := decide) only [Int.reduceToNat, up_sr, sr_cp, sr_k, sr_o, sr_sr, us_us, us_self, @sr_lt _ 249 248 _ _ (by decide)]; try rfl) ?_
                                                  have hlz2_ : LZ (laR (maS (M 233) (M 234) (M 235) (puA (fun _ => -1) (M 248) (M 200 3).toNat) (M 200 31).toNat) (M 200 3).toNat (puA (fun _ => r) (M 249) 5) u.toNat) (maS (M 233) (M 234) (M 235) (puA (fun _ => -1) (M 248) (M 200 3).toNat) (M 200 31).toNat) u.toNat (M 200 3).toNat (k + 1) fo (Gr) := lz_n hlz_ (by omega) (by omega) (by omega) (fun z_ => hft_ z_.2.2)
                                                  refine g_iinc (pc := 256) (i := 5) (y := k + 1) (L' := [(0, gR 200), (1, gI r), (2, gI t), (3, gI u), (4, gI fo), (5, gI (k + 1))]) hK dd_X12_laid_256 rfl rfl (by decide) rfl ?_
                                                  refine g_goto (pc := 259) (tgt := 178) hK dd_X12_laid_259 (by decide) ?_
                                                  refine g_sub (L' := [(0, gR 200), (1, gI r), (2, gI t), (3, gI u), (4, gI fo), (5, gI (k + 1))]) [0, 1, 2, 3, 4, 5] rfl ?_
                                                  refine g_mem (M2 := sr (sr M 248 (maS (M 233) (M 234) (M 235) (puA (fun _ => -1) (M 248) (M 200 3).toNat) (M 200 31).toNat)) 249 (Gr)) (by first | rfl | exact up_bk (by subst_vars; omega) | (simp (disch := decide) only [Int.reduceToNat, up_sr, sr_cp, sr_k, sr_o, sr_sr, us_us, @sr_lt _ 249 248 _ _ (by decide)]; try rfl)) ?_
                                                  exact ih37 fo (k + 1) Gr (by omega) (by omega) (hlz2_) (by first | exact hgr_ | exact hgr2_) (by omega)
                                              · refine g_goto (pc := 214) (tgt := 256) hK dd_X12_laid_214 (by decide) ?_
                                                have hlz2_ : LZ (laR (maS (M 233) (M 234) (M 235) (puA (fun _ => -1) (M 248) (M 200 3).toNat) (M 200 31).toNat) (M 200 3).toNat (puA (fun _ => r) (M 249) 5) u.toNat) (maS (M 233) (M 234) (M 235) (puA (fun _ => -1) (M 248) (M 200 3).toNat) (M 200 31).toNat) u.toNat (M 200 3).toNat (k + 1) fo (Gr) := lz_n hlz_ (by omega) (by omega) (by omega) (fun z_ => z_.2.1 (by omega))
                                                refine g_iinc (pc := 256) (i := 5) (y := k + 1) (L' := [(0, gR 200), (1, gI r), (2, gI t), (3, gI u), (4, gI fo), (5, gI (k + 1))]) hK dd_X12_laid_256 rfl rfl (by decide) rfl ?_
                                                refine g_goto (pc := 259) (tgt := 178) hK dd_X12_laid_259 (by decide) ?_
                                                refine g_sub (L' := [(0, gR 200), (1, gI r), (2, gI t), (3, gI u), (4, gI fo), (5, gI (k + 1))]) [0, 1, 2, 3, 4, 5] rfl ?_
                                                refine g_mem (M2 := sr (sr M 248 (maS (M 233) (M 234) (M 235) (puA (fun _ => -1) (M 248) (M 200 3).toNat) (M 200 31).toNat)) 249 (Gr)) (by first | rfl | exact up_bk (by subst_vars; omega) | (simp (disch := decide) only [Int.reduceToNat, up_sr, sr_cp, sr_k, sr_o, sr_sr, us_us, @sr_lt _ 249 248 _ _ (by decide)]; try rfl)) ?_
                                                exact ih37 fo (k + 1) Gr (by omega) (by omega) (hlz2_) (by first | exact hgr_ | exact hgr2_) (by omega)
                                            · replace c47 : ¬ (hb x46 k) := c47
                                              refine g_if_eq (pc := 201) (tgt := 256) hK dd_X12_laid_201 (by decide) (by decide) (fun _ => ?_) (fun c56 => absurd (by decide) c56)
                                              have hlz2_ : LZ (laR (maS (M 233) (M 234) (M 235) (puA (fun _ => -1) (M 248) (M 200 3).toNat) (M 200 31).toNat) (M 200 3).toNat (puA (fun _ => r) (M 249) 5) u.toNat) (maS (M 233) (M 234) (M 235) (puA (fun _ => -1) (M 248) (M 200 3).toNat) (M 200 31).toNat) u.toNat (M 200 3).toNat (k + 1) fo (Gr) := lz_n hlz_ (by omega) (by omega) (by omega) (fun z_ => absurd z_.1 (by subst_vars; assumption))
                                              refine g_iinc (pc := 256) (i := 5) (y := k + 1) (L' := [(0, gR 200), (1, gI r), (2, gI t), (3, gI u), (4, gI fo), (5, gI (k + 1))]) hK dd_X12_laid_256 rfl rfl (by decide) rfl ?_
                                              refine g_goto (pc := 259) (tgt := 178) hK dd_X12_laid_259 (by decide) ?_
                                              refine g_sub (L' := [(0, gR 200), (1, gI r), (2, gI t), (3, gI u), (4, gI fo), (5, gI (k + 1))]) [0, 1, 2, 3, 4, 5] rfl ?_
                                              refine g_mem (M2 := sr (sr M 248 (maS (M 233) (M 234) (M 235) (puA (fun _ => -1) (M 248) (M 200 3).toNat) (M 200 31).toNat)) 249 (Gr)) (by first | rfl | exact up_bk (by subst_vars; omega) | (simp (disch := decide) only [Int.reduceToNat, up_sr, sr_cp, sr_k, sr_o, sr_sr, us_us, @sr_lt _ 249 248 _ _ (by decide)]; try rfl)) ?_
                                              exact ih37 fo (k + 1) Gr (by omega) (by omega) (hlz2_) (by first | exact hgr_ | exact hgr2_) (by omega)
                                    refine g_mem (M2 := sr (sr M 248 (maS (M 233) (M 234) (M 235) (puA (fun _ => -1) (M 248) (M 200 3).toNat) (M 200 31).toNat)) 249 ((laR (maS (M 233) (M 234) (M 235) (puA (fun _ => -1) (M 248) (M 200 3).toNat) (M 200 31).toNat) (M 200 3).toNat (puA (fun _ => r) (M 249) 5) u.toNat))) (rfl) ?_
                                    refine g_sub (L' := [(0, gR 200), (1, gI r), (2, gI t), (3, gI u), (4, gI (-1)), (5, gI 0)]) [0, 1, 2, 3, 4, 5] rfl ?_
                                    exact lp38 _ (-1) 0 (laR (maS (M 233) (M 234) (M 235) (puA (fun _ => -1) (M 248) (M 200 3).toNat) (M 200 31).toNat) (M 200 3).toNat (puA (fun _ => r) (M 249) 5) u.toNat) (by omega) (by omega) (lz_0) (laR_in hrm_ _) (Nat.lt_succ_self _)
                                  · have hmu_ : (maS (M 233) (M 234) (M 235) (puA (fun _ => -1) (M 248) (M 200 3).toNat) (M 200 31).toNat) u.toNat < 0 := by subst_vars; omega
                                    refine g_goto (pc := 169) (tgt := 270) hK dd_X12_laid_169 (by decide) ?_
                                    refine g_iinc (pc := 270) (i := 3) (y := u + 1) (L' := [(0, gR 200), (1, gI r), (2, gI t), (3, gI (u + 1))]) hK dd_X12_laid_270 rfl rfl (by decide) rfl ?_
                                    refine g_goto (pc := 273) (tgt := 152) hK dd_X12_laid_273 (by decide) ?_
                                    refine g_sub (L' := [(0, gR 200), (1, gI r), (2, gI t), (3, gI (u + 1))]) [0, 1, 2, 3] rfl ?_
                                    refine g_mem (M2 := sr (sr M 248 (maS (M 233) (M 234) (M 235) (puA (fun _ => -1) (M 248) (M 200 3).toNat) (M 200 31).toNat)) 249 (laR (maS (M 233) (M 234) (M 235) (puA (fun _ => -1) (M 248) (M 200 3).toNat) (M 200 31).toNat) (M 200 3).toNat (puA (fun _ => r) (M 249) 5) (u + 1).toNat)) (by rw [tn1 (t := u) (by omega)]; simp only [laR]; first | (rw [if_pos hmu_]; done) | (rw [if_neg hmu_, hfe_])) ?_
                                    exact ih28 (u + 1) (by omega) (by first | exact ut_s hut_ (fun e_ => absurd e_ (by omega)) | exact ut_s hut_ (fun e_ => by rw [← e_]; exact hmu_)) (by omega)
                            refine g_mem (M2 := sr (sr M 248 (maS (M 233) (M 234) (M 235) (puA (fun _ => -1) (M 248) (M 200 3).toNat) (M 200 31).toNat)) 249 (laR (maS (M 233) (M 234) (M 235) (puA (fun _ => -1) (M 248) (M 200 3).toNat) (M 200 31).toNat) (M 200 3).toNat (puA (fun _ => r) (M 249) 5) (0 : Int).toNat)) (rfl) ?_
                            refine g_sub (L' := [(0, gR 200), (1, gI r), (2, gI t), (3, gI 0)]) [0, 1, 2, 3] rfl ?_
                            exact lp29 _ 0 (by omega) (Or.inl (by omega)) (Nat.lt_succ_self _)
                          · replace c25 : ¬ (cLm ((puA (fun _ => r) (M 249) 5)) ((maS (M 233) (M 234) (M 235) (puA (fun _ => -1) (M 248) (M 200 3).toNat) (M 200 31).toNat)) 0 (M 200 3).toNat) := c25
                            refine g_if_ne (pc := 140) (tgt := 150) hK dd_X12_laid_140 (by decide) (by decide) (fun c57 => absurd c57 (by decide)) (fun _ => ?_)
                            have hln_ : ¬ cLm (puA (fun _ => r) (M 249) 5) (maS (M 233) (M 234) (M 235) (puA (fun _ => -1) (M 248) (M 200 3).toNat) (M 200 31).toNat) 0 (M 200 3).toNat := c25
                            refine g_aloadn (pc := 143) (i := 0) (x := 200) hK dd_X12_laid_143 rfl rfl ?_
                            refine g_bipush (pc := 144) (x := (-5)) hK dd_X12_laid_144 (by decide) ?_
                            refine g_callV (pc := 146) (As := [gI (-5)]) hK ws_M_152 md_X12_no ⟨Nat.zero_le _, Nat.zero_le _⟩ ⟨by decide, by decide⟩ (kdm kd_200) rfl rfl dd_X12_laid_146 rfl rfl (Nat.le_of_ble_eq_true rfl) (d_no_5 hrg (g_r1 ?_))
                            refine g_iret (pc := 149) hK hr hlocks dd_X12_laid_149 rfl ?_
                            exact g_fin (hS (maS (M 233) (M 234) (M 235) (puA (fun _ => -1) (M 248) (M 200 3).toNat) (M 200 31).toNat) (puA (fun _ => r) (M 249) 5) (by exact ⟨by omega, hln_⟩)) (by first | rfl | omega | (subst_vars; first | rfl | omega)) (rfl)
                        · refine g_aloadn (pc := 122) (i := 0) (x := 200) hK dd_X12_laid_122 rfl rfl ?_
                          refine g_getv (pc := 123) (f := (1, 49)) (j := 48) (v := gR 249) hK (kdm kd_200) rfl ef_12 (by decide) rfl kk_1149 dd_X12_laid_123 rfl ?_
                          refine g_iloadn (pc := 126) (i := 3) (x := k) hK dd_X12_laid_126 rfl rfl ?_
                          refine g_iloadn (pc := 127) (i := 1) (x := r) hK dd_X12_laid_127 rfl rfl ?_
                          refine g_iast (pc := 128) hK (kdm kd_249) nl_249 (by decide) (by decide) dd_X12_laid_128 (by omega) (by omega) h_r ?_
                          refine g_iinc (pc := 129) (i := 3) (y := k + 1) (L' := [(0, gR 200), (1, gI r), (2, gI t), (3, gI (k + 1))]) hK dd_X12_laid_129 rfl rfl (by decide) rfl ?_
                          refine g_goto (pc := 132) (tgt := 117) hK dd_X12_laid_132 (by decide) ?_
                          refine g_sub (L' := [(0, gR 200), (1, gI r), (2, gI t), (3, gI (k + 1))]) [0, 1, 2, 3] rfl ?_
                          refine g_mem (M2 := sr (sr M 248 (maS (M 233) (M 234) (M 235) (puA (fun _ => -1) (M 248) (M 200 3).toNat) (M 200 31).toNat)) 249 (puA (fun _ => r) (M 249) (k + 1).toNat)) (by rw [tn1 (t := k) (by omega), ← @puA_s (fun _ => r) (M 249) k.toNat r rfl]; simp (disch := decide) only [Int.reduceToNat, up_sr, sr_cp, sr_k, sr_o, sr_sr, us_us, @sr_lt _ 249 248 _ _ (by decide)]; try rfl) ?_
                          exact ih20 (k + 1) (by omega) (by omega)
                    refine g_mem (M2 := sr (sr M 248 (maS (M 233) (M 234) (M 235) (puA (fun _ => -1) (M 248) (M 200 3).toNat) (M 200 31).toNat)) 249 (puA (fun _ => r) (M 249) (0 : Int).toNat)) (by rw [show k.toNat = (M 200 31).toNat by omega]; show _ = sr (sr M 248 _) 249 (puA (fun _ => r) (M 249) 0); rw [puA_0]; exact (sr_id (X := sr M 248 (maS (M 233) (M 234) (M 235) (puA (fun _ => -1) (M 248) (M 200 3).toNat) (M 200 31).toNat)) (k := 249) rfl).symm) ?_
                    refine g_sub (L' := [(0, gR 200), (1, gI r), (2, gI t), (3, gI 0)]) [0, 1, 2, 3] rfl ?_
                    exact lp21 _ 0 (by omega) (Nat.lt_succ_self _)
                  · have hsq_ := hsem k.toNat (by omega) (by omega)
                    refine g_aloadn (pc := 59) (i := 0) (x := 200) hK dd_X12_laid_59 rfl rfl ?_
                    refine g_getv (pc := 60) (f := (1, 33)) (j := 32) (v := gR 233) hK (kdm kd_200) rfl ef_12 (by decide) rfl kk_1133 dd_X12_laid_60 rfl ?_
                    refine g_iloadn (pc := 63) (i := 3) (x := k) hK dd_X12_laid_63 rfl rfl ?_
                    refine g_iald (pc := 64) hK (kdm kd_233) nl_233 (by decide) dd_X12_laid_64 (by omega) (by omega) (fun x58 ex58 rx58 => ?_)
                    replace ex58 : x58 = M 233 k.toNat := ex58
                    refine g_istore (pc := 65) (i := 4) (L' := [(0, gR 200), (1, gI r), (2, gI t), (3, gI k), (4, gI x58)]) hK dd_X12_laid_65 (by decide) rfl ?_
                    refine g_aloadn (pc := 67) (i := 0) (x := 200) hK dd_X12_laid_67 rfl rfl ?_
                    refine g_getv (pc := 68) (f := (1, 48)) (j := 47) (v := gR 248) hK (kdm kd_200) rfl ef_12 (by decide) rfl kk_1148 dd_X12_laid_68 rfl ?_
                    refine g_iload (pc := 71) (i := 4) (x := x58) hK dd_X12_laid_71 rfl ?_
                    refine g_iald (pc := 73) hK (kdm kd_248) nl_248 (by decide) dd_X12_laid_73 (by omega) (by omega) (fun x59 ex59 rx59 => ?_)
                    replace ex59 : x59 = (maS (M 233) (M 234) (M 235) (puA (fun _ => -1) (M 248) (M 200 3).toNat) k.toNat) x58.toNat := by first | exact ex59 | (rw [ex59]; simp [up, us, cp, sr])
                    refine g_if_ge (pc := 74) (tgt := 86) hK dd_X12_laid_74 (by decide) rx59 (fun c60 => ?_) (fun c60 => ?_)
                    · have hm0_ : ¬ (maS (M 233) (M 234) (M 235) (puA (fun _ => -1) (M 248) (M 200 3).toNat) k.toNat) (M 233 k.toNat).toNat < 0 := by subst_vars; omega
                      refine g_aloadn (pc := 86) (i := 0) (x := 200) hK dd_X12_laid_86 rfl rfl ?_
                      refine g_getv (pc := 87) (f := (1, 48)) (j := 47) (v := gR 248) hK (kdm kd_200) rfl ef_12 (by decide) rfl kk_1148 dd_X12_laid_87 rfl ?_
                      refine g_iload (pc := 90) (i := 4) (x := x58) hK dd_X12_laid_90 rfl ?_
                      refine g_dup2 (pc := 92) hK dd_X12_laid_92 rfl rfl ?_
                      refine g_iald (pc := 93) hK (kdm kd_248) nl_248 (by decide) dd_X12_laid_93 (by omega) (by omega) (fun x61 ex61 rx61 => ?_)
                      replace ex61 : x61 = (maS (M 233) (M 234) (M 235) (puA (fun _ => -1) (M 248) (M 200 3).toNat) k.toNat) x58.toNat := by first | exact ex61 | (rw [ex61]; simp [up, us, cp, sr])
                      refine g_aloadn (pc := 94) (i := 0) (x := 200) hK dd_X12_laid_94 rfl rfl ?_
                      refine g_getv (pc := 95) (f := (1, 35)) (j := 34) (v := gR 235) hK (kdm kd_200) rfl ef_12 (by decide) rfl kk_1135 dd_X12_laid_95 rfl ?_
                      refine g_aloadn (pc := 98) (i := 0) (x := 200) hK dd_X12_laid_98 rfl rfl ?_
                      refine g_getv (pc := 99) (f := (1, 34)) (j := 33) (v := gR 234) hK (kdm kd_200) rfl ef_12 (by decide) rfl kk_1134 dd_X12_laid_99 rfl ?_
                      refine g_iloadn (pc := 102) (i := 3) (x := k) hK dd_X12_laid_102 rfl rfl ?_
                      refine g_iald (pc := 103) hK (kdm kd_234) nl_234 (by decide) dd_X12_laid_103 (by omega) (by omega) (fun x62 ex62 rx62 => ?_)
                      replace ex62 : x62 = M 234 k.toNat := ex62
                      refine g_iald (pc := 104) hK (kdm kd_235) nl_235 (by decide) dd_X12_laid_104 (by omega) (by omega) (fun x63 ex63 rx63 => ?_)
                      replace ex63 : x63 = M 235 x62.toNat := ex63
                      refine g_iconst (pc := 105) (x := (-1)) hK dd_X12_laid_105 (by decide) ?_
                      refine g_ixor (pc := 106) (z := jxor x63 (-1)) hK dd_X12_laid_106 rfl ?_
                      refine g_iand (pc := 107) (z := jand x61 (jxor x63 (-1))) hK dd_X12_laid_107 rfl ?_
                      refine g_iast (pc := 108) hK (kdm kd_248) nl_248 (by decide) (by decide) dd_X12_laid_108 (by omega) (by omega) (jand_in _ _) ?_
                      refine g_iinc (pc := 109) (i := 3) (y := k + 1) (L' := [(0, gR 200), (1, gI r), (2, gI t), (3, gI (k + 1)), (4, gI x58)]) hK dd_X12_laid_109 rfl rfl (by decide) rfl ?_
                      refine g_goto (pc := 112) (tgt := 51) hK dd_X12_laid_112 (by decide) ?_
                      refine g_sub (L' := [(0, gR 200), (1, gI r), (2, gI t), (3, gI (k + 1))]) [0, 1, 2, 3] rfl ?_
                      refine g_mem (M2 := sr M 248 (maS (M 233) (M 234) (M 235) (puA (fun _ => -1) (M 248) (M 200 3).toNat) (k + 1).toNat)) (by rw [tn1 (t := k) (by omega)]; simp only [maS]; first | (rw [if_pos hm0_]; subst_vars; simp (disch := decide) only [Int.reduceToNat, up_sr, sr_cp, sr_k, sr_o, sr_sr, us_us, us_k]; try rfl) | (rw [if_neg hm0_]; subst_vars; simp (disch := decide) only [Int.reduceToNat, up_sr, sr_cp, sr_k, sr_o, sr_sr, us_us]; try rfl)) ?_
                      exact ih13 (k + 1) (by omega) (by omega)
                    · have hm0_ : (maS (M 233) (M 234) (M 235) (puA (fun _ => -1) (M 248) (M 200 3).toNat) k.toNat) (M 233 k.toNat).toNat < 0 := by subst_vars; omega
                      refine g_aloadn (pc := 77) (i := 0) (x := 200) hK dd_X12_laid_77 rfl rfl ?_
                      refine g_getv (pc := 78) (f := (1, 48)) (j := 47) (v := gR 248) hK (kdm kd_200) rfl ef_12 (by decide) rfl kk_1148 dd_X12_laid_78 rfl ?_
                      refine g_iload (pc := 81) (i := 4) (x := x58) hK dd_X12_laid_81 rfl ?_
                      refine g_bipush (pc := 83) (x := 31) hK dd_X12_laid_83 (by decide) ?_
                      refine g_iast (pc := 85) hK (kdm kd_248) nl_248 (by decide) (by decide) dd_X12_laid_85 (by omega) (by omega) (by decide) ?_
                      skip
                      refine g_aloadn (pc := 86) (i := 0) (x := 200) hK dd_X12_laid_86 rfl rfl ?_
                      refine g_getv (pc := 87) (f := (1, 48)) (j := 47) (v := gR 248) hK (kdm kd_200) rfl ef_12 (by decide) rfl kk_1148 dd_X12_laid_87 rfl ?_
                      refine g_iload (pc := 90) (i := 4) (x := x58) hK dd_X12_laid_90 rfl ?_
                      refine g_dup2 (pc := 92) hK dd_X12_laid_92 rfl rfl ?_
                      refine g_iald (pc := 93) hK (kdm kd_248) nl_248 (by decide) dd_X12_laid_93 (by omega) (by omega) (fun x64 ex64 rx64 => ?_)
                      replace ex64 : x64 = 31 := by first | exact ex64 | (rw [ex64]; simp [up, us, cp, sr])
                      refine g_aloadn (pc := 94) (i := 0) (x := 200) hK dd_X12_laid_94 rfl rfl ?_
                      refine g_getv (pc := 95) (f := (1, 35)) (j := 34) (v := gR 235) hK (kdm kd_200) rfl ef_12 (by decide) rfl kk_1135 dd_X12_laid_95 rfl ?_
                      refine g_aloadn (pc := 98) (i := 0) (x := 200) hK dd_X12_laid_98 rfl rfl ?_
                      refine g_getv (pc := 99) (f := (1, 34)) (j := 33) (v := gR 234) hK (kdm kd_200) rfl ef_12 (by decide) rfl kk_1134 dd_X12_laid_99 rfl ?_
                      refine g_iloadn (pc := 102) (i := 3) (x := k) hK dd_X12_laid_102 rfl rfl ?_
                      refine g_iald (pc := 103) hK (kdm kd_234) nl_234 (by decide) dd_X12_laid_103 (by omega) (by omega) (fun x65 ex65 rx65 => ?_)
                      replace ex65 : x65 = M 234 k.toNat := ex65
                      refine g_iald (pc := 104) hK (kdm kd_235) nl_235 (by decide) dd_X12_laid_104 (by omega) (by omega) (fun x66 ex66 rx66 => ?_)
                      replace ex66 : x66 = M 235 x65.toNat := ex66
                      refine g_iconst (pc := 105) (x := (-1)) hK dd_X12_laid_105 (by decide) ?_
                      refine g_ixor (pc := 106) (z := jxor x66 (-1)) hK dd_X12_laid_106 rfl ?_
                      refine g_iand (pc := 107) (z := jand x64 (jxor x66 (-1))) hK dd_X12_laid_107 rfl ?_
                      refine g_iast (pc := 108) hK (kdm kd_248) nl_248 (by decide) (by decide) dd_X12_laid_108 (by omega) (by omega) (jand_in _ _) ?_
                      refine g_iinc (pc := 109) (i := 3) (y := k + 1) (L' := [(0, gR 200), (1, gI r), (2, gI t), (3, gI (k + 1)), (4, gI x58)]) hK dd_X12_laid_109 rfl rfl (by decide) rfl ?_
                      refine g_goto (pc := 112) (tgt := 51) hK dd_X12_laid_112 (by decide) ?_
                      refine g_sub (L' := [(0, gR 200), (1, gI r), (2, gI t), (3, gI (k + 1))]) [0, 1, 2, 3] rfl ?_
                      refine g_mem (M2 := sr M 248 (maS (M 233) (M 234) (M 235) (puA (fun _ => -1) (M 248) (M 200 3).toNat) (k + 1).toNat)) (by rw [tn1 (t := k) (by omega)]; simp only [maS]; first | (rw [if_pos hm0_]; subst_vars; simp (disch := decide) only [Int.reduceToNat, up_sr, sr_cp, sr_k, sr_o, sr_sr, us_us, us_k]; try rfl) | (rw [if_neg hm0_]; subst_vars; simp (disch := decide) only [Int.reduceToNat, up_sr, sr_cp, sr_k, sr_o, sr_sr, us_us]; try rfl)) ?_
                      exact ih13 (k + 1) (by omega) (by omega)
              refine g_mem (M2 := sr M 248 (maS (M 233) (M 234) (M 235) (puA (fun _ => -1) (M 248) (M 200 3).toNat) (0 : Int).toNat)) (by rw [show a.toNat = (M 200 3).toNat by omega]; rfl) ?_
              refine g_sub (L' := [(0, gR 200), (1, gI r), (2, gI t), (3, gI 0)]) [0, 1, 2, 3] rfl ?_
              exact lp14 _ 0 (by omega) (Nat.lt_succ_self _)
            · refine g_aloadn (pc := 36) (i := 0) (x := 200) hK dd_X12_laid_36 rfl rfl ?_
              refine g_getv (pc := 37) (f := (1, 48)) (j := 47) (v := gR 248) hK (kdm kd_200) rfl ef_12 (by decide) rfl kk_1148 dd_X12_laid_37 rfl ?_
              refine g_iloadn (pc := 40) (i := 3) (x := a) hK dd_X12_laid_40 rfl rfl ?_
              refine g_iconst (pc := 41) (x := (-1)) hK dd_X12_laid_41 (by decide) ?_
              refine g_iast (pc := 42) hK (kdm kd_248) nl_248 (by decide) (by decide) dd_X12_laid_42 (by omega) (by omega) (by decide) ?_
              refine g_iinc (pc := 43) (i := 3) (y := a + 1) (L' := [(0, gR 200), (1, gI r), (2, gI t), (3, gI (a + 1))]) hK dd_X12_laid_43 rfl rfl (by decide) rfl ?_
              refine g_goto (pc := 46) (tgt := 28) hK dd_X12_laid_46 (by decide) ?_
              refine g_sub (L' := [(0, gR 200), (1, gI r), (2, gI t), (3, gI (a + 1))]) [0, 1, 2, 3] rfl ?_
              refine g_mem (M2 := sr M 248 (puA (fun _ => -1) (M 248) (a + 1).toNat)) (by rw [tn1 (t := a) (by omega), ← @puA_s (fun _ => -1) (M 248) a.toNat (-1) rfl]; simp (disch := decide) only [Int.reduceToNat, up_sr, sr_cp, sr_k, sr_o, sr_sr, us_us]; try rfl) ?_
              exact ih6 (a + 1) (by omega) (by omega)
        refine g_mem (M2 := sr M 248 (puA (fun _ => -1) (M 248) (0 : Int).toNat)) (by show M = sr M 248 (puA (fun _ => -1) (M 248) 0); rw [puA_0]; exact sr_self.symm) ?_
        refine g_sub (L' := [(0, gR 200), (1, gI r), (2, gI t), (3, gI 0)]) [0, 1, 2, 3] rfl ?_
        exact lp7 _ 0 (by omega) (Nat.lt_succ_self _)
      · refine g_if_ne (pc := 16) (tgt := 26) hK dd_X12_laid_16 (by decide) (by decide) (fun c67 => absurd c67 (by decide)) (fun _ => ?_)
        refine g_aloadn (pc := 19) (i := 0) (x := 200) hK dd_X12_laid_19 rfl rfl ?_
        refine g_bipush (pc := 20) (x := (-2)) hK dd_X12_laid_20 (by decide) ?_
        refine g_callV (pc := 22) (As := [gI (-2)]) hK ws_M_152 md_X12_no ⟨Nat.zero_le _, Nat.zero_le _⟩ ⟨by decide, by decide⟩ (kdm kd_200) rfl rfl dd_X12_laid_22 rfl rfl (Nat.le_of_ble_eq_true rfl) (d_no_2 hrg (g_r1 ?_))
        refine g_iret (pc := 25) hK hr hlocks dd_X12_laid_25 rfl ?_
        first | exact g_fin (hB (by first | omega | (subst_vars; omega) | exact ⟨by first | assumption | omega | (subst_vars; first | assumption | omega), by first | assumption | omega | (subst_vars; first | assumption | omega)⟩)) (by first | rfl | omega | (subst_vars; first | rfl | omega)) (by first | rfl | (subst_vars; rfl)) | exact g_fin (hY (rg M 2 248) (rg M 2 249) (by exact ⟨by omega, hly_, hmt_⟩)) (by rw [hfe2_]) (by first | rfl | (simp (disch := decide) only [Int.reduceToNat, up_sr, sr_cp, sr_k, sr_o, sr_sr, us_us, @sr_lt _ 249 248 _ _ (by decide)]; try rfl)) | (exfalso; omega)
