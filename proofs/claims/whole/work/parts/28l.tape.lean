set_option maxHeartbeats 4000000 in
set_option maxRecDepth 100000 in
theorem c_isLetter {l : Launch} {M : Mem} {Pq : Option gV → Mem → Prop} (x : Int) (h1 : inI x) (hT : (97 ≤ x ∧ x ≤ 122) → Pq (some (gI 1)) M) (hF : ¬ (97 ≤ x ∧ x ≤ 122) → Pq (some (gI 0)) M) : gCtr l my_X9_isLetter mb_X9_isLetter 1 ((some .boolean)) 1 [gI x] M Pq := by
  refine g_intro (by decide) (Nat.le_of_ble_eq_true rfl) ?_
  intro p e s m args below meth c D cy q A hK hr hlocks hw
  refine g_sub (L' := [(0, gI x)]) [0] rfl ?_
  refine g_iloadn (pc := 0) (i := 0) (x := x) hK dd_X9_isLetter_0 rfl rfl ?_
  refine g_bipush (pc := 1) (x := 97) hK dd_X9_isLetter_1 (by decide) ?_
  refine g_icmp_lt (pc := 3) (tgt := 16) hK dd_X9_isLetter_3 (by decide) h1 (by decide) (fun c1 => ?_) (fun c1 => ?_)
  · refine g_iconst (pc := 16) (x := 0) hK dd_X9_isLetter_16 (by decide) ?_
    refine g_iret (pc := 17) hK hr hlocks dd_X9_isLetter_17 rfl ?_
    exact g_finM (hF (by subst_vars; first | assumption | omega | simp_all)) (by first | rfl | (subst_vars; rfl))
  · refine g_iloadn (pc := 6) (i := 0) (x := x) hK dd_X9_isLetter_6 rfl rfl ?_
    refine g_bipush (pc := 7) (x := 122) hK dd_X9_isLetter_7 (by decide) ?_
    refine g_icmp_gt (pc := 9) (tgt := 16) hK dd_X9_isLetter_9 (by decide) h1 (by decide) (fun c2 => ?_) (fun c2 => ?_)
    · refine g_iconst (pc := 16) (x := 0) hK dd_X9_isLetter_16 (by decide) ?_
      refine g_iret (pc := 17) hK hr hlocks dd_X9_isLetter_17 rfl ?_
      exact g_finM (hF (by subst_vars; first | assumption | omega | simp_all)) (by first | rfl | (subst_vars; rfl))
    · refine g_iconst (pc := 12) (x := 1) hK dd_X9_isLetter_12 (by decide) ?_
      refine g_goto (pc := 13) (tgt := 17) hK dd_X9_isLetter_13 (by decide) ?_
      refine g_iret (pc := 17) hK hr hlocks dd_X9_isLetter_17 rfl ?_
      exact g_finM (hT (by subst_vars; first | assumption | omega | simp_all)) (by first | rfl | (subst_vars; rfl))
set_option maxHeartbeats 4000000 in
set_option maxRecDepth 100000 in
theorem c_isDigit {l : Launch} {M : Mem} {Pq : Option gV → Mem → Prop} (x : Int) (h1 : inI x) (hT : (48 ≤ x ∧ x ≤ 57) → Pq (some (gI 1)) M) (hF : ¬ (48 ≤ x ∧ x ≤ 57) → Pq (some (gI 0)) M) : gCtr l my_X9_isDigit mb_X9_isDigit 1 ((some .boolean)) 1 [gI x] M Pq := by
  refine g_intro (by decide) (Nat.le_of_ble_eq_true rfl) ?_
  intro p e s m args below meth c D cy q A hK hr hlocks hw
  refine g_sub (L' := [(0, gI x)]) [0] rfl ?_
  refine g_iloadn (pc := 0) (i := 0) (x := x) hK dd_X9_isDigit_0 rfl rfl ?_
  refine g_bipush (pc := 1) (x := 48) hK dd_X9_isDigit_1 (by decide) ?_
  refine g_icmp_lt (pc := 3) (tgt := 16) hK dd_X9_isDigit_3 (by decide) h1 (by decide) (fun c1 => ?_) (fun c1 => ?_)
  · refine g_iconst (pc := 16) (x := 0) hK dd_X9_isDigit_16 (by decide) ?_
    refine g_iret (pc := 17) hK hr hlocks dd_X9_isDigit_17 rfl ?_
    exact g_finM (hF (by subst_vars; first | assumption | omega | simp_all)) (by first | rfl | (subst_vars; rfl))
  · refine g_iloadn (pc := 6) (i := 0) (x := x) hK dd_X9_isDigit_6 rfl rfl ?_
    refine g_bipush (pc := 7) (x := 57) hK dd_X9_isDigit_7 (by decide) ?_
    refine g_icmp_gt (pc := 9) (tgt := 16) hK dd_X9_isDigit_9 (by decide) h1 (by decide) (fun c2 => ?_) (fun c2 => ?_)
    · refine g_iconst (pc := 16) (x := 0) hK dd_X9_isDigit_16 (by decide) ?_
      refine g_iret (pc := 17) hK hr hlocks dd_X9_isDigit_17 rfl ?_
      exact g_finM (hF (by subst_vars; first | assumption | omega | simp_all)) (by first | rfl | (subst_vars; rfl))
    · refine g_iconst (pc := 12) (x := 1) hK dd_X9_isDigit_12 (by decide) ?_
      refine g_goto (pc := 13) (tgt := 17) hK dd_X9_isDigit_13 (by decide) ?_
      refine g_iret (pc := 17) hK hr hlocks dd_X9_isDigit_17 rfl ?_
      exact g_finM (hT (by subst_vars; first | assumption | omega | simp_all)) (by first | rfl | (subst_vars; rfl))
set_option maxHeartbeats 4000000 in
set_option maxRecDepth 100000 in
theorem c_step {l : Launch} {M : Mem} {Pq : Option gV → Mem → Prop} (hs : 0 ≤ M 3 1 ∧ M 3 1 ≤ 120) (he : 0 ≤ M 3 3 ∧ M 3 3 ≤ M 3 1) (hQ : Pq none (up (up M 3 2 ((run isB (M 4) (M 3 1).toNat (M 3 3).toNat : Nat) : Int)) 3 3 ((tkE (M 4) (M 3 1).toNat (run isB (M 4) (M 3 1).toNat (M 3 3).toNat) : Nat) : Int))) : gCtr l my_X9_step mb_X9_step 1 ((none : Option Jvm.ClassFile.FieldType)) 2 [gR 3] M Pq := by
  refine g_intro (by decide) (Nat.le_of_ble_eq_true rfl) ?_
  intro p e s m args below meth c D cy q A hK hr hlocks hw
  refine g_sub (L' := [(0, gR 3)]) [0] rfl ?_
  refine g_aloadn (pc := 0) (i := 0) (x := 3) hK dd_X9_step_0 rfl rfl ?_
  refine g_aloadn (pc := 1) (i := 0) (x := 3) hK dd_X9_step_1 rfl rfl ?_
  refine g_geti (pc := 2) (f := (0, 0)) (j := 3) hK (kdm kd_3) rfl ef_9 (by decide) rfl kk_42 nl_3 dd_X9_step_2 rfl (fun x1 ex1 rx1 => ?_)
  refine g_topv (v := gI (M 3 3)) (by rw [ex1]) ?_
  refine g_puti (pc := 5) (f := (0, 0)) (j := 2) (ty := .int) hK (kdm kd_3) rfl ef_9 (by decide) rfl kk_41 nl_3 (by decide) dd_X9_step_5 rfl rfl rfl rfl rfl ⟨by omega, by omega⟩ ?_
  have lp4 : ∀ (n2 : Nat) (g1 : Int), (M 3 3 ≤ g1 ∧ g1 ≤ M 3 1) → (RQ isB (M 4) (M 3 1).toNat (M 3 3).toNat g1.toNat) → (M 3 1 - g1).toNat < n2 → G p l e (rmD 2) s m args below meth c D cy q A 0 0 1 (MQ below (gQc D cy q A Pq) args s 0 0 A) 8 [(0, gR 3)] [] (up M 3 2 g1) := by
    intro n2
    induction n2 with
    | zero => intro g1 iv5 hg_ hm6; exact absurd hm6 (Nat.not_lt_zero _)
    | succ n2 ih3 =>
      intro g1 iv5 hg_ hm6
      refine g_aloadn (pc := 8) (i := 0) (x := 3) hK dd_X9_step_8 rfl rfl ?_
      refine g_geti (pc := 9) (f := (0, 0)) (j := 2) hK (kdm kd_3) rfl ef_9 (by decide) rfl kk_41 nl_3 dd_X9_step_9 rfl (fun x7 ex7 rx7 => ?_)
      replace ex7 : x7 = g1 := by first | exact ex7 | (rw [ex7]; simp [up, us, cp, sr])
      refine g_aloadn (pc := 12) (i := 0) (x := 3) hK dd_X9_step_12 rfl rfl ?_
      refine g_geti (pc := 13) (f := (0, 0)) (j := 1) hK (kdm kd_3) rfl ef_9 (by decide) rfl kk_39 nl_3 dd_X9_step_13 rfl (fun x8 ex8 rx8 => ?_)
      replace ex8 : x8 = M 3 1 := ex8
      refine g_icmp_ge (pc := 16) (tgt := 46) hK dd_X9_step_16 (by decide) rx7 rx8 (fun c9 => ?_) (fun c9 => ?_)
      · have hb1_ : RV isB (M 4) (M 3 1).toNat (M 3 3).toNat g1.toNat := rvei hg_ (by omega)
        clear hm6
        refine g_aloadn (pc := 46) (i := 0) (x := 3) hK dd_X9_step_46 rfl rfl ?_
        refine g_aloadn (pc := 47) (i := 0) (x := 3) hK dd_X9_step_47 rfl rfl ?_
        refine g_geti (pc := 48) (f := (0, 0)) (j := 2) hK (kdm kd_3) rfl ef_9 (by decide) rfl kk_41 nl_3 dd_X9_step_48 rfl (fun x10 ex10 rx10 => ?_)
        replace ex10 : x10 = g1 := by first | exact ex10 | (rw [ex10]; simp [up, us, cp, sr])
        refine g_topv (v := gI (g1)) (by rw [ex10]) ?_
        refine g_puti (pc := 51) (f := (0, 0)) (j := 3) (ty := .int) hK (kdm kd_3) rfl ef_9 (by decide) rfl kk_42 nl_3 (by decide) dd_X9_step_51 rfl rfl rfl rfl rfl ⟨by omega, by omega⟩ ?_
        have lp13 : ∀ (n11 : Nat) (h1 : Int), (g1 ≤ h1 ∧ h1 ≤ M 3 1) → (RQ isL (M 4) (M 3 1).toNat g1.toNat h1.toNat) → (M 3 1 - h1).toNat < n11 → G p l e (rmD 2) s m args below meth c D cy q A 0 0 1 (MQ below (gQc D cy q A Pq) args s 0 0 A) 54 [(0, gR 3)] [] (up (up M 3 2 g1) 3 3 h1) := by
          intro n11
          induction n11 with
          | zero => intro h1 iv14 hl_ hm15; exact absurd hm15 (Nat.not_lt_zero _)
          | succ n11 ih12 =>
            intro h1 iv14 hl_ hm15
            refine g_aloadn (pc := 54) (i := 0) (x := 3) hK dd_X9_step_54 rfl rfl ?_
            refine g_geti (pc := 55) (f := (0, 0)) (j := 3) hK (kdm kd_3) rfl ef_9 (by decide) rfl kk_42 nl_3 dd_X9_step_55 rfl (fun x16 ex16 rx16 => ?_)
            replace ex16 : x16 = h1 := by first | exact ex16 | (rw [ex16]; simp [up, us, cp, sr])
            refine g_aloadn (pc := 58) (i := 0) (x := 3) hK dd_X9_step_58 rfl rfl ?_
            refine g_geti (pc := 59) (f := (0, 0)) (j := 1) hK (kdm kd_3) rfl ef_9 (by decide) rfl kk_39 nl_3 dd_X9_step_59 rfl (fun x17 ex17 rx17 => ?_)
            replace ex17 : x17 = M 3 1 := ex17
            refine g_icmp_ge (pc := 62) (tgt := 93) hK dd_X9_step_62 (by decide) rx16 rx17 (fun c18 => ?_) (fun c18 => ?_)
            · have hb2_ : RV isL (M 4) (M 3 1).toNat g1.toNat h1.toNat := rvei hl_ (by omega)
              clear hm15
              refine g_aloadn (pc := 93) (i := 0) (x := 3) hK dd_X9_step_93 rfl rfl ?_
              refine g_geti (pc := 94) (f := (0, 0)) (j := 3) hK (kdm kd_3) rfl ef_9 (by decide) rfl kk_42 nl_3 dd_X9_step_94 rfl (fun x19 ex19 rx19 => ?_)
              replace ex19 : x19 = h1 := by first | exact ex19 | (rw [ex19]; simp [up, us, cp, sr])
              refine g_aloadn (pc := 97) (i := 0) (x := 3) hK dd_X9_step_97 rfl rfl ?_
              refine g_geti (pc := 98) (f := (0, 0)) (j := 2) hK (kdm kd_3) rfl ef_9 (by decide) rfl kk_41 nl_3 dd_X9_step_98 rfl (fun x20 ex20 rx20 => ?_)
              replace ex20 : x20 = g1 := by first | exact ex20 | (rw [ex20]; simp [up, us, cp, sr])
              refine g_icmp_le (pc := 101) (tgt := 105) hK dd_X9_step_101 (by decide) rx19 rx20 (fun c21 => ?_) (fun c21 => ?_)
              · have lp24 : ∀ (n22 : Nat) (d1 : Int), (g1 ≤ d1 ∧ d1 ≤ M 3 1) → (RQ isD (M 4) (M 3 1).toNat g1.toNat d1.toNat) → (M 3 1 - d1).toNat < n22 → G p l e (rmD 2) s m args below meth c D cy q A 0 0 1 (MQ below (gQc D cy q A Pq) args s 0 0 A) 105 [(0, gR 3)] [] (up (up M 3 2 g1) 3 3 d1) := by
                  intro n22
                  induction n22 with
                  | zero => intro d1 iv25 hd_ hm26; exact absurd hm26 (Nat.not_lt_zero _)
                  | succ n22 ih23 =>
                    intro d1 iv25 hd_ hm26
                    refine g_aloadn (pc := 105) (i := 0) (x := 3) hK dd_X9_step_105 rfl rfl ?_
                    refine g_geti (pc := 106) (f := (0, 0)) (j := 3) hK (kdm kd_3) rfl ef_9 (by decide) rfl kk_42 nl_3 dd_X9_step_106 rfl (fun x27 ex27 rx27 => ?_)
                    replace ex27 : x27 = d1 := by first | exact ex27 | (rw [ex27]; simp [up, us, cp, sr])
                    refine g_aloadn (pc := 109) (i := 0) (x := 3) hK dd_X9_step_109 rfl rfl ?_
                    refine g_geti (pc := 110) (f := (0, 0)) (j := 1) hK (kdm kd_3) rfl ef_9 (by decide) rfl kk_39 nl_3 dd_X9_step_110 rfl (fun x28 ex28 rx28 => ?_)
                    replace ex28 : x28 = M 3 1 := ex28
                    refine g_icmp_ge (pc := 113) (tgt := 144) hK dd_X9_step_113 (by decide) rx27 rx28 (fun c29 => ?_) (fun c29 => ?_)
                    · have hb3_ : RV isD (M 4) (M 3 1).toNat g1.toNat d1.toNat := rvei hd_ (by omega)
                      clear hm26
                      refine g_aloadn (pc := 144) (i := 0) (x := 3) hK dd_X9_step_144 rfl rfl ?_
                      refine g_geti (pc := 145) (f := (0, 0)) (j := 3) hK (kdm kd_3) rfl ef_9 (by decide) rfl kk_42 nl_3 dd_X9_step_145 rfl (fun x30 ex30 rx30 => ?_)
                      replace ex30 : x30 = d1 := by first | exact ex30 | (rw [ex30]; simp [up, us, cp, sr])
                      refine g_aloadn (pc := 148) (i := 0) (x := 3) hK dd_X9_step_148 rfl rfl ?_
                      refine g_geti (pc := 149) (f := (0, 0)) (j := 2) hK (kdm kd_3) rfl ef_9 (by decide) rfl kk_41 nl_3 dd_X9_step_149 rfl (fun x31 ex31 rx31 => ?_)
                      replace ex31 : x31 = g1 := by first | exact ex31 | (rw [ex31]; simp [up, us, cp, sr])
                      refine g_icmp_ne (pc := 152) (tgt := 176) hK dd_X9_step_152 (by decide) rx30 rx31 (fun c32 => ?_) (fun c32 => ?_)
                      · skip
                        refine g_vret (pc := 176) hK hr hlocks dd_X9_step_176 ?_
                        exact g_finM hQ (by first | exact stf_a (fb_ hb1_ (by omega)) (fe2i hb1_ hb2_ (by omega) hb3_ (by omega) (by omega) (by omega)) | exact stf_b (fb_ hb1_ (by omega)) (fe2i hb1_ hb2_ (by omega) hb3_ (by omega) (by omega) (by omega)))
                      · refine g_aloadn (pc := 155) (i := 0) (x := 3) hK dd_X9_step_155 rfl rfl ?_
                        refine g_geti (pc := 156) (f := (0, 0)) (j := 3) hK (kdm kd_3) rfl ef_9 (by decide) rfl kk_42 nl_3 dd_X9_step_156 rfl (fun x33 ex33 rx33 => ?_)
                        replace ex33 : x33 = d1 := by first | exact ex33 | (rw [ex33]; simp [up, us, cp, sr])
                        refine g_aloadn (pc := 159) (i := 0) (x := 3) hK dd_X9_step_159 rfl rfl ?_
                        refine g_geti (pc := 160) (f := (0, 0)) (j := 1) hK (kdm kd_3) rfl ef_9 (by decide) rfl kk_39 nl_3 dd_X9_step_160 rfl (fun x34 ex34 rx34 => ?_)
                        replace ex34 : x34 = M 3 1 := ex34
                        refine g_icmp_ge (pc := 163) (tgt := 176) hK dd_X9_step_163 (by decide) rx33 rx34 (fun c35 => ?_) (fun c35 => ?_)
                        · skip
                          refine g_vret (pc := 176) hK hr hlocks dd_X9_step_176 ?_
                          exact g_finM hQ (by first | exact stf_a (fb_ hb1_ (by omega)) (fe2i hb1_ hb2_ (by omega) hb3_ (by omega) (by omega) (by omega)) | exact stf_b (fb_ hb1_ (by omega)) (fe2i hb1_ hb2_ (by omega) hb3_ (by omega) (by omega) (by omega)))
                        · refine g_aloadn (pc := 166) (i := 0) (x := 3) hK dd_X9_step_166 rfl rfl ?_
                          refine g_dup (pc := 167) hK dd_X9_step_167 rfl ?_
                          refine g_geti (pc := 168) (f := (0, 0)) (j := 3) hK (kdm kd_3) rfl ef_9 (by decide) rfl kk_42 nl_3 dd_X9_step_168 rfl (fun x36 ex36 rx36 => ?_)
                          replace ex36 : x36 = d1 := by first | exact ex36 | (rw [ex36]; simp [up, us, cp, sr])
                          refine g_topv (v := gI (d1)) (by rw [ex36]) ?_
                          refine g_iconst (pc := 171) (x := 1) hK dd_X9_step_171 (by decide) ?_
                          refine g_iadd (pc := 172) (z := d1 + 1) hK dd_X9_step_172 rfl ?_
                          refine g_puti (pc := 173) (f := (0, 0)) (j := 3) (ty := .int) hK (kdm kd_3) rfl ef_9 (by decide) rfl kk_42 nl_3 (by decide) dd_X9_step_173 rfl rfl rfl rfl rfl ⟨by omega, by omega⟩ ?_
                          skip
                          refine g_vret (pc := 176) hK hr hlocks dd_X9_step_176 ?_
                          exact g_finM hQ (by first | exact stf_a (fb_ hb1_ (by omega)) (fe3i hb1_ hb2_ (by omega) hb3_ (by omega) (by omega)) | exact stf_b (fb_ hb1_ (by omega)) (fe3i hb1_ hb2_ (by omega) hb3_ (by omega) (by omega)))
                    · refine g_aloadn (pc := 116) (i := 0) (x := 3) hK dd_X9_step_116 rfl rfl ?_
                      refine g_getv (pc := 117) (f := (1, 1)) (j := 0) (v := gR 4) hK (kdm kd_3) rfl ef_9 (by decide) rfl kk_38 dd_X9_step_117 rfl ?_
                      refine g_aloadn (pc := 120) (i := 0) (x := 3) hK dd_X9_step_120 rfl rfl ?_
                      refine g_geti (pc := 121) (f := (0, 0)) (j := 3) hK (kdm kd_3) rfl ef_9 (by decide) rfl kk_42 nl_3 dd_X9_step_121 rfl (fun x37 ex37 rx37 => ?_)
                      replace ex37 : x37 = d1 := by first | exact ex37 | (rw [ex37]; simp [up, us, cp, sr])
                      refine g_topv (v := gI (d1)) (by rw [ex37]) ?_
                      refine g_bald (pc := 124) hK (kdm kd_4) nl_4 (by decide) dd_X9_step_124 (by omega) (by omega) (fun x38 ex38 rx38 => ?_)
                      replace ex38 : x38 = M 4 d1.toNat := ex38
                      refine g_callT (pc := 125) (As := [gI x38]) hK ws_Tape_52 md_X9_isDigit ⟨Nat.zero_le _, Nat.zero_le _⟩ ⟨by decide, by decide⟩ dd_X9_step_125 rfl rfl (Nat.le_of_ble_eq_true rfl) (c_isDigit x38 rx38 (fun c39 => g_r1 ?_) (fun c39 => g_r1 ?_))
                      · replace c39 : 48 ≤ x38 ∧ x38 ≤ 57 := c39
                        refine g_if_eq (pc := 128) (tgt := 144) hK dd_X9_step_128 (by decide) (by decide) (fun c40 => absurd c40 (by decide)) (fun _ => ?_)
                        refine g_aloadn (pc := 131) (i := 0) (x := 3) hK dd_X9_step_131 rfl rfl ?_
                        refine g_dup (pc := 132) hK dd_X9_step_132 rfl ?_
                        refine g_geti (pc := 133) (f := (0, 0)) (j := 3) hK (kdm kd_3) rfl ef_9 (by decide) rfl kk_42 nl_3 dd_X9_step_133 rfl (fun x41 ex41 rx41 => ?_)
                        replace ex41 : x41 = d1 := by first | exact ex41 | (rw [ex41]; simp [up, us, cp, sr])
                        refine g_topv (v := gI (d1)) (by rw [ex41]) ?_
                        refine g_iconst (pc := 136) (x := 1) hK dd_X9_step_136 (by decide) ?_
                        refine g_iadd (pc := 137) (z := d1 + 1) hK dd_X9_step_137 rfl ?_
                        refine g_puti (pc := 138) (f := (0, 0)) (j := 3) (ty := .int) hK (kdm kd_3) rfl ef_9 (by decide) rfl kk_42 nl_3 (by decide) dd_X9_step_138 rfl rfl rfl rfl rfl ⟨by omega, by omega⟩ ?_
                        refine g_goto (pc := 141) (tgt := 105) hK dd_X9_step_141 (by decide) ?_
                        refine g_sub (L' := [(0, gR 3)]) [0] rfl ?_
                        refine g_mem (M2 := up (up M 3 2 g1) 3 3 (d1 + 1)) (by simp (disch := decide) only [Int.reduceToNat, up_sr, sr_cp, sr_k, sr_o, sr_sr, us_us]; try rfl) ?_
                        exact ih23 (d1 + 1) (by omega) (rqsi hd_ (by omega) (by omega) (by rw [isD_i]; omega)) (by omega)
                      · replace c39 : ¬ (48 ≤ x38 ∧ x38 ≤ 57) := c39
                        refine g_if_eq (pc := 128) (tgt := 144) hK dd_X9_step_128 (by decide) (by decide) (fun _ => ?_) (fun c42 => absurd (by decide) c42)
                        have hb3_ : RV isD (M 4) (M 3 1).toNat g1.toNat d1.toNat := rvn hd_ (by rw [isD_i]; omega)
                        clear hm26
                        refine g_aloadn (pc := 144) (i := 0) (x := 3) hK dd_X9_step_144 rfl rfl ?_
                        refine g_geti (pc := 145) (f := (0, 0)) (j := 3) hK (kdm kd_3) rfl ef_9 (by decide) rfl kk_42 nl_3 dd_X9_step_145 rfl (fun x43 ex43 rx43 => ?_)
                        replace ex43 : x43 = d1 := by first | exact ex43 | (rw [ex43]; simp [up, us, cp, sr])
                        refine g_aloadn (pc := 148) (i := 0) (x := 3) hK dd_X9_step_148 rfl rfl ?_
                        refine g_geti (pc := 149) (f := (0, 0)) (j := 2) hK (kdm kd_3) rfl ef_9 (by decide) rfl kk_41 nl_3 dd_X9_step_149 rfl (fun x44 ex44 rx44 => ?_)
                        replace ex44 : x44 = g1 := by first | exact ex44 | (rw [ex44]; simp [up, us, cp, sr])
                        refine g_icmp_ne (pc := 152) (tgt := 176) hK dd_X9_step_152 (by decide) rx43 rx44 (fun c45 => ?_) (fun c45 => ?_)
                        · skip
                          refine g_vret (pc := 176) hK hr hlocks dd_X9_step_176 ?_
                          exact g_finM hQ (by first | exact stf_a (fb_ hb1_ (by omega)) (fe2i hb1_ hb2_ (by omega) hb3_ (by omega) (by omega) (by omega)) | exact stf_b (fb_ hb1_ (by omega)) (fe2i hb1_ hb2_ (by omega) hb3_ (by omega) (by omega) (by omega)))
                        · refine g_aloadn (pc := 155) (i := 0) (x := 3) hK dd_X9_step_155 rfl rfl ?_
                          refine g_geti (pc := 156) (f := (0, 0)) (j := 3) hK (kdm kd_3) rfl ef_9 (by decide) rfl kk_42 nl_3 dd_X9_step_156 rfl (fun x46 ex46 rx46 => ?_)
                          replace ex46 : x46 = d1 := by first | exact ex46 | (rw [ex46]; simp [up, us, cp, sr])
                          refine g_aloadn (pc := 159) (i := 0) (x := 3) hK dd_X9_step_159 rfl rfl ?_
                          refine g_geti (pc := 160) (f := (0, 0)) (j := 1) hK (kdm kd_3) rfl ef_9 (by decide) rfl kk_39 nl_3 dd_X9_step_160 rfl (fun x47 ex47 rx47 => ?_)
                          replace ex47 : x47 = M 3 1 := ex47
                          refine g_icmp_ge (pc := 163) (tgt := 176) hK dd_X9_step_163 (by decide) rx46 rx47 (fun c48 => ?_) (fun c48 => ?_)
                          · skip
                            refine g_vret (pc := 176) hK hr hlocks dd_X9_step_176 ?_
                            exact g_finM hQ (by first | exact stf_a (fb_ hb1_ (by omega)) (fe2i hb1_ hb2_ (by omega) hb3_ (by omega) (by omega) (by omega)) | exact stf_b (fb_ hb1_ (by omega)) (fe2i hb1_ hb2_ (by omega) hb3_ (by omega) (by omega) (by omega)))
                          · refine g_aloadn (pc := 166) (i := 0) (x := 3) hK dd_X9_step_166 rfl rfl ?_
                            refine g_dup (pc := 167) hK dd_X9_step_167 rfl ?_
                            refine g_geti (pc := 168) (f := (0, 0)) (j := 3) hK (kdm kd_3) rfl ef_9 (by decide) rfl kk_42 nl_3 dd_X9_step_168 rfl (fun x49 ex49 rx49 => ?_)
                            replace ex49 : x49 = d1 := by first | exact ex49 | (rw [ex49]; simp [up, us, cp, sr])
                            refine g_topv (v := gI (d1)) (by rw [ex49]) ?_
                            refine g_iconst (pc := 171) (x := 1) hK dd_X9_step_171 (by decide) ?_
                            refine g_iadd (pc := 172) (z := d1 + 1) hK dd_X9_step_172 rfl ?_
                            refine g_puti (pc := 173) (f := (0, 0)) (j := 3) (ty := .int) hK (kdm kd_3) rfl ef_9 (by decide) rfl kk_42 nl_3 (by decide) dd_X9_step_173 rfl rfl rfl rfl rfl ⟨by omega, by omega⟩ ?_
                            skip
                            refine g_vret (pc := 176) hK hr hlocks dd_X9_step_176 ?_
                            exact g_finM hQ (by first | exact stf_a (fb_ hb1_ (by omega)) (fe3i hb1_ hb2_ (by omega) hb3_ (by omega) (by omega)) | exact stf_b (fb_ hb1_ (by omega)) (fe3i hb1_ hb2_ (by omega) hb3_ (by omega) (by omega)))
                refine g_mem (M2 := up (up M 3 2 g1) 3 3 h1) (rfl) ?_
                refine g_sub (L' := [(0, gR 3)]) [0] rfl ?_
                exact lp24 _ h1 (by omega) (rq0i (by omega)) (Nat.lt_succ_self _)
              · skip
                refine g_vret (pc := 104) hK hr hlocks dd_X9_step_104 ?_
                exact g_finM hQ (by first | exact stf_a (fb_ hb1_ (by omega)) (fe1i hb1_ hb2_ (by omega) (by omega)) | exact stf_b (fb_ hb1_ (by omega)) (fe1i hb1_ hb2_ (by omega) (by omega)))
            · refine g_aloadn (pc := 65) (i := 0) (x := 3) hK dd_X9_step_65 rfl rfl ?_
              refine g_getv (pc := 66) (f := (1, 1)) (j := 0) (v := gR 4) hK (kdm kd_3) rfl ef_9 (by decide) rfl kk_38 dd_X9_step_66 rfl ?_
              refine g_aloadn (pc := 69) (i := 0) (x := 3) hK dd_X9_step_69 rfl rfl ?_
              refine g_geti (pc := 70) (f := (0, 0)) (j := 3) hK (kdm kd_3) rfl ef_9 (by decide) rfl kk_42 nl_3 dd_X9_step_70 rfl (fun x50 ex50 rx50 => ?_)
              replace ex50 : x50 = h1 := by first | exact ex50 | (rw [ex50]; simp [up, us, cp, sr])
              refine g_topv (v := gI (h1)) (by rw [ex50]) ?_
              refine g_bald (pc := 73) hK (kdm kd_4) nl_4 (by decide) dd_X9_step_73 (by omega) (by omega) (fun x51 ex51 rx51 => ?_)
              replace ex51 : x51 = M 4 h1.toNat := ex51
              refine g_callT (pc := 74) (As := [gI x51]) hK ws_Tape_48 md_X9_isLetter ⟨Nat.zero_le _, Nat.zero_le _⟩ ⟨by decide, by decide⟩ dd_X9_step_74 rfl rfl (Nat.le_of_ble_eq_true rfl) (c_isLetter x51 rx51 (fun c52 => g_r1 ?_) (fun c52 => g_r1 ?_))
              · replace c52 : 97 ≤ x51 ∧ x51 ≤ 122 := c52
                refine g_if_eq (pc := 77) (tgt := 93) hK dd_X9_step_77 (by decide) (by decide) (fun c53 => absurd c53 (by decide)) (fun _ => ?_)
                refine g_aloadn (pc := 80) (i := 0) (x := 3) hK dd_X9_step_80 rfl rfl ?_
                refine g_dup (pc := 81) hK dd_X9_step_81 rfl ?_
                refine g_geti (pc := 82) (f := (0, 0)) (j := 3) hK (kdm kd_3) rfl ef_9 (by decide) rfl kk_42 nl_3 dd_X9_step_82 rfl (fun x54 ex54 rx54 => ?_)
                replace ex54 : x54 = h1 := by first | exact ex54 | (rw [ex54]; simp [up, us, cp, sr])
                refine g_topv (v := gI (h1)) (by rw [ex54]) ?_
                refine g_iconst (pc := 85) (x := 1) hK dd_X9_step_85 (by decide) ?_
                refine g_iadd (pc := 86) (z := h1 + 1) hK dd_X9_step_86 rfl ?_
                refine g_puti (pc := 87) (f := (0, 0)) (j := 3) (ty := .int) hK (kdm kd_3) rfl ef_9 (by decide) rfl kk_42 nl_3 (by decide) dd_X9_step_87 rfl rfl rfl rfl rfl ⟨by omega, by omega⟩ ?_
                refine g_goto (pc := 90) (tgt := 54) hK dd_X9_step_90 (by decide) ?_
                refine g_sub (L' := [(0, gR 3)]) [0] rfl ?_
                refine g_mem (M2 := up (up M 3 2 g1) 3 3 (h1 + 1)) (by simp (disch := decide) only [Int.reduceToNat, up_sr, sr_cp, sr_k, sr_o, sr_sr, us_us]; try rfl) ?_
                exact ih12 (h1 + 1) (by omega) (rqsi hl_ (by omega) (by omega) (by rw [isL_i]; omega)) (by omega)
              · replace c52 : ¬ (97 ≤ x51 ∧ x51 ≤ 122) := c52
                refine g_if_eq (pc := 77) (tgt := 93) hK dd_X9_step_77 (by decide) (by decide) (fun _ => ?_) (fun c55 => absurd (by decide) c55)
                have hb2_ : RV isL (M 4) (M 3 1).toNat g1.toNat h1.toNat := rvn hl_ (by rw [isL_i]; omega)
                clear hm15
                refine g_aloadn (pc := 93) (i := 0) (x := 3) hK dd_X9_step_93 rfl rfl ?_
                refine g_geti (pc := 94) (f := (0, 0)) (j := 3) hK (kdm kd_3) rfl ef_9 (by decide) rfl kk_42 nl_3 dd_X9_step_94 rfl (fun x56 ex56 rx56 => ?_)
                replace ex56 : x56 = h1 := by first | exact ex56 | (rw [ex56]; simp [up, us, cp, sr])
                refine g_aloadn (pc := 97) (i := 0) (x := 3) hK dd_X9_step_97 rfl rfl ?_
                refine g_geti (pc := 98) (f := (0, 0)) (j := 2) hK (kdm kd_3) rfl ef_9 (by decide) rfl kk_41 nl_3 dd_X9_step_98 rfl (fun x57 ex57 rx57 => ?_)
                replace ex57 : x57 = g1 := by first | exact ex57 | (rw [ex57]; simp [up, us, cp, sr])
                refine g_icmp_le (pc := 101) (tgt := 105) hK dd_X9_step_101 (by decide) rx56 rx57 (fun c58 => ?_) (fun c58 => ?_)
                · have lp61 : ∀ (n59 : Nat) (d1 : Int), (g1 ≤ d1 ∧ d1 ≤ M 3 1) → (RQ isD (M 4) (M 3 1).toNat g1.toNat d1.toNat) → (M 3 1 - d1).toNat < n59 → G p l e (rmD 2) s m args below meth c D cy q A 0 0 1 (MQ below (gQc D cy q A Pq) args s 0 0 A) 105 [(0, gR 3)] [] (up (up M 3 2 g1) 3 3 d1) := by
                    intro n59
                    induction n59 with
                    | zero => intro d1 iv62 hd_ hm63; exact absurd hm63 (Nat.not_lt_zero _)
                    | succ n59 ih60 =>
                      intro d1 iv62 hd_ hm63
                      refine g_aloadn (pc := 105) (i := 0) (x := 3) hK dd_X9_step_105 rfl rfl ?_
                      refine g_geti (pc := 106) (f := (0, 0)) (j := 3) hK (kdm kd_3) rfl ef_9 (by decide) rfl kk_42 nl_3 dd_X9_step_106 rfl (fun x64 ex64 rx64 => ?_)
                      replace ex64 : x64 = d1 := by first | exact ex64 | (rw [ex64]; simp [up, us, cp, sr])
                      refine g_aloadn (pc := 109) (i := 0) (x := 3) hK dd_X9_step_109 rfl rfl ?_
                      refine g_geti (pc := 110) (f := (0, 0)) (j := 1) hK (kdm kd_3) rfl ef_9 (by decide) rfl kk_39 nl_3 dd_X9_step_110 rfl (fun x65 ex65 rx65 => ?_)
                      replace ex65 : x65 = M 3 1 := ex65
                      refine g_icmp_ge (pc := 113) (tgt := 144) hK dd_X9_step_113 (by decide) rx64 rx65 (fun c66 => ?_) (fun c66 => ?_)
                      · have hb3_ : RV isD (M 4) (M 3 1).toNat g1.toNat d1.toNat := rvei hd_ (by omega)
                        clear hm63
                        refine g_aloadn (pc := 144) (i := 0) (x := 3) hK dd_X9_step_144 rfl rfl ?_
                        refine g_geti (pc := 145) (f := (0, 0)) (j := 3) hK (kdm kd_3) rfl ef_9 (by decide) rfl kk_42 nl_3 dd_X9_step_145 rfl (fun x67 ex67 rx67 => ?_)
                        replace ex67 : x67 = d1 := by first | exact ex67 | (rw [ex67]; simp [up, us, cp, sr])
                        refine g_aloadn (pc := 148) (i := 0) (x := 3) hK dd_X9_step_148 rfl rfl ?_
                        refine g_geti (pc := 149) (f := (0, 0)) (j := 2) hK (kdm kd_3) rfl ef_9 (by decide) rfl kk_41 nl_3 dd_X9_step_149 rfl (fun x68 ex68 rx68 => ?_)
                        replace ex68 : x68 = g1 := by first | exact ex68 | (rw [ex68]; simp [up, us, cp, sr])
                        refine g_icmp_ne (pc := 152) (tgt := 176) hK dd_X9_step_152 (by decide) rx67 rx68 (fun c69 => ?_) (fun c69 => ?_)
                        · skip
                          refine g_vret (pc := 176) hK hr hlocks dd_X9_step_176 ?_
                          exact g_finM hQ (by first | exact stf_a (fb_ hb1_ (by omega)) (fe2i hb1_ hb2_ (by omega) hb3_ (by omega) (by omega) (by omega)) | exact stf_b (fb_ hb1_ (by omega)) (fe2i hb1_ hb2_ (by omega) hb3_ (by omega) (by omega) (by omega)))
                        · refine g_aloadn (pc := 155) (i := 0) (x := 3) hK dd_X9_step_155 rfl rfl ?_
                          refine g_geti (pc := 156) (f := (0, 0)) (j := 3) hK (kdm kd_3) rfl ef_9 (by decide) rfl kk_42 nl_3 dd_X9_step_156 rfl (fun x70 ex70 rx70 => ?_)
                          replace ex70 : x70 = d1 := by first | exact ex70 | (rw [ex70]; simp [up, us, cp, sr])
                          refine g_aloadn (pc := 159) (i := 0) (x := 3) hK dd_X9_step_159 rfl rfl ?_
                          refine g_geti (pc := 160) (f := (0, 0)) (j := 1) hK (kdm kd_3) rfl ef_9 (by decide) rfl kk_39 nl_3 dd_X9_step_160 rfl (fun x71 ex71 rx71 => ?_)
                          replace ex71 : x71 = M 3 1 := ex71
                          refine g_icmp_ge (pc := 163) (tgt := 176) hK dd_X9_step_163 (by decide) rx70 rx71 (fun c72 => ?_) (fun c72 => ?_)
                          · skip
                            refine g_vret (pc := 176) hK hr hlocks dd_X9_step_176 ?_
                            exact g_finM hQ (by first | exact stf_a (fb_ hb1_ (by omega)) (fe2i hb1_ hb2_ (by omega) hb3_ (by omega) (by omega) (by omega)) | exact stf_b (fb_ hb1_ (by omega)) (fe2i hb1_ hb2_ (by omega) hb3_ (by omega) (by omega) (by omega)))
                          · refine g_aloadn (pc := 166) (i := 0) (x := 3) hK dd_X9_step_166 rfl rfl ?_
                            refine g_dup (pc := 167) hK dd_X9_step_167 rfl ?_
                            refine g_geti (pc := 168) (f := (0, 0)) (j := 3) hK (kdm kd_3) rfl ef_9 (by decide) rfl kk_42 nl_3 dd_X9_step_168 rfl (fun x73 ex73 rx73 => ?_)
                            replace ex73 : x73 = d1 := by first | exact ex73 | (rw [ex73]; simp [up, us, cp, sr])
                            refine g_topv (v := gI (d1)) (by rw [ex73]) ?_
                            refine g_iconst (pc := 171) (x := 1) hK dd_X9_step_171 (by decide) ?_
                            refine g_iadd (pc := 172) (z := d1 + 1) hK dd_X9_step_172 rfl ?_
                            refine g_puti (pc := 173) (f := (0, 0)) (j := 3) (ty := .int) hK (kdm kd_3) rfl ef_9 (by decide) rfl kk_42 nl_3 (by decide) dd_X9_step_173 rfl rfl rfl rfl rfl ⟨by omega, by omega⟩ ?_
                            skip
                            refine g_vret (pc := 176) hK hr hlocks dd_X9_step_176 ?_
                            exact g_finM hQ (by first | exact stf_a (fb_ hb1_ (by omega)) (fe3i hb1_ hb2_ (by omega) hb3_ (by omega) (by omega)) | exact stf_b (fb_ hb1_ (by omega)) (fe3i hb1_ hb2_ (by omega) hb3_ (by omega) (by omega)))
                      · refine g_aloadn (pc := 116) (i := 0) (x := 3) hK dd_X9_step_116 rfl rfl ?_
                        refine g_getv (pc := 117) (f := (1, 1)) (j := 0) (v := gR 4) hK (kdm kd_3) rfl ef_9 (by decide) rfl kk_38 dd_X9_step_117 rfl ?_
                        refine g_aloadn (pc := 120) (i := 0) (x := 3) hK dd_X9_step_120 rfl rfl ?_
                        refine g_geti (pc := 121) (f := (0, 0)) (j := 3) hK (kdm kd_3) rfl ef_9 (by decide) rfl kk_42 nl_3 dd_X9_step_121 rfl (fun x74 ex74 rx74 => ?_)
                        replace ex74 : x74 = d1 := by first | exact ex74 | (rw [ex74]; simp [up, us, cp, sr])
                        refine g_topv (v := gI (d1)) (by rw [ex74]) ?_
                        refine g_bald (pc := 124) hK (kdm kd_4) nl_4 (by decide) dd_X9_step_124 (by omega) (by omega) (fun x75 ex75 rx75 => ?_)
                        replace ex75 : x75 = M 4 d1.toNat := ex75
                        refine g_callT (pc := 125) (As := [gI x75]) hK ws_Tape_52 md_X9_isDigit ⟨Nat.zero_le _, Nat.zero_le _⟩ ⟨by decide, by decide⟩ dd_X9_step_125 rfl rfl (Nat.le_of_ble_eq_true rfl) (c_isDigit x75 rx75 (fun c76 => g_r1 ?_) (fun c76 => g_r1 ?_))
                        · replace c76 : 48 ≤ x75 ∧ x75 ≤ 57 := c76
                          refine g_if_eq (pc := 128) (tgt := 144) hK dd_X9_step_128 (by decide) (by decide) (fun c77 => absurd c77 (by decide)) (fun _ => ?_)
                          refine g_aloadn (pc := 131) (i := 0) (x := 3) hK dd_X9_step_131 rfl rfl ?_
                          refine g_dup (pc := 132) hK dd_X9_step_132 rfl ?_
                          refine g_geti (pc := 133) (f := (0, 0)) (j := 3) hK (kdm kd_3) rfl ef_9 (by decide) rfl kk_42 nl_3 dd_X9_step_133 rfl (fun x78 ex78 rx78 => ?_)
                          replace ex78 : x78 = d1 := by first | exact ex78 | (rw [ex78]; simp [up, us, cp, sr])
                          refine g_topv (v := gI (d1)) (by rw [ex78]) ?_
                          refine g_iconst (pc := 136) (x := 1) hK dd_X9_step_136 (by decide) ?_
                          refine g_iadd (pc := 137) (z := d1 + 1) hK dd_X9_step_137 rfl ?_
                          refine g_puti (pc := 138) (f := (0, 0)) (j := 3) (ty := .int) hK (kdm kd_3) rfl ef_9 (by decide) rfl kk_42 nl_3 (by decide) dd_X9_step_138 rfl rfl rfl rfl rfl ⟨by omega, by omega⟩ ?_
                          refine g_goto (pc := 141) (tgt := 105) hK dd_X9_step_141 (by decide) ?_
                          refine g_sub (L' := [(0, gR 3)]) [0] rfl ?_
                          refine g_mem (M2 := up (up M 3 2 g1) 3 3 (d1 + 1)) (by simp (disch := decide) only [Int.reduceToNat, up_sr, sr_cp, sr_k, sr_o, sr_sr, us_us]; try rfl) ?_
                          exact ih60 (d1 + 1) (by omega) (rqsi hd_ (by omega) (by omega) (by rw [isD_i]; omega)) (by omega)
                        · replace c76 : ¬ (48 ≤ x75 ∧ x75 ≤ 57) := c76
                          refine g_if_eq (pc := 128) (tgt := 144) hK dd_X9_step_128 (by decide) (by decide) (fun _ => ?_) (fun c79 => absurd (by decide) c79)
                          have hb3_ : RV isD (M 4) (M 3 1).toNat g1.toNat d1.toNat := rvn hd_ (by rw [isD_i]; omega)
                          clear hm63
                          refine g_aloadn (pc := 144) (i := 0) (x := 3) hK dd_X9_step_144 rfl rfl ?_
                          refine g_geti (pc := 145) (f := (0, 0)) (j := 3) hK (kdm kd_3) rfl ef_9 (by decide) rfl kk_42 nl_3 dd_X9_step_145 rfl (fun x80 ex80 rx80 => ?_)
                          replace ex80 : x80 = d1 := by first | exact ex80 | (rw [ex80]; simp [up, us, cp, sr])
                          refine g_aloadn (pc := 148) (i := 0) (x := 3) hK dd_X9_step_148 rfl rfl ?_
                          refine g_geti (pc := 149) (f := (0, 0)) (j := 2) hK (kdm kd_3) rfl ef_9 (by decide) rfl kk_41 nl_3 dd_X9_step_149 rfl (fun x81 ex81 rx81 => ?_)
                          replace ex81 : x81 = g1 := by first | exact ex81 | (rw [ex81]; simp [up, us, cp, sr])
                          refine g_icmp_ne (pc := 152) (tgt := 176) hK dd_X9_step_152 (by decide) rx80 rx81 (fun c82 => ?_) (fun c82 => ?_)
                          · skip
                            refine g_vret (pc := 176) hK hr hlocks dd_X9_step_176 ?_
                            exact g_finM hQ (by first | exact stf_a (fb_ hb1_ (by omega)) (fe2i hb1_ hb2_ (by omega) hb3_ (by omega) (by omega) (by omega)) | exact stf_b (fb_ hb1_ (by omega)) (fe2i hb1_ hb2_ (by omega) hb3_ (by omega) (by omega) (by omega)))
                          · refine g_aloadn (pc := 155) (i := 0) (x := 3) hK dd_X9_step_155 rfl rfl ?_
                            refine g_geti (pc := 156) (f := (0, 0)) (j := 3) hK (kdm kd_3) rfl ef_9 (by decide) rfl kk_42 nl_3 dd_X9_step_156 rfl (fun x83 ex83 rx83 => ?_)
                            replace ex83 : x83 = d1 := by first | exact ex83 | (rw [ex83]; simp [up, us, cp, sr])
                            refine g_aloadn (pc := 159) (i := 0) (x := 3) hK dd_X9_step_159 rfl rfl ?_
                            refine g_geti (pc := 160) (f := (0, 0)) (j := 1) hK (kdm kd_3) rfl ef_9 (by decide) rfl kk_39 nl_3 dd_X9_step_160 rfl (fun x84 ex84 rx84 => ?_)
                            replace ex84 : x84 = M 3 1 := ex84
                            refine g_icmp_ge (pc := 163) (tgt := 176) hK dd_X9_step_163 (by decide) rx83 rx84 (fun c85 => ?_) (fun c85 => ?_)
                            · skip
                              refine g_vret (pc := 176) hK hr hlocks dd_X9_step_176 ?_
                              exact g_finM hQ (by first | exact stf_a (fb_ hb1_ (by omega)) (fe2i hb1_ hb2_ (by omega) hb3_ (by omega) (by omega) (by omega)) | exact stf_b (fb_ hb1_ (by omega)) (fe2i hb1_ hb2_ (by omega) hb3_ (by omega) (by omega) (by omega)))
                            · refine g_aloadn (pc := 166) (i := 0) (x := 3) hK dd_X9_step_166 rfl rfl ?_
                              refine g_dup (pc := 167) hK dd_X9_step_167 rfl ?_
                              refine g_geti (pc := 168) (f := (0, 0)) (j := 3) hK (kdm kd_3) rfl ef_9 (by decide) rfl kk_42 nl_3 dd_X9_step_168 rfl (fun x86 ex86 rx86 => ?_)
                              replace ex86 : x86 = d1 := by first | exact ex86 | (rw [ex86]; simp [up, us, cp, sr])
                              refine g_topv (v := gI (d1)) (by rw [ex86]) ?_
                              refine g_iconst (pc := 171) (x := 1) hK dd_X9_step_171 (by decide) ?_
                              refine g_iadd (pc := 172) (z := d1 + 1) hK dd_X9_step_172 rfl ?_
                              refine g_puti (pc := 173) (f := (0, 0)) (j := 3) (ty := .int) hK (kdm kd_3) rfl ef_9 (by decide) rfl kk_42 nl_3 (by decide) dd_X9_step_173 rfl rfl rfl rfl rfl ⟨by omega, by omega⟩ ?_
                              skip
                              refine g_vret (pc := 176) hK hr hlocks dd_X9_step_176 ?_
                              exact g_finM hQ (by first | exact stf_a (fb_ hb1_ (by omega)) (fe3i hb1_ hb2_ (by omega) hb3_ (by omega) (by omega)) | exact stf_b (fb_ hb1_ (by omega)) (fe3i hb1_ hb2_ (by omega) hb3_ (by omega) (by omega)))
                  refine g_mem (M2 := up (up M 3 2 g1) 3 3 h1) (rfl) ?_
                  refine g_sub (L' := [(0, gR 3)]) [0] rfl ?_
                  exact lp61 _ h1 (by omega) (rq0i (by omega)) (Nat.lt_succ_self _)
                · skip
                  refine g_vret (pc := 104) hK hr hlocks dd_X9_step_104 ?_
                  exact g_finM hQ (by first | exact stf_a (fb_ hb1_ (by omega)) (fe1i hb1_ hb2_ (by omega) (by omega)) | exact stf_b (fb_ hb1_ (by omega)) (fe1i hb1_ hb2_ (by omega) (by omega)))
        refine g_mem (M2 := up (up M 3 2 g1) 3 3 g1) (rfl) ?_
        refine g_sub (L' := [(0, gR 3)]) [0] rfl ?_
        exact lp13 _ g1 (by omega) (rq0) (Nat.lt_succ_self _)
      · refine g_aloadn (pc := 19) (i := 0) (x := 3) hK dd_X9_step_19 rfl rfl ?_
        refine g_getv (pc := 20) (f := (1, 1)) (j := 0) (v := gR 4) hK (kdm kd_3) rfl ef_9 (by decide) rfl kk_38 dd_X9_step_20 rfl ?_
        refine g_aloadn (pc := 23) (i := 0) (x := 3) hK dd_X9_step_23 rfl rfl ?_
        refine g_geti (pc := 24) (f := (0, 0)) (j := 2) hK (kdm kd_3) rfl ef_9 (by decide) rfl kk_41 nl_3 dd_X9_step_24 rfl (fun x87 ex87 rx87 => ?_)
        replace ex87 : x87 = g1 := by first | exact ex87 | (rw [ex87]; simp [up, us, cp, sr])
        refine g_topv (v := gI (g1)) (by rw [ex87]) ?_
        refine g_bald (pc := 27) hK (kdm kd_4) nl_4 (by decide) dd_X9_step_27 (by omega) (by omega) (fun x88 ex88 rx88 => ?_)
        replace ex88 : x88 = M 4 g1.toNat := ex88
        refine g_bipush (pc := 28) (x := 32) hK dd_X9_step_28 (by decide) ?_
        refine g_icmp_ne (pc := 30) (tgt := 46) hK dd_X9_step_30 (by decide) rx88 (by decide) (fun c89 => ?_) (fun c89 => ?_)
        · have hb1_ : RV isB (M 4) (M 3 1).toNat (M 3 3).toNat g1.toNat := rvn hg_ (by rw [isB_i]; omega)
          clear hm6
          refine g_aloadn (pc := 46) (i := 0) (x := 3) hK dd_X9_step_46 rfl rfl ?_
          refine g_aloadn (pc := 47) (i := 0) (x := 3) hK dd_X9_step_47 rfl rfl ?_
          refine g_geti (pc := 48) (f := (0, 0)) (j := 2) hK (kdm kd_3) rfl ef_9 (by decide) rfl kk_41 nl_3 dd_X9_step_48 rfl (fun x90 ex90 rx90 => ?_)
          replace ex90 : x90 = g1 := by first | exact ex90 | (rw [ex90]; simp [up, us, cp, sr])
          refine g_topv (v := gI (g1)) (by rw [ex90]) ?_
          refine g_puti (pc := 51) (f := (0, 0)) (j := 3) (ty := .int) hK (kdm kd_3) rfl ef_9 (by decide) rfl kk_42 nl_3 (by decide) dd_X9_step_51 rfl rfl rfl rfl rfl ⟨by omega, by omega⟩ ?_
          have lp93 : ∀ (n91 : Nat) (h1 : Int), (g1 ≤ h1 ∧ h1 ≤ M 3 1) → (RQ isL (M 4) (M 3 1).toNat g1.toNat h1.toNat) → (M 3 1 - h1).toNat < n91 → G p l e (rmD 2) s m args below meth c D cy q A 0 0 1 (MQ below (gQc D cy q A Pq) args s 0 0 A) 54 [(0, gR 3)] [] (up (up M 3 2 g1) 3 3 h1) := by
            intro n91
            induction n91 with
            | zero => intro h1 iv94 hl_ hm95; exact absurd hm95 (Nat.not_lt_zero _)
            | succ n91 ih92 =>
              intro h1 iv94 hl_ hm95
              refine g_aloadn (pc := 54) (i := 0) (x := 3) hK dd_X9_step_54 rfl rfl ?_
              refine g_geti (pc := 55) (f := (0, 0)) (j := 3) hK (kdm kd_3) rfl ef_9 (by decide) rfl kk_42 nl_3 dd_X9_step_55 rfl (fun x96 ex96 rx96 => ?_)
              replace ex96 : x96 = h1 := by first | exact ex96 | (rw [ex96]; simp [up, us, cp, sr])
              refine g_aloadn (pc := 58) (i := 0) (x := 3) hK dd_X9_step_58 rfl rfl ?_
              refine g_geti (pc := 59) (f := (0, 0)) (j := 1) hK (kdm kd_3) rfl ef_9 (by decide) rfl kk_39 nl_3 dd_X9_step_59 rfl (fun x97 ex97 rx97 => ?_)
              replace ex97 : x97 = M 3 1 := ex97
              refine g_icmp_ge (pc := 62) (tgt := 93) hK dd_X9_step_62 (by decide) rx96 rx97 (fun c98 => ?_) (fun c98 => ?_)
              · have hb2_ : RV isL (M 4) (M 3 1).toNat g1.toNat h1.toNat := rvei hl_ (by omega)
                clear hm95
                refine g_aloadn (pc := 93) (i := 0) (x := 3) hK dd_X9_step_93 rfl rfl ?_
                refine g_geti (pc := 94) (f := (0, 0)) (j := 3) hK (kdm kd_3) rfl ef_9 (by decide) rfl kk_42 nl_3 dd_X9_step_94 rfl (fun x99 ex99 rx99 => ?_)
                replace ex99 : x99 = h1 := by first | exact ex99 | (rw [ex99]; simp [up, us, cp, sr])
                refine g_aloadn (pc := 97) (i := 0) (x := 3) hK dd_X9_step_97 rfl rfl ?_
                refine g_geti (pc := 98) (f := (0, 0)) (j := 2) hK (kdm kd_3) rfl ef_9 (by decide) rfl kk_41 nl_3 dd_X9_step_98 rfl (fun x100 ex100 rx100 => ?_)
                replace ex100 : x100 = g1 := by first | exact ex100 | (rw [ex100]; simp [up, us, cp, sr])
                refine g_icmp_le (pc := 101) (tgt := 105) hK dd_X9_step_101 (by decide) rx99 rx100 (fun c101 => ?_) (fun c101 => ?_)
                · have lp104 : ∀ (n102 : Nat) (d1 : Int), (g1 ≤ d1 ∧ d1 ≤ M 3 1) → (RQ isD (M 4) (M 3 1).toNat g1.toNat d1.toNat) → (M 3 1 - d1).toNat < n102 → G p l e (rmD 2) s m args below meth c D cy q A 0 0 1 (MQ below (gQc D cy q A Pq) args s 0 0 A) 105 [(0, gR 3)] [] (up (up M 3 2 g1) 3 3 d1) := by
                    intro n102
                    induction n102 with
                    | zero => intro d1 iv105 hd_ hm106; exact absurd hm106 (Nat.not_lt_zero _)
                    | succ n102 ih103 =>
                      intro d1 iv105 hd_ hm106
                      refine g_aloadn (pc := 105) (i := 0) (x := 3) hK dd_X9_step_105 rfl rfl ?_
                      refine g_geti (pc := 106) (f := (0, 0)) (j := 3) hK (kdm kd_3) rfl ef_9 (by decide) rfl kk_42 nl_3 dd_X9_step_106 rfl (fun x107 ex107 rx107 => ?_)
                      replace ex107 : x107 = d1 := by first | exact ex107 | (rw [ex107]; simp [up, us, cp, sr])
                      refine g_aloadn (pc := 109) (i := 0) (x := 3) hK dd_X9_step_109 rfl rfl ?_
                      refine g_geti (pc := 110) (f := (0, 0)) (j := 1) hK (kdm kd_3) rfl ef_9 (by decide) rfl kk_39 nl_3 dd_X9_step_110 rfl (fun x108 ex108 rx108 => ?_)
                      replace ex108 : x108 = M 3 1 := ex108
                      refine g_icmp_ge (pc := 113) (tgt := 144) hK dd_X9_step_113 (by decide) rx107 rx108 (fun c109 => ?_) (fun c109 => ?_)
                      · have hb3_ : RV isD (M 4) (M 3 1).toNat g1.toNat d1.toNat := rvei hd_ (by omega)
                        clear hm106
                        refine g_aloadn (pc := 144) (i := 0) (x := 3) hK dd_X9_step_144 rfl rfl ?_
                        refine g_geti (pc := 145) (f := (0, 0)) (j := 3) hK (kdm kd_3) rfl ef_9 (by decide) rfl kk_42 nl_3 dd_X9_step_145 rfl (fun x110 ex110 rx110 => ?_)
                        replace ex110 : x110 = d1 := by first | exact ex110 | (rw [ex110]; simp [up, us, cp, sr])
                        refine g_aloadn (pc := 148) (i := 0) (x := 3) hK dd_X9_step_148 rfl rfl ?_
                        refine g_geti (pc := 149) (f := (0, 0)) (j := 2) hK (kdm kd_3) rfl ef_9 (by decide) rfl kk_41 nl_3 dd_X9_step_149 rfl (fun x111 ex111 rx111 => ?_)
                        replace ex111 : x111 = g1 := by first | exact ex111 | (rw [ex111]; simp [up, us, cp, sr])
                        refine g_icmp_ne (pc := 152) (tgt := 176) hK dd_X9_step_152 (by decide) rx110 rx111 (fun c112 => ?_) (fun c112 => ?_)
                        · skip
                          refine g_vret (pc := 176) hK hr hlocks dd_X9_step_176 ?_
                          exact g_finM hQ (by first | exact stf_a (fb_ hb1_ (by omega)) (fe2i hb1_ hb2_ (by omega) hb3_ (by omega) (by omega) (by omega)) | exact stf_b (fb_ hb1_ (by omega)) (fe2i hb1_ hb2_ (by omega) hb3_ (by omega) (by omega) (by omega)))
                        · refine g_aloadn (pc := 155) (i := 0) (x := 3) hK dd_X9_step_155 rfl rfl ?_
                          refine g_geti (pc := 156) (f := (0, 0)) (j := 3) hK (kdm kd_3) rfl ef_9 (by decide) rfl kk_42 nl_3 dd_X9_step_156 rfl (fun x113 ex113 rx113 => ?_)
                          replace ex113 : x113 = d1 := by first | exact ex113 | (rw [ex113]; simp [up, us, cp, sr])
                          refine g_aloadn (pc := 159) (i := 0) (x := 3) hK dd_X9_step_159 rfl rfl ?_
                          refine g_geti (pc := 160) (f := (0, 0)) (j := 1) hK (kdm kd_3) rfl ef_9 (by decide) rfl kk_39 nl_3 dd_X9_step_160 rfl (fun x114 ex114 rx114 => ?_)
                          replace ex114 : x114 = M 3 1 := ex114
                          refine g_icmp_ge (pc := 163) (tgt := 176) hK dd_X9_step_163 (by decide) rx113 rx114 (fun c115 => ?_) (fun c115 => ?_)
                          · skip
                            refine g_vret (pc := 176) hK hr hlocks dd_X9_step_176 ?_
                            exact g_finM hQ (by first | exact stf_a (fb_ hb1_ (by omega)) (fe2i hb1_ hb2_ (by omega) hb3_ (by omega) (by omega) (by omega)) | exact stf_b (fb_ hb1_ (by omega)) (fe2i hb1_ hb2_ (by omega) hb3_ (by omega) (by omega) (by omega)))
                          · refine g_aloadn (pc := 166) (i := 0) (x := 3) hK dd_X9_step_166 rfl rfl ?_
                            refine g_dup (pc := 167) hK dd_X9_step_167 rfl ?_
                            refine g_geti (pc := 168) (f := (0, 0)) (j := 3) hK (kdm kd_3) rfl ef_9 (by decide) rfl kk_42 nl_3 dd_X9_step_168 rfl (fun x116 ex116 rx116 => ?_)
                            replace ex116 : x116 = d1 := by first | exact ex116 | (rw [ex116]; simp [up, us, cp, sr])
                            refine g_topv (v := gI (d1)) (by rw [ex116]) ?_
                            refine g_iconst (pc := 171) (x := 1) hK dd_X9_step_171 (by decide) ?_
                            refine g_iadd (pc := 172) (z := d1 + 1) hK dd_X9_step_172 rfl ?_
                            refine g_puti (pc := 173) (f := (0, 0)) (j := 3) (ty := .int) hK (kdm kd_3) rfl ef_9 (by decide) rfl kk_42 nl_3 (by decide) dd_X9_step_173 rfl rfl rfl rfl rfl ⟨by omega, by omega⟩ ?_
                            skip
                            refine g_vret (pc := 176) hK hr hlocks dd_X9_step_176 ?_
                            exact g_finM hQ (by first | exact stf_a (fb_ hb1_ (by omega)) (fe3i hb1_ hb2_ (by omega) hb3_ (by omega) (by omega)) | exact stf_b (fb_ hb1_ (by omega)) (fe3i hb1_ hb2_ (by omega) hb3_ (by omega) (by omega)))
                      · refine g_aloadn (pc := 116) (i := 0) (x := 3) hK dd_X9_step_116 rfl rfl ?_
                        refine g_getv (pc := 117) (f := (1, 1)) (j := 0) (v := gR 4) hK (kdm kd_3) rfl ef_9 (by decide) rfl kk_38 dd_X9_step_117 rfl ?_
                        refine g_aloadn (pc := 120) (i := 0) (x := 3) hK dd_X9_step_120 rfl rfl ?_
                        refine g_geti (pc := 121) (f := (0, 0)) (j := 3) hK (kdm kd_3) rfl ef_9 (by decide) rfl kk_42 nl_3 dd_X9_step_121 rfl (fun x117 ex117 rx117 => ?_)
                        replace ex117 : x117 = d1 := by first | exact ex117 | (rw [ex117]; simp [up, us, cp, sr])
                        refine g_topv (v := gI (d1)) (by rw [ex117]) ?_
                        refine g_bald (pc := 124) hK (kdm kd_4) nl_4 (by decide) dd_X9_step_124 (by omega) (by omega) (fun x118 ex118 rx118 => ?_)
                        replace ex118 : x118 = M 4 d1.toNat := ex118
                        refine g_callT (pc := 125) (As := [gI x118]) hK ws_Tape_52 md_X9_isDigit ⟨Nat.zero_le _, Nat.zero_le _⟩ ⟨by decide, by decide⟩ dd_X9_step_125 rfl rfl (Nat.le_of_ble_eq_true rfl) (c_isDigit x118 rx118 (fun c119 => g_r1 ?_) (fun c119 => g_r1 ?_))
                        · replace c119 : 48 ≤ x118 ∧ x118 ≤ 57 := c119
                          refine g_if_eq (pc := 128) (tgt := 144) hK dd_X9_step_128 (by decide) (by decide) (fun c120 => absurd c120 (by decide)) (fun _ => ?_)
                          refine g_aloadn (pc := 131) (i := 0) (x := 3) hK dd_X9_step_131 rfl rfl ?_
                          refine g_dup (pc := 132) hK dd_X9_step_132 rfl ?_
                          refine g_geti (pc := 133) (f := (0, 0)) (j := 3) hK (kdm kd_3) rfl ef_9 (by decide) rfl kk_42 nl_3 dd_X9_step_133 rfl (fun x121 ex121 rx121 => ?_)
                          replace ex121 : x121 = d1 := by first | exact ex121 | (rw [ex121]; simp [up, us, cp, sr])
                          refine g_topv (v := gI (d1)) (by rw [ex121]) ?_
                          refine g_iconst (pc := 136) (x := 1) hK dd_X9_step_136 (by decide) ?_
                          refine g_iadd (pc := 137) (z := d1 + 1) hK dd_X9_step_137 rfl ?_
                          refine g_puti (pc := 138) (f := (0, 0)) (j := 3) (ty := .int) hK (kdm kd_3) rfl ef_9 (by decide) rfl kk_42 nl_3 (by decide) dd_X9_step_138 rfl rfl rfl rfl rfl ⟨by omega, by omega⟩ ?_
                          refine g_goto (pc := 141) (tgt := 105) hK dd_X9_step_141 (by decide) ?_
                          refine g_sub (L' := [(0, gR 3)]) [0] rfl ?_
                          refine g_mem (M2 := up (up M 3 2 g1) 3 3 (d1 + 1)) (by simp (disch := decide) only [Int.reduceToNat, up_sr, sr_cp, sr_k, sr_o, sr_sr, us_us]; try rfl) ?_
                          exact ih103 (d1 + 1) (by omega) (rqsi hd_ (by omega) (by omega) (by rw [isD_i]; omega)) (by omega)
                        · replace c119 : ¬ (48 ≤ x118 ∧ x118 ≤ 57) := c119
                          refine g_if_eq (pc := 128) (tgt := 144) hK dd_X9_step_128 (by decide) (by decide) (fun _ => ?_) (fun c122 => absurd (by decide) c122)
                          have hb3_ : RV isD (M 4) (M 3 1).toNat g1.toNat d1.toNat := rvn hd_ (by rw [isD_i]; omega)
                          clear hm106
                          refine g_aloadn (pc := 144) (i := 0) (x := 3) hK dd_X9_step_144 rfl rfl ?_
                          refine g_geti (pc := 145) (f := (0, 0)) (j := 3) hK (kdm kd_3) rfl ef_9 (by decide) rfl kk_42 nl_3 dd_X9_step_145 rfl (fun x123 ex123 rx123 => ?_)
                          replace ex123 : x123 = d1 := by first | exact ex123 | (rw [ex123]; simp [up, us, cp, sr])
                          refine g_aloadn (pc := 148) (i := 0) (x := 3) hK dd_X9_step_148 rfl rfl ?_
                          refine g_geti (pc := 149) (f := (0, 0)) (j := 2) hK (kdm kd_3) rfl ef_9 (by decide) rfl kk_41 nl_3 dd_X9_step_149 rfl (fun x124 ex124 rx124 => ?_)
                          replace ex124 : x124 = g1 := by first | exact ex124 | (rw [ex124]; simp [up, us, cp, sr])
                          refine g_icmp_ne (pc := 152) (tgt := 176) hK dd_X9_step_152 (by decide) rx123 rx124 (fun c125 => ?_) (fun c125 => ?_)
                          · skip
                            refine g_vret (pc := 176) hK hr hlocks dd_X9_step_176 ?_
                            exact g_finM hQ (by first | exact stf_a (fb_ hb1_ (by omega)) (fe2i hb1_ hb2_ (by omega) hb3_ (by omega) (by omega) (by omega)) | exact stf_b (fb_ hb1_ (by omega)) (fe2i hb1_ hb2_ (by omega) hb3_ (by omega) (by omega) (by omega)))
                          · refine g_aloadn (pc := 155) (i := 0) (x := 3) hK dd_X9_step_155 rfl rfl ?_
                            refine g_geti (pc := 156) (f := (0, 0)) (j := 3) hK (kdm kd_3) rfl ef_9 (by decide) rfl kk_42 nl_3 dd_X9_step_156 rfl (fun x126 ex126 rx126 => ?_)
                            replace ex126 : x126 = d1 := by first | exact ex126 | (rw [ex126]; simp [up, us, cp, sr])
                            refine g_aloadn (pc := 159) (i := 0) (x := 3) hK dd_X9_step_159 rfl rfl ?_
                            refine g_geti (pc := 160) (f := (0, 0)) (j := 1) hK (kdm kd_3) rfl ef_9 (by decide) rfl kk_39 nl_3 dd_X9_step_160 rfl (fun x127 ex127 rx127 => ?_)
                            replace ex127 : x127 = M 3 1 := ex127
                            refine g_icmp_ge (pc := 163) (tgt := 176) hK dd_X9_step_163 (by decide) rx126 rx127 (fun c128 => ?_) (fun c128 => ?_)
                            · skip
                              refine g_vret (pc := 176) hK hr hlocks dd_X9_step_176 ?_
                              exact g_finM hQ (by first | exact stf_a (fb_ hb1_ (by omega)) (fe2i hb1_ hb2_ (by omega) hb3_ (by omega) (by omega) (by omega)) | exact stf_b (fb_ hb1_ (by omega)) (fe2i hb1_ hb2_ (by omega) hb3_ (by omega) (by omega) (by omega)))
                            · refine g_aloadn (pc := 166) (i := 0) (x := 3) hK dd_X9_step_166 rfl rfl ?_
                              refine g_dup (pc := 167) hK dd_X9_step_167 rfl ?_
                              refine g_geti (pc := 168) (f := (0, 0)) (j := 3) hK (kdm kd_3) rfl ef_9 (by decide) rfl kk_42 nl_3 dd_X9_step_168 rfl (fun x129 ex129 rx129 => ?_)
                              replace ex129 : x129 = d1 := by first | exact ex129 | (rw [ex129]; simp [up, us, cp, sr])
                              refine g_topv (v := gI (d1)) (by rw [ex129]) ?_
                              refine g_iconst (pc := 171) (x := 1) hK dd_X9_step_171 (by decide) ?_
                              refine g_iadd (pc := 172) (z := d1 + 1) hK dd_X9_step_172 rfl ?_
                              refine g_puti (pc := 173) (f := (0, 0)) (j := 3) (ty := .int) hK (kdm kd_3) rfl ef_9 (by decide) rfl kk_42 nl_3 (by decide) dd_X9_step_173 rfl rfl rfl rfl rfl ⟨by omega, by omega⟩ ?_
                              skip
                              refine g_vret (pc := 176) hK hr hlocks dd_X9_step_176 ?_
                              exact g_finM hQ (by first | exact stf_a (fb_ hb1_ (by omega)) (fe3i hb1_ hb2_ (by omega) hb3_ (by omega) (by omega)) | exact stf_b (fb_ hb1_ (by omega)) (fe3i hb1_ hb2_ (by omega) hb3_ (by omega) (by omega)))
                  refine g_mem (M2 := up (up M 3 2 g1) 3 3 h1) (rfl) ?_
                  refine g_sub (L' := [(0, gR 3)]) [0] rfl ?_
                  exact lp104 _ h1 (by omega) (rq0i (by omega)) (Nat.lt_succ_self _)
                · skip
                  refine g_vret (pc := 104) hK hr hlocks dd_X9_step_104 ?_
                  exact g_finM hQ (by first | exact stf_a (fb_ hb1_ (by omega)) (fe1i hb1_ hb2_ (by omega) (by omega)) | exact stf_b (fb_ hb1_ (by omega)) (fe1i hb1_ hb2_ (by omega) (by omega)))
              · refine g_aloadn (pc := 65) (i := 0) (x := 3) hK dd_X9_step_65 rfl rfl ?_
                refine g_getv (pc := 66) (f := (1, 1)) (j := 0) (v := gR 4) hK (kdm kd_3) rfl ef_9 (by decide) rfl kk_38 dd_X9_step_66 rfl ?_
                refine g_aloadn (pc := 69) (i := 0) (x := 3) hK dd_X9_step_69 rfl rfl ?_
                refine g_geti (pc := 70) (f := (0, 0)) (j := 3) hK (kdm kd_3) rfl ef_9 (by decide) rfl kk_42 nl_3 dd_X9_step_70 rfl (fun x130 ex130 rx130 => ?_)
                replace ex130 : x130 = h1 := by first | exact ex130 | (rw [ex130]; simp [up, us, cp, sr])
                refine g_topv (v := gI (h1)) (by rw [ex130]) ?_
                refine g_bald (pc := 73) hK (kdm kd_4) nl_4 (by decide) dd_X9_step_73 (by omega) (by omega) (fun x131 ex131 rx131 => ?_)
                replace ex131 : x131 = M 4 h1.toNat := ex131
                refine g_callT (pc := 74) (As := [gI x131]) hK ws_Tape_48 md_X9_isLetter ⟨Nat.zero_le _, Nat.zero_le _⟩ ⟨by decide, by decide⟩ dd_X9_step_74 rfl rfl (Nat.le_of_ble_eq_true rfl) (c_isLetter x131 rx131 (fun c132 => g_r1 ?_) (fun c132 => g_r1 ?_))
                · replace c132 : 97 ≤ x131 ∧ x131 ≤ 122 := c132
                  refine g_if_eq (pc := 77) (tgt := 93) hK dd_X9_step_77 (by decide) (by decide) (fun c133 => absurd c133 (by decide)) (fun _ => ?_)
                  refine g_aloadn (pc := 80) (i := 0) (x := 3) hK dd_X9_step_80 rfl rfl ?_
                  refine g_dup (pc := 81) hK dd_X9_step_81 rfl ?_
                  refine g_geti (pc := 82) (f := (0, 0)) (j := 3) hK (kdm kd_3) rfl ef_9 (by decide) rfl kk_42 nl_3 dd_X9_step_82 rfl (fun x134 ex134 rx134 => ?_)
                  replace ex134 : x134 = h1 := by first | exact ex134 | (rw [ex134]; simp [up, us, cp, sr])
                  refine g_topv (v := gI (h1)) (by rw [ex134]) ?_
                  refine g_iconst (pc := 85) (x := 1) hK dd_X9_step_85 (by decide) ?_
                  refine g_iadd (pc := 86) (z := h1 + 1) hK dd_X9_step_86 rfl ?_
                  refine g_puti (pc := 87) (f := (0, 0)) (j := 3) (ty := .int) hK (kdm kd_3) rfl ef_9 (by decide) rfl kk_42 nl_3 (by decide) dd_X9_step_87 rfl rfl rfl rfl rfl ⟨by omega, by omega⟩ ?_
                  refine g_goto (pc := 90) (tgt := 54) hK dd_X9_step_90 (by decide) ?_
                  refine g_sub (L' := [(0, gR 3)]) [0] rfl ?_
                  refine g_mem (M2 := up (up M 3 2 g1) 3 3 (h1 + 1)) (by simp (disch := decide) only [Int.reduceToNat, up_sr, sr_cp, sr_k, sr_o, sr_sr, us_us]; try rfl) ?_
                  exact ih92 (h1 + 1) (by omega) (rqsi hl_ (by omega) (by omega) (by rw [isL_i]; omega)) (by omega)
                · replace c132 : ¬ (97 ≤ x131 ∧ x131 ≤ 122) := c132
                  refine g_if_eq (pc := 77) (tgt := 93) hK dd_X9_step_77 (by decide) (by decide) (fun _ => ?_) (fun c135 => absurd (by decide) c135)
                  have hb2_ : RV isL (M 4) (M 3 1).toNat g1.toNat h1.toNat := rvn hl_ (by rw [isL_i]; omega)
                  clear hm95
                  refine g_aloadn (pc := 93) (i := 0) (x := 3) hK dd_X9_step_93 rfl rfl ?_
                  refine g_geti (pc := 94) (f := (0, 0)) (j := 3) hK (kdm kd_3) rfl ef_9 (by decide) rfl kk_42 nl_3 dd_X9_step_94 rfl (fun x136 ex136 rx136 => ?_)
                  replace ex136 : x136 = h1 := by first | exact ex136 | (rw [ex136]; simp [up, us, cp, sr])
                  refine g_aloadn (pc := 97) (i := 0) (x := 3) hK dd_X9_step_97 rfl rfl ?_
                  refine g_geti (pc := 98) (f := (0, 0)) (j := 2) hK (kdm kd_3) rfl ef_9 (by decide) rfl kk_41 nl_3 dd_X9_step_98 rfl (fun x137 ex137 rx137 => ?_)
                  replace ex137 : x137 = g1 := by first | exact ex137 | (rw [ex137]; simp [up, us, cp, sr])
                  refine g_icmp_le (pc := 101) (tgt := 105) hK dd_X9_step_101 (by decide) rx136 rx137 (fun c138 => ?_) (fun c138 => ?_)
                  · have lp141 : ∀ (n139 : Nat) (d1 : Int), (g1 ≤ d1 ∧ d1 ≤ M 3 1) → (RQ isD (M 4) (M 3 1).toNat g1.toNat d1.toNat) → (M 3 1 - d1).toNat < n139 → G p l e (rmD 2) s m args below meth c D cy q A 0 0 1 (MQ below (gQc D cy q A Pq) args s 0 0 A) 105 [(0, gR 3)] [] (up (up M 3 2 g1) 3 3 d1) := by
                      intro n139
                      induction n139 with
                      | zero => intro d1 iv142 hd_ hm143; exact absurd hm143 (Nat.not_lt_zero _)
                      | succ n139 ih140 =>
                        intro d1 iv142 hd_ hm143
                        refine g_aloadn (pc := 105) (i := 0) (x := 3) hK dd_X9_step_105 rfl rfl ?_
                        refine g_geti (pc := 106) (f := (0, 0)) (j := 3) hK (kdm kd_3) rfl ef_9 (by decide) rfl kk_42 nl_3 dd_X9_step_106 rfl (fun x144 ex144 rx144 => ?_)
                        replace ex144 : x144 = d1 := by first | exact ex144 | (rw [ex144]; simp [up, us, cp, sr])
                        refine g_aloadn (pc := 109) (i := 0) (x := 3) hK dd_X9_step_109 rfl rfl ?_
                        refine g_geti (pc := 110) (f := (0, 0)) (j := 1) hK (kdm kd_3) rfl ef_9 (by decide) rfl kk_39 nl_3 dd_X9_step_110 rfl (fun x145 ex145 rx145 => ?_)
                        replace ex145 : x145 = M 3 1 := ex145
                        refine g_icmp_ge (pc := 113) (tgt := 144) hK dd_X9_step_113 (by decide) rx144 rx145 (fun c146 => ?_) (fun c146 => ?_)
                        · have hb3_ : RV isD (M 4) (M 3 1).toNat g1.toNat d1.toNat := rvei hd_ (by omega)
                          clear hm143
                          refine g_aloadn (pc := 144) (i := 0) (x := 3) hK dd_X9_step_144 rfl rfl ?_
                          refine g_geti (pc := 145) (f := (0, 0)) (j := 3) hK (kdm kd_3) rfl ef_9 (by decide) rfl kk_42 nl_3 dd_X9_step_145 rfl (fun x147 ex147 rx147 => ?_)
                          replace ex147 : x147 = d1 := by first | exact ex147 | (rw [ex147]; simp [up, us, cp, sr])
                          refine g_aloadn (pc := 148) (i := 0) (x := 3) hK dd_X9_step_148 rfl rfl ?_
                          refine g_geti (pc := 149) (f := (0, 0)) (j := 2) hK (kdm kd_3) rfl ef_9 (by decide) rfl kk_41 nl_3 dd_X9_step_149 rfl (fun x148 ex148 rx148 => ?_)
                          replace ex148 : x148 = g1 := by first | exact ex148 | (rw [ex148]; simp [up, us, cp, sr])
                          refine g_icmp_ne (pc := 152) (tgt := 176) hK dd_X9_step_152 (by decide) rx147 rx148 (fun c149 => ?_) (fun c149 => ?_)
                          · skip
                            refine g_vret (pc := 176) hK hr hlocks dd_X9_step_176 ?_
                            exact g_finM hQ (by first | exact stf_a (fb_ hb1_ (by omega)) (fe2i hb1_ hb2_ (by omega) hb3_ (by omega) (by omega) (by omega)) | exact stf_b (fb_ hb1_ (by omega)) (fe2i hb1_ hb2_ (by omega) hb3_ (by omega) (by omega) (by omega)))
                          · refine g_aloadn (pc := 155) (i := 0) (x := 3) hK dd_X9_step_155 rfl rfl ?_
                            refine g_geti (pc := 156) (f := (0, 0)) (j := 3) hK (kdm kd_3) rfl ef_9 (by decide) rfl kk_42 nl_3 dd_X9_step_156 rfl (fun x150 ex150 rx150 => ?_)
                            replace ex150 : x150 = d1 := by first | exact ex150 | (rw [ex150]; simp [up, us, cp, sr])
                            refine g_aloadn (pc := 159) (i := 0) (x := 3) hK dd_X9_step_159 rfl rfl ?_
                            refine g_geti (pc := 160) (f := (0, 0)) (j := 1) hK (kdm kd_3) rfl ef_9 (by decide) rfl kk_39 nl_3 dd_X9_step_160 rfl (fun x151 ex151 rx151 => ?_)
                            replace ex151 : x151 = M 3 1 := ex151
                            refine g_icmp_ge (pc := 163) (tgt := 176) hK dd_X9_step_163 (by decide) rx150 rx151 (fun c152 => ?_) (fun c152 => ?_)
                            · skip
                              refine g_vret (pc := 176) hK hr hlocks dd_X9_step_176 ?_
                              exact g_finM hQ (by first | exact stf_a (fb_ hb1_ (by omega)) (fe2i hb1_ hb2_ (by omega) hb3_ (by omega) (by omega) (by omega)) | exact stf_b (fb_ hb1_ (by omega)) (fe2i hb1_ hb2_ (by omega) hb3_ (by omega) (by omega) (by omega)))
                            · refine g_aloadn (pc := 166) (i := 0) (x := 3) hK dd_X9_step_166 rfl rfl ?_
                              refine g_dup (pc := 167) hK dd_X9_step_167 rfl ?_
                              refine g_geti (pc := 168) (f := (0, 0)) (j := 3) hK (kdm kd_3) rfl ef_9 (by decide) rfl kk_42 nl_3 dd_X9_step_168 rfl (fun x153 ex153 rx153 => ?_)
                              replace ex153 : x153 = d1 := by first | exact ex153 | (rw [ex153]; simp [up, us, cp, sr])
                              refine g_topv (v := gI (d1)) (by rw [ex153]) ?_
                              refine g_iconst (pc := 171) (x := 1) hK dd_X9_step_171 (by decide) ?_
                              refine g_iadd (pc := 172) (z := d1 + 1) hK dd_X9_step_172 rfl ?_
                              refine g_puti (pc := 173) (f := (0, 0)) (j := 3) (ty := .int) hK (kdm kd_3) rfl ef_9 (by decide) rfl kk_42 nl_3 (by decide) dd_X9_step_173 rfl rfl rfl rfl rfl ⟨by omega, by omega⟩ ?_
                              skip
                              refine g_vret (pc := 176) hK hr hlocks dd_X9_step_176 ?_
                              exact g_finM hQ (by first | exact stf_a (fb_ hb1_ (by omega)) (fe3i hb1_ hb2_ (by omega) hb3_ (by omega) (by omega)) | exact stf_b (fb_ hb1_ (by omega)) (fe3i hb1_ hb2_ (by omega) hb3_ (by omega) (by omega)))
                        · refine g_aloadn (pc := 116) (i := 0) (x := 3) hK dd_X9_step_116 rfl rfl ?_
                          refine g_getv (pc := 117) (f := (1, 1)) (j := 0) (v := gR 4) hK (kdm kd_3) rfl ef_9 (by decide) rfl kk_38 dd_X9_step_117 rfl ?_
                          refine g_aloadn (pc := 120) (i := 0) (x := 3) hK dd_X9_step_120 rfl rfl ?_
                          refine g_geti (pc := 121) (f := (0, 0)) (j := 3) hK (kdm kd_3) rfl ef_9 (by decide) rfl kk_42 nl_3 dd_X9_step_121 rfl (fun x154 ex154 rx154 => ?_)
                          replace ex154 : x154 = d1 := by first | exact ex154 | (rw [ex154]; simp [up, us, cp, sr])
                          refine g_topv (v := gI (d1)) (by rw [ex154]) ?_
                          refine g_bald (pc := 124) hK (kdm kd_4) nl_4 (by decide) dd_X9_step_124 (by omega) (by omega) (fun x155 ex155 rx155 => ?_)
                          replace ex155 : x155 = M 4 d1.toNat := ex155
                          refine g_callT (pc := 125) (As := [gI x155]) hK ws_Tape_52 md_X9_isDigit ⟨Nat.zero_le _, Nat.zero_le _⟩ ⟨by decide, by decide⟩ dd_X9_step_125 rfl rfl (Nat.le_of_ble_eq_true rfl) (c_isDigit x155 rx155 (fun c156 => g_r1 ?_) (fun c156 => g_r1 ?_))
                          · replace c156 : 48 ≤ x155 ∧ x155 ≤ 57 := c156
                            refine g_if_eq (pc := 128) (tgt := 144) hK dd_X9_step_128 (by decide) (by decide) (fun c157 => absurd c157 (by decide)) (fun _ => ?_)
                            refine g_aloadn (pc := 131) (i := 0) (x := 3) hK dd_X9_step_131 rfl rfl ?_
                            refine g_dup (pc := 132) hK dd_X9_step_132 rfl ?_
                            refine g_geti (pc := 133) (f := (0, 0)) (j := 3) hK (kdm kd_3) rfl ef_9 (by decide) rfl kk_42 nl_3 dd_X9_step_133 rfl (fun x158 ex158 rx158 => ?_)
                            replace ex158 : x158 = d1 := by first | exact ex158 | (rw [ex158]; simp [up, us, cp, sr])
                            refine g_topv (v := gI (d1)) (by rw [ex158]) ?_
                            refine g_iconst (pc := 136) (x := 1) hK dd_X9_step_136 (by decide) ?_
                            refine g_iadd (pc := 137) (z := d1 + 1) hK dd_X9_step_137 rfl ?_
                            refine g_puti (pc := 138) (f := (0, 0)) (j := 3) (ty := .int) hK (kdm kd_3) rfl ef_9 (by decide) rfl kk_42 nl_3 (by decide) dd_X9_step_138 rfl rfl rfl rfl rfl ⟨by omega, by omega⟩ ?_
                            refine g_goto (pc := 141) (tgt := 105) hK dd_X9_step_141 (by decide) ?_
                            refine g_sub (L' := [(0, gR 3)]) [0] rfl ?_
                            refine g_mem (M2 := up (up M 3 2 g1) 3 3 (d1 + 1)) (by simp (disch := decide) only [Int.reduceToNat, up_sr, sr_cp, sr_k, sr_o, sr_sr, us_us]; try rfl) ?_
                            exact ih140 (d1 + 1) (by omega) (rqsi hd_ (by omega) (by omega) (by rw [isD_i]; omega)) (by omega)
                          · replace c156 : ¬ (48 ≤ x155 ∧ x155 ≤ 57) := c156
                            refine g_if_eq (pc := 128) (tgt := 144) hK dd_X9_step_128 (by decide) (by decide) (fun _ => ?_) (fun c159 => absurd (by decide) c159)
                            have hb3_ : RV isD (M 4) (M 3 1).toNat g1.toNat d1.toNat := rvn hd_ (by rw [isD_i]; omega)
                            clear hm143
                            refine g_aloadn (pc := 144) (i := 0) (x := 3) hK dd_X9_step_144 rfl rfl ?_
                            refine g_geti (pc := 145) (f := (0, 0)) (j := 3) hK (kdm kd_3) rfl ef_9 (by decide) rfl kk_42 nl_3 dd_X9_step_145 rfl (fun x160 ex160 rx160 => ?_)
                            replace ex160 : x160 = d1 := by first | exact ex160 | (rw [ex160]; simp [up, us, cp, sr])
                            refine g_aloadn (pc := 148) (i := 0) (x := 3) hK dd_X9_step_148 rfl rfl ?_
                            refine g_geti (pc := 149) (f := (0, 0)) (j := 2) hK (kdm kd_3) rfl ef_9 (by decide) rfl kk_41 nl_3 dd_X9_step_149 rfl (fun x161 ex161 rx161 => ?_)
                            replace ex161 : x161 = g1 := by first | exact ex161 | (rw [ex161]; simp [up, us, cp, sr])
                            refine g_icmp_ne (pc := 152) (tgt := 176) hK dd_X9_step_152 (by decide) rx160 rx161 (fun c162 => ?_) (fun c162 => ?_)
                            · skip
                              refine g_vret (pc := 176) hK hr hlocks dd_X9_step_176 ?_
                              exact g_finM hQ (by first | exact stf_a (fb_ hb1_ (by omega)) (fe2i hb1_ hb2_ (by omega) hb3_ (by omega) (by omega) (by omega)) | exact stf_b (fb_ hb1_ (by omega)) (fe2i hb1_ hb2_ (by omega) hb3_ (by omega) (by omega) (by omega)))
                            · refine g_aloadn (pc := 155) (i := 0) (x := 3) hK dd_X9_step_155 rfl rfl ?_
                              refine g_geti (pc := 156) (f := (0, 0)) (j := 3) hK (kdm kd_3) rfl ef_9 (by decide) rfl kk_42 nl_3 dd_X9_step_156 rfl (fun x163 ex163 rx163 => ?_)
                              replace ex163 : x163 = d1 := by first | exact ex163 | (rw [ex163]; simp [up, us, cp, sr])
                              refine g_aloadn (pc := 159) (i := 0) (x := 3) hK dd_X9_step_159 rfl rfl ?_
                              refine g_geti (pc := 160) (f := (0, 0)) (j := 1) hK (kdm kd_3) rfl ef_9 (by decide) rfl kk_39 nl_3 dd_X9_step_160 rfl (fun x164 ex164 rx164 => ?_)
                              replace ex164 : x164 = M 3 1 := ex164
                              refine g_icmp_ge (pc := 163) (tgt := 176) hK dd_X9_step_163 (by decide) rx163 rx164 (fun c165 => ?_) (fun c165 => ?_)
                              · skip
                                refine g_vret (pc := 176) hK hr hlocks dd_X9_step_176 ?_
                                exact g_finM hQ (by first | exact stf_a (fb_ hb1_ (by omega)) (fe2i hb1_ hb2_ (by omega) hb3_ (by omega) (by omega) (by omega)) | exact stf_b (fb_ hb1_ (by omega)) (fe2i hb1_ hb2_ (by omega) hb3_ (by omega) (by omega) (by omega)))
                              · refine g_aloadn (pc := 166) (i := 0) (x := 3) hK dd_X9_step_166 rfl rfl ?_
                                refine g_dup (pc := 167) hK dd_X9_step_167 rfl ?_
                                refine g_geti (pc := 168) (f := (0, 0)) (j := 3) hK (kdm kd_3) rfl ef_9 (by decide) rfl kk_42 nl_3 dd_X9_step_168 rfl (fun x166 ex166 rx166 => ?_)
                                replace ex166 : x166 = d1 := by first | exact ex166 | (rw [ex166]; simp [up, us, cp, sr])
                                refine g_topv (v := gI (d1)) (by rw [ex166]) ?_
                                refine g_iconst (pc := 171) (x := 1) hK dd_X9_step_171 (by decide) ?_
                                refine g_iadd (pc := 172) (z := d1 + 1) hK dd_X9_step_172 rfl ?_
                                refine g_puti (pc := 173) (f := (0, 0)) (j := 3) (ty := .int) hK (kdm kd_3) rfl ef_9 (by decide) rfl kk_42 nl_3 (by decide) dd_X9_step_173 rfl rfl rfl rfl rfl ⟨by omega, by omega⟩ ?_
                                skip
                                refine g_vret (pc := 176) hK hr hlocks dd_X9_step_176 ?_
                                exact g_finM hQ (by first | exact stf_a (fb_ hb1_ (by omega)) (fe3i hb1_ hb2_ (by omega) hb3_ (by omega) (by omega)) | exact stf_b (fb_ hb1_ (by omega)) (fe3i hb1_ hb2_ (by omega) hb3_ (by omega) (by omega)))
                    refine g_mem (M2 := up (up M 3 2 g1) 3 3 h1) (rfl) ?_
                    refine g_sub (L' := [(0, gR 3)]) [0] rfl ?_
                    exact lp141 _ h1 (by omega) (rq0i (by omega)) (Nat.lt_succ_self _)
                  · skip
                    refine g_vret (pc := 104) hK hr hlocks dd_X9_step_104 ?_
                    exact g_finM hQ (by first | exact stf_a (fb_ hb1_ (by omega)) (fe1i hb1_ hb2_ (by omega) (by omega)) | exact stf_b (fb_ hb1_ (by omega)) (fe1i hb1_ hb2_ (by omega) (by omega)))
          refine g_mem (M2 := up (up M 3 2 g1) 3 3 g1) (rfl) ?_
          refine g_sub (L' := [(0, gR 3)]) [0] rfl ?_
          exact lp93 _ g1 (by omega) (rq0) (Nat.lt_succ_self _)
        · refine g_aloadn (pc := 33) (i := 0) (x := 3) hK dd_X9_step_33 rfl rfl ?_
          refine g_dup (pc := 34) hK dd_X9_step_34 rfl ?_
          refine g_geti (pc := 35) (f := (0, 0)) (j := 2) hK (kdm kd_3) rfl ef_9 (by decide) rfl kk_41 nl_3 dd_X9_step_35 rfl (fun x167 ex167 rx167 => ?_)
          replace ex167 : x167 = g1 := by first | exact ex167 | (rw [ex167]; simp [up, us, cp, sr])
          refine g_topv (v := gI (g1)) (by rw [ex167]) ?_
          refine g_iconst (pc := 38) (x := 1) hK dd_X9_step_38 (by decide) ?_
          refine g_iadd (pc := 39) (z := g1 + 1) hK dd_X9_step_39 rfl ?_
          refine g_puti (pc := 40) (f := (0, 0)) (j := 2) (ty := .int) hK (kdm kd_3) rfl ef_9 (by decide) rfl kk_41 nl_3 (by decide) dd_X9_step_40 rfl rfl rfl rfl rfl ⟨by omega, by omega⟩ ?_
          refine g_goto (pc := 43) (tgt := 8) hK dd_X9_step_43 (by decide) ?_
          refine g_sub (L' := [(0, gR 3)]) [0] rfl ?_
          refine g_mem (M2 := up M 3 2 (g1 + 1)) (by simp (disch := decide) only [Int.reduceToNat, up_sr, sr_cp, sr_k, sr_o, sr_sr, us_us]; try rfl) ?_
          exact ih3 (g1 + 1) (by omega) (rqsi hg_ (by omega) (by omega) (by rw [isB_i]; omega)) (by omega)
  refine g_mem (M2 := up M 3 2 (M 3 3)) (rfl) ?_
  refine g_sub (L' := [(0, gR 3)]) [0] rfl ?_
  exact lp4 _ (M 3 3) (by omega) (rq0) (Nat.lt_succ_self _)
set_option maxHeartbeats 4000000 in
set_option maxRecDepth 100000 in
theorem c_isWord0 {l : Launch} {M : Mem} {Pq : Option gV → Mem → Prop} (hbe : 0 ≤ M 3 2 ∧ M 3 2 ≤ M 3 3 ∧ M 3 3 ≤ 120) (hT : (wdIs (M 4) (M 3 2).toNat (M 3 3).toNat [107, 110, 111, 119, 110]) → Pq (some (gI 1)) M) (hF : ¬ (wdIs (M 4) (M 3 2).toNat (M 3 3).toNat [107, 110, 111, 119, 110]) → Pq (some (gI 0)) M) : gCtr l my_X9_isWord mb_X9_isWord 3 ((some .boolean)) 5 [gR 3, gR 410] M Pq := by
  refine g_intro (by decide) (Nat.le_of_ble_eq_true rfl) ?_
  intro p e s m args below meth c D cy q A hK hr hlocks hw
  refine g_sub (L' := [(0, gR 3), (1, gR 410)]) [0, 1] rfl ?_
  refine g_aloadn (pc := 0) (i := 0) (x := 3) hK dd_X9_isWord_0 rfl rfl ?_
  refine g_geti (pc := 1) (f := (0, 0)) (j := 3) hK (kdm kd_3) rfl ef_9 (by decide) rfl kk_42 nl_3 dd_X9_isWord_1 rfl (fun x1 ex1 rx1 => ?_)
  refine g_aloadn (pc := 4) (i := 0) (x := 3) hK dd_X9_isWord_4 rfl rfl ?_
  refine g_geti (pc := 5) (f := (0, 0)) (j := 2) hK (kdm kd_3) rfl ef_9 (by decide) rfl kk_41 nl_3 dd_X9_isWord_5 rfl (fun x2 ex2 rx2 => ?_)
  refine g_isub (pc := 8) (z := x1 - x2) hK dd_X9_isWord_8 rfl ?_
  refine g_aloadn (pc := 9) (i := 1) (x := 410) hK dd_X9_isWord_9 rfl rfl ?_
  refine g_len (pc := 10) 0 rfl hK ws_Tape_69 ⟨Nat.zero_le _, Nat.zero_le _⟩ ⟨by decide, by decide⟩ (Nat.le_of_ble_eq_true rfl) dd_X9_isWord_10 (by decide) ?_
  refine g_topv (v := gI 5) rfl ?_
  refine g_icmp_eq (pc := 13) (tgt := 18) hK dd_X9_isWord_13 (by decide) ⟨by omega, by omega⟩ (by decide) (fun c3 => ?_) (fun c3 => ?_)
  · have hln_ : (M 3 3).toNat - (M 3 2).toNat = 5 := by omega
    refine g_iconst (pc := 18) (x := 0) hK dd_X9_isWord_18 (by decide) ?_
    refine g_istoren (pc := 19) (i := 2) (L' := [(0, gR 3), (1, gR 410), (2, gI 0)]) hK dd_X9_isWord_19 rfl (by decide) rfl ?_
    have lp6 : ∀ (n4 : Nat) (i : Int), (0 ≤ i ∧ i ≤ 5) → (∀ j : Nat, (j : Int) < i → M 4 ((M 3 2).toNat + j) = ([107, 110, 111, 119, 110] : List Int).getD j 0) → (5 - i).toNat < n4 → G p l e (rmD 5) s m args below meth c D cy q A 0 0 3 (MQ below (gQc D cy q A Pq) args s 0 0 A) 20 [(0, gR 3), (1, gR 410), (2, gI i)] [] M := by
      intro n4
      induction n4 with
      | zero => intro i iv7 hw_ hm8; exact absurd hm8 (Nat.not_lt_zero _)
      | succ n4 ih5 =>
        intro i iv7 hw_ hm8
        refine g_iloadn (pc := 20) (i := 2) (x := i) hK dd_X9_isWord_20 rfl rfl ?_
        refine g_aloadn (pc := 21) (i := 1) (x := 410) hK dd_X9_isWord_21 rfl rfl ?_
        refine g_len (pc := 22) 0 rfl hK ws_Tape_69 ⟨Nat.zero_le _, Nat.zero_le _⟩ ⟨by decide, by decide⟩ (Nat.le_of_ble_eq_true rfl) dd_X9_isWord_22 (by decide) ?_
        refine g_topv (v := gI 5) rfl ?_
        refine g_icmp_ge (pc := 25) (tgt := 55) hK dd_X9_isWord_25 (by decide) ⟨by omega, by omega⟩ (by decide) (fun c9 => ?_) (fun c9 => ?_)
        · have hyes_ : wdIs (M 4) (M 3 2).toNat (M 3 3).toNat [107, 110, 111, 119, 110] := ⟨hln_, by omega, fun j hj => hw_ j (by have q_ : j < 5 := hj; omega)⟩
          refine g_iconst (pc := 55) (x := 1) hK dd_X9_isWord_55 (by decide) ?_
          refine g_iret (pc := 56) hK hr hlocks dd_X9_isWord_56 rfl ?_
          exact g_finM (hT (by first | exact hyes_ | exact hno_)) (by first | rfl | (subst_vars; rfl))
        · refine g_aloadn (pc := 28) (i := 0) (x := 3) hK dd_X9_isWord_28 rfl rfl ?_
          refine g_getv (pc := 29) (f := (1, 1)) (j := 0) (v := gR 4) hK (kdm kd_3) rfl ef_9 (by decide) rfl kk_38 dd_X9_isWord_29 rfl ?_
          refine g_aloadn (pc := 32) (i := 0) (x := 3) hK dd_X9_isWord_32 rfl rfl ?_
          refine g_geti (pc := 33) (f := (0, 0)) (j := 2) hK (kdm kd_3) rfl ef_9 (by decide) rfl kk_41 nl_3 dd_X9_isWord_33 rfl (fun x10 ex10 rx10 => ?_)
          refine g_iloadn (pc := 36) (i := 2) (x := i) hK dd_X9_isWord_36 rfl rfl ?_
          refine g_iadd (pc := 37) (z := x10 + i) hK dd_X9_isWord_37 rfl ?_
          have hix_ : (x10 + i).toNat = (M 3 2).toNat + i.toNat := by omega
          refine g_bald (pc := 38) hK (kdm kd_4) nl_4 (by decide) dd_X9_isWord_38 (by omega) (by omega) (fun x11 ex11 rx11 => ?_)
          refine g_aloadn (pc := 39) (i := 1) (x := 410) hK dd_X9_isWord_39 rfl rfl ?_
          refine g_iloadn (pc := 40) (i := 2) (x := i) hK dd_X9_isWord_40 rfl rfl ?_
          have hy12 := wd_in (w := [107, 110, 111, 119, 110]) (by decide) i.toNat
          refine g_chr (pc := 41) 0 rfl hK ws_Tape_74 ⟨Nat.zero_le _, Nat.zero_le _⟩ ⟨by decide, by decide⟩ (Nat.le_of_ble_eq_true rfl) dd_X9_isWord_41 (by decide) (by omega) (by omega) hy12 ?_
          refine g_topv (v := gI (([107, 110, 111, 119, 110] : List Int).getD i.toNat 0)) rfl ?_
          refine g_topI (fun y12 ey12 => ?_)
          rw [← ey12] at hy12
          have hch_ : y12 = ([107, 110, 111, 119, 110] : List Int).getD i.toNat 0 := ey12
          have hby_ : x11 = M 4 ((M 3 2).toNat + i.toNat) := by rw [← hix_]; exact ex11
          refine g_icmp_eq (pc := 44) (tgt := 49) hK dd_X9_isWord_44 (by decide) rx11 ⟨by omega, by omega⟩ (fun c13 => ?_) (fun c13 => ?_)
          · have hcs_ : M 4 ((M 3 2).toNat + i.toNat) = ([107, 110, 111, 119, 110] : List Int).getD i.toNat 0 := by rw [← hby_, ← hch_]; omega
            refine g_iinc (pc := 49) (i := 2) (y := i + 1) (L' := [(0, gR 3), (1, gR 410), (2, gI (i + 1))]) hK dd_X9_isWord_49 rfl rfl (by decide) rfl ?_
            refine g_goto (pc := 52) (tgt := 20) hK dd_X9_isWord_52 (by decide) ?_
            refine g_sub (L' := [(0, gR 3), (1, gR 410), (2, gI (i + 1))]) [0, 1, 2] rfl ?_
            exact ih5 (i + 1) (by omega) (fun j hj => by
              by_cases e : (j : Int) < i
              · exact hw_ j e
              · rw [show j = i.toNat by omega]; exact hcs_) (by omega)
          · have hno_ : ¬ wdIs (M 4) (M 3 2).toNat (M 3 3).toNat [107, 110, 111, 119, 110] := fun z => by
              have q_ := z.2.2 i.toNat (by show i.toNat < 5; omega)
              rw [← hby_, ← hch_] at q_
              omega
            refine g_iconst (pc := 47) (x := 0) hK dd_X9_isWord_47 (by decide) ?_
            refine g_iret (pc := 48) hK hr hlocks dd_X9_isWord_48 rfl ?_
            exact g_finM (hF (by first | exact hyes_ | exact hno_)) (by first | rfl | (subst_vars; rfl))
    refine g_sub (L' := [(0, gR 3), (1, gR 410), (2, gI 0)]) [0, 1, 2] rfl ?_
    exact lp6 _ 0 (by omega) (fun j hj => by omega) (Nat.lt_succ_self _)
  · have hno_ : ¬ wdIs (M 4) (M 3 2).toNat (M 3 3).toNat [107, 110, 111, 119, 110] := fun z => by
      have q_ : (M 3 3).toNat - (M 3 2).toNat = 5 := z.1
      omega
    refine g_iconst (pc := 16) (x := 0) hK dd_X9_isWord_16 (by decide) ?_
    refine g_iret (pc := 17) hK hr hlocks dd_X9_isWord_17 rfl ?_
    exact g_finM (hF (by first | exact hyes_ | exact hno_)) (by first | rfl | (subst_vars; rfl))
set_option maxHeartbeats 4000000 in
set_option maxRecDepth 100000 in
theorem c_isWord1 {l : Launch} {M : Mem} {Pq : Option gV → Mem → Prop} (hbe : 0 ≤ M 3 2 ∧ M 3 2 ≤ M 3 3 ∧ M 3 3 ≤ 120) (hT : (wdIs (M 4) (M 3 2).toNat (M 3 3).toNat [115, 116, 114, 97, 110, 103, 101]) → Pq (some (gI 1)) M) (hF : ¬ (wdIs (M 4) (M 3 2).toNat (M 3 3).toNat [115, 116, 114, 97, 110, 103, 101]) → Pq (some (gI 0)) M) : gCtr l my_X9_isWord mb_X9_isWord 3 ((some .boolean)) 5 [gR 3, gR 411] M Pq := by
  refine g_intro (by decide) (Nat.le_of_ble_eq_true rfl) ?_
  intro p e s m args below meth c D cy q A hK hr hlocks hw
  refine g_sub (L' := [(0, gR 3), (1, gR 411)]) [0, 1] rfl ?_
  refine g_aloadn (pc := 0) (i := 0) (x := 3) hK dd_X9_isWord_0 rfl rfl ?_
  refine g_geti (pc := 1) (f := (0, 0)) (j := 3) hK (kdm kd_3) rfl ef_9 (by decide) rfl kk_42 nl_3 dd_X9_isWord_1 rfl (fun x1 ex1 rx1 => ?_)
  refine g_aloadn (pc := 4) (i := 0) (x := 3) hK dd_X9_isWord_4 rfl rfl ?_
  refine g_geti (pc := 5) (f := (0, 0)) (j := 2) hK (kdm kd_3) rfl ef_9 (by decide) rfl kk_41 nl_3 dd_X9_isWord_5 rfl (fun x2 ex2 rx2 => ?_)
  refine g_isub (pc := 8) (z := x1 - x2) hK dd_X9_isWord_8 rfl ?_
  refine g_aloadn (pc := 9) (i := 1) (x := 411) hK dd_X9_isWord_9 rfl rfl ?_
  refine g_len (pc := 10) 1 rfl hK ws_Tape_69 ⟨Nat.zero_le _, Nat.zero_le _⟩ ⟨by decide, by decide⟩ (Nat.le_of_ble_eq_true rfl) dd_X9_isWord_10 (by decide) ?_
  refine g_topv (v := gI 7) rfl ?_
  refine g_icmp_eq (pc := 13) (tgt := 18) hK dd_X9_isWord_13 (by decide) ⟨by omega, by omega⟩ (by decide) (fun c3 => ?_) (fun c3 => ?_)
  · have hln_ : (M 3 3).toNat - (M 3 2).toNat = 7 := by omega
    refine g_iconst (pc := 18) (x := 0) hK dd_X9_isWord_18 (by decide) ?_
    refine g_istoren (pc := 19) (i := 2) (L' := [(0, gR 3), (1, gR 411), (2, gI 0)]) hK dd_X9_isWord_19 rfl (by decide) rfl ?_
    have lp6 : ∀ (n4 : Nat) (i : Int), (0 ≤ i ∧ i ≤ 7) → (∀ j : Nat, (j : Int) < i → M 4 ((M 3 2).toNat + j) = ([115, 116, 114, 97, 110, 103, 101] : List Int).getD j 0) → (7 - i).toNat < n4 → G p l e (rmD 5) s m args below meth c D cy q A 0 0 3 (MQ below (gQc D cy q A Pq) args s 0 0 A) 20 [(0, gR 3), (1, gR 411), (2, gI i)] [] M := by
      intro n4
      induction n4 with
      | zero => intro i iv7 hw_ hm8; exact absurd hm8 (Nat.not_lt_zero _)
      | succ n4 ih5 =>
        intro i iv7 hw_ hm8
        refine g_iloadn (pc := 20) (i := 2) (x := i) hK dd_X9_isWord_20 rfl rfl ?_
        refine g_aloadn (pc := 21) (i := 1) (x := 411) hK dd_X9_isWord_21 rfl rfl ?_
        refine g_len (pc := 22) 1 rfl hK ws_Tape_69 ⟨Nat.zero_le _, Nat.zero_le _⟩ ⟨by decide, by decide⟩ (Nat.le_of_ble_eq_true rfl) dd_X9_isWord_22 (by decide) ?_
        refine g_topv (v := gI 7) rfl ?_
        refine g_icmp_ge (pc := 25) (tgt := 55) hK dd_X9_isWord_25 (by decide) ⟨by omega, by omega⟩ (by decide) (fun c9 => ?_) (fun c9 => ?_)
        · have hyes_ : wdIs (M 4) (M 3 2).toNat (M 3 3).toNat [115, 116, 114, 97, 110, 103, 101] := ⟨hln_, by omega, fun j hj => hw_ j (by have q_ : j < 7 := hj; omega)⟩
          refine g_iconst (pc := 55) (x := 1) hK dd_X9_isWord_55 (by decide) ?_
          refine g_iret (pc := 56) hK hr hlocks dd_X9_isWord_56 rfl ?_
          exact g_finM (hT (by first | exact hyes_ | exact hno_)) (by first | rfl | (subst_vars; rfl))
        · refine g_aloadn (pc := 28) (i := 0) (x := 3) hK dd_X9_isWord_28 rfl rfl ?_
          refine g_getv (pc := 29) (f := (1, 1)) (j := 0) (v := gR 4) hK (kdm kd_3) rfl ef_9 (by decide) rfl kk_38 dd_X9_isWord_29 rfl ?_
          refine g_aloadn (pc := 32) (i := 0) (x := 3) hK dd_X9_isWord_32 rfl rfl ?_
          refine g_geti (pc := 33) (f := (0, 0)) (j := 2) hK (kdm kd_3) rfl ef_9 (by decide) rfl kk_41 nl_3 dd_X9_isWord_33 rfl (fun x10 ex10 rx10 => ?_)
          refine g_iloadn (pc := 36) (i := 2) (x := i) hK dd_X9_isWord_36 rfl rfl ?_
          refine g_iadd (pc := 37) (z := x10 + i) hK dd_X9_isWord_37 rfl ?_
          have hix_ : (x10 + i).toNat = (M 3 2).toNat + i.toNat := by omega
          refine g_bald (pc := 38) hK (kdm kd_4) nl_4 (by decide) dd_X9_isWord_38 (by omega) (by omega) (fun x11 ex11 rx11 => ?_)
          refine g_aloadn (pc := 39) (i := 1) (x := 411) hK dd_X9_isWord_39 rfl rfl ?_
          refine g_iloadn (pc := 40) (i := 2) (x := i) hK dd_X9_isWord_40 rfl rfl ?_
          have hy12 := wd_in (w := [115, 116, 114, 97, 110, 103, 101]) (by decide) i.toNat
          refine g_chr (pc := 41) 1 rfl hK ws_Tape_74 ⟨Nat.zero_le _, Nat.zero_le _⟩ ⟨by decide, by decide⟩ (Nat.le_of_ble_eq_true rfl) dd_X9_isWord_41 (by decide) (by omega) (by omega) hy12 ?_
          refine g_topv (v := gI (([115, 116, 114, 97, 110, 103, 101] : List Int).getD i.toNat 0)) rfl ?_
          refine g_topI (fun y12 ey12 => ?_)
          rw [← ey12] at hy12
          have hch_ : y12 = ([115, 116, 114, 97, 110, 103, 101] : List Int).getD i.toNat 0 := ey12
          have hby_ : x11 = M 4 ((M 3 2).toNat + i.toNat) := by rw [← hix_]; exact ex11
          refine g_icmp_eq (pc := 44) (tgt := 49) hK dd_X9_isWord_44 (by decide) rx11 ⟨by omega, by omega⟩ (fun c13 => ?_) (fun c13 => ?_)
          · have hcs_ : M 4 ((M 3 2).toNat + i.toNat) = ([115, 116, 114, 97, 110, 103, 101] : List Int).getD i.toNat 0 := by rw [← hby_, ← hch_]; omega
            refine g_iinc (pc := 49) (i := 2) (y := i + 1) (L' := [(0, gR 3), (1, gR 411), (2, gI (i + 1))]) hK dd_X9_isWord_49 rfl rfl (by decide) rfl ?_
            refine g_goto (pc := 52) (tgt := 20) hK dd_X9_isWord_52 (by decide) ?_
            refine g_sub (L' := [(0, gR 3), (1, gR 411), (2, gI (i + 1))]) [0, 1, 2] rfl ?_
            exact ih5 (i + 1) (by omega) (fun j hj => by
              by_cases e : (j : Int) < i
              · exact hw_ j e
              · rw [show j = i.toNat by omega]; exact hcs_) (by omega)
          · have hno_ : ¬ wdIs (M 4) (M 3 2).toNat (M 3 3).toNat [115, 116, 114, 97, 110, 103, 101] := fun z => by
              have q_ := z.2.2 i.toNat (by show i.toNat < 7; omega)
              rw [← hby_, ← hch_] at q_
              omega
            refine g_iconst (pc := 47) (x := 0) hK dd_X9_isWord_47 (by decide) ?_
            refine g_iret (pc := 48) hK hr hlocks dd_X9_isWord_48 rfl ?_
            exact g_finM (hF (by first | exact hyes_ | exact hno_)) (by first | rfl | (subst_vars; rfl))
    refine g_sub (L' := [(0, gR 3), (1, gR 411), (2, gI 0)]) [0, 1, 2] rfl ?_
    exact lp6 _ 0 (by omega) (fun j hj => by omega) (Nat.lt_succ_self _)
  · have hno_ : ¬ wdIs (M 4) (M 3 2).toNat (M 3 3).toNat [115, 116, 114, 97, 110, 103, 101] := fun z => by
      have q_ : (M 3 3).toNat - (M 3 2).toNat = 7 := z.1
      omega
    refine g_iconst (pc := 16) (x := 0) hK dd_X9_isWord_16 (by decide) ?_
    refine g_iret (pc := 17) hK hr hlocks dd_X9_isWord_17 rfl ?_
    exact g_finM (hF (by first | exact hyes_ | exact hno_)) (by first | rfl | (subst_vars; rfl))
set_option maxHeartbeats 4000000 in
set_option maxRecDepth 100000 in
theorem c_isWord2 {l : Launch} {M : Mem} {Pq : Option gV → Mem → Prop} (hbe : 0 ≤ M 3 2 ∧ M 3 2 ≤ M 3 3 ∧ M 3 3 ≤ 120) (hT : (wdIs (M 4) (M 3 2).toNat (M 3 3).toNat [114, 111, 117, 110, 100]) → Pq (some (gI 1)) M) (hF : ¬ (wdIs (M 4) (M 3 2).toNat (M 3 3).toNat [114, 111, 117, 110, 100]) → Pq (some (gI 0)) M) : gCtr l my_X9_isWord mb_X9_isWord 3 ((some .boolean)) 5 [gR 3, gR 412] M Pq := by
  refine g_intro (by decide) (Nat.le_of_ble_eq_true rfl) ?_
  intro p e s m args below meth c D cy q A hK hr hlocks hw
  refine g_sub (L' := [(0, gR 3), (1, gR 412)]) [0, 1] rfl ?_
  refine g_aloadn (pc := 0) (i := 0) (x := 3) hK dd_X9_isWord_0 rfl rfl ?_
  refine g_geti (pc := 1) (f := (0, 0)) (j := 3) hK (kdm kd_3) rfl ef_9 (by decide) rfl kk_42 nl_3 dd_X9_isWord_1 rfl (fun x1 ex1 rx1 => ?_)
  refine g_aloadn (pc := 4) (i := 0) (x := 3) hK dd_X9_isWord_4 rfl rfl ?_
  refine g_geti (pc := 5) (f := (0, 0)) (j := 2) hK (kdm kd_3) rfl ef_9 (by decide) rfl kk_41 nl_3 dd_X9_isWord_5 rfl (fun x2 ex2 rx2 => ?_)
  refine g_isub (pc := 8) (z := x1 - x2) hK dd_X9_isWord_8 rfl ?_
  refine g_aloadn (pc := 9) (i := 1) (x := 412) hK dd_X9_isWord_9 rfl rfl ?_
  refine g_len (pc := 10) 2 rfl hK ws_Tape_69 ⟨Nat.zero_le _, Nat.zero_le _⟩ ⟨by decide, by decide⟩ (Nat.le_of_ble_eq_true rfl) dd_X9_isWord_10 (by decide) ?_
  refine g_topv (v := gI 5) rfl ?_
  refine g_icmp_eq (pc := 13) (tgt := 18) hK dd_X9_isWord_13 (by decide) ⟨by omega, by omega⟩ (by decide) (fun c3 => ?_) (fun c3 => ?_)
  · have hln_ : (M 3 3).toNat - (M 3 2).toNat = 5 := by omega
    refine g_iconst (pc := 18) (x := 0) hK dd_X9_isWord_18 (by decide) ?_
    refine g_istoren (pc := 19) (i := 2) (L' := [(0, gR 3), (1, gR 412), (2, gI 0)]) hK dd_X9_isWord_19 rfl (by decide) rfl ?_
    have lp6 : ∀ (n4 : Nat) (i : Int), (0 ≤ i ∧ i ≤ 5) → (∀ j : Nat, (j : Int) < i → M 4 ((M 3 2).toNat + j) = ([114, 111, 117, 110, 100] : List Int).getD j 0) → (5 - i).toNat < n4 → G p l e (rmD 5) s m args below meth c D cy q A 0 0 3 (MQ below (gQc D cy q A Pq) args s 0 0 A) 20 [(0, gR 3), (1, gR 412), (2, gI i)] [] M := by
      intro n4
      induction n4 with
      | zero => intro i iv7 hw_ hm8; exact absurd hm8 (Nat.not_lt_zero _)
      | succ n4 ih5 =>
        intro i iv7 hw_ hm8
        refine g_iloadn (pc := 20) (i := 2) (x := i) hK dd_X9_isWord_20 rfl rfl ?_
        refine g_aloadn (pc := 21) (i := 1) (x := 412) hK dd_X9_isWord_21 rfl rfl ?_
        refine g_len (pc := 22) 2 rfl hK ws_Tape_69 ⟨Nat.zero_le _, Nat.zero_le _⟩ ⟨by decide, by decide⟩ (Nat.le_of_ble_eq_true rfl) dd_X9_isWord_22 (by decide) ?_
        refine g_topv (v := gI 5) rfl ?_
        refine g_icmp_ge (pc := 25) (tgt := 55) hK dd_X9_isWord_25 (by decide) ⟨by omega, by omega⟩ (by decide) (fun c9 => ?_) (fun c9 => ?_)
        · have hyes_ : wdIs (M 4) (M 3 2).toNat (M 3 3).toNat [114, 111, 117, 110, 100] := ⟨hln_, by omega, fun j hj => hw_ j (by have q_ : j < 5 := hj; omega)⟩
          refine g_iconst (pc := 55) (x := 1) hK dd_X9_isWord_55 (by decide) ?_
          refine g_iret (pc := 56) hK hr hlocks dd_X9_isWord_56 rfl ?_
          exact g_finM (hT (by first | exact hyes_ | exact hno_)) (by first | rfl | (subst_vars; rfl))
        · refine g_aloadn (pc := 28) (i := 0) (x := 3) hK dd_X9_isWord_28 rfl rfl ?_
          refine g_getv (pc := 29) (f := (1, 1)) (j := 0) (v := gR 4) hK (kdm kd_3) rfl ef_9 (by decide) rfl kk_38 dd_X9_isWord_29 rfl ?_
          refine g_aloadn (pc := 32) (i := 0) (x := 3) hK dd_X9_isWord_32 rfl rfl ?_
          refine g_geti (pc := 33) (f := (0, 0)) (j := 2) hK (kdm kd_3) rfl ef_9 (by decide) rfl kk_41 nl_3 dd_X9_isWord_33 rfl (fun x10 ex10 rx10 => ?_)
          refine g_iloadn (pc := 36) (i := 2) (x := i) hK dd_X9_isWord_36 rfl rfl ?_
          refine g_iadd (pc := 37) (z := x10 + i) hK dd_X9_isWord_37 rfl ?_
          have hix_ : (x10 + i).toNat = (M 3 2).toNat + i.toNat := by omega
          refine g_bald (pc := 38) hK (kdm kd_4) nl_4 (by decide) dd_X9_isWord_38 (by omega) (by omega) (fun x11 ex11 rx11 => ?_)
          refine g_aloadn (pc := 39) (i := 1) (x := 412) hK dd_X9_isWord_39 rfl rfl ?_
          refine g_iloadn (pc := 40) (i := 2) (x := i) hK dd_X9_isWord_40 rfl rfl ?_
          have hy12 := wd_in (w := [114, 111, 117, 110, 100]) (by decide) i.toNat
          refine g_chr (pc := 41) 2 rfl hK ws_Tape_74 ⟨Nat.zero_le _, Nat.zero_le _⟩ ⟨by decide, by decide⟩ (Nat.le_of_ble_eq_true rfl) dd_X9_isWord_41 (by decide) (by omega) (by omega) hy12 ?_
          refine g_topv (v := gI (([114, 111, 117, 110, 100] : List Int).getD i.toNat 0)) rfl ?_
          refine g_topI (fun y12 ey12 => ?_)
          rw [← ey12] at hy12
          have hch_ : y12 = ([114, 111, 117, 110, 100] : List Int).getD i.toNat 0 := ey12
          have hby_ : x11 = M 4 ((M 3 2).toNat + i.toNat) := by rw [← hix_]; exact ex11
          refine g_icmp_eq (pc := 44) (tgt := 49) hK dd_X9_isWord_44 (by decide) rx11 ⟨by omega, by omega⟩ (fun c13 => ?_) (fun c13 => ?_)
          · have hcs_ : M 4 ((M 3 2).toNat + i.toNat) = ([114, 111, 117, 110, 100] : List Int).getD i.toNat 0 := by rw [← hby_, ← hch_]; omega
            refine g_iinc (pc := 49) (i := 2) (y := i + 1) (L' := [(0, gR 3), (1, gR 412), (2, gI (i + 1))]) hK dd_X9_isWord_49 rfl rfl (by decide) rfl ?_
            refine g_goto (pc := 52) (tgt := 20) hK dd_X9_isWord_52 (by decide) ?_
            refine g_sub (L' := [(0, gR 3), (1, gR 412), (2, gI (i + 1))]) [0, 1, 2] rfl ?_
            exact ih5 (i + 1) (by omega) (fun j hj => by
              by_cases e : (j : Int) < i
              · exact hw_ j e
              · rw [show j = i.toNat by omega]; exact hcs_) (by omega)
          · have hno_ : ¬ wdIs (M 4) (M 3 2).toNat (M 3 3).toNat [114, 111, 117, 110, 100] := fun z => by
              have q_ := z.2.2 i.toNat (by show i.toNat < 5; omega)
              rw [← hby_, ← hch_] at q_
              omega
            refine g_iconst (pc := 47) (x := 0) hK dd_X9_isWord_47 (by decide) ?_
            refine g_iret (pc := 48) hK hr hlocks dd_X9_isWord_48 rfl ?_
            exact g_finM (hF (by first | exact hyes_ | exact hno_)) (by first | rfl | (subst_vars; rfl))
    refine g_sub (L' := [(0, gR 3), (1, gR 412), (2, gI 0)]) [0, 1, 2] rfl ?_
    exact lp6 _ 0 (by omega) (fun j hj => by omega) (Nat.lt_succ_self _)
  · have hno_ : ¬ wdIs (M 4) (M 3 2).toNat (M 3 3).toNat [114, 111, 117, 110, 100] := fun z => by
      have q_ : (M 3 3).toNat - (M 3 2).toNat = 5 := z.1
      omega
    refine g_iconst (pc := 16) (x := 0) hK dd_X9_isWord_16 (by decide) ?_
    refine g_iret (pc := 17) hK hr hlocks dd_X9_isWord_17 rfl ?_
    exact g_finM (hF (by first | exact hyes_ | exact hno_)) (by first | rfl | (subst_vars; rfl))
set_option maxHeartbeats 4000000 in
set_option maxRecDepth 100000 in
theorem c_isWord3 {l : Launch} {M : Mem} {Pq : Option gV → Mem → Prop} (hbe : 0 ≤ M 3 2 ∧ M 3 2 ≤ M 3 3 ∧ M 3 3 ≤ 120) (hT : (wdIs (M 4) (M 3 2).toNat (M 3 3).toNat [108, 101, 97, 115, 116]) → Pq (some (gI 1)) M) (hF : ¬ (wdIs (M 4) (M 3 2).toNat (M 3 3).toNat [108, 101, 97, 115, 116]) → Pq (some (gI 0)) M) : gCtr l my_X9_isWord mb_X9_isWord 3 ((some .boolean)) 5 [gR 3, gR 413] M Pq := by
  refine g_intro (by decide) (Nat.le_of_ble_eq_true rfl) ?_
  intro p e s m args below meth c D cy q A hK hr hlocks hw
  refine g_sub (L' := [(0, gR 3), (1, gR 413)]) [0, 1] rfl ?_
  refine g_aloadn (pc := 0) (i := 0) (x := 3) hK dd_X9_isWord_0 rfl rfl ?_
  refine g_geti (pc := 1) (f := (0, 0)) (j := 3) hK (kdm kd_3) rfl ef_9 (by decide) rfl kk_42 nl_3 dd_X9_isWord_1 rfl (fun x1 ex1 rx1 => ?_)
  refine g_aloadn (pc := 4) (i := 0) (x := 3) hK dd_X9_isWord_4 rfl rfl ?_
  refine g_geti (pc := 5) (f := (0, 0)) (j := 2) hK (kdm kd_3) rfl ef_9 (by decide) rfl kk_41 nl_3 dd_X9_isWord_5 rfl (fun x2 ex2 rx2 => ?_)
  refine g_isub (pc := 8) (z := x1 - x2) hK dd_X9_isWord_8 rfl ?_
  refine g_aloadn (pc := 9) (i := 1) (x := 413) hK dd_X9_isWord_9 rfl rfl ?_
  refine g_len (pc := 10) 3 rfl hK ws_Tape_69 ⟨Nat.zero_le _, Nat.zero_le _⟩ ⟨by decide, by decide⟩ (Nat.le_of_ble_eq_true rfl) dd_X9_isWord_10 (by decide) ?_
  refine g_topv (v := gI 5) rfl ?_
  refine g_icmp_eq (pc := 13) (tgt := 18) hK dd_X9_isWord_13 (by decide) ⟨by omega, by omega⟩ (by decide) (fun c3 => ?_) (fun c3 => ?_)
  · have hln_ : (M 3 3).toNat - (M 3 2).toNat = 5 := by omega
    refine g_iconst (pc := 18) (x := 0) hK dd_X9_isWord_18 (by decide) ?_
    refine g_istoren (pc := 19) (i := 2) (L' := [(0, gR 3), (1, gR 413), (2, gI 0)]) hK dd_X9_isWord_19 rfl (by decide) rfl ?_
    have lp6 : ∀ (n4 : Nat) (i : Int), (0 ≤ i ∧ i ≤ 5) → (∀ j : Nat, (j : Int) < i → M 4 ((M 3 2).toNat + j) = ([108, 101, 97, 115, 116] : List Int).getD j 0) → (5 - i).toNat < n4 → G p l e (rmD 5) s m args below meth c D cy q A 0 0 3 (MQ below (gQc D cy q A Pq) args s 0 0 A) 20 [(0, gR 3), (1, gR 413), (2, gI i)] [] M := by
      intro n4
      induction n4 with
      | zero => intro i iv7 hw_ hm8; exact absurd hm8 (Nat.not_lt_zero _)
      | succ n4 ih5 =>
        intro i iv7 hw_ hm8
        refine g_iloadn (pc := 20) (i := 2) (x := i) hK dd_X9_isWord_20 rfl rfl ?_
        refine g_aloadn (pc := 21) (i := 1) (x := 413) hK dd_X9_isWord_21 rfl rfl ?_
        refine g_len (pc := 22) 3 rfl hK ws_Tape_69 ⟨Nat.zero_le _, Nat.zero_le _⟩ ⟨by decide, by decide⟩ (Nat.le_of_ble_eq_true rfl) dd_X9_isWord_22 (by decide) ?_
        refine g_topv (v := gI 5) rfl ?_
        refine g_icmp_ge (pc := 25) (tgt := 55) hK dd_X9_isWord_25 (by decide) ⟨by omega, by omega⟩ (by decide) (fun c9 => ?_) (fun c9 => ?_)
        · have hyes_ : wdIs (M 4) (M 3 2).toNat (M 3 3).toNat [108, 101, 97, 115, 116] := ⟨hln_, by omega, fun j hj => hw_ j (by have q_ : j < 5 := hj; omega)⟩
          refine g_iconst (pc := 55) (x := 1) hK dd_X9_isWord_55 (by decide) ?_
          refine g_iret (pc := 56) hK hr hlocks dd_X9_isWord_56 rfl ?_
          exact g_finM (hT (by first | exact hyes_ | exact hno_)) (by first | rfl | (subst_vars; rfl))
        · refine g_aloadn (pc := 28) (i := 0) (x := 3) hK dd_X9_isWord_28 rfl rfl ?_
          refine g_getv (pc := 29) (f := (1, 1)) (j := 0) (v := gR 4) hK (kdm kd_3) rfl ef_9 (by decide) rfl kk_38 dd_X9_isWord_29 rfl ?_
          refine g_aloadn (pc := 32) (i := 0) (x := 3) hK dd_X9_isWord_32 rfl rfl ?_
          refine g_geti (pc := 33) (f := (0, 0)) (j := 2) hK (kdm kd_3) rfl ef_9 (by decide) rfl kk_41 nl_3 dd_X9_isWord_33 rfl (fun x10 ex10 rx10 => ?_)
          refine g_iloadn (pc := 36) (i := 2) (x := i) hK dd_X9_isWord_36 rfl rfl ?_
          refine g_iadd (pc := 37) (z := x10 + i) hK dd_X9_isWord_37 rfl ?_
          have hix_ : (x10 + i).toNat = (M 3 2).toNat + i.toNat := by omega
          refine g_bald (pc := 38) hK (kdm kd_4) nl_4 (by decide) dd_X9_isWord_38 (by omega) (by omega) (fun x11 ex11 rx11 => ?_)
          refine g_aloadn (pc := 39) (i := 1) (x := 413) hK dd_X9_isWord_39 rfl rfl ?_
          refine g_iloadn (pc := 40) (i := 2) (x := i) hK dd_X9_isWord_40 rfl rfl ?_
          have hy12 := wd_in (w := [108, 101, 97, 115, 116]) (by decide) i.toNat
          refine g_chr (pc := 41) 3 rfl hK ws_Tape_74 ⟨Nat.zero_le _, Nat.zero_le _⟩ ⟨by decide, by decide⟩ (Nat.le_of_ble_eq_true rfl) dd_X9_isWord_41 (by decide) (by omega) (by omega) hy12 ?_
          refine g_topv (v := gI (([108, 101, 97, 115, 116] : List Int).getD i.toNat 0)) rfl ?_
          refine g_topI (fun y12 ey12 => ?_)
          rw [← ey12] at hy12
          have hch_ : y12 = ([108, 101, 97, 115, 116] : List Int).getD i.toNat 0 := ey12
          have hby_ : x11 = M 4 ((M 3 2).toNat + i.toNat) := by rw [← hix_]; exact ex11
          refine g_icmp_eq (pc := 44) (tgt := 49) hK dd_X9_isWord_44 (by decide) rx11 ⟨by omega, by omega⟩ (fun c13 => ?_) (fun c13 => ?_)
          · have hcs_ : M 4 ((M 3 2).toNat + i.toNat) = ([108, 101, 97, 115, 116] : List Int).getD i.toNat 0 := by rw [← hby_, ← hch_]; omega
            refine g_iinc (pc := 49) (i := 2) (y := i + 1) (L' := [(0, gR 3), (1, gR 413), (2, gI (i + 1))]) hK dd_X9_isWord_49 rfl rfl (by decide) rfl ?_
            refine g_goto (pc := 52) (tgt := 20) hK dd_X9_isWord_52 (by decide) ?_
            refine g_sub (L' := [(0, gR 3), (1, gR 413), (2, gI (i + 1))]) [0, 1, 2] rfl ?_
            exact ih5 (i + 1) (by omega) (fun j hj => by
              by_cases e : (j : Int) < i
              · exact hw_ j e
              · rw [show j = i.toNat by omega]; exact hcs_) (by omega)
          · have hno_ : ¬ wdIs (M 4) (M 3 2).toNat (M 3 3).toNat [108, 101, 97, 115, 116] := fun z => by
              have q_ := z.2.2 i.toNat (by show i.toNat < 5; omega)
              rw [← hby_, ← hch_] at q_
              omega
            refine g_iconst (pc := 47) (x := 0) hK dd_X9_isWord_47 (by decide) ?_
            refine g_iret (pc := 48) hK hr hlocks dd_X9_isWord_48 rfl ?_
            exact g_finM (hF (by first | exact hyes_ | exact hno_)) (by first | rfl | (subst_vars; rfl))
    refine g_sub (L' := [(0, gR 3), (1, gR 413), (2, gI 0)]) [0, 1, 2] rfl ?_
    exact lp6 _ 0 (by omega) (fun j hj => by omega) (Nat.lt_succ_self _)
  · have hno_ : ¬ wdIs (M 4) (M 3 2).toNat (M 3 3).toNat [108, 101, 97, 115, 116] := fun z => by
      have q_ : (M 3 3).toNat - (M 3 2).toNat = 5 := z.1
      omega
    refine g_iconst (pc := 16) (x := 0) hK dd_X9_isWord_16 (by decide) ?_
    refine g_iret (pc := 17) hK hr hlocks dd_X9_isWord_17 rfl ?_
    exact g_finM (hF (by first | exact hyes_ | exact hno_)) (by first | rfl | (subst_vars; rfl))
set_option maxHeartbeats 4000000 in
set_option maxRecDepth 100000 in
theorem c_isWord4 {l : Launch} {M : Mem} {Pq : Option gV → Mem → Prop} (hbe : 0 ≤ M 3 2 ∧ M 3 2 ≤ M 3 3 ∧ M 3 3 ≤ 120) (hT : (wdIs (M 4) (M 3 2).toNat (M 3 3).toNat [109, 111, 115, 116]) → Pq (some (gI 1)) M) (hF : ¬ (wdIs (M 4) (M 3 2).toNat (M 3 3).toNat [109, 111, 115, 116]) → Pq (some (gI 0)) M) : gCtr l my_X9_isWord mb_X9_isWord 3 ((some .boolean)) 5 [gR 3, gR 414] M Pq := by
  refine g_intro (by decide) (Nat.le_of_ble_eq_true rfl) ?_
  intro p e s m args below meth c D cy q A hK hr hlocks hw
  refine g_sub (L' := [(0, gR 3), (1, gR 414)]) [0, 1] rfl ?_
  refine g_aloadn (pc := 0) (i := 0) (x := 3) hK dd_X9_isWord_0 rfl rfl ?_
  refine g_geti (pc := 1) (f := (0, 0)) (j := 3) hK (kdm kd_3) rfl ef_9 (by decide) rfl kk_42 nl_3 dd_X9_isWord_1 rfl (fun x1 ex1 rx1 => ?_)
  refine g_aloadn (pc := 4) (i := 0) (x := 3) hK dd_X9_isWord_4 rfl rfl ?_
  refine g_geti (pc := 5) (f := (0, 0)) (j := 2) hK (kdm kd_3) rfl ef_9 (by decide) rfl kk_41 nl_3 dd_X9_isWord_5 rfl (fun x2 ex2 rx2 => ?_)
  refine g_isub (pc := 8) (z := x1 - x2) hK dd_X9_isWord_8 rfl ?_
  refine g_aloadn (pc := 9) (i := 1) (x := 414) hK dd_X9_isWord_9 rfl rfl ?_
  refine g_len (pc := 10) 4 rfl hK ws_Tape_69 ⟨Nat.zero_le _, Nat.zero_le _⟩ ⟨by decide, by decide⟩ (Nat.le_of_ble_eq_true rfl) dd_X9_isWord_10 (by decide) ?_
  refine g_topv (v := gI 4) rfl ?_
  refine g_icmp_eq (pc := 13) (tgt := 18) hK dd_X9_isWord_13 (by decide) ⟨by omega, by omega⟩ (by decide) (fun c3 => ?_) (fun c3 => ?_)
  · have hln_ : (M 3 3).toNat - (M 3 2).toNat = 4 := by omega
    refine g_iconst (pc := 18) (x := 0) hK dd_X9_isWord_18 (by decide) ?_
    refine g_istoren (pc := 19) (i := 2) (L' := [(0, gR 3), (1, gR 414), (2, gI 0)]) hK dd_X9_isWord_19 rfl (by decide) rfl ?_
    have lp6 : ∀ (n4 : Nat) (i : Int), (0 ≤ i ∧ i ≤ 4) → (∀ j : Nat, (j : Int) < i → M 4 ((M 3 2).toNat + j) = ([109, 111, 115, 116] : List Int).getD j 0) → (4 - i).toNat < n4 → G p l e (rmD 5) s m args below meth c D cy q A 0 0 3 (MQ below (gQc D cy q A Pq) args s 0 0 A) 20 [(0, gR 3), (1, gR 414), (2, gI i)] [] M := by
      intro n4
      induction n4 with
      | zero => intro i iv7 hw_ hm8; exact absurd hm8 (Nat.not_lt_zero _)
      | succ n4 ih5 =>
        intro i iv7 hw_ hm8
        refine g_iloadn (pc := 20) (i := 2) (x := i) hK dd_X9_isWord_20 rfl rfl ?_
        refine g_aloadn (pc := 21) (i := 1) (x := 414) hK dd_X9_isWord_21 rfl rfl ?_
        refine g_len (pc := 22) 4 rfl hK ws_Tape_69 ⟨Nat.zero_le _, Nat.zero_le _⟩ ⟨by decide, by decide⟩ (Nat.le_of_ble_eq_true rfl) dd_X9_isWord_22 (by decide) ?_
        refine g_topv (v := gI 4) rfl ?_
        refine g_icmp_ge (pc := 25) (tgt := 55) hK dd_X9_isWord_25 (by decide) ⟨by omega, by omega⟩ (by decide) (fun c9 => ?_) (fun c9 => ?_)
        · have hyes_ : wdIs (M 4) (M 3 2).toNat (M 3 3).toNat [109, 111, 115, 116] := ⟨hln_, by omega, fun j hj => hw_ j (by have q_ : j < 4 := hj; omega)⟩
          refine g_iconst (pc := 55) (x := 1) hK dd_X9_isWord_55 (by decide) ?_
          refine g_iret (pc := 56) hK hr hlocks dd_X9_isWord_56 rfl ?_
          exact g_finM (hT (by first | exact hyes_ | exact hno_)) (by first | rfl | (subst_vars; rfl))
        · refine g_aloadn (pc := 28) (i := 0) (x := 3) hK dd_X9_isWord_28 rfl rfl ?_
          refine g_getv (pc := 29) (f := (1, 1)) (j := 0) (v := gR 4) hK (kdm kd_3) rfl ef_9 (by decide) rfl kk_38 dd_X9_isWord_29 rfl ?_
          refine g_aloadn (pc := 32) (i := 0) (x := 3) hK dd_X9_isWord_32 rfl rfl ?_
          refine g_geti (pc := 33) (f := (0, 0)) (j := 2) hK (kdm kd_3) rfl ef_9 (by decide) rfl kk_41 nl_3 dd_X9_isWord_33 rfl (fun x10 ex10 rx10 => ?_)
          refine g_iloadn (pc := 36) (i := 2) (x := i) hK dd_X9_isWord_36 rfl rfl ?_
          refine g_iadd (pc := 37) (z := x10 + i) hK dd_X9_isWord_37 rfl ?_
          have hix_ : (x10 + i).toNat = (M 3 2).toNat + i.toNat := by omega
          refine g_bald (pc := 38) hK (kdm kd_4) nl_4 (by decide) dd_X9_isWord_38 (by omega) (by omega) (fun x11 ex11 rx11 => ?_)
          refine g_aloadn (pc := 39) (i := 1) (x := 414) hK dd_X9_isWord_39 rfl rfl ?_
          refine g_iloadn (pc := 40) (i := 2) (x := i) hK dd_X9_isWord_40 rfl rfl ?_
          have hy12 := wd_in (w := [109, 111, 115, 116]) (by decide) i.toNat
          refine g_chr (pc := 41) 4 rfl hK ws_Tape_74 ⟨Nat.zero_le _, Nat.zero_le _⟩ ⟨by decide, by decide⟩ (Nat.le_of_ble_eq_true rfl) dd_X9_isWord_41 (by decide) (by omega) (by omega) hy12 ?_
          refine g_topv (v := gI (([109, 111, 115, 116] : List Int).getD i.toNat 0)) rfl ?_
          refine g_topI (fun y12 ey12 => ?_)
          rw [← ey12] at hy12
          have hch_ : y12 = ([109, 111, 115, 116] : List Int).getD i.toNat 0 := ey12
          have hby_ : x11 = M 4 ((M 3 2).toNat + i.toNat) := by rw [← hix_]; exact ex11
          refine g_icmp_eq (pc := 44) (tgt := 49) hK dd_X9_isWord_44 (by decide) rx11 ⟨by omega, by omega⟩ (fun c13 => ?_) (fun c13 => ?_)
          · have hcs_ : M 4 ((M 3 2).toNat + i.toNat) = ([109, 111, 115, 116] : List Int).getD i.toNat 0 := by rw [← hby_, ← hch_]; omega
            refine g_iinc (pc := 49) (i := 2) (y := i + 1) (L' := [(0, gR 3), (1, gR 414), (2, gI (i + 1))]) hK dd_X9_isWord_49 rfl rfl (by decide) rfl ?_
            refine g_goto (pc := 52) (tgt := 20) hK dd_X9_isWord_52 (by decide) ?_
            refine g_sub (L' := [(0, gR 3), (1, gR 414), (2, gI (i + 1))]) [0, 1, 2] rfl ?_
            exact ih5 (i + 1) (by omega) (fun j hj => by
              by_cases e : (j : Int) < i
              · exact hw_ j e
              · rw [show j = i.toNat by omega]; exact hcs_) (by omega)
          · have hno_ : ¬ wdIs (M 4) (M 3 2).toNat (M 3 3).toNat [109, 111, 115, 116] := fun z => by
              have q_ := z.2.2 i.toNat (by show i.toNat < 4; omega)
              rw [← hby_, ← hch_] at q_
              omega
            refine g_iconst (pc := 47) (x := 0) hK dd_X9_isWord_47 (by decide) ?_
            refine g_iret (pc := 48) hK hr hlocks dd_X9_isWord_48 rfl ?_
            exact g_finM (hF (by first | exact hyes_ | exact hno_)) (by first | rfl | (subst_vars; rfl))
    refine g_sub (L' := [(0, gR 3), (1, gR 414), (2, gI 0)]) [0, 1, 2] rfl ?_
    exact lp6 _ 0 (by omega) (fun j hj => by omega) (Nat.lt_succ_self _)
  · have hno_ : ¬ wdIs (M 4) (M 3 2).toNat (M 3 3).toNat [109, 111, 115, 116] := fun z => by
      have q_ : (M 3 3).toNat - (M 3 2).toNat = 4 := z.1
      omega
    refine g_iconst (pc := 16) (x := 0) hK dd_X9_isWord_16 (by decide) ?_
    refine g_iret (pc := 17) hK hr hlocks dd_X9_isWord_17 rfl ?_
    exact g_finM (hF (by first | exact hyes_ | exact hno_)) (by first | rfl | (subst_vars; rfl))
set_option maxHeartbeats 4000000 in
set_option maxRecDepth 100000 in
theorem c_partNamed {l : Launch} {M : Mem} {Pq : Option gV → Mem → Prop} (hbe : 0 ≤ M 3 2 ∧ M 3 2 ≤ M 3 3 ∧ M 3 3 ≤ 120) (hQ : Pq (some (gI (wdN (M 4) (M 3 2).toNat (M 3 3).toNat))) M) : gCtr l my_X9_partNamed mb_X9_partNamed 1 ((some .int)) 6 [gR 3] M Pq := by
  refine g_intro (by decide) (Nat.le_of_ble_eq_true rfl) ?_
  intro p e s m args below meth c D cy q A hK hr hlocks hw
  refine g_sub (L' := [(0, gR 3)]) [0] rfl ?_
  refine g_aloadn (pc := 0) (i := 0) (x := 3) hK dd_X9_partNamed_0 rfl rfl ?_
  refine g_ldcS (pc := 1) hK 0 rfl dd_X9_partNamed_1 ?_
  refine g_callV (pc := 3) (As := [gR 410]) hK ws_Tape_57 md_X9_isWord ⟨Nat.zero_le _, Nat.zero_le _⟩ ⟨by decide, by decide⟩ (kdm kd_3) rfl rfl dd_X9_partNamed_3 rfl rfl (Nat.le_of_ble_eq_true rfl) (c_isWord0 hbe (fun c1 => g_r1 ?_) (fun c1 => g_r1 ?_))
  · refine g_if_eq (pc := 6) (tgt := 11) hK dd_X9_partNamed_6 (by decide) (by decide) (fun c2 => absurd c2 (by decide)) (fun _ => ?_)
    refine g_iconst (pc := 9) (x := 0) hK dd_X9_partNamed_9 (by decide) ?_
    refine g_iret (pc := 10) hK hr hlocks dd_X9_partNamed_10 rfl ?_
    exact g_fin hQ (by unfold wdN; rw [if_pos (by assumption)]) (by first | rfl | (subst_vars; rfl))
  · refine g_if_eq (pc := 6) (tgt := 11) hK dd_X9_partNamed_6 (by decide) (by decide) (fun _ => ?_) (fun c3 => absurd (by decide) c3)
    refine g_aloadn (pc := 11) (i := 0) (x := 3) hK dd_X9_partNamed_11 rfl rfl ?_
    refine g_ldcS (pc := 12) hK 1 rfl dd_X9_partNamed_12 ?_
    refine g_callV (pc := 14) (As := [gR 411]) hK ws_Tape_57 md_X9_isWord ⟨Nat.zero_le _, Nat.zero_le _⟩ ⟨by decide, by decide⟩ (kdm kd_3) rfl rfl dd_X9_partNamed_14 rfl rfl (Nat.le_of_ble_eq_true rfl) (c_isWord1 hbe (fun c4 => g_r1 ?_) (fun c4 => g_r1 ?_))
    · refine g_if_eq (pc := 17) (tgt := 22) hK dd_X9_partNamed_17 (by decide) (by decide) (fun c5 => absurd c5 (by decide)) (fun _ => ?_)
      refine g_iconst (pc := 20) (x := 1) hK dd_X9_partNamed_20 (by decide) ?_
      refine g_iret (pc := 21) hK hr hlocks dd_X9_partNamed_21 rfl ?_
      exact g_fin hQ (by unfold wdN; rw [if_neg (by assumption), if_pos (by assumption)]) (by first | rfl | (subst_vars; rfl))
    · refine g_if_eq (pc := 17) (tgt := 22) hK dd_X9_partNamed_17 (by decide) (by decide) (fun _ => ?_) (fun c6 => absurd (by decide) c6)
      refine g_aloadn (pc := 22) (i := 0) (x := 3) hK dd_X9_partNamed_22 rfl rfl ?_
      refine g_ldcS (pc := 23) hK 2 rfl dd_X9_partNamed_23 ?_
      refine g_callV (pc := 25) (As := [gR 412]) hK ws_Tape_57 md_X9_isWord ⟨Nat.zero_le _, Nat.zero_le _⟩ ⟨by decide, by decide⟩ (kdm kd_3) rfl rfl dd_X9_partNamed_25 rfl rfl (Nat.le_of_ble_eq_true rfl) (c_isWord2 hbe (fun c7 => g_r1 ?_) (fun c7 => g_r1 ?_))
      · refine g_if_eq (pc := 28) (tgt := 33) hK dd_X9_partNamed_28 (by decide) (by decide) (fun c8 => absurd c8 (by decide)) (fun _ => ?_)
        refine g_iconst (pc := 31) (x := 2) hK dd_X9_partNamed_31 (by decide) ?_
        refine g_iret (pc := 32) hK hr hlocks dd_X9_partNamed_32 rfl ?_
        exact g_fin hQ (by unfold wdN; rw [if_neg (by assumption), if_neg (by assumption), if_pos (by assumption)]) (by first | rfl | (subst_vars; rfl))
      · refine g_if_eq (pc := 28) (tgt := 33) hK dd_X9_partNamed_28 (by decide) (by decide) (fun _ => ?_) (fun c9 => absurd (by decide) c9)
        refine g_aloadn (pc := 33) (i := 0) (x := 3) hK dd_X9_partNamed_33 rfl rfl ?_
        refine g_ldcS (pc := 34) hK 3 rfl dd_X9_partNamed_34 ?_
        refine g_callV (pc := 36) (As := [gR 413]) hK ws_Tape_57 md_X9_isWord ⟨Nat.zero_le _, Nat.zero_le _⟩ ⟨by decide, by decide⟩ (kdm kd_3) rfl rfl dd_X9_partNamed_36 rfl rfl (Nat.le_of_ble_eq_true rfl) (c_isWord3 hbe (fun c10 => g_r1 ?_) (fun c10 => g_r1 ?_))
        · refine g_if_eq (pc := 39) (tgt := 44) hK dd_X9_partNamed_39 (by decide) (by decide) (fun c11 => absurd c11 (by decide)) (fun _ => ?_)
          refine g_iconst (pc := 42) (x := 3) hK dd_X9_partNamed_42 (by decide) ?_
          refine g_iret (pc := 43) hK hr hlocks dd_X9_partNamed_43 rfl ?_
          exact g_fin hQ (by unfold wdN; rw [if_neg (by assumption), if_neg (by assumption), if_neg (by assumption), if_pos (by assumption)]) (by first | rfl | (subst_vars; rfl))
        · refine g_if_eq (pc := 39) (tgt := 44) hK dd_X9_partNamed_39 (by decide) (by decide) (fun _ => ?_) (fun c12 => absurd (by decide) c12)
          refine g_aloadn (pc := 44) (i := 0) (x := 3) hK dd_X9_partNamed_44 rfl rfl ?_
          refine g_ldcS (pc := 45) hK 4 rfl dd_X9_partNamed_45 ?_
          refine g_callV (pc := 47) (As := [gR 414]) hK ws_Tape_57 md_X9_isWord ⟨Nat.zero_le _, Nat.zero_le _⟩ ⟨by decide, by decide⟩ (kdm kd_3) rfl rfl dd_X9_partNamed_47 rfl rfl (Nat.le_of_ble_eq_true rfl) (c_isWord4 hbe (fun c13 => g_r1 ?_) (fun c13 => g_r1 ?_))
          · refine g_if_eq (pc := 50) (tgt := 57) hK dd_X9_partNamed_50 (by decide) (by decide) (fun c14 => absurd c14 (by decide)) (fun _ => ?_)
            refine g_iconst (pc := 53) (x := 4) hK dd_X9_partNamed_53 (by decide) ?_
            refine g_goto (pc := 54) (tgt := 58) hK dd_X9_partNamed_54 (by decide) ?_
            refine g_iret (pc := 58) hK hr hlocks dd_X9_partNamed_58 rfl ?_
            exact g_fin hQ (by unfold wdN; rw [if_neg (by assumption), if_neg (by assumption), if_neg (by assumption), if_neg (by assumption), if_pos (by assumption)]) (by first | rfl | (subst_vars; rfl))
          · refine g_if_eq (pc := 50) (tgt := 57) hK dd_X9_partNamed_50 (by decide) (by decide) (fun _ => ?_) (fun c15 => absurd (by decide) c15)
            refine g_iconst (pc := 57) (x := (-1)) hK dd_X9_partNamed_57 (by decide) ?_
            refine g_iret (pc := 58) hK hr hlocks dd_X9_partNamed_58 rfl ?_
            exact g_fin hQ (by unfold wdN; rw [if_neg (by assumption), if_neg (by assumption), if_neg (by assumption), if_neg (by assumption), if_neg (by assumption)]) (by first | rfl | (subst_vars; rfl))
set_option maxHeartbeats 4000000 in
set_option maxRecDepth 100000 in
theorem c_number {l : Launch} {M : Mem} {Pq : Option gV → Mem → Prop} (hs : 0 ≤ M 3 1 ∧ M 3 1 ≤ 120) (hbe : 0 ≤ M 3 2 ∧ M 3 2 ≤ M 3 3 ∧ M 3 3 ≤ M 3 1) (hdg : M 3 2 < M 3 1 → isD (M 4 (M 3 2).toNat) = true → ∀ j, (M 3 2).toNat ≤ j → j < (M 3 3).toNat → isD (M 4 j) = true) (hQ : Pq (some (gI (nuV (M 4) (M 3 1).toNat (M 3 2).toNat (M 3 3).toNat))) M) : gCtr l my_X9_number mb_X9_number 3 ((some .int)) 2 [gR 3] M Pq := by
  refine g_intro (by decide) (Nat.le_of_ble_eq_true rfl) ?_
  intro p e s m args below meth c D cy q A hK hr hlocks hw
  refine g_sub (L' := [(0, gR 3)]) [0] rfl ?_
  refine g_aloadn (pc := 0) (i := 0) (x := 3) hK dd_X9_number_0 rfl rfl ?_
  refine g_geti (pc := 1) (f := (0, 0)) (j := 2) hK (kdm kd_3) rfl ef_9 (by decide) rfl kk_41 nl_3 dd_X9_number_1 rfl (fun x1 ex1 rx1 => ?_)
  refine g_aloadn (pc := 4) (i := 0) (x := 3) hK dd_X9_number_4 rfl rfl ?_
  refine g_geti (pc := 5) (f := (0, 0)) (j := 1) hK (kdm kd_3) rfl ef_9 (by decide) rfl kk_39 nl_3 dd_X9_number_5 rfl (fun x2 ex2 rx2 => ?_)
  refine g_icmp_ge (pc := 8) (tgt := 39) hK dd_X9_number_8 (by decide) rx1 rx2 (fun c3 => ?_) (fun c3 => ?_)
  · have hv_ : nuV (M 4) (M 3 1).toNat (M 3 2).toNat (M 3 3).toNat = -1 := by unfold nuV; rw [if_neg (fun z => absurd z.1 (by omega))]
    refine g_iconst (pc := 39) (x := (-1)) hK dd_X9_number_39 (by decide) ?_
    refine g_iret (pc := 40) hK hr hlocks dd_X9_number_40 rfl ?_
    exact g_fin hQ (by rw [hv_]) (by first | rfl | (subst_vars; rfl))
  · refine g_aloadn (pc := 11) (i := 0) (x := 3) hK dd_X9_number_11 rfl rfl ?_
    refine g_getv (pc := 12) (f := (1, 1)) (j := 0) (v := gR 4) hK (kdm kd_3) rfl ef_9 (by decide) rfl kk_38 dd_X9_number_12 rfl ?_
    refine g_aloadn (pc := 15) (i := 0) (x := 3) hK dd_X9_number_15 rfl rfl ?_
    refine g_geti (pc := 16) (f := (0, 0)) (j := 2) hK (kdm kd_3) rfl ef_9 (by decide) rfl kk_41 nl_3 dd_X9_number_16 rfl (fun x4 ex4 rx4 => ?_)
    refine g_bald (pc := 19) hK (kdm kd_4) nl_4 (by decide) dd_X9_number_19 (by omega) (by omega) (fun x5 ex5 rx5 => ?_)
    refine g_callT (pc := 20) (As := [gI x5]) hK ws_Tape_52 md_X9_isDigit ⟨Nat.zero_le _, Nat.zero_le _⟩ ⟨by decide, by decide⟩ dd_X9_number_20 rfl rfl (Nat.le_of_ble_eq_true rfl) (c_isDigit x5 rx5 (fun c6 => g_r1 ?_) (fun c6 => g_r1 ?_))
    · refine g_if_eq (pc := 23) (tgt := 39) hK dd_X9_number_23 (by decide) (by decide) (fun c7 => absurd c7 (by decide)) (fun _ => ?_)
      refine g_aloadn (pc := 26) (i := 0) (x := 3) hK dd_X9_number_26 rfl rfl ?_
      refine g_geti (pc := 27) (f := (0, 0)) (j := 3) hK (kdm kd_3) rfl ef_9 (by decide) rfl kk_42 nl_3 dd_X9_number_27 rfl (fun x8 ex8 rx8 => ?_)
      refine g_aloadn (pc := 30) (i := 0) (x := 3) hK dd_X9_number_30 rfl rfl ?_
      refine g_geti (pc := 31) (f := (0, 0)) (j := 2) hK (kdm kd_3) rfl ef_9 (by decide) rfl kk_41 nl_3 dd_X9_number_31 rfl (fun x9 ex9 rx9 => ?_)
      refine g_isub (pc := 34) (z := x8 - x9) hK dd_X9_number_34 rfl ?_
      refine g_iconst (pc := 35) (x := 3) hK dd_X9_number_35 (by decide) ?_
      refine g_icmp_le (pc := 36) (tgt := 41) hK dd_X9_number_36 (by decide) ⟨by omega, by omega⟩ (by decide) (fun c10 => ?_) (fun c10 => ?_)
      · have hd0_ : isD (M 4 (M 3 2).toNat) = true := isD_i.mpr (by subst_vars; omega)
        have hdd_ := hdg (by omega) hd0_
        refine g_iconst (pc := 41) (x := 0) hK dd_X9_number_41 (by decide) ?_
        refine g_istoren (pc := 42) (i := 1) (L' := [(0, gR 3), (1, gI 0)]) hK dd_X9_number_42 rfl (by decide) rfl ?_
        refine g_aloadn (pc := 43) (i := 0) (x := 3) hK dd_X9_number_43 rfl rfl ?_
        refine g_geti (pc := 44) (f := (0, 0)) (j := 2) hK (kdm kd_3) rfl ef_9 (by decide) rfl kk_41 nl_3 dd_X9_number_44 rfl (fun x11 ex11 rx11 => ?_)
        refine g_topv (v := gI (M 3 2)) (by rw [ex11]) ?_
        refine g_istoren (pc := 47) (i := 2) (L' := [(0, gR 3), (1, gI 0), (2, gI (M 3 2))]) hK dd_X9_number_47 rfl (by decide) rfl ?_
        have lp14 : ∀ (n12 : Nat) (nb : Int) (i : Int), (M 3 2 ≤ i ∧ i ≤ M 3 3) → (nb = numV (M 4) (M 3 2).toNat (i - M 3 2).toNat) → (M 3 3 - i).toNat < n12 → G p l e (rmD 2) s m args below meth c D cy q A 0 0 3 (MQ below (gQc D cy q A Pq) args s 0 0 A) 48 [(0, gR 3), (1, gI nb), (2, gI i)] [] M := by
          intro n12
          induction n12 with
          | zero => intro nb i iv15 hnb_ hm16; exact absurd hm16 (Nat.not_lt_zero _)
          | succ n12 ih13 =>
            intro nb i iv15 hnb_ hm16
            refine g_iloadn (pc := 48) (i := 2) (x := i) hK dd_X9_number_48 rfl rfl ?_
            refine g_aloadn (pc := 49) (i := 0) (x := 3) hK dd_X9_number_49 rfl rfl ?_
            refine g_geti (pc := 50) (f := (0, 0)) (j := 3) hK (kdm kd_3) rfl ef_9 (by decide) rfl kk_42 nl_3 dd_X9_number_50 rfl (fun x17 ex17 rx17 => ?_)
            refine g_icmp_ge (pc := 53) (tgt := 77) hK dd_X9_number_53 (by decide) ⟨by omega, by omega⟩ rx17 (fun c18 => ?_) (fun c18 => ?_)
            · have hv_ : nuV (M 4) (M 3 1).toNat (M 3 2).toNat (M 3 3).toNat = nb := by unfold nuV; rw [if_pos ⟨by omega, hd0_, by omega⟩, hnb_, show (M 3 3).toNat - (M 3 2).toNat = (i - M 3 2).toNat by omega]
              refine g_iloadn (pc := 77) (i := 1) (x := nb) hK dd_X9_number_77 rfl rfl ?_
              refine g_iret (pc := 78) hK hr hlocks dd_X9_number_78 rfl ?_
              exact g_fin hQ (by rw [hv_]) (by first | rfl | (subst_vars; rfl))
            · have hni_ := numV_in (f := M 4) (b := (M 3 2).toNat) (i - M 3 2).toNat (fun j hj => isD_i.mp (hdd_ _ (by omega) (by omega))) (by omega)
              have hnx_ := isD_i.mp (hdd_ i.toNat (by omega) (by omega))
              rw [← hnb_] at hni_
              refine g_bipush (pc := 56) (x := 10) hK dd_X9_number_56 (by decide) ?_
              refine g_iloadn (pc := 58) (i := 1) (x := nb) hK dd_X9_number_58 rfl rfl ?_
              refine g_imul (pc := 59) (z := 10 * nb) hK dd_X9_number_59 rfl ?_
              refine g_aloadn (pc := 60) (i := 0) (x := 3) hK dd_X9_number_60 rfl rfl ?_
              refine g_getv (pc := 61) (f := (1, 1)) (j := 0) (v := gR 4) hK (kdm kd_3) rfl ef_9 (by decide) rfl kk_38 dd_X9_number_61 rfl ?_
              refine g_iloadn (pc := 64) (i := 2) (x := i) hK dd_X9_number_64 rfl rfl ?_
              refine g_bald (pc := 65) hK (kdm kd_4) nl_4 (by decide) dd_X9_number_65 (by omega) (by omega) (fun x19 ex19 rx19 => ?_)
              refine g_iadd (pc := 66) (z := (10 * nb) + x19) hK dd_X9_number_66 rfl ?_
              refine g_bipush (pc := 67) (x := 48) hK dd_X9_number_67 (by decide) ?_
              refine g_isub (pc := 69) (z := ((10 * nb) + x19) - 48) hK dd_X9_number_69 rfl ?_
              refine g_istoren (pc := 70) (i := 1) (L' := [(0, gR 3), (1, gI (((10 * nb) + x19) - 48)), (2, gI i)]) hK dd_X9_number_70 rfl (by decide) rfl ?_
              refine g_iinc (pc := 71) (i := 2) (y := i + 1) (L' := [(0, gR 3), (1, gI (((10 * nb) + x19) - 48)), (2, gI (i + 1))]) hK dd_X9_number_71 rfl rfl (by decide) rfl ?_
              refine g_goto (pc := 74) (tgt := 48) hK dd_X9_number_74 (by decide) ?_
              refine g_sub (L' := [(0, gR 3), (1, gI (((10 * nb) + x19) - 48)), (2, gI (i + 1))]) [0, 1, 2] rfl ?_
              exact ih13 (((10 * nb) + x19) - 48) (i + 1) (by omega) (by rw [show (i + 1 - M 3 2).toNat = (i - M 3 2).toNat + 1 by omega]; simp only [numV]; rw [← hnb_, show (M 3 2).toNat + (i - M 3 2).toNat = i.toNat by omega]; omega) (by omega)
        refine g_sub (L' := [(0, gR 3), (1, gI 0), (2, gI (M 3 2))]) [0, 1, 2] rfl ?_
        exact lp14 _ 0 (M 3 2) (by omega) (by rw [show (M 3 2 - M 3 2).toNat = 0 by omega]; rfl) (Nat.lt_succ_self _)
      · have hv_ : nuV (M 4) (M 3 1).toNat (M 3 2).toNat (M 3 3).toNat = -1 := by unfold nuV; rw [if_neg (fun z => absurd z.2.2 (by omega))]
        refine g_iconst (pc := 39) (x := (-1)) hK dd_X9_number_39 (by decide) ?_
        refine g_iret (pc := 40) hK hr hlocks dd_X9_number_40 rfl ?_
        exact g_fin hQ (by rw [hv_]) (by first | rfl | (subst_vars; rfl))
    · refine g_if_eq (pc := 23) (tgt := 39) hK dd_X9_number_23 (by decide) (by decide) (fun _ => ?_) (fun c20 => absurd (by decide) c20)
      have hv_ : nuV (M 4) (M 3 1).toNat (M 3 2).toNat (M 3 3).toNat = -1 := by unfold nuV; rw [if_neg (fun z => absurd (isD_i.mp z.2.1) (by subst_vars; omega))]
      refine g_iconst (pc := 39) (x := (-1)) hK dd_X9_number_39 (by decide) ?_
      refine g_iret (pc := 40) hK hr hlocks dd_X9_number_40 rfl ?_
      exact g_fin hQ (by rw [hv_]) (by first | rfl | (subst_vars; rfl))
set_option maxHeartbeats 4000000 in
set_option maxRecDepth 100000 in
theorem c_append {l : Launch} {M : Mem} {Pq : Option gV → Mem → Prop} (v : Int) (n : Int) (hv : inI v) (hn : 1 ≤ n ∧ n ≤ 4) (hsz : 0 ≤ M 3 1 ∧ M 3 1 + n ≤ 120) (hQ : Pq none (up (sr M 4 (apS (M 4) (M 3 1).toNat v n n.toNat)) 3 1 (M 3 1 + n))) : gCtr l my_X9_append mb_X9_append 4 ((none : Option Jvm.ClassFile.FieldType)) 1 [gR 3, gI v, gI n] M Pq := by
  refine g_intro (by decide) (Nat.le_of_ble_eq_true rfl) ?_
  intro p e s m args below meth c D cy q A hK hr hlocks hw
  refine g_sub (L' := [(0, gR 3), (1, gI v), (2, gI n)]) [0, 1, 2] rfl ?_
  refine g_iloadn (pc := 0) (i := 2) (x := n) hK dd_X9_append_0 rfl rfl ?_
  refine g_iconst (pc := 1) (x := 1) hK dd_X9_append_1 (by decide) ?_
  refine g_isub (pc := 2) (z := n - 1) hK dd_X9_append_2 rfl ?_
  refine g_istoren (pc := 3) (i := 3) (L' := [(0, gR 3), (1, gI v), (2, gI n), (3, gI (n - 1))]) hK dd_X9_append_3 rfl (by decide) rfl ?_
  have lp3 : ∀ (n1 : Nat) (i : Int), (-1 ≤ i ∧ i ≤ n - 1) → (i + 1).toNat < n1 → G p l e (rmD 1) s m args below meth c D cy q A 0 0 4 (MQ below (gQc D cy q A Pq) args s 0 0 A) 4 [(0, gR 3), (1, gI v), (2, gI n), (3, gI i)] [] (up (sr M 4 (apS (M 4) (M 3 1).toNat v n (n - 1 - i).toNat)) 3 1 (M 3 1 + (n - 1 - i))) := by
    intro n1
    induction n1 with
    | zero => intro i iv4 hm5; exact absurd hm5 (Nat.not_lt_zero _)
    | succ n1 ih2 =>
      intro i iv4 hm5
      refine g_iloadn (pc := 4) (i := 3) (x := i) hK dd_X9_append_4 rfl rfl ?_
      refine g_if_lt (pc := 5) (tgt := 49) hK dd_X9_append_5 (by decide) ⟨by omega, by omega⟩ (fun c6 => ?_) (fun c6 => ?_)
      · refine g_vret (pc := 49) hK hr hlocks dd_X9_append_49 ?_
        exact g_finM hQ (by rw [show (n - 1 - i).toNat = n.toNat by omega, show M 3 1 + (n - 1 - i) = M 3 1 + n by omega])
      · refine g_aloadn (pc := 8) (i := 0) (x := 3) hK dd_X9_append_8 rfl rfl ?_
        refine g_geti (pc := 9) (f := (0, 0)) (j := 1) hK (kdm kd_3) rfl ef_9 (by decide) rfl kk_39 nl_3 dd_X9_append_9 rfl (fun x7 ex7 rx7 => ?_)
        replace ex7 : x7 = (M 3 1 + (n - 1 - i)) := by first | exact ex7 | (rw [ex7]; simp [up, us, cp, sr])
        refine g_bipush (pc := 12) (x := 120) hK dd_X9_append_12 (by decide) ?_
        refine g_icmp_ge (pc := 14) (tgt := 49) hK dd_X9_append_14 (by decide) rx7 (by decide) (fun c8 => absurd c8 (by omega)) (fun c8 => ?_)
        refine g_aloadn (pc := 17) (i := 0) (x := 3) hK dd_X9_append_17 rfl rfl ?_
        refine g_getv (pc := 18) (f := (1, 1)) (j := 0) (v := gR 4) hK (kdm kd_3) rfl ef_9 (by decide) rfl kk_38 dd_X9_append_18 rfl ?_
        refine g_aloadn (pc := 21) (i := 0) (x := 3) hK dd_X9_append_21 rfl rfl ?_
        refine g_geti (pc := 22) (f := (0, 0)) (j := 1) hK (kdm kd_3) rfl ef_9 (by decide) rfl kk_39 nl_3 dd_X9_append_22 rfl (fun x9 ex9 rx9 => ?_)
        replace ex9 : x9 = (M 3 1 + (n - 1 - i)) := by first | exact ex9 | (rw [ex9]; simp [up, us, cp, sr])
        refine g_topv (v := gI (M 3 1 + (n - 1 - i))) (by rw [ex9]) ?_
        have hix_ : (M 3 1 + (n - 1 - i)).toNat = (M 3 1).toNat + (n - 1 - i).toNat := by omega
        refine g_iloadn (pc := 25) (i := 1) (x := v) hK dd_X9_append_25 rfl rfl ?_
        refine g_bipush (pc := 26) (x := 8) hK dd_X9_append_26 (by decide) ?_
        refine g_iloadn (pc := 28) (i := 3) (x := i) hK dd_X9_append_28 rfl rfl ?_
        refine g_imul (pc := 29) (z := 8 * i) hK dd_X9_append_29 rfl ?_
        refine g_ishr (pc := 30) (z := jshr v (8 * i)) hK dd_X9_append_30 rfl ?_
        refine g_i2b (pc := 31) (z := jb (jshr v (8 * i))) hK dd_X9_append_31 (jb_eq _) ?_
        have hjb_ := jb_rng (jshr v (8 * i))
        refine g_bast (pc := 32) hK (kdm kd_4) nl_4 (by decide) (by decide) dd_X9_append_32 (by omega) (by omega) ⟨by omega, by omega⟩ ?_
        refine g_aloadn (pc := 33) (i := 0) (x := 3) hK dd_X9_append_33 rfl rfl ?_
        refine g_dup (pc := 34) hK dd_X9_append_34 rfl ?_
        refine g_geti (pc := 35) (f := (0, 0)) (j := 1) hK (kdm kd_3) rfl ef_9 (by decide) rfl kk_39 nl_3 dd_X9_append_35 rfl (fun x10 ex10 rx10 => ?_)
        replace ex10 : x10 = (M 3 1 + (n - 1 - i)) := by first | exact ex10 | (rw [ex10]; simp [up, us, cp, sr])
        refine g_topv (v := gI (M 3 1 + (n - 1 - i))) (by rw [ex10]) ?_
        refine g_iconst (pc := 38) (x := 1) hK dd_X9_append_38 (by decide) ?_
        refine g_iadd (pc := 39) (z := (M 3 1 + (n - 1 - i)) + 1) hK dd_X9_append_39 rfl ?_
        refine g_puti (pc := 40) (f := (0, 0)) (j := 1) (ty := .int) hK (kdm kd_3) rfl ef_9 (by decide) rfl kk_39 nl_3 (by decide) dd_X9_append_40 rfl rfl rfl rfl rfl ⟨by omega, by omega⟩ ?_
        refine g_iinc (pc := 43) (i := 3) (y := i - 1) (L' := [(0, gR 3), (1, gI v), (2, gI n), (3, gI (i - 1))]) hK dd_X9_append_43 rfl (by omega) (by decide) rfl ?_
        refine g_goto (pc := 46) (tgt := 4) hK dd_X9_append_46 (by decide) ?_
        refine g_sub (L' := [(0, gR 3), (1, gI v), (2, gI n), (3, gI (i - 1))]) [0, 1, 2, 3] rfl ?_
        refine g_mem (M2 := up (sr M 4 (apS (M 4) (M 3 1).toNat v n (n - 1 - (i - 1)).toNat)) 3 1 (M 3 1 + (n - 1 - (i - 1)))) (by rw [show (n - 1 - (i - 1)).toNat = (n - 1 - i).toNat + 1 by omega, ← apS_s (i := i) (by omega), ← hix_, show M 3 1 + (n - 1 - (i - 1)) = M 3 1 + (n - 1 - i) + 1 by omega]; funext a_ b_; unfold up us sr; by_cases h1_ : a_ = 3 <;> by_cases h2_ : a_ = 4 <;> by_cases h3_ : b_ = 1 <;> simp_all) ?_
        exact ih2 (i - 1) (by omega) (by omega)
  refine g_mem (M2 := up (sr M 4 (apS (M 4) (M 3 1).toNat v n (n - 1 - (n - 1)).toNat)) 3 1 (M 3 1 + (n - 1 - (n - 1)))) (by rw [show (n - 1 - (n - 1)).toNat = 0 by omega, show M 3 1 + (n - 1 - (n - 1)) = M 3 1 by omega, apS_0]; funext a_ b_; unfold up us sr; by_cases h1_ : a_ = 3 <;> by_cases h2_ : a_ = 4 <;> by_cases h3_ : b_ = 1 <;> simp_all) ?_
  refine g_sub (L' := [(0, gR 3), (1, gI v), (2, gI n), (3, gI (n - 1))]) [0, 1, 2, 3] rfl ?_
  exact lp3 _ (n - 1) (by omega) (Nat.lt_succ_self _)
set_option maxHeartbeats 4000000 in
set_option maxRecDepth 100000 in
theorem x_feed {l : Launch} {M : Mem} {Pq : Option gV → Mem → Prop} (v : Int) (n : Int) (h_v : inI v) (h_n : inI n) (hrf : rfOK M) (hs : 0 ≤ M 3 1 ∧ M 3 1 ≤ 120) (hB : (¬ (1 ≤ n ∧ n ≤ 4)) → Pq (some (gI (-2))) (rf M 0)) (hF : ((1 ≤ n ∧ n ≤ 4) ∧ 120 < M 3 1 + n) → Pq (some (gI (-6))) (rf M 4)) (hY : ((1 ≤ n ∧ n ≤ 4) ∧ M 3 1 + n ≤ 120) → Pq (some (gI (M 3 1 + n))) (up (sr M 4 (apS (M 4) (M 3 1).toNat v n n.toNat)) 3 1 (M 3 1 + n))) : gCtr l my_X11_feed mb_X11_feed 3 ((some .int)) 3 [gR 0, gI v, gI n] M Pq := by
  refine g_intro (by decide) (Nat.le_of_ble_eq_true rfl) ?_
  intro p e s m args below meth c D cy q A hK hr hlocks hw
  refine g_sub (L' := [(0, gR 0), (1, gI v), (2, gI n)]) [0, 1, 2] rfl ?_
  refine g_iloadn (pc := 0) (i := 2) (x := n) hK dd_X11_feed_0 rfl rfl ?_
  refine g_iconst (pc := 1) (x := 1) hK dd_X11_feed_1 (by decide) ?_
  refine g_iconst (pc := 2) (x := 4) hK dd_X11_feed_2 (by decide) ?_
  refine g_callT (pc := 3) (As := [gI n, gI 1, gI 4]) hK ws_X_59 md_X11_within ⟨Nat.zero_le _, Nat.zero_le _⟩ ⟨by decide, by decide⟩ dd_X11_feed_3 rfl rfl (Nat.le_of_ble_eq_true rfl) (c_within n 1 4 h_n (by decide) (by decide) (fun c1 => g_r1 ?_) (fun c1 => g_r1 ?_))
  · refine g_if_ne (pc := 6) (tgt := 16) hK dd_X11_feed_6 (by decide) (by decide) (fun _ => ?_) (fun c2 => absurd (by decide) c2)
    refine g_aloadn (pc := 16) (i := 0) (x := 0) hK dd_X11_feed_16 rfl rfl ?_
    refine g_getv (pc := 17) (f := (1, 3)) (j := 2) (v := gR 3) hK (kdm kd_0) rfl ef_11 (by decide) rfl kk_384 dd_X11_feed_17 rfl ?_
    refine g_geti (pc := 20) (f := (0, 0)) (j := 1) hK (kdm kd_3) rfl ef_9 (by decide) rfl kk_40 nl_3 dd_X11_feed_20 rfl (fun x3 ex3 rx3 => ?_)
    refine g_iloadn (pc := 23) (i := 2) (x := n) hK dd_X11_feed_23 rfl rfl ?_
    refine g_iadd (pc := 24) (z := x3 + n) hK dd_X11_feed_24 rfl ?_
    refine g_bipush (pc := 25) (x := 120) hK dd_X11_feed_25 (by decide) ?_
    refine g_icmp_le (pc := 27) (tgt := 37) hK dd_X11_feed_27 (by decide) ⟨by omega, by omega⟩ (by decide) (fun c4 => ?_) (fun c4 => ?_)
    · refine g_aloadn (pc := 37) (i := 0) (x := 0) hK dd_X11_feed_37 rfl rfl ?_
      refine g_getv (pc := 38) (f := (1, 3)) (j := 2) (v := gR 3) hK (kdm kd_0) rfl ef_11 (by decide) rfl kk_384 dd_X11_feed_38 rfl ?_
      refine g_iloadn (pc := 41) (i := 1) (x := v) hK dd_X11_feed_41 rfl rfl ?_
      refine g_iloadn (pc := 42) (i := 2) (x := n) hK dd_X11_feed_42 rfl rfl ?_
      refine g_callV (pc := 43) (As := [gI v, gI n]) hK ws_X_189 md_X9_append ⟨Nat.zero_le _, Nat.zero_le _⟩ ⟨by decide, by decide⟩ (kdm kd_3) rfl rfl dd_X11_feed_43 rfl rfl (Nat.le_of_ble_eq_true rfl) (c_append v n h_v (by omega) (by omega) (g_r0 ?_))
      refine g_aloadn (pc := 46) (i := 0) (x := 0) hK dd_X11_feed_46 rfl rfl ?_
      refine g_getv (pc := 47) (f := (1, 3)) (j := 2) (v := gR 3) hK (kdm kd_0) rfl ef_11 (by decide) rfl kk_384 dd_X11_feed_47 rfl ?_
      refine g_geti (pc := 50) (f := (0, 0)) (j := 1) hK (kdm kd_3) rfl ef_9 (by decide) rfl kk_40 nl_3 dd_X11_feed_50 rfl (fun x5 ex5 rx5 => ?_)
      replace ex5 : x5 = (M 3 1 + n) := by first | exact ex5 | (rw [ex5]; simp [up, us, cp, sr])
      refine g_iret (pc := 53) hK hr hlocks dd_X11_feed_53 rfl ?_
      first | exact g_fin (hB (by first | omega | (subst_vars; omega) | exact ⟨by first | assumption | omega | (subst_vars; first | assumption | omega), by first | assumption | omega | (subst_vars; first | assumption | omega)⟩)) (by first | rfl | omega | (subst_vars; first | rfl | omega)) (by first | rfl | (subst_vars; rfl)) | exact g_fin (hF (by first | omega | (subst_vars; omega) | exact ⟨by first | assumption | omega | (subst_vars; first | assumption | omega), by first | assumption | omega | (subst_vars; first | assumption | omega)⟩)) (by first | rfl | omega | (subst_vars; first | rfl | omega)) (by first | rfl | (subst_vars; rfl)) | exact g_fin (hY (by first | omega | (subst_vars; omega) | exact ⟨by first | assumption | omega | (subst_vars; first | assumption | omega), by first | assumption | omega | (subst_vars; first | assumption | omega)⟩)) (by first | rfl | omega | (subst_vars; first | rfl | omega)) (by first | rfl | (subst_vars; rfl)) | (exfalso; omega)
    · refine g_aloadn (pc := 30) (i := 0) (x := 0) hK dd_X11_feed_30 rfl rfl ?_
      refine g_bipush (pc := 31) (x := (-6)) hK dd_X11_feed_31 (by decide) ?_
      refine g_callV (pc := 33) (As := [gI (-6)]) hK ws_X_63 md_X11_refuse ⟨Nat.zero_le _, Nat.zero_le _⟩ ⟨by decide, by decide⟩ (kdm kd_0) rfl rfl dd_X11_feed_33 rfl rfl (Nat.le_of_ble_eq_true rfl) (c_refuse_4 hrf (g_r1 ?_))
      refine g_iret (pc := 36) hK hr hlocks dd_X11_feed_36 rfl ?_
      first | exact g_fin (hF (by first | omega | (subst_vars; omega) | exact ⟨by first | assumption | omega | (subst_vars; first | assumption | omega), by first | assumption | omega | (subst_vars; first | assumption | omega)⟩)) (by first | rfl | omega | (subst_vars; first | rfl | omega)) (by first | rfl | (subst_vars; rfl)) | exact g_fin (hY (by first | omega | (subst_vars; omega) | exact ⟨by first | assumption | omega | (subst_vars; first | assumption | omega), by first | assumption | omega | (subst_vars; first | assumption | omega)⟩)) (by first | rfl | omega | (subst_vars; first | rfl | omega)) (by first | rfl | (subst_vars; rfl)) | (exfalso; omega)
  · refine g_if_ne (pc := 6) (tgt := 16) hK dd_X11_feed_6 (by decide) (by decide) (fun c6 => absurd c6 (by decide)) (fun _ => ?_)
    refine g_aloadn (pc := 9) (i := 0) (x := 0) hK dd_X11_feed_9 rfl rfl ?_
    refine g_bipush (pc := 10) (x := (-2)) hK dd_X11_feed_10 (by decide) ?_
    refine g_callV (pc := 12) (As := [gI (-2)]) hK ws_X_63 md_X11_refuse ⟨Nat.zero_le _, Nat.zero_le _⟩ ⟨by decide, by decide⟩ (kdm kd_0) rfl rfl dd_X11_feed_12 rfl rfl (Nat.le_of_ble_eq_true rfl) (c_refuse_0 hrf (g_r1 ?_))
    refine g_iret (pc := 15) hK hr hlocks dd_X11_feed_15 rfl ?_
    first | exact g_fin (hB (by first | omega | (subst_vars; omega) | exact ⟨by first | assumption | omega | (subst_vars; first | assumption | omega), by first | assumption | omega | (subst_vars; first | assumption | omega)⟩)) (by first | rfl | omega | (subst_vars; first | rfl | omega)) (by first | rfl | (subst_vars; rfl)) | exact g_fin (hY (by first | omega | (subst_vars; omega) | exact ⟨by first | assumption | omega | (subst_vars; first | assumption | omega), by first | assumption | omega | (subst_vars; first | assumption | omega)⟩)) (by first | rfl | omega | (subst_vars; first | rfl | omega)) (by first | rfl | (subst_vars; rfl)) | (exfalso; omega)
set_option maxHeartbeats 4000000 in
set_option maxRecDepth 100000 in
theorem c_readInto {l : Launch} {M : Mem} {Pq : Option gV → Mem → Prop} (hs : 0 ≤ M 3 1 ∧ M 3 1 ≤ 120) (hY : ∀ (bb : Int) (ee : Int), (-1 ≤ (psR (M 4) (M 3 1).toNat ((M 3 1).toNat + 1) 0 (cpf (STF 0) (M 20) 0 0 5)).2 ∧ (psR (M 4) (M 3 1).toNat ((M 3 1).toNat + 1) 0 (cpf (STF 0) (M 20) 0 0 5)).2 ≤ 120) → Pq (some (gI ((psR (M 4) (M 3 1).toNat ((M 3 1).toNat + 1) 0 (cpf (STF 0) (M 20) 0 0 5)).2))) (up (up (sr M 20 ((psR (M 4) (M 3 1).toNat ((M 3 1).toNat + 1) 0 (cpf (STF 0) (M 20) 0 0 5)).1)) 3 2 bb) 3 3 ee)) : gCtr l my_X9_readInto mb_X9_readInto 5 ((some .int)) 7 [gR 3, gR 18] M Pq := by
  refine g_intro (by decide) (Nat.le_of_ble_eq_true rfl) ?_
  intro p e s m args below meth c D cy q A hK hr hlocks hw
  refine g_sub (L' := [(0, gR 3), (1, gR 18)]) [0, 1] rfl ?_
  refine g_aloadn (pc := 0) (i := 1) (x := 18) hK dd_X9_readInto_0 rfl rfl ?_
  refine g_callV (pc := 1) (As := []) hK ws_Tape_25 md_X3_clearDraft ⟨Nat.zero_le _, Nat.zero_le _⟩ ⟨by decide, by decide⟩ (kdm kd_18) rfl rfl dd_X9_readInto_1 rfl rfl (Nat.le_of_ble_eq_true rfl) (c_clearDraft  (g_r0 ?_))
  refine g_aloadn (pc := 4) (i := 0) (x := 3) hK dd_X9_readInto_4 rfl rfl ?_
  refine g_iconst (pc := 5) (x := 0) hK dd_X9_readInto_5 (by decide) ?_
  refine g_puti (pc := 6) (f := (0, 0)) (j := 2) (ty := .int) hK (kdm kd_3) rfl ef_9 (by decide) rfl kk_41 nl_3 (by decide) dd_X9_readInto_6 rfl rfl rfl rfl rfl (by decide) ?_
  refine g_aloadn (pc := 9) (i := 0) (x := 3) hK dd_X9_readInto_9 rfl rfl ?_
  refine g_iconst (pc := 10) (x := 0) hK dd_X9_readInto_10 (by decide) ?_
  refine g_puti (pc := 11) (f := (0, 0)) (j := 3) (ty := .int) hK (kdm kd_3) rfl ef_9 (by decide) rfl kk_42 nl_3 (by decide) dd_X9_readInto_11 rfl rfl rfl rfl rfl (by decide) ?_
  refine g_iconst (pc := 14) (x := 0) hK dd_X9_readInto_14 (by decide) ?_
  refine g_istoren (pc := 15) (i := 2) (L' := [(0, gR 3), (1, gR 18), (2, gI 0)]) hK dd_X9_readInto_15 rfl (by decide) rfl ?_
  have lp3 : ∀ (n1 : Nat) (sm : Int) (gb : Int) (ge : Int) (gD : Nat → Int), (0 ≤ sm ∧ sm ≤ ge ∧ ge ≤ M 3 1) → (psR (M 4) (M 3 1).toNat ((M 3 1).toNat + 1) 0 (cpf (STF 0) (M 20) 0 0 5) = psR (M 4) (M 3 1).toNat ((M 3 1).toNat + 1 - sm.toNat) ge.toNat gD) → (M 3 1 + 1 - sm).toNat < n1 → G p l e (rmD 7) s m args below meth c D cy q A 0 0 5 (MQ below (gQc D cy q A Pq) args s 0 0 A) 16 [(0, gR 3), (1, gR 18), (2, gI sm)] [] (up (up (sr M 20 gD) 3 2 gb) 3 3 ge) := by
    intro n1
    induction n1 with
    | zero => intro sm gb ge gD iv4 hps_ hm5; exact absurd hm5 (Nat.not_lt_zero _)
    | succ n1 ih2 =>
      intro sm gb ge gD iv4 hps_ hm5
      refine g_iloadn (pc := 16) (i := 2) (x := sm) hK dd_X9_readInto_16 rfl rfl ?_
      refine g_aloadn (pc := 17) (i := 0) (x := 3) hK dd_X9_readInto_17 rfl rfl ?_
      refine g_geti (pc := 18) (f := (0, 0)) (j := 1) hK (kdm kd_3) rfl ef_9 (by decide) rfl kk_39 nl_3 dd_X9_readInto_18 rfl (fun x6 ex6 rx6 => ?_)
      replace ex6 : x6 = M 3 1 := ex6
      refine g_icmp_gt (pc := 21) (tgt := 117) hK dd_X9_readInto_21 (by decide) ⟨by omega, by omega⟩ rx6 (fun c7 => absurd c7 (by omega)) (fun c7 => ?_)
      obtain ⟨k_, hk_⟩ : ∃ k : Nat, (M 3 1).toNat + 1 - sm.toNat = k + 1 := ⟨(M 3 1).toNat - sm.toNat, by omega⟩
      rw [hk_] at hps_
      have hse_ : 0 ≤ ge ∧ ge ≤ M 3 1 := by omega
      refine g_aloadn (pc := 24) (i := 0) (x := 3) hK dd_X9_readInto_24 rfl rfl ?_
      refine g_callV (pc := 25) (As := []) hK ws_Tape_30 md_X9_step ⟨Nat.zero_le _, Nat.zero_le _⟩ ⟨by decide, by decide⟩ (kdm kd_3) rfl rfl dd_X9_readInto_25 rfl rfl (Nat.le_of_ble_eq_true rfl) (c_step hs hse_ (g_r0 ?_))
      obtain ⟨b1_, hb1_⟩ : ∃ z : Nat, z = run isB (M 4) (M 3 1).toNat ge.toNat := ⟨_, rfl⟩
      obtain ⟨e1_, he1_⟩ : ∃ z : Nat, z = tkE (M 4) (M 3 1).toNat b1_ := ⟨_, rfl⟩
      have hbr1_ := run_in isB (M 4) (n := (M 3 1).toNat) (p := ge.toNat) (by omega)
      rw [← hb1_] at hbr1_
      have her1_ := tkE_in (M 4) (n := (M 3 1).toNat) (b := b1_) (by omega)
      rw [← he1_] at her1_
      refine g_mem (M2 := up (up (sr M 20 gD) 3 2 ((b1_ : Nat) : Int)) 3 3 ((e1_ : Nat) : Int)) (by subst he1_ hb1_; exact up4) ?_
      have hbe_ : 0 ≤ ((b1_ : Nat) : Int) ∧ ((b1_ : Nat) : Int) ≤ ((e1_ : Nat) : Int) ∧ ((e1_ : Nat) : Int) ≤ 120 := by omega
      refine g_aloadn (pc := 28) (i := 0) (x := 3) hK dd_X9_readInto_28 rfl rfl ?_
      refine g_callV (pc := 29) (As := []) hK ws_Tape_33 md_X9_partNamed ⟨Nat.zero_le _, Nat.zero_le _⟩ ⟨by decide, by decide⟩ (kdm kd_3) rfl rfl dd_X9_readInto_29 rfl rfl (Nat.le_of_ble_eq_true rfl) (c_partNamed hbe_ (g_r1 ?_))
      refine g_topI (fun pn epn => ?_)
      replace epn : pn = wdN (M 4) ((up (up (sr M 20 gD) 3 2 ((b1_ : Nat) : Int)) 3 3 ((e1_ : Nat) : Int)) 3 2).toNat ((up (up (sr M 20 gD) 3 2 ((b1_ : Nat) : Int)) 3 3 ((e1_ : Nat) : Int)) 3 3).toNat := epn
      have hpn_ : pn = wdN (M 4) b1_ e1_ := epn
      have hpr_ := wdN_in (M 4) b1_ e1_
      rw [← hpn_] at hpr_
      refine g_istoren (pc := 32) (i := 3) (L' := [(0, gR 3), (1, gR 18), (2, gI sm), (3, gI pn)]) hK dd_X9_readInto_32 rfl (by decide) rfl ?_
      refine g_iloadn (pc := 33) (i := 3) (x := pn) hK dd_X9_readInto_33 rfl rfl ?_
      refine g_iconst (pc := 34) (x := (-1)) hK dd_X9_readInto_34 (by decide) ?_
      refine g_icmp_ne (pc := 35) (tgt := 43) hK dd_X9_readInto_35 (by decide) ⟨by omega, by omega⟩ (by decide) (fun c8 => ?_) (fun c8 => ?_)
      · have hse_ : 0 ≤ ((e1_ : Nat) : Int) ∧ ((e1_ : Nat) : Int) ≤ M 3 1 := by omega
        have hps2_ : psR (M 4) (M 3 1).toNat ((M 3 1).toNat + 1) 0 (cpf (STF 0) (M 20) 0 0 5) = psB (psR (M 4) (M 3 1).toNat k_) (M 4) (M 3 1).toNat pn e1_ gD := by rw [hps_]; exact ps_1y (by omega) hb1_ he1_ hpn_ (by omega)
        refine g_aloadn (pc := 43) (i := 0) (x := 3) hK dd_X9_readInto_43 rfl rfl ?_
        refine g_callV (pc := 44) (As := []) hK ws_Tape_30 md_X9_step ⟨Nat.zero_le _, Nat.zero_le _⟩ ⟨by decide, by decide⟩ (kdm kd_3) rfl rfl dd_X9_readInto_44 rfl rfl (Nat.le_of_ble_eq_true rfl) (c_step hs hse_ (g_r0 ?_))
        obtain ⟨b2_, hb2_⟩ : ∃ z : Nat, z = run isB (M 4) (M 3 1).toNat e1_ := ⟨_, rfl⟩
        obtain ⟨e2_, he2_⟩ : ∃ z : Nat, z = tkE (M 4) (M 3 1).toNat b2_ := ⟨_, rfl⟩
        have hbr2_ := run_in isB (M 4) (n := (M 3 1).toNat) (p := e1_) (by omega)
        rw [← hb2_] at hbr2_
        have her2_ := tkE_in (M 4) (n := (M 3 1).toNat) (b := b2_) (by omega)
        rw [← he2_] at her2_
        refine g_mem (M2 := up (up (sr M 20 gD) 3 2 ((b2_ : Nat) : Int)) 3 3 ((e2_ : Nat) : Int)) (by subst he2_ hb2_; exact up4) ?_
        have hbe2_ : 0 ≤ ((b2_ : Nat) : Int) ∧ ((b2_ : Nat) : Int) ≤ ((e2_ : Nat) : Int) ∧ ((e2_ : Nat) : Int) ≤ M 3 1 := by omega
        have hdg_ : ((b2_ : Nat) : Int) < M 3 1 → isD (M 4 b2_) = true → ∀ j, b2_ ≤ j → j < e2_ → isD (M 4 j) = true := fun z1_ z2_ => by rw [he2_]; exact tk_dig (by omega) z2_
        refine g_aloadn (pc := 47) (i := 0) (x := 3) hK dd_X9_readInto_47 rfl rfl ?_
        refine g_callV (pc := 48) (As := []) hK ws_Tape_37 md_X9_number ⟨Nat.zero_le _, Nat.zero_le _⟩ ⟨by decide, by decide⟩ (kdm kd_3) rfl rfl dd_X9_readInto_48 rfl rfl (Nat.le_of_ble_eq_true rfl) (c_number hs hbe2_ hdg_ (g_r1 ?_))
        refine g_topI (fun nu enu => ?_)
        replace enu : nu = nuV (M 4) ((up (up (sr M 20 gD) 3 2 ((b2_ : Nat) : Int)) 3 3 ((e2_ : Nat) : Int)) 3 1).toNat ((up (up (sr M 20 gD) 3 2 ((b2_ : Nat) : Int)) 3 3 ((e2_ : Nat) : Int)) 3 2).toNat ((up (up (sr M 20 gD) 3 2 ((b2_ : Nat) : Int)) 3 3 ((e2_ : Nat) : Int)) 3 3).toNat := enu
        have hnu_ : nu = nuV (M 4) (M 3 1).toNat b2_ e2_ := enu
        have hnr0_ := nuV_in (f := M 4) (n := (M 3 1).toNat) he2_
        rw [← hnu_] at hnr0_
        refine g_istore (pc := 51) (i := 4) (L' := [(0, gR 3), (1, gR 18), (2, gI sm), (3, gI pn), (4, gI nu)]) hK dd_X9_readInto_51 (by decide) rfl ?_
        refine g_iloadn (pc := 53) (i := 3) (x := pn) hK dd_X9_readInto_53 rfl rfl ?_
        refine g_iload (pc := 54) (i := 4) (x := nu) hK dd_X9_readInto_54 rfl ?_
        refine g_callT (pc := 56) (As := [gI pn, gI nu]) hK ws_Tape_40 md_X3_mayTell ⟨Nat.zero_le _, Nat.zero_le _⟩ ⟨by decide, by decide⟩ dd_X9_readInto_56 rfl rfl (Nat.le_of_ble_eq_true rfl) (c_mayTell pn nu (show 0 ≤ pn ∧ pn ≤ 4 by omega) ⟨by omega, by omega⟩ (fun c9 => g_r1 ?_) (fun c9 => g_r1 ?_))
        · replace c9 : STF 1 pn.toNat ≤ nu ∧ nu ≤ STF 2 pn.toNat := c9
          have hmt_ : mayT pn nu := c9
          refine g_if_ne (pc := 59) (tgt := 67) hK dd_X9_readInto_59 (by decide) (by decide) (fun _ => ?_) (fun c10 => absurd (by decide) c10)
          have hps3_ := ps_2y (D := gD) (c := psR (M 4) (M 3 1).toNat k_) (by omega) (by omega) hb2_ he2_ hnu_ hmt_
          have hps4_ : psR (M 4) (M 3 1).toNat ((M 3 1).toNat + 1) 0 (cpf (STF 0) (M 20) 0 0 5) = psC (psR (M 4) (M 3 1).toNat k_) (M 4) (M 3 1).toNat e2_ (us gD pn.toNat nu) := hps2_.trans hps3_.1
          have hnr_ := hps3_.2
          refine g_aloadn (pc := 67) (i := 1) (x := 18) hK dd_X9_readInto_67 rfl rfl ?_
          refine g_getv (pc := 68) (f := (1, 2)) (j := 1) (v := gR 20) hK (kdm kd_18) rfl ef_3 (by decide) rfl kk_143 dd_X9_readInto_68 rfl ?_
          refine g_iloadn (pc := 71) (i := 3) (x := pn) hK dd_X9_readInto_71 rfl rfl ?_
          refine g_iload (pc := 72) (i := 4) (x := nu) hK dd_X9_readInto_72 rfl ?_
          refine g_iast (pc := 74) hK (kdm kd_20) nl_20 (by decide) (by decide) dd_X9_readInto_74 (by omega) (by omega) ⟨by omega, by omega⟩ ?_
          refine g_mem (M2 := up (up (sr M 20 (us gD pn.toNat nu)) 3 2 ((b2_ : Nat) : Int)) 3 3 ((e2_ : Nat) : Int)) (by simp (disch := decide) only [Int.reduceToNat, up_sr, sr_cp, sr_k, sr_o, sr_sr, us_us, @sr_lt _ 20 3 _ _ (by decide)]; try rfl) ?_
          have hse_ : 0 ≤ ((e2_ : Nat) : Int) ∧ ((e2_ : Nat) : Int) ≤ M 3 1 := by omega
          refine g_aloadn (pc := 75) (i := 0) (x := 3) hK dd_X9_readInto_75 rfl rfl ?_
          refine g_callV (pc := 76) (As := []) hK ws_Tape_30 md_X9_step ⟨Nat.zero_le _, Nat.zero_le _⟩ ⟨by decide, by decide⟩ (kdm kd_3) rfl rfl dd_X9_readInto_76 rfl rfl (Nat.le_of_ble_eq_true rfl) (c_step hs hse_ (g_r0 ?_))
          obtain ⟨b3_, hb3_⟩ : ∃ z : Nat, z = run isB (M 4) (M 3 1).toNat e2_ := ⟨_, rfl⟩
          obtain ⟨e3_, he3_⟩ : ∃ z : Nat, z = tkE (M 4) (M 3 1).toNat b3_ := ⟨_, rfl⟩
          have hbr3_ := run_in isB (M 4) (n := (M 3 1).toNat) (p := e2_) (by omega)
          rw [← hb3_] at hbr3_
          have her3_ := tkE_in (M 4) (n := (M 3 1).toNat) (b := b3_) (by omega)
          rw [← he3_] at her3_
          refine g_mem (M2 := up (up (sr M 20 (us gD pn.toNat nu)) 3 2 ((b3_ : Nat) : Int)) 3 3 ((e3_ : Nat) : Int)) (by subst he3_ hb3_; exact up4) ?_
          refine g_aloadn (pc := 79) (i := 0) (x := 3) hK dd_X9_readInto_79 rfl rfl ?_
          refine g_geti (pc := 80) (f := (0, 0)) (j := 2) hK (kdm kd_3) rfl ef_9 (by decide) rfl kk_41 nl_3 dd_X9_readInto_80 rfl (fun x11 ex11 rx11 => ?_)
          replace ex11 : x11 = ((b3_ : Nat) : Int) := by first | exact ex11 | (rw [ex11]; simp [up, us, cp, sr])
          refine g_aloadn (pc := 83) (i := 0) (x := 3) hK dd_X9_readInto_83 rfl rfl ?_
          refine g_geti (pc := 84) (f := (0, 0)) (j := 1) hK (kdm kd_3) rfl ef_9 (by decide) rfl kk_39 nl_3 dd_X9_readInto_84 rfl (fun x12 ex12 rx12 => ?_)
          replace ex12 : x12 = M 3 1 := ex12
          refine g_icmp_lt (pc := 87) (tgt := 92) hK dd_X9_readInto_87 (by decide) rx11 rx12 (fun c13 => ?_) (fun c13 => ?_)
          · refine g_aloadn (pc := 92) (i := 0) (x := 3) hK dd_X9_readInto_92 rfl rfl ?_
            refine g_getv (pc := 93) (f := (1, 1)) (j := 0) (v := gR 4) hK (kdm kd_3) rfl ef_9 (by decide) rfl kk_38 dd_X9_readInto_93 rfl ?_
            refine g_aloadn (pc := 96) (i := 0) (x := 3) hK dd_X9_readInto_96 rfl rfl ?_
            refine g_geti (pc := 97) (f := (0, 0)) (j := 2) hK (kdm kd_3) rfl ef_9 (by decide) rfl kk_41 nl_3 dd_X9_readInto_97 rfl (fun x14 ex14 rx14 => ?_)
            replace ex14 : x14 = ((b3_ : Nat) : Int) := by first | exact ex14 | (rw [ex14]; simp [up, us, cp, sr])
            refine g_topv (v := gI (((b3_ : Nat) : Int))) (by rw [ex14]) ?_
            refine g_bald (pc := 100) hK (kdm kd_4) nl_4 (by decide) dd_X9_readInto_100 (by omega) (by omega) (fun x15 ex15 rx15 => ?_)
            replace ex15 : x15 = M 4 (((b3_ : Nat) : Int).toNat) := ex15
            have h5_ : x15 = M 4 b3_ := ex15
            refine g_bipush (pc := 101) (x := 59) hK dd_X9_readInto_101 (by decide) ?_
            refine g_icmp_eq (pc := 103) (tgt := 111) hK dd_X9_readInto_103 (by decide) rx15 (by decide) (fun c16 => ?_) (fun c16 => ?_)
            · have h59_ : M 4 b3_ = 59 := by rw [← h5_]; omega
              have hp3_ := ps_3y (D := us gD pn.toNat nu) (c := psR (M 4) (M 3 1).toNat k_) hb3_ he3_ (by omega) h59_
              have hp32_ := hp3_.2
              refine g_iinc (pc := 111) (i := 2) (y := sm + 1) (L' := [(0, gR 3), (1, gR 18), (2, gI (sm + 1)), (3, gI pn), (4, gI nu)]) hK dd_X9_readInto_111 rfl rfl (by decide) rfl ?_
              refine g_goto (pc := 114) (tgt := 16) hK dd_X9_readInto_114 (by decide) ?_
              refine g_sub (L' := [(0, gR 3), (1, gR 18), (2, gI (sm + 1))]) [0, 1, 2] rfl ?_
              refine g_mem (M2 := up (up (sr M 20 (us gD pn.toNat nu)) 3 2 ((b3_ : Nat) : Int)) 3 3 ((e3_ : Nat) : Int)) (rfl) ?_
              exact ih2 (sm + 1) ((b3_ : Nat) : Int) ((e3_ : Nat) : Int) (us gD pn.toNat nu) (by omega) (by rw [show (M 3 1).toNat + 1 - (sm + 1).toNat = k_ by omega]; exact hps4_.trans hp3_.1) (by omega)
            · have hq_ : psR (M 4) (M 3 1).toNat ((M 3 1).toNat + 1) 0 (cpf (STF 0) (M 20) 0 0 5) = (us gD pn.toNat nu, ((b3_ : Nat) : Int)) := by rw [hps4_]; exact ps_3n hb3_ (by omega) (by rw [← h5_]; omega)
              have hr1_ : (psR (M 4) (M 3 1).toNat ((M 3 1).toNat + 1) 0 (cpf (STF 0) (M 20) 0 0 5)).1 = us gD pn.toNat nu := by rw [hq_]
              have hr2_ : (psR (M 4) (M 3 1).toNat ((M 3 1).toNat + 1) 0 (cpf (STF 0) (M 20) 0 0 5)).2 = ((b3_ : Nat) : Int) := by rw [hq_]
              refine g_aloadn (pc := 106) (i := 0) (x := 3) hK dd_X9_readInto_106 rfl rfl ?_
              refine g_geti (pc := 107) (f := (0, 0)) (j := 2) hK (kdm kd_3) rfl ef_9 (by decide) rfl kk_41 nl_3 dd_X9_readInto_107 rfl (fun x17 ex17 rx17 => ?_)
              replace ex17 : x17 = ((b3_ : Nat) : Int) := by first | exact ex17 | (rw [ex17]; simp [up, us, cp, sr])
              refine g_iret (pc := 110) hK hr hlocks dd_X9_readInto_110 rfl ?_
              first | exact g_fin (hY ((b3_ : Nat) : Int) ((e3_ : Nat) : Int) (by have q_ := psR_in (f := M 4) (n := (M 3 1).toNat) ((M 3 1).toNat + 1) 0 (cpf (STF 0) (M 20) 0 0 5) (Nat.zero_le _); omega)) (by first | (rw [hr2_]; done) | (rw [hr2_]; omega)) (by rw [hr1_]) | (exfalso; omega)
          · have hq_ : psR (M 4) (M 3 1).toNat ((M 3 1).toNat + 1) 0 (cpf (STF 0) (M 20) 0 0 5) = (us gD pn.toNat nu, -1) := by rw [hps4_]; exact ps_3e hb3_ (by omega)
            have hr1_ : (psR (M 4) (M 3 1).toNat ((M 3 1).toNat + 1) 0 (cpf (STF 0) (M 20) 0 0 5)).1 = us gD pn.toNat nu := by rw [hq_]
            have hr2_ : (psR (M 4) (M 3 1).toNat ((M 3 1).toNat + 1) 0 (cpf (STF 0) (M 20) 0 0 5)).2 = -1 := by rw [hq_]
            refine g_iconst (pc := 90) (x := (-1)) hK dd_X9_readInto_90 (by decide) ?_
            refine g_iret (pc := 91) hK hr hlocks dd_X9_readInto_91 rfl ?_
            first | exact g_fin (hY ((b3_ : Nat) : Int) ((e3_ : Nat) : Int) (by have q_ := psR_in (f := M 4) (n := (M 3 1).toNat) ((M 3 1).toNat + 1) 0 (cpf (STF 0) (M 20) 0 0 5) (Nat.zero_le _); omega)) (by first | (rw [hr2_]; done) | (rw [hr2_]; omega)) (by rw [hr1_]) | (exfalso; omega)
        · replace c9 : ¬ (STF 1 pn.toNat ≤ nu ∧ nu ≤ STF 2 pn.toNat) := c9
          have hmt_ : ¬ mayT pn nu := c9
          refine g_if_ne (pc := 59) (tgt := 67) hK dd_X9_readInto_59 (by decide) (by decide) (fun c18 => absurd c18 (by decide)) (fun _ => ?_)
          have hq_ : psR (M 4) (M 3 1).toNat ((M 3 1).toNat + 1) 0 (cpf (STF 0) (M 20) 0 0 5) = (gD, ((b2_ : Nat) : Int)) := by rw [hps2_]; exact ps_2n (by omega) hb2_ he2_ hnu_ hmt_
          have hr1_ : (psR (M 4) (M 3 1).toNat ((M 3 1).toNat + 1) 0 (cpf (STF 0) (M 20) 0 0 5)).1 = gD := by rw [hq_]
          have hr2_ : (psR (M 4) (M 3 1).toNat ((M 3 1).toNat + 1) 0 (cpf (STF 0) (M 20) 0 0 5)).2 = ((b2_ : Nat) : Int) := by rw [hq_]
          refine g_aloadn (pc := 62) (i := 0) (x := 3) hK dd_X9_readInto_62 rfl rfl ?_
          refine g_geti (pc := 63) (f := (0, 0)) (j := 2) hK (kdm kd_3) rfl ef_9 (by decide) rfl kk_41 nl_3 dd_X9_readInto_63 rfl (fun x19 ex19 rx19 => ?_)
          replace ex19 : x19 = ((b2_ : Nat) : Int) := by first | exact ex19 | (rw [ex19]; simp [up, us, cp, sr])
          refine g_iret (pc := 66) hK hr hlocks dd_X9_readInto_66 rfl ?_
          first | exact g_fin (hY ((b2_ : Nat) : Int) ((e2_ : Nat) : Int) (by have q_ := psR_in (f := M 4) (n := (M 3 1).toNat) ((M 3 1).toNat + 1) 0 (cpf (STF 0) (M 20) 0 0 5) (Nat.zero_le _); omega)) (by first | (rw [hr2_]; done) | (rw [hr2_]; omega)) (by rw [hr1_]) | (exfalso; omega)
      · have hq_ : psR (M 4) (M 3 1).toNat ((M 3 1).toNat + 1) 0 (cpf (STF 0) (M 20) 0 0 5) = (gD, ((b1_ : Nat) : Int)) := by rw [hps_]; exact ps_1n (by omega) hb1_ he1_ (by rw [← hpn_]; omega)
        have hr1_ : (psR (M 4) (M 3 1).toNat ((M 3 1).toNat + 1) 0 (cpf (STF 0) (M 20) 0 0 5)).1 = gD := by rw [hq_]
        have hr2_ : (psR (M 4) (M 3 1).toNat ((M 3 1).toNat + 1) 0 (cpf (STF 0) (M 20) 0 0 5)).2 = ((b1_ : Nat) : Int) := by rw [hq_]
        refine g_aloadn (pc := 38) (i := 0) (x := 3) hK dd_X9_readInto_38 rfl rfl ?_
        refine g_geti (pc := 39) (f := (0, 0)) (j := 2) hK (kdm kd_3) rfl ef_9 (by decide) rfl kk_41 nl_3 dd_X9_readInto_39 rfl (fun x20 ex20 rx20 => ?_)
        replace ex20 : x20 = ((b1_ : Nat) : Int) := by first | exact ex20 | (rw [ex20]; simp [up, us, cp, sr])
        refine g_iret (pc := 42) hK hr hlocks dd_X9_readInto_42 rfl ?_
        first | exact g_fin (hY ((b1_ : Nat) : Int) ((e1_ : Nat) : Int) (by have q_ := psR_in (f := M 4) (n := (M 3 1).toNat) ((M 3 1).toNat + 1) 0 (cpf (STF 0) (M 20) 0 0 5) (Nat.zero_le _); omega)) (by first | (rw [hr2_]; done) | (rw [hr2_]; omega)) (by rw [hr1_]) | (exfalso; omega)
  refine g_mem (M2 := up (up (sr M 20 (cpf (STF 0) (M 20) 0 0 5)) 3 2 0) 3 3 0) (by rw [sr_cp]) ?_
  refine g_sub (L' := [(0, gR 3), (1, gR 18), (2, gI 0)]) [0, 1, 2] rfl ?_
  exact lp3 _ 0 0 0 (cpf (STF 0) (M 20) 0 0 5) (by omega) (rfl) (Nat.lt_succ_self _)
set_option maxHeartbeats 4000000 in
set_option maxRecDepth 100000 in
theorem x_law {l : Launch} {M : Mem} {Pq : Option gV → Mem → Prop} (hrf : rfOK M) (hwc : 0 ≤ M 18 2 ∧ M 18 2 ≤ 6) (hs : 0 ≤ M 3 1 ∧ M 3 1 ≤ 120) (hF : (6 ≤ M 18 2) → Pq (some (gI (-6))) (rf M 4)) (hY : ∀ (bb : Int) (ee : Int), (M 18 2 < 6 ∧ (psR (M 4) (M 3 1).toNat ((M 3 1).toNat + 1) 0 (cpf (STF 0) (M 20) 0 0 5)).2 = -1) → Pq (some (gI (M 18 2))) (up (cp (up (up (up (sr M 20 ((psR (M 4) (M 3 1).toNat ((M 3 1).toNat + 1) 0 (cpf (STF 0) (M 20) 0 0 5)).1)) 3 2 bb) 3 3 ee) 3 1 0) 19 (psR (M 4) (M 3 1).toNat ((M 3 1).toNat + 1) 0 (cpf (STF 0) (M 20) 0 0 5)).1 0 (M 18 2 * 5).toNat 5) 18 2 (M 18 2 + 1))) (hN : ∀ (bb : Int) (ee : Int), (M 18 2 < 6 ∧ ¬ (psR (M 4) (M 3 1).toNat ((M 3 1).toNat + 1) 0 (cpf (STF 0) (M 20) 0 0 5)).2 = -1) → Pq (some (gI ((-20) - (psR (M 4) (M 3 1).toNat ((M 3 1).toNat + 1) 0 (cpf (STF 0) (M 20) 0 0 5)).2))) (rf (up (up (up (sr M 20 ((psR (M 4) (M 3 1).toNat ((M 3 1).toNat + 1) 0 (cpf (STF 0) (M 20) 0 0 5)).1)) 3 2 bb) 3 3 ee) 3 1 0) 0)) : gCtr l my_X11_law mb_X11_law 2 ((some .int)) 8 [gR 0] M Pq := by
  refine g_intro (by decide) (Nat.le_of_ble_eq_true rfl) ?_
  intro p e s m args below meth c D cy q A hK hr hlocks hw
  refine g_sub (L' := [(0, gR 0)]) [0] rfl ?_
  refine g_aloadn (pc := 0) (i := 0) (x := 0) hK dd_X11_law_0 rfl rfl ?_
  refine g_getv (pc := 1) (f := (1, 5)) (j := 3) (v := gR 5) hK (kdm kd_0) rfl ef_11 (by decide) rfl kk_385 dd_X11_law_1 rfl ?_
  refine g_getv (pc := 4) (f := (1, 13)) (j := 2) (v := gR 18) hK (kdm kd_5) rfl ef_1 (by decide) rfl kk_264 dd_X11_law_4 rfl ?_
  refine g_geti (pc := 7) (f := (0, 0)) (j := 2) hK (kdm kd_18) rfl ef_3 (by decide) rfl kk_145 nl_18 dd_X11_law_7 rfl (fun x1 ex1 rx1 => ?_)
  refine g_bipush (pc := 10) (x := 6) hK dd_X11_law_10 (by decide) ?_
  refine g_icmp_lt (pc := 12) (tgt := 22) hK dd_X11_law_12 (by decide) rx1 (by decide) (fun c2 => ?_) (fun c2 => ?_)
  · refine g_aloadn (pc := 22) (i := 0) (x := 0) hK dd_X11_law_22 rfl rfl ?_
    refine g_getv (pc := 23) (f := (1, 3)) (j := 2) (v := gR 3) hK (kdm kd_0) rfl ef_11 (by decide) rfl kk_384 dd_X11_law_23 rfl ?_
    refine g_aloadn (pc := 26) (i := 0) (x := 0) hK dd_X11_law_26 rfl rfl ?_
    refine g_getv (pc := 27) (f := (1, 5)) (j := 3) (v := gR 5) hK (kdm kd_0) rfl ef_11 (by decide) rfl kk_385 dd_X11_law_27 rfl ?_
    refine g_getv (pc := 30) (f := (1, 13)) (j := 2) (v := gR 18) hK (kdm kd_5) rfl ef_1 (by decide) rfl kk_264 dd_X11_law_30 rfl ?_
    refine g_callV (pc := 33) (As := [gR 18]) hK ws_X_193 md_X9_readInto ⟨Nat.zero_le _, Nat.zero_le _⟩ ⟨by decide, by decide⟩ (kdm kd_3) rfl rfl dd_X11_law_33 rfl rfl (Nat.le_of_ble_eq_true rfl) (c_readInto hs (fun bb3 ee4 c5 => g_r1 ?_))
    · refine g_topI (fun y6 ey6 => ?_)
      refine g_mem (M2 := up (up (sr M 20 ((psR (M 4) (M 3 1).toNat ((M 3 1).toNat + 1) 0 (cpf (STF 0) (M 20) 0 0 5)).1)) 3 2 bb3) 3 3 ee4) (rfl) ?_
      refine g_istoren (pc := 36) (i := 1) (L' := [(0, gR 0), (1, gI y6)]) hK dd_X11_law_36 rfl (by decide) rfl ?_
      refine g_aloadn (pc := 37) (i := 0) (x := 0) hK dd_X11_law_37 rfl rfl ?_
      refine g_getv (pc := 38) (f := (1, 3)) (j := 2) (v := gR 3) hK (kdm kd_0) rfl ef_11 (by decide) rfl kk_384 dd_X11_law_38 rfl ?_
      refine g_iconst (pc := 41) (x := 0) hK dd_X11_law_41 (by decide) ?_
      refine g_puti (pc := 42) (f := (0, 0)) (j := 1) (ty := .int) hK (kdm kd_3) rfl ef_9 (by decide) rfl kk_40 nl_3 (by decide) dd_X11_law_42 rfl rfl rfl rfl rfl (by decide) ?_
      refine g_iloadn (pc := 45) (i := 1) (x := y6) hK dd_X11_law_45 rfl rfl ?_
      refine g_iconst (pc := 46) (x := (-1)) hK dd_X11_law_46 (by decide) ?_
      refine g_icmp_ne (pc := 47) (tgt := 61) hK dd_X11_law_47 (by decide) ⟨by omega, by omega⟩ (by decide) (fun c7 => ?_) (fun c7 => ?_)
      · refine g_aloadn (pc := 61) (i := 0) (x := 0) hK dd_X11_law_61 rfl rfl ?_
        refine g_bipush (pc := 62) (x := (-2)) hK dd_X11_law_62 (by decide) ?_
        refine g_callV (pc := 64) (As := [gI (-2)]) hK ws_X_63 md_X11_refuse ⟨Nat.zero_le _, Nat.zero_le _⟩ ⟨by decide, by decide⟩ (kdm kd_0) rfl rfl dd_X11_law_64 rfl rfl (Nat.le_of_ble_eq_true rfl) (c_refuse_0 hrf (g_r1 ?_))
        refine g_pop (pc := 67) hK dd_X11_law_67 rfl ?_
        refine g_bipush (pc := 68) (x := (-20)) hK dd_X11_law_68 (by decide) ?_
        refine g_iloadn (pc := 70) (i := 1) (x := y6) hK dd_X11_law_70 rfl rfl ?_
        refine g_isub (pc := 71) (z := (-20) - y6) hK dd_X11_law_71 rfl ?_
        refine g_iret (pc := 72) hK hr hlocks dd_X11_law_72 rfl ?_
        exact g_fin (hN bb3 ee4 (by exact ⟨by omega, by omega⟩)) (by first | rfl | omega | (subst_vars; first | rfl | omega)) (rfl)
      · refine g_aloadn (pc := 50) (i := 0) (x := 0) hK dd_X11_law_50 rfl rfl ?_
        refine g_getv (pc := 51) (f := (1, 5)) (j := 3) (v := gR 5) hK (kdm kd_0) rfl ef_11 (by decide) rfl kk_385 dd_X11_law_51 rfl ?_
        refine g_getv (pc := 54) (f := (1, 13)) (j := 2) (v := gR 18) hK (kdm kd_5) rfl ef_1 (by decide) rfl kk_264 dd_X11_law_54 rfl ?_
        refine g_callV (pc := 57) (As := []) hK ws_X_197 md_X3_addDraft ⟨Nat.zero_le _, Nat.zero_le _⟩ ⟨by decide, by decide⟩ (kdm kd_18) rfl rfl dd_X11_law_57 rfl rfl (Nat.le_of_ble_eq_true rfl) (c_addDraft (show 0 ≤ M 18 2 ∧ M 18 2 < 6 by omega) (g_r1 ?_))
        refine g_iret (pc := 60) hK hr hlocks dd_X11_law_60 rfl ?_
        exact g_fin (hY bb3 ee4 (by exact ⟨by omega, by omega⟩)) (by first | rfl | omega | (subst_vars; first | rfl | omega)) (rfl)
  · refine g_aloadn (pc := 15) (i := 0) (x := 0) hK dd_X11_law_15 rfl rfl ?_
    refine g_bipush (pc := 16) (x := (-6)) hK dd_X11_law_16 (by decide) ?_
    refine g_callV (pc := 18) (As := [gI (-6)]) hK ws_X_63 md_X11_refuse ⟨Nat.zero_le _, Nat.zero_le _⟩ ⟨by decide, by decide⟩ (kdm kd_0) rfl rfl dd_X11_law_18 rfl rfl (Nat.le_of_ble_eq_true rfl) (c_refuse_4 hrf (g_r1 ?_))
    refine g_iret (pc := 21) hK hr hlocks dd_X11_law_21 rfl ?_
    exact g_fin (hF (by first | omega | (subst_vars; omega) | exact ⟨by first | assumption | omega | (subst_vars; first | assumption | omega), by first | assumption | omega | (subst_vars; first | assumption | omega)⟩)) (by first | rfl | omega | (subst_vars; first | rfl | omega)) (by first | rfl | (subst_vars; rfl))
