set_option maxHeartbeats 4000000 in
set_option maxRecDepth 100000 in
theorem c_fn20 {l : Launch} {M : Mem} {Pq : Option gV → Mem → Prop} (i : Int) (hi : 0 ≤ i ∧ i < M 27 4) (hsc : 0 ≤ M 27 4 ∧ M 27 4 ≤ 20) (hv : Vl (M 27 4).toNat (mbe (M 28) (M 29) (M 30) (M 31)) (M 32)) (htr : 20 ≤ trd (M 33) (M 27 4).toNat) (hT : ∀ (B1 : Nat → Int) (T1 : Nat → Int), (Aug (M 27 4).toNat (mbe (M 28) (M 29) (M 30) (M 31)) i (M 32) (M 33) B1) → Pq (some (gI 1)) (sr (sr M 32 B1) 33 T1)) (hF : ∀ (T1 : Nat → Int), (Nno (M 27 4).toNat (mbe (M 28) (M 29) (M 30) (M 31)) i (M 32) (M 33) T1) → Pq (some (gI 0)) (sr M 33 T1)) : gCtr l my_X8_findsNext mb_X8_findsNext 4 ((some .boolean)) 1 [gR 27, gI i, gI 20] M Pq := by
  refine g_intro (by decide) (Nat.le_of_ble_eq_true rfl) ?_
  intro p e s m args below meth c D cy q A hK hr hlocks hw
  refine g_sub (L' := [(0, gR 27), (1, gI i), (2, gI 20)]) [0, 1, 2] rfl ?_
  refine g_iloadn (pc := 0) (i := 2) (x := 20) hK dd_X8_findsNext_0 rfl rfl ?_
  refine g_bipush (pc := 1) (x := 20) hK dd_X8_findsNext_1 (by decide) ?_
  refine g_icmp_le (pc := 3) (tgt := 8) hK dd_X8_findsNext_3 (by decide) (by decide) (by decide) (fun _ => ?_) (fun c1 => absurd (by decide) c1)
  refine g_iconst (pc := 8) (x := 0) hK dd_X8_findsNext_8 (by decide) ?_
  refine g_istoren (pc := 9) (i := 3) (L' := [(0, gR 27), (1, gI i), (2, gI 20), (3, gI 0)]) hK dd_X8_findsNext_9 rfl (by decide) rfl ?_
  have lp4 : ∀ (n2 : Nat) (lx : Int) (Tg : Nat → Int), (0 ≤ lx ∧ lx ≤ M 27 4) → (Sr (M 27 4).toNat (mbe (M 28) (M 29) (M 30) (M 31)) i (M 32) (M 33) lx.toNat Tg) → (20 ≤ trd Tg (M 27 4).toNat) → (M 27 4 - lx).toNat < n2 → G p l e (rmD 1) s m args below meth c D cy q A 0 0 4 (MQ below (gQc D cy q A Pq) args s 0 0 A) 10 [(0, gR 27), (1, gI i), (2, gI 20), (3, gI lx)] [] (sr M 33 Tg) := by
    intro n2
    induction n2 with
    | zero => intro lx Tg iv5 hsr_ htr_ hm6; exact absurd hm6 (Nat.not_lt_zero _)
    | succ n2 ih3 =>
      intro lx Tg iv5 hsr_ htr_ hm6
      refine g_iloadn (pc := 10) (i := 3) (x := lx) hK dd_X8_findsNext_10 rfl rfl ?_
      refine g_aloadn (pc := 11) (i := 0) (x := 27) hK dd_X8_findsNext_11 rfl rfl ?_
      refine g_geti (pc := 12) (f := (0, 0)) (j := 4) hK (kdm kd_27) rfl ef_8 (by decide) rfl kk_200 nl_27 dd_X8_findsNext_12 rfl (fun x7 ex7 rx7 => ?_)
      replace ex7 : x7 = M 27 4 := ex7
      refine g_icmp_ge (pc := 15) (tgt := 85) hK dd_X8_findsNext_15 (by decide) ⟨by omega, by omega⟩ rx7 (fun c8 => ?_) (fun c8 => ?_)
      · refine g_iconst (pc := 85) (x := 0) hK dd_X8_findsNext_85 (by decide) ?_
        refine g_iret (pc := 86) hK hr hlocks dd_X8_findsNext_86 rfl ?_
        first | exact g_fin (hF Tg (by exact sr_end hsr_ (by omega))) (by first | rfl | omega | (subst_vars; first | rfl | omega)) (rfl) | (exfalso; omega)
      · refine g_aloadn (pc := 18) (i := 0) (x := 27) hK dd_X8_findsNext_18 rfl rfl ?_
        refine g_getv (pc := 19) (f := (1, 6)) (j := 6) (v := gR 33) hK (kdm kd_27) rfl ef_8 (by decide) rfl kk_203 dd_X8_findsNext_19 rfl ?_
        refine g_iloadn (pc := 22) (i := 3) (x := lx) hK dd_X8_findsNext_22 rfl rfl ?_
        refine g_iald (pc := 23) hK (kdm kd_33) nl_33 (by decide) dd_X8_findsNext_23 (by omega) (by omega) (fun x9 ex9 rx9 => ?_)
        replace ex9 : x9 = Tg lx.toNat := by first | exact ex9 | (rw [ex9]; simp [up, us, cp, sr])
        refine g_iconst (pc := 24) (x := (-1)) hK dd_X8_findsNext_24 (by decide) ?_
        refine g_icmp_ne (pc := 25) (tgt := 79) hK dd_X8_findsNext_25 (by decide) rx9 (by decide) (fun c10 => ?_) (fun c10 => ?_)
        · have hsn_ : Sr (M 27 4).toNat (mbe (M 28) (M 29) (M 30) (M 31)) i (M 32) (M 33) (lx.toNat + 1) Tg := sr_next hsr_ (Or.inl (by omega))
          refine g_iinc (pc := 79) (i := 3) (y := lx + 1) (L' := [(0, gR 27), (1, gI i), (2, gI 20), (3, gI (lx + 1))]) hK dd_X8_findsNext_79 rfl rfl (by decide) rfl ?_
          refine g_goto (pc := 82) (tgt := 10) hK dd_X8_findsNext_82 (by decide) ?_
          refine g_sub (L' := [(0, gR 27), (1, gI i), (2, gI 20), (3, gI (lx + 1))]) [0, 1, 2, 3] rfl ?_
          refine g_mem (M2 := sr M 33 Tg) (by first | rfl | (simp (disch := decide) only [Int.reduceToNat, up_sr, sr_cp, sr_k, sr_o, sr_sr, us_us, @sr_lt _ 33 32 _ _ (by decide)]; try rfl)) ?_
          exact ih3 (lx + 1) Tg (by omega) (by rw [tn1 (by omega)]; exact hsn_) (Nat.le_trans htr (trd_mono hsn_.1)) (by omega)
        · have hlt_ := trd_lt (T := Tg) (n := (M 27 4).toNat) (l := lx.toNat) (by omega) (by omega)
          exfalso; omega
  refine g_mem (M2 := sr M 33 (M 33)) (sr_self.symm) ?_
  refine g_sub (L' := [(0, gR 27), (1, gI i), (2, gI 20), (3, gI 0)]) [0, 1, 2, 3] rfl ?_
  exact lp4 _ 0 (M 33) (by omega) (sr0) (htr) (Nat.lt_succ_self _)
set_option maxHeartbeats 4000000 in
set_option maxRecDepth 100000 in
theorem c_fn19 {l : Launch} {M : Mem} {Pq : Option gV → Mem → Prop} (i : Int) (hi : 0 ≤ i ∧ i < M 27 4) (hsc : 0 ≤ M 27 4 ∧ M 27 4 ≤ 20) (hv : Vl (M 27 4).toNat (mbe (M 28) (M 29) (M 30) (M 31)) (M 32)) (htr : 19 ≤ trd (M 33) (M 27 4).toNat) (hT : ∀ (B1 : Nat → Int) (T1 : Nat → Int), (Aug (M 27 4).toNat (mbe (M 28) (M 29) (M 30) (M 31)) i (M 32) (M 33) B1) → Pq (some (gI 1)) (sr (sr M 32 B1) 33 T1)) (hF : ∀ (T1 : Nat → Int), (Nno (M 27 4).toNat (mbe (M 28) (M 29) (M 30) (M 31)) i (M 32) (M 33) T1) → Pq (some (gI 0)) (sr M 33 T1)) : gCtr l my_X8_findsNext mb_X8_findsNext 4 ((some .boolean)) 2 [gR 27, gI i, gI 19] M Pq := by
  refine g_intro (by decide) (Nat.le_of_ble_eq_true rfl) ?_
  intro p e s m args below meth c D cy q A hK hr hlocks hw
  refine g_sub (L' := [(0, gR 27), (1, gI i), (2, gI 19)]) [0, 1, 2] rfl ?_
  refine g_iloadn (pc := 0) (i := 2) (x := 19) hK dd_X8_findsNext_0 rfl rfl ?_
  refine g_bipush (pc := 1) (x := 20) hK dd_X8_findsNext_1 (by decide) ?_
  refine g_icmp_le (pc := 3) (tgt := 8) hK dd_X8_findsNext_3 (by decide) (by decide) (by decide) (fun _ => ?_) (fun c1 => absurd (by decide) c1)
  refine g_iconst (pc := 8) (x := 0) hK dd_X8_findsNext_8 (by decide) ?_
  refine g_istoren (pc := 9) (i := 3) (L' := [(0, gR 27), (1, gI i), (2, gI 19), (3, gI 0)]) hK dd_X8_findsNext_9 rfl (by decide) rfl ?_
  have lp4 : ∀ (n2 : Nat) (lx : Int) (Tg : Nat → Int), (0 ≤ lx ∧ lx ≤ M 27 4) → (Sr (M 27 4).toNat (mbe (M 28) (M 29) (M 30) (M 31)) i (M 32) (M 33) lx.toNat Tg) → (19 ≤ trd Tg (M 27 4).toNat) → (M 27 4 - lx).toNat < n2 → G p l e (rmD 2) s m args below meth c D cy q A 0 0 4 (MQ below (gQc D cy q A Pq) args s 0 0 A) 10 [(0, gR 27), (1, gI i), (2, gI 19), (3, gI lx)] [] (sr M 33 Tg) := by
    intro n2
    induction n2 with
    | zero => intro lx Tg iv5 hsr_ htr_ hm6; exact absurd hm6 (Nat.not_lt_zero _)
    | succ n2 ih3 =>
      intro lx Tg iv5 hsr_ htr_ hm6
      refine g_iloadn (pc := 10) (i := 3) (x := lx) hK dd_X8_findsNext_10 rfl rfl ?_
      refine g_aloadn (pc := 11) (i := 0) (x := 27) hK dd_X8_findsNext_11 rfl rfl ?_
      refine g_geti (pc := 12) (f := (0, 0)) (j := 4) hK (kdm kd_27) rfl ef_8 (by decide) rfl kk_200 nl_27 dd_X8_findsNext_12 rfl (fun x7 ex7 rx7 => ?_)
      replace ex7 : x7 = M 27 4 := ex7
      refine g_icmp_ge (pc := 15) (tgt := 85) hK dd_X8_findsNext_15 (by decide) ⟨by omega, by omega⟩ rx7 (fun c8 => ?_) (fun c8 => ?_)
      · refine g_iconst (pc := 85) (x := 0) hK dd_X8_findsNext_85 (by decide) ?_
        refine g_iret (pc := 86) hK hr hlocks dd_X8_findsNext_86 rfl ?_
        first | exact g_fin (hF Tg (by exact sr_end hsr_ (by omega))) (by first | rfl | omega | (subst_vars; first | rfl | omega)) (rfl) | (exfalso; omega)
      · refine g_aloadn (pc := 18) (i := 0) (x := 27) hK dd_X8_findsNext_18 rfl rfl ?_
        refine g_getv (pc := 19) (f := (1, 6)) (j := 6) (v := gR 33) hK (kdm kd_27) rfl ef_8 (by decide) rfl kk_203 dd_X8_findsNext_19 rfl ?_
        refine g_iloadn (pc := 22) (i := 3) (x := lx) hK dd_X8_findsNext_22 rfl rfl ?_
        refine g_iald (pc := 23) hK (kdm kd_33) nl_33 (by decide) dd_X8_findsNext_23 (by omega) (by omega) (fun x9 ex9 rx9 => ?_)
        replace ex9 : x9 = Tg lx.toNat := by first | exact ex9 | (rw [ex9]; simp [up, us, cp, sr])
        refine g_iconst (pc := 24) (x := (-1)) hK dd_X8_findsNext_24 (by decide) ?_
        refine g_icmp_ne (pc := 25) (tgt := 79) hK dd_X8_findsNext_25 (by decide) rx9 (by decide) (fun c10 => ?_) (fun c10 => ?_)
        · have hsn_ : Sr (M 27 4).toNat (mbe (M 28) (M 29) (M 30) (M 31)) i (M 32) (M 33) (lx.toNat + 1) Tg := sr_next hsr_ (Or.inl (by omega))
          refine g_iinc (pc := 79) (i := 3) (y := lx + 1) (L' := [(0, gR 27), (1, gI i), (2, gI 19), (3, gI (lx + 1))]) hK dd_X8_findsNext_79 rfl rfl (by decide) rfl ?_
          refine g_goto (pc := 82) (tgt := 10) hK dd_X8_findsNext_82 (by decide) ?_
          refine g_sub (L' := [(0, gR 27), (1, gI i), (2, gI 19), (3, gI (lx + 1))]) [0, 1, 2, 3] rfl ?_
          refine g_mem (M2 := sr M 33 Tg) (by first | rfl | (simp (disch := decide) only [Int.reduceToNat, up_sr, sr_cp, sr_k, sr_o, sr_sr, us_us, @sr_lt _ 33 32 _ _ (by decide)]; try rfl)) ?_
          exact ih3 (lx + 1) Tg (by omega) (by rw [tn1 (by omega)]; exact hsn_) (Nat.le_trans htr (trd_mono hsn_.1)) (by omega)
        · have hlt_ := trd_lt (T := Tg) (n := (M 27 4).toNat) (l := lx.toNat) (by omega) (by omega)
          refine g_aloadn (pc := 28) (i := 0) (x := 27) hK dd_X8_findsNext_28 rfl rfl ?_
          refine g_iloadn (pc := 29) (i := 1) (x := i) hK dd_X8_findsNext_29 rfl rfl ?_
          refine g_iloadn (pc := 30) (i := 3) (x := lx) hK dd_X8_findsNext_30 rfl rfl ?_
          refine g_callV (pc := 31) (As := [gI i, gI lx]) hK ws_Sightings_51 md_X8_mayBeOf ⟨Nat.zero_le _, Nat.zero_le _⟩ ⟨by decide, by decide⟩ (kdm kd_27) rfl rfl dd_X8_findsNext_31 rfl rfl (Nat.le_of_ble_eq_true rfl) (c_mayBeOf i lx (show 0 ≤ i ∧ i < 20 by omega) (show 0 ≤ lx ∧ lx < 20 by omega) (fun c11 => g_r1 ?_) (fun c11 => g_r1 ?_))
          · replace c11 : mbe (M 28) (M 29) (M 30) (M 31) i.toNat lx.toNat := c11
            have hme_ : (mbe (M 28) (M 29) (M 30) (M 31)) i.toNat lx.toNat := c11
            refine g_if_eq (pc := 34) (tgt := 79) hK dd_X8_findsNext_34 (by decide) (by decide) (fun c12 => absurd c12 (by decide)) (fun _ => ?_)
            refine g_aloadn (pc := 37) (i := 0) (x := 27) hK dd_X8_findsNext_37 rfl rfl ?_
            refine g_getv (pc := 38) (f := (1, 6)) (j := 6) (v := gR 33) hK (kdm kd_27) rfl ef_8 (by decide) rfl kk_203 dd_X8_findsNext_38 rfl ?_
            refine g_iloadn (pc := 41) (i := 3) (x := lx) hK dd_X8_findsNext_41 rfl rfl ?_
            refine g_iloadn (pc := 42) (i := 1) (x := i) hK dd_X8_findsNext_42 rfl rfl ?_
            refine g_iast (pc := 43) hK (kdm kd_33) nl_33 (by decide) (by decide) dd_X8_findsNext_43 (by omega) (by omega) ⟨by omega, by omega⟩ ?_
            refine g_mem (M2 := sr M 33 (us Tg lx.toNat i)) (by simp (disch := decide) only [Int.reduceToNat, up_sr, sr_cp, sr_k, sr_o, sr_sr, us_us, @sr_lt _ 33 32 _ _ (by decide)]; try rfl) ?_
            have htr2_ : 20 ≤ trd (us Tg lx.toNat i) (M 27 4).toNat := by rw [trd_us (by omega) (by omega) (by omega)]; omega
            refine g_aloadn (pc := 44) (i := 0) (x := 27) hK dd_X8_findsNext_44 rfl rfl ?_
            refine g_getv (pc := 45) (f := (1, 5)) (j := 5) (v := gR 32) hK (kdm kd_27) rfl ef_8 (by decide) rfl kk_202 dd_X8_findsNext_45 rfl ?_
            refine g_iloadn (pc := 48) (i := 3) (x := lx) hK dd_X8_findsNext_48 rfl rfl ?_
            refine g_iald (pc := 49) hK (kdm kd_32) nl_32 (by decide) dd_X8_findsNext_49 (by omega) (by omega) (fun x13 ex13 rx13 => ?_)
            replace ex13 : x13 = M 32 lx.toNat := ex13
            refine g_iconst (pc := 50) (x := (-1)) hK dd_X8_findsNext_50 (by decide) ?_
            refine g_icmp_eq (pc := 51) (tgt := 70) hK dd_X8_findsNext_51 (by decide) rx13 (by decide) (fun c14 => ?_) (fun c14 => ?_)
            · skip
              refine g_aloadn (pc := 70) (i := 0) (x := 27) hK dd_X8_findsNext_70 rfl rfl ?_
              refine g_getv (pc := 71) (f := (1, 5)) (j := 5) (v := gR 32) hK (kdm kd_27) rfl ef_8 (by decide) rfl kk_202 dd_X8_findsNext_71 rfl ?_
              refine g_iloadn (pc := 74) (i := 3) (x := lx) hK dd_X8_findsNext_74 rfl rfl ?_
              refine g_iloadn (pc := 75) (i := 1) (x := i) hK dd_X8_findsNext_75 rfl rfl ?_
              refine g_iast (pc := 76) hK (kdm kd_32) nl_32 (by decide) (by decide) dd_X8_findsNext_76 (by omega) (by omega) ⟨by omega, by omega⟩ ?_
              refine g_iconst (pc := 77) (x := 1) hK dd_X8_findsNext_77 (by decide) ?_
              refine g_iret (pc := 78) hK hr hlocks dd_X8_findsNext_78 rfl ?_
              first | exact g_fin (hT (us (M 32) lx.toNat i) (us Tg lx.toNat i) (by exact aug_base (by omega) ⟨hi.1, by omega⟩ hv hsr_ (by omega) hme_ (by omega))) (by first | rfl | omega | (subst_vars; first | rfl | omega)) (by simp (disch := decide) only [Int.reduceToNat, up_sr, sr_cp, sr_k, sr_o, sr_sr, us_us, @sr_lt _ 33 32 _ _ (by decide)]; try rfl) | (exfalso; omega)
            · have hvl_ := hv lx.toNat (by omega)
              refine g_aloadn (pc := 54) (i := 0) (x := 27) hK dd_X8_findsNext_54 rfl rfl ?_
              refine g_aloadn (pc := 55) (i := 0) (x := 27) hK dd_X8_findsNext_55 rfl rfl ?_
              refine g_getv (pc := 56) (f := (1, 5)) (j := 5) (v := gR 32) hK (kdm kd_27) rfl ef_8 (by decide) rfl kk_202 dd_X8_findsNext_56 rfl ?_
              refine g_iloadn (pc := 59) (i := 3) (x := lx) hK dd_X8_findsNext_59 rfl rfl ?_
              refine g_iald (pc := 60) hK (kdm kd_32) nl_32 (by decide) dd_X8_findsNext_60 (by omega) (by omega) (fun x15 ex15 rx15 => ?_)
              replace ex15 : x15 = M 32 lx.toNat := ex15
              skip
              refine g_iloadn (pc := 61) (i := 2) (x := 19) hK dd_X8_findsNext_61 rfl rfl ?_
              refine g_iconst (pc := 62) (x := 1) hK dd_X8_findsNext_62 (by decide) ?_
              refine g_iadd (pc := 63) (z := 20) hK dd_X8_findsNext_63 rfl ?_
              refine g_callT (pc := 64) (As := [gR 27, gI x15, gI 20]) hK ws_Sightings_47 md_X8_findsNext ⟨Nat.zero_le _, Nat.zero_le _⟩ ⟨by decide, by decide⟩ dd_X8_findsNext_64 rfl rfl (Nat.le_of_ble_eq_true rfl) (c_fn20 x15 (show 0 ≤ x15 ∧ x15 < M 27 4 by omega) hsc hv htr2_ (fun B16 T17 c18 => g_r1 ?_) (fun T19 c20 => g_r1 ?_))
              · replace c18 : Aug (M 27 4).toNat (mbe (M 28) (M 29) (M 30) (M 31)) x15 (M 32) ((us Tg lx.toNat i)) B16 := c18
                refine g_mem (M2 := sr (sr M 32 B16) 33 T17) (by simp (disch := decide) only [Int.reduceToNat, up_sr, sr_cp, sr_k, sr_o, sr_sr, us_us, @sr_lt _ 33 32 _ _ (by decide)]; try rfl) ?_
                have haug_ : Aug (M 27 4).toNat (mbe (M 28) (M 29) (M 30) (M 31)) (M 32 lx.toNat) (M 32) (us Tg lx.toNat i) B16 := by rw [← ex15]; exact c18
                refine g_if_eq (pc := 67) (tgt := 79) hK dd_X8_findsNext_67 (by decide) (by decide) (fun c21 => absurd c21 (by decide)) (fun _ => ?_)
                skip
                refine g_aloadn (pc := 70) (i := 0) (x := 27) hK dd_X8_findsNext_70 rfl rfl ?_
                refine g_getv (pc := 71) (f := (1, 5)) (j := 5) (v := gR 32) hK (kdm kd_27) rfl ef_8 (by decide) rfl kk_202 dd_X8_findsNext_71 rfl ?_
                refine g_iloadn (pc := 74) (i := 3) (x := lx) hK dd_X8_findsNext_74 rfl rfl ?_
                refine g_iloadn (pc := 75) (i := 1) (x := i) hK dd_X8_findsNext_75 rfl rfl ?_
                refine g_iast (pc := 76) hK (kdm kd_32) nl_32 (by decide) (by decide) dd_X8_findsNext_76 (by omega) (by omega) ⟨by omega, by omega⟩ ?_
                refine g_iconst (pc := 77) (x := 1) hK dd_X8_findsNext_77 (by decide) ?_
                refine g_iret (pc := 78) hK hr hlocks dd_X8_findsNext_78 rfl ?_
                first | exact g_fin (hT (us B16 lx.toNat i) T17 (by exact aug_rec (by omega) ⟨hi.1, by omega⟩ hv hsr_ (by omega) hme_ (by omega) haug_)) (by first | rfl | omega | (subst_vars; first | rfl | omega)) (by simp (disch := decide) only [Int.reduceToNat, up_sr, sr_cp, sr_k, sr_o, sr_sr, us_us, @sr_lt _ 33 32 _ _ (by decide)]; try rfl) | (exfalso; omega)
              · replace c20 : Nno (M 27 4).toNat (mbe (M 28) (M 29) (M 30) (M 31)) x15 (M 32) ((us Tg lx.toNat i)) T19 := c20
                refine g_mem (M2 := sr M 33 T19) (by simp (disch := decide) only [Int.reduceToNat, up_sr, sr_cp, sr_k, sr_o, sr_sr, us_us, @sr_lt _ 33 32 _ _ (by decide)]; try rfl) ?_
                have hnno_ : Nno (M 27 4).toNat (mbe (M 28) (M 29) (M 30) (M 31)) (M 32 lx.toNat) (M 32) (us Tg lx.toNat i) T19 := by rw [← ex15]; exact c20
                refine g_if_eq (pc := 67) (tgt := 79) hK dd_X8_findsNext_67 (by decide) (by decide) (fun _ => ?_) (fun c22 => absurd (by decide) c22)
                have hsn_ : Sr (M 27 4).toNat (mbe (M 28) (M 29) (M 30) (M 31)) i (M 32) (M 33) (lx.toNat + 1) T19 := sr_rec (by omega) hi.1 hsr_ (by omega) hnno_
                refine g_iinc (pc := 79) (i := 3) (y := lx + 1) (L' := [(0, gR 27), (1, gI i), (2, gI 19), (3, gI (lx + 1))]) hK dd_X8_findsNext_79 rfl rfl (by decide) rfl ?_
                refine g_goto (pc := 82) (tgt := 10) hK dd_X8_findsNext_82 (by decide) ?_
                refine g_sub (L' := [(0, gR 27), (1, gI i), (2, gI 19), (3, gI (lx + 1))]) [0, 1, 2, 3] rfl ?_
                refine g_mem (M2 := sr M 33 T19) (by first | rfl | (simp (disch := decide) only [Int.reduceToNat, up_sr, sr_cp, sr_k, sr_o, sr_sr, us_us, @sr_lt _ 33 32 _ _ (by decide)]; try rfl)) ?_
                exact ih3 (lx + 1) T19 (by omega) (by rw [tn1 (by omega)]; exact hsn_) (Nat.le_trans htr (trd_mono hsn_.1)) (by omega)
          · replace c11 : ¬ (mbe (M 28) (M 29) (M 30) (M 31) i.toNat lx.toNat) := c11
            have hme_ : ¬ (mbe (M 28) (M 29) (M 30) (M 31)) i.toNat lx.toNat := c11
            refine g_if_eq (pc := 34) (tgt := 79) hK dd_X8_findsNext_34 (by decide) (by decide) (fun _ => ?_) (fun c23 => absurd (by decide) c23)
            have hsn_ : Sr (M 27 4).toNat (mbe (M 28) (M 29) (M 30) (M 31)) i (M 32) (M 33) (lx.toNat + 1) Tg := sr_next hsr_ (Or.inr hme_)
            refine g_iinc (pc := 79) (i := 3) (y := lx + 1) (L' := [(0, gR 27), (1, gI i), (2, gI 19), (3, gI (lx + 1))]) hK dd_X8_findsNext_79 rfl rfl (by decide) rfl ?_
            refine g_goto (pc := 82) (tgt := 10) hK dd_X8_findsNext_82 (by decide) ?_
            refine g_sub (L' := [(0, gR 27), (1, gI i), (2, gI 19), (3, gI (lx + 1))]) [0, 1, 2, 3] rfl ?_
            refine g_mem (M2 := sr M 33 Tg) (by first | rfl | (simp (disch := decide) only [Int.reduceToNat, up_sr, sr_cp, sr_k, sr_o, sr_sr, us_us, @sr_lt _ 33 32 _ _ (by decide)]; try rfl)) ?_
            exact ih3 (lx + 1) Tg (by omega) (by rw [tn1 (by omega)]; exact hsn_) (Nat.le_trans htr (trd_mono hsn_.1)) (by omega)
  refine g_mem (M2 := sr M 33 (M 33)) (sr_self.symm) ?_
  refine g_sub (L' := [(0, gR 27), (1, gI i), (2, gI 19), (3, gI 0)]) [0, 1, 2, 3] rfl ?_
  exact lp4 _ 0 (M 33) (by omega) (sr0) (htr) (Nat.lt_succ_self _)
set_option maxHeartbeats 4000000 in
set_option maxRecDepth 100000 in
theorem c_fn18 {l : Launch} {M : Mem} {Pq : Option gV → Mem → Prop} (i : Int) (hi : 0 ≤ i ∧ i < M 27 4) (hsc : 0 ≤ M 27 4 ∧ M 27 4 ≤ 20) (hv : Vl (M 27 4).toNat (mbe (M 28) (M 29) (M 30) (M 31)) (M 32)) (htr : 18 ≤ trd (M 33) (M 27 4).toNat) (hT : ∀ (B1 : Nat → Int) (T1 : Nat → Int), (Aug (M 27 4).toNat (mbe (M 28) (M 29) (M 30) (M 31)) i (M 32) (M 33) B1) → Pq (some (gI 1)) (sr (sr M 32 B1) 33 T1)) (hF : ∀ (T1 : Nat → Int), (Nno (M 27 4).toNat (mbe (M 28) (M 29) (M 30) (M 31)) i (M 32) (M 33) T1) → Pq (some (gI 0)) (sr M 33 T1)) : gCtr l my_X8_findsNext mb_X8_findsNext 4 ((some .boolean)) 3 [gR 27, gI i, gI 18] M Pq := by
  refine g_intro (by decide) (Nat.le_of_ble_eq_true rfl) ?_
  intro p e s m args below meth c D cy q A hK hr hlocks hw
  refine g_sub (L' := [(0, gR 27), (1, gI i), (2, gI 18)]) [0, 1, 2] rfl ?_
  refine g_iloadn (pc := 0) (i := 2) (x := 18) hK dd_X8_findsNext_0 rfl rfl ?_
  refine g_bipush (pc := 1) (x := 20) hK dd_X8_findsNext_1 (by decide) ?_
  refine g_icmp_le (pc := 3) (tgt := 8) hK dd_X8_findsNext_3 (by decide) (by decide) (by decide) (fun _ => ?_) (fun c1 => absurd (by decide) c1)
  refine g_iconst (pc := 8) (x := 0) hK dd_X8_findsNext_8 (by decide) ?_
  refine g_istoren (pc := 9) (i := 3) (L' := [(0, gR 27), (1, gI i), (2, gI 18), (3, gI 0)]) hK dd_X8_findsNext_9 rfl (by decide) rfl ?_
  have lp4 : ∀ (n2 : Nat) (lx : Int) (Tg : Nat → Int), (0 ≤ lx ∧ lx ≤ M 27 4) → (Sr (M 27 4).toNat (mbe (M 28) (M 29) (M 30) (M 31)) i (M 32) (M 33) lx.toNat Tg) → (18 ≤ trd Tg (M 27 4).toNat) → (M 27 4 - lx).toNat < n2 → G p l e (rmD 3) s m args below meth c D cy q A 0 0 4 (MQ below (gQc D cy q A Pq) args s 0 0 A) 10 [(0, gR 27), (1, gI i), (2, gI 18), (3, gI lx)] [] (sr M 33 Tg) := by
    intro n2
    induction n2 with
    | zero => intro lx Tg iv5 hsr_ htr_ hm6; exact absurd hm6 (Nat.not_lt_zero _)
    | succ n2 ih3 =>
      intro lx Tg iv5 hsr_ htr_ hm6
      refine g_iloadn (pc := 10) (i := 3) (x := lx) hK dd_X8_findsNext_10 rfl rfl ?_
      refine g_aloadn (pc := 11) (i := 0) (x := 27) hK dd_X8_findsNext_11 rfl rfl ?_
      refine g_geti (pc := 12) (f := (0, 0)) (j := 4) hK (kdm kd_27) rfl ef_8 (by decide) rfl kk_200 nl_27 dd_X8_findsNext_12 rfl (fun x7 ex7 rx7 => ?_)
      replace ex7 : x7 = M 27 4 := ex7
      refine g_icmp_ge (pc := 15) (tgt := 85) hK dd_X8_findsNext_15 (by decide) ⟨by omega, by omega⟩ rx7 (fun c8 => ?_) (fun c8 => ?_)
      · refine g_iconst (pc := 85) (x := 0) hK dd_X8_findsNext_85 (by decide) ?_
        refine g_iret (pc := 86) hK hr hlocks dd_X8_findsNext_86 rfl ?_
        first | exact g_fin (hF Tg (by exact sr_end hsr_ (by omega))) (by first | rfl | omega | (subst_vars; first | rfl | omega)) (rfl) | (exfalso; omega)
      · refine g_aloadn (pc := 18) (i := 0) (x := 27) hK dd_X8_findsNext_18 rfl rfl ?_
        refine g_getv (pc := 19) (f := (1, 6)) (j := 6) (v := gR 33) hK (kdm kd_27) rfl ef_8 (by decide) rfl kk_203 dd_X8_findsNext_19 rfl ?_
        refine g_iloadn (pc := 22) (i := 3) (x := lx) hK dd_X8_findsNext_22 rfl rfl ?_
        refine g_iald (pc := 23) hK (kdm kd_33) nl_33 (by decide) dd_X8_findsNext_23 (by omega) (by omega) (fun x9 ex9 rx9 => ?_)
        replace ex9 : x9 = Tg lx.toNat := by first | exact ex9 | (rw [ex9]; simp [up, us, cp, sr])
        refine g_iconst (pc := 24) (x := (-1)) hK dd_X8_findsNext_24 (by decide) ?_
        refine g_icmp_ne (pc := 25) (tgt := 79) hK dd_X8_findsNext_25 (by decide) rx9 (by decide) (fun c10 => ?_) (fun c10 => ?_)
        · have hsn_ : Sr (M 27 4).toNat (mbe (M 28) (M 29) (M 30) (M 31)) i (M 32) (M 33) (lx.toNat + 1) Tg := sr_next hsr_ (Or.inl (by omega))
          refine g_iinc (pc := 79) (i := 3) (y := lx + 1) (L' := [(0, gR 27), (1, gI i), (2, gI 18), (3, gI (lx + 1))]) hK dd_X8_findsNext_79 rfl rfl (by decide) rfl ?_
          refine g_goto (pc := 82) (tgt := 10) hK dd_X8_findsNext_82 (by decide) ?_
          refine g_sub (L' := [(0, gR 27), (1, gI i), (2, gI 18), (3, gI (lx + 1))]) [0, 1, 2, 3] rfl ?_
          refine g_mem (M2 := sr M 33 Tg) (by first | rfl | (simp (disch := decide) only [Int.reduceToNat, up_sr, sr_cp, sr_k, sr_o, sr_sr, us_us, @sr_lt _ 33 32 _ _ (by decide)]; try rfl)) ?_
          exact ih3 (lx + 1) Tg (by omega) (by rw [tn1 (by omega)]; exact hsn_) (Nat.le_trans htr (trd_mono hsn_.1)) (by omega)
        · have hlt_ := trd_lt (T := Tg) (n := (M 27 4).toNat) (l := lx.toNat) (by omega) (by omega)
          refine g_aloadn (pc := 28) (i := 0) (x := 27) hK dd_X8_findsNext_28 rfl rfl ?_
          refine g_iloadn (pc := 29) (i := 1) (x := i) hK dd_X8_findsNext_29 rfl rfl ?_
          refine g_iloadn (pc := 30) (i := 3) (x := lx) hK dd_X8_findsNext_30 rfl rfl ?_
          refine g_callV (pc := 31) (As := [gI i, gI lx]) hK ws_Sightings_51 md_X8_mayBeOf ⟨Nat.zero_le _, Nat.zero_le _⟩ ⟨by decide, by decide⟩ (kdm kd_27) rfl rfl dd_X8_findsNext_31 rfl rfl (Nat.le_of_ble_eq_true rfl) (c_mayBeOf i lx (show 0 ≤ i ∧ i < 20 by omega) (show 0 ≤ lx ∧ lx < 20 by omega) (fun c11 => g_r1 ?_) (fun c11 => g_r1 ?_))
          · replace c11 : mbe (M 28) (M 29) (M 30) (M 31) i.toNat lx.toNat := c11
            have hme_ : (mbe (M 28) (M 29) (M 30) (M 31)) i.toNat lx.toNat := c11
            refine g_if_eq (pc := 34) (tgt := 79) hK dd_X8_findsNext_34 (by decide) (by decide) (fun c12 => absurd c12 (by decide)) (fun _ => ?_)
            refine g_aloadn (pc := 37) (i := 0) (x := 27) hK dd_X8_findsNext_37 rfl rfl ?_
            refine g_getv (pc := 38) (f := (1, 6)) (j := 6) (v := gR 33) hK (kdm kd_27) rfl ef_8 (by decide) rfl kk_203 dd_X8_findsNext_38 rfl ?_
            refine g_iloadn (pc := 41) (i := 3) (x := lx) hK dd_X8_findsNext_41 rfl rfl ?_
            refine g_iloadn (pc := 42) (i := 1) (x := i) hK dd_X8_findsNext_42 rfl rfl ?_
            refine g_iast (pc := 43) hK (kdm kd_33) nl_33 (by decide) (by decide) dd_X8_findsNext_43 (by omega) (by omega) ⟨by omega, by omega⟩ ?_
            refine g_mem (M2 := sr M 33 (us Tg lx.toNat i)) (by simp (disch := decide) only [Int.reduceToNat, up_sr, sr_cp, sr_k, sr_o, sr_sr, us_us, @sr_lt _ 33 32 _ _ (by decide)]; try rfl) ?_
            have htr2_ : 19 ≤ trd (us Tg lx.toNat i) (M 27 4).toNat := by rw [trd_us (by omega) (by omega) (by omega)]; omega
            refine g_aloadn (pc := 44) (i := 0) (x := 27) hK dd_X8_findsNext_44 rfl rfl ?_
            refine g_getv (pc := 45) (f := (1, 5)) (j := 5) (v := gR 32) hK (kdm kd_27) rfl ef_8 (by decide) rfl kk_202 dd_X8_findsNext_45 rfl ?_
            refine g_iloadn (pc := 48) (i := 3) (x := lx) hK dd_X8_findsNext_48 rfl rfl ?_
            refine g_iald (pc := 49) hK (kdm kd_32) nl_32 (by decide) dd_X8_findsNext_49 (by omega) (by omega) (fun x13 ex13 rx13 => ?_)
            replace ex13 : x13 = M 32 lx.toNat := ex13
            refine g_iconst (pc := 50) (x := (-1)) hK dd_X8_findsNext_50 (by decide) ?_
            refine g_icmp_eq (pc := 51) (tgt := 70) hK dd_X8_findsNext_51 (by decide) rx13 (by decide) (fun c14 => ?_) (fun c14 => ?_)
            · skip
              refine g_aloadn (pc := 70) (i := 0) (x := 27) hK dd_X8_findsNext_70 rfl rfl ?_
              refine g_getv (pc := 71) (f := (1, 5)) (j := 5) (v := gR 32) hK (kdm kd_27) rfl ef_8 (by decide) rfl kk_202 dd_X8_findsNext_71 rfl ?_
              refine g_iloadn (pc := 74) (i := 3) (x := lx) hK dd_X8_findsNext_74 rfl rfl ?_
              refine g_iloadn (pc := 75) (i := 1) (x := i) hK dd_X8_findsNext_75 rfl rfl ?_
              refine g_iast (pc := 76) hK (kdm kd_32) nl_32 (by decide) (by decide) dd_X8_findsNext_76 (by omega) (by omega) ⟨by omega, by omega⟩ ?_
              refine g_iconst (pc := 77) (x := 1) hK dd_X8_findsNext_77 (by decide) ?_
              refine g_iret (pc := 78) hK hr hlocks dd_X8_findsNext_78 rfl ?_
              first | exact g_fin (hT (us (M 32) lx.toNat i) (us Tg lx.toNat i) (by exact aug_base (by omega) ⟨hi.1, by omega⟩ hv hsr_ (by omega) hme_ (by omega))) (by first | rfl | omega | (subst_vars; first | rfl | omega)) (by simp (disch := decide) only [Int.reduceToNat, up_sr, sr_cp, sr_k, sr_o, sr_sr, us_us, @sr_lt _ 33 32 _ _ (by decide)]; try rfl) | (exfalso; omega)
            · have hvl_ := hv lx.toNat (by omega)
              refine g_aloadn (pc := 54) (i := 0) (x := 27) hK dd_X8_findsNext_54 rfl rfl ?_
              refine g_aloadn (pc := 55) (i := 0) (x := 27) hK dd_X8_findsNext_55 rfl rfl ?_
              refine g_getv (pc := 56) (f := (1, 5)) (j := 5) (v := gR 32) hK (kdm kd_27) rfl ef_8 (by decide) rfl kk_202 dd_X8_findsNext_56 rfl ?_
              refine g_iloadn (pc := 59) (i := 3) (x := lx) hK dd_X8_findsNext_59 rfl rfl ?_
              refine g_iald (pc := 60) hK (kdm kd_32) nl_32 (by decide) dd_X8_findsNext_60 (by omega) (by omega) (fun x15 ex15 rx15 => ?_)
              replace ex15 : x15 = M 32 lx.toNat := ex15
              skip
              refine g_iloadn (pc := 61) (i := 2) (x := 18) hK dd_X8_findsNext_61 rfl rfl ?_
              refine g_iconst (pc := 62) (x := 1) hK dd_X8_findsNext_62 (by decide) ?_
              refine g_iadd (pc := 63) (z := 19) hK dd_X8_findsNext_63 rfl ?_
              refine g_callT (pc := 64) (As := [gR 27, gI x15, gI 19]) hK ws_Sightings_47 md_X8_findsNext ⟨Nat.zero_le _, Nat.zero_le _⟩ ⟨by decide, by decide⟩ dd_X8_findsNext_64 rfl rfl (Nat.le_of_ble_eq_true rfl) (c_fn19 x15 (show 0 ≤ x15 ∧ x15 < M 27 4 by omega) hsc hv htr2_ (fun B16 T17 c18 => g_r1 ?_) (fun T19 c20 => g_r1 ?_))
              · replace c18 : Aug (M 27 4).toNat (mbe (M 28) (M 29) (M 30) (M 31)) x15 (M 32) ((us Tg lx.toNat i)) B16 := c18
                refine g_mem (M2 := sr (sr M 32 B16) 33 T17) (by simp (disch := decide) only [Int.reduceToNat, up_sr, sr_cp, sr_k, sr_o, sr_sr, us_us, @sr_lt _ 33 32 _ _ (by decide)]; try rfl) ?_
                have haug_ : Aug (M 27 4).toNat (mbe (M 28) (M 29) (M 30) (M 31)) (M 32 lx.toNat) (M 32) (us Tg lx.toNat i) B16 := by rw [← ex15]; exact c18
                refine g_if_eq (pc := 67) (tgt := 79) hK dd_X8_findsNext_67 (by decide) (by decide) (fun c21 => absurd c21 (by decide)) (fun _ => ?_)
                skip
                refine g_aloadn (pc := 70) (i := 0) (x := 27) hK dd_X8_findsNext_70 rfl rfl ?_
                refine g_getv (pc := 71) (f := (1, 5)) (j := 5) (v := gR 32) hK (kdm kd_27) rfl ef_8 (by decide) rfl kk_202 dd_X8_findsNext_71 rfl ?_
                refine g_iloadn (pc := 74) (i := 3) (x := lx) hK dd_X8_findsNext_74 rfl rfl ?_
                refine g_iloadn (pc := 75) (i := 1) (x := i) hK dd_X8_findsNext_75 rfl rfl ?_
                refine g_iast (pc := 76) hK (kdm kd_32) nl_32 (by decide) (by decide) dd_X8_findsNext_76 (by omega) (by omega) ⟨by omega, by omega⟩ ?_
                refine g_iconst (pc := 77) (x := 1) hK dd_X8_findsNext_77 (by decide) ?_
                refine g_iret (pc := 78) hK hr hlocks dd_X8_findsNext_78 rfl ?_
                first | exact g_fin (hT (us B16 lx.toNat i) T17 (by exact aug_rec (by omega) ⟨hi.1, by omega⟩ hv hsr_ (by omega) hme_ (by omega) haug_)) (by first | rfl | omega | (subst_vars; first | rfl | omega)) (by simp (disch := decide) only [Int.reduceToNat, up_sr, sr_cp, sr_k, sr_o, sr_sr, us_us, @sr_lt _ 33 32 _ _ (by decide)]; try rfl) | (exfalso; omega)
              · replace c20 : Nno (M 27 4).toNat (mbe (M 28) (M 29) (M 30) (M 31)) x15 (M 32) ((us Tg lx.toNat i)) T19 := c20
                refine g_mem (M2 := sr M 33 T19) (by simp (disch := decide) only [Int.reduceToNat, up_sr, sr_cp, sr_k, sr_o, sr_sr, us_us, @sr_lt _ 33 32 _ _ (by decide)]; try rfl) ?_
                have hnno_ : Nno (M 27 4).toNat (mbe (M 28) (M 29) (M 30) (M 31)) (M 32 lx.toNat) (M 32) (us Tg lx.toNat i) T19 := by rw [← ex15]; exact c20
                refine g_if_eq (pc := 67) (tgt := 79) hK dd_X8_findsNext_67 (by decide) (by decide) (fun _ => ?_) (fun c22 => absurd (by decide) c22)
                have hsn_ : Sr (M 27 4).toNat (mbe (M 28) (M 29) (M 30) (M 31)) i (M 32) (M 33) (lx.toNat + 1) T19 := sr_rec (by omega) hi.1 hsr_ (by omega) hnno_
                refine g_iinc (pc := 79) (i := 3) (y := lx + 1) (L' := [(0, gR 27), (1, gI i), (2, gI 18), (3, gI (lx + 1))]) hK dd_X8_findsNext_79 rfl rfl (by decide) rfl ?_
                refine g_goto (pc := 82) (tgt := 10) hK dd_X8_findsNext_82 (by decide) ?_
                refine g_sub (L' := [(0, gR 27), (1, gI i), (2, gI 18), (3, gI (lx + 1))]) [0, 1, 2, 3] rfl ?_
                refine g_mem (M2 := sr M 33 T19) (by first | rfl | (simp (disch := decide) only [Int.reduceToNat, up_sr, sr_cp, sr_k, sr_o, sr_sr, us_us, @sr_lt _ 33 32 _ _ (by decide)]; try rfl)) ?_
                exact ih3 (lx + 1) T19 (by omega) (by rw [tn1 (by omega)]; exact hsn_) (Nat.le_trans htr (trd_mono hsn_.1)) (by omega)
          · replace c11 : ¬ (mbe (M 28) (M 29) (M 30) (M 31) i.toNat lx.toNat) := c11
            have hme_ : ¬ (mbe (M 28) (M 29) (M 30) (M 31)) i.toNat lx.toNat := c11
            refine g_if_eq (pc := 34) (tgt := 79) hK dd_X8_findsNext_34 (by decide) (by decide) (fun _ => ?_) (fun c23 => absurd (by decide) c23)
            have hsn_ : Sr (M 27 4).toNat (mbe (M 28) (M 29) (M 30) (M 31)) i (M 32) (M 33) (lx.toNat + 1) Tg := sr_next hsr_ (Or.inr hme_)
            refine g_iinc (pc := 79) (i := 3) (y := lx + 1) (L' := [(0, gR 27), (1, gI i), (2, gI 18), (3, gI (lx + 1))]) hK dd_X8_findsNext_79 rfl rfl (by decide) rfl ?_
            refine g_goto (pc := 82) (tgt := 10) hK dd_X8_findsNext_82 (by decide) ?_
            refine g_sub (L' := [(0, gR 27), (1, gI i), (2, gI 18), (3, gI (lx + 1))]) [0, 1, 2, 3] rfl ?_
            refine g_mem (M2 := sr M 33 Tg) (by first | rfl | (simp (disch := decide) only [Int.reduceToNat, up_sr, sr_cp, sr_k, sr_o, sr_sr, us_us, @sr_lt _ 33 32 _ _ (by decide)]; try rfl)) ?_
            exact ih3 (lx + 1) Tg (by omega) (by rw [tn1 (by omega)]; exact hsn_) (Nat.le_trans htr (trd_mono hsn_.1)) (by omega)
  refine g_mem (M2 := sr M 33 (M 33)) (sr_self.symm) ?_
  refine g_sub (L' := [(0, gR 27), (1, gI i), (2, gI 18), (3, gI 0)]) [0, 1, 2, 3] rfl ?_
  exact lp4 _ 0 (M 33) (by omega) (sr0) (htr) (Nat.lt_succ_self _)
set_option maxHeartbeats 4000000 in
set_option maxRecDepth 100000 in
theorem c_fn17 {l : Launch} {M : Mem} {Pq : Option gV → Mem → Prop} (i : Int) (hi : 0 ≤ i ∧ i < M 27 4) (hsc : 0 ≤ M 27 4 ∧ M 27 4 ≤ 20) (hv : Vl (M 27 4).toNat (mbe (M 28) (M 29) (M 30) (M 31)) (M 32)) (htr : 17 ≤ trd (M 33) (M 27 4).toNat) (hT : ∀ (B1 : Nat → Int) (T1 : Nat → Int), (Aug (M 27 4).toNat (mbe (M 28) (M 29) (M 30) (M 31)) i (M 32) (M 33) B1) → Pq (some (gI 1)) (sr (sr M 32 B1) 33 T1)) (hF : ∀ (T1 : Nat → Int), (Nno (M 27 4).toNat (mbe (M 28) (M 29) (M 30) (M 31)) i (M 32) (M 33) T1) → Pq (some (gI 0)) (sr M 33 T1)) : gCtr l my_X8_findsNext mb_X8_findsNext 4 ((some .boolean)) 4 [gR 27, gI i, gI 17] M Pq := by
  refine g_intro (by decide) (Nat.le_of_ble_eq_true rfl) ?_
  intro p e s m args below meth c D cy q A hK hr hlocks hw
  refine g_sub (L' := [(0, gR 27), (1, gI i), (2, gI 17)]) [0, 1, 2] rfl ?_
  refine g_iloadn (pc := 0) (i := 2) (x := 17) hK dd_X8_findsNext_0 rfl rfl ?_
  refine g_bipush (pc := 1) (x := 20) hK dd_X8_findsNext_1 (by decide) ?_
  refine g_icmp_le (pc := 3) (tgt := 8) hK dd_X8_findsNext_3 (by decide) (by decide) (by decide) (fun _ => ?_) (fun c1 => absurd (by decide) c1)
  refine g_iconst (pc := 8) (x := 0) hK dd_X8_findsNext_8 (by decide) ?_
  refine g_istoren (pc := 9) (i := 3) (L' := [(0, gR 27), (1, gI i), (2, gI 17), (3, gI 0)]) hK dd_X8_findsNext_9 rfl (by decide) rfl ?_
  have lp4 : ∀ (n2 : Nat) (lx : Int) (Tg : Nat → Int), (0 ≤ lx ∧ lx ≤ M 27 4) → (Sr (M 27 4).toNat (mbe (M 28) (M 29) (M 30) (M 31)) i (M 32) (M 33) lx.toNat Tg) → (17 ≤ trd Tg (M 27 4).toNat) → (M 27 4 - lx).toNat < n2 → G p l e (rmD 4) s m args below meth c D cy q A 0 0 4 (MQ below (gQc D cy q A Pq) args s 0 0 A) 10 [(0, gR 27), (1, gI i), (2, gI 17), (3, gI lx)] [] (sr M 33 Tg) := by
    intro n2
    induction n2 with
    | zero => intro lx Tg iv5 hsr_ htr_ hm6; exact absurd hm6 (Nat.not_lt_zero _)
    | succ n2 ih3 =>
      intro lx Tg iv5 hsr_ htr_ hm6
      refine g_iloadn (pc := 10) (i := 3) (x := lx) hK dd_X8_findsNext_10 rfl rfl ?_
      refine g_aloadn (pc := 11) (i := 0) (x := 27) hK dd_X8_findsNext_11 rfl rfl ?_
      refine g_geti (pc := 12) (f := (0, 0)) (j := 4) hK (kdm kd_27) rfl ef_8 (by decide) rfl kk_200 nl_27 dd_X8_findsNext_12 rfl (fun x7 ex7 rx7 => ?_)
      replace ex7 : x7 = M 27 4 := ex7
      refine g_icmp_ge (pc := 15) (tgt := 85) hK dd_X8_findsNext_15 (by decide) ⟨by omega, by omega⟩ rx7 (fun c8 => ?_) (fun c8 => ?_)
      · refine g_iconst (pc := 85) (x := 0) hK dd_X8_findsNext_85 (by decide) ?_
        refine g_iret (pc := 86) hK hr hlocks dd_X8_findsNext_86 rfl ?_
        first | exact g_fin (hF Tg (by exact sr_end hsr_ (by omega))) (by first | rfl | omega | (subst_vars; first | rfl | omega)) (rfl) | (exfalso; omega)
      · refine g_aloadn (pc := 18) (i := 0) (x := 27) hK dd_X8_findsNext_18 rfl rfl ?_
        refine g_getv (pc := 19) (f := (1, 6)) (j := 6) (v := gR 33) hK (kdm kd_27) rfl ef_8 (by decide) rfl kk_203 dd_X8_findsNext_19 rfl ?_
        refine g_iloadn (pc := 22) (i := 3) (x := lx) hK dd_X8_findsNext_22 rfl rfl ?_
        refine g_iald (pc := 23) hK (kdm kd_33) nl_33 (by decide) dd_X8_findsNext_23 (by omega) (by omega) (fun x9 ex9 rx9 => ?_)
        replace ex9 : x9 = Tg lx.toNat := by first | exact ex9 | (rw [ex9]; simp [up, us, cp, sr])
        refine g_iconst (pc := 24) (x := (-1)) hK dd_X8_findsNext_24 (by decide) ?_
        refine g_icmp_ne (pc := 25) (tgt := 79) hK dd_X8_findsNext_25 (by decide) rx9 (by decide) (fun c10 => ?_) (fun c10 => ?_)
        · have hsn_ : Sr (M 27 4).toNat (mbe (M 28) (M 29) (M 30) (M 31)) i (M 32) (M 33) (lx.toNat + 1) Tg := sr_next hsr_ (Or.inl (by omega))
          refine g_iinc (pc := 79) (i := 3) (y := lx + 1) (L' := [(0, gR 27), (1, gI i), (2, gI 17), (3, gI (lx + 1))]) hK dd_X8_findsNext_79 rfl rfl (by decide) rfl ?_
          refine g_goto (pc := 82) (tgt := 10) hK dd_X8_findsNext_82 (by decide) ?_
          refine g_sub (L' := [(0, gR 27), (1, gI i), (2, gI 17), (3, gI (lx + 1))]) [0, 1, 2, 3] rfl ?_
          refine g_mem (M2 := sr M 33 Tg) (by first | rfl | (simp (disch := decide) only [Int.reduceToNat, up_sr, sr_cp, sr_k, sr_o, sr_sr, us_us, @sr_lt _ 33 32 _ _ (by decide)]; try rfl)) ?_
          exact ih3 (lx + 1) Tg (by omega) (by rw [tn1 (by omega)]; exact hsn_) (Nat.le_trans htr (trd_mono hsn_.1)) (by omega)
        · have hlt_ := trd_lt (T := Tg) (n := (M 27 4).toNat) (l := lx.toNat) (by omega) (by omega)
          refine g_aloadn (pc := 28) (i := 0) (x := 27) hK dd_X8_findsNext_28 rfl rfl ?_
          refine g_iloadn (pc := 29) (i := 1) (x := i) hK dd_X8_findsNext_29 rfl rfl ?_
          refine g_iloadn (pc := 30) (i := 3) (x := lx) hK dd_X8_findsNext_30 rfl rfl ?_
          refine g_callV (pc := 31) (As := [gI i, gI lx]) hK ws_Sightings_51 md_X8_mayBeOf ⟨Nat.zero_le _, Nat.zero_le _⟩ ⟨by decide, by decide⟩ (kdm kd_27) rfl rfl dd_X8_findsNext_31 rfl rfl (Nat.le_of_ble_eq_true rfl) (c_mayBeOf i lx (show 0 ≤ i ∧ i < 20 by omega) (show 0 ≤ lx ∧ lx < 20 by omega) (fun c11 => g_r1 ?_) (fun c11 => g_r1 ?_))
          · replace c11 : mbe (M 28) (M 29) (M 30) (M 31) i.toNat lx.toNat := c11
            have hme_ : (mbe (M 28) (M 29) (M 30) (M 31)) i.toNat lx.toNat := c11
            refine g_if_eq (pc := 34) (tgt := 79) hK dd_X8_findsNext_34 (by decide) (by decide) (fun c12 => absurd c12 (by decide)) (fun _ => ?_)
            refine g_aloadn (pc := 37) (i := 0) (x := 27) hK dd_X8_findsNext_37 rfl rfl ?_
            refine g_getv (pc := 38) (f := (1, 6)) (j := 6) (v := gR 33) hK (kdm kd_27) rfl ef_8 (by decide) rfl kk_203 dd_X8_findsNext_38 rfl ?_
            refine g_iloadn (pc := 41) (i := 3) (x := lx) hK dd_X8_findsNext_41 rfl rfl ?_
            refine g_iloadn (pc := 42) (i := 1) (x := i) hK dd_X8_findsNext_42 rfl rfl ?_
            refine g_iast (pc := 43) hK (kdm kd_33) nl_33 (by decide) (by decide) dd_X8_findsNext_43 (by omega) (by omega) ⟨by omega, by omega⟩ ?_
            refine g_mem (M2 := sr M 33 (us Tg lx.toNat i)) (by simp (disch := decide) only [Int.reduceToNat, up_sr, sr_cp, sr_k, sr_o, sr_sr, us_us, @sr_lt _ 33 32 _ _ (by decide)]; try rfl) ?_
            have htr2_ : 18 ≤ trd (us Tg lx.toNat i) (M 27 4).toNat := by rw [trd_us (by omega) (by omega) (by omega)]; omega
            refine g_aloadn (pc := 44) (i := 0) (x := 27) hK dd_X8_findsNext_44 rfl rfl ?_
            refine g_getv (pc := 45) (f := (1, 5)) (j := 5) (v := gR 32) hK (kdm kd_27) rfl ef_8 (by decide) rfl kk_202 dd_X8_findsNext_45 rfl ?_
            refine g_iloadn (pc := 48) (i := 3) (x := lx) hK dd_X8_findsNext_48 rfl rfl ?_
            refine g_iald (pc := 49) hK (kdm kd_32) nl_32 (by decide) dd_X8_findsNext_49 (by omega) (by omega) (fun x13 ex13 rx13 => ?_)
            replace ex13 : x13 = M 32 lx.toNat := ex13
            refine g_iconst (pc := 50) (x := (-1)) hK dd_X8_findsNext_50 (by decide) ?_
            refine g_icmp_eq (pc := 51) (tgt := 70) hK dd_X8_findsNext_51 (by decide) rx13 (by decide) (fun c14 => ?_) (fun c14 => ?_)
            · skip
              refine g_aloadn (pc := 70) (i := 0) (x := 27) hK dd_X8_findsNext_70 rfl rfl ?_
              refine g_getv (pc := 71) (f := (1, 5)) (j := 5) (v := gR 32) hK (kdm kd_27) rfl ef_8 (by decide) rfl kk_202 dd_X8_findsNext_71 rfl ?_
              refine g_iloadn (pc := 74) (i := 3) (x := lx) hK dd_X8_findsNext_74 rfl rfl ?_
              refine g_iloadn (pc := 75) (i := 1) (x := i) hK dd_X8_findsNext_75 rfl rfl ?_
              refine g_iast (pc := 76) hK (kdm kd_32) nl_32 (by decide) (by decide) dd_X8_findsNext_76 (by omega) (by omega) ⟨by omega, by omega⟩ ?_
              refine g_iconst (pc := 77) (x := 1) hK dd_X8_findsNext_77 (by decide) ?_
              refine g_iret (pc := 78) hK hr hlocks dd_X8_findsNext_78 rfl ?_
              first | exact g_fin (hT (us (M 32) lx.toNat i) (us Tg lx.toNat i) (by exact aug_base (by omega) ⟨hi.1, by omega⟩ hv hsr_ (by omega) hme_ (by omega))) (by first | rfl | omega | (subst_vars; first | rfl | omega)) (by simp (disch := decide) only [Int.reduceToNat, up_sr, sr_cp, sr_k, sr_o, sr_sr, us_us, @sr_lt _ 33 32 _ _ (by decide)]; try rfl) | (exfalso; omega)
            · have hvl_ := hv lx.toNat (by omega)
              refine g_aloadn (pc := 54) (i := 0) (x := 27) hK dd_X8_findsNext_54 rfl rfl ?_
              refine g_aloadn (pc := 55) (i := 0) (x := 27) hK dd_X8_findsNext_55 rfl rfl ?_
              refine g_getv (pc := 56) (f := (1, 5)) (j := 5) (v := gR 32) hK (kdm kd_27) rfl ef_8 (by decide) rfl kk_202 dd_X8_findsNext_56 rfl ?_
              refine g_iloadn (pc := 59) (i := 3) (x := lx) hK dd_X8_findsNext_59 rfl rfl ?_
              refine g_iald (pc := 60) hK (kdm kd_32) nl_32 (by decide) dd_X8_findsNext_60 (by omega) (by omega) (fun x15 ex15 rx15 => ?_)
              replace ex15 : x15 = M 32 lx.toNat := ex15
              skip
              refine g_iloadn (pc := 61) (i := 2) (x := 17) hK dd_X8_findsNext_61 rfl rfl ?_
              refine g_iconst (pc := 62) (x := 1) hK dd_X8_findsNext_62 (by decide) ?_
              refine g_iadd (pc := 63) (z := 18) hK dd_X8_findsNext_63 rfl ?_
              refine g_callT (pc := 64) (As := [gR 27, gI x15, gI 18]) hK ws_Sightings_47 md_X8_findsNext ⟨Nat.zero_le _, Nat.zero_le _⟩ ⟨by decide, by decide⟩ dd_X8_findsNext_64 rfl rfl (Nat.le_of_ble_eq_true rfl) (c_fn18 x15 (show 0 ≤ x15 ∧ x15 < M 27 4 by omega) hsc hv htr2_ (fun B16 T17 c18 => g_r1 ?_) (fun T19 c20 => g_r1 ?_))
              · replace c18 : Aug (M 27 4).toNat (mbe (M 28) (M 29) (M 30) (M 31)) x15 (M 32) ((us Tg lx.toNat i)) B16 := c18
                refine g_mem (M2 := sr (sr M 32 B16) 33 T17) (by simp (disch := decide) only [Int.reduceToNat, up_sr, sr_cp, sr_k, sr_o, sr_sr, us_us, @sr_lt _ 33 32 _ _ (by decide)]; try rfl) ?_
                have haug_ : Aug (M 27 4).toNat (mbe (M 28) (M 29) (M 30) (M 31)) (M 32 lx.toNat) (M 32) (us Tg lx.toNat i) B16 := by rw [← ex15]; exact c18
                refine g_if_eq (pc := 67) (tgt := 79) hK dd_X8_findsNext_67 (by decide) (by decide) (fun c21 => absurd c21 (by decide)) (fun _ => ?_)
                skip
                refine g_aloadn (pc := 70) (i := 0) (x := 27) hK dd_X8_findsNext_70 rfl rfl ?_
                refine g_getv (pc := 71) (f := (1, 5)) (j := 5) (v := gR 32) hK (kdm kd_27) rfl ef_8 (by decide) rfl kk_202 dd_X8_findsNext_71 rfl ?_
                refine g_iloadn (pc := 74) (i := 3) (x := lx) hK dd_X8_findsNext_74 rfl rfl ?_
                refine g_iloadn (pc := 75) (i := 1) (x := i) hK dd_X8_findsNext_75 rfl rfl ?_
                refine g_iast (pc := 76) hK (kdm kd_32) nl_32 (by decide) (by decide) dd_X8_findsNext_76 (by omega) (by omega) ⟨by omega, by omega⟩ ?_
                refine g_iconst (pc := 77) (x := 1) hK dd_X8_findsNext_77 (by decide) ?_
                refine g_iret (pc := 78) hK hr hlocks dd_X8_findsNext_78 rfl ?_
                first | exact g_fin (hT (us B16 lx.toNat i) T17 (by exact aug_rec (by omega) ⟨hi.1, by omega⟩ hv hsr_ (by omega) hme_ (by omega) haug_)) (by first | rfl | omega | (subst_vars; first | rfl | omega)) (by simp (disch := decide) only [Int.reduceToNat, up_sr, sr_cp, sr_k, sr_o, sr_sr, us_us, @sr_lt _ 33 32 _ _ (by decide)]; try rfl) | (exfalso; omega)
              · replace c20 : Nno (M 27 4).toNat (mbe (M 28) (M 29) (M 30) (M 31)) x15 (M 32) ((us Tg lx.toNat i)) T19 := c20
                refine g_mem (M2 := sr M 33 T19) (by simp (disch := decide) only [Int.reduceToNat, up_sr, sr_cp, sr_k, sr_o, sr_sr, us_us, @sr_lt _ 33 32 _ _ (by decide)]; try rfl) ?_
                have hnno_ : Nno (M 27 4).toNat (mbe (M 28) (M 29) (M 30) (M 31)) (M 32 lx.toNat) (M 32) (us Tg lx.toNat i) T19 := by rw [← ex15]; exact c20
                refine g_if_eq (pc := 67) (tgt := 79) hK dd_X8_findsNext_67 (by decide) (by decide) (fun _ => ?_) (fun c22 => absurd (by decide) c22)
                have hsn_ : Sr (M 27 4).toNat (mbe (M 28) (M 29) (M 30) (M 31)) i (M 32) (M 33) (lx.toNat + 1) T19 := sr_rec (by omega) hi.1 hsr_ (by omega) hnno_
                refine g_iinc (pc := 79) (i := 3) (y := lx + 1) (L' := [(0, gR 27), (1, gI i), (2, gI 17), (3, gI (lx + 1))]) hK dd_X8_findsNext_79 rfl rfl (by decide) rfl ?_
                refine g_goto (pc := 82) (tgt := 10) hK dd_X8_findsNext_82 (by decide) ?_
                refine g_sub (L' := [(0, gR 27), (1, gI i), (2, gI 17), (3, gI (lx + 1))]) [0, 1, 2, 3] rfl ?_
                refine g_mem (M2 := sr M 33 T19) (by first | rfl | (simp (disch := decide) only [Int.reduceToNat, up_sr, sr_cp, sr_k, sr_o, sr_sr, us_us, @sr_lt _ 33 32 _ _ (by decide)]; try rfl)) ?_
                exact ih3 (lx + 1) T19 (by omega) (by rw [tn1 (by omega)]; exact hsn_) (Nat.le_trans htr (trd_mono hsn_.1)) (by omega)
          · replace c11 : ¬ (mbe (M 28) (M 29) (M 30) (M 31) i.toNat lx.toNat) := c11
            have hme_ : ¬ (mbe (M 28) (M 29) (M 30) (M 31)) i.toNat lx.toNat := c11
            refine g_if_eq (pc := 34) (tgt := 79) hK dd_X8_findsNext_34 (by decide) (by decide) (fun _ => ?_) (fun c23 => absurd (by decide) c23)
            have hsn_ : Sr (M 27 4).toNat (mbe (M 28) (M 29) (M 30) (M 31)) i (M 32) (M 33) (lx.toNat + 1) Tg := sr_next hsr_ (Or.inr hme_)
            refine g_iinc (pc := 79) (i := 3) (y := lx + 1) (L' := [(0, gR 27), (1, gI i), (2, gI 17), (3, gI (lx + 1))]) hK dd_X8_findsNext_79 rfl rfl (by decide) rfl ?_
            refine g_goto (pc := 82) (tgt := 10) hK dd_X8_findsNext_82 (by decide) ?_
            refine g_sub (L' := [(0, gR 27), (1, gI i), (2, gI 17), (3, gI (lx + 1))]) [0, 1, 2, 3] rfl ?_
            refine g_mem (M2 := sr M 33 Tg) (by first | rfl | (simp (disch := decide) only [Int.reduceToNat, up_sr, sr_cp, sr_k, sr_o, sr_sr, us_us, @sr_lt _ 33 32 _ _ (by decide)]; try rfl)) ?_
            exact ih3 (lx + 1) Tg (by omega) (by rw [tn1 (by omega)]; exact hsn_) (Nat.le_trans htr (trd_mono hsn_.1)) (by omega)
  refine g_mem (M2 := sr M 33 (M 33)) (sr_self.symm) ?_
  refine g_sub (L' := [(0, gR 27), (1, gI i), (2, gI 17), (3, gI 0)]) [0, 1, 2, 3] rfl ?_
  exact lp4 _ 0 (M 33) (by omega) (sr0) (htr) (Nat.lt_succ_self _)
set_option maxHeartbeats 4000000 in
set_option maxRecDepth 100000 in
theorem c_fn16 {l : Launch} {M : Mem} {Pq : Option gV → Mem → Prop} (i : Int) (hi : 0 ≤ i ∧ i < M 27 4) (hsc : 0 ≤ M 27 4 ∧ M 27 4 ≤ 20) (hv : Vl (M 27 4).toNat (mbe (M 28) (M 29) (M 30) (M 31)) (M 32)) (htr : 16 ≤ trd (M 33) (M 27 4).toNat) (hT : ∀ (B1 : Nat → Int) (T1 : Nat → Int), (Aug (M 27 4).toNat (mbe (M 28) (M 29) (M 30) (M 31)) i (M 32) (M 33) B1) → Pq (some (gI 1)) (sr (sr M 32 B1) 33 T1)) (hF : ∀ (T1 : Nat → Int), (Nno (M 27 4).toNat (mbe (M 28) (M 29) (M 30) (M 31)) i (M 32) (M 33) T1) → Pq (some (gI 0)) (sr M 33 T1)) : gCtr l my_X8_findsNext mb_X8_findsNext 4 ((some .boolean)) 5 [gR 27, gI i, gI 16] M Pq := by
  refine g_intro (by decide) (Nat.le_of_ble_eq_true rfl) ?_
  intro p e s m args below meth c D cy q A hK hr hlocks hw
  refine g_sub (L' := [(0, gR 27), (1, gI i), (2, gI 16)]) [0, 1, 2] rfl ?_
  refine g_iloadn (pc := 0) (i := 2) (x := 16) hK dd_X8_findsNext_0 rfl rfl ?_
  refine g_bipush (pc := 1) (x := 20) hK dd_X8_findsNext_1 (by decide) ?_
  refine g_icmp_le (pc := 3) (tgt := 8) hK dd_X8_findsNext_3 (by decide) (by decide) (by decide) (fun _ => ?_) (fun c1 => absurd (by decide) c1)
  refine g_iconst (pc := 8) (x := 0) hK dd_X8_findsNext_8 (by decide) ?_
  refine g_istoren (pc := 9) (i := 3) (L' := [(0, gR 27), (1, gI i), (2, gI 16), (3, gI 0)]) hK dd_X8_findsNext_9 rfl (by decide) rfl ?_
  have lp4 : ∀ (n2 : Nat) (lx : Int) (Tg : Nat → Int), (0 ≤ lx ∧ lx ≤ M 27 4) → (Sr (M 27 4).toNat (mbe (M 28) (M 29) (M 30) (M 31)) i (M 32) (M 33) lx.toNat Tg) → (16 ≤ trd Tg (M 27 4).toNat) → (M 27 4 - lx).toNat < n2 → G p l e (rmD 5) s m args below meth c D cy q A 0 0 4 (MQ below (gQc D cy q A Pq) args s 0 0 A) 10 [(0, gR 27), (1, gI i), (2, gI 16), (3, gI lx)] [] (sr M 33 Tg) := by
    intro n2
    induction n2 with
    | zero => intro lx Tg iv5 hsr_ htr_ hm6; exact absurd hm6 (Nat.not_lt_zero _)
    | succ n2 ih3 =>
      intro lx Tg iv5 hsr_ htr_ hm6
      refine g_iloadn (pc := 10) (i := 3) (x := lx) hK dd_X8_findsNext_10 rfl rfl ?_
      refine g_aloadn (pc := 11) (i := 0) (x := 27) hK dd_X8_findsNext_11 rfl rfl ?_
      refine g_geti (pc := 12) (f := (0, 0)) (j := 4) hK (kdm kd_27) rfl ef_8 (by decide) rfl kk_200 nl_27 dd_X8_findsNext_12 rfl (fun x7 ex7 rx7 => ?_)
      replace ex7 : x7 = M 27 4 := ex7
      refine g_icmp_ge (pc := 15) (tgt := 85) hK dd_X8_findsNext_15 (by decide) ⟨by omega, by omega⟩ rx7 (fun c8 => ?_) (fun c8 => ?_)
      · refine g_iconst (pc := 85) (x := 0) hK dd_X8_findsNext_85 (by decide) ?_
        refine g_iret (pc := 86) hK hr hlocks dd_X8_findsNext_86 rfl ?_
        first | exact g_fin (hF Tg (by exact sr_end hsr_ (by omega))) (by first | rfl | omega | (subst_vars; first | rfl | omega)) (rfl) | (exfalso; omega)
      · refine g_aloadn (pc := 18) (i := 0) (x := 27) hK dd_X8_findsNext_18 rfl rfl ?_
        refine g_getv (pc := 19) (f := (1, 6)) (j := 6) (v := gR 33) hK (kdm kd_27) rfl ef_8 (by decide) rfl kk_203 dd_X8_findsNext_19 rfl ?_
        refine g_iloadn (pc := 22) (i := 3) (x := lx) hK dd_X8_findsNext_22 rfl rfl ?_
        refine g_iald (pc := 23) hK (kdm kd_33) nl_33 (by decide) dd_X8_findsNext_23 (by omega) (by omega) (fun x9 ex9 rx9 => ?_)
        replace ex9 : x9 = Tg lx.toNat := by first | exact ex9 | (rw [ex9]; simp [up, us, cp, sr])
        refine g_iconst (pc := 24) (x := (-1)) hK dd_X8_findsNext_24 (by decide) ?_
        refine g_icmp_ne (pc := 25) (tgt := 79) hK dd_X8_findsNext_25 (by decide) rx9 (by decide) (fun c10 => ?_) (fun c10 => ?_)
        · have hsn_ : Sr (M 27 4).toNat (mbe (M 28) (M 29) (M 30) (M 31)) i (M 32) (M 33) (lx.toNat + 1) Tg := sr_next hsr_ (Or.inl (by omega))
          refine g_iinc (pc := 79) (i := 3) (y := lx + 1) (L' := [(0, gR 27), (1, gI i), (2, gI 16), (3, gI (lx + 1))]) hK dd_X8_findsNext_79 rfl rfl (by decide) rfl ?_
          refine g_goto (pc := 82) (tgt := 10) hK dd_X8_findsNext_82 (by decide) ?_
          refine g_sub (L' := [(0, gR 27), (1, gI i), (2, gI 16), (3, gI (lx + 1))]) [0, 1, 2, 3] rfl ?_
          refine g_mem (M2 := sr M 33 Tg) (by first | rfl | (simp (disch := decide) only [Int.reduceToNat, up_sr, sr_cp, sr_k, sr_o, sr_sr, us_us, @sr_lt _ 33 32 _ _ (by decide)]; try rfl)) ?_
          exact ih3 (lx + 1) Tg (by omega) (by rw [tn1 (by omega)]; exact hsn_) (Nat.le_trans htr (trd_mono hsn_.1)) (by omega)
        · have hlt_ := trd_lt (T := Tg) (n := (M 27 4).toNat) (l := lx.toNat) (by omega) (by omega)
          refine g_aloadn (pc := 28) (i := 0) (x := 27) hK dd_X8_findsNext_28 rfl rfl ?_
          refine g_iloadn (pc := 29) (i := 1) (x := i) hK dd_X8_findsNext_29 rfl rfl ?_
          refine g_iloadn (pc := 30) (i := 3) (x := lx) hK dd_X8_findsNext_30 rfl rfl ?_
          refine g_callV (pc := 31) (As := [gI i, gI lx]) hK ws_Sightings_51 md_X8_mayBeOf ⟨Nat.zero_le _, Nat.zero_le _⟩ ⟨by decide, by decide⟩ (kdm kd_27) rfl rfl dd_X8_findsNext_31 rfl rfl (Nat.le_of_ble_eq_true rfl) (c_mayBeOf i lx (show 0 ≤ i ∧ i < 20 by omega) (show 0 ≤ lx ∧ lx < 20 by omega) (fun c11 => g_r1 ?_) (fun c11 => g_r1 ?_))
          · replace c11 : mbe (M 28) (M 29) (M 30) (M 31) i.toNat lx.toNat := c11
            have hme_ : (mbe (M 28) (M 29) (M 30) (M 31)) i.toNat lx.toNat := c11
            refine g_if_eq (pc := 34) (tgt := 79) hK dd_X8_findsNext_34 (by decide) (by decide) (fun c12 => absurd c12 (by decide)) (fun _ => ?_)
            refine g_aloadn (pc := 37) (i := 0) (x := 27) hK dd_X8_findsNext_37 rfl rfl ?_
            refine g_getv (pc := 38) (f := (1, 6)) (j := 6) (v := gR 33) hK (kdm kd_27) rfl ef_8 (by decide) rfl kk_203 dd_X8_findsNext_38 rfl ?_
            refine g_iloadn (pc := 41) (i := 3) (x := lx) hK dd_X8_findsNext_41 rfl rfl ?_
            refine g_iloadn (pc := 42) (i := 1) (x := i) hK dd_X8_findsNext_42 rfl rfl ?_
            refine g_iast (pc := 43) hK (kdm kd_33) nl_33 (by decide) (by decide) dd_X8_findsNext_43 (by omega) (by omega) ⟨by omega, by omega⟩ ?_
            refine g_mem (M2 := sr M 33 (us Tg lx.toNat i)) (by simp (disch := decide) only [Int.reduceToNat, up_sr, sr_cp, sr_k, sr_o, sr_sr, us_us, @sr_lt _ 33 32 _ _ (by decide)]; try rfl) ?_
            have htr2_ : 17 ≤ trd (us Tg lx.toNat i) (M 27 4).toNat := by rw [trd_us (by omega) (by omega) (by omega)]; omega
            refine g_aloadn (pc := 44) (i := 0) (x := 27) hK dd_X8_findsNext_44 rfl rfl ?_
            refine g_getv (pc := 45) (f := (1, 5)) (j := 5) (v := gR 32) hK (kdm kd_27) rfl ef_8 (by decide) rfl kk_202 dd_X8_findsNext_45 rfl ?_
            refine g_iloadn (pc := 48) (i := 3) (x := lx) hK dd_X8_findsNext_48 rfl rfl ?_
            refine g_iald (pc := 49) hK (kdm kd_32) nl_32 (by decide) dd_X8_findsNext_49 (by omega) (by omega) (fun x13 ex13 rx13 => ?_)
            replace ex13 : x13 = M 32 lx.toNat := ex13
            refine g_iconst (pc := 50) (x := (-1)) hK dd_X8_findsNext_50 (by decide) ?_
            refine g_icmp_eq (pc := 51) (tgt := 70) hK dd_X8_findsNext_51 (by decide) rx13 (by decide) (fun c14 => ?_) (fun c14 => ?_)
            · skip
              refine g_aloadn (pc := 70) (i := 0) (x := 27) hK dd_X8_findsNext_70 rfl rfl ?_
              refine g_getv (pc := 71) (f := (1, 5)) (j := 5) (v := gR 32) hK (kdm kd_27) rfl ef_8 (by decide) rfl kk_202 dd_X8_findsNext_71 rfl ?_
              refine g_iloadn (pc := 74) (i := 3) (x := lx) hK dd_X8_findsNext_74 rfl rfl ?_
              refine g_iloadn (pc := 75) (i := 1) (x := i) hK dd_X8_findsNext_75 rfl rfl ?_
              refine g_iast (pc := 76) hK (kdm kd_32) nl_32 (by decide) (by decide) dd_X8_findsNext_76 (by omega) (by omega) ⟨by omega, by omega⟩ ?_
              refine g_iconst (pc := 77) (x := 1) hK dd_X8_findsNext_77 (by decide) ?_
              refine g_iret (pc := 78) hK hr hlocks dd_X8_findsNext_78 rfl ?_
              first | exact g_fin (hT (us (M 32) lx.toNat i) (us Tg lx.toNat i) (by exact aug_base (by omega) ⟨hi.1, by omega⟩ hv hsr_ (by omega) hme_ (by omega))) (by first | rfl | omega | (subst_vars; first | rfl | omega)) (by simp (disch := decide) only [Int.reduceToNat, up_sr, sr_cp, sr_k, sr_o, sr_sr, us_us, @sr_lt _ 33 32 _ _ (by decide)]; try rfl) | (exfalso; omega)
            · have hvl_ := hv lx.toNat (by omega)
              refine g_aloadn (pc := 54) (i := 0) (x := 27) hK dd_X8_findsNext_54 rfl rfl ?_
              refine g_aloadn (pc := 55) (i := 0) (x := 27) hK dd_X8_findsNext_55 rfl rfl ?_
              refine g_getv (pc := 56) (f := (1, 5)) (j := 5) (v := gR 32) hK (kdm kd_27) rfl ef_8 (by decide) rfl kk_202 dd_X8_findsNext_56 rfl ?_
              refine g_iloadn (pc := 59) (i := 3) (x := lx) hK dd_X8_findsNext_59 rfl rfl ?_
              refine g_iald (pc := 60) hK (kdm kd_32) nl_32 (by decide) dd_X8_findsNext_60 (by omega) (by omega) (fun x15 ex15 rx15 => ?_)
              replace ex15 : x15 = M 32 lx.toNat := ex15
              skip
              refine g_iloadn (pc := 61) (i := 2) (x := 16) hK dd_X8_findsNext_61 rfl rfl ?_
              refine g_iconst (pc := 62) (x := 1) hK dd_X8_findsNext_62 (by decide) ?_
              refine g_iadd (pc := 63) (z := 17) hK dd_X8_findsNext_63 rfl ?_
              refine g_callT (pc := 64) (As := [gR 27, gI x15, gI 17]) hK ws_Sightings_47 md_X8_findsNext ⟨Nat.zero_le _, Nat.zero_le _⟩ ⟨by decide, by decide⟩ dd_X8_findsNext_64 rfl rfl (Nat.le_of_ble_eq_true rfl) (c_fn17 x15 (show 0 ≤ x15 ∧ x15 < M 27 4 by omega) hsc hv htr2_ (fun B16 T17 c18 => g_r1 ?_) (fun T19 c20 => g_r1 ?_))
              · replace c18 : Aug (M 27 4).toNat (mbe (M 28) (M 29) (M 30) (M 31)) x15 (M 32) ((us Tg lx.toNat i)) B16 := c18
                refine g_mem (M2 := sr (sr M 32 B16) 33 T17) (by simp (disch := decide) only [Int.reduceToNat, up_sr, sr_cp, sr_k, sr_o, sr_sr, us_us, @sr_lt _ 33 32 _ _ (by decide)]; try rfl) ?_
                have haug_ : Aug (M 27 4).toNat (mbe (M 28) (M 29) (M 30) (M 31)) (M 32 lx.toNat) (M 32) (us Tg lx.toNat i) B16 := by rw [← ex15]; exact c18
                refine g_if_eq (pc := 67) (tgt := 79) hK dd_X8_findsNext_67 (by decide) (by decide) (fun c21 => absurd c21 (by decide)) (fun _ => ?_)
                skip
                refine g_aloadn (pc := 70) (i := 0) (x := 27) hK dd_X8_findsNext_70 rfl rfl ?_
                refine g_getv (pc := 71) (f := (1, 5)) (j := 5) (v := gR 32) hK (kdm kd_27) rfl ef_8 (by decide) rfl kk_202 dd_X8_findsNext_71 rfl ?_
                refine g_iloadn (pc := 74) (i := 3) (x := lx) hK dd_X8_findsNext_74 rfl rfl ?_
                refine g_iloadn (pc := 75) (i := 1) (x := i) hK dd_X8_findsNext_75 rfl rfl ?_
                refine g_iast (pc := 76) hK (kdm kd_32) nl_32 (by decide) (by decide) dd_X8_findsNext_76 (by omega) (by omega) ⟨by omega, by omega⟩ ?_
                refine g_iconst (pc := 77) (x := 1) hK dd_X8_findsNext_77 (by decide) ?_
                refine g_iret (pc := 78) hK hr hlocks dd_X8_findsNext_78 rfl ?_
                first | exact g_fin (hT (us B16 lx.toNat i) T17 (by exact aug_rec (by omega) ⟨hi.1, by omega⟩ hv hsr_ (by omega) hme_ (by omega) haug_)) (by first | rfl | omega | (subst_vars; first | rfl | omega)) (by simp (disch := decide) only [Int.reduceToNat, up_sr, sr_cp, sr_k, sr_o, sr_sr, us_us, @sr_lt _ 33 32 _ _ (by decide)]; try rfl) | (exfalso; omega)
              · replace c20 : Nno (M 27 4).toNat (mbe (M 28) (M 29) (M 30) (M 31)) x15 (M 32) ((us Tg lx.toNat i)) T19 := c20
                refine g_mem (M2 := sr M 33 T19) (by simp (disch := decide) only [Int.reduceToNat, up_sr, sr_cp, sr_k, sr_o, sr_sr, us_us, @sr_lt _ 33 32 _ _ (by decide)]; try rfl) ?_
                have hnno_ : Nno (M 27 4).toNat (mbe (M 28) (M 29) (M 30) (M 31)) (M 32 lx.toNat) (M 32) (us Tg lx.toNat i) T19 := by rw [← ex15]; exact c20
                refine g_if_eq (pc := 67) (tgt := 79) hK dd_X8_findsNext_67 (by decide) (by decide) (fun _ => ?_) (fun c22 => absurd (by decide) c22)
                have hsn_ : Sr (M 27 4).toNat (mbe (M 28) (M 29) (M 30) (M 31)) i (M 32) (M 33) (lx.toNat + 1) T19 := sr_rec (by omega) hi.1 hsr_ (by omega) hnno_
                refine g_iinc (pc := 79) (i := 3) (y := lx + 1) (L' := [(0, gR 27), (1, gI i), (2, gI 16), (3, gI (lx + 1))]) hK dd_X8_findsNext_79 rfl rfl (by decide) rfl ?_
                refine g_goto (pc := 82) (tgt := 10) hK dd_X8_findsNext_82 (by decide) ?_
                refine g_sub (L' := [(0, gR 27), (1, gI i), (2, gI 16), (3, gI (lx + 1))]) [0, 1, 2, 3] rfl ?_
                refine g_mem (M2 := sr M 33 T19) (by first | rfl | (simp (disch := decide) only [Int.reduceToNat, up_sr, sr_cp, sr_k, sr_o, sr_sr, us_us, @sr_lt _ 33 32 _ _ (by decide)]; try rfl)) ?_
                exact ih3 (lx + 1) T19 (by omega) (by rw [tn1 (by omega)]; exact hsn_) (Nat.le_trans htr (trd_mono hsn_.1)) (by omega)
          · replace c11 : ¬ (mbe (M 28) (M 29) (M 30) (M 31) i.toNat lx.toNat) := c11
            have hme_ : ¬ (mbe (M 28) (M 29) (M 30) (M 31)) i.toNat lx.toNat := c11
            refine g_if_eq (pc := 34) (tgt := 79) hK dd_X8_findsNext_34 (by decide) (by decide) (fun _ => ?_) (fun c23 => absurd (by decide) c23)
            have hsn_ : Sr (M 27 4).toNat (mbe (M 28) (M 29) (M 30) (M 31)) i (M 32) (M 33) (lx.toNat + 1) Tg := sr_next hsr_ (Or.inr hme_)
            refine g_iinc (pc := 79) (i := 3) (y := lx + 1) (L' := [(0, gR 27), (1, gI i), (2, gI 16), (3, gI (lx + 1))]) hK dd_X8_findsNext_79 rfl rfl (by decide) rfl ?_
            refine g_goto (pc := 82) (tgt := 10) hK dd_X8_findsNext_82 (by decide) ?_
            refine g_sub (L' := [(0, gR 27), (1, gI i), (2, gI 16), (3, gI (lx + 1))]) [0, 1, 2, 3] rfl ?_
            refine g_mem (M2 := sr M 33 Tg) (by first | rfl | (simp (disch := decide) only [Int.reduceToNat, up_sr, sr_cp, sr_k, sr_o, sr_sr, us_us, @sr_lt _ 33 32 _ _ (by decide)]; try rfl)) ?_
            exact ih3 (lx + 1) Tg (by omega) (by rw [tn1 (by omega)]; exact hsn_) (Nat.le_trans htr (trd_mono hsn_.1)) (by omega)
  refine g_mem (M2 := sr M 33 (M 33)) (sr_self.symm) ?_
  refine g_sub (L' := [(0, gR 27), (1, gI i), (2, gI 16), (3, gI 0)]) [0, 1, 2, 3] rfl ?_
  exact lp4 _ 0 (M 33) (by omega) (sr0) (htr) (Nat.lt_succ_self _)
set_option maxHeartbeats 4000000 in
set_option maxRecDepth 100000 in
theorem c_fn15 {l : Launch} {M : Mem} {Pq : Option gV → Mem → Prop} (i : Int) (hi : 0 ≤ i ∧ i < M 27 4) (hsc : 0 ≤ M 27 4 ∧ M 27 4 ≤ 20) (hv : Vl (M 27 4).toNat (mbe (M 28) (M 29) (M 30) (M 31)) (M 32)) (htr : 15 ≤ trd (M 33) (M 27 4).toNat) (hT : ∀ (B1 : Nat → Int) (T1 : Nat → Int), (Aug (M 27 4).toNat (mbe (M 28) (M 29) (M 30) (M 31)) i (M 32) (M 33) B1) → Pq (some (gI 1)) (sr (sr M 32 B1) 33 T1)) (hF : ∀ (T1 : Nat → Int), (Nno (M 27 4).toNat (mbe (M 28) (M 29) (M 30) (M 31)) i (M 32) (M 33) T1) → Pq (some (gI 0)) (sr M 33 T1)) : gCtr l my_X8_findsNext mb_X8_findsNext 4 ((some .boolean)) 6 [gR 27, gI i, gI 15] M Pq := by
  refine g_intro (by decide) (Nat.le_of_ble_eq_true rfl) ?_
  intro p e s m args below meth c D cy q A hK hr hlocks hw
  refine g_sub (L' := [(0, gR 27), (1, gI i), (2, gI 15)]) [0, 1, 2] rfl ?_
  refine g_iloadn (pc := 0) (i := 2) (x := 15) hK dd_X8_findsNext_0 rfl rfl ?_
  refine g_bipush (pc := 1) (x := 20) hK dd_X8_findsNext_1 (by decide) ?_
  refine g_icmp_le (pc := 3) (tgt := 8) hK dd_X8_findsNext_3 (by decide) (by decide) (by decide) (fun _ => ?_) (fun c1 => absurd (by decide) c1)
  refine g_iconst (pc := 8) (x := 0) hK dd_X8_findsNext_8 (by decide) ?_
  refine g_istoren (pc := 9) (i := 3) (L' := [(0, gR 27), (1, gI i), (2, gI 15), (3, gI 0)]) hK dd_X8_findsNext_9 rfl (by decide) rfl ?_
  have lp4 : ∀ (n2 : Nat) (lx : Int) (Tg : Nat → Int), (0 ≤ lx ∧ lx ≤ M 27 4) → (Sr (M 27 4).toNat (mbe (M 28) (M 29) (M 30) (M 31)) i (M 32) (M 33) lx.toNat Tg) → (15 ≤ trd Tg (M 27 4).toNat) → (M 27 4 - lx).toNat < n2 → G p l e (rmD 6) s m args below meth c D cy q A 0 0 4 (MQ below (gQc D cy q A Pq) args s 0 0 A) 10 [(0, gR 27), (1, gI i), (2, gI 15), (3, gI lx)] [] (sr M 33 Tg) := by
    intro n2
    induction n2 with
    | zero => intro lx Tg iv5 hsr_ htr_ hm6; exact absurd hm6 (Nat.not_lt_zero _)
    | succ n2 ih3 =>
      intro lx Tg iv5 hsr_ htr_ hm6
      refine g_iloadn (pc := 10) (i := 3) (x := lx) hK dd_X8_findsNext_10 rfl rfl ?_
      refine g_aloadn (pc := 11) (i := 0) (x := 27) hK dd_X8_findsNext_11 rfl rfl ?_
      refine g_geti (pc := 12) (f := (0, 0)) (j := 4) hK (kdm kd_27) rfl ef_8 (by decide) rfl kk_200 nl_27 dd_X8_findsNext_12 rfl (fun x7 ex7 rx7 => ?_)
      replace ex7 : x7 = M 27 4 := ex7
      refine g_icmp_ge (pc := 15) (tgt := 85) hK dd_X8_findsNext_15 (by decide) ⟨by omega, by omega⟩ rx7 (fun c8 => ?_) (fun c8 => ?_)
      · refine g_iconst (pc := 85) (x := 0) hK dd_X8_findsNext_85 (by decide) ?_
        refine g_iret (pc := 86) hK hr hlocks dd_X8_findsNext_86 rfl ?_
        first | exact g_fin (hF Tg (by exact sr_end hsr_ (by omega))) (by first | rfl | omega | (subst_vars; first | rfl | omega)) (rfl) | (exfalso; omega)
      · refine g_aloadn (pc := 18) (i := 0) (x := 27) hK dd_X8_findsNext_18 rfl rfl ?_
        refine g_getv (pc := 19) (f := (1, 6)) (j := 6) (v := gR 33) hK (kdm kd_27) rfl ef_8 (by decide) rfl kk_203 dd_X8_findsNext_19 rfl ?_
        refine g_iloadn (pc := 22) (i := 3) (x := lx) hK dd_X8_findsNext_22 rfl rfl ?_
        refine g_iald (pc := 23) hK (kdm kd_33) nl_33 (by decide) dd_X8_findsNext_23 (by omega) (by omega) (fun x9 ex9 rx9 => ?_)
        replace ex9 : x9 = Tg lx.toNat := by first | exact ex9 | (rw [ex9]; simp [up, us, cp, sr])
        refine g_iconst (pc := 24) (x := (-1)) hK dd_X8_findsNext_24 (by decide) ?_
        refine g_icmp_ne (pc := 25) (tgt := 79) hK dd_X8_findsNext_25 (by decide) rx9 (by decide) (fun c10 => ?_) (fun c10 => ?_)
        · have hsn_ : Sr (M 27 4).toNat (mbe (M 28) (M 29) (M 30) (M 31)) i (M 32) (M 33) (lx.toNat + 1) Tg := sr_next hsr_ (Or.inl (by omega))
          refine g_iinc (pc := 79) (i := 3) (y := lx + 1) (L' := [(0, gR 27), (1, gI i), (2, gI 15), (3, gI (lx + 1))]) hK dd_X8_findsNext_79 rfl rfl (by decide) rfl ?_
          refine g_goto (pc := 82) (tgt := 10) hK dd_X8_findsNext_82 (by decide) ?_
          refine g_sub (L' := [(0, gR 27), (1, gI i), (2, gI 15), (3, gI (lx + 1))]) [0, 1, 2, 3] rfl ?_
          refine g_mem (M2 := sr M 33 Tg) (by first | rfl | (simp (disch := decide) only [Int.reduceToNat, up_sr, sr_cp, sr_k, sr_o, sr_sr, us_us, @sr_lt _ 33 32 _ _ (by decide)]; try rfl)) ?_
          exact ih3 (lx + 1) Tg (by omega) (by rw [tn1 (by omega)]; exact hsn_) (Nat.le_trans htr (trd_mono hsn_.1)) (by omega)
        · have hlt_ := trd_lt (T := Tg) (n := (M 27 4).toNat) (l := lx.toNat) (by omega) (by omega)
          refine g_aloadn (pc := 28) (i := 0) (x := 27) hK dd_X8_findsNext_28 rfl rfl ?_
          refine g_iloadn (pc := 29) (i := 1) (x := i) hK dd_X8_findsNext_29 rfl rfl ?_
          refine g_iloadn (pc := 30) (i := 3) (x := lx) hK dd_X8_findsNext_30 rfl rfl ?_
          refine g_callV (pc := 31) (As := [gI i, gI lx]) hK ws_Sightings_51 md_X8_mayBeOf ⟨Nat.zero_le _, Nat.zero_le _⟩ ⟨by decide, by decide⟩ (kdm kd_27) rfl rfl dd_X8_findsNext_31 rfl rfl (Nat.le_of_ble_eq_true rfl) (c_mayBeOf i lx (show 0 ≤ i ∧ i < 20 by omega) (show 0 ≤ lx ∧ lx < 20 by omega) (fun c11 => g_r1 ?_) (fun c11 => g_r1 ?_))
          · replace c11 : mbe (M 28) (M 29) (M 30) (M 31) i.toNat lx.toNat := c11
            have hme_ : (mbe (M 28) (M 29) (M 30) (M 31)) i.toNat lx.toNat := c11
            refine g_if_eq (pc := 34) (tgt := 79) hK dd_X8_findsNext_34 (by decide) (by decide) (fun c12 => absurd c12 (by decide)) (fun _ => ?_)
            refine g_aloadn (pc := 37) (i := 0) (x := 27) hK dd_X8_findsNext_37 rfl rfl ?_
            refine g_getv (pc := 38) (f := (1, 6)) (j := 6) (v := gR 33) hK (kdm kd_27) rfl ef_8 (by decide) rfl kk_203 dd_X8_findsNext_38 rfl ?_
            refine g_iloadn (pc := 41) (i := 3) (x := lx) hK dd_X8_findsNext_41 rfl rfl ?_
            refine g_iloadn (pc := 42) (i := 1) (x := i) hK dd_X8_findsNext_42 rfl rfl ?_
            refine g_iast (pc := 43) hK (kdm kd_33) nl_33 (by decide) (by decide) dd_X8_findsNext_43 (by omega) (by omega) ⟨by omega, by omega⟩ ?_
            refine g_mem (M2 := sr M 33 (us Tg lx.toNat i)) (by simp (disch := decide) only [Int.reduceToNat, up_sr, sr_cp, sr_k, sr_o, sr_sr, us_us, @sr_lt _ 33 32 _ _ (by decide)]; try rfl) ?_
            have htr2_ : 16 ≤ trd (us Tg lx.toNat i) (M 27 4).toNat := by rw [trd_us (by omega) (by omega) (by omega)]; omega
            refine g_aloadn (pc := 44) (i := 0) (x := 27) hK dd_X8_findsNext_44 rfl rfl ?_
            refine g_getv (pc := 45) (f := (1, 5)) (j := 5) (v := gR 32) hK (kdm kd_27) rfl ef_8 (by decide) rfl kk_202 dd_X8_findsNext_45 rfl ?_
            refine g_iloadn (pc := 48) (i := 3) (x := lx) hK dd_X8_findsNext_48 rfl rfl ?_
            refine g_iald (pc := 49) hK (kdm kd_32) nl_32 (by decide) dd_X8_findsNext_49 (by omega) (by omega) (fun x13 ex13 rx13 => ?_)
            replace ex13 : x13 = M 32 lx.toNat := ex13
            refine g_iconst (pc := 50) (x := (-1)) hK dd_X8_findsNext_50 (by decide) ?_
            refine g_icmp_eq (pc := 51) (tgt := 70) hK dd_X8_findsNext_51 (by decide) rx13 (by decide) (fun c14 => ?_) (fun c14 => ?_)
            · skip
              refine g_aloadn (pc := 70) (i := 0) (x := 27) hK dd_X8_findsNext_70 rfl rfl ?_
              refine g_getv (pc := 71) (f := (1, 5)) (j := 5) (v := gR 32) hK (kdm kd_27) rfl ef_8 (by decide) rfl kk_202 dd_X8_findsNext_71 rfl ?_
              refine g_iloadn (pc := 74) (i := 3) (x := lx) hK dd_X8_findsNext_74 rfl rfl ?_
              refine g_iloadn (pc := 75) (i := 1) (x := i) hK dd_X8_findsNext_75 rfl rfl ?_
              refine g_iast (pc := 76) hK (kdm kd_32) nl_32 (by decide) (by decide) dd_X8_findsNext_76 (by omega) (by omega) ⟨by omega, by omega⟩ ?_
              refine g_iconst (pc := 77) (x := 1) hK dd_X8_findsNext_77 (by decide) ?_
              refine g_iret (pc := 78) hK hr hlocks dd_X8_findsNext_78 rfl ?_
              first | exact g_fin (hT (us (M 32) lx.toNat i) (us Tg lx.toNat i) (by exact aug_base (by omega) ⟨hi.1, by omega⟩ hv hsr_ (by omega) hme_ (by omega))) (by first | rfl | omega | (subst_vars; first | rfl | omega)) (by simp (disch := decide) only [Int.reduceToNat, up_sr, sr_cp, sr_k, sr_o, sr_sr, us_us, @sr_lt _ 33 32 _ _ (by decide)]; try rfl) | (exfalso; omega)
            · have hvl_ := hv lx.toNat (by omega)
              refine g_aloadn (pc := 54) (i := 0) (x := 27) hK dd_X8_findsNext_54 rfl rfl ?_
              refine g_aloadn (pc := 55) (i := 0) (x := 27) hK dd_X8_findsNext_55 rfl rfl ?_
              refine g_getv (pc := 56) (f := (1, 5)) (j := 5) (v := gR 32) hK (kdm kd_27) rfl ef_8 (by decide) rfl kk_202 dd_X8_findsNext_56 rfl ?_
              refine g_iloadn (pc := 59) (i := 3) (x := lx) hK dd_X8_findsNext_59 rfl rfl ?_
              refine g_iald (pc := 60) hK (kdm kd_32) nl_32 (by decide) dd_X8_findsNext_60 (by omega) (by omega) (fun x15 ex15 rx15 => ?_)
              replace ex15 : x15 = M 32 lx.toNat := ex15
              skip
              refine g_iloadn (pc := 61) (i := 2) (x := 15) hK dd_X8_findsNext_61 rfl rfl ?_
              refine g_iconst (pc := 62) (x := 1) hK dd_X8_findsNext_62 (by decide) ?_
              refine g_iadd (pc := 63) (z := 16) hK dd_X8_findsNext_63 rfl ?_
              refine g_callT (pc := 64) (As := [gR 27, gI x15, gI 16]) hK ws_Sightings_47 md_X8_findsNext ⟨Nat.zero_le _, Nat.zero_le _⟩ ⟨by decide, by decide⟩ dd_X8_findsNext_64 rfl rfl (Nat.le_of_ble_eq_true rfl) (c_fn16 x15 (show 0 ≤ x15 ∧ x15 < M 27 4 by omega) hsc hv htr2_ (fun B16 T17 c18 => g_r1 ?_) (fun T19 c20 => g_r1 ?_))
              · replace c18 : Aug (M 27 4).toNat (mbe (M 28) (M 29) (M 30) (M 31)) x15 (M 32) ((us Tg lx.toNat i)) B16 := c18
                refine g_mem (M2 := sr (sr M 32 B16) 33 T17) (by simp (disch := decide) only [Int.reduceToNat, up_sr, sr_cp, sr_k, sr_o, sr_sr, us_us, @sr_lt _ 33 32 _ _ (by decide)]; try rfl) ?_
                have haug_ : Aug (M 27 4).toNat (mbe (M 28) (M 29) (M 30) (M 31)) (M 32 lx.toNat) (M 32) (us Tg lx.toNat i) B16 := by rw [← ex15]; exact c18
                refine g_if_eq (pc := 67) (tgt := 79) hK dd_X8_findsNext_67 (by decide) (by decide) (fun c21 => absurd c21 (by decide)) (fun _ => ?_)
                skip
                refine g_aloadn (pc := 70) (i := 0) (x := 27) hK dd_X8_findsNext_70 rfl rfl ?_
                refine g_getv (pc := 71) (f := (1, 5)) (j := 5) (v := gR 32) hK (kdm kd_27) rfl ef_8 (by decide) rfl kk_202 dd_X8_findsNext_71 rfl ?_
                refine g_iloadn (pc := 74) (i := 3) (x := lx) hK dd_X8_findsNext_74 rfl rfl ?_
                refine g_iloadn (pc := 75) (i := 1) (x := i) hK dd_X8_findsNext_75 rfl rfl ?_
                refine g_iast (pc := 76) hK (kdm kd_32) nl_32 (by decide) (by decide) dd_X8_findsNext_76 (by omega) (by omega) ⟨by omega, by omega⟩ ?_
                refine g_iconst (pc := 77) (x := 1) hK dd_X8_findsNext_77 (by decide) ?_
                refine g_iret (pc := 78) hK hr hlocks dd_X8_findsNext_78 rfl ?_
                first | exact g_fin (hT (us B16 lx.toNat i) T17 (by exact aug_rec (by omega) ⟨hi.1, by omega⟩ hv hsr_ (by omega) hme_ (by omega) haug_)) (by first | rfl | omega | (subst_vars; first | rfl | omega)) (by simp (disch := decide) only [Int.reduceToNat, up_sr, sr_cp, sr_k, sr_o, sr_sr, us_us, @sr_lt _ 33 32 _ _ (by decide)]; try rfl) | (exfalso; omega)
              · replace c20 : Nno (M 27 4).toNat (mbe (M 28) (M 29) (M 30) (M 31)) x15 (M 32) ((us Tg lx.toNat i)) T19 := c20
                refine g_mem (M2 := sr M 33 T19) (by simp (disch := decide) only [Int.reduceToNat, up_sr, sr_cp, sr_k, sr_o, sr_sr, us_us, @sr_lt _ 33 32 _ _ (by decide)]; try rfl) ?_
                have hnno_ : Nno (M 27 4).toNat (mbe (M 28) (M 29) (M 30) (M 31)) (M 32 lx.toNat) (M 32) (us Tg lx.toNat i) T19 := by rw [← ex15]; exact c20
                refine g_if_eq (pc := 67) (tgt := 79) hK dd_X8_findsNext_67 (by decide) (by decide) (fun _ => ?_) (fun c22 => absurd (by decide) c22)
                have hsn_ : Sr (M 27 4).toNat (mbe (M 28) (M 29) (M 30) (M 31)) i (M 32) (M 33) (lx.toNat + 1) T19 := sr_rec (by omega) hi.1 hsr_ (by omega) hnno_
                refine g_iinc (pc := 79) (i := 3) (y := lx + 1) (L' := [(0, gR 27), (1, gI i), (2, gI 15), (3, gI (lx + 1))]) hK dd_X8_findsNext_79 rfl rfl (by decide) rfl ?_
                refine g_goto (pc := 82) (tgt := 10) hK dd_X8_findsNext_82 (by decide) ?_
                refine g_sub (L' := [(0, gR 27), (1, gI i), (2, gI 15), (3, gI (lx + 1))]) [0, 1, 2, 3] rfl ?_
                refine g_mem (M2 := sr M 33 T19) (by first | rfl | (simp (disch := decide) only [Int.reduceToNat, up_sr, sr_cp, sr_k, sr_o, sr_sr, us_us, @sr_lt _ 33 32 _ _ (by decide)]; try rfl)) ?_
                exact ih3 (lx + 1) T19 (by omega) (by rw [tn1 (by omega)]; exact hsn_) (Nat.le_trans htr (trd_mono hsn_.1)) (by omega)
          · replace c11 : ¬ (mbe (M 28) (M 29) (M 30) (M 31) i.toNat lx.toNat) := c11
            have hme_ : ¬ (mbe (M 28) (M 29) (M 30) (M 31)) i.toNat lx.toNat := c11
            refine g_if_eq (pc := 34) (tgt := 79) hK dd_X8_findsNext_34 (by decide) (by decide) (fun _ => ?_) (fun c23 => absurd (by decide) c23)
            have hsn_ : Sr (M 27 4).toNat (mbe (M 28) (M 29) (M 30) (M 31)) i (M 32) (M 33) (lx.toNat + 1) Tg := sr_next hsr_ (Or.inr hme_)
            refine g_iinc (pc := 79) (i := 3) (y := lx + 1) (L' := [(0, gR 27), (1, gI i), (2, gI 15), (3, gI (lx + 1))]) hK dd_X8_findsNext_79 rfl rfl (by decide) rfl ?_
            refine g_goto (pc := 82) (tgt := 10) hK dd_X8_findsNext_82 (by decide) ?_
            refine g_sub (L' := [(0, gR 27), (1, gI i), (2, gI 15), (3, gI (lx + 1))]) [0, 1, 2, 3] rfl ?_
            refine g_mem (M2 := sr M 33 Tg) (by first | rfl | (simp (disch := decide) only [Int.reduceToNat, up_sr, sr_cp, sr_k, sr_o, sr_sr, us_us, @sr_lt _ 33 32 _ _ (by decide)]; try rfl)) ?_
            exact ih3 (lx + 1) Tg (by omega) (by rw [tn1 (by omega)]; exact hsn_) (Nat.le_trans htr (trd_mono hsn_.1)) (by omega)
  refine g_mem (M2 := sr M 33 (M 33)) (sr_self.symm) ?_
  refine g_sub (L' := [(0, gR 27), (1, gI i), (2, gI 15), (3, gI 0)]) [0, 1, 2, 3] rfl ?_
  exact lp4 _ 0 (M 33) (by omega) (sr0) (htr) (Nat.lt_succ_self _)
set_option maxHeartbeats 4000000 in
set_option maxRecDepth 100000 in
theorem c_fn14 {l : Launch} {M : Mem} {Pq : Option gV → Mem → Prop} (i : Int) (hi : 0 ≤ i ∧ i < M 27 4) (hsc : 0 ≤ M 27 4 ∧ M 27 4 ≤ 20) (hv : Vl (M 27 4).toNat (mbe (M 28) (M 29) (M 30) (M 31)) (M 32)) (htr : 14 ≤ trd (M 33) (M 27 4).toNat) (hT : ∀ (B1 : Nat → Int) (T1 : Nat → Int), (Aug (M 27 4).toNat (mbe (M 28) (M 29) (M 30) (M 31)) i (M 32) (M 33) B1) → Pq (some (gI 1)) (sr (sr M 32 B1) 33 T1)) (hF : ∀ (T1 : Nat → Int), (Nno (M 27 4).toNat (mbe (M 28) (M 29) (M 30) (M 31)) i (M 32) (M 33) T1) → Pq (some (gI 0)) (sr M 33 T1)) : gCtr l my_X8_findsNext mb_X8_findsNext 4 ((some .boolean)) 7 [gR 27, gI i, gI 14] M Pq := by
  refine g_intro (by decide) (Nat.le_of_ble_eq_true rfl) ?_
  intro p e s m args below meth c D cy q A hK hr hlocks hw
  refine g_sub (L' := [(0, gR 27), (1, gI i), (2, gI 14)]) [0, 1, 2] rfl ?_
  refine g_iloadn (pc := 0) (i := 2) (x := 14) hK dd_X8_findsNext_0 rfl rfl ?_
  refine g_bipush (pc := 1) (x := 20) hK dd_X8_findsNext_1 (by decide) ?_
  refine g_icmp_le (pc := 3) (tgt := 8) hK dd_X8_findsNext_3 (by decide) (by decide) (by decide) (fun _ => ?_) (fun c1 => absurd (by decide) c1)
  refine g_iconst (pc := 8) (x := 0) hK dd_X8_findsNext_8 (by decide) ?_
  refine g_istoren (pc := 9) (i := 3) (L' := [(0, gR 27), (1, gI i), (2, gI 14), (3, gI 0)]) hK dd_X8_findsNext_9 rfl (by decide) rfl ?_
  have lp4 : ∀ (n2 : Nat) (lx : Int) (Tg : Nat → Int), (0 ≤ lx ∧ lx ≤ M 27 4) → (Sr (M 27 4).toNat (mbe (M 28) (M 29) (M 30) (M 31)) i (M 32) (M 33) lx.toNat Tg) → (14 ≤ trd Tg (M 27 4).toNat) → (M 27 4 - lx).toNat < n2 → G p l e (rmD 7) s m args below meth c D cy q A 0 0 4 (MQ below (gQc D cy q A Pq) args s 0 0 A) 10 [(0, gR 27), (1, gI i), (2, gI 14), (3, gI lx)] [] (sr M 33 Tg) := by
    intro n2
    induction n2 with
    | zero => intro lx Tg iv5 hsr_ htr_ hm6; exact absurd hm6 (Nat.not_lt_zero _)
    | succ n2 ih3 =>
      intro lx Tg iv5 hsr_ htr_ hm6
      refine g_iloadn (pc := 10) (i := 3) (x := lx) hK dd_X8_findsNext_10 rfl rfl ?_
      refine g_aloadn (pc := 11) (i := 0) (x := 27) hK dd_X8_findsNext_11 rfl rfl ?_
      refine g_geti (pc := 12) (f := (0, 0)) (j := 4) hK (kdm kd_27) rfl ef_8 (by decide) rfl kk_200 nl_27 dd_X8_findsNext_12 rfl (fun x7 ex7 rx7 => ?_)
      replace ex7 : x7 = M 27 4 := ex7
      refine g_icmp_ge (pc := 15) (tgt := 85) hK dd_X8_findsNext_15 (by decide) ⟨by omega, by omega⟩ rx7 (fun c8 => ?_) (fun c8 => ?_)
      · refine g_iconst (pc := 85) (x := 0) hK dd_X8_findsNext_85 (by decide) ?_
        refine g_iret (pc := 86) hK hr hlocks dd_X8_findsNext_86 rfl ?_
        first | exact g_fin (hF Tg (by exact sr_end hsr_ (by omega))) (by first | rfl | omega | (subst_vars; first | rfl | omega)) (rfl) | (exfalso; omega)
      · refine g_aloadn (pc := 18) (i := 0) (x := 27) hK dd_X8_findsNext_18 rfl rfl ?_
        refine g_getv (pc := 19) (f := (1, 6)) (j := 6) (v := gR 33) hK (kdm kd_27) rfl ef_8 (by decide) rfl kk_203 dd_X8_findsNext_19 rfl ?_
        refine g_iloadn (pc := 22) (i := 3) (x := lx) hK dd_X8_findsNext_22 rfl rfl ?_
        refine g_iald (pc := 23) hK (kdm kd_33) nl_33 (by decide) dd_X8_findsNext_23 (by omega) (by omega) (fun x9 ex9 rx9 => ?_)
        replace ex9 : x9 = Tg lx.toNat := by first | exact ex9 | (rw [ex9]; simp [up, us, cp, sr])
        refine g_iconst (pc := 24) (x := (-1)) hK dd_X8_findsNext_24 (by decide) ?_
        refine g_icmp_ne (pc := 25) (tgt := 79) hK dd_X8_findsNext_25 (by decide) rx9 (by decide) (fun c10 => ?_) (fun c10 => ?_)
        · have hsn_ : Sr (M 27 4).toNat (mbe (M 28) (M 29) (M 30) (M 31)) i (M 32) (M 33) (lx.toNat + 1) Tg := sr_next hsr_ (Or.inl (by omega))
          refine g_iinc (pc := 79) (i := 3) (y := lx + 1) (L' := [(0, gR 27), (1, gI i), (2, gI 14), (3, gI (lx + 1))]) hK dd_X8_findsNext_79 rfl rfl (by decide) rfl ?_
          refine g_goto (pc := 82) (tgt := 10) hK dd_X8_findsNext_82 (by decide) ?_
          refine g_sub (L' := [(0, gR 27), (1, gI i), (2, gI 14), (3, gI (lx + 1))]) [0, 1, 2, 3] rfl ?_
          refine g_mem (M2 := sr M 33 Tg) (by first | rfl | (simp (disch := decide) only [Int.reduceToNat, up_sr, sr_cp, sr_k, sr_o, sr_sr, us_us, @sr_lt _ 33 32 _ _ (by decide)]; try rfl)) ?_
          exact ih3 (lx + 1) Tg (by omega) (by rw [tn1 (by omega)]; exact hsn_) (Nat.le_trans htr (trd_mono hsn_.1)) (by omega)
        · have hlt_ := trd_lt (T := Tg) (n := (M 27 4).toNat) (l := lx.toNat) (by omega) (by omega)
          refine g_aloadn (pc := 28) (i := 0) (x := 27) hK dd_X8_findsNext_28 rfl rfl ?_
          refine g_iloadn (pc := 29) (i := 1) (x := i) hK dd_X8_findsNext_29 rfl rfl ?_
          refine g_iloadn (pc := 30) (i := 3) (x := lx) hK dd_X8_findsNext_30 rfl rfl ?_
          refine g_callV (pc := 31) (As := [gI i, gI lx]) hK ws_Sightings_51 md_X8_mayBeOf ⟨Nat.zero_le _, Nat.zero_le _⟩ ⟨by decide, by decide⟩ (kdm kd_27) rfl rfl dd_X8_findsNext_31 rfl rfl (Nat.le_of_ble_eq_true rfl) (c_mayBeOf i lx (show 0 ≤ i ∧ i < 20 by omega) (show 0 ≤ lx ∧ lx < 20 by omega) (fun c11 => g_r1 ?_) (fun c11 => g_r1 ?_))
          · replace c11 : mbe (M 28) (M 29) (M 30) (M 31) i.toNat lx.toNat := c11
            have hme_ : (mbe (M 28) (M 29) (M 30) (M 31)) i.toNat lx.toNat := c11
            refine g_if_eq (pc := 34) (tgt := 79) hK dd_X8_findsNext_34 (by decide) (by decide) (fun c12 => absurd c12 (by decide)) (fun _ => ?_)
            refine g_aloadn (pc := 37) (i := 0) (x := 27) hK dd_X8_findsNext_37 rfl rfl ?_
            refine g_getv (pc := 38) (f := (1, 6)) (j := 6) (v := gR 33) hK (kdm kd_27) rfl ef_8 (by decide) rfl kk_203 dd_X8_findsNext_38 rfl ?_
            refine g_iloadn (pc := 41) (i := 3) (x := lx) hK dd_X8_findsNext_41 rfl rfl ?_
            refine g_iloadn (pc := 42) (i := 1) (x := i) hK dd_X8_findsNext_42 rfl rfl ?_
            refine g_iast (pc := 43) hK (kdm kd_33) nl_33 (by decide) (by decide) dd_X8_findsNext_43 (by omega) (by omega) ⟨by omega, by omega⟩ ?_
            refine g_mem (M2 := sr M 33 (us Tg lx.toNat i)) (by simp (disch := decide) only [Int.reduceToNat, up_sr, sr_cp, sr_k, sr_o, sr_sr, us_us, @sr_lt _ 33 32 _ _ (by decide)]; try rfl) ?_
            have htr2_ : 15 ≤ trd (us Tg lx.toNat i) (M 27 4).toNat := by rw [trd_us (by omega) (by omega) (by omega)]; omega
            refine g_aloadn (pc := 44) (i := 0) (x := 27) hK dd_X8_findsNext_44 rfl rfl ?_
            refine g_getv (pc := 45) (f := (1, 5)) (j := 5) (v := gR 32) hK (kdm kd_27) rfl ef_8 (by decide) rfl kk_202 dd_X8_findsNext_45 rfl ?_
            refine g_iloadn (pc := 48) (i := 3) (x := lx) hK dd_X8_findsNext_48 rfl rfl ?_
            refine g_iald (pc := 49) hK (kdm kd_32) nl_32 (by decide) dd_X8_findsNext_49 (by omega) (by omega) (fun x13 ex13 rx13 => ?_)
            replace ex13 : x13 = M 32 lx.toNat := ex13
            refine g_iconst (pc := 50) (x := (-1)) hK dd_X8_findsNext_50 (by decide) ?_
            refine g_icmp_eq (pc := 51) (tgt := 70) hK dd_X8_findsNext_51 (by decide) rx13 (by decide) (fun c14 => ?_) (fun c14 => ?_)
            · skip
              refine g_aloadn (pc := 70) (i := 0) (x := 27) hK dd_X8_findsNext_70 rfl rfl ?_
              refine g_getv (pc := 71) (f := (1, 5)) (j := 5) (v := gR 32) hK (kdm kd_27) rfl ef_8 (by decide) rfl kk_202 dd_X8_findsNext_71 rfl ?_
              refine g_iloadn (pc := 74) (i := 3) (x := lx) hK dd_X8_findsNext_74 rfl rfl ?_
              refine g_iloadn (pc := 75) (i := 1) (x := i) hK dd_X8_findsNext_75 rfl rfl ?_
              refine g_iast (pc := 76) hK (kdm kd_32) nl_32 (by decide) (by decide) dd_X8_findsNext_76 (by omega) (by omega) ⟨by omega, by omega⟩ ?_
              refine g_iconst (pc := 77) (x := 1) hK dd_X8_findsNext_77 (by decide) ?_
              refine g_iret (pc := 78) hK hr hlocks dd_X8_findsNext_78 rfl ?_
              first | exact g_fin (hT (us (M 32) lx.toNat i) (us Tg lx.toNat i) (by exact aug_base (by omega) ⟨hi.1, by omega⟩ hv hsr_ (by omega) hme_ (by omega))) (by first | rfl | omega | (subst_vars; first | rfl | omega)) (by simp (disch := decide) only [Int.reduceToNat, up_sr, sr_cp, sr_k, sr_o, sr_sr, us_us, @sr_lt _ 33 32 _ _ (by decide)]; try rfl) | (exfalso; omega)
            · have hvl_ := hv lx.toNat (by omega)
              refine g_aloadn (pc := 54) (i := 0) (x := 27) hK dd_X8_findsNext_54 rfl rfl ?_
              refine g_aloadn (pc := 55) (i := 0) (x := 27) hK dd_X8_findsNext_55 rfl rfl ?_
              refine g_getv (pc := 56) (f := (1, 5)) (j := 5) (v := gR 32) hK (kdm kd_27) rfl ef_8 (by decide) rfl kk_202 dd_X8_findsNext_56 rfl ?_
              refine g_iloadn (pc := 59) (i := 3) (x := lx) hK dd_X8_findsNext_59 rfl rfl ?_
              refine g_iald (pc := 60) hK (kdm kd_32) nl_32 (by decide) dd_X8_findsNext_60 (by omega) (by omega) (fun x15 ex15 rx15 => ?_)
              replace ex15 : x15 = M 32 lx.toNat := ex15
              skip
              refine g_iloadn (pc := 61) (i := 2) (x := 14) hK dd_X8_findsNext_61 rfl rfl ?_
              refine g_iconst (pc := 62) (x := 1) hK dd_X8_findsNext_62 (by decide) ?_
              refine g_iadd (pc := 63) (z := 15) hK dd_X8_findsNext_63 rfl ?_
              refine g_callT (pc := 64) (As := [gR 27, gI x15, gI 15]) hK ws_Sightings_47 md_X8_findsNext ⟨Nat.zero_le _, Nat.zero_le _⟩ ⟨by decide, by decide⟩ dd_X8_findsNext_64 rfl rfl (Nat.le_of_ble_eq_true rfl) (c_fn15 x15 (show 0 ≤ x15 ∧ x15 < M 27 4 by omega) hsc hv htr2_ (fun B16 T17 c18 => g_r1 ?_) (fun T19 c20 => g_r1 ?_))
              · replace c18 : Aug (M 27 4).toNat (mbe (M 28) (M 29) (M 30) (M 31)) x15 (M 32) ((us Tg lx.toNat i)) B16 := c18
                refine g_mem (M2 := sr (sr M 32 B16) 33 T17) (by simp (disch := decide) only [Int.reduceToNat, up_sr, sr_cp, sr_k, sr_o, sr_sr, us_us, @sr_lt _ 33 32 _ _ (by decide)]; try rfl) ?_
                have haug_ : Aug (M 27 4).toNat (mbe (M 28) (M 29) (M 30) (M 31)) (M 32 lx.toNat) (M 32) (us Tg lx.toNat i) B16 := by rw [← ex15]; exact c18
                refine g_if_eq (pc := 67) (tgt := 79) hK dd_X8_findsNext_67 (by decide) (by decide) (fun c21 => absurd c21 (by decide)) (fun _ => ?_)
                skip
                refine g_aloadn (pc := 70) (i := 0) (x := 27) hK dd_X8_findsNext_70 rfl rfl ?_
                refine g_getv (pc := 71) (f := (1, 5)) (j := 5) (v := gR 32) hK (kdm kd_27) rfl ef_8 (by decide) rfl kk_202 dd_X8_findsNext_71 rfl ?_
                refine g_iloadn (pc := 74) (i := 3) (x := lx) hK dd_X8_findsNext_74 rfl rfl ?_
                refine g_iloadn (pc := 75) (i := 1) (x := i) hK dd_X8_findsNext_75 rfl rfl ?_
                refine g_iast (pc := 76) hK (kdm kd_32) nl_32 (by decide) (by decide) dd_X8_findsNext_76 (by omega) (by omega) ⟨by omega, by omega⟩ ?_
                refine g_iconst (pc := 77) (x := 1) hK dd_X8_findsNext_77 (by decide) ?_
                refine g_iret (pc := 78) hK hr hlocks dd_X8_findsNext_78 rfl ?_
                first | exact g_fin (hT (us B16 lx.toNat i) T17 (by exact aug_rec (by omega) ⟨hi.1, by omega⟩ hv hsr_ (by omega) hme_ (by omega) haug_)) (by first | rfl | omega | (subst_vars; first | rfl | omega)) (by simp (disch := decide) only [Int.reduceToNat, up_sr, sr_cp, sr_k, sr_o, sr_sr, us_us, @sr_lt _ 33 32 _ _ (by decide)]; try rfl) | (exfalso; omega)
              · replace c20 : Nno (M 27 4).toNat (mbe (M 28) (M 29) (M 30) (M 31)) x15 (M 32) ((us Tg lx.toNat i)) T19 := c20
                refine g_mem (M2 := sr M 33 T19) (by simp (disch := decide) only [Int.reduceToNat, up_sr, sr_cp, sr_k, sr_o, sr_sr, us_us, @sr_lt _ 33 32 _ _ (by decide)]; try rfl) ?_
                have hnno_ : Nno (M 27 4).toNat (mbe (M 28) (M 29) (M 30) (M 31)) (M 32 lx.toNat) (M 32) (us Tg lx.toNat i) T19 := by rw [← ex15]; exact c20
                refine g_if_eq (pc := 67) (tgt := 79) hK dd_X8_findsNext_67 (by decide) (by decide) (fun _ => ?_) (fun c22 => absurd (by decide) c22)
                have hsn_ : Sr (M 27 4).toNat (mbe (M 28) (M 29) (M 30) (M 31)) i (M 32) (M 33) (lx.toNat + 1) T19 := sr_rec (by omega) hi.1 hsr_ (by omega) hnno_
                refine g_iinc (pc := 79) (i := 3) (y := lx + 1) (L' := [(0, gR 27), (1, gI i), (2, gI 14), (3, gI (lx + 1))]) hK dd_X8_findsNext_79 rfl rfl (by decide) rfl ?_
                refine g_goto (pc := 82) (tgt := 10) hK dd_X8_findsNext_82 (by decide) ?_
                refine g_sub (L' := [(0, gR 27), (1, gI i), (2, gI 14), (3, gI (lx + 1))]) [0, 1, 2, 3] rfl ?_
                refine g_mem (M2 := sr M 33 T19) (by first | rfl | (simp (disch := decide) only [Int.reduceToNat, up_sr, sr_cp, sr_k, sr_o, sr_sr, us_us, @sr_lt _ 33 32 _ _ (by decide)]; try rfl)) ?_
                exact ih3 (lx + 1) T19 (by omega) (by rw [tn1 (by omega)]; exact hsn_) (Nat.le_trans htr (trd_mono hsn_.1)) (by omega)
          · replace c11 : ¬ (mbe (M 28) (M 29) (M 30) (M 31) i.toNat lx.toNat) := c11
            have hme_ : ¬ (mbe (M 28) (M 29) (M 30) (M 31)) i.toNat lx.toNat := c11
            refine g_if_eq (pc := 34) (tgt := 79) hK dd_X8_findsNext_34 (by decide) (by decide) (fun _ => ?_) (fun c23 => absurd (by decide) c23)
            have hsn_ : Sr (M 27 4).toNat (mbe (M 28) (M 29) (M 30) (M 31)) i (M 32) (M 33) (lx.toNat + 1) Tg := sr_next hsr_ (Or.inr hme_)
            refine g_iinc (pc := 79) (i := 3) (y := lx + 1) (L' := [(0, gR 27), (1, gI i), (2, gI 14), (3, gI (lx + 1))]) hK dd_X8_findsNext_79 rfl rfl (by decide) rfl ?_
            refine g_goto (pc := 82) (tgt := 10) hK dd_X8_findsNext_82 (by decide) ?_
            refine g_sub (L' := [(0, gR 27), (1, gI i), (2, gI 14), (3, gI (lx + 1))]) [0, 1, 2, 3] rfl ?_
            refine g_mem (M2 := sr M 33 Tg) (by first | rfl | (simp (disch := decide) only [Int.reduceToNat, up_sr, sr_cp, sr_k, sr_o, sr_sr, us_us, @sr_lt _ 33 32 _ _ (by decide)]; try rfl)) ?_
            exact ih3 (lx + 1) Tg (by omega) (by rw [tn1 (by omega)]; exact hsn_) (Nat.le_trans htr (trd_mono hsn_.1)) (by omega)
  refine g_mem (M2 := sr M 33 (M 33)) (sr_self.symm) ?_
  refine g_sub (L' := [(0, gR 27), (1, gI i), (2, gI 14), (3, gI 0)]) [0, 1, 2, 3] rfl ?_
  exact lp4 _ 0 (M 33) (by omega) (sr0) (htr) (Nat.lt_succ_self _)
set_option maxHeartbeats 4000000 in
set_option maxRecDepth 100000 in
theorem c_fn13 {l : Launch} {M : Mem} {Pq : Option gV → Mem → Prop} (i : Int) (hi : 0 ≤ i ∧ i < M 27 4) (hsc : 0 ≤ M 27 4 ∧ M 27 4 ≤ 20) (hv : Vl (M 27 4).toNat (mbe (M 28) (M 29) (M 30) (M 31)) (M 32)) (htr : 13 ≤ trd (M 33) (M 27 4).toNat) (hT : ∀ (B1 : Nat → Int) (T1 : Nat → Int), (Aug (M 27 4).toNat (mbe (M 28) (M 29) (M 30) (M 31)) i (M 32) (M 33) B1) → Pq (some (gI 1)) (sr (sr M 32 B1) 33 T1)) (hF : ∀ (T1 : Nat → Int), (Nno (M 27 4).toNat (mbe (M 28) (M 29) (M 30) (M 31)) i (M 32) (M 33) T1) → Pq (some (gI 0)) (sr M 33 T1)) : gCtr l my_X8_findsNext mb_X8_findsNext 4 ((some .boolean)) 8 [gR 27, gI i, gI 13] M Pq := by
  refine g_intro (by decide) (Nat.le_of_ble_eq_true rfl) ?_
  intro p e s m args below meth c D cy q A hK hr hlocks hw
  refine g_sub (L' := [(0, gR 27), (1, gI i), (2, gI 13)]) [0, 1, 2] rfl ?_
  refine g_iloadn (pc := 0) (i := 2) (x := 13) hK dd_X8_findsNext_0 rfl rfl ?_
  refine g_bipush (pc := 1) (x := 20) hK dd_X8_findsNext_1 (by decide) ?_
  refine g_icmp_le (pc := 3) (tgt := 8) hK dd_X8_findsNext_3 (by decide) (by decide) (by decide) (fun _ => ?_) (fun c1 => absurd (by decide) c1)
  refine g_iconst (pc := 8) (x := 0) hK dd_X8_findsNext_8 (by decide) ?_
  refine g_istoren (pc := 9) (i := 3) (L' := [(0, gR 27), (1, gI i), (2, gI 13), (3, gI 0)]) hK dd_X8_findsNext_9 rfl (by decide) rfl ?_
  have lp4 : ∀ (n2 : Nat) (lx : Int) (Tg : Nat → Int), (0 ≤ lx ∧ lx ≤ M 27 4) → (Sr (M 27 4).toNat (mbe (M 28) (M 29) (M 30) (M 31)) i (M 32) (M 33) lx.toNat Tg) → (13 ≤ trd Tg (M 27 4).toNat) → (M 27 4 - lx).toNat < n2 → G p l e (rmD 8) s m args below meth c D cy q A 0 0 4 (MQ below (gQc D cy q A Pq) args s 0 0 A) 10 [(0, gR 27), (1, gI i), (2, gI 13), (3, gI lx)] [] (sr M 33 Tg) := by
    intro n2
    induction n2 with
    | zero => intro lx Tg iv5 hsr_ htr_ hm6; exact absurd hm6 (Nat.not_lt_zero _)
    | succ n2 ih3 =>
      intro lx Tg iv5 hsr_ htr_ hm6
      refine g_iloadn (pc := 10) (i := 3) (x := lx) hK dd_X8_findsNext_10 rfl rfl ?_
      refine g_aloadn (pc := 11) (i := 0) (x := 27) hK dd_X8_findsNext_11 rfl rfl ?_
      refine g_geti (pc := 12) (f := (0, 0)) (j := 4) hK (kdm kd_27) rfl ef_8 (by decide) rfl kk_200 nl_27 dd_X8_findsNext_12 rfl (fun x7 ex7 rx7 => ?_)
      replace ex7 : x7 = M 27 4 := ex7
      refine g_icmp_ge (pc := 15) (tgt := 85) hK dd_X8_findsNext_15 (by decide) ⟨by omega, by omega⟩ rx7 (fun c8 => ?_) (fun c8 => ?_)
      · refine g_iconst (pc := 85) (x := 0) hK dd_X8_findsNext_85 (by decide) ?_
        refine g_iret (pc := 86) hK hr hlocks dd_X8_findsNext_86 rfl ?_
        first | exact g_fin (hF Tg (by exact sr_end hsr_ (by omega))) (by first | rfl | omega | (subst_vars; first | rfl | omega)) (rfl) | (exfalso; omega)
      · refine g_aloadn (pc := 18) (i := 0) (x := 27) hK dd_X8_findsNext_18 rfl rfl ?_
        refine g_getv (pc := 19) (f := (1, 6)) (j := 6) (v := gR 33) hK (kdm kd_27) rfl ef_8 (by decide) rfl kk_203 dd_X8_findsNext_19 rfl ?_
        refine g_iloadn (pc := 22) (i := 3) (x := lx) hK dd_X8_findsNext_22 rfl rfl ?_
        refine g_iald (pc := 23) hK (kdm kd_33) nl_33 (by decide) dd_X8_findsNext_23 (by omega) (by omega) (fun x9 ex9 rx9 => ?_)
        replace ex9 : x9 = Tg lx.toNat := by first | exact ex9 | (rw [ex9]; simp [up, us, cp, sr])
        refine g_iconst (pc := 24) (x := (-1)) hK dd_X8_findsNext_24 (by decide) ?_
        refine g_icmp_ne (pc := 25) (tgt := 79) hK dd_X8_findsNext_25 (by decide) rx9 (by decide) (fun c10 => ?_) (fun c10 => ?_)
        · have hsn_ : Sr (M 27 4).toNat (mbe (M 28) (M 29) (M 30) (M 31)) i (M 32) (M 33) (lx.toNat + 1) Tg := sr_next hsr_ (Or.inl (by omega))
          refine g_iinc (pc := 79) (i := 3) (y := lx + 1) (L' := [(0, gR 27), (1, gI i), (2, gI 13), (3, gI (lx + 1))]) hK dd_X8_findsNext_79 rfl rfl (by decide) rfl ?_
          refine g_goto (pc := 82) (tgt := 10) hK dd_X8_findsNext_82 (by decide) ?_
          refine g_sub (L' := [(0, gR 27), (1, gI i), (2, gI 13), (3, gI (lx + 1))]) [0, 1, 2, 3] rfl ?_
          refine g_mem (M2 := sr M 33 Tg) (by first | rfl | (simp (disch := decide) only [Int.reduceToNat, up_sr, sr_cp, sr_k, sr_o, sr_sr, us_us, @sr_lt _ 33 32 _ _ (by decide)]; try rfl)) ?_
          exact ih3 (lx + 1) Tg (by omega) (by rw [tn1 (by omega)]; exact hsn_) (Nat.le_trans htr (trd_mono hsn_.1)) (by omega)
        · have hlt_ := trd_lt (T := Tg) (n := (M 27 4).toNat) (l := lx.toNat) (by omega) (by omega)
          refine g_aloadn (pc := 28) (i := 0) (x := 27) hK dd_X8_findsNext_28 rfl rfl ?_
          refine g_iloadn (pc := 29) (i := 1) (x := i) hK dd_X8_findsNext_29 rfl rfl ?_
          refine g_iloadn (pc := 30) (i := 3) (x := lx) hK dd_X8_findsNext_30 rfl rfl ?_
          refine g_callV (pc := 31) (As := [gI i, gI lx]) hK ws_Sightings_51 md_X8_mayBeOf ⟨Nat.zero_le _, Nat.zero_le _⟩ ⟨by decide, by decide⟩ (kdm kd_27) rfl rfl dd_X8_findsNext_31 rfl rfl (Nat.le_of_ble_eq_true rfl) (c_mayBeOf i lx (show 0 ≤ i ∧ i < 20 by omega) (show 0 ≤ lx ∧ lx < 20 by omega) (fun c11 => g_r1 ?_) (fun c11 => g_r1 ?_))
          · replace c11 : mbe (M 28) (M 29) (M 30) (M 31) i.toNat lx.toNat := c11
            have hme_ : (mbe (M 28) (M 29) (M 30) (M 31)) i.toNat lx.toNat := c11
            refine g_if_eq (pc := 34) (tgt := 79) hK dd_X8_findsNext_34 (by decide) (by decide) (fun c12 => absurd c12 (by decide)) (fun _ => ?_)
            refine g_aloadn (pc := 37) (i := 0) (x := 27) hK dd_X8_findsNext_37 rfl rfl ?_
            refine g_getv (pc := 38) (f := (1, 6)) (j := 6) (v := gR 33) hK (kdm kd_27) rfl ef_8 (by decide) rfl kk_203 dd_X8_findsNext_38 rfl ?_
            refine g_iloadn (pc := 41) (i := 3) (x := lx) hK dd_X8_findsNext_41 rfl rfl ?_
            refine g_iloadn (pc := 42) (i := 1) (x := i) hK dd_X8_findsNext_42 rfl rfl ?_
            refine g_iast (pc := 43) hK (kdm kd_33) nl_33 (by decide) (by decide) dd_X8_findsNext_43 (by omega) (by omega) ⟨by omega, by omega⟩ ?_
            refine g_mem (M2 := sr M 33 (us Tg lx.toNat i)) (by simp (disch := decide) only [Int.reduceToNat, up_sr, sr_cp, sr_k, sr_o, sr_sr, us_us, @sr_lt _ 33 32 _ _ (by decide)]; try rfl) ?_
            have htr2_ : 14 ≤ trd (us Tg lx.toNat i) (M 27 4).toNat := by rw [trd_us (by omega) (by omega) (by omega)]; omega
            refine g_aloadn (pc := 44) (i := 0) (x := 27) hK dd_X8_findsNext_44 rfl rfl ?_
            refine g_getv (pc := 45) (f := (1, 5)) (j := 5) (v := gR 32) hK (kdm kd_27) rfl ef_8 (by decide) rfl kk_202 dd_X8_findsNext_45 rfl ?_
            refine g_iloadn (pc := 48) (i := 3) (x := lx) hK dd_X8_findsNext_48 rfl rfl ?_
            refine g_iald (pc := 49) hK (kdm kd_32) nl_32 (by decide) dd_X8_findsNext_49 (by omega) (by omega) (fun x13 ex13 rx13 => ?_)
            replace ex13 : x13 = M 32 lx.toNat := ex13
            refine g_iconst (pc := 50) (x := (-1)) hK dd_X8_findsNext_50 (by decide) ?_
            refine g_icmp_eq (pc := 51) (tgt := 70) hK dd_X8_findsNext_51 (by decide) rx13 (by decide) (fun c14 => ?_) (fun c14 => ?_)
            · skip
              refine g_aloadn (pc := 70) (i := 0) (x := 27) hK dd_X8_findsNext_70 rfl rfl ?_
              refine g_getv (pc := 71) (f := (1, 5)) (j := 5) (v := gR 32) hK (kdm kd_27) rfl ef_8 (by decide) rfl kk_202 dd_X8_findsNext_71 rfl ?_
              refine g_iloadn (pc := 74) (i := 3) (x := lx) hK dd_X8_findsNext_74 rfl rfl ?_
              refine g_iloadn (pc := 75) (i := 1) (x := i) hK dd_X8_findsNext_75 rfl rfl ?_
              refine g_iast (pc := 76) hK (kdm kd_32) nl_32 (by decide) (by decide) dd_X8_findsNext_76 (by omega) (by omega) ⟨by omega, by omega⟩ ?_
              refine g_iconst (pc := 77) (x := 1) hK dd_X8_findsNext_77 (by decide) ?_
              refine g_iret (pc := 78) hK hr hlocks dd_X8_findsNext_78 rfl ?_
              first | exact g_fin (hT (us (M 32) lx.toNat i) (us Tg lx.toNat i) (by exact aug_base (by omega) ⟨hi.1, by omega⟩ hv hsr_ (by omega) hme_ (by omega))) (by first | rfl | omega | (subst_vars; first | rfl | omega)) (by simp (disch := decide) only [Int.reduceToNat, up_sr, sr_cp, sr_k, sr_o, sr_sr, us_us, @sr_lt _ 33 32 _ _ (by decide)]; try rfl) | (exfalso; omega)
            · have hvl_ := hv lx.toNat (by omega)
              refine g_aloadn (pc := 54) (i := 0) (x := 27) hK dd_X8_findsNext_54 rfl rfl ?_
              refine g_aloadn (pc := 55) (i := 0) (x := 27) hK dd_X8_findsNext_55 rfl rfl ?_
              refine g_getv (pc := 56) (f := (1, 5)) (j := 5) (v := gR 32) hK (kdm kd_27) rfl ef_8 (by decide) rfl kk_202 dd_X8_findsNext_56 rfl ?_
              refine g_iloadn (pc := 59) (i := 3) (x := lx) hK dd_X8_findsNext_59 rfl rfl ?_
              refine g_iald (pc := 60) hK (kdm kd_32) nl_32 (by decide) dd_X8_findsNext_60 (by omega) (by omega) (fun x15 ex15 rx15 => ?_)
              replace ex15 : x15 = M 32 lx.toNat := ex15
              skip
              refine g_iloadn (pc := 61) (i := 2) (x := 13) hK dd_X8_findsNext_61 rfl rfl ?_
              refine g_iconst (pc := 62) (x := 1) hK dd_X8_findsNext_62 (by decide) ?_
              refine g_iadd (pc := 63) (z := 14) hK dd_X8_findsNext_63 rfl ?_
              refine g_callT (pc := 64) (As := [gR 27, gI x15, gI 14]) hK ws_Sightings_47 md_X8_findsNext ⟨Nat.zero_le _, Nat.zero_le _⟩ ⟨by decide, by decide⟩ dd_X8_findsNext_64 rfl rfl (Nat.le_of_ble_eq_true rfl) (c_fn14 x15 (show 0 ≤ x15 ∧ x15 < M 27 4 by omega) hsc hv htr2_ (fun B16 T17 c18 => g_r1 ?_) (fun T19 c20 => g_r1 ?_))
              · replace c18 : Aug (M 27 4).toNat (mbe (M 28) (M 29) (M 30) (M 31)) x15 (M 32) ((us Tg lx.toNat i)) B16 := c18
                refine g_mem (M2 := sr (sr M 32 B16) 33 T17) (by simp (disch := decide) only [Int.reduceToNat, up_sr, sr_cp, sr_k, sr_o, sr_sr, us_us, @sr_lt _ 33 32 _ _ (by decide)]; try rfl) ?_
                have haug_ : Aug (M 27 4).toNat (mbe (M 28) (M 29) (M 30) (M 31)) (M 32 lx.toNat) (M 32) (us Tg lx.toNat i) B16 := by rw [← ex15]; exact c18
                refine g_if_eq (pc := 67) (tgt := 79) hK dd_X8_findsNext_67 (by decide) (by decide) (fun c21 => absurd c21 (by decide)) (fun _ => ?_)
                skip
                refine g_aloadn (pc := 70) (i := 0) (x := 27) hK dd_X8_findsNext_70 rfl rfl ?_
                refine g_getv (pc := 71) (f := (1, 5)) (j := 5) (v := gR 32) hK (kdm kd_27) rfl ef_8 (by decide) rfl kk_202 dd_X8_findsNext_71 rfl ?_
                refine g_iloadn (pc := 74) (i := 3) (x := lx) hK dd_X8_findsNext_74 rfl rfl ?_
                refine g_iloadn (pc := 75) (i := 1) (x := i) hK dd_X8_findsNext_75 rfl rfl ?_
                refine g_iast (pc := 76) hK (kdm kd_32) nl_32 (by decide) (by decide) dd_X8_findsNext_76 (by omega) (by omega) ⟨by omega, by omega⟩ ?_
                refine g_iconst (pc := 77) (x := 1) hK dd_X8_findsNext_77 (by decide) ?_
                refine g_iret (pc := 78) hK hr hlocks dd_X8_findsNext_78 rfl ?_
                first | exact g_fin (hT (us B16 lx.toNat i) T17 (by exact aug_rec (by omega) ⟨hi.1, by omega⟩ hv hsr_ (by omega) hme_ (by omega) haug_)) (by first | rfl | omega | (subst_vars; first | rfl | omega)) (by simp (disch := decide) only [Int.reduceToNat, up_sr, sr_cp, sr_k, sr_o, sr_sr, us_us, @sr_lt _ 33 32 _ _ (by decide)]; try rfl) | (exfalso; omega)
              · replace c20 : Nno (M 27 4).toNat (mbe (M 28) (M 29) (M 30) (M 31)) x15 (M 32) ((us Tg lx.toNat i)) T19 := c20
                refine g_mem (M2 := sr M 33 T19) (by simp (disch := decide) only [Int.reduceToNat, up_sr, sr_cp, sr_k, sr_o, sr_sr, us_us, @sr_lt _ 33 32 _ _ (by decide)]; try rfl) ?_
                have hnno_ : Nno (M 27 4).toNat (mbe (M 28) (M 29) (M 30) (M 31)) (M 32 lx.toNat) (M 32) (us Tg lx.toNat i) T19 := by rw [← ex15]; exact c20
                refine g_if_eq (pc := 67) (tgt := 79) hK dd_X8_findsNext_67 (by decide) (by decide) (fun _ => ?_) (fun c22 => absurd (by decide) c22)
                have hsn_ : Sr (M 27 4).toNat (mbe (M 28) (M 29) (M 30) (M 31)) i (M 32) (M 33) (lx.toNat + 1) T19 := sr_rec (by omega) hi.1 hsr_ (by omega) hnno_
                refine g_iinc (pc := 79) (i := 3) (y := lx + 1) (L' := [(0, gR 27), (1, gI i), (2, gI 13), (3, gI (lx + 1))]) hK dd_X8_findsNext_79 rfl rfl (by decide) rfl ?_
                refine g_goto (pc := 82) (tgt := 10) hK dd_X8_findsNext_82 (by decide) ?_
                refine g_sub (L' := [(0, gR 27), (1, gI i), (2, gI 13), (3, gI (lx + 1))]) [0, 1, 2, 3] rfl ?_
                refine g_mem (M2 := sr M 33 T19) (by first | rfl | (simp (disch := decide) only [Int.reduceToNat, up_sr, sr_cp, sr_k, sr_o, sr_sr, us_us, @sr_lt _ 33 32 _ _ (by decide)]; try rfl)) ?_
                exact ih3 (lx + 1) T19 (by omega) (by rw [tn1 (by omega)]; exact hsn_) (Nat.le_trans htr (trd_mono hsn_.1)) (by omega)
          · replace c11 : ¬ (mbe (M 28) (M 29) (M 30) (M 31) i.toNat lx.toNat) := c11
            have hme_ : ¬ (mbe (M 28) (M 29) (M 30) (M 31)) i.toNat lx.toNat := c11
            refine g_if_eq (pc := 34) (tgt := 79) hK dd_X8_findsNext_34 (by decide) (by decide) (fun _ => ?_) (fun c23 => absurd (by decide) c23)
            have hsn_ : Sr (M 27 4).toNat (mbe (M 28) (M 29) (M 30) (M 31)) i (M 32) (M 33) (lx.toNat + 1) Tg := sr_next hsr_ (Or.inr hme_)
            refine g_iinc (pc := 79) (i := 3) (y := lx + 1) (L' := [(0, gR 27), (1, gI i), (2, gI 13), (3, gI (lx + 1))]) hK dd_X8_findsNext_79 rfl rfl (by decide) rfl ?_
            refine g_goto (pc := 82) (tgt := 10) hK dd_X8_findsNext_82 (by decide) ?_
            refine g_sub (L' := [(0, gR 27), (1, gI i), (2, gI 13), (3, gI (lx + 1))]) [0, 1, 2, 3] rfl ?_
            refine g_mem (M2 := sr M 33 Tg) (by first | rfl | (simp (disch := decide) only [Int.reduceToNat, up_sr, sr_cp, sr_k, sr_o, sr_sr, us_us, @sr_lt _ 33 32 _ _ (by decide)]; try rfl)) ?_
            exact ih3 (lx + 1) Tg (by omega) (by rw [tn1 (by omega)]; exact hsn_) (Nat.le_trans htr (trd_mono hsn_.1)) (by omega)
  refine g_mem (M2 := sr M 33 (M 33)) (sr_self.symm) ?_
  refine g_sub (L' := [(0, gR 27), (1, gI i), (2, gI 13), (3, gI 0)]) [0, 1, 2, 3] rfl ?_
  exact lp4 _ 0 (M 33) (by omega) (sr0) (htr) (Nat.lt_succ_self _)
set_option maxHeartbeats 4000000 in
set_option maxRecDepth 100000 in
theorem c_fn12 {l : Launch} {M : Mem} {Pq : Option gV → Mem → Prop} (i : Int) (hi : 0 ≤ i ∧ i < M 27 4) (hsc : 0 ≤ M 27 4 ∧ M 27 4 ≤ 20) (hv : Vl (M 27 4).toNat (mbe (M 28) (M 29) (M 30) (M 31)) (M 32)) (htr : 12 ≤ trd (M 33) (M 27 4).toNat) (hT : ∀ (B1 : Nat → Int) (T1 : Nat → Int), (Aug (M 27 4).toNat (mbe (M 28) (M 29) (M 30) (M 31)) i (M 32) (M 33) B1) → Pq (some (gI 1)) (sr (sr M 32 B1) 33 T1)) (hF : ∀ (T1 : Nat → Int), (Nno (M 27 4).toNat (mbe (M 28) (M 29) (M 30) (M 31)) i (M 32) (M 33) T1) → Pq (some (gI 0)) (sr M 33 T1)) : gCtr l my_X8_findsNext mb_X8_findsNext 4 ((some .boolean)) 9 [gR 27, gI i, gI 12] M Pq := by
  refine g_intro (by decide) (Nat.le_of_ble_eq_true rfl) ?_
  intro p e s m args below meth c D cy q A hK hr hlocks hw
  refine g_sub (L' := [(0, gR 27), (1, gI i), (2, gI 12)]) [0, 1, 2] rfl ?_
  refine g_iloadn (pc := 0) (i := 2) (x := 12) hK dd_X8_findsNext_0 rfl rfl ?_
  refine g_bipush (pc := 1) (x := 20) hK dd_X8_findsNext_1 (by decide) ?_
  refine g_icmp_le (pc := 3) (tgt := 8) hK dd_X8_findsNext_3 (by decide) (by decide) (by decide) (fun _ => ?_) (fun c1 => absurd (by decide) c1)
  refine g_iconst (pc := 8) (x := 0) hK dd_X8_findsNext_8 (by decide) ?_
  refine g_istoren (pc := 9) (i := 3) (L' := [(0, gR 27), (1, gI i), (2, gI 12), (3, gI 0)]) hK dd_X8_findsNext_9 rfl (by decide) rfl ?_
  have lp4 : ∀ (n2 : Nat) (lx : Int) (Tg : Nat → Int), (0 ≤ lx ∧ lx ≤ M 27 4) → (Sr (M 27 4).toNat (mbe (M 28) (M 29) (M 30) (M 31)) i (M 32) (M 33) lx.toNat Tg) → (12 ≤ trd Tg (M 27 4).toNat) → (M 27 4 - lx).toNat < n2 → G p l e (rmD 9) s m args below meth c D cy q A 0 0 4 (MQ below (gQc D cy q A Pq) args s 0 0 A) 10 [(0, gR 27), (1, gI i), (2, gI 12), (3, gI lx)] [] (sr M 33 Tg) := by
    intro n2
    induction n2 with
    | zero => intro lx Tg iv5 hsr_ htr_ hm6; exact absurd hm6 (Nat.not_lt_zero _)
    | succ n2 ih3 =>
      intro lx Tg iv5 hsr_ htr_ hm6
      refine g_iloadn (pc := 10) (i := 3) (x := lx) hK dd_X8_findsNext_10 rfl rfl ?_
      refine g_aloadn (pc := 11) (i := 0) (x := 27) hK dd_X8_findsNext_11 rfl rfl ?_
      refine g_geti (pc := 12) (f := (0, 0)) (j := 4) hK (kdm kd_27) rfl ef_8 (by decide) rfl kk_200 nl_27 dd_X8_findsNext_12 rfl (fun x7 ex7 rx7 => ?_)
      replace ex7 : x7 = M 27 4 := ex7
      refine g_icmp_ge (pc := 15) (tgt := 85) hK dd_X8_findsNext_15 (by decide) ⟨by omega, by omega⟩ rx7 (fun c8 => ?_) (fun c8 => ?_)
      · refine g_iconst (pc := 85) (x := 0) hK dd_X8_findsNext_85 (by decide) ?_
        refine g_iret (pc := 86) hK hr hlocks dd_X8_findsNext_86 rfl ?_
        first | exact g_fin (hF Tg (by exact sr_end hsr_ (by omega))) (by first | rfl | omega | (subst_vars; first | rfl | omega)) (rfl) | (exfalso; omega)
      · refine g_aloadn (pc := 18) (i := 0) (x := 27) hK dd_X8_findsNext_18 rfl rfl ?_
        refine g_getv (pc := 19) (f := (1, 6)) (j := 6) (v := gR 33) hK (kdm kd_27) rfl ef_8 (by decide) rfl kk_203 dd_X8_findsNext_19 rfl ?_
        refine g_iloadn (pc := 22) (i := 3) (x := lx) hK dd_X8_findsNext_22 rfl rfl ?_
        refine g_iald (pc := 23) hK (kdm kd_33) nl_33 (by decide) dd_X8_findsNext_23 (by omega) (by omega) (fun x9 ex9 rx9 => ?_)
        replace ex9 : x9 = Tg lx.toNat := by first | exact ex9 | (rw [ex9]; simp [up, us, cp, sr])
        refine g_iconst (pc := 24) (x := (-1)) hK dd_X8_findsNext_24 (by decide) ?_
        refine g_icmp_ne (pc := 25) (tgt := 79) hK dd_X8_findsNext_25 (by decide) rx9 (by decide) (fun c10 => ?_) (fun c10 => ?_)
        · have hsn_ : Sr (M 27 4).toNat (mbe (M 28) (M 29) (M 30) (M 31)) i (M 32) (M 33) (lx.toNat + 1) Tg := sr_next hsr_ (Or.inl (by omega))
          refine g_iinc (pc := 79) (i := 3) (y := lx + 1) (L' := [(0, gR 27), (1, gI i), (2, gI 12), (3, gI (lx + 1))]) hK dd_X8_findsNext_79 rfl rfl (by decide) rfl ?_
          refine g_goto (pc := 82) (tgt := 10) hK dd_X8_findsNext_82 (by decide) ?_
          refine g_sub (L' := [(0, gR 27), (1, gI i), (2, gI 12), (3, gI (lx + 1))]) [0, 1, 2, 3] rfl ?_
          refine g_mem (M2 := sr M 33 Tg) (by first | rfl | (simp (disch := decide) only [Int.reduceToNat, up_sr, sr_cp, sr_k, sr_o, sr_sr, us_us, @sr_lt _ 33 32 _ _ (by decide)]; try rfl)) ?_
          exact ih3 (lx + 1) Tg (by omega) (by rw [tn1 (by omega)]; exact hsn_) (Nat.le_trans htr (trd_mono hsn_.1)) (by omega)
        · have hlt_ := trd_lt (T := Tg) (n := (M 27 4).toNat) (l := lx.toNat) (by omega) (by omega)
          refine g_aloadn (pc := 28) (i := 0) (x := 27) hK dd_X8_findsNext_28 rfl rfl ?_
          refine g_iloadn (pc := 29) (i := 1) (x := i) hK dd_X8_findsNext_29 rfl rfl ?_
          refine g_iloadn (pc := 30) (i := 3) (x := lx) hK dd_X8_findsNext_30 rfl rfl ?_
          refine g_callV (pc := 31) (As := [gI i, gI lx]) hK ws_Sightings_51 md_X8_mayBeOf ⟨Nat.zero_le _, Nat.zero_le _⟩ ⟨by decide, by decide⟩ (kdm kd_27) rfl rfl dd_X8_findsNext_31 rfl rfl (Nat.le_of_ble_eq_true rfl) (c_mayBeOf i lx (show 0 ≤ i ∧ i < 20 by omega) (show 0 ≤ lx ∧ lx < 20 by omega) (fun c11 => g_r1 ?_) (fun c11 => g_r1 ?_))
          · replace c11 : mbe (M 28) (M 29) (M 30) (M 31) i.toNat lx.toNat := c11
            have hme_ : (mbe (M 28) (M 29) (M 30) (M 31)) i.toNat lx.toNat := c11
            refine g_if_eq (pc := 34) (tgt := 79) hK dd_X8_findsNext_34 (by decide) (by decide) (fun c12 => absurd c12 (by decide)) (fun _ => ?_)
            refine g_aloadn (pc := 37) (i := 0) (x := 27) hK dd_X8_findsNext_37 rfl rfl ?_
            refine g_getv (pc := 38) (f := (1, 6)) (j := 6) (v := gR 33) hK (kdm kd_27) rfl ef_8 (by decide) rfl kk_203 dd_X8_findsNext_38 rfl ?_
            refine g_iloadn (pc := 41) (i := 3) (x := lx) hK dd_X8_findsNext_41 rfl rfl ?_
            refine g_iloadn (pc := 42) (i := 1) (x := i) hK dd_X8_findsNext_42 rfl rfl ?_
            refine g_iast (pc := 43) hK (kdm kd_33) nl_33 (by decide) (by decide) dd_X8_findsNext_43 (by omega) (by omega) ⟨by omega, by omega⟩ ?_
            refine g_mem (M2 := sr M 33 (us Tg lx.toNat i)) (by simp (disch := decide) only [Int.reduceToNat, up_sr, sr_cp, sr_k, sr_o, sr_sr, us_us, @sr_lt _ 33 32 _ _ (by decide)]; try rfl) ?_
            have htr2_ : 13 ≤ trd (us Tg lx.toNat i) (M 27 4).toNat := by rw [trd_us (by omega) (by omega) (by omega)]; omega
            refine g_aloadn (pc := 44) (i := 0) (x := 27) hK dd_X8_findsNext_44 rfl rfl ?_
            refine g_getv (pc := 45) (f := (1, 5)) (j := 5) (v := gR 32) hK (kdm kd_27) rfl ef_8 (by decide) rfl kk_202 dd_X8_findsNext_45 rfl ?_
            refine g_iloadn (pc := 48) (i := 3) (x := lx) hK dd_X8_findsNext_48 rfl rfl ?_
            refine g_iald (pc := 49) hK (kdm kd_32) nl_32 (by decide) dd_X8_findsNext_49 (by omega) (by omega) (fun x13 ex13 rx13 => ?_)
            replace ex13 : x13 = M 32 lx.toNat := ex13
            refine g_iconst (pc := 50) (x := (-1)) hK dd_X8_findsNext_50 (by decide) ?_
            refine g_icmp_eq (pc := 51) (tgt := 70) hK dd_X8_findsNext_51 (by decide) rx13 (by decide) (fun c14 => ?_) (fun c14 => ?_)
            · skip
              refine g_aloadn (pc := 70) (i := 0) (x := 27) hK dd_X8_findsNext_70 rfl rfl ?_
              refine g_getv (pc := 71) (f := (1, 5)) (j := 5) (v := gR 32) hK (kdm kd_27) rfl ef_8 (by decide) rfl kk_202 dd_X8_findsNext_71 rfl ?_
              refine g_iloadn (pc := 74) (i := 3) (x := lx) hK dd_X8_findsNext_74 rfl rfl ?_
              refine g_iloadn (pc := 75) (i := 1) (x := i) hK dd_X8_findsNext_75 rfl rfl ?_
              refine g_iast (pc := 76) hK (kdm kd_32) nl_32 (by decide) (by decide) dd_X8_findsNext_76 (by omega) (by omega) ⟨by omega, by omega⟩ ?_
              refine g_iconst (pc := 77) (x := 1) hK dd_X8_findsNext_77 (by decide) ?_
              refine g_iret (pc := 78) hK hr hlocks dd_X8_findsNext_78 rfl ?_
              first | exact g_fin (hT (us (M 32) lx.toNat i) (us Tg lx.toNat i) (by exact aug_base (by omega) ⟨hi.1, by omega⟩ hv hsr_ (by omega) hme_ (by omega))) (by first | rfl | omega | (subst_vars; first | rfl | omega)) (by simp (disch := decide) only [Int.reduceToNat, up_sr, sr_cp, sr_k, sr_o, sr_sr, us_us, @sr_lt _ 33 32 _ _ (by decide)]; try rfl) | (exfalso; omega)
            · have hvl_ := hv lx.toNat (by omega)
              refine g_aloadn (pc := 54) (i := 0) (x := 27) hK dd_X8_findsNext_54 rfl rfl ?_
              refine g_aloadn (pc := 55) (i := 0) (x := 27) hK dd_X8_findsNext_55 rfl rfl ?_
              refine g_getv (pc := 56) (f := (1, 5)) (j := 5) (v := gR 32) hK (kdm kd_27) rfl ef_8 (by decide) rfl kk_202 dd_X8_findsNext_56 rfl ?_
              refine g_iloadn (pc := 59) (i := 3) (x := lx) hK dd_X8_findsNext_59 rfl rfl ?_
              refine g_iald (pc := 60) hK (kdm kd_32) nl_32 (by decide) dd_X8_findsNext_60 (by omega) (by omega) (fun x15 ex15 rx15 => ?_)
              replace ex15 : x15 = M 32 lx.toNat := ex15
              skip
              refine g_iloadn (pc := 61) (i := 2) (x := 12) hK dd_X8_findsNext_61 rfl rfl ?_
              refine g_iconst (pc := 62) (x := 1) hK dd_X8_findsNext_62 (by decide) ?_
              refine g_iadd (pc := 63) (z := 13) hK dd_X8_findsNext_63 rfl ?_
              refine g_callT (pc := 64) (As := [gR 27, gI x15, gI 13]) hK ws_Sightings_47 md_X8_findsNext ⟨Nat.zero_le _, Nat.zero_le _⟩ ⟨by decide, by decide⟩ dd_X8_findsNext_64 rfl rfl (Nat.le_of_ble_eq_true rfl) (c_fn13 x15 (show 0 ≤ x15 ∧ x15 < M 27 4 by omega) hsc hv htr2_ (fun B16 T17 c18 => g_r1 ?_) (fun T19 c20 => g_r1 ?_))
              · replace c18 : Aug (M 27 4).toNat (mbe (M 28) (M 29) (M 30) (M 31)) x15 (M 32) ((us Tg lx.toNat i)) B16 := c18
                refine g_mem (M2 := sr (sr M 32 B16) 33 T17) (by simp (disch := decide) only [Int.reduceToNat, up_sr, sr_cp, sr_k, sr_o, sr_sr, us_us, @sr_lt _ 33 32 _ _ (by decide)]; try rfl) ?_
                have haug_ : Aug (M 27 4).toNat (mbe (M 28) (M 29) (M 30) (M 31)) (M 32 lx.toNat) (M 32) (us Tg lx.toNat i) B16 := by rw [← ex15]; exact c18
                refine g_if_eq (pc := 67) (tgt := 79) hK dd_X8_findsNext_67 (by decide) (by decide) (fun c21 => absurd c21 (by decide)) (fun _ => ?_)
                skip
                refine g_aloadn (pc := 70) (i := 0) (x := 27) hK dd_X8_findsNext_70 rfl rfl ?_
                refine g_getv (pc := 71) (f := (1, 5)) (j := 5) (v := gR 32) hK (kdm kd_27) rfl ef_8 (by decide) rfl kk_202 dd_X8_findsNext_71 rfl ?_
                refine g_iloadn (pc := 74) (i := 3) (x := lx) hK dd_X8_findsNext_74 rfl rfl ?_
                refine g_iloadn (pc := 75) (i := 1) (x := i) hK dd_X8_findsNext_75 rfl rfl ?_
                refine g_iast (pc := 76) hK (kdm kd_32) nl_32 (by decide) (by decide) dd_X8_findsNext_76 (by omega) (by omega) ⟨by omega, by omega⟩ ?_
                refine g_iconst (pc := 77) (x := 1) hK dd_X8_findsNext_77 (by decide) ?_
                refine g_iret (pc := 78) hK hr hlocks dd_X8_findsNext_78 rfl ?_
                first | exact g_fin (hT (us B16 lx.toNat i) T17 (by exact aug_rec (by omega) ⟨hi.1, by omega⟩ hv hsr_ (by omega) hme_ (by omega) haug_)) (by first | rfl | omega | (subst_vars; first | rfl | omega)) (by simp (disch := decide) only [Int.reduceToNat, up_sr, sr_cp, sr_k, sr_o, sr_sr, us_us, @sr_lt _ 33 32 _ _ (by decide)]; try rfl) | (exfalso; omega)
              · replace c20 : Nno (M 27 4).toNat (mbe (M 28) (M 29) (M 30) (M 31)) x15 (M 32) ((us Tg lx.toNat i)) T19 := c20
                refine g_mem (M2 := sr M 33 T19) (by simp (disch := decide) only [Int.reduceToNat, up_sr, sr_cp, sr_k, sr_o, sr_sr, us_us, @sr_lt _ 33 32 _ _ (by decide)]; try rfl) ?_
                have hnno_ : Nno (M 27 4).toNat (mbe (M 28) (M 29) (M 30) (M 31)) (M 32 lx.toNat) (M 32) (us Tg lx.toNat i) T19 := by rw [← ex15]; exact c20
                refine g_if_eq (pc := 67) (tgt := 79) hK dd_X8_findsNext_67 (by decide) (by decide) (fun _ => ?_) (fun c22 => absurd (by decide) c22)
                have hsn_ : Sr (M 27 4).toNat (mbe (M 28) (M 29) (M 30) (M 31)) i (M 32) (M 33) (lx.toNat + 1) T19 := sr_rec (by omega) hi.1 hsr_ (by omega) hnno_
                refine g_iinc (pc := 79) (i := 3) (y := lx + 1) (L' := [(0, gR 27), (1, gI i), (2, gI 12), (3, gI (lx + 1))]) hK dd_X8_findsNext_79 rfl rfl (by decide) rfl ?_
                refine g_goto (pc := 82) (tgt := 10) hK dd_X8_findsNext_82 (by decide) ?_
                refine g_sub (L' := [(0, gR 27), (1, gI i), (2, gI 12), (3, gI (lx + 1))]) [0, 1, 2, 3] rfl ?_
                refine g_mem (M2 := sr M 33 T19) (by first | rfl | (simp (disch := decide) only [Int.reduceToNat, up_sr, sr_cp, sr_k, sr_o, sr_sr, us_us, @sr_lt _ 33 32 _ _ (by decide)]; try rfl)) ?_
                exact ih3 (lx + 1) T19 (by omega) (by rw [tn1 (by omega)]; exact hsn_) (Nat.le_trans htr (trd_mono hsn_.1)) (by omega)
          · replace c11 : ¬ (mbe (M 28) (M 29) (M 30) (M 31) i.toNat lx.toNat) := c11
            have hme_ : ¬ (mbe (M 28) (M 29) (M 30) (M 31)) i.toNat lx.toNat := c11
            refine g_if_eq (pc := 34) (tgt := 79) hK dd_X8_findsNext_34 (by decide) (by decide) (fun _ => ?_) (fun c23 => absurd (by decide) c23)
            have hsn_ : Sr (M 27 4).toNat (mbe (M 28) (M 29) (M 30) (M 31)) i (M 32) (M 33) (lx.toNat + 1) Tg := sr_next hsr_ (Or.inr hme_)
            refine g_iinc (pc := 79) (i := 3) (y := lx + 1) (L' := [(0, gR 27), (1, gI i), (2, gI 12), (3, gI (lx + 1))]) hK dd_X8_findsNext_79 rfl rfl (by decide) rfl ?_
            refine g_goto (pc := 82) (tgt := 10) hK dd_X8_findsNext_82 (by decide) ?_
            refine g_sub (L' := [(0, gR 27), (1, gI i), (2, gI 12), (3, gI (lx + 1))]) [0, 1, 2, 3] rfl ?_
            refine g_mem (M2 := sr M 33 Tg) (by first | rfl | (simp (disch := decide) only [Int.reduceToNat, up_sr, sr_cp, sr_k, sr_o, sr_sr, us_us, @sr_lt _ 33 32 _ _ (by decide)]; try rfl)) ?_
            exact ih3 (lx + 1) Tg (by omega) (by rw [tn1 (by omega)]; exact hsn_) (Nat.le_trans htr (trd_mono hsn_.1)) (by omega)
  refine g_mem (M2 := sr M 33 (M 33)) (sr_self.symm) ?_
  refine g_sub (L' := [(0, gR 27), (1, gI i), (2, gI 12), (3, gI 0)]) [0, 1, 2, 3] rfl ?_
  exact lp4 _ 0 (M 33) (by omega) (sr0) (htr) (Nat.lt_succ_self _)
set_option maxHeartbeats 4000000 in
set_option maxRecDepth 100000 in
theorem c_fn11 {l : Launch} {M : Mem} {Pq : Option gV → Mem → Prop} (i : Int) (hi : 0 ≤ i ∧ i < M 27 4) (hsc : 0 ≤ M 27 4 ∧ M 27 4 ≤ 20) (hv : Vl (M 27 4).toNat (mbe (M 28) (M 29) (M 30) (M 31)) (M 32)) (htr : 11 ≤ trd (M 33) (M 27 4).toNat) (hT : ∀ (B1 : Nat → Int) (T1 : Nat → Int), (Aug (M 27 4).toNat (mbe (M 28) (M 29) (M 30) (M 31)) i (M 32) (M 33) B1) → Pq (some (gI 1)) (sr (sr M 32 B1) 33 T1)) (hF : ∀ (T1 : Nat → Int), (Nno (M 27 4).toNat (mbe (M 28) (M 29) (M 30) (M 31)) i (M 32) (M 33) T1) → Pq (some (gI 0)) (sr M 33 T1)) : gCtr l my_X8_findsNext mb_X8_findsNext 4 ((some .boolean)) 10 [gR 27, gI i, gI 11] M Pq := by
  refine g_intro (by decide) (Nat.le_of_ble_eq_true rfl) ?_
  intro p e s m args below meth c D cy q A hK hr hlocks hw
  refine g_sub (L' := [(0, gR 27), (1, gI i), (2, gI 11)]) [0, 1, 2] rfl ?_
  refine g_iloadn (pc := 0) (i := 2) (x := 11) hK dd_X8_findsNext_0 rfl rfl ?_
  refine g_bipush (pc := 1) (x := 20) hK dd_X8_findsNext_1 (by decide) ?_
  refine g_icmp_le (pc := 3) (tgt := 8) hK dd_X8_findsNext_3 (by decide) (by decide) (by decide) (fun _ => ?_) (fun c1 => absurd (by decide) c1)
  refine g_iconst (pc := 8) (x := 0) hK dd_X8_findsNext_8 (by decide) ?_
  refine g_istoren (pc := 9) (i := 3) (L' := [(0, gR 27), (1, gI i), (2, gI 11), (3, gI 0)]) hK dd_X8_findsNext_9 rfl (by decide) rfl ?_
  have lp4 : ∀ (n2 : Nat) (lx : Int) (Tg : Nat → Int), (0 ≤ lx ∧ lx ≤ M 27 4) → (Sr (M 27 4).toNat (mbe (M 28) (M 29) (M 30) (M 31)) i (M 32) (M 33) lx.toNat Tg) → (11 ≤ trd Tg (M 27 4).toNat) → (M 27 4 - lx).toNat < n2 → G p l e (rmD 10) s m args below meth c D cy q A 0 0 4 (MQ below (gQc D cy q A Pq) args s 0 0 A) 10 [(0, gR 27), (1, gI i), (2, gI 11), (3, gI lx)] [] (sr M 33 Tg) := by
    intro n2
    induction n2 with
    | zero => intro lx Tg iv5 hsr_ htr_ hm6; exact absurd hm6 (Nat.not_lt_zero _)
    | succ n2 ih3 =>
      intro lx Tg iv5 hsr_ htr_ hm6
      refine g_iloadn (pc := 10) (i := 3) (x := lx) hK dd_X8_findsNext_10 rfl rfl ?_
      refine g_aloadn (pc := 11) (i := 0) (x := 27) hK dd_X8_findsNext_11 rfl rfl ?_
      refine g_geti (pc := 12) (f := (0, 0)) (j := 4) hK (kdm kd_27) rfl ef_8 (by decide) rfl kk_200 nl_27 dd_X8_findsNext_12 rfl (fun x7 ex7 rx7 => ?_)
      replace ex7 : x7 = M 27 4 := ex7
      refine g_icmp_ge (pc := 15) (tgt := 85) hK dd_X8_findsNext_15 (by decide) ⟨by omega, by omega⟩ rx7 (fun c8 => ?_) (fun c8 => ?_)
      · refine g_iconst (pc := 85) (x := 0) hK dd_X8_findsNext_85 (by decide) ?_
        refine g_iret (pc := 86) hK hr hlocks dd_X8_findsNext_86 rfl ?_
        first | exact g_fin (hF Tg (by exact sr_end hsr_ (by omega))) (by first | rfl | omega | (subst_vars; first | rfl | omega)) (rfl) | (exfalso; omega)
      · refine g_aloadn (pc := 18) (i := 0) (x := 27) hK dd_X8_findsNext_18 rfl rfl ?_
        refine g_getv (pc := 19) (f := (1, 6)) (j := 6) (v := gR 33) hK (kdm kd_27) rfl ef_8 (by decide) rfl kk_203 dd_X8_findsNext_19 rfl ?_
        refine g_iloadn (pc := 22) (i := 3) (x := lx) hK dd_X8_findsNext_22 rfl rfl ?_
        refine g_iald (pc := 23) hK (kdm kd_33) nl_33 (by decide) dd_X8_findsNext_23 (by omega) (by omega) (fun x9 ex9 rx9 => ?_)
        replace ex9 : x9 = Tg lx.toNat := by first | exact ex9 | (rw [ex9]; simp [up, us, cp, sr])
        refine g_iconst (pc := 24) (x := (-1)) hK dd_X8_findsNext_24 (by decide) ?_
        refine g_icmp_ne (pc := 25) (tgt := 79) hK dd_X8_findsNext_25 (by decide) rx9 (by decide) (fun c10 => ?_) (fun c10 => ?_)
        · have hsn_ : Sr (M 27 4).toNat (mbe (M 28) (M 29) (M 30) (M 31)) i (M 32) (M 33) (lx.toNat + 1) Tg := sr_next hsr_ (Or.inl (by omega))
          refine g_iinc (pc := 79) (i := 3) (y := lx + 1) (L' := [(0, gR 27), (1, gI i), (2, gI 11), (3, gI (lx + 1))]) hK dd_X8_findsNext_79 rfl rfl (by decide) rfl ?_
          refine g_goto (pc := 82) (tgt := 10) hK dd_X8_findsNext_82 (by decide) ?_
          refine g_sub (L' := [(0, gR 27), (1, gI i), (2, gI 11), (3, gI (lx + 1))]) [0, 1, 2, 3] rfl ?_
          refine g_mem (M2 := sr M 33 Tg) (by first | rfl | (simp (disch := decide) only [Int.reduceToNat, up_sr, sr_cp, sr_k, sr_o, sr_sr, us_us, @sr_lt _ 33 32 _ _ (by decide)]; try rfl)) ?_
          exact ih3 (lx + 1) Tg (by omega) (by rw [tn1 (by omega)]; exact hsn_) (Nat.le_trans htr (trd_mono hsn_.1)) (by omega)
        · have hlt_ := trd_lt (T := Tg) (n := (M 27 4).toNat) (l := lx.toNat) (by omega) (by omega)
          refine g_aloadn (pc := 28) (i := 0) (x := 27) hK dd_X8_findsNext_28 rfl rfl ?_
          refine g_iloadn (pc := 29) (i := 1) (x := i) hK dd_X8_findsNext_29 rfl rfl ?_
          refine g_iloadn (pc := 30) (i := 3) (x := lx) hK dd_X8_findsNext_30 rfl rfl ?_
          refine g_callV (pc := 31) (As := [gI i, gI lx]) hK ws_Sightings_51 md_X8_mayBeOf ⟨Nat.zero_le _, Nat.zero_le _⟩ ⟨by decide, by decide⟩ (kdm kd_27) rfl rfl dd_X8_findsNext_31 rfl rfl (Nat.le_of_ble_eq_true rfl) (c_mayBeOf i lx (show 0 ≤ i ∧ i < 20 by omega) (show 0 ≤ lx ∧ lx < 20 by omega) (fun c11 => g_r1 ?_) (fun c11 => g_r1 ?_))
          · replace c11 : mbe (M 28) (M 29) (M 30) (M 31) i.toNat lx.toNat := c11
            have hme_ : (mbe (M 28) (M 29) (M 30) (M 31)) i.toNat lx.toNat := c11
            refine g_if_eq (pc := 34) (tgt := 79) hK dd_X8_findsNext_34 (by decide) (by decide) (fun c12 => absurd c12 (by decide)) (fun _ => ?_)
            refine g_aloadn (pc := 37) (i := 0) (x := 27) hK dd_X8_findsNext_37 rfl rfl ?_
            refine g_getv (pc := 38) (f := (1, 6)) (j := 6) (v := gR 33) hK (kdm kd_27) rfl ef_8 (by decide) rfl kk_203 dd_X8_findsNext_38 rfl ?_
            refine g_iloadn (pc := 41) (i := 3) (x := lx) hK dd_X8_findsNext_41 rfl rfl ?_
            refine g_iloadn (pc := 42) (i := 1) (x := i) hK dd_X8_findsNext_42 rfl rfl ?_
            refine g_iast (pc := 43) hK (kdm kd_33) nl_33 (by decide) (by decide) dd_X8_findsNext_43 (by omega) (by omega) ⟨by omega, by omega⟩ ?_
            refine g_mem (M2 := sr M 33 (us Tg lx.toNat i)) (by simp (disch := decide) only [Int.reduceToNat, up_sr, sr_cp, sr_k, sr_o, sr_sr, us_us, @sr_lt _ 33 32 _ _ (by decide)]; try rfl) ?_
            have htr2_ : 12 ≤ trd (us Tg lx.toNat i) (M 27 4).toNat := by rw [trd_us (by omega) (by omega) (by omega)]; omega
            refine g_aloadn (pc := 44) (i := 0) (x := 27) hK dd_X8_findsNext_44 rfl rfl ?_
            refine g_getv (pc := 45) (f := (1, 5)) (j := 5) (v := gR 32) hK (kdm kd_27) rfl ef_8 (by decide) rfl kk_202 dd_X8_findsNext_45 rfl ?_
            refine g_iloadn (pc := 48) (i := 3) (x := lx) hK dd_X8_findsNext_48 rfl rfl ?_
            refine g_iald (pc := 49) hK (kdm kd_32) nl_32 (by decide) dd_X8_findsNext_49 (by omega) (by omega) (fun x13 ex13 rx13 => ?_)
            replace ex13 : x13 = M 32 lx.toNat := ex13
            refine g_iconst (pc := 50) (x := (-1)) hK dd_X8_findsNext_50 (by decide) ?_
            refine g_icmp_eq (pc := 51) (tgt := 70) hK dd_X8_findsNext_51 (by decide) rx13 (by decide) (fun c14 => ?_) (fun c14 => ?_)
            · skip
              refine g_aloadn (pc := 70) (i := 0) (x := 27) hK dd_X8_findsNext_70 rfl rfl ?_
              refine g_getv (pc := 71) (f := (1, 5)) (j := 5) (v := gR 32) hK (kdm kd_27) rfl ef_8 (by decide) rfl kk_202 dd_X8_findsNext_71 rfl ?_
              refine g_iloadn (pc := 74) (i := 3) (x := lx) hK dd_X8_findsNext_74 rfl rfl ?_
              refine g_iloadn (pc := 75) (i := 1) (x := i) hK dd_X8_findsNext_75 rfl rfl ?_
              refine g_iast (pc := 76) hK (kdm kd_32) nl_32 (by decide) (by decide) dd_X8_findsNext_76 (by omega) (by omega) ⟨by omega, by omega⟩ ?_
              refine g_iconst (pc := 77) (x := 1) hK dd_X8_findsNext_77 (by decide) ?_
              refine g_iret (pc := 78) hK hr hlocks dd_X8_findsNext_78 rfl ?_
              first | exact g_fin (hT (us (M 32) lx.toNat i) (us Tg lx.toNat i) (by exact aug_base (by omega) ⟨hi.1, by omega⟩ hv hsr_ (by omega) hme_ (by omega))) (by first | rfl | omega | (subst_vars; first | rfl | omega)) (by simp (disch := decide) only [Int.reduceToNat, up_sr, sr_cp, sr_k, sr_o, sr_sr, us_us, @sr_lt _ 33 32 _ _ (by decide)]; try rfl) | (exfalso; omega)
            · have hvl_ := hv lx.toNat (by omega)
              refine g_aloadn (pc := 54) (i := 0) (x := 27) hK dd_X8_findsNext_54 rfl rfl ?_
              refine g_aloadn (pc := 55) (i := 0) (x := 27) hK dd_X8_findsNext_55 rfl rfl ?_
              refine g_getv (pc := 56) (f := (1, 5)) (j := 5) (v := gR 32) hK (kdm kd_27) rfl ef_8 (by decide) rfl kk_202 dd_X8_findsNext_56 rfl ?_
              refine g_iloadn (pc := 59) (i := 3) (x := lx) hK dd_X8_findsNext_59 rfl rfl ?_
              refine g_iald (pc := 60) hK (kdm kd_32) nl_32 (by decide) dd_X8_findsNext_60 (by omega) (by omega) (fun x15 ex15 rx15 => ?_)
              replace ex15 : x15 = M 32 lx.toNat := ex15
              skip
              refine g_iloadn (pc := 61) (i := 2) (x := 11) hK dd_X8_findsNext_61 rfl rfl ?_
              refine g_iconst (pc := 62) (x := 1) hK dd_X8_findsNext_62 (by decide) ?_
              refine g_iadd (pc := 63) (z := 12) hK dd_X8_findsNext_63 rfl ?_
              refine g_callT (pc := 64) (As := [gR 27, gI x15, gI 12]) hK ws_Sightings_47 md_X8_findsNext ⟨Nat.zero_le _, Nat.zero_le _⟩ ⟨by decide, by decide⟩ dd_X8_findsNext_64 rfl rfl (Nat.le_of_ble_eq_true rfl) (c_fn12 x15 (show 0 ≤ x15 ∧ x15 < M 27 4 by omega) hsc hv htr2_ (fun B16 T17 c18 => g_r1 ?_) (fun T19 c20 => g_r1 ?_))
              · replace c18 : Aug (M 27 4).toNat (mbe (M 28) (M 29) (M 30) (M 31)) x15 (M 32) ((us Tg lx.toNat i)) B16 := c18
                refine g_mem (M2 := sr (sr M 32 B16) 33 T17) (by simp (disch := decide) only [Int.reduceToNat, up_sr, sr_cp, sr_k, sr_o, sr_sr, us_us, @sr_lt _ 33 32 _ _ (by decide)]; try rfl) ?_
                have haug_ : Aug (M 27 4).toNat (mbe (M 28) (M 29) (M 30) (M 31)) (M 32 lx.toNat) (M 32) (us Tg lx.toNat i) B16 := by rw [← ex15]; exact c18
                refine g_if_eq (pc := 67) (tgt := 79) hK dd_X8_findsNext_67 (by decide) (by decide) (fun c21 => absurd c21 (by decide)) (fun _ => ?_)
                skip
                refine g_aloadn (pc := 70) (i := 0) (x := 27) hK dd_X8_findsNext_70 rfl rfl ?_
                refine g_getv (pc := 71) (f := (1, 5)) (j := 5) (v := gR 32) hK (kdm kd_27) rfl ef_8 (by decide) rfl kk_202 dd_X8_findsNext_71 rfl ?_
                refine g_iloadn (pc := 74) (i := 3) (x := lx) hK dd_X8_findsNext_74 rfl rfl ?_
                refine g_iloadn (pc := 75) (i := 1) (x := i) hK dd_X8_findsNext_75 rfl rfl ?_
                refine g_iast (pc := 76) hK (kdm kd_32) nl_32 (by decide) (by decide) dd_X8_findsNext_76 (by omega) (by omega) ⟨by omega, by omega⟩ ?_
                refine g_iconst (pc := 77) (x := 1) hK dd_X8_findsNext_77 (by decide) ?_
                refine g_iret (pc := 78) hK hr hlocks dd_X8_findsNext_78 rfl ?_
                first | exact g_fin (hT (us B16 lx.toNat i) T17 (by exact aug_rec (by omega) ⟨hi.1, by omega⟩ hv hsr_ (by omega) hme_ (by omega) haug_)) (by first | rfl | omega | (subst_vars; first | rfl | omega)) (by simp (disch := decide) only [Int.reduceToNat, up_sr, sr_cp, sr_k, sr_o, sr_sr, us_us, @sr_lt _ 33 32 _ _ (by decide)]; try rfl) | (exfalso; omega)
              · replace c20 : Nno (M 27 4).toNat (mbe (M 28) (M 29) (M 30) (M 31)) x15 (M 32) ((us Tg lx.toNat i)) T19 := c20
                refine g_mem (M2 := sr M 33 T19) (by simp (disch := decide) only [Int.reduceToNat, up_sr, sr_cp, sr_k, sr_o, sr_sr, us_us, @sr_lt _ 33 32 _ _ (by decide)]; try rfl) ?_
                have hnno_ : Nno (M 27 4).toNat (mbe (M 28) (M 29) (M 30) (M 31)) (M 32 lx.toNat) (M 32) (us Tg lx.toNat i) T19 := by rw [← ex15]; exact c20
                refine g_if_eq (pc := 67) (tgt := 79) hK dd_X8_findsNext_67 (by decide) (by decide) (fun _ => ?_) (fun c22 => absurd (by decide) c22)
                have hsn_ : Sr (M 27 4).toNat (mbe (M 28) (M 29) (M 30) (M 31)) i (M 32) (M 33) (lx.toNat + 1) T19 := sr_rec (by omega) hi.1 hsr_ (by omega) hnno_
                refine g_iinc (pc := 79) (i := 3) (y := lx + 1) (L' := [(0, gR 27), (1, gI i), (2, gI 11), (3, gI (lx + 1))]) hK dd_X8_findsNext_79 rfl rfl (by decide) rfl ?_
                refine g_goto (pc := 82) (tgt := 10) hK dd_X8_findsNext_82 (by decide) ?_
                refine g_sub (L' := [(0, gR 27), (1, gI i), (2, gI 11), (3, gI (lx + 1))]) [0, 1, 2, 3] rfl ?_
                refine g_mem (M2 := sr M 33 T19) (by first | rfl | (simp (disch := decide) only [Int.reduceToNat, up_sr, sr_cp, sr_k, sr_o, sr_sr, us_us, @sr_lt _ 33 32 _ _ (by decide)]; try rfl)) ?_
                exact ih3 (lx + 1) T19 (by omega) (by rw [tn1 (by omega)]; exact hsn_) (Nat.le_trans htr (trd_mono hsn_.1)) (by omega)
          · replace c11 : ¬ (mbe (M 28) (M 29) (M 30) (M 31) i.toNat lx.toNat) := c11
            have hme_ : ¬ (mbe (M 28) (M 29) (M 30) (M 31)) i.toNat lx.toNat := c11
            refine g_if_eq (pc := 34) (tgt := 79) hK dd_X8_findsNext_34 (by decide) (by decide) (fun _ => ?_) (fun c23 => absurd (by decide) c23)
            have hsn_ : Sr (M 27 4).toNat (mbe (M 28) (M 29) (M 30) (M 31)) i (M 32) (M 33) (lx.toNat + 1) Tg := sr_next hsr_ (Or.inr hme_)
            refine g_iinc (pc := 79) (i := 3) (y := lx + 1) (L' := [(0, gR 27), (1, gI i), (2, gI 11), (3, gI (lx + 1))]) hK dd_X8_findsNext_79 rfl rfl (by decide) rfl ?_
            refine g_goto (pc := 82) (tgt := 10) hK dd_X8_findsNext_82 (by decide) ?_
            refine g_sub (L' := [(0, gR 27), (1, gI i), (2, gI 11), (3, gI (lx + 1))]) [0, 1, 2, 3] rfl ?_
            refine g_mem (M2 := sr M 33 Tg) (by first | rfl | (simp (disch := decide) only [Int.reduceToNat, up_sr, sr_cp, sr_k, sr_o, sr_sr, us_us, @sr_lt _ 33 32 _ _ (by decide)]; try rfl)) ?_
            exact ih3 (lx + 1) Tg (by omega) (by rw [tn1 (by omega)]; exact hsn_) (Nat.le_trans htr (trd_mono hsn_.1)) (by omega)
  refine g_mem (M2 := sr M 33 (M 33)) (sr_self.symm) ?_
  refine g_sub (L' := [(0, gR 27), (1, gI i), (2, gI 11), (3, gI 0)]) [0, 1, 2, 3] rfl ?_
  exact lp4 _ 0 (M 33) (by omega) (sr0) (htr) (Nat.lt_succ_self _)
set_option maxHeartbeats 4000000 in
set_option maxRecDepth 100000 in
theorem c_fn10 {l : Launch} {M : Mem} {Pq : Option gV → Mem → Prop} (i : Int) (hi : 0 ≤ i ∧ i < M 27 4) (hsc : 0 ≤ M 27 4 ∧ M 27 4 ≤ 20) (hv : Vl (M 27 4).toNat (mbe (M 28) (M 29) (M 30) (M 31)) (M 32)) (htr : 10 ≤ trd (M 33) (M 27 4).toNat) (hT : ∀ (B1 : Nat → Int) (T1 : Nat → Int), (Aug (M 27 4).toNat (mbe (M 28) (M 29) (M 30) (M 31)) i (M 32) (M 33) B1) → Pq (some (gI 1)) (sr (sr M 32 B1) 33 T1)) (hF : ∀ (T1 : Nat → Int), (Nno (M 27 4).toNat (mbe (M 28) (M 29) (M 30) (M 31)) i (M 32) (M 33) T1) → Pq (some (gI 0)) (sr M 33 T1)) : gCtr l my_X8_findsNext mb_X8_findsNext 4 ((some .boolean)) 11 [gR 27, gI i, gI 10] M Pq := by
  refine g_intro (by decide) (Nat.le_of_ble_eq_true rfl) ?_
  intro p e s m args below meth c D cy q A hK hr hlocks hw
  refine g_sub (L' := [(0, gR 27), (1, gI i), (2, gI 10)]) [0, 1, 2] rfl ?_
  refine g_iloadn (pc := 0) (i := 2) (x := 10) hK dd_X8_findsNext_0 rfl rfl ?_
  refine g_bipush (pc := 1) (x := 20) hK dd_X8_findsNext_1 (by decide) ?_
  refine g_icmp_le (pc := 3) (tgt := 8) hK dd_X8_findsNext_3 (by decide) (by decide) (by decide) (fun _ => ?_) (fun c1 => absurd (by decide) c1)
  refine g_iconst (pc := 8) (x := 0) hK dd_X8_findsNext_8 (by decide) ?_
  refine g_istoren (pc := 9) (i := 3) (L' := [(0, gR 27), (1, gI i), (2, gI 10), (3, gI 0)]) hK dd_X8_findsNext_9 rfl (by decide) rfl ?_
  have lp4 : ∀ (n2 : Nat) (lx : Int) (Tg : Nat → Int), (0 ≤ lx ∧ lx ≤ M 27 4) → (Sr (M 27 4).toNat (mbe (M 28) (M 29) (M 30) (M 31)) i (M 32) (M 33) lx.toNat Tg) → (10 ≤ trd Tg (M 27 4).toNat) → (M 27 4 - lx).toNat < n2 → G p l e (rmD 11) s m args below meth c D cy q A 0 0 4 (MQ below (gQc D cy q A Pq) args s 0 0 A) 10 [(0, gR 27), (1, gI i), (2, gI 10), (3, gI lx)] [] (sr M 33 Tg) := by
    intro n2
    induction n2 with
    | zero => intro lx Tg iv5 hsr_ htr_ hm6; exact absurd hm6 (Nat.not_lt_zero _)
    | succ n2 ih3 =>
      intro lx Tg iv5 hsr_ htr_ hm6
      refine g_iloadn (pc := 10) (i := 3) (x := lx) hK dd_X8_findsNext_10 rfl rfl ?_
      refine g_aloadn (pc := 11) (i := 0) (x := 27) hK dd_X8_findsNext_11 rfl rfl ?_
      refine g_geti (pc := 12) (f := (0, 0)) (j := 4) hK (kdm kd_27) rfl ef_8 (by decide) rfl kk_200 nl_27 dd_X8_findsNext_12 rfl (fun x7 ex7 rx7 => ?_)
      replace ex7 : x7 = M 27 4 := ex7
      refine g_icmp_ge (pc := 15) (tgt := 85) hK dd_X8_findsNext_15 (by decide) ⟨by omega, by omega⟩ rx7 (fun c8 => ?_) (fun c8 => ?_)
      · refine g_iconst (pc := 85) (x := 0) hK dd_X8_findsNext_85 (by decide) ?_
        refine g_iret (pc := 86) hK hr hlocks dd_X8_findsNext_86 rfl ?_
        first | exact g_fin (hF Tg (by exact sr_end hsr_ (by omega))) (by first | rfl | omega | (subst_vars; first | rfl | omega)) (rfl) | (exfalso; omega)
      · refine g_aloadn (pc := 18) (i := 0) (x := 27) hK dd_X8_findsNext_18 rfl rfl ?_
        refine g_getv (pc := 19) (f := (1, 6)) (j := 6) (v := gR 33) hK (kdm kd_27) rfl ef_8 (by decide) rfl kk_203 dd_X8_findsNext_19 rfl ?_
        refine g_iloadn (pc := 22) (i := 3) (x := lx) hK dd_X8_findsNext_22 rfl rfl ?_
        refine g_iald (pc := 23) hK (kdm kd_33) nl_33 (by decide) dd_X8_findsNext_23 (by omega) (by omega) (fun x9 ex9 rx9 => ?_)
        replace ex9 : x9 = Tg lx.toNat := by first | exact ex9 | (rw [ex9]; simp [up, us, cp, sr])
        refine g_iconst (pc := 24) (x := (-1)) hK dd_X8_findsNext_24 (by decide) ?_
        refine g_icmp_ne (pc := 25) (tgt := 79) hK dd_X8_findsNext_25 (by decide) rx9 (by decide) (fun c10 => ?_) (fun c10 => ?_)
        · have hsn_ : Sr (M 27 4).toNat (mbe (M 28) (M 29) (M 30) (M 31)) i (M 32) (M 33) (lx.toNat + 1) Tg := sr_next hsr_ (Or.inl (by omega))
          refine g_iinc (pc := 79) (i := 3) (y := lx + 1) (L' := [(0, gR 27), (1, gI i), (2, gI 10), (3, gI (lx + 1))]) hK dd_X8_findsNext_79 rfl rfl (by decide) rfl ?_
          refine g_goto (pc := 82) (tgt := 10) hK dd_X8_findsNext_82 (by decide) ?_
          refine g_sub (L' := [(0, gR 27), (1, gI i), (2, gI 10), (3, gI (lx + 1))]) [0, 1, 2, 3] rfl ?_
          refine g_mem (M2 := sr M 33 Tg) (by first | rfl | (simp (disch := decide) only [Int.reduceToNat, up_sr, sr_cp, sr_k, sr_o, sr_sr, us_us, @sr_lt _ 33 32 _ _ (by decide)]; try rfl)) ?_
          exact ih3 (lx + 1) Tg (by omega) (by rw [tn1 (by omega)]; exact hsn_) (Nat.le_trans htr (trd_mono hsn_.1)) (by omega)
        · have hlt_ := trd_lt (T := Tg) (n := (M 27 4).toNat) (l := lx.toNat) (by omega) (by omega)
          refine g_aloadn (pc := 28) (i := 0) (x := 27) hK dd_X8_findsNext_28 rfl rfl ?_
          refine g_iloadn (pc := 29) (i := 1) (x := i) hK dd_X8_findsNext_29 rfl rfl ?_
          refine g_iloadn (pc := 30) (i := 3) (x := lx) hK dd_X8_findsNext_30 rfl rfl ?_
          refine g_callV (pc := 31) (As := [gI i, gI lx]) hK ws_Sightings_51 md_X8_mayBeOf ⟨Nat.zero_le _, Nat.zero_le _⟩ ⟨by decide, by decide⟩ (kdm kd_27) rfl rfl dd_X8_findsNext_31 rfl rfl (Nat.le_of_ble_eq_true rfl) (c_mayBeOf i lx (show 0 ≤ i ∧ i < 20 by omega) (show 0 ≤ lx ∧ lx < 20 by omega) (fun c11 => g_r1 ?_) (fun c11 => g_r1 ?_))
          · replace c11 : mbe (M 28) (M 29) (M 30) (M 31) i.toNat lx.toNat := c11
            have hme_ : (mbe (M 28) (M 29) (M 30) (M 31)) i.toNat lx.toNat := c11
            refine g_if_eq (pc := 34) (tgt := 79) hK dd_X8_findsNext_34 (by decide) (by decide) (fun c12 => absurd c12 (by decide)) (fun _ => ?_)
            refine g_aloadn (pc := 37) (i := 0) (x := 27) hK dd_X8_findsNext_37 rfl rfl ?_
            refine g_getv (pc := 38) (f := (1, 6)) (j := 6) (v := gR 33) hK (kdm kd_27) rfl ef_8 (by decide) rfl kk_203 dd_X8_findsNext_38 rfl ?_
            refine g_iloadn (pc := 41) (i := 3) (x := lx) hK dd_X8_findsNext_41 rfl rfl ?_
            refine g_iloadn (pc := 42) (i := 1) (x := i) hK dd_X8_findsNext_42 rfl rfl ?_
            refine g_iast (pc := 43) hK (kdm kd_33) nl_33 (by decide) (by decide) dd_X8_findsNext_43 (by omega) (by omega) ⟨by omega, by omega⟩ ?_
            refine g_mem (M2 := sr M 33 (us Tg lx.toNat i)) (by simp (disch := decide) only [Int.reduceToNat, up_sr, sr_cp, sr_k, sr_o, sr_sr, us_us, @sr_lt _ 33 32 _ _ (by decide)]; try rfl) ?_
            have htr2_ : 11 ≤ trd (us Tg lx.toNat i) (M 27 4).toNat := by rw [trd_us (by omega) (by omega) (by omega)]; omega
            refine g_aloadn (pc := 44) (i := 0) (x := 27) hK dd_X8_findsNext_44 rfl rfl ?_
            refine g_getv (pc := 45) (f := (1, 5)) (j := 5) (v := gR 32) hK (kdm kd_27) rfl ef_8 (by decide) rfl kk_202 dd_X8_findsNext_45 rfl ?_
            refine g_iloadn (pc := 48) (i := 3) (x := lx) hK dd_X8_findsNext_48 rfl rfl ?_
            refine g_iald (pc := 49) hK (kdm kd_32) nl_32 (by decide) dd_X8_findsNext_49 (by omega) (by omega) (fun x13 ex13 rx13 => ?_)
            replace ex13 : x13 = M 32 lx.toNat := ex13
            refine g_iconst (pc := 50) (x := (-1)) hK dd_X8_findsNext_50 (by decide) ?_
            refine g_icmp_eq (pc := 51) (tgt := 70) hK dd_X8_findsNext_51 (by decide) rx13 (by decide) (fun c14 => ?_) (fun c14 => ?_)
            · skip
              refine g_aloadn (pc := 70) (i := 0) (x := 27) hK dd_X8_findsNext_70 rfl rfl ?_
              refine g_getv (pc := 71) (f := (1, 5)) (j := 5) (v := gR 32) hK (kdm kd_27) rfl ef_8 (by decide) rfl kk_202 dd_X8_findsNext_71 rfl ?_
              refine g_iloadn (pc := 74) (i := 3) (x := lx) hK dd_X8_findsNext_74 rfl rfl ?_
              refine g_iloadn (pc := 75) (i := 1) (x := i) hK dd_X8_findsNext_75 rfl rfl ?_
              refine g_iast (pc := 76) hK (kdm kd_32) nl_32 (by decide) (by decide) dd_X8_findsNext_76 (by omega) (by omega) ⟨by omega, by omega⟩ ?_
              refine g_iconst (pc := 77) (x := 1) hK dd_X8_findsNext_77 (by decide) ?_
              refine g_iret (pc := 78) hK hr hlocks dd_X8_findsNext_78 rfl ?_
              first | exact g_fin (hT (us (M 32) lx.toNat i) (us Tg lx.toNat i) (by exact aug_base (by omega) ⟨hi.1, by omega⟩ hv hsr_ (by omega) hme_ (by omega))) (by first | rfl | omega | (subst_vars; first | rfl | omega)) (by simp (disch := decide) only [Int.reduceToNat, up_sr, sr_cp, sr_k, sr_o, sr_sr, us_us, @sr_lt _ 33 32 _ _ (by decide)]; try rfl) | (exfalso; omega)
            · have hvl_ := hv lx.toNat (by omega)
              refine g_aloadn (pc := 54) (i := 0) (x := 27) hK dd_X8_findsNext_54 rfl rfl ?_
              refine g_aloadn (pc := 55) (i := 0) (x := 27) hK dd_X8_findsNext_55 rfl rfl ?_
              refine g_getv (pc := 56) (f := (1, 5)) (j := 5) (v := gR 32) hK (kdm kd_27) rfl ef_8 (by decide) rfl kk_202 dd_X8_findsNext_56 rfl ?_
              refine g_iloadn (pc := 59) (i := 3) (x := lx) hK dd_X8_findsNext_59 rfl rfl ?_
              refine g_iald (pc := 60) hK (kdm kd_32) nl_32 (by decide) dd_X8_findsNext_60 (by omega) (by omega) (fun x15 ex15 rx15 => ?_)
              replace ex15 : x15 = M 32 lx.toNat := ex15
              skip
              refine g_iloadn (pc := 61) (i := 2) (x := 10) hK dd_X8_findsNext_61 rfl rfl ?_
              refine g_iconst (pc := 62) (x := 1) hK dd_X8_findsNext_62 (by decide) ?_
              refine g_iadd (pc := 63) (z := 11) hK dd_X8_findsNext_63 rfl ?_
              refine g_callT (pc := 64) (As := [gR 27, gI x15, gI 11]) hK ws_Sightings_47 md_X8_findsNext ⟨Nat.zero_le _, Nat.zero_le _⟩ ⟨by decide, by decide⟩ dd_X8_findsNext_64 rfl rfl (Nat.le_of_ble_eq_true rfl) (c_fn11 x15 (show 0 ≤ x15 ∧ x15 < M 27 4 by omega) hsc hv htr2_ (fun B16 T17 c18 => g_r1 ?_) (fun T19 c20 => g_r1 ?_))
              · replace c18 : Aug (M 27 4).toNat (mbe (M 28) (M 29) (M 30) (M 31)) x15 (M 32) ((us Tg lx.toNat i)) B16 := c18
                refine g_mem (M2 := sr (sr M 32 B16) 33 T17) (by simp (disch := decide) only [Int.reduceToNat, up_sr, sr_cp, sr_k, sr_o, sr_sr, us_us, @sr_lt _ 33 32 _ _ (by decide)]; try rfl) ?_
                have haug_ : Aug (M 27 4).toNat (mbe (M 28) (M 29) (M 30) (M 31)) (M 32 lx.toNat) (M 32) (us Tg lx.toNat i) B16 := by rw [← ex15]; exact c18
                refine g_if_eq (pc := 67) (tgt := 79) hK dd_X8_findsNext_67 (by decide) (by decide) (fun c21 => absurd c21 (by decide)) (fun _ => ?_)
                skip
                refine g_aloadn (pc := 70) (i := 0) (x := 27) hK dd_X8_findsNext_70 rfl rfl ?_
                refine g_getv (pc := 71) (f := (1, 5)) (j := 5) (v := gR 32) hK (kdm kd_27) rfl ef_8 (by decide) rfl kk_202 dd_X8_findsNext_71 rfl ?_
                refine g_iloadn (pc := 74) (i := 3) (x := lx) hK dd_X8_findsNext_74 rfl rfl ?_
                refine g_iloadn (pc := 75) (i := 1) (x := i) hK dd_X8_findsNext_75 rfl rfl ?_
                refine g_iast (pc := 76) hK (kdm kd_32) nl_32 (by decide) (by decide) dd_X8_findsNext_76 (by omega) (by omega) ⟨by omega, by omega⟩ ?_
                refine g_iconst (pc := 77) (x := 1) hK dd_X8_findsNext_77 (by decide) ?_
                refine g_iret (pc := 78) hK hr hlocks dd_X8_findsNext_78 rfl ?_
                first | exact g_fin (hT (us B16 lx.toNat i) T17 (by exact aug_rec (by omega) ⟨hi.1, by omega⟩ hv hsr_ (by omega) hme_ (by omega) haug_)) (by first | rfl | omega | (subst_vars; first | rfl | omega)) (by simp (disch := decide) only [Int.reduceToNat, up_sr, sr_cp, sr_k, sr_o, sr_sr, us_us, @sr_lt _ 33 32 _ _ (by decide)]; try rfl) | (exfalso; omega)
              · replace c20 : Nno (M 27 4).toNat (mbe (M 28) (M 29) (M 30) (M 31)) x15 (M 32) ((us Tg lx.toNat i)) T19 := c20
                refine g_mem (M2 := sr M 33 T19) (by simp (disch := decide) only [Int.reduceToNat, up_sr, sr_cp, sr_k, sr_o, sr_sr, us_us, @sr_lt _ 33 32 _ _ (by decide)]; try rfl) ?_
                have hnno_ : Nno (M 27 4).toNat (mbe (M 28) (M 29) (M 30) (M 31)) (M 32 lx.toNat) (M 32) (us Tg lx.toNat i) T19 := by rw [← ex15]; exact c20
                refine g_if_eq (pc := 67) (tgt := 79) hK dd_X8_findsNext_67 (by decide) (by decide) (fun _ => ?_) (fun c22 => absurd (by decide) c22)
                have hsn_ : Sr (M 27 4).toNat (mbe (M 28) (M 29) (M 30) (M 31)) i (M 32) (M 33) (lx.toNat + 1) T19 := sr_rec (by omega) hi.1 hsr_ (by omega) hnno_
                refine g_iinc (pc := 79) (i := 3) (y := lx + 1) (L' := [(0, gR 27), (1, gI i), (2, gI 10), (3, gI (lx + 1))]) hK dd_X8_findsNext_79 rfl rfl (by decide) rfl ?_
                refine g_goto (pc := 82) (tgt := 10) hK dd_X8_findsNext_82 (by decide) ?_
                refine g_sub (L' := [(0, gR 27), (1, gI i), (2, gI 10), (3, gI (lx + 1))]) [0, 1, 2, 3] rfl ?_
                refine g_mem (M2 := sr M 33 T19) (by first | rfl | (simp (disch := decide) only [Int.reduceToNat, up_sr, sr_cp, sr_k, sr_o, sr_sr, us_us, @sr_lt _ 33 32 _ _ (by decide)]; try rfl)) ?_
                exact ih3 (lx + 1) T19 (by omega) (by rw [tn1 (by omega)]; exact hsn_) (Nat.le_trans htr (trd_mono hsn_.1)) (by omega)
          · replace c11 : ¬ (mbe (M 28) (M 29) (M 30) (M 31) i.toNat lx.toNat) := c11
            have hme_ : ¬ (mbe (M 28) (M 29) (M 30) (M 31)) i.toNat lx.toNat := c11
            refine g_if_eq (pc := 34) (tgt := 79) hK dd_X8_findsNext_34 (by decide) (by decide) (fun _ => ?_) (fun c23 => absurd (by decide) c23)
            have hsn_ : Sr (M 27 4).toNat (mbe (M 28) (M 29) (M 30) (M 31)) i (M 32) (M 33) (lx.toNat + 1) Tg := sr_next hsr_ (Or.inr hme_)
            refine g_iinc (pc := 79) (i := 3) (y := lx + 1) (L' := [(0, gR 27), (1, gI i), (2, gI 10), (3, gI (lx + 1))]) hK dd_X8_findsNext_79 rfl rfl (by decide) rfl ?_
            refine g_goto (pc := 82) (tgt := 10) hK dd_X8_findsNext_82 (by decide) ?_
            refine g_sub (L' := [(0, gR 27), (1, gI i), (2, gI 10), (3, gI (lx + 1))]) [0, 1, 2, 3] rfl ?_
            refine g_mem (M2 := sr M 33 Tg) (by first | rfl | (simp (disch := decide) only [Int.reduceToNat, up_sr, sr_cp, sr_k, sr_o, sr_sr, us_us, @sr_lt _ 33 32 _ _ (by decide)]; try rfl)) ?_
            exact ih3 (lx + 1) Tg (by omega) (by rw [tn1 (by omega)]; exact hsn_) (Nat.le_trans htr (trd_mono hsn_.1)) (by omega)
  refine g_mem (M2 := sr M 33 (M 33)) (sr_self.symm) ?_
  refine g_sub (L' := [(0, gR 27), (1, gI i), (2, gI 10), (3, gI 0)]) [0, 1, 2, 3] rfl ?_
  exact lp4 _ 0 (M 33) (by omega) (sr0) (htr) (Nat.lt_succ_self _)
set_option maxHeartbeats 4000000 in
set_option maxRecDepth 100000 in
theorem c_fn9 {l : Launch} {M : Mem} {Pq : Option gV → Mem → Prop} (i : Int) (hi : 0 ≤ i ∧ i < M 27 4) (hsc : 0 ≤ M 27 4 ∧ M 27 4 ≤ 20) (hv : Vl (M 27 4).toNat (mbe (M 28) (M 29) (M 30) (M 31)) (M 32)) (htr : 9 ≤ trd (M 33) (M 27 4).toNat) (hT : ∀ (B1 : Nat → Int) (T1 : Nat → Int), (Aug (M 27 4).toNat (mbe (M 28) (M 29) (M 30) (M 31)) i (M 32) (M 33) B1) → Pq (some (gI 1)) (sr (sr M 32 B1) 33 T1)) (hF : ∀ (T1 : Nat → Int), (Nno (M 27 4).toNat (mbe (M 28) (M 29) (M 30) (M 31)) i (M 32) (M 33) T1) → Pq (some (gI 0)) (sr M 33 T1)) : gCtr l my_X8_findsNext mb_X8_findsNext 4 ((some .boolean)) 12 [gR 27, gI i, gI 9] M Pq := by
  refine g_intro (by decide) (Nat.le_of_ble_eq_true rfl) ?_
  intro p e s m args below meth c D cy q A hK hr hlocks hw
  refine g_sub (L' := [(0, gR 27), (1, gI i), (2, gI 9)]) [0, 1, 2] rfl ?_
  refine g_iloadn (pc := 0) (i := 2) (x := 9) hK dd_X8_findsNext_0 rfl rfl ?_
  refine g_bipush (pc := 1) (x := 20) hK dd_X8_findsNext_1 (by decide) ?_
  refine g_icmp_le (pc := 3) (tgt := 8) hK dd_X8_findsNext_3 (by decide) (by decide) (by decide) (fun _ => ?_) (fun c1 => absurd (by decide) c1)
  refine g_iconst (pc := 8) (x := 0) hK dd_X8_findsNext_8 (by decide) ?_
  refine g_istoren (pc := 9) (i := 3) (L' := [(0, gR 27), (1, gI i), (2, gI 9), (3, gI 0)]) hK dd_X8_findsNext_9 rfl (by decide) rfl ?_
  have lp4 : ∀ (n2 : Nat) (lx : Int) (Tg : Nat → Int), (0 ≤ lx ∧ lx ≤ M 27 4) → (Sr (M 27 4).toNat (mbe (M 28) (M 29) (M 30) (M 31)) i (M 32) (M 33) lx.toNat Tg) → (9 ≤ trd Tg (M 27 4).toNat) → (M 27 4 - lx).toNat < n2 → G p l e (rmD 12) s m args below meth c D cy q A 0 0 4 (MQ below (gQc D cy q A Pq) args s 0 0 A) 10 [(0, gR 27), (1, gI i), (2, gI 9), (3, gI lx)] [] (sr M 33 Tg) := by
    intro n2
    induction n2 with
    | zero => intro lx Tg iv5 hsr_ htr_ hm6; exact absurd hm6 (Nat.not_lt_zero _)
    | succ n2 ih3 =>
      intro lx Tg iv5 hsr_ htr_ hm6
      refine g_iloadn (pc := 10) (i := 3) (x := lx) hK dd_X8_findsNext_10 rfl rfl ?_
      refine g_aloadn (pc := 11) (i := 0) (x := 27) hK dd_X8_findsNext_11 rfl rfl ?_
      refine g_geti (pc := 12) (f := (0, 0)) (j := 4) hK (kdm kd_27) rfl ef_8 (by decide) rfl kk_200 nl_27 dd_X8_findsNext_12 rfl (fun x7 ex7 rx7 => ?_)
      replace ex7 : x7 = M 27 4 := ex7
      refine g_icmp_ge (pc := 15) (tgt := 85) hK dd_X8_findsNext_15 (by decide) ⟨by omega, by omega⟩ rx7 (fun c8 => ?_) (fun c8 => ?_)
      · refine g_iconst (pc := 85) (x := 0) hK dd_X8_findsNext_85 (by decide) ?_
        refine g_iret (pc := 86) hK hr hlocks dd_X8_findsNext_86 rfl ?_
        first | exact g_fin (hF Tg (by exact sr_end hsr_ (by omega))) (by first | rfl | omega | (subst_vars; first | rfl | omega)) (rfl) | (exfalso; omega)
      · refine g_aloadn (pc := 18) (i := 0) (x := 27) hK dd_X8_findsNext_18 rfl rfl ?_
        refine g_getv (pc := 19) (f := (1, 6)) (j := 6) (v := gR 33) hK (kdm kd_27) rfl ef_8 (by decide) rfl kk_203 dd_X8_findsNext_19 rfl ?_
        refine g_iloadn (pc := 22) (i := 3) (x := lx) hK dd_X8_findsNext_22 rfl rfl ?_
        refine g_iald (pc := 23) hK (kdm kd_33) nl_33 (by decide) dd_X8_findsNext_23 (by omega) (by omega) (fun x9 ex9 rx9 => ?_)
        replace ex9 : x9 = Tg lx.toNat := by first | exact ex9 | (rw [ex9]; simp [up, us, cp, sr])
        refine g_iconst (pc := 24) (x := (-1)) hK dd_X8_findsNext_24 (by decide) ?_
        refine g_icmp_ne (pc := 25) (tgt := 79) hK dd_X8_findsNext_25 (by decide) rx9 (by decide) (fun c10 => ?_) (fun c10 => ?_)
        · have hsn_ : Sr (M 27 4).toNat (mbe (M 28) (M 29) (M 30) (M 31)) i (M 32) (M 33) (lx.toNat + 1) Tg := sr_next hsr_ (Or.inl (by omega))
          refine g_iinc (pc := 79) (i := 3) (y := lx + 1) (L' := [(0, gR 27), (1, gI i), (2, gI 9), (3, gI (lx + 1))]) hK dd_X8_findsNext_79 rfl rfl (by decide) rfl ?_
          refine g_goto (pc := 82) (tgt := 10) hK dd_X8_findsNext_82 (by decide) ?_
          refine g_sub (L' := [(0, gR 27), (1, gI i), (2, gI 9), (3, gI (lx + 1))]) [0, 1, 2, 3] rfl ?_
          refine g_mem (M2 := sr M 33 Tg) (by first | rfl | (simp (disch := decide) only [Int.reduceToNat, up_sr, sr_cp, sr_k, sr_o, sr_sr, us_us, @sr_lt _ 33 32 _ _ (by decide)]; try rfl)) ?_
          exact ih3 (lx + 1) Tg (by omega) (by rw [tn1 (by omega)]; exact hsn_) (Nat.le_trans htr (trd_mono hsn_.1)) (by omega)
        · have hlt_ := trd_lt (T := Tg) (n := (M 27 4).toNat) (l := lx.toNat) (by omega) (by omega)
          refine g_aloadn (pc := 28) (i := 0) (x := 27) hK dd_X8_findsNext_28 rfl rfl ?_
          refine g_iloadn (pc := 29) (i := 1) (x := i) hK dd_X8_findsNext_29 rfl rfl ?_
          refine g_iloadn (pc := 30) (i := 3) (x := lx) hK dd_X8_findsNext_30 rfl rfl ?_
          refine g_callV (pc := 31) (As := [gI i, gI lx]) hK ws_Sightings_51 md_X8_mayBeOf ⟨Nat.zero_le _, Nat.zero_le _⟩ ⟨by decide, by decide⟩ (kdm kd_27) rfl rfl dd_X8_findsNext_31 rfl rfl (Nat.le_of_ble_eq_true rfl) (c_mayBeOf i lx (show 0 ≤ i ∧ i < 20 by omega) (show 0 ≤ lx ∧ lx < 20 by omega) (fun c11 => g_r1 ?_) (fun c11 => g_r1 ?_))
          · replace c11 : mbe (M 28) (M 29) (M 30) (M 31) i.toNat lx.toNat := c11
            have hme_ : (mbe (M 28) (M 29) (M 30) (M 31)) i.toNat lx.toNat := c11
            refine g_if_eq (pc := 34) (tgt := 79) hK dd_X8_findsNext_34 (by decide) (by decide) (fun c12 => absurd c12 (by decide)) (fun _ => ?_)
            refine g_aloadn (pc := 37) (i := 0) (x := 27) hK dd_X8_findsNext_37 rfl rfl ?_
            refine g_getv (pc := 38) (f := (1, 6)) (j := 6) (v := gR 33) hK (kdm kd_27) rfl ef_8 (by decide) rfl kk_203 dd_X8_findsNext_38 rfl ?_
            refine g_iloadn (pc := 41) (i := 3) (x := lx) hK dd_X8_findsNext_41 rfl rfl ?_
            refine g_iloadn (pc := 42) (i := 1) (x := i) hK dd_X8_findsNext_42 rfl rfl ?_
            refine g_iast (pc := 43) hK (kdm kd_33) nl_33 (by decide) (by decide) dd_X8_findsNext_43 (by omega) (by omega) ⟨by omega, by omega⟩ ?_
            refine g_mem (M2 := sr M 33 (us Tg lx.toNat i)) (by simp (disch := decide) only [Int.reduceToNat, up_sr, sr_cp, sr_k, sr_o, sr_sr, us_us, @sr_lt _ 33 32 _ _ (by decide)]; try rfl) ?_
            have htr2_ : 10 ≤ trd (us Tg lx.toNat i) (M 27 4).toNat := by rw [trd_us (by omega) (by omega) (by omega)]; omega
            refine g_aloadn (pc := 44) (i := 0) (x := 27) hK dd_X8_findsNext_44 rfl rfl ?_
            refine g_getv (pc := 45) (f := (1, 5)) (j := 5) (v := gR 32) hK (kdm kd_27) rfl ef_8 (by decide) rfl kk_202 dd_X8_findsNext_45 rfl ?_
            refine g_iloadn (pc := 48) (i := 3) (x := lx) hK dd_X8_findsNext_48 rfl rfl ?_
            refine g_iald (pc := 49) hK (kdm kd_32) nl_32 (by decide) dd_X8_findsNext_49 (by omega) (by omega) (fun x13 ex13 rx13 => ?_)
            replace ex13 : x13 = M 32 lx.toNat := ex13
            refine g_iconst (pc := 50) (x := (-1)) hK dd_X8_findsNext_50 (by decide) ?_
            refine g_icmp_eq (pc := 51) (tgt := 70) hK dd_X8_findsNext_51 (by decide) rx13 (by decide) (fun c14 => ?_) (fun c14 => ?_)
            · skip
              refine g_aloadn (pc := 70) (i := 0) (x := 27) hK dd_X8_findsNext_70 rfl rfl ?_
              refine g_getv (pc := 71) (f := (1, 5)) (j := 5) (v := gR 32) hK (kdm kd_27) rfl ef_8 (by decide) rfl kk_202 dd_X8_findsNext_71 rfl ?_
              refine g_iloadn (pc := 74) (i := 3) (x := lx) hK dd_X8_findsNext_74 rfl rfl ?_
              refine g_iloadn (pc := 75) (i := 1) (x := i) hK dd_X8_findsNext_75 rfl rfl ?_
              refine g_iast (pc := 76) hK (kdm kd_32) nl_32 (by decide) (by decide) dd_X8_findsNext_76 (by omega) (by omega) ⟨by omega, by omega⟩ ?_
              refine g_iconst (pc := 77) (x := 1) hK dd_X8_findsNext_77 (by decide) ?_
              refine g_iret (pc := 78) hK hr hlocks dd_X8_findsNext_78 rfl ?_
              first | exact g_fin (hT (us (M 32) lx.toNat i) (us Tg lx.toNat i) (by exact aug_base (by omega) ⟨hi.1, by omega⟩ hv hsr_ (by omega) hme_ (by omega))) (by first | rfl | omega | (subst_vars; first | rfl | omega)) (by simp (disch := decide) only [Int.reduceToNat, up_sr, sr_cp, sr_k, sr_o, sr_sr, us_us, @sr_lt _ 33 32 _ _ (by decide)]; try rfl) | (exfalso; omega)
            · have hvl_ := hv lx.toNat (by omega)
              refine g_aloadn (pc := 54) (i := 0) (x := 27) hK dd_X8_findsNext_54 rfl rfl ?_
              refine g_aloadn (pc := 55) (i := 0) (x := 27) hK dd_X8_findsNext_55 rfl rfl ?_
              refine g_getv (pc := 56) (f := (1, 5)) (j := 5) (v := gR 32) hK (kdm kd_27) rfl ef_8 (by decide) rfl kk_202 dd_X8_findsNext_56 rfl ?_
              refine g_iloadn (pc := 59) (i := 3) (x := lx) hK dd_X8_findsNext_59 rfl rfl ?_
              refine g_iald (pc := 60) hK (kdm kd_32) nl_32 (by decide) dd_X8_findsNext_60 (by omega) (by omega) (fun x15 ex15 rx15 => ?_)
              replace ex15 : x15 = M 32 lx.toNat := ex15
              skip
              refine g_iloadn (pc := 61) (i := 2) (x := 9) hK dd_X8_findsNext_61 rfl rfl ?_
              refine g_iconst (pc := 62) (x := 1) hK dd_X8_findsNext_62 (by decide) ?_
              refine g_iadd (pc := 63) (z := 10) hK dd_X8_findsNext_63 rfl ?_
              refine g_callT (pc := 64) (As := [gR 27, gI x15, gI 10]) hK ws_Sightings_47 md_X8_findsNext ⟨Nat.zero_le _, Nat.zero_le _⟩ ⟨by decide, by decide⟩ dd_X8_findsNext_64 rfl rfl (Nat.le_of_ble_eq_true rfl) (c_fn10 x15 (show 0 ≤ x15 ∧ x15 < M 27 4 by omega) hsc hv htr2_ (fun B16 T17 c18 => g_r1 ?_) (fun T19 c20 => g_r1 ?_))
              · replace c18 : Aug (M 27 4).toNat (mbe (M 28) (M 29) (M 30) (M 31)) x15 (M 32) ((us Tg lx.toNat i)) B16 := c18
                refine g_mem (M2 := sr (sr M 32 B16) 33 T17) (by simp (disch := decide) only [Int.reduceToNat, up_sr, sr_cp, sr_k, sr_o, sr_sr, us_us, @sr_lt _ 33 32 _ _ (by decide)]; try rfl) ?_
                have haug_ : Aug (M 27 4).toNat (mbe (M 28) (M 29) (M 30) (M 31)) (M 32 lx.toNat) (M 32) (us Tg lx.toNat i) B16 := by rw [← ex15]; exact c18
                refine g_if_eq (pc := 67) (tgt := 79) hK dd_X8_findsNext_67 (by decide) (by decide) (fun c21 => absurd c21 (by decide)) (fun _ => ?_)
                skip
                refine g_aloadn (pc := 70) (i := 0) (x := 27) hK dd_X8_findsNext_70 rfl rfl ?_
                refine g_getv (pc := 71) (f := (1, 5)) (j := 5) (v := gR 32) hK (kdm kd_27) rfl ef_8 (by decide) rfl kk_202 dd_X8_findsNext_71 rfl ?_
                refine g_iloadn (pc := 74) (i := 3) (x := lx) hK dd_X8_findsNext_74 rfl rfl ?_
                refine g_iloadn (pc := 75) (i := 1) (x := i) hK dd_X8_findsNext_75 rfl rfl ?_
                refine g_iast (pc := 76) hK (kdm kd_32) nl_32 (by decide) (by decide) dd_X8_findsNext_76 (by omega) (by omega) ⟨by omega, by omega⟩ ?_
                refine g_iconst (pc := 77) (x := 1) hK dd_X8_findsNext_77 (by decide) ?_
                refine g_iret (pc := 78) hK hr hlocks dd_X8_findsNext_78 rfl ?_
                first | exact g_fin (hT (us B16 lx.toNat i) T17 (by exact aug_rec (by omega) ⟨hi.1, by omega⟩ hv hsr_ (by omega) hme_ (by omega) haug_)) (by first | rfl | omega | (subst_vars; first | rfl | omega)) (by simp (disch := decide) only [Int.reduceToNat, up_sr, sr_cp, sr_k, sr_o, sr_sr, us_us, @sr_lt _ 33 32 _ _ (by decide)]; try rfl) | (exfalso; omega)
              · replace c20 : Nno (M 27 4).toNat (mbe (M 28) (M 29) (M 30) (M 31)) x15 (M 32) ((us Tg lx.toNat i)) T19 := c20
                refine g_mem (M2 := sr M 33 T19) (by simp (disch := decide) only [Int.reduceToNat, up_sr, sr_cp, sr_k, sr_o, sr_sr, us_us, @sr_lt _ 33 32 _ _ (by decide)]; try rfl) ?_
                have hnno_ : Nno (M 27 4).toNat (mbe (M 28) (M 29) (M 30) (M 31)) (M 32 lx.toNat) (M 32) (us Tg lx.toNat i) T19 := by rw [← ex15]; exact c20
                refine g_if_eq (pc := 67) (tgt := 79) hK dd_X8_findsNext_67 (by decide) (by decide) (fun _ => ?_) (fun c22 => absurd (by decide) c22)
                have hsn_ : Sr (M 27 4).toNat (mbe (M 28) (M 29) (M 30) (M 31)) i (M 32) (M 33) (lx.toNat + 1) T19 := sr_rec (by omega) hi.1 hsr_ (by omega) hnno_
                refine g_iinc (pc := 79) (i := 3) (y := lx + 1) (L' := [(0, gR 27), (1, gI i), (2, gI 9), (3, gI (lx + 1))]) hK dd_X8_findsNext_79 rfl rfl (by decide) rfl ?_
                refine g_goto (pc := 82) (tgt := 10) hK dd_X8_findsNext_82 (by decide) ?_
                refine g_sub (L' := [(0, gR 27), (1, gI i), (2, gI 9), (3, gI (lx + 1))]) [0, 1, 2, 3] rfl ?_
                refine g_mem (M2 := sr M 33 T19) (by first | rfl | (simp (disch := decide) only [Int.reduceToNat, up_sr, sr_cp, sr_k, sr_o, sr_sr, us_us, @sr_lt _ 33 32 _ _ (by decide)]; try rfl)) ?_
                exact ih3 (lx + 1) T19 (by omega) (by rw [tn1 (by omega)]; exact hsn_) (Nat.le_trans htr (trd_mono hsn_.1)) (by omega)
          · replace c11 : ¬ (mbe (M 28) (M 29) (M 30) (M 31) i.toNat lx.toNat) := c11
            have hme_ : ¬ (mbe (M 28) (M 29) (M 30) (M 31)) i.toNat lx.toNat := c11
            refine g_if_eq (pc := 34) (tgt := 79) hK dd_X8_findsNext_34 (by decide) (by decide) (fun _ => ?_) (fun c23 => absurd (by decide) c23)
            have hsn_ : Sr (M 27 4).toNat (mbe (M 28) (M 29) (M 30) (M 31)) i (M 32) (M 33) (lx.toNat + 1) Tg := sr_next hsr_ (Or.inr hme_)
            refine g_iinc (pc := 79) (i := 3) (y := lx + 1) (L' := [(0, gR 27), (1, gI i), (2, gI 9), (3, gI (lx + 1))]) hK dd_X8_findsNext_79 rfl rfl (by decide) rfl ?_
            refine g_goto (pc := 82) (tgt := 10) hK dd_X8_findsNext_82 (by decide) ?_
            refine g_sub (L' := [(0, gR 27), (1, gI i), (2, gI 9), (3, gI (lx + 1))]) [0, 1, 2, 3] rfl ?_
            refine g_mem (M2 := sr M 33 Tg) (by first | rfl | (simp (disch := decide) only [Int.reduceToNat, up_sr, sr_cp, sr_k, sr_o, sr_sr, us_us, @sr_lt _ 33 32 _ _ (by decide)]; try rfl)) ?_
            exact ih3 (lx + 1) Tg (by omega) (by rw [tn1 (by omega)]; exact hsn_) (Nat.le_trans htr (trd_mono hsn_.1)) (by omega)
  refine g_mem (M2 := sr M 33 (M 33)) (sr_self.symm) ?_
  refine g_sub (L' := [(0, gR 27), (1, gI i), (2, gI 9), (3, gI 0)]) [0, 1, 2, 3] rfl ?_
  exact lp4 _ 0 (M 33) (by omega) (sr0) (htr) (Nat.lt_succ_self _)
set_option maxHeartbeats 4000000 in
set_option maxRecDepth 100000 in
theorem c_fn8 {l : Launch} {M : Mem} {Pq : Option gV → Mem → Prop} (i : Int) (hi : 0 ≤ i ∧ i < M 27 4) (hsc : 0 ≤ M 27 4 ∧ M 27 4 ≤ 20) (hv : Vl (M 27 4).toNat (mbe (M 28) (M 29) (M 30) (M 31)) (M 32)) (htr : 8 ≤ trd (M 33) (M 27 4).toNat) (hT : ∀ (B1 : Nat → Int) (T1 : Nat → Int), (Aug (M 27 4).toNat (mbe (M 28) (M 29) (M 30) (M 31)) i (M 32) (M 33) B1) → Pq (some (gI 1)) (sr (sr M 32 B1) 33 T1)) (hF : ∀ (T1 : Nat → Int), (Nno (M 27 4).toNat (mbe (M 28) (M 29) (M 30) (M 31)) i (M 32) (M 33) T1) → Pq (some (gI 0)) (sr M 33 T1)) : gCtr l my_X8_findsNext mb_X8_findsNext 4 ((some .boolean)) 13 [gR 27, gI i, gI 8] M Pq := by
  refine g_intro (by decide) (Nat.le_of_ble_eq_true rfl) ?_
  intro p e s m args below meth c D cy q A hK hr hlocks hw
  refine g_sub (L' := [(0, gR 27), (1, gI i), (2, gI 8)]) [0, 1, 2] rfl ?_
  refine g_iloadn (pc := 0) (i := 2) (x := 8) hK dd_X8_findsNext_0 rfl rfl ?_
  refine g_bipush (pc := 1) (x := 20) hK dd_X8_findsNext_1 (by decide) ?_
  refine g_icmp_le (pc := 3) (tgt := 8) hK dd_X8_findsNext_3 (by decide) (by decide) (by decide) (fun _ => ?_) (fun c1 => absurd (by decide) c1)
  refine g_iconst (pc := 8) (x := 0) hK dd_X8_findsNext_8 (by decide) ?_
  refine g_istoren (pc := 9) (i := 3) (L' := [(0, gR 27), (1, gI i), (2, gI 8), (3, gI 0)]) hK dd_X8_findsNext_9 rfl (by decide) rfl ?_
  have lp4 : ∀ (n2 : Nat) (lx : Int) (Tg : Nat → Int), (0 ≤ lx ∧ lx ≤ M 27 4) → (Sr (M 27 4).toNat (mbe (M 28) (M 29) (M 30) (M 31)) i (M 32) (M 33) lx.toNat Tg) → (8 ≤ trd Tg (M 27 4).toNat) → (M 27 4 - lx).toNat < n2 → G p l e (rmD 13) s m args below meth c D cy q A 0 0 4 (MQ below (gQc D cy q A Pq) args s 0 0 A) 10 [(0, gR 27), (1, gI i), (2, gI 8), (3, gI lx)] [] (sr M 33 Tg) := by
    intro n2
    induction n2 with
    | zero => intro lx Tg iv5 hsr_ htr_ hm6; exact absurd hm6 (Nat.not_lt_zero _)
    | succ n2 ih3 =>
      intro lx Tg iv5 hsr_ htr_ hm6
      refine g_iloadn (pc := 10) (i := 3) (x := lx) hK dd_X8_findsNext_10 rfl rfl ?_
      refine g_aloadn (pc := 11) (i := 0) (x := 27) hK dd_X8_findsNext_11 rfl rfl ?_
      refine g_geti (pc := 12) (f := (0, 0)) (j := 4) hK (kdm kd_27) rfl ef_8 (by decide) rfl kk_200 nl_27 dd_X8_findsNext_12 rfl (fun x7 ex7 rx7 => ?_)
      replace ex7 : x7 = M 27 4 := ex7
      refine g_icmp_ge (pc := 15) (tgt := 85) hK dd_X8_findsNext_15 (by decide) ⟨by omega, by omega⟩ rx7 (fun c8 => ?_) (fun c8 => ?_)
      · refine g_iconst (pc := 85) (x := 0) hK dd_X8_findsNext_85 (by decide) ?_
        refine g_iret (pc := 86) hK hr hlocks dd_X8_findsNext_86 rfl ?_
        first | exact g_fin (hF Tg (by exact sr_end hsr_ (by omega))) (by first | rfl | omega | (subst_vars; first | rfl | omega)) (rfl) | (exfalso; omega)
      · refine g_aloadn (pc := 18) (i := 0) (x := 27) hK dd_X8_findsNext_18 rfl rfl ?_
        refine g_getv (pc := 19) (f := (1, 6)) (j := 6) (v := gR 33) hK (kdm kd_27) rfl ef_8 (by decide) rfl kk_203 dd_X8_findsNext_19 rfl ?_
        refine g_iloadn (pc := 22) (i := 3) (x := lx) hK dd_X8_findsNext_22 rfl rfl ?_
        refine g_iald (pc := 23) hK (kdm kd_33) nl_33 (by decide) dd_X8_findsNext_23 (by omega) (by omega) (fun x9 ex9 rx9 => ?_)
        replace ex9 : x9 = Tg lx.toNat := by first | exact ex9 | (rw [ex9]; simp [up, us, cp, sr])
        refine g_iconst (pc := 24) (x := (-1)) hK dd_X8_findsNext_24 (by decide) ?_
        refine g_icmp_ne (pc := 25) (tgt := 79) hK dd_X8_findsNext_25 (by decide) rx9 (by decide) (fun c10 => ?_) (fun c10 => ?_)
        · have hsn_ : Sr (M 27 4).toNat (mbe (M 28) (M 29) (M 30) (M 31)) i (M 32) (M 33) (lx.toNat + 1) Tg := sr_next hsr_ (Or.inl (by omega))
          refine g_iinc (pc := 79) (i := 3) (y := lx + 1) (L' := [(0, gR 27), (1, gI i), (2, gI 8), (3, gI (lx + 1))]) hK dd_X8_findsNext_79 rfl rfl (by decide) rfl ?_
          refine g_goto (pc := 82) (tgt := 10) hK dd_X8_findsNext_82 (by decide) ?_
          refine g_sub (L' := [(0, gR 27), (1, gI i), (2, gI 8), (3, gI (lx + 1))]) [0, 1, 2, 3] rfl ?_
          refine g_mem (M2 := sr M 33 Tg) (by first | rfl | (simp (disch := decide) only [Int.reduceToNat, up_sr, sr_cp, sr_k, sr_o, sr_sr, us_us, @sr_lt _ 33 32 _ _ (by decide)]; try rfl)) ?_
          exact ih3 (lx + 1) Tg (by omega) (by rw [tn1 (by omega)]; exact hsn_) (Nat.le_trans htr (trd_mono hsn_.1)) (by omega)
        · have hlt_ := trd_lt (T := Tg) (n := (M 27 4).toNat) (l := lx.toNat) (by omega) (by omega)
          refine g_aloadn (pc := 28) (i := 0) (x := 27) hK dd_X8_findsNext_28 rfl rfl ?_
          refine g_iloadn (pc := 29) (i := 1) (x := i) hK dd_X8_findsNext_29 rfl rfl ?_
          refine g_iloadn (pc := 30) (i := 3) (x := lx) hK dd_X8_findsNext_30 rfl rfl ?_
          refine g_callV (pc := 31) (As := [gI i, gI lx]) hK ws_Sightings_51 md_X8_mayBeOf ⟨Nat.zero_le _, Nat.zero_le _⟩ ⟨by decide, by decide⟩ (kdm kd_27) rfl rfl dd_X8_findsNext_31 rfl rfl (Nat.le_of_ble_eq_true rfl) (c_mayBeOf i lx (show 0 ≤ i ∧ i < 20 by omega) (show 0 ≤ lx ∧ lx < 20 by omega) (fun c11 => g_r1 ?_) (fun c11 => g_r1 ?_))
          · replace c11 : mbe (M 28) (M 29) (M 30) (M 31) i.toNat lx.toNat := c11
            have hme_ : (mbe (M 28) (M 29) (M 30) (M 31)) i.toNat lx.toNat := c11
            refine g_if_eq (pc := 34) (tgt := 79) hK dd_X8_findsNext_34 (by decide) (by decide) (fun c12 => absurd c12 (by decide)) (fun _ => ?_)
            refine g_aloadn (pc := 37) (i := 0) (x := 27) hK dd_X8_findsNext_37 rfl rfl ?_
            refine g_getv (pc := 38) (f := (1, 6)) (j := 6) (v := gR 33) hK (kdm kd_27) rfl ef_8 (by decide) rfl kk_203 dd_X8_findsNext_38 rfl ?_
            refine g_iloadn (pc := 41) (i := 3) (x := lx) hK dd_X8_findsNext_41 rfl rfl ?_
            refine g_iloadn (pc := 42) (i := 1) (x := i) hK dd_X8_findsNext_42 rfl rfl ?_
            refine g_iast (pc := 43) hK (kdm kd_33) nl_33 (by decide) (by decide) dd_X8_findsNext_43 (by omega) (by omega) ⟨by omega, by omega⟩ ?_
            refine g_mem (M2 := sr M 33 (us Tg lx.toNat i)) (by simp (disch := decide) only [Int.reduceToNat, up_sr, sr_cp, sr_k, sr_o, sr_sr, us_us, @sr_lt _ 33 32 _ _ (by decide)]; try rfl) ?_
            have htr2_ : 9 ≤ trd (us Tg lx.toNat i) (M 27 4).toNat := by rw [trd_us (by omega) (by omega) (by omega)]; omega
            refine g_aloadn (pc := 44) (i := 0) (x := 27) hK dd_X8_findsNext_44 rfl rfl ?_
            refine g_getv (pc := 45) (f := (1, 5)) (j := 5) (v := gR 32) hK (kdm kd_27) rfl ef_8 (by decide) rfl kk_202 dd_X8_findsNext_45 rfl ?_
            refine g_iloadn (pc := 48) (i := 3) (x := lx) hK dd_X8_findsNext_48 rfl rfl ?_
            refine g_iald (pc := 49) hK (kdm kd_32) nl_32 (by decide) dd_X8_findsNext_49 (by omega) (by omega) (fun x13 ex13 rx13 => ?_)
            replace ex13 : x13 = M 32 lx.toNat := ex13
            refine g_iconst (pc := 50) (x := (-1)) hK dd_X8_findsNext_50 (by decide) ?_
            refine g_icmp_eq (pc := 51) (tgt := 70) hK dd_X8_findsNext_51 (by decide) rx13 (by decide) (fun c14 => ?_) (fun c14 => ?_)
            · skip
              refine g_aloadn (pc := 70) (i := 0) (x := 27) hK dd_X8_findsNext_70 rfl rfl ?_
              refine g_getv (pc := 71) (f := (1, 5)) (j := 5) (v := gR 32) hK (kdm kd_27) rfl ef_8 (by decide) rfl kk_202 dd_X8_findsNext_71 rfl ?_
              refine g_iloadn (pc := 74) (i := 3) (x := lx) hK dd_X8_findsNext_74 rfl rfl ?_
              refine g_iloadn (pc := 75) (i := 1) (x := i) hK dd_X8_findsNext_75 rfl rfl ?_
              refine g_iast (pc := 76) hK (kdm kd_32) nl_32 (by decide) (by decide) dd_X8_findsNext_76 (by omega) (by omega) ⟨by omega, by omega⟩ ?_
              refine g_iconst (pc := 77) (x := 1) hK dd_X8_findsNext_77 (by decide) ?_
              refine g_iret (pc := 78) hK hr hlocks dd_X8_findsNext_78 rfl ?_
              first | exact g_fin (hT (us (M 32) lx.toNat i) (us Tg lx.toNat i) (by exact aug_base (by omega) ⟨hi.1, by omega⟩ hv hsr_ (by omega) hme_ (by omega))) (by first | rfl | omega | (subst_vars; first | rfl | omega)) (by simp (disch := decide) only [Int.reduceToNat, up_sr, sr_cp, sr_k, sr_o, sr_sr, us_us, @sr_lt _ 33 32 _ _ (by decide)]; try rfl) | (exfalso; omega)
            · have hvl_ := hv lx.toNat (by omega)
              refine g_aloadn (pc := 54) (i := 0) (x := 27) hK dd_X8_findsNext_54 rfl rfl ?_
              refine g_aloadn (pc := 55) (i := 0) (x := 27) hK dd_X8_findsNext_55 rfl rfl ?_
              refine g_getv (pc := 56) (f := (1, 5)) (j := 5) (v := gR 32) hK (kdm kd_27) rfl ef_8 (by decide) rfl kk_202 dd_X8_findsNext_56 rfl ?_
              refine g_iloadn (pc := 59) (i := 3) (x := lx) hK dd_X8_findsNext_59 rfl rfl ?_
              refine g_iald (pc := 60) hK (kdm kd_32) nl_32 (by decide) dd_X8_findsNext_60 (by omega) (by omega) (fun x15 ex15 rx15 => ?_)
              replace ex15 : x15 = M 32 lx.toNat := ex15
              skip
              refine g_iloadn (pc := 61) (i := 2) (x := 8) hK dd_X8_findsNext_61 rfl rfl ?_
              refine g_iconst (pc := 62) (x := 1) hK dd_X8_findsNext_62 (by decide) ?_
              refine g_iadd (pc := 63) (z := 9) hK dd_X8_findsNext_63 rfl ?_
              refine g_callT (pc := 64) (As := [gR 27, gI x15, gI 9]) hK ws_Sightings_47 md_X8_findsNext ⟨Nat.zero_le _, Nat.zero_le _⟩ ⟨by decide, by decide⟩ dd_X8_findsNext_64 rfl rfl (Nat.le_of_ble_eq_true rfl) (c_fn9 x15 (show 0 ≤ x15 ∧ x15 < M 27 4 by omega) hsc hv htr2_ (fun B16 T17 c18 => g_r1 ?_) (fun T19 c20 => g_r1 ?_))
              · replace c18 : Aug (M 27 4).toNat (mbe (M 28) (M 29) (M 30) (M 31)) x15 (M 32) ((us Tg lx.toNat i)) B16 := c18
                refine g_mem (M2 := sr (sr M 32 B16) 33 T17) (by simp (disch := decide) only [Int.reduceToNat, up_sr, sr_cp, sr_k, sr_o, sr_sr, us_us, @sr_lt _ 33 32 _ _ (by decide)]; try rfl) ?_
                have haug_ : Aug (M 27 4).toNat (mbe (M 28) (M 29) (M 30) (M 31)) (M 32 lx.toNat) (M 32) (us Tg lx.toNat i) B16 := by rw [← ex15]; exact c18
                refine g_if_eq (pc := 67) (tgt := 79) hK dd_X8_findsNext_67 (by decide) (by decide) (fun c21 => absurd c21 (by decide)) (fun _ => ?_)
                skip
                refine g_aloadn (pc := 70) (i := 0) (x := 27) hK dd_X8_findsNext_70 rfl rfl ?_
                refine g_getv (pc := 71) (f := (1, 5)) (j := 5) (v := gR 32) hK (kdm kd_27) rfl ef_8 (by decide) rfl kk_202 dd_X8_findsNext_71 rfl ?_
                refine g_iloadn (pc := 74) (i := 3) (x := lx) hK dd_X8_findsNext_74 rfl rfl ?_
                refine g_iloadn (pc := 75) (i := 1) (x := i) hK dd_X8_findsNext_75 rfl rfl ?_
                refine g_iast (pc := 76) hK (kdm kd_32) nl_32 (by decide) (by decide) dd_X8_findsNext_76 (by omega) (by omega) ⟨by omega, by omega⟩ ?_
                refine g_iconst (pc := 77) (x := 1) hK dd_X8_findsNext_77 (by decide) ?_
                refine g_iret (pc := 78) hK hr hlocks dd_X8_findsNext_78 rfl ?_
                first | exact g_fin (hT (us B16 lx.toNat i) T17 (by exact aug_rec (by omega) ⟨hi.1, by omega⟩ hv hsr_ (by omega) hme_ (by omega) haug_)) (by first | rfl | omega | (subst_vars; first | rfl | omega)) (by simp (disch := decide) only [Int.reduceToNat, up_sr, sr_cp, sr_k, sr_o, sr_sr, us_us, @sr_lt _ 33 32 _ _ (by decide)]; try rfl) | (exfalso; omega)
              · replace c20 : Nno (M 27 4).toNat (mbe (M 28) (M 29) (M 30) (M 31)) x15 (M 32) ((us Tg lx.toNat i)) T19 := c20
                refine g_mem (M2 := sr M 33 T19) (by simp (disch := decide) only [Int.reduceToNat, up_sr, sr_cp, sr_k, sr_o, sr_sr, us_us, @sr_lt _ 33 32 _ _ (by decide)]; try rfl) ?_
                have hnno_ : Nno (M 27 4).toNat (mbe (M 28) (M 29) (M 30) (M 31)) (M 32 lx.toNat) (M 32) (us Tg lx.toNat i) T19 := by rw [← ex15]; exact c20
                refine g_if_eq (pc := 67) (tgt := 79) hK dd_X8_findsNext_67 (by decide) (by decide) (fun _ => ?_) (fun c22 => absurd (by decide) c22)
                have hsn_ : Sr (M 27 4).toNat (mbe (M 28) (M 29) (M 30) (M 31)) i (M 32) (M 33) (lx.toNat + 1) T19 := sr_rec (by omega) hi.1 hsr_ (by omega) hnno_
                refine g_iinc (pc := 79) (i := 3) (y := lx + 1) (L' := [(0, gR 27), (1, gI i), (2, gI 8), (3, gI (lx + 1))]) hK dd_X8_findsNext_79 rfl rfl (by decide) rfl ?_
                refine g_goto (pc := 82) (tgt := 10) hK dd_X8_findsNext_82 (by decide) ?_
                refine g_sub (L' := [(0, gR 27), (1, gI i), (2, gI 8), (3, gI (lx + 1))]) [0, 1, 2, 3] rfl ?_
                refine g_mem (M2 := sr M 33 T19) (by first | rfl | (simp (disch := decide) only [Int.reduceToNat, up_sr, sr_cp, sr_k, sr_o, sr_sr, us_us, @sr_lt _ 33 32 _ _ (by decide)]; try rfl)) ?_
                exact ih3 (lx + 1) T19 (by omega) (by rw [tn1 (by omega)]; exact hsn_) (Nat.le_trans htr (trd_mono hsn_.1)) (by omega)
          · replace c11 : ¬ (mbe (M 28) (M 29) (M 30) (M 31) i.toNat lx.toNat) := c11
            have hme_ : ¬ (mbe (M 28) (M 29) (M 30) (M 31)) i.toNat lx.toNat := c11
            refine g_if_eq (pc := 34) (tgt := 79) hK dd_X8_findsNext_34 (by decide) (by decide) (fun _ => ?_) (fun c23 => absurd (by decide) c23)
            have hsn_ : Sr (M 27 4).toNat (mbe (M 28) (M 29) (M 30) (M 31)) i (M 32) (M 33) (lx.toNat + 1) Tg := sr_next hsr_ (Or.inr hme_)
            refine g_iinc (pc := 79) (i := 3) (y := lx + 1) (L' := [(0, gR 27), (1, gI i), (2, gI 8), (3, gI (lx + 1))]) hK dd_X8_findsNext_79 rfl rfl (by decide) rfl ?_
            refine g_goto (pc := 82) (tgt := 10) hK dd_X8_findsNext_82 (by decide) ?_
            refine g_sub (L' := [(0, gR 27), (1, gI i), (2, gI 8), (3, gI (lx + 1))]) [0, 1, 2, 3] rfl ?_
            refine g_mem (M2 := sr M 33 Tg) (by first | rfl | (simp (disch := decide) only [Int.reduceToNat, up_sr, sr_cp, sr_k, sr_o, sr_sr, us_us, @sr_lt _ 33 32 _ _ (by decide)]; try rfl)) ?_
            exact ih3 (lx + 1) Tg (by omega) (by rw [tn1 (by omega)]; exact hsn_) (Nat.le_trans htr (trd_mono hsn_.1)) (by omega)
  refine g_mem (M2 := sr M 33 (M 33)) (sr_self.symm) ?_
  refine g_sub (L' := [(0, gR 27), (1, gI i), (2, gI 8), (3, gI 0)]) [0, 1, 2, 3] rfl ?_
  exact lp4 _ 0 (M 33) (by omega) (sr0) (htr) (Nat.lt_succ_self _)
set_option maxHeartbeats 4000000 in
set_option maxRecDepth 100000 in
theorem c_fn7 {l : Launch} {M : Mem} {Pq : Option gV → Mem → Prop} (i : Int) (hi : 0 ≤ i ∧ i < M 27 4) (hsc : 0 ≤ M 27 4 ∧ M 27 4 ≤ 20) (hv : Vl (M 27 4).toNat (mbe (M 28) (M 29) (M 30) (M 31)) (M 32)) (htr : 7 ≤ trd (M 33) (M 27 4).toNat) (hT : ∀ (B1 : Nat → Int) (T1 : Nat → Int), (Aug (M 27 4).toNat (mbe (M 28) (M 29) (M 30) (M 31)) i (M 32) (M 33) B1) → Pq (some (gI 1)) (sr (sr M 32 B1) 33 T1)) (hF : ∀ (T1 : Nat → Int), (Nno (M 27 4).toNat (mbe (M 28) (M 29) (M 30) (M 31)) i (M 32) (M 33) T1) → Pq (some (gI 0)) (sr M 33 T1)) : gCtr l my_X8_findsNext mb_X8_findsNext 4 ((some .boolean)) 14 [gR 27, gI i, gI 7] M Pq := by
  refine g_intro (by decide) (Nat.le_of_ble_eq_true rfl) ?_
  intro p e s m args below meth c D cy q A hK hr hlocks hw
  refine g_sub (L' := [(0, gR 27), (1, gI i), (2, gI 7)]) [0, 1, 2] rfl ?_
  refine g_iloadn (pc := 0) (i := 2) (x := 7) hK dd_X8_findsNext_0 rfl rfl ?_
  refine g_bipush (pc := 1) (x := 20) hK dd_X8_findsNext_1 (by decide) ?_
  refine g_icmp_le (pc := 3) (tgt := 8) hK dd_X8_findsNext_3 (by decide) (by decide) (by decide) (fun _ => ?_) (fun c1 => absurd (by decide) c1)
  refine g_iconst (pc := 8) (x := 0) hK dd_X8_findsNext_8 (by decide) ?_
  refine g_istoren (pc := 9) (i := 3) (L' := [(0, gR 27), (1, gI i), (2, gI 7), (3, gI 0)]) hK dd_X8_findsNext_9 rfl (by decide) rfl ?_
  have lp4 : ∀ (n2 : Nat) (lx : Int) (Tg : Nat → Int), (0 ≤ lx ∧ lx ≤ M 27 4) → (Sr (M 27 4).toNat (mbe (M 28) (M 29) (M 30) (M 31)) i (M 32) (M 33) lx.toNat Tg) → (7 ≤ trd Tg (M 27 4).toNat) → (M 27 4 - lx).toNat < n2 → G p l e (rmD 14) s m args below meth c D cy q A 0 0 4 (MQ below (gQc D cy q A Pq) args s 0 0 A) 10 [(0, gR 27), (1, gI i), (2, gI 7), (3, gI lx)] [] (sr M 33 Tg) := by
    intro n2
    induction n2 with
    | zero => intro lx Tg iv5 hsr_ htr_ hm6; exact absurd hm6 (Nat.not_lt_zero _)
    | succ n2 ih3 =>
      intro lx Tg iv5 hsr_ htr_ hm6
      refine g_iloadn (pc := 10) (i := 3) (x := lx) hK dd_X8_findsNext_10 rfl rfl ?_
      refine g_aloadn (pc := 11) (i := 0) (x := 27) hK dd_X8_findsNext_11 rfl rfl ?_
      refine g_geti (pc := 12) (f := (0, 0)) (j := 4) hK (kdm kd_27) rfl ef_8 (by decide) rfl kk_200 nl_27 dd_X8_findsNext_12 rfl (fun x7 ex7 rx7 => ?_)
      replace ex7 : x7 = M 27 4 := ex7
      refine g_icmp_ge (pc := 15) (tgt := 85) hK dd_X8_findsNext_15 (by decide) ⟨by omega, by omega⟩ rx7 (fun c8 => ?_) (fun c8 => ?_)
      · refine g_iconst (pc := 85) (x := 0) hK dd_X8_findsNext_85 (by decide) ?_
        refine g_iret (pc := 86) hK hr hlocks dd_X8_findsNext_86 rfl ?_
        first | exact g_fin (hF Tg (by exact sr_end hsr_ (by omega))) (by first | rfl | omega | (subst_vars; first | rfl | omega)) (rfl) | (exfalso; omega)
      · refine g_aloadn (pc := 18) (i := 0) (x := 27) hK dd_X8_findsNext_18 rfl rfl ?_
        refine g_getv (pc := 19) (f := (1, 6)) (j := 6) (v := gR 33) hK (kdm kd_27) rfl ef_8 (by decide) rfl kk_203 dd_X8_findsNext_19 rfl ?_
        refine g_iloadn (pc := 22) (i := 3) (x := lx) hK dd_X8_findsNext_22 rfl rfl ?_
        refine g_iald (pc := 23) hK (kdm kd_33) nl_33 (by decide) dd_X8_findsNext_23 (by omega) (by omega) (fun x9 ex9 rx9 => ?_)
        replace ex9 : x9 = Tg lx.toNat := by first | exact ex9 | (rw [ex9]; simp [up, us, cp, sr])
        refine g_iconst (pc := 24) (x := (-1)) hK dd_X8_findsNext_24 (by decide) ?_
        refine g_icmp_ne (pc := 25) (tgt := 79) hK dd_X8_findsNext_25 (by decide) rx9 (by decide) (fun c10 => ?_) (fun c10 => ?_)
        · have hsn_ : Sr (M 27 4).toNat (mbe (M 28) (M 29) (M 30) (M 31)) i (M 32) (M 33) (lx.toNat + 1) Tg := sr_next hsr_ (Or.inl (by omega))
          refine g_iinc (pc := 79) (i := 3) (y := lx + 1) (L' := [(0, gR 27), (1, gI i), (2, gI 7), (3, gI (lx + 1))]) hK dd_X8_findsNext_79 rfl rfl (by decide) rfl ?_
          refine g_goto (pc := 82) (tgt := 10) hK dd_X8_findsNext_82 (by decide) ?_
          refine g_sub (L' := [(0, gR 27), (1, gI i), (2, gI 7), (3, gI (lx + 1))]) [0, 1, 2, 3] rfl ?_
          refine g_mem (M2 := sr M 33 Tg) (by first | rfl | (simp (disch := decide) only [Int.reduceToNat, up_sr, sr_cp, sr_k, sr_o, sr_sr, us_us, @sr_lt _ 33 32 _ _ (by decide)]; try rfl)) ?_
          exact ih3 (lx + 1) Tg (by omega) (by rw [tn1 (by omega)]; exact hsn_) (Nat.le_trans htr (trd_mono hsn_.1)) (by omega)
        · have hlt_ := trd_lt (T := Tg) (n := (M 27 4).toNat) (l := lx.toNat) (by omega) (by omega)
          refine g_aloadn (pc := 28) (i := 0) (x := 27) hK dd_X8_findsNext_28 rfl rfl ?_
          refine g_iloadn (pc := 29) (i := 1) (x := i) hK dd_X8_findsNext_29 rfl rfl ?_
          refine g_iloadn (pc := 30) (i := 3) (x := lx) hK dd_X8_findsNext_30 rfl rfl ?_
          refine g_callV (pc := 31) (As := [gI i, gI lx]) hK ws_Sightings_51 md_X8_mayBeOf ⟨Nat.zero_le _, Nat.zero_le _⟩ ⟨by decide, by decide⟩ (kdm kd_27) rfl rfl dd_X8_findsNext_31 rfl rfl (Nat.le_of_ble_eq_true rfl) (c_mayBeOf i lx (show 0 ≤ i ∧ i < 20 by omega) (show 0 ≤ lx ∧ lx < 20 by omega) (fun c11 => g_r1 ?_) (fun c11 => g_r1 ?_))
          · replace c11 : mbe (M 28) (M 29) (M 30) (M 31) i.toNat lx.toNat := c11
            have hme_ : (mbe (M 28) (M 29) (M 30) (M 31)) i.toNat lx.toNat := c11
            refine g_if_eq (pc := 34) (tgt := 79) hK dd_X8_findsNext_34 (by decide) (by decide) (fun c12 => absurd c12 (by decide)) (fun _ => ?_)
            refine g_aloadn (pc := 37) (i := 0) (x := 27) hK dd_X8_findsNext_37 rfl rfl ?_
            refine g_getv (pc := 38) (f := (1, 6)) (j := 6) (v := gR 33) hK (kdm kd_27) rfl ef_8 (by decide) rfl kk_203 dd_X8_findsNext_38 rfl ?_
            refine g_iloadn (pc := 41) (i := 3) (x := lx) hK dd_X8_findsNext_41 rfl rfl ?_
            refine g_iloadn (pc := 42) (i := 1) (x := i) hK dd_X8_findsNext_42 rfl rfl ?_
            refine g_iast (pc := 43) hK (kdm kd_33) nl_33 (by decide) (by decide) dd_X8_findsNext_43 (by omega) (by omega) ⟨by omega, by omega⟩ ?_
            refine g_mem (M2 := sr M 33 (us Tg lx.toNat i)) (by simp (disch := decide) only [Int.reduceToNat, up_sr, sr_cp, sr_k, sr_o, sr_sr, us_us, @sr_lt _ 33 32 _ _ (by decide)]; try rfl) ?_
            have htr2_ : 8 ≤ trd (us Tg lx.toNat i) (M 27 4).toNat := by rw [trd_us (by omega) (by omega) (by omega)]; omega
            refine g_aloadn (pc := 44) (i := 0) (x := 27) hK dd_X8_findsNext_44 rfl rfl ?_
            refine g_getv (pc := 45) (f := (1, 5)) (j := 5) (v := gR 32) hK (kdm kd_27) rfl ef_8 (by decide) rfl kk_202 dd_X8_findsNext_45 rfl ?_
            refine g_iloadn (pc := 48) (i := 3) (x := lx) hK dd_X8_findsNext_48 rfl rfl ?_
            refine g_iald (pc := 49) hK (kdm kd_32) nl_32 (by decide) dd_X8_findsNext_49 (by omega) (by omega) (fun x13 ex13 rx13 => ?_)
            replace ex13 : x13 = M 32 lx.toNat := ex13
            refine g_iconst (pc := 50) (x := (-1)) hK dd_X8_findsNext_50 (by decide) ?_
            refine g_icmp_eq (pc := 51) (tgt := 70) hK dd_X8_findsNext_51 (by decide) rx13 (by decide) (fun c14 => ?_) (fun c14 => ?_)
            · skip
              refine g_aloadn (pc := 70) (i := 0) (x := 27) hK dd_X8_findsNext_70 rfl rfl ?_
              refine g_getv (pc := 71) (f := (1, 5)) (j := 5) (v := gR 32) hK (kdm kd_27) rfl ef_8 (by decide) rfl kk_202 dd_X8_findsNext_71 rfl ?_
              refine g_iloadn (pc := 74) (i := 3) (x := lx) hK dd_X8_findsNext_74 rfl rfl ?_
              refine g_iloadn (pc := 75) (i := 1) (x := i) hK dd_X8_findsNext_75 rfl rfl ?_
              refine g_iast (pc := 76) hK (kdm kd_32) nl_32 (by decide) (by decide) dd_X8_findsNext_76 (by omega) (by omega) ⟨by omega, by omega⟩ ?_
              refine g_iconst (pc := 77) (x := 1) hK dd_X8_findsNext_77 (by decide) ?_
              refine g_iret (pc := 78) hK hr hlocks dd_X8_findsNext_78 rfl ?_
              first | exact g_fin (hT (us (M 32) lx.toNat i) (us Tg lx.toNat i) (by exact aug_base (by omega) ⟨hi.1, by omega⟩ hv hsr_ (by omega) hme_ (by omega))) (by first | rfl | omega | (subst_vars; first | rfl | omega)) (by simp (disch := decide) only [Int.reduceToNat, up_sr, sr_cp, sr_k, sr_o, sr_sr, us_us, @sr_lt _ 33 32 _ _ (by decide)]; try rfl) | (exfalso; omega)
            · have hvl_ := hv lx.toNat (by omega)
              refine g_aloadn (pc := 54) (i := 0) (x := 27) hK dd_X8_findsNext_54 rfl rfl ?_
              refine g_aloadn (pc := 55) (i := 0) (x := 27) hK dd_X8_findsNext_55 rfl rfl ?_
              refine g_getv (pc := 56) (f := (1, 5)) (j := 5) (v := gR 32) hK (kdm kd_27) rfl ef_8 (by decide) rfl kk_202 dd_X8_findsNext_56 rfl ?_
              refine g_iloadn (pc := 59) (i := 3) (x := lx) hK dd_X8_findsNext_59 rfl rfl ?_
              refine g_iald (pc := 60) hK (kdm kd_32) nl_32 (by decide) dd_X8_findsNext_60 (by omega) (by omega) (fun x15 ex15 rx15 => ?_)
              replace ex15 : x15 = M 32 lx.toNat := ex15
              skip
              refine g_iloadn (pc := 61) (i := 2) (x := 7) hK dd_X8_findsNext_61 rfl rfl ?_
              refine g_iconst (pc := 62) (x := 1) hK dd_X8_findsNext_62 (by decide) ?_
              refine g_iadd (pc := 63) (z := 8) hK dd_X8_findsNext_63 rfl ?_
              refine g_callT (pc := 64) (As := [gR 27, gI x15, gI 8]) hK ws_Sightings_47 md_X8_findsNext ⟨Nat.zero_le _, Nat.zero_le _⟩ ⟨by decide, by decide⟩ dd_X8_findsNext_64 rfl rfl (Nat.le_of_ble_eq_true rfl) (c_fn8 x15 (show 0 ≤ x15 ∧ x15 < M 27 4 by omega) hsc hv htr2_ (fun B16 T17 c18 => g_r1 ?_) (fun T19 c20 => g_r1 ?_))
              · replace c18 : Aug (M 27 4).toNat (mbe (M 28) (M 29) (M 30) (M 31)) x15 (M 32) ((us Tg lx.toNat i)) B16 := c18
                refine g_mem (M2 := sr (sr M 32 B16) 33 T17) (by simp (disch := decide) only [Int.reduceToNat, up_sr, sr_cp, sr_k, sr_o, sr_sr, us_us, @sr_lt _ 33 32 _ _ (by decide)]; try rfl) ?_
                have haug_ : Aug (M 27 4).toNat (mbe (M 28) (M 29) (M 30) (M 31)) (M 32 lx.toNat) (M 32) (us Tg lx.toNat i) B16 := by rw [← ex15]; exact c18
                refine g_if_eq (pc := 67) (tgt := 79) hK dd_X8_findsNext_67 (by decide) (by decide) (fun c21 => absurd c21 (by decide)) (fun _ => ?_)
                skip
                refine g_aloadn (pc := 70) (i := 0) (x := 27) hK dd_X8_findsNext_70 rfl rfl ?_
                refine g_getv (pc := 71) (f := (1, 5)) (j := 5) (v := gR 32) hK (kdm kd_27) rfl ef_8 (by decide) rfl kk_202 dd_X8_findsNext_71 rfl ?_
                refine g_iloadn (pc := 74) (i := 3) (x := lx) hK dd_X8_findsNext_74 rfl rfl ?_
                refine g_iloadn (pc := 75) (i := 1) (x := i) hK dd_X8_findsNext_75 rfl rfl ?_
                refine g_iast (pc := 76) hK (kdm kd_32) nl_32 (by decide) (by decide) dd_X8_findsNext_76 (by omega) (by omega) ⟨by omega, by omega⟩ ?_
                refine g_iconst (pc := 77) (x := 1) hK dd_X8_findsNext_77 (by decide) ?_
                refine g_iret (pc := 78) hK hr hlocks dd_X8_findsNext_78 rfl ?_
                first | exact g_fin (hT (us B16 lx.toNat i) T17 (by exact aug_rec (by omega) ⟨hi.1, by omega⟩ hv hsr_ (by omega) hme_ (by omega) haug_)) (by first | rfl | omega | (subst_vars; first | rfl | omega)) (by simp (disch := decide) only [Int.reduceToNat, up_sr, sr_cp, sr_k, sr_o, sr_sr, us_us, @sr_lt _ 33 32 _ _ (by decide)]; try rfl) | (exfalso; omega)
              · replace c20 : Nno (M 27 4).toNat (mbe (M 28) (M 29) (M 30) (M 31)) x15 (M 32) ((us Tg lx.toNat i)) T19 := c20
                refine g_mem (M2 := sr M 33 T19) (by simp (disch := decide) only [Int.reduceToNat, up_sr, sr_cp, sr_k, sr_o, sr_sr, us_us, @sr_lt _ 33 32 _ _ (by decide)]; try rfl) ?_
                have hnno_ : Nno (M 27 4).toNat (mbe (M 28) (M 29) (M 30) (M 31)) (M 32 lx.toNat) (M 32) (us Tg lx.toNat i) T19 := by rw [← ex15]; exact c20
                refine g_if_eq (pc := 67) (tgt := 79) hK dd_X8_findsNext_67 (by decide) (by decide) (fun _ => ?_) (fun c22 => absurd (by decide) c22)
                have hsn_ : Sr (M 27 4).toNat (mbe (M 28) (M 29) (M 30) (M 31)) i (M 32) (M 33) (lx.toNat + 1) T19 := sr_rec (by omega) hi.1 hsr_ (by omega) hnno_
                refine g_iinc (pc := 79) (i := 3) (y := lx + 1) (L' := [(0, gR 27), (1, gI i), (2, gI 7), (3, gI (lx + 1))]) hK dd_X8_findsNext_79 rfl rfl (by decide) rfl ?_
                refine g_goto (pc := 82) (tgt := 10) hK dd_X8_findsNext_82 (by decide) ?_
                refine g_sub (L' := [(0, gR 27), (1, gI i), (2, gI 7), (3, gI (lx + 1))]) [0, 1, 2, 3] rfl ?_
                refine g_mem (M2 := sr M 33 T19) (by first | rfl | (simp (disch := decide) only [Int.reduceToNat, up_sr, sr_cp, sr_k, sr_o, sr_sr, us_us, @sr_lt _ 33 32 _ _ (by decide)]; try rfl)) ?_
                exact ih3 (lx + 1) T19 (by omega) (by rw [tn1 (by omega)]; exact hsn_) (Nat.le_trans htr (trd_mono hsn_.1)) (by omega)
          · replace c11 : ¬ (mbe (M 28) (M 29) (M 30) (M 31) i.toNat lx.toNat) := c11
            have hme_ : ¬ (mbe (M 28) (M 29) (M 30) (M 31)) i.toNat lx.toNat := c11
            refine g_if_eq (pc := 34) (tgt := 79) hK dd_X8_findsNext_34 (by decide) (by decide) (fun _ => ?_) (fun c23 => absurd (by decide) c23)
            have hsn_ : Sr (M 27 4).toNat (mbe (M 28) (M 29) (M 30) (M 31)) i (M 32) (M 33) (lx.toNat + 1) Tg := sr_next hsr_ (Or.inr hme_)
            refine g_iinc (pc := 79) (i := 3) (y := lx + 1) (L' := [(0, gR 27), (1, gI i), (2, gI 7), (3, gI (lx + 1))]) hK dd_X8_findsNext_79 rfl rfl (by decide) rfl ?_
            refine g_goto (pc := 82) (tgt := 10) hK dd_X8_findsNext_82 (by decide) ?_
            refine g_sub (L' := [(0, gR 27), (1, gI i), (2, gI 7), (3, gI (lx + 1))]) [0, 1, 2, 3] rfl ?_
            refine g_mem (M2 := sr M 33 Tg) (by first | rfl | (simp (disch := decide) only [Int.reduceToNat, up_sr, sr_cp, sr_k, sr_o, sr_sr, us_us, @sr_lt _ 33 32 _ _ (by decide)]; try rfl)) ?_
            exact ih3 (lx + 1) Tg (by omega) (by rw [tn1 (by omega)]; exact hsn_) (Nat.le_trans htr (trd_mono hsn_.1)) (by omega)
  refine g_mem (M2 := sr M 33 (M 33)) (sr_self.symm) ?_
  refine g_sub (L' := [(0, gR 27), (1, gI i), (2, gI 7), (3, gI 0)]) [0, 1, 2, 3] rfl ?_
  exact lp4 _ 0 (M 33) (by omega) (sr0) (htr) (Nat.lt_succ_self _)
set_option maxHeartbeats 4000000 in
set_option maxRecDepth 100000 in
theorem c_fn6 {l : Launch} {M : Mem} {Pq : Option gV → Mem → Prop} (i : Int) (hi : 0 ≤ i ∧ i < M 27 4) (hsc : 0 ≤ M 27 4 ∧ M 27 4 ≤ 20) (hv : Vl (M 27 4).toNat (mbe (M 28) (M 29) (M 30) (M 31)) (M 32)) (htr : 6 ≤ trd (M 33) (M 27 4).toNat) (hT : ∀ (B1 : Nat → Int) (T1 : Nat → Int), (Aug (M 27 4).toNat (mbe (M 28) (M 29) (M 30) (M 31)) i (M 32) (M 33) B1) → Pq (some (gI 1)) (sr (sr M 32 B1) 33 T1)) (hF : ∀ (T1 : Nat → Int), (Nno (M 27 4).toNat (mbe (M 28) (M 29) (M 30) (M 31)) i (M 32) (M 33) T1) → Pq (some (gI 0)) (sr M 33 T1)) : gCtr l my_X8_findsNext mb_X8_findsNext 4 ((some .boolean)) 15 [gR 27, gI i, gI 6] M Pq := by
  refine g_intro (by decide) (Nat.le_of_ble_eq_true rfl) ?_
  intro p e s m args below meth c D cy q A hK hr hlocks hw
  refine g_sub (L' := [(0, gR 27), (1, gI i), (2, gI 6)]) [0, 1, 2] rfl ?_
  refine g_iloadn (pc := 0) (i := 2) (x := 6) hK dd_X8_findsNext_0 rfl rfl ?_
  refine g_bipush (pc := 1) (x := 20) hK dd_X8_findsNext_1 (by decide) ?_
  refine g_icmp_le (pc := 3) (tgt := 8) hK dd_X8_findsNext_3 (by decide) (by decide) (by decide) (fun _ => ?_) (fun c1 => absurd (by decide) c1)
  refine g_iconst (pc := 8) (x := 0) hK dd_X8_findsNext_8 (by decide) ?_
  refine g_istoren (pc := 9) (i := 3) (L' := [(0, gR 27), (1, gI i), (2, gI 6), (3, gI 0)]) hK dd_X8_findsNext_9 rfl (by decide) rfl ?_
  have lp4 : ∀ (n2 : Nat) (lx : Int) (Tg : Nat → Int), (0 ≤ lx ∧ lx ≤ M 27 4) → (Sr (M 27 4).toNat (mbe (M 28) (M 29) (M 30) (M 31)) i (M 32) (M 33) lx.toNat Tg) → (6 ≤ trd Tg (M 27 4).toNat) → (M 27 4 - lx).toNat < n2 → G p l e (rmD 15) s m args below meth c D cy q A 0 0 4 (MQ below (gQc D cy q A Pq) args s 0 0 A) 10 [(0, gR 27), (1, gI i), (2, gI 6), (3, gI lx)] [] (sr M 33 Tg) := by
    intro n2
    induction n2 with
    | zero => intro lx Tg iv5 hsr_ htr_ hm6; exact absurd hm6 (Nat.not_lt_zero _)
    | succ n2 ih3 =>
      intro lx Tg iv5 hsr_ htr_ hm6
      refine g_iloadn (pc := 10) (i := 3) (x := lx) hK dd_X8_findsNext_10 rfl rfl ?_
      refine g_aloadn (pc := 11) (i := 0) (x := 27) hK dd_X8_findsNext_11 rfl rfl ?_
      refine g_geti (pc := 12) (f := (0, 0)) (j := 4) hK (kdm kd_27) rfl ef_8 (by decide) rfl kk_200 nl_27 dd_X8_findsNext_12 rfl (fun x7 ex7 rx7 => ?_)
      replace ex7 : x7 = M 27 4 := ex7
      refine g_icmp_ge (pc := 15) (tgt := 85) hK dd_X8_findsNext_15 (by decide) ⟨by omega, by omega⟩ rx7 (fun c8 => ?_) (fun c8 => ?_)
      · refine g_iconst (pc := 85) (x := 0) hK dd_X8_findsNext_85 (by decide) ?_
        refine g_iret (pc := 86) hK hr hlocks dd_X8_findsNext_86 rfl ?_
        first | exact g_fin (hF Tg (by exact sr_end hsr_ (by omega))) (by first | rfl | omega | (subst_vars; first | rfl | omega)) (rfl) | (exfalso; omega)
      · refine g_aloadn (pc := 18) (i := 0) (x := 27) hK dd_X8_findsNext_18 rfl rfl ?_
        refine g_getv (pc := 19) (f := (1, 6)) (j := 6) (v := gR 33) hK (kdm kd_27) rfl ef_8 (by decide) rfl kk_203 dd_X8_findsNext_19 rfl ?_
        refine g_iloadn (pc := 22) (i := 3) (x := lx) hK dd_X8_findsNext_22 rfl rfl ?_
        refine g_iald (pc := 23) hK (kdm kd_33) nl_33 (by decide) dd_X8_findsNext_23 (by omega) (by omega) (fun x9 ex9 rx9 => ?_)
        replace ex9 : x9 = Tg lx.toNat := by first | exact ex9 | (rw [ex9]; simp [up, us, cp, sr])
        refine g_iconst (pc := 24) (x := (-1)) hK dd_X8_findsNext_24 (by decide) ?_
        refine g_icmp_ne (pc := 25) (tgt := 79) hK dd_X8_findsNext_25 (by decide) rx9 (by decide) (fun c10 => ?_) (fun c10 => ?_)
        · have hsn_ : Sr (M 27 4).toNat (mbe (M 28) (M 29) (M 30) (M 31)) i (M 32) (M 33) (lx.toNat + 1) Tg := sr_next hsr_ (Or.inl (by omega))
          refine g_iinc (pc := 79) (i := 3) (y := lx + 1) (L' := [(0, gR 27), (1, gI i), (2, gI 6), (3, gI (lx + 1))]) hK dd_X8_findsNext_79 rfl rfl (by decide) rfl ?_
          refine g_goto (pc := 82) (tgt := 10) hK dd_X8_findsNext_82 (by decide) ?_
          refine g_sub (L' := [(0, gR 27), (1, gI i), (2, gI 6), (3, gI (lx + 1))]) [0, 1, 2, 3] rfl ?_
          refine g_mem (M2 := sr M 33 Tg) (by first | rfl | (simp (disch := decide) only [Int.reduceToNat, up_sr, sr_cp, sr_k, sr_o, sr_sr, us_us, @sr_lt _ 33 32 _ _ (by decide)]; try rfl)) ?_
          exact ih3 (lx + 1) Tg (by omega) (by rw [tn1 (by omega)]; exact hsn_) (Nat.le_trans htr (trd_mono hsn_.1)) (by omega)
        · have hlt_ := trd_lt (T := Tg) (n := (M 27 4).toNat) (l := lx.toNat) (by omega) (by omega)
          refine g_aloadn (pc := 28) (i := 0) (x := 27) hK dd_X8_findsNext_28 rfl rfl ?_
          refine g_iloadn (pc := 29) (i := 1) (x := i) hK dd_X8_findsNext_29 rfl rfl ?_
          refine g_iloadn (pc := 30) (i := 3) (x := lx) hK dd_X8_findsNext_30 rfl rfl ?_
          refine g_callV (pc := 31) (As := [gI i, gI lx]) hK ws_Sightings_51 md_X8_mayBeOf ⟨Nat.zero_le _, Nat.zero_le _⟩ ⟨by decide, by decide⟩ (kdm kd_27) rfl rfl dd_X8_findsNext_31 rfl rfl (Nat.le_of_ble_eq_true rfl) (c_mayBeOf i lx (show 0 ≤ i ∧ i < 20 by omega) (show 0 ≤ lx ∧ lx < 20 by omega) (fun c11 => g_r1 ?_) (fun c11 => g_r1 ?_))
          · replace c11 : mbe (M 28) (M 29) (M 30) (M 31) i.toNat lx.toNat := c11
            have hme_ : (mbe (M 28) (M 29) (M 30) (M 31)) i.toNat lx.toNat := c11
            refine g_if_eq (pc := 34) (tgt := 79) hK dd_X8_findsNext_34 (by decide) (by decide) (fun c12 => absurd c12 (by decide)) (fun _ => ?_)
            refine g_aloadn (pc := 37) (i := 0) (x := 27) hK dd_X8_findsNext_37 rfl rfl ?_
            refine g_getv (pc := 38) (f := (1, 6)) (j := 6) (v := gR 33) hK (kdm kd_27) rfl ef_8 (by decide) rfl kk_203 dd_X8_findsNext_38 rfl ?_
            refine g_iloadn (pc := 41) (i := 3) (x := lx) hK dd_X8_findsNext_41 rfl rfl ?_
            refine g_iloadn (pc := 42) (i := 1) (x := i) hK dd_X8_findsNext_42 rfl rfl ?_
            refine g_iast (pc := 43) hK (kdm kd_33) nl_33 (by decide) (by decide) dd_X8_findsNext_43 (by omega) (by omega) ⟨by omega, by omega⟩ ?_
            refine g_mem (M2 := sr M 33 (us Tg lx.toNat i)) (by simp (disch := decide) only [Int.reduceToNat, up_sr, sr_cp, sr_k, sr_o, sr_sr, us_us, @sr_lt _ 33 32 _ _ (by decide)]; try rfl) ?_
            have htr2_ : 7 ≤ trd (us Tg lx.toNat i) (M 27 4).toNat := by rw [trd_us (by omega) (by omega) (by omega)]; omega
            refine g_aloadn (pc := 44) (i := 0) (x := 27) hK dd_X8_findsNext_44 rfl rfl ?_
            refine g_getv (pc := 45) (f := (1, 5)) (j := 5) (v := gR 32) hK (kdm kd_27) rfl ef_8 (by decide) rfl kk_202 dd_X8_findsNext_45 rfl ?_
            refine g_iloadn (pc := 48) (i := 3) (x := lx) hK dd_X8_findsNext_48 rfl rfl ?_
            refine g_iald (pc := 49) hK (kdm kd_32) nl_32 (by decide) dd_X8_findsNext_49 (by omega) (by omega) (fun x13 ex13 rx13 => ?_)
            replace ex13 : x13 = M 32 lx.toNat := ex13
            refine g_iconst (pc := 50) (x := (-1)) hK dd_X8_findsNext_50 (by decide) ?_
            refine g_icmp_eq (pc := 51) (tgt := 70) hK dd_X8_findsNext_51 (by decide) rx13 (by decide) (fun c14 => ?_) (fun c14 => ?_)
            · skip
              refine g_aloadn (pc := 70) (i := 0) (x := 27) hK dd_X8_findsNext_70 rfl rfl ?_
              refine g_getv (pc := 71) (f := (1, 5)) (j := 5) (v := gR 32) hK (kdm kd_27) rfl ef_8 (by decide) rfl kk_202 dd_X8_findsNext_71 rfl ?_
              refine g_iloadn (pc := 74) (i := 3) (x := lx) hK dd_X8_findsNext_74 rfl rfl ?_
              refine g_iloadn (pc := 75) (i := 1) (x := i) hK dd_X8_findsNext_75 rfl rfl ?_
              refine g_iast (pc := 76) hK (kdm kd_32) nl_32 (by decide) (by decide) dd_X8_findsNext_76 (by omega) (by omega) ⟨by omega, by omega⟩ ?_
              refine g_iconst (pc := 77) (x := 1) hK dd_X8_findsNext_77 (by decide) ?_
              refine g_iret (pc := 78) hK hr hlocks dd_X8_findsNext_78 rfl ?_
              first | exact g_fin (hT (us (M 32) lx.toNat i) (us Tg lx.toNat i) (by exact aug_base (by omega) ⟨hi.1, by omega⟩ hv hsr_ (by omega) hme_ (by omega))) (by first | rfl | omega | (subst_vars; first | rfl | omega)) (by simp (disch := decide) only [Int.reduceToNat, up_sr, sr_cp, sr_k, sr_o, sr_sr, us_us, @sr_lt _ 33 32 _ _ (by decide)]; try rfl) | (exfalso; omega)
            · have hvl_ := hv lx.toNat (by omega)
              refine g_aloadn (pc := 54) (i := 0) (x := 27) hK dd_X8_findsNext_54 rfl rfl ?_
              refine g_aloadn (pc := 55) (i := 0) (x := 27) hK dd_X8_findsNext_55 rfl rfl ?_
              refine g_getv (pc := 56) (f := (1, 5)) (j := 5) (v := gR 32) hK (kdm kd_27) rfl ef_8 (by decide) rfl kk_202 dd_X8_findsNext_56 rfl ?_
              refine g_iloadn (pc := 59) (i := 3) (x := lx) hK dd_X8_findsNext_59 rfl rfl ?_
              refine g_iald (pc := 60) hK (kdm kd_32) nl_32 (by decide) dd_X8_findsNext_60 (by omega) (by omega) (fun x15 ex15 rx15 => ?_)
              replace ex15 : x15 = M 32 lx.toNat := ex15
              skip
              refine g_iloadn (pc := 61) (i := 2) (x := 6) hK dd_X8_findsNext_61 rfl rfl ?_
              refine g_iconst (pc := 62) (x := 1) hK dd_X8_findsNext_62 (by decide) ?_
              refine g_iadd (pc := 63) (z := 7) hK dd_X8_findsNext_63 rfl ?_
              refine g_callT (pc := 64) (As := [gR 27, gI x15, gI 7]) hK ws_Sightings_47 md_X8_findsNext ⟨Nat.zero_le _, Nat.zero_le _⟩ ⟨by decide, by decide⟩ dd_X8_findsNext_64 rfl rfl (Nat.le_of_ble_eq_true rfl) (c_fn7 x15 (show 0 ≤ x15 ∧ x15 < M 27 4 by omega) hsc hv htr2_ (fun B16 T17 c18 => g_r1 ?_) (fun T19 c20 => g_r1 ?_))
              · replace c18 : Aug (M 27 4).toNat (mbe (M 28) (M 29) (M 30) (M 31)) x15 (M 32) ((us Tg lx.toNat i)) B16 := c18
                refine g_mem (M2 := sr (sr M 32 B16) 33 T17) (by simp (disch := decide) only [Int.reduceToNat, up_sr, sr_cp, sr_k, sr_o, sr_sr, us_us, @sr_lt _ 33 32 _ _ (by decide)]; try rfl) ?_
                have haug_ : Aug (M 27 4).toNat (mbe (M 28) (M 29) (M 30) (M 31)) (M 32 lx.toNat) (M 32) (us Tg lx.toNat i) B16 := by rw [← ex15]; exact c18
                refine g_if_eq (pc := 67) (tgt := 79) hK dd_X8_findsNext_67 (by decide) (by decide) (fun c21 => absurd c21 (by decide)) (fun _ => ?_)
                skip
                refine g_aloadn (pc := 70) (i := 0) (x := 27) hK dd_X8_findsNext_70 rfl rfl ?_
                refine g_getv (pc := 71) (f := (1, 5)) (j := 5) (v := gR 32) hK (kdm kd_27) rfl ef_8 (by decide) rfl kk_202 dd_X8_findsNext_71 rfl ?_
                refine g_iloadn (pc := 74) (i := 3) (x := lx) hK dd_X8_findsNext_74 rfl rfl ?_
                refine g_iloadn (pc := 75) (i := 1) (x := i) hK dd_X8_findsNext_75 rfl rfl ?_
                refine g_iast (pc := 76) hK (kdm kd_32) nl_32 (by decide) (by decide) dd_X8_findsNext_76 (by omega) (by omega) ⟨by omega, by omega⟩ ?_
                refine g_iconst (pc := 77) (x := 1) hK dd_X8_findsNext_77 (by decide) ?_
                refine g_iret (pc := 78) hK hr hlocks dd_X8_findsNext_78 rfl ?_
                first | exact g_fin (hT (us B16 lx.toNat i) T17 (by exact aug_rec (by omega) ⟨hi.1, by omega⟩ hv hsr_ (by omega) hme_ (by omega) haug_)) (by first | rfl | omega | (subst_vars; first | rfl | omega)) (by simp (disch := decide) only [Int.reduceToNat, up_sr, sr_cp, sr_k, sr_o, sr_sr, us_us, @sr_lt _ 33 32 _ _ (by decide)]; try rfl) | (exfalso; omega)
              · replace c20 : Nno (M 27 4).toNat (mbe (M 28) (M 29) (M 30) (M 31)) x15 (M 32) ((us Tg lx.toNat i)) T19 := c20
                refine g_mem (M2 := sr M 33 T19) (by simp (disch := decide) only [Int.reduceToNat, up_sr, sr_cp, sr_k, sr_o, sr_sr, us_us, @sr_lt _ 33 32 _ _ (by decide)]; try rfl) ?_
                have hnno_ : Nno (M 27 4).toNat (mbe (M 28) (M 29) (M 30) (M 31)) (M 32 lx.toNat) (M 32) (us Tg lx.toNat i) T19 := by rw [← ex15]; exact c20
                refine g_if_eq (pc := 67) (tgt := 79) hK dd_X8_findsNext_67 (by decide) (by decide) (fun _ => ?_) (fun c22 => absurd (by decide) c22)
                have hsn_ : Sr (M 27 4).toNat (mbe (M 28) (M 29) (M 30) (M 31)) i (M 32) (M 33) (lx.toNat + 1) T19 := sr_rec (by omega) hi.1 hsr_ (by omega) hnno_
                refine g_iinc (pc := 79) (i := 3) (y := lx + 1) (L' := [(0, gR 27), (1, gI i), (2, gI 6), (3, gI (lx + 1))]) hK dd_X8_findsNext_79 rfl rfl (by decide) rfl ?_
                refine g_goto (pc := 82) (tgt := 10) hK dd_X8_findsNext_82 (by decide) ?_
                refine g_sub (L' := [(0, gR 27), (1, gI i), (2, gI 6), (3, gI (lx + 1))]) [0, 1, 2, 3] rfl ?_
                refine g_mem (M2 := sr M 33 T19) (by first | rfl | (simp (disch := decide) only [Int.reduceToNat, up_sr, sr_cp, sr_k, sr_o, sr_sr, us_us, @sr_lt _ 33 32 _ _ (by decide)]; try rfl)) ?_
                exact ih3 (lx + 1) T19 (by omega) (by rw [tn1 (by omega)]; exact hsn_) (Nat.le_trans htr (trd_mono hsn_.1)) (by omega)
          · replace c11 : ¬ (mbe (M 28) (M 29) (M 30) (M 31) i.toNat lx.toNat) := c11
            have hme_ : ¬ (mbe (M 28) (M 29) (M 30) (M 31)) i.toNat lx.toNat := c11
            refine g_if_eq (pc := 34) (tgt := 79) hK dd_X8_findsNext_34 (by decide) (by decide) (fun _ => ?_) (fun c23 => absurd (by decide) c23)
            have hsn_ : Sr (M 27 4).toNat (mbe (M 28) (M 29) (M 30) (M 31)) i (M 32) (M 33) (lx.toNat + 1) Tg := sr_next hsr_ (Or.inr hme_)
            refine g_iinc (pc := 79) (i := 3) (y := lx + 1) (L' := [(0, gR 27), (1, gI i), (2, gI 6), (3, gI (lx + 1))]) hK dd_X8_findsNext_79 rfl rfl (by decide) rfl ?_
            refine g_goto (pc := 82) (tgt := 10) hK dd_X8_findsNext_82 (by decide) ?_
            refine g_sub (L' := [(0, gR 27), (1, gI i), (2, gI 6), (3, gI (lx + 1))]) [0, 1, 2, 3] rfl ?_
            refine g_mem (M2 := sr M 33 Tg) (by first | rfl | (simp (disch := decide) only [Int.reduceToNat, up_sr, sr_cp, sr_k, sr_o, sr_sr, us_us, @sr_lt _ 33 32 _ _ (by decide)]; try rfl)) ?_
            exact ih3 (lx + 1) Tg (by omega) (by rw [tn1 (by omega)]; exact hsn_) (Nat.le_trans htr (trd_mono hsn_.1)) (by omega)
  refine g_mem (M2 := sr M 33 (M 33)) (sr_self.symm) ?_
  refine g_sub (L' := [(0, gR 27), (1, gI i), (2, gI 6), (3, gI 0)]) [0, 1, 2, 3] rfl ?_
  exact lp4 _ 0 (M 33) (by omega) (sr0) (htr) (Nat.lt_succ_self _)
set_option maxHeartbeats 4000000 in
set_option maxRecDepth 100000 in
theorem c_fn5 {l : Launch} {M : Mem} {Pq : Option gV → Mem → Prop} (i : Int) (hi : 0 ≤ i ∧ i < M 27 4) (hsc : 0 ≤ M 27 4 ∧ M 27 4 ≤ 20) (hv : Vl (M 27 4).toNat (mbe (M 28) (M 29) (M 30) (M 31)) (M 32)) (htr : 5 ≤ trd (M 33) (M 27 4).toNat) (hT : ∀ (B1 : Nat → Int) (T1 : Nat → Int), (Aug (M 27 4).toNat (mbe (M 28) (M 29) (M 30) (M 31)) i (M 32) (M 33) B1) → Pq (some (gI 1)) (sr (sr M 32 B1) 33 T1)) (hF : ∀ (T1 : Nat → Int), (Nno (M 27 4).toNat (mbe (M 28) (M 29) (M 30) (M 31)) i (M 32) (M 33) T1) → Pq (some (gI 0)) (sr M 33 T1)) : gCtr l my_X8_findsNext mb_X8_findsNext 4 ((some .boolean)) 16 [gR 27, gI i, gI 5] M Pq := by
  refine g_intro (by decide) (Nat.le_of_ble_eq_true rfl) ?_
  intro p e s m args below meth c D cy q A hK hr hlocks hw
  refine g_sub (L' := [(0, gR 27), (1, gI i), (2, gI 5)]) [0, 1, 2] rfl ?_
  refine g_iloadn (pc := 0) (i := 2) (x := 5) hK dd_X8_findsNext_0 rfl rfl ?_
  refine g_bipush (pc := 1) (x := 20) hK dd_X8_findsNext_1 (by decide) ?_
  refine g_icmp_le (pc := 3) (tgt := 8) hK dd_X8_findsNext_3 (by decide) (by decide) (by decide) (fun _ => ?_) (fun c1 => absurd (by decide) c1)
  refine g_iconst (pc := 8) (x := 0) hK dd_X8_findsNext_8 (by decide) ?_
  refine g_istoren (pc := 9) (i := 3) (L' := [(0, gR 27), (1, gI i), (2, gI 5), (3, gI 0)]) hK dd_X8_findsNext_9 rfl (by decide) rfl ?_
  have lp4 : ∀ (n2 : Nat) (lx : Int) (Tg : Nat → Int), (0 ≤ lx ∧ lx ≤ M 27 4) → (Sr (M 27 4).toNat (mbe (M 28) (M 29) (M 30) (M 31)) i (M 32) (M 33) lx.toNat Tg) → (5 ≤ trd Tg (M 27 4).toNat) → (M 27 4 - lx).toNat < n2 → G p l e (rmD 16) s m args below meth c D cy q A 0 0 4 (MQ below (gQc D cy q A Pq) args s 0 0 A) 10 [(0, gR 27), (1, gI i), (2, gI 5), (3, gI lx)] [] (sr M 33 Tg) := by
    intro n2
    induction n2 with
    | zero => intro lx Tg iv5 hsr_ htr_ hm6; exact absurd hm6 (Nat.not_lt_zero _)
    | succ n2 ih3 =>
      intro lx Tg iv5 hsr_ htr_ hm6
      refine g_iloadn (pc := 10) (i := 3) (x := lx) hK dd_X8_findsNext_10 rfl rfl ?_
      refine g_aloadn (pc := 11) (i := 0) (x := 27) hK dd_X8_findsNext_11 rfl rfl ?_
      refine g_geti (pc := 12) (f := (0, 0)) (j := 4) hK (kdm kd_27) rfl ef_8 (by decide) rfl kk_200 nl_27 dd_X8_findsNext_12 rfl (fun x7 ex7 rx7 => ?_)
      replace ex7 : x7 = M 27 4 := ex7
      refine g_icmp_ge (pc := 15) (tgt := 85) hK dd_X8_findsNext_15 (by decide) ⟨by omega, by omega⟩ rx7 (fun c8 => ?_) (fun c8 => ?_)
      · refine g_iconst (pc := 85) (x := 0) hK dd_X8_findsNext_85 (by decide) ?_
        refine g_iret (pc := 86) hK hr hlocks dd_X8_findsNext_86 rfl ?_
        first | exact g_fin (hF Tg (by exact sr_end hsr_ (by omega))) (by first | rfl | omega | (subst_vars; first | rfl | omega)) (rfl) | (exfalso; omega)
      · refine g_aloadn (pc := 18) (i := 0) (x := 27) hK dd_X8_findsNext_18 rfl rfl ?_
        refine g_getv (pc := 19) (f := (1, 6)) (j := 6) (v := gR 33) hK (kdm kd_27) rfl ef_8 (by decide) rfl kk_203 dd_X8_findsNext_19 rfl ?_
        refine g_iloadn (pc := 22) (i := 3) (x := lx) hK dd_X8_findsNext_22 rfl rfl ?_
        refine g_iald (pc := 23) hK (kdm kd_33) nl_33 (by decide) dd_X8_findsNext_23 (by omega) (by omega) (fun x9 ex9 rx9 => ?_)
        replace ex9 : x9 = Tg lx.toNat := by first | exact ex9 | (rw [ex9]; simp [up, us, cp, sr])
        refine g_iconst (pc := 24) (x := (-1)) hK dd_X8_findsNext_24 (by decide) ?_
        refine g_icmp_ne (pc := 25) (tgt := 79) hK dd_X8_findsNext_25 (by decide) rx9 (by decide) (fun c10 => ?_) (fun c10 => ?_)
        · have hsn_ : Sr (M 27 4).toNat (mbe (M 28) (M 29) (M 30) (M 31)) i (M 32) (M 33) (lx.toNat + 1) Tg := sr_next hsr_ (Or.inl (by omega))
          refine g_iinc (pc := 79) (i := 3) (y := lx + 1) (L' := [(0, gR 27), (1, gI i), (2, gI 5), (3, gI (lx + 1))]) hK dd_X8_findsNext_79 rfl rfl (by decide) rfl ?_
          refine g_goto (pc := 82) (tgt := 10) hK dd_X8_findsNext_82 (by decide) ?_
          refine g_sub (L' := [(0, gR 27), (1, gI i), (2, gI 5), (3, gI (lx + 1))]) [0, 1, 2, 3] rfl ?_
          refine g_mem (M2 := sr M 33 Tg) (by first | rfl | (simp (disch := decide) only [Int.reduceToNat, up_sr, sr_cp, sr_k, sr_o, sr_sr, us_us, @sr_lt _ 33 32 _ _ (by decide)]; try rfl)) ?_
          exact ih3 (lx + 1) Tg (by omega) (by rw [tn1 (by omega)]; exact hsn_) (Nat.le_trans htr (trd_mono hsn_.1)) (by omega)
        · have hlt_ := trd_lt (T := Tg) (n := (M 27 4).toNat) (l := lx.toNat) (by omega) (by omega)
          refine g_aloadn (pc := 28) (i := 0) (x := 27) hK dd_X8_findsNext_28 rfl rfl ?_
          refine g_iloadn (pc := 29) (i := 1) (x := i) hK dd_X8_findsNext_29 rfl rfl ?_
          refine g_iloadn (pc := 30) (i := 3) (x := lx) hK dd_X8_findsNext_30 rfl rfl ?_
          refine g_callV (pc := 31) (As := [gI i, gI lx]) hK ws_Sightings_51 md_X8_mayBeOf ⟨Nat.zero_le _, Nat.zero_le _⟩ ⟨by decide, by decide⟩ (kdm kd_27) rfl rfl dd_X8_findsNext_31 rfl rfl (Nat.le_of_ble_eq_true rfl) (c_mayBeOf i lx (show 0 ≤ i ∧ i < 20 by omega) (show 0 ≤ lx ∧ lx < 20 by omega) (fun c11 => g_r1 ?_) (fun c11 => g_r1 ?_))
          · replace c11 : mbe (M 28) (M 29) (M 30) (M 31) i.toNat lx.toNat := c11
            have hme_ : (mbe (M 28) (M 29) (M 30) (M 31)) i.toNat lx.toNat := c11
            refine g_if_eq (pc := 34) (tgt := 79) hK dd_X8_findsNext_34 (by decide) (by decide) (fun c12 => absurd c12 (by decide)) (fun _ => ?_)
            refine g_aloadn (pc := 37) (i := 0) (x := 27) hK dd_X8_findsNext_37 rfl rfl ?_
            refine g_getv (pc := 38) (f := (1, 6)) (j := 6) (v := gR 33) hK (kdm kd_27) rfl ef_8 (by decide) rfl kk_203 dd_X8_findsNext_38 rfl ?_
            refine g_iloadn (pc := 41) (i := 3) (x := lx) hK dd_X8_findsNext_41 rfl rfl ?_
            refine g_iloadn (pc := 42) (i := 1) (x := i) hK dd_X8_findsNext_42 rfl rfl ?_
            refine g_iast (pc := 43) hK (kdm kd_33) nl_33 (by decide) (by decide) dd_X8_findsNext_43 (by omega) (by omega) ⟨by omega, by omega⟩ ?_
            refine g_mem (M2 := sr M 33 (us Tg lx.toNat i)) (by simp (disch := decide) only [Int.reduceToNat, up_sr, sr_cp, sr_k, sr_o, sr_sr, us_us, @sr_lt _ 33 32 _ _ (by decide)]; try rfl) ?_
            have htr2_ : 6 ≤ trd (us Tg lx.toNat i) (M 27 4).toNat := by rw [trd_us (by omega) (by omega) (by omega)]; omega
            refine g_aloadn (pc := 44) (i := 0) (x := 27) hK dd_X8_findsNext_44 rfl rfl ?_
            refine g_getv (pc := 45) (f := (1, 5)) (j := 5) (v := gR 32) hK (kdm kd_27) rfl ef_8 (by decide) rfl kk_202 dd_X8_findsNext_45 rfl ?_
            refine g_iloadn (pc := 48) (i := 3) (x := lx) hK dd_X8_findsNext_48 rfl rfl ?_
            refine g_iald (pc := 49) hK (kdm kd_32) nl_32 (by decide) dd_X8_findsNext_49 (by omega) (by omega) (fun x13 ex13 rx13 => ?_)
            replace ex13 : x13 = M 32 lx.toNat := ex13
            refine g_iconst (pc := 50) (x := (-1)) hK dd_X8_findsNext_50 (by decide) ?_
            refine g_icmp_eq (pc := 51) (tgt := 70) hK dd_X8_findsNext_51 (by decide) rx13 (by decide) (fun c14 => ?_) (fun c14 => ?_)
            · skip
              refine g_aloadn (pc := 70) (i := 0) (x := 27) hK dd_X8_findsNext_70 rfl rfl ?_
              refine g_getv (pc := 71) (f := (1, 5)) (j := 5) (v := gR 32) hK (kdm kd_27) rfl ef_8 (by decide) rfl kk_202 dd_X8_findsNext_71 rfl ?_
              refine g_iloadn (pc := 74) (i := 3) (x := lx) hK dd_X8_findsNext_74 rfl rfl ?_
              refine g_iloadn (pc := 75) (i := 1) (x := i) hK dd_X8_findsNext_75 rfl rfl ?_
              refine g_iast (pc := 76) hK (kdm kd_32) nl_32 (by decide) (by decide) dd_X8_findsNext_76 (by omega) (by omega) ⟨by omega, by omega⟩ ?_
              refine g_iconst (pc := 77) (x := 1) hK dd_X8_findsNext_77 (by decide) ?_
              refine g_iret (pc := 78) hK hr hlocks dd_X8_findsNext_78 rfl ?_
              first | exact g_fin (hT (us (M 32) lx.toNat i) (us Tg lx.toNat i) (by exact aug_base (by omega) ⟨hi.1, by omega⟩ hv hsr_ (by omega) hme_ (by omega))) (by first | rfl | omega | (subst_vars; first | rfl | omega)) (by simp (disch := decide) only [Int.reduceToNat, up_sr, sr_cp, sr_k, sr_o, sr_sr, us_us, @sr_lt _ 33 32 _ _ (by decide)]; try rfl) | (exfalso; omega)
            · have hvl_ := hv lx.toNat (by omega)
              refine g_aloadn (pc := 54) (i := 0) (x := 27) hK dd_X8_findsNext_54 rfl rfl ?_
              refine g_aloadn (pc := 55) (i := 0) (x := 27) hK dd_X8_findsNext_55 rfl rfl ?_
              refine g_getv (pc := 56) (f := (1, 5)) (j := 5) (v := gR 32) hK (kdm kd_27) rfl ef_8 (by decide) rfl kk_202 dd_X8_findsNext_56 rfl ?_
              refine g_iloadn (pc := 59) (i := 3) (x := lx) hK dd_X8_findsNext_59 rfl rfl ?_
              refine g_iald (pc := 60) hK (kdm kd_32) nl_32 (by decide) dd_X8_findsNext_60 (by omega) (by omega) (fun x15 ex15 rx15 => ?_)
              replace ex15 : x15 = M 32 lx.toNat := ex15
              skip
              refine g_iloadn (pc := 61) (i := 2) (x := 5) hK dd_X8_findsNext_61 rfl rfl ?_
              refine g_iconst (pc := 62) (x := 1) hK dd_X8_findsNext_62 (by decide) ?_
              refine g_iadd (pc := 63) (z := 6) hK dd_X8_findsNext_63 rfl ?_
              refine g_callT (pc := 64) (As := [gR 27, gI x15, gI 6]) hK ws_Sightings_47 md_X8_findsNext ⟨Nat.zero_le _, Nat.zero_le _⟩ ⟨by decide, by decide⟩ dd_X8_findsNext_64 rfl rfl (Nat.le_of_ble_eq_true rfl) (c_fn6 x15 (show 0 ≤ x15 ∧ x15 < M 27 4 by omega) hsc hv htr2_ (fun B16 T17 c18 => g_r1 ?_) (fun T19 c20 => g_r1 ?_))
              · replace c18 : Aug (M 27 4).toNat (mbe (M 28) (M 29) (M 30) (M 31)) x15 (M 32) ((us Tg lx.toNat i)) B16 := c18
                refine g_mem (M2 := sr (sr M 32 B16) 33 T17) (by simp (disch := decide) only [Int.reduceToNat, up_sr, sr_cp, sr_k, sr_o, sr_sr, us_us, @sr_lt _ 33 32 _ _ (by decide)]; try rfl) ?_
                have haug_ : Aug (M 27 4).toNat (mbe (M 28) (M 29) (M 30) (M 31)) (M 32 lx.toNat) (M 32) (us Tg lx.toNat i) B16 := by rw [← ex15]; exact c18
                refine g_if_eq (pc := 67) (tgt := 79) hK dd_X8_findsNext_67 (by decide) (by decide) (fun c21 => absurd c21 (by decide)) (fun _ => ?_)
                skip
                refine g_aloadn (pc := 70) (i := 0) (x := 27) hK dd_X8_findsNext_70 rfl rfl ?_
                refine g_getv (pc := 71) (f := (1, 5)) (j := 5) (v := gR 32) hK (kdm kd_27) rfl ef_8 (by decide) rfl kk_202 dd_X8_findsNext_71 rfl ?_
                refine g_iloadn (pc := 74) (i := 3) (x := lx) hK dd_X8_findsNext_74 rfl rfl ?_
                refine g_iloadn (pc := 75) (i := 1) (x := i) hK dd_X8_findsNext_75 rfl rfl ?_
                refine g_iast (pc := 76) hK (kdm kd_32) nl_32 (by decide) (by decide) dd_X8_findsNext_76 (by omega) (by omega) ⟨by omega, by omega⟩ ?_
                refine g_iconst (pc := 77) (x := 1) hK dd_X8_findsNext_77 (by decide) ?_
                refine g_iret (pc := 78) hK hr hlocks dd_X8_findsNext_78 rfl ?_
                first | exact g_fin (hT (us B16 lx.toNat i) T17 (by exact aug_rec (by omega) ⟨hi.1, by omega⟩ hv hsr_ (by omega) hme_ (by omega) haug_)) (by first | rfl | omega | (subst_vars; first | rfl | omega)) (by simp (disch := decide) only [Int.reduceToNat, up_sr, sr_cp, sr_k, sr_o, sr_sr, us_us, @sr_lt _ 33 32 _ _ (by decide)]; try rfl) | (exfalso; omega)
              · replace c20 : Nno (M 27 4).toNat (mbe (M 28) (M 29) (M 30) (M 31)) x15 (M 32) ((us Tg lx.toNat i)) T19 := c20
                refine g_mem (M2 := sr M 33 T19) (by simp (disch := decide) only [Int.reduceToNat, up_sr, sr_cp, sr_k, sr_o, sr_sr, us_us, @sr_lt _ 33 32 _ _ (by decide)]; try rfl) ?_
                have hnno_ : Nno (M 27 4).toNat (mbe (M 28) (M 29) (M 30) (M 31)) (M 32 lx.toNat) (M 32) (us Tg lx.toNat i) T19 := by rw [← ex15]; exact c20
                refine g_if_eq (pc := 67) (tgt := 79) hK dd_X8_findsNext_67 (by decide) (by decide) (fun _ => ?_) (fun c22 => absurd (by decide) c22)
                have hsn_ : Sr (M 27 4).toNat (mbe (M 28) (M 29) (M 30) (M 31)) i (M 32) (M 33) (lx.toNat + 1) T19 := sr_rec (by omega) hi.1 hsr_ (by omega) hnno_
                refine g_iinc (pc := 79) (i := 3) (y := lx + 1) (L' := [(0, gR 27), (1, gI i), (2, gI 5), (3, gI (lx + 1))]) hK dd_X8_findsNext_79 rfl rfl (by decide) rfl ?_
                refine g_goto (pc := 82) (tgt := 10) hK dd_X8_findsNext_82 (by decide) ?_
                refine g_sub (L' := [(0, gR 27), (1, gI i), (2, gI 5), (3, gI (lx + 1))]) [0, 1, 2, 3] rfl ?_
                refine g_mem (M2 := sr M 33 T19) (by first | rfl | (simp (disch := decide) only [Int.reduceToNat, up_sr, sr_cp, sr_k, sr_o, sr_sr, us_us, @sr_lt _ 33 32 _ _ (by decide)]; try rfl)) ?_
                exact ih3 (lx + 1) T19 (by omega) (by rw [tn1 (by omega)]; exact hsn_) (Nat.le_trans htr (trd_mono hsn_.1)) (by omega)
          · replace c11 : ¬ (mbe (M 28) (M 29) (M 30) (M 31) i.toNat lx.toNat) := c11
            have hme_ : ¬ (mbe (M 28) (M 29) (M 30) (M 31)) i.toNat lx.toNat := c11
            refine g_if_eq (pc := 34) (tgt := 79) hK dd_X8_findsNext_34 (by decide) (by decide) (fun _ => ?_) (fun c23 => absurd (by decide) c23)
            have hsn_ : Sr (M 27 4).toNat (mbe (M 28) (M 29) (M 30) (M 31)) i (M 32) (M 33) (lx.toNat + 1) Tg := sr_next hsr_ (Or.inr hme_)
            refine g_iinc (pc := 79) (i := 3) (y := lx + 1) (L' := [(0, gR 27), (1, gI i), (2, gI 5), (3, gI (lx + 1))]) hK dd_X8_findsNext_79 rfl rfl (by decide) rfl ?_
            refine g_goto (pc := 82) (tgt := 10) hK dd_X8_findsNext_82 (by decide) ?_
            refine g_sub (L' := [(0, gR 27), (1, gI i), (2, gI 5), (3, gI (lx + 1))]) [0, 1, 2, 3] rfl ?_
            refine g_mem (M2 := sr M 33 Tg) (by first | rfl | (simp (disch := decide) only [Int.reduceToNat, up_sr, sr_cp, sr_k, sr_o, sr_sr, us_us, @sr_lt _ 33 32 _ _ (by decide)]; try rfl)) ?_
            exact ih3 (lx + 1) Tg (by omega) (by rw [tn1 (by omega)]; exact hsn_) (Nat.le_trans htr (trd_mono hsn_.1)) (by omega)
  refine g_mem (M2 := sr M 33 (M 33)) (sr_self.symm) ?_
  refine g_sub (L' := [(0, gR 27), (1, gI i), (2, gI 5), (3, gI 0)]) [0, 1, 2, 3] rfl ?_
  exact lp4 _ 0 (M 33) (by omega) (sr0) (htr) (Nat.lt_succ_self _)
set_option maxHeartbeats 4000000 in
set_option maxRecDepth 100000 in
theorem c_fn4 {l : Launch} {M : Mem} {Pq : Option gV → Mem → Prop} (i : Int) (hi : 0 ≤ i ∧ i < M 27 4) (hsc : 0 ≤ M 27 4 ∧ M 27 4 ≤ 20) (hv : Vl (M 27 4).toNat (mbe (M 28) (M 29) (M 30) (M 31)) (M 32)) (htr : 4 ≤ trd (M 33) (M 27 4).toNat) (hT : ∀ (B1 : Nat → Int) (T1 : Nat → Int), (Aug (M 27 4).toNat (mbe (M 28) (M 29) (M 30) (M 31)) i (M 32) (M 33) B1) → Pq (some (gI 1)) (sr (sr M 32 B1) 33 T1)) (hF : ∀ (T1 : Nat → Int), (Nno (M 27 4).toNat (mbe (M 28) (M 29) (M 30) (M 31)) i (M 32) (M 33) T1) → Pq (some (gI 0)) (sr M 33 T1)) : gCtr l my_X8_findsNext mb_X8_findsNext 4 ((some .boolean)) 17 [gR 27, gI i, gI 4] M Pq := by
  refine g_intro (by decide) (Nat.le_of_ble_eq_true rfl) ?_
  intro p e s m args below meth c D cy q A hK hr hlocks hw
  refine g_sub (L' := [(0, gR 27), (1, gI i), (2, gI 4)]) [0, 1, 2] rfl ?_
  refine g_iloadn (pc := 0) (i := 2) (x := 4) hK dd_X8_findsNext_0 rfl rfl ?_
  refine g_bipush (pc := 1) (x := 20) hK dd_X8_findsNext_1 (by decide) ?_
  refine g_icmp_le (pc := 3) (tgt := 8) hK dd_X8_findsNext_3 (by decide) (by decide) (by decide) (fun _ => ?_) (fun c1 => absurd (by decide) c1)
  refine g_iconst (pc := 8) (x := 0) hK dd_X8_findsNext_8 (by decide) ?_
  refine g_istoren (pc := 9) (i := 3) (L' := [(0, gR 27), (1, gI i), (2, gI 4), (3, gI 0)]) hK dd_X8_findsNext_9 rfl (by decide) rfl ?_
  have lp4 : ∀ (n2 : Nat) (lx : Int) (Tg : Nat → Int), (0 ≤ lx ∧ lx ≤ M 27 4) → (Sr (M 27 4).toNat (mbe (M 28) (M 29) (M 30) (M 31)) i (M 32) (M 33) lx.toNat Tg) → (4 ≤ trd Tg (M 27 4).toNat) → (M 27 4 - lx).toNat < n2 → G p l e (rmD 17) s m args below meth c D cy q A 0 0 4 (MQ below (gQc D cy q A Pq) args s 0 0 A) 10 [(0, gR 27), (1, gI i), (2, gI 4), (3, gI lx)] [] (sr M 33 Tg) := by
    intro n2
    induction n2 with
    | zero => intro lx Tg iv5 hsr_ htr_ hm6; exact absurd hm6 (Nat.not_lt_zero _)
    | succ n2 ih3 =>
      intro lx Tg iv5 hsr_ htr_ hm6
      refine g_iloadn (pc := 10) (i := 3) (x := lx) hK dd_X8_findsNext_10 rfl rfl ?_
      refine g_aloadn (pc := 11) (i := 0) (x := 27) hK dd_X8_findsNext_11 rfl rfl ?_
      refine g_geti (pc := 12) (f := (0, 0)) (j := 4) hK (kdm kd_27) rfl ef_8 (by decide) rfl kk_200 nl_27 dd_X8_findsNext_12 rfl (fun x7 ex7 rx7 => ?_)
      replace ex7 : x7 = M 27 4 := ex7
      refine g_icmp_ge (pc := 15) (tgt := 85) hK dd_X8_findsNext_15 (by decide) ⟨by omega, by omega⟩ rx7 (fun c8 => ?_) (fun c8 => ?_)
      · refine g_iconst (pc := 85) (x := 0) hK dd_X8_findsNext_85 (by decide) ?_
        refine g_iret (pc := 86) hK hr hlocks dd_X8_findsNext_86 rfl ?_
        first | exact g_fin (hF Tg (by exact sr_end hsr_ (by omega))) (by first | rfl | omega | (subst_vars; first | rfl | omega)) (rfl) | (exfalso; omega)
      · refine g_aloadn (pc := 18) (i := 0) (x := 27) hK dd_X8_findsNext_18 rfl rfl ?_
        refine g_getv (pc := 19) (f := (1, 6)) (j := 6) (v := gR 33) hK (kdm kd_27) rfl ef_8 (by decide) rfl kk_203 dd_X8_findsNext_19 rfl ?_
        refine g_iloadn (pc := 22) (i := 3) (x := lx) hK dd_X8_findsNext_22 rfl rfl ?_
        refine g_iald (pc := 23) hK (kdm kd_33) nl_33 (by decide) dd_X8_findsNext_23 (by omega) (by omega) (fun x9 ex9 rx9 => ?_)
        replace ex9 : x9 = Tg lx.toNat := by first | exact ex9 | (rw [ex9]; simp [up, us, cp, sr])
        refine g_iconst (pc := 24) (x := (-1)) hK dd_X8_findsNext_24 (by decide) ?_
        refine g_icmp_ne (pc := 25) (tgt := 79) hK dd_X8_findsNext_25 (by decide) rx9 (by decide) (fun c10 => ?_) (fun c10 => ?_)
        · have hsn_ : Sr (M 27 4).toNat (mbe (M 28) (M 29) (M 30) (M 31)) i (M 32) (M 33) (lx.toNat + 1) Tg := sr_next hsr_ (Or.inl (by omega))
          refine g_iinc (pc := 79) (i := 3) (y := lx + 1) (L' := [(0, gR 27), (1, gI i), (2, gI 4), (3, gI (lx + 1))]) hK dd_X8_findsNext_79 rfl rfl (by decide) rfl ?_
          refine g_goto (pc := 82) (tgt := 10) hK dd_X8_findsNext_82 (by decide) ?_
          refine g_sub (L' := [(0, gR 27), (1, gI i), (2, gI 4), (3, gI (lx + 1))]) [0, 1, 2, 3] rfl ?_
          refine g_mem (M2 := sr M 33 Tg) (by first | rfl | (simp (disch := decide) only [Int.reduceToNat, up_sr, sr_cp, sr_k, sr_o, sr_sr, us_us, @sr_lt _ 33 32 _ _ (by decide)]; try rfl)) ?_
          exact ih3 (lx + 1) Tg (by omega) (by rw [tn1 (by omega)]; exact hsn_) (Nat.le_trans htr (trd_mono hsn_.1)) (by omega)
        · have hlt_ := trd_lt (T := Tg) (n := (M 27 4).toNat) (l := lx.toNat) (by omega) (by omega)
          refine g_aloadn (pc := 28) (i := 0) (x := 27) hK dd_X8_findsNext_28 rfl rfl ?_
          refine g_iloadn (pc := 29) (i := 1) (x := i) hK dd_X8_findsNext_29 rfl rfl ?_
          refine g_iloadn (pc := 30) (i := 3) (x := lx) hK dd_X8_findsNext_30 rfl rfl ?_
          refine g_callV (pc := 31) (As := [gI i, gI lx]) hK ws_Sightings_51 md_X8_mayBeOf ⟨Nat.zero_le _, Nat.zero_le _⟩ ⟨by decide, by decide⟩ (kdm kd_27) rfl rfl dd_X8_findsNext_31 rfl rfl (Nat.le_of_ble_eq_true rfl) (c_mayBeOf i lx (show 0 ≤ i ∧ i < 20 by omega) (show 0 ≤ lx ∧ lx < 20 by omega) (fun c11 => g_r1 ?_) (fun c11 => g_r1 ?_))
          · replace c11 : mbe (M 28) (M 29) (M 30) (M 31) i.toNat lx.toNat := c11
            have hme_ : (mbe (M 28) (M 29) (M 30) (M 31)) i.toNat lx.toNat := c11
            refine g_if_eq (pc := 34) (tgt := 79) hK dd_X8_findsNext_34 (by decide) (by decide) (fun c12 => absurd c12 (by decide)) (fun _ => ?_)
            refine g_aloadn (pc := 37) (i := 0) (x := 27) hK dd_X8_findsNext_37 rfl rfl ?_
            refine g_getv (pc := 38) (f := (1, 6)) (j := 6) (v := gR 33) hK (kdm kd_27) rfl ef_8 (by decide) rfl kk_203 dd_X8_findsNext_38 rfl ?_
            refine g_iloadn (pc := 41) (i := 3) (x := lx) hK dd_X8_findsNext_41 rfl rfl ?_
            refine g_iloadn (pc := 42) (i := 1) (x := i) hK dd_X8_findsNext_42 rfl rfl ?_
            refine g_iast (pc := 43) hK (kdm kd_33) nl_33 (by decide) (by decide) dd_X8_findsNext_43 (by omega) (by omega) ⟨by omega, by omega⟩ ?_
            refine g_mem (M2 := sr M 33 (us Tg lx.toNat i)) (by simp (disch := decide) only [Int.reduceToNat, up_sr, sr_cp, sr_k, sr_o, sr_sr, us_us, @sr_lt _ 33 32 _ _ (by decide)]; try rfl) ?_
            have htr2_ : 5 ≤ trd (us Tg lx.toNat i) (M 27 4).toNat := by rw [trd_us (by omega) (by omega) (by omega)]; omega
            refine g_aloadn (pc := 44) (i := 0) (x := 27) hK dd_X8_findsNext_44 rfl rfl ?_
            refine g_getv (pc := 45) (f := (1, 5)) (j := 5) (v := gR 32) hK (kdm kd_27) rfl ef_8 (by decide) rfl kk_202 dd_X8_findsNext_45 rfl ?_
            refine g_iloadn (pc := 48) (i := 3) (x := lx) hK dd_X8_findsNext_48 rfl rfl ?_
            refine g_iald (pc := 49) hK (kdm kd_32) nl_32 (by decide) dd_X8_findsNext_49 (by omega) (by omega) (fun x13 ex13 rx13 => ?_)
            replace ex13 : x13 = M 32 lx.toNat := ex13
            refine g_iconst (pc := 50) (x := (-1)) hK dd_X8_findsNext_50 (by decide) ?_
            refine g_icmp_eq (pc := 51) (tgt := 70) hK dd_X8_findsNext_51 (by decide) rx13 (by decide) (fun c14 => ?_) (fun c14 => ?_)
            · skip
              refine g_aloadn (pc := 70) (i := 0) (x := 27) hK dd_X8_findsNext_70 rfl rfl ?_
              refine g_getv (pc := 71) (f := (1, 5)) (j := 5) (v := gR 32) hK (kdm kd_27) rfl ef_8 (by decide) rfl kk_202 dd_X8_findsNext_71 rfl ?_
              refine g_iloadn (pc := 74) (i := 3) (x := lx) hK dd_X8_findsNext_74 rfl rfl ?_
              refine g_iloadn (pc := 75) (i := 1) (x := i) hK dd_X8_findsNext_75 rfl rfl ?_
              refine g_iast (pc := 76) hK (kdm kd_32) nl_32 (by decide) (by decide) dd_X8_findsNext_76 (by omega) (by omega) ⟨by omega, by omega⟩ ?_
              refine g_iconst (pc := 77) (x := 1) hK dd_X8_findsNext_77 (by decide) ?_
              refine g_iret (pc := 78) hK hr hlocks dd_X8_findsNext_78 rfl ?_
              first | exact g_fin (hT (us (M 32) lx.toNat i) (us Tg lx.toNat i) (by exact aug_base (by omega) ⟨hi.1, by omega⟩ hv hsr_ (by omega) hme_ (by omega))) (by first | rfl | omega | (subst_vars; first | rfl | omega)) (by simp (disch := decide) only [Int.reduceToNat, up_sr, sr_cp, sr_k, sr_o, sr_sr, us_us, @sr_lt _ 33 32 _ _ (by decide)]; try rfl) | (exfalso; omega)
            · have hvl_ := hv lx.toNat (by omega)
              refine g_aloadn (pc := 54) (i := 0) (x := 27) hK dd_X8_findsNext_54 rfl rfl ?_
              refine g_aloadn (pc := 55) (i := 0) (x := 27) hK dd_X8_findsNext_55 rfl rfl ?_
              refine g_getv (pc := 56) (f := (1, 5)) (j := 5) (v := gR 32) hK (kdm kd_27) rfl ef_8 (by decide) rfl kk_202 dd_X8_findsNext_56 rfl ?_
              refine g_iloadn (pc := 59) (i := 3) (x := lx) hK dd_X8_findsNext_59 rfl rfl ?_
              refine g_iald (pc := 60) hK (kdm kd_32) nl_32 (by decide) dd_X8_findsNext_60 (by omega) (by omega) (fun x15 ex15 rx15 => ?_)
              replace ex15 : x15 = M 32 lx.toNat := ex15
              skip
              refine g_iloadn (pc := 61) (i := 2) (x := 4) hK dd_X8_findsNext_61 rfl rfl ?_
              refine g_iconst (pc := 62) (x := 1) hK dd_X8_findsNext_62 (by decide) ?_
              refine g_iadd (pc := 63) (z := 5) hK dd_X8_findsNext_63 rfl ?_
              refine g_callT (pc := 64) (As := [gR 27, gI x15, gI 5]) hK ws_Sightings_47 md_X8_findsNext ⟨Nat.zero_le _, Nat.zero_le _⟩ ⟨by decide, by decide⟩ dd_X8_findsNext_64 rfl rfl (Nat.le_of_ble_eq_true rfl) (c_fn5 x15 (show 0 ≤ x15 ∧ x15 < M 27 4 by omega) hsc hv htr2_ (fun B16 T17 c18 => g_r1 ?_) (fun T19 c20 => g_r1 ?_))
              · replace c18 : Aug (M 27 4).toNat (mbe (M 28) (M 29) (M 30) (M 31)) x15 (M 32) ((us Tg lx.toNat i)) B16 := c18
                refine g_mem (M2 := sr (sr M 32 B16) 33 T17) (by simp (disch := decide) only [Int.reduceToNat, up_sr, sr_cp, sr_k, sr_o, sr_sr, us_us, @sr_lt _ 33 32 _ _ (by decide)]; try rfl) ?_
                have haug_ : Aug (M 27 4).toNat (mbe (M 28) (M 29) (M 30) (M 31)) (M 32 lx.toNat) (M 32) (us Tg lx.toNat i) B16 := by rw [← ex15]; exact c18
                refine g_if_eq (pc := 67) (tgt := 79) hK dd_X8_findsNext_67 (by decide) (by decide) (fun c21 => absurd c21 (by decide)) (fun _ => ?_)
                skip
                refine g_aloadn (pc := 70) (i := 0) (x := 27) hK dd_X8_findsNext_70 rfl rfl ?_
                refine g_getv (pc := 71) (f := (1, 5)) (j := 5) (v := gR 32) hK (kdm kd_27) rfl ef_8 (by decide) rfl kk_202 dd_X8_findsNext_71 rfl ?_
                refine g_iloadn (pc := 74) (i := 3) (x := lx) hK dd_X8_findsNext_74 rfl rfl ?_
                refine g_iloadn (pc := 75) (i := 1) (x := i) hK dd_X8_findsNext_75 rfl rfl ?_
                refine g_iast (pc := 76) hK (kdm kd_32) nl_32 (by decide) (by decide) dd_X8_findsNext_76 (by omega) (by omega) ⟨by omega, by omega⟩ ?_
                refine g_iconst (pc := 77) (x := 1) hK dd_X8_findsNext_77 (by decide) ?_
                refine g_iret (pc := 78) hK hr hlocks dd_X8_findsNext_78 rfl ?_
                first | exact g_fin (hT (us B16 lx.toNat i) T17 (by exact aug_rec (by omega) ⟨hi.1, by omega⟩ hv hsr_ (by omega) hme_ (by omega) haug_)) (by first | rfl | omega | (subst_vars; first | rfl | omega)) (by simp (disch := decide) only [Int.reduceToNat, up_sr, sr_cp, sr_k, sr_o, sr_sr, us_us, @sr_lt _ 33 32 _ _ (by decide)]; try rfl) | (exfalso; omega)
              · replace c20 : Nno (M 27 4).toNat (mbe (M 28) (M 29) (M 30) (M 31)) x15 (M 32) ((us Tg lx.toNat i)) T19 := c20
                refine g_mem (M2 := sr M 33 T19) (by simp (disch := decide) only [Int.reduceToNat, up_sr, sr_cp, sr_k, sr_o, sr_sr, us_us, @sr_lt _ 33 32 _ _ (by decide)]; try rfl) ?_
                have hnno_ : Nno (M 27 4).toNat (mbe (M 28) (M 29) (M 30) (M 31)) (M 32 lx.toNat) (M 32) (us Tg lx.toNat i) T19 := by rw [← ex15]; exact c20
                refine g_if_eq (pc := 67) (tgt := 79) hK dd_X8_findsNext_67 (by decide) (by decide) (fun _ => ?_) (fun c22 => absurd (by decide) c22)
                have hsn_ : Sr (M 27 4).toNat (mbe (M 28) (M 29) (M 30) (M 31)) i (M 32) (M 33) (lx.toNat + 1) T19 := sr_rec (by omega) hi.1 hsr_ (by omega) hnno_
                refine g_iinc (pc := 79) (i := 3) (y := lx + 1) (L' := [(0, gR 27), (1, gI i), (2, gI 4), (3, gI (lx + 1))]) hK dd_X8_findsNext_79 rfl rfl (by decide) rfl ?_
                refine g_goto (pc := 82) (tgt := 10) hK dd_X8_findsNext_82 (by decide) ?_
                refine g_sub (L' := [(0, gR 27), (1, gI i), (2, gI 4), (3, gI (lx + 1))]) [0, 1, 2, 3] rfl ?_
                refine g_mem (M2 := sr M 33 T19) (by first | rfl | (simp (disch := decide) only [Int.reduceToNat, up_sr, sr_cp, sr_k, sr_o, sr_sr, us_us, @sr_lt _ 33 32 _ _ (by decide)]; try rfl)) ?_
                exact ih3 (lx + 1) T19 (by omega) (by rw [tn1 (by omega)]; exact hsn_) (Nat.le_trans htr (trd_mono hsn_.1)) (by omega)
          · replace c11 : ¬ (mbe (M 28) (M 29) (M 30) (M 31) i.toNat lx.toNat) := c11
            have hme_ : ¬ (mbe (M 28) (M 29) (M 30) (M 31)) i.toNat lx.toNat := c11
            refine g_if_eq (pc := 34) (tgt := 79) hK dd_X8_findsNext_34 (by decide) (by decide) (fun _ => ?_) (fun c23 => absurd (by decide) c23)
            have hsn_ : Sr (M 27 4).toNat (mbe (M 28) (M 29) (M 30) (M 31)) i (M 32) (M 33) (lx.toNat + 1) Tg := sr_next hsr_ (Or.inr hme_)
            refine g_iinc (pc := 79) (i := 3) (y := lx + 1) (L' := [(0, gR 27), (1, gI i), (2, gI 4), (3, gI (lx + 1))]) hK dd_X8_findsNext_79 rfl rfl (by decide) rfl ?_
            refine g_goto (pc := 82) (tgt := 10) hK dd_X8_findsNext_82 (by decide) ?_
            refine g_sub (L' := [(0, gR 27), (1, gI i), (2, gI 4), (3, gI (lx + 1))]) [0, 1, 2, 3] rfl ?_
            refine g_mem (M2 := sr M 33 Tg) (by first | rfl | (simp (disch := decide) only [Int.reduceToNat, up_sr, sr_cp, sr_k, sr_o, sr_sr, us_us, @sr_lt _ 33 32 _ _ (by decide)]; try rfl)) ?_
            exact ih3 (lx + 1) Tg (by omega) (by rw [tn1 (by omega)]; exact hsn_) (Nat.le_trans htr (trd_mono hsn_.1)) (by omega)
  refine g_mem (M2 := sr M 33 (M 33)) (sr_self.symm) ?_
  refine g_sub (L' := [(0, gR 27), (1, gI i), (2, gI 4), (3, gI 0)]) [0, 1, 2, 3] rfl ?_
  exact lp4 _ 0 (M 33) (by omega) (sr0) (htr) (Nat.lt_succ_self _)
set_option maxHeartbeats 4000000 in
set_option maxRecDepth 100000 in
theorem c_fn3 {l : Launch} {M : Mem} {Pq : Option gV → Mem → Prop} (i : Int) (hi : 0 ≤ i ∧ i < M 27 4) (hsc : 0 ≤ M 27 4 ∧ M 27 4 ≤ 20) (hv : Vl (M 27 4).toNat (mbe (M 28) (M 29) (M 30) (M 31)) (M 32)) (htr : 3 ≤ trd (M 33) (M 27 4).toNat) (hT : ∀ (B1 : Nat → Int) (T1 : Nat → Int), (Aug (M 27 4).toNat (mbe (M 28) (M 29) (M 30) (M 31)) i (M 32) (M 33) B1) → Pq (some (gI 1)) (sr (sr M 32 B1) 33 T1)) (hF : ∀ (T1 : Nat → Int), (Nno (M 27 4).toNat (mbe (M 28) (M 29) (M 30) (M 31)) i (M 32) (M 33) T1) → Pq (some (gI 0)) (sr M 33 T1)) : gCtr l my_X8_findsNext mb_X8_findsNext 4 ((some .boolean)) 18 [gR 27, gI i, gI 3] M Pq := by
  refine g_intro (by decide) (Nat.le_of_ble_eq_true rfl) ?_
  intro p e s m args below meth c D cy q A hK hr hlocks hw
  refine g_sub (L' := [(0, gR 27), (1, gI i), (2, gI 3)]) [0, 1, 2] rfl ?_
  refine g_iloadn (pc := 0) (i := 2) (x := 3) hK dd_X8_findsNext_0 rfl rfl ?_
  refine g_bipush (pc := 1) (x := 20) hK dd_X8_findsNext_1 (by decide) ?_
  refine g_icmp_le (pc := 3) (tgt := 8) hK dd_X8_findsNext_3 (by decide) (by decide) (by decide) (fun _ => ?_) (fun c1 => absurd (by decide) c1)
  refine g_iconst (pc := 8) (x := 0) hK dd_X8_findsNext_8 (by decide) ?_
  refine g_istoren (pc := 9) (i := 3) (L' := [(0, gR 27), (1, gI i), (2, gI 3), (3, gI 0)]) hK dd_X8_findsNext_9 rfl (by decide) rfl ?_
  have lp4 : ∀ (n2 : Nat) (lx : Int) (Tg : Nat → Int), (0 ≤ lx ∧ lx ≤ M 27 4) → (Sr (M 27 4).toNat (mbe (M 28) (M 29) (M 30) (M 31)) i (M 32) (M 33) lx.toNat Tg) → (3 ≤ trd Tg (M 27 4).toNat) → (M 27 4 - lx).toNat < n2 → G p l e (rmD 18) s m args below meth c D cy q A 0 0 4 (MQ below (gQc D cy q A Pq) args s 0 0 A) 10 [(0, gR 27), (1, gI i), (2, gI 3), (3, gI lx)] [] (sr M 33 Tg) := by
    intro n2
    induction n2 with
    | zero => intro lx Tg iv5 hsr_ htr_ hm6; exact absurd hm6 (Nat.not_lt_zero _)
    | succ n2 ih3 =>
      intro lx Tg iv5 hsr_ htr_ hm6
      refine g_iloadn (pc := 10) (i := 3) (x := lx) hK dd_X8_findsNext_10 rfl rfl ?_
      refine g_aloadn (pc := 11) (i := 0) (x := 27) hK dd_X8_findsNext_11 rfl rfl ?_
      refine g_geti (pc := 12) (f := (0, 0)) (j := 4) hK (kdm kd_27) rfl ef_8 (by decide) rfl kk_200 nl_27 dd_X8_findsNext_12 rfl (fun x7 ex7 rx7 => ?_)
      replace ex7 : x7 = M 27 4 := ex7
      refine g_icmp_ge (pc := 15) (tgt := 85) hK dd_X8_findsNext_15 (by decide) ⟨by omega, by omega⟩ rx7 (fun c8 => ?_) (fun c8 => ?_)
      · refine g_iconst (pc := 85) (x := 0) hK dd_X8_findsNext_85 (by decide) ?_
        refine g_iret (pc := 86) hK hr hlocks dd_X8_findsNext_86 rfl ?_
        first | exact g_fin (hF Tg (by exact sr_end hsr_ (by omega))) (by first | rfl | omega | (subst_vars; first | rfl | omega)) (rfl) | (exfalso; omega)
      · refine g_aloadn (pc := 18) (i := 0) (x := 27) hK dd_X8_findsNext_18 rfl rfl ?_
        refine g_getv (pc := 19) (f := (1, 6)) (j := 6) (v := gR 33) hK (kdm kd_27) rfl ef_8 (by decide) rfl kk_203 dd_X8_findsNext_19 rfl ?_
        refine g_iloadn (pc := 22) (i := 3) (x := lx) hK dd_X8_findsNext_22 rfl rfl ?_
        refine g_iald (pc := 23) hK (kdm kd_33) nl_33 (by decide) dd_X8_findsNext_23 (by omega) (by omega) (fun x9 ex9 rx9 => ?_)
        replace ex9 : x9 = Tg lx.toNat := by first | exact ex9 | (rw [ex9]; simp [up, us, cp, sr])
        refine g_iconst (pc := 24) (x := (-1)) hK dd_X8_findsNext_24 (by decide) ?_
        refine g_icmp_ne (pc := 25) (tgt := 79) hK dd_X8_findsNext_25 (by decide) rx9 (by decide) (fun c10 => ?_) (fun c10 => ?_)
        · have hsn_ : Sr (M 27 4).toNat (mbe (M 28) (M 29) (M 30) (M 31)) i (M 32) (M 33) (lx.toNat + 1) Tg := sr_next hsr_ (Or.inl (by omega))
          refine g_iinc (pc := 79) (i := 3) (y := lx + 1) (L' := [(0, gR 27), (1, gI i), (2, gI 3), (3, gI (lx + 1))]) hK dd_X8_findsNext_79 rfl rfl (by decide) rfl ?_
          refine g_goto (pc := 82) (tgt := 10) hK dd_X8_findsNext_82 (by decide) ?_
          refine g_sub (L' := [(0, gR 27), (1, gI i), (2, gI 3), (3, gI (lx + 1))]) [0, 1, 2, 3] rfl ?_
          refine g_mem (M2 := sr M 33 Tg) (by first | rfl | (simp (disch := decide) only [Int.reduceToNat, up_sr, sr_cp, sr_k, sr_o, sr_sr, us_us, @sr_lt _ 33 32 _ _ (by decide)]; try rfl)) ?_
          exact ih3 (lx + 1) Tg (by omega) (by rw [tn1 (by omega)]; exact hsn_) (Nat.le_trans htr (trd_mono hsn_.1)) (by omega)
        · have hlt_ := trd_lt (T := Tg) (n := (M 27 4).toNat) (l := lx.toNat) (by omega) (by omega)
          refine g_aloadn (pc := 28) (i := 0) (x := 27) hK dd_X8_findsNext_28 rfl rfl ?_
          refine g_iloadn (pc := 29) (i := 1) (x := i) hK dd_X8_findsNext_29 rfl rfl ?_
          refine g_iloadn (pc := 30) (i := 3) (x := lx) hK dd_X8_findsNext_30 rfl rfl ?_
          refine g_callV (pc := 31) (As := [gI i, gI lx]) hK ws_Sightings_51 md_X8_mayBeOf ⟨Nat.zero_le _, Nat.zero_le _⟩ ⟨by decide, by decide⟩ (kdm kd_27) rfl rfl dd_X8_findsNext_31 rfl rfl (Nat.le_of_ble_eq_true rfl) (c_mayBeOf i lx (show 0 ≤ i ∧ i < 20 by omega) (show 0 ≤ lx ∧ lx < 20 by omega) (fun c11 => g_r1 ?_) (fun c11 => g_r1 ?_))
          · replace c11 : mbe (M 28) (M 29) (M 30) (M 31) i.toNat lx.toNat := c11
            have hme_ : (mbe (M 28) (M 29) (M 30) (M 31)) i.toNat lx.toNat := c11
            refine g_if_eq (pc := 34) (tgt := 79) hK dd_X8_findsNext_34 (by decide) (by decide) (fun c12 => absurd c12 (by decide)) (fun _ => ?_)
            refine g_aloadn (pc := 37) (i := 0) (x := 27) hK dd_X8_findsNext_37 rfl rfl ?_
            refine g_getv (pc := 38) (f := (1, 6)) (j := 6) (v := gR 33) hK (kdm kd_27) rfl ef_8 (by decide) rfl kk_203 dd_X8_findsNext_38 rfl ?_
            refine g_iloadn (pc := 41) (i := 3) (x := lx) hK dd_X8_findsNext_41 rfl rfl ?_
            refine g_iloadn (pc := 42) (i := 1) (x := i) hK dd_X8_findsNext_42 rfl rfl ?_
            refine g_iast (pc := 43) hK (kdm kd_33) nl_33 (by decide) (by decide) dd_X8_findsNext_43 (by omega) (by omega) ⟨by omega, by omega⟩ ?_
            refine g_mem (M2 := sr M 33 (us Tg lx.toNat i)) (by simp (disch := decide) only [Int.reduceToNat, up_sr, sr_cp, sr_k, sr_o, sr_sr, us_us, @sr_lt _ 33 32 _ _ (by decide)]; try rfl) ?_
            have htr2_ : 4 ≤ trd (us Tg lx.toNat i) (M 27 4).toNat := by rw [trd_us (by omega) (by omega) (by omega)]; omega
            refine g_aloadn (pc := 44) (i := 0) (x := 27) hK dd_X8_findsNext_44 rfl rfl ?_
            refine g_getv (pc := 45) (f := (1, 5)) (j := 5) (v := gR 32) hK (kdm kd_27) rfl ef_8 (by decide) rfl kk_202 dd_X8_findsNext_45 rfl ?_
            refine g_iloadn (pc := 48) (i := 3) (x := lx) hK dd_X8_findsNext_48 rfl rfl ?_
            refine g_iald (pc := 49) hK (kdm kd_32) nl_32 (by decide) dd_X8_findsNext_49 (by omega) (by omega) (fun x13 ex13 rx13 => ?_)
            replace ex13 : x13 = M 32 lx.toNat := ex13
            refine g_iconst (pc := 50) (x := (-1)) hK dd_X8_findsNext_50 (by decide) ?_
            refine g_icmp_eq (pc := 51) (tgt := 70) hK dd_X8_findsNext_51 (by decide) rx13 (by decide) (fun c14 => ?_) (fun c14 => ?_)
            · skip
              refine g_aloadn (pc := 70) (i := 0) (x := 27) hK dd_X8_findsNext_70 rfl rfl ?_
              refine g_getv (pc := 71) (f := (1, 5)) (j := 5) (v := gR 32) hK (kdm kd_27) rfl ef_8 (by decide) rfl kk_202 dd_X8_findsNext_71 rfl ?_
              refine g_iloadn (pc := 74) (i := 3) (x := lx) hK dd_X8_findsNext_74 rfl rfl ?_
              refine g_iloadn (pc := 75) (i := 1) (x := i) hK dd_X8_findsNext_75 rfl rfl ?_
              refine g_iast (pc := 76) hK (kdm kd_32) nl_32 (by decide) (by decide) dd_X8_findsNext_76 (by omega) (by omega) ⟨by omega, by omega⟩ ?_
              refine g_iconst (pc := 77) (x := 1) hK dd_X8_findsNext_77 (by decide) ?_
              refine g_iret (pc := 78) hK hr hlocks dd_X8_findsNext_78 rfl ?_
              first | exact g_fin (hT (us (M 32) lx.toNat i) (us Tg lx.toNat i) (by exact aug_base (by omega) ⟨hi.1, by omega⟩ hv hsr_ (by omega) hme_ (by omega))) (by first | rfl | omega | (subst_vars; first | rfl | omega)) (by simp (disch := decide) only [Int.reduceToNat, up_sr, sr_cp, sr_k, sr_o, sr_sr, us_us, @sr_lt _ 33 32 _ _ (by decide)]; try rfl) | (exfalso; omega)
            · have hvl_ := hv lx.toNat (by omega)
              refine g_aloadn (pc := 54) (i := 0) (x := 27) hK dd_X8_findsNext_54 rfl rfl ?_
              refine g_aloadn (pc := 55) (i := 0) (x := 27) hK dd_X8_findsNext_55 rfl rfl ?_
              refine g_getv (pc := 56) (f := (1, 5)) (j := 5) (v := gR 32) hK (kdm kd_27) rfl ef_8 (by decide) rfl kk_202 dd_X8_findsNext_56 rfl ?_
              refine g_iloadn (pc := 59) (i := 3) (x := lx) hK dd_X8_findsNext_59 rfl rfl ?_
              refine g_iald (pc := 60) hK (kdm kd_32) nl_32 (by decide) dd_X8_findsNext_60 (by omega) (by omega) (fun x15 ex15 rx15 => ?_)
              replace ex15 : x15 = M 32 lx.toNat := ex15
              skip
              refine g_iloadn (pc := 61) (i := 2) (x := 3) hK dd_X8_findsNext_61 rfl rfl ?_
              refine g_iconst (pc := 62) (x := 1) hK dd_X8_findsNext_62 (by decide) ?_
              refine g_iadd (pc := 63) (z := 4) hK dd_X8_findsNext_63 rfl ?_
              refine g_callT (pc := 64) (As := [gR 27, gI x15, gI 4]) hK ws_Sightings_47 md_X8_findsNext ⟨Nat.zero_le _, Nat.zero_le _⟩ ⟨by decide, by decide⟩ dd_X8_findsNext_64 rfl rfl (Nat.le_of_ble_eq_true rfl) (c_fn4 x15 (show 0 ≤ x15 ∧ x15 < M 27 4 by omega) hsc hv htr2_ (fun B16 T17 c18 => g_r1 ?_) (fun T19 c20 => g_r1 ?_))
              · replace c18 : Aug (M 27 4).toNat (mbe (M 28) (M 29) (M 30) (M 31)) x15 (M 32) ((us Tg lx.toNat i)) B16 := c18
                refine g_mem (M2 := sr (sr M 32 B16) 33 T17) (by simp (disch := decide) only [Int.reduceToNat, up_sr, sr_cp, sr_k, sr_o, sr_sr, us_us, @sr_lt _ 33 32 _ _ (by decide)]; try rfl) ?_
                have haug_ : Aug (M 27 4).toNat (mbe (M 28) (M 29) (M 30) (M 31)) (M 32 lx.toNat) (M 32) (us Tg lx.toNat i) B16 := by rw [← ex15]; exact c18
                refine g_if_eq (pc := 67) (tgt := 79) hK dd_X8_findsNext_67 (by decide) (by decide) (fun c21 => absurd c21 (by decide)) (fun _ => ?_)
                skip
                refine g_aloadn (pc := 70) (i := 0) (x := 27) hK dd_X8_findsNext_70 rfl rfl ?_
                refine g_getv (pc := 71) (f := (1, 5)) (j := 5) (v := gR 32) hK (kdm kd_27) rfl ef_8 (by decide) rfl kk_202 dd_X8_findsNext_71 rfl ?_
                refine g_iloadn (pc := 74) (i := 3) (x := lx) hK dd_X8_findsNext_74 rfl rfl ?_
                refine g_iloadn (pc := 75) (i := 1) (x := i) hK dd_X8_findsNext_75 rfl rfl ?_
                refine g_iast (pc := 76) hK (kdm kd_32) nl_32 (by decide) (by decide) dd_X8_findsNext_76 (by omega) (by omega) ⟨by omega, by omega⟩ ?_
                refine g_iconst (pc := 77) (x := 1) hK dd_X8_findsNext_77 (by decide) ?_
                refine g_iret (pc := 78) hK hr hlocks dd_X8_findsNext_78 rfl ?_
                first | exact g_fin (hT (us B16 lx.toNat i) T17 (by exact aug_rec (by omega) ⟨hi.1, by omega⟩ hv hsr_ (by omega) hme_ (by omega) haug_)) (by first | rfl | omega | (subst_vars; first | rfl | omega)) (by simp (disch := decide) only [Int.reduceToNat, up_sr, sr_cp, sr_k, sr_o, sr_sr, us_us, @sr_lt _ 33 32 _ _ (by decide)]; try rfl) | (exfalso; omega)
              · replace c20 : Nno (M 27 4).toNat (mbe (M 28) (M 29) (M 30) (M 31)) x15 (M 32) ((us Tg lx.toNat i)) T19 := c20
                refine g_mem (M2 := sr M 33 T19) (by simp (disch := decide) only [Int.reduceToNat, up_sr, sr_cp, sr_k, sr_o, sr_sr, us_us, @sr_lt _ 33 32 _ _ (by decide)]; try rfl) ?_
                have hnno_ : Nno (M 27 4).toNat (mbe (M 28) (M 29) (M 30) (M 31)) (M 32 lx.toNat) (M 32) (us Tg lx.toNat i) T19 := by rw [← ex15]; exact c20
                refine g_if_eq (pc := 67) (tgt := 79) hK dd_X8_findsNext_67 (by decide) (by decide) (fun _ => ?_) (fun c22 => absurd (by decide) c22)
                have hsn_ : Sr (M 27 4).toNat (mbe (M 28) (M 29) (M 30) (M 31)) i (M 32) (M 33) (lx.toNat + 1) T19 := sr_rec (by omega) hi.1 hsr_ (by omega) hnno_
                refine g_iinc (pc := 79) (i := 3) (y := lx + 1) (L' := [(0, gR 27), (1, gI i), (2, gI 3), (3, gI (lx + 1))]) hK dd_X8_findsNext_79 rfl rfl (by decide) rfl ?_
                refine g_goto (pc := 82) (tgt := 10) hK dd_X8_findsNext_82 (by decide) ?_
                refine g_sub (L' := [(0, gR 27), (1, gI i), (2, gI 3), (3, gI (lx + 1))]) [0, 1, 2, 3] rfl ?_
                refine g_mem (M2 := sr M 33 T19) (by first | rfl | (simp (disch := decide) only [Int.reduceToNat, up_sr, sr_cp, sr_k, sr_o, sr_sr, us_us, @sr_lt _ 33 32 _ _ (by decide)]; try rfl)) ?_
                exact ih3 (lx + 1) T19 (by omega) (by rw [tn1 (by omega)]; exact hsn_) (Nat.le_trans htr (trd_mono hsn_.1)) (by omega)
          · replace c11 : ¬ (mbe (M 28) (M 29) (M 30) (M 31) i.toNat lx.toNat) := c11
            have hme_ : ¬ (mbe (M 28) (M 29) (M 30) (M 31)) i.toNat lx.toNat := c11
            refine g_if_eq (pc := 34) (tgt := 79) hK dd_X8_findsNext_34 (by decide) (by decide) (fun _ => ?_) (fun c23 => absurd (by decide) c23)
            have hsn_ : Sr (M 27 4).toNat (mbe (M 28) (M 29) (M 30) (M 31)) i (M 32) (M 33) (lx.toNat + 1) Tg := sr_next hsr_ (Or.inr hme_)
            refine g_iinc (pc := 79) (i := 3) (y := lx + 1) (L' := [(0, gR 27), (1, gI i), (2, gI 3), (3, gI (lx + 1))]) hK dd_X8_findsNext_79 rfl rfl (by decide) rfl ?_
            refine g_goto (pc := 82) (tgt := 10) hK dd_X8_findsNext_82 (by decide) ?_
            refine g_sub (L' := [(0, gR 27), (1, gI i), (2, gI 3), (3, gI (lx + 1))]) [0, 1, 2, 3] rfl ?_
            refine g_mem (M2 := sr M 33 Tg) (by first | rfl | (simp (disch := decide) only [Int.reduceToNat, up_sr, sr_cp, sr_k, sr_o, sr_sr, us_us, @sr_lt _ 33 32 _ _ (by decide)]; try rfl)) ?_
            exact ih3 (lx + 1) Tg (by omega) (by rw [tn1 (by omega)]; exact hsn_) (Nat.le_trans htr (trd_mono hsn_.1)) (by omega)
  refine g_mem (M2 := sr M 33 (M 33)) (sr_self.symm) ?_
  refine g_sub (L' := [(0, gR 27), (1, gI i), (2, gI 3), (3, gI 0)]) [0, 1, 2, 3] rfl ?_
  exact lp4 _ 0 (M 33) (by omega) (sr0) (htr) (Nat.lt_succ_self _)
set_option maxHeartbeats 4000000 in
set_option maxRecDepth 100000 in
theorem c_fn2 {l : Launch} {M : Mem} {Pq : Option gV → Mem → Prop} (i : Int) (hi : 0 ≤ i ∧ i < M 27 4) (hsc : 0 ≤ M 27 4 ∧ M 27 4 ≤ 20) (hv : Vl (M 27 4).toNat (mbe (M 28) (M 29) (M 30) (M 31)) (M 32)) (htr : 2 ≤ trd (M 33) (M 27 4).toNat) (hT : ∀ (B1 : Nat → Int) (T1 : Nat → Int), (Aug (M 27 4).toNat (mbe (M 28) (M 29) (M 30) (M 31)) i (M 32) (M 33) B1) → Pq (some (gI 1)) (sr (sr M 32 B1) 33 T1)) (hF : ∀ (T1 : Nat → Int), (Nno (M 27 4).toNat (mbe (M 28) (M 29) (M 30) (M 31)) i (M 32) (M 33) T1) → Pq (some (gI 0)) (sr M 33 T1)) : gCtr l my_X8_findsNext mb_X8_findsNext 4 ((some .boolean)) 19 [gR 27, gI i, gI 2] M Pq := by
  refine g_intro (by decide) (Nat.le_of_ble_eq_true rfl) ?_
  intro p e s m args below meth c D cy q A hK hr hlocks hw
  refine g_sub (L' := [(0, gR 27), (1, gI i), (2, gI 2)]) [0, 1, 2] rfl ?_
  refine g_iloadn (pc := 0) (i := 2) (x := 2) hK dd_X8_findsNext_0 rfl rfl ?_
  refine g_bipush (pc := 1) (x := 20) hK dd_X8_findsNext_1 (by decide) ?_
  refine g_icmp_le (pc := 3) (tgt := 8) hK dd_X8_findsNext_3 (by decide) (by decide) (by decide) (fun _ => ?_) (fun c1 => absurd (by decide) c1)
  refine g_iconst (pc := 8) (x := 0) hK dd_X8_findsNext_8 (by decide) ?_
  refine g_istoren (pc := 9) (i := 3) (L' := [(0, gR 27), (1, gI i), (2, gI 2), (3, gI 0)]) hK dd_X8_findsNext_9 rfl (by decide) rfl ?_
  have lp4 : ∀ (n2 : Nat) (lx : Int) (Tg : Nat → Int), (0 ≤ lx ∧ lx ≤ M 27 4) → (Sr (M 27 4).toNat (mbe (M 28) (M 29) (M 30) (M 31)) i (M 32) (M 33) lx.toNat Tg) → (2 ≤ trd Tg (M 27 4).toNat) → (M 27 4 - lx).toNat < n2 → G p l e (rmD 19) s m args below meth c D cy q A 0 0 4 (MQ below (gQc D cy q A Pq) args s 0 0 A) 10 [(0, gR 27), (1, gI i), (2, gI 2), (3, gI lx)] [] (sr M 33 Tg) := by
    intro n2
    induction n2 with
    | zero => intro lx Tg iv5 hsr_ htr_ hm6; exact absurd hm6 (Nat.not_lt_zero _)
    | succ n2 ih3 =>
      intro lx Tg iv5 hsr_ htr_ hm6
      refine g_iloadn (pc := 10) (i := 3) (x := lx) hK dd_X8_findsNext_10 rfl rfl ?_
      refine g_aloadn (pc := 11) (i := 0) (x := 27) hK dd_X8_findsNext_11 rfl rfl ?_
      refine g_geti (pc := 12) (f := (0, 0)) (j := 4) hK (kdm kd_27) rfl ef_8 (by decide) rfl kk_200 nl_27 dd_X8_findsNext_12 rfl (fun x7 ex7 rx7 => ?_)
      replace ex7 : x7 = M 27 4 := ex7
      refine g_icmp_ge (pc := 15) (tgt := 85) hK dd_X8_findsNext_15 (by decide) ⟨by omega, by omega⟩ rx7 (fun c8 => ?_) (fun c8 => ?_)
      · refine g_iconst (pc := 85) (x := 0) hK dd_X8_findsNext_85 (by decide) ?_
        refine g_iret (pc := 86) hK hr hlocks dd_X8_findsNext_86 rfl ?_
        first | exact g_fin (hF Tg (by exact sr_end hsr_ (by omega))) (by first | rfl | omega | (subst_vars; first | rfl | omega)) (rfl) | (exfalso; omega)
      · refine g_aloadn (pc := 18) (i := 0) (x := 27) hK dd_X8_findsNext_18 rfl rfl ?_
        refine g_getv (pc := 19) (f := (1, 6)) (j := 6) (v := gR 33) hK (kdm kd_27) rfl ef_8 (by decide) rfl kk_203 dd_X8_findsNext_19 rfl ?_
        refine g_iloadn (pc := 22) (i := 3) (x := lx) hK dd_X8_findsNext_22 rfl rfl ?_
        refine g_iald (pc := 23) hK (kdm kd_33) nl_33 (by decide) dd_X8_findsNext_23 (by omega) (by omega) (fun x9 ex9 rx9 => ?_)
        replace ex9 : x9 = Tg lx.toNat := by first | exact ex9 | (rw [ex9]; simp [up, us, cp, sr])
        refine g_iconst (pc := 24) (x := (-1)) hK dd_X8_findsNext_24 (by decide) ?_
        refine g_icmp_ne (pc := 25) (tgt := 79) hK dd_X8_findsNext_25 (by decide) rx9 (by decide) (fun c10 => ?_) (fun c10 => ?_)
        · have hsn_ : Sr (M 27 4).toNat (mbe (M 28) (M 29) (M 30) (M 31)) i (M 32) (M 33) (lx.toNat + 1) Tg := sr_next hsr_ (Or.inl (by omega))
          refine g_iinc (pc := 79) (i := 3) (y := lx + 1) (L' := [(0, gR 27), (1, gI i), (2, gI 2), (3, gI (lx + 1))]) hK dd_X8_findsNext_79 rfl rfl (by decide) rfl ?_
          refine g_goto (pc := 82) (tgt := 10) hK dd_X8_findsNext_82 (by decide) ?_
          refine g_sub (L' := [(0, gR 27), (1, gI i), (2, gI 2), (3, gI (lx + 1))]) [0, 1, 2, 3] rfl ?_
          refine g_mem (M2 := sr M 33 Tg) (by first | rfl | (simp (disch := decide) only [Int.reduceToNat, up_sr, sr_cp, sr_k, sr_o, sr_sr, us_us, @sr_lt _ 33 32 _ _ (by decide)]; try rfl)) ?_
          exact ih3 (lx + 1) Tg (by omega) (by rw [tn1 (by omega)]; exact hsn_) (Nat.le_trans htr (trd_mono hsn_.1)) (by omega)
        · have hlt_ := trd_lt (T := Tg) (n := (M 27 4).toNat) (l := lx.toNat) (by omega) (by omega)
          refine g_aloadn (pc := 28) (i := 0) (x := 27) hK dd_X8_findsNext_28 rfl rfl ?_
          refine g_iloadn (pc := 29) (i := 1) (x := i) hK dd_X8_findsNext_29 rfl rfl ?_
          refine g_iloadn (pc := 30) (i := 3) (x := lx) hK dd_X8_findsNext_30 rfl rfl ?_
          refine g_callV (pc := 31) (As := [gI i, gI lx]) hK ws_Sightings_51 md_X8_mayBeOf ⟨Nat.zero_le _, Nat.zero_le _⟩ ⟨by decide, by decide⟩ (kdm kd_27) rfl rfl dd_X8_findsNext_31 rfl rfl (Nat.le_of_ble_eq_true rfl) (c_mayBeOf i lx (show 0 ≤ i ∧ i < 20 by omega) (show 0 ≤ lx ∧ lx < 20 by omega) (fun c11 => g_r1 ?_) (fun c11 => g_r1 ?_))
          · replace c11 : mbe (M 28) (M 29) (M 30) (M 31) i.toNat lx.toNat := c11
            have hme_ : (mbe (M 28) (M 29) (M 30) (M 31)) i.toNat lx.toNat := c11
            refine g_if_eq (pc := 34) (tgt := 79) hK dd_X8_findsNext_34 (by decide) (by decide) (fun c12 => absurd c12 (by decide)) (fun _ => ?_)
            refine g_aloadn (pc := 37) (i := 0) (x := 27) hK dd_X8_findsNext_37 rfl rfl ?_
            refine g_getv (pc := 38) (f := (1, 6)) (j := 6) (v := gR 33) hK (kdm kd_27) rfl ef_8 (by decide) rfl kk_203 dd_X8_findsNext_38 rfl ?_
            refine g_iloadn (pc := 41) (i := 3) (x := lx) hK dd_X8_findsNext_41 rfl rfl ?_
            refine g_iloadn (pc := 42) (i := 1) (x := i) hK dd_X8_findsNext_42 rfl rfl ?_
            refine g_iast (pc := 43) hK (kdm kd_33) nl_33 (by decide) (by decide) dd_X8_findsNext_43 (by omega) (by omega) ⟨by omega, by omega⟩ ?_
            refine g_mem (M2 := sr M 33 (us Tg lx.toNat i)) (by simp (disch := decide) only [Int.reduceToNat, up_sr, sr_cp, sr_k, sr_o, sr_sr, us_us, @sr_lt _ 33 32 _ _ (by decide)]; try rfl) ?_
            have htr2_ : 3 ≤ trd (us Tg lx.toNat i) (M 27 4).toNat := by rw [trd_us (by omega) (by omega) (by omega)]; omega
            refine g_aloadn (pc := 44) (i := 0) (x := 27) hK dd_X8_findsNext_44 rfl rfl ?_
            refine g_getv (pc := 45) (f := (1, 5)) (j := 5) (v := gR 32) hK (kdm kd_27) rfl ef_8 (by decide) rfl kk_202 dd_X8_findsNext_45 rfl ?_
            refine g_iloadn (pc := 48) (i := 3) (x := lx) hK dd_X8_findsNext_48 rfl rfl ?_
            refine g_iald (pc := 49) hK (kdm kd_32) nl_32 (by decide) dd_X8_findsNext_49 (by omega) (by omega) (fun x13 ex13 rx13 => ?_)
            replace ex13 : x13 = M 32 lx.toNat := ex13
            refine g_iconst (pc := 50) (x := (-1)) hK dd_X8_findsNext_50 (by decide) ?_
            refine g_icmp_eq (pc := 51) (tgt := 70) hK dd_X8_findsNext_51 (by decide) rx13 (by decide) (fun c14 => ?_) (fun c14 => ?_)
            · skip
              refine g_aloadn (pc := 70) (i := 0) (x := 27) hK dd_X8_findsNext_70 rfl rfl ?_
              refine g_getv (pc := 71) (f := (1, 5)) (j := 5) (v := gR 32) hK (kdm kd_27) rfl ef_8 (by decide) rfl kk_202 dd_X8_findsNext_71 rfl ?_
              refine g_iloadn (pc := 74) (i := 3) (x := lx) hK dd_X8_findsNext_74 rfl rfl ?_
              refine g_iloadn (pc := 75) (i := 1) (x := i) hK dd_X8_findsNext_75 rfl rfl ?_
              refine g_iast (pc := 76) hK (kdm kd_32) nl_32 (by decide) (by decide) dd_X8_findsNext_76 (by omega) (by omega) ⟨by omega, by omega⟩ ?_
              refine g_iconst (pc := 77) (x := 1) hK dd_X8_findsNext_77 (by decide) ?_
              refine g_iret (pc := 78) hK hr hlocks dd_X8_findsNext_78 rfl ?_
              first | exact g_fin (hT (us (M 32) lx.toNat i) (us Tg lx.toNat i) (by exact aug_base (by omega) ⟨hi.1, by omega⟩ hv hsr_ (by omega) hme_ (by omega))) (by first | rfl | omega | (subst_vars; first | rfl | omega)) (by simp (disch := decide) only [Int.reduceToNat, up_sr, sr_cp, sr_k, sr_o, sr_sr, us_us, @sr_lt _ 33 32 _ _ (by decide)]; try rfl) | (exfalso; omega)
            · have hvl_ := hv lx.toNat (by omega)
              refine g_aloadn (pc := 54) (i := 0) (x := 27) hK dd_X8_findsNext_54 rfl rfl ?_
              refine g_aloadn (pc := 55) (i := 0) (x := 27) hK dd_X8_findsNext_55 rfl rfl ?_
              refine g_getv (pc := 56) (f := (1, 5)) (j := 5) (v := gR 32) hK (kdm kd_27) rfl ef_8 (by decide) rfl kk_202 dd_X8_findsNext_56 rfl ?_
              refine g_iloadn (pc := 59) (i := 3) (x := lx) hK dd_X8_findsNext_59 rfl rfl ?_
              refine g_iald (pc := 60) hK (kdm kd_32) nl_32 (by decide) dd_X8_findsNext_60 (by omega) (by omega) (fun x15 ex15 rx15 => ?_)
              replace ex15 : x15 = M 32 lx.toNat := ex15
              skip
              refine g_iloadn (pc := 61) (i := 2) (x := 2) hK dd_X8_findsNext_61 rfl rfl ?_
              refine g_iconst (pc := 62) (x := 1) hK dd_X8_findsNext_62 (by decide) ?_
              refine g_iadd (pc := 63) (z := 3) hK dd_X8_findsNext_63 rfl ?_
              refine g_callT (pc := 64) (As := [gR 27, gI x15, gI 3]) hK ws_Sightings_47 md_X8_findsNext ⟨Nat.zero_le _, Nat.zero_le _⟩ ⟨by decide, by decide⟩ dd_X8_findsNext_64 rfl rfl (Nat.le_of_ble_eq_true rfl) (c_fn3 x15 (show 0 ≤ x15 ∧ x15 < M 27 4 by omega) hsc hv htr2_ (fun B16 T17 c18 => g_r1 ?_) (fun T19 c20 => g_r1 ?_))
              · replace c18 : Aug (M 27 4).toNat (mbe (M 28) (M 29) (M 30) (M 31)) x15 (M 32) ((us Tg lx.toNat i)) B16 := c18
                refine g_mem (M2 := sr (sr M 32 B16) 33 T17) (by simp (disch := decide) only [Int.reduceToNat, up_sr, sr_cp, sr_k, sr_o, sr_sr, us_us, @sr_lt _ 33 32 _ _ (by decide)]; try rfl) ?_
                have haug_ : Aug (M 27 4).toNat (mbe (M 28) (M 29) (M 30) (M 31)) (M 32 lx.toNat) (M 32) (us Tg lx.toNat i) B16 := by rw [← ex15]; exact c18
                refine g_if_eq (pc := 67) (tgt := 79) hK dd_X8_findsNext_67 (by decide) (by decide) (fun c21 => absurd c21 (by decide)) (fun _ => ?_)
                skip
                refine g_aloadn (pc := 70) (i := 0) (x := 27) hK dd_X8_findsNext_70 rfl rfl ?_
                refine g_getv (pc := 71) (f := (1, 5)) (j := 5) (v := gR 32) hK (kdm kd_27) rfl ef_8 (by decide) rfl kk_202 dd_X8_findsNext_71 rfl ?_
                refine g_iloadn (pc := 74) (i := 3) (x := lx) hK dd_X8_findsNext_74 rfl rfl ?_
                refine g_iloadn (pc := 75) (i := 1) (x := i) hK dd_X8_findsNext_75 rfl rfl ?_
                refine g_iast (pc := 76) hK (kdm kd_32) nl_32 (by decide) (by decide) dd_X8_findsNext_76 (by omega) (by omega) ⟨by omega, by omega⟩ ?_
                refine g_iconst (pc := 77) (x := 1) hK dd_X8_findsNext_77 (by decide) ?_
                refine g_iret (pc := 78) hK hr hlocks dd_X8_findsNext_78 rfl ?_
                first | exact g_fin (hT (us B16 lx.toNat i) T17 (by exact aug_rec (by omega) ⟨hi.1, by omega⟩ hv hsr_ (by omega) hme_ (by omega) haug_)) (by first | rfl | omega | (subst_vars; first | rfl | omega)) (by simp (disch := decide) only [Int.reduceToNat, up_sr, sr_cp, sr_k, sr_o, sr_sr, us_us, @sr_lt _ 33 32 _ _ (by decide)]; try rfl) | (exfalso; omega)
              · replace c20 : Nno (M 27 4).toNat (mbe (M 28) (M 29) (M 30) (M 31)) x15 (M 32) ((us Tg lx.toNat i)) T19 := c20
                refine g_mem (M2 := sr M 33 T19) (by simp (disch := decide) only [Int.reduceToNat, up_sr, sr_cp, sr_k, sr_o, sr_sr, us_us, @sr_lt _ 33 32 _ _ (by decide)]; try rfl) ?_
                have hnno_ : Nno (M 27 4).toNat (mbe (M 28) (M 29) (M 30) (M 31)) (M 32 lx.toNat) (M 32) (us Tg lx.toNat i) T19 := by rw [← ex15]; exact c20
                refine g_if_eq (pc := 67) (tgt := 79) hK dd_X8_findsNext_67 (by decide) (by decide) (fun _ => ?_) (fun c22 => absurd (by decide) c22)
                have hsn_ : Sr (M 27 4).toNat (mbe (M 28) (M 29) (M 30) (M 31)) i (M 32) (M 33) (lx.toNat + 1) T19 := sr_rec (by omega) hi.1 hsr_ (by omega) hnno_
                refine g_iinc (pc := 79) (i := 3) (y := lx + 1) (L' := [(0, gR 27), (1, gI i), (2, gI 2), (3, gI (lx + 1))]) hK dd_X8_findsNext_79 rfl rfl (by decide) rfl ?_
                refine g_goto (pc := 82) (tgt := 10) hK dd_X8_findsNext_82 (by decide) ?_
                refine g_sub (L' := [(0, gR 27), (1, gI i), (2, gI 2), (3, gI (lx + 1))]) [0, 1, 2, 3] rfl ?_
                refine g_mem (M2 := sr M 33 T19) (by first | rfl | (simp (disch := decide) only [Int.reduceToNat, up_sr, sr_cp, sr_k, sr_o, sr_sr, us_us, @sr_lt _ 33 32 _ _ (by decide)]; try rfl)) ?_
                exact ih3 (lx + 1) T19 (by omega) (by rw [tn1 (by omega)]; exact hsn_) (Nat.le_trans htr (trd_mono hsn_.1)) (by omega)
          · replace c11 : ¬ (mbe (M 28) (M 29) (M 30) (M 31) i.toNat lx.toNat) := c11
            have hme_ : ¬ (mbe (M 28) (M 29) (M 30) (M 31)) i.toNat lx.toNat := c11
            refine g_if_eq (pc := 34) (tgt := 79) hK dd_X8_findsNext_34 (by decide) (by decide) (fun _ => ?_) (fun c23 => absurd (by decide) c23)
            have hsn_ : Sr (M 27 4).toNat (mbe (M 28) (M 29) (M 30) (M 31)) i (M 32) (M 33) (lx.toNat + 1) Tg := sr_next hsr_ (Or.inr hme_)
            refine g_iinc (pc := 79) (i := 3) (y := lx + 1) (L' := [(0, gR 27), (1, gI i), (2, gI 2), (3, gI (lx + 1))]) hK dd_X8_findsNext_79 rfl rfl (by decide) rfl ?_
            refine g_goto (pc := 82) (tgt := 10) hK dd_X8_findsNext_82 (by decide) ?_
            refine g_sub (L' := [(0, gR 27), (1, gI i), (2, gI 2), (3, gI (lx + 1))]) [0, 1, 2, 3] rfl ?_
            refine g_mem (M2 := sr M 33 Tg) (by first | rfl | (simp (disch := decide) only [Int.reduceToNat, up_sr, sr_cp, sr_k, sr_o, sr_sr, us_us, @sr_lt _ 33 32 _ _ (by decide)]; try rfl)) ?_
            exact ih3 (lx + 1) Tg (by omega) (by rw [tn1 (by omega)]; exact hsn_) (Nat.le_trans htr (trd_mono hsn_.1)) (by omega)
  refine g_mem (M2 := sr M 33 (M 33)) (sr_self.symm) ?_
  refine g_sub (L' := [(0, gR 27), (1, gI i), (2, gI 2), (3, gI 0)]) [0, 1, 2, 3] rfl ?_
  exact lp4 _ 0 (M 33) (by omega) (sr0) (htr) (Nat.lt_succ_self _)
set_option maxHeartbeats 4000000 in
set_option maxRecDepth 100000 in
theorem c_fn1 {l : Launch} {M : Mem} {Pq : Option gV → Mem → Prop} (i : Int) (hi : 0 ≤ i ∧ i < M 27 4) (hsc : 0 ≤ M 27 4 ∧ M 27 4 ≤ 20) (hv : Vl (M 27 4).toNat (mbe (M 28) (M 29) (M 30) (M 31)) (M 32)) (htr : 1 ≤ trd (M 33) (M 27 4).toNat) (hT : ∀ (B1 : Nat → Int) (T1 : Nat → Int), (Aug (M 27 4).toNat (mbe (M 28) (M 29) (M 30) (M 31)) i (M 32) (M 33) B1) → Pq (some (gI 1)) (sr (sr M 32 B1) 33 T1)) (hF : ∀ (T1 : Nat → Int), (Nno (M 27 4).toNat (mbe (M 28) (M 29) (M 30) (M 31)) i (M 32) (M 33) T1) → Pq (some (gI 0)) (sr M 33 T1)) : gCtr l my_X8_findsNext mb_X8_findsNext 4 ((some .boolean)) 20 [gR 27, gI i, gI 1] M Pq := by
  refine g_intro (by decide) (Nat.le_of_ble_eq_true rfl) ?_
  intro p e s m args below meth c D cy q A hK hr hlocks hw
  refine g_sub (L' := [(0, gR 27), (1, gI i), (2, gI 1)]) [0, 1, 2] rfl ?_
  refine g_iloadn (pc := 0) (i := 2) (x := 1) hK dd_X8_findsNext_0 rfl rfl ?_
  refine g_bipush (pc := 1) (x := 20) hK dd_X8_findsNext_1 (by decide) ?_
  refine g_icmp_le (pc := 3) (tgt := 8) hK dd_X8_findsNext_3 (by decide) (by decide) (by decide) (fun _ => ?_) (fun c1 => absurd (by decide) c1)
  refine g_iconst (pc := 8) (x := 0) hK dd_X8_findsNext_8 (by decide) ?_
  refine g_istoren (pc := 9) (i := 3) (L' := [(0, gR 27), (1, gI i), (2, gI 1), (3, gI 0)]) hK dd_X8_findsNext_9 rfl (by decide) rfl ?_
  have lp4 : ∀ (n2 : Nat) (lx : Int) (Tg : Nat → Int), (0 ≤ lx ∧ lx ≤ M 27 4) → (Sr (M 27 4).toNat (mbe (M 28) (M 29) (M 30) (M 31)) i (M 32) (M 33) lx.toNat Tg) → (1 ≤ trd Tg (M 27 4).toNat) → (M 27 4 - lx).toNat < n2 → G p l e (rmD 20) s m args below meth c D cy q A 0 0 4 (MQ below (gQc D cy q A Pq) args s 0 0 A) 10 [(0, gR 27), (1, gI i), (2, gI 1), (3, gI lx)] [] (sr M 33 Tg) := by
    intro n2
    induction n2 with
    | zero => intro lx Tg iv5 hsr_ htr_ hm6; exact absurd hm6 (Nat.not_lt_zero _)
    | succ n2 ih3 =>
      intro lx Tg iv5 hsr_ htr_ hm6
      refine g_iloadn (pc := 10) (i := 3) (x := lx) hK dd_X8_findsNext_10 rfl rfl ?_
      refine g_aloadn (pc := 11) (i := 0) (x := 27) hK dd_X8_findsNext_11 rfl rfl ?_
      refine g_geti (pc := 12) (f := (0, 0)) (j := 4) hK (kdm kd_27) rfl ef_8 (by decide) rfl kk_200 nl_27 dd_X8_findsNext_12 rfl (fun x7 ex7 rx7 => ?_)
      replace ex7 : x7 = M 27 4 := ex7
      refine g_icmp_ge (pc := 15) (tgt := 85) hK dd_X8_findsNext_15 (by decide) ⟨by omega, by omega⟩ rx7 (fun c8 => ?_) (fun c8 => ?_)
      · refine g_iconst (pc := 85) (x := 0) hK dd_X8_findsNext_85 (by decide) ?_
        refine g_iret (pc := 86) hK hr hlocks dd_X8_findsNext_86 rfl ?_
        first | exact g_fin (hF Tg (by exact sr_end hsr_ (by omega))) (by first | rfl | omega | (subst_vars; first | rfl | omega)) (rfl) | (exfalso; omega)
      · refine g_aloadn (pc := 18) (i := 0) (x := 27) hK dd_X8_findsNext_18 rfl rfl ?_
        refine g_getv (pc := 19) (f := (1, 6)) (j := 6) (v := gR 33) hK (kdm kd_27) rfl ef_8 (by decide) rfl kk_203 dd_X8_findsNext_19 rfl ?_
        refine g_iloadn (pc := 22) (i := 3) (x := lx) hK dd_X8_findsNext_22 rfl rfl ?_
        refine g_iald (pc := 23) hK (kdm kd_33) nl_33 (by decide) dd_X8_findsNext_23 (by omega) (by omega) (fun x9 ex9 rx9 => ?_)
        replace ex9 : x9 = Tg lx.toNat := by first | exact ex9 | (rw [ex9]; simp [up, us, cp, sr])
        refine g_iconst (pc := 24) (x := (-1)) hK dd_X8_findsNext_24 (by decide) ?_
        refine g_icmp_ne (pc := 25) (tgt := 79) hK dd_X8_findsNext_25 (by decide) rx9 (by decide) (fun c10 => ?_) (fun c10 => ?_)
        · have hsn_ : Sr (M 27 4).toNat (mbe (M 28) (M 29) (M 30) (M 31)) i (M 32) (M 33) (lx.toNat + 1) Tg := sr_next hsr_ (Or.inl (by omega))
          refine g_iinc (pc := 79) (i := 3) (y := lx + 1) (L' := [(0, gR 27), (1, gI i), (2, gI 1), (3, gI (lx + 1))]) hK dd_X8_findsNext_79 rfl rfl (by decide) rfl ?_
          refine g_goto (pc := 82) (tgt := 10) hK dd_X8_findsNext_82 (by decide) ?_
          refine g_sub (L' := [(0, gR 27), (1, gI i), (2, gI 1), (3, gI (lx + 1))]) [0, 1, 2, 3] rfl ?_
          refine g_mem (M2 := sr M 33 Tg) (by first | rfl | (simp (disch := decide) only [Int.reduceToNat, up_sr, sr_cp, sr_k, sr_o, sr_sr, us_us, @sr_lt _ 33 32 _ _ (by decide)]; try rfl)) ?_
          exact ih3 (lx + 1) Tg (by omega) (by rw [tn1 (by omega)]; exact hsn_) (Nat.le_trans htr (trd_mono hsn_.1)) (by omega)
        · have hlt_ := trd_lt (T := Tg) (n := (M 27 4).toNat) (l := lx.toNat) (by omega) (by omega)
          refine g_aloadn (pc := 28) (i := 0) (x := 27) hK dd_X8_findsNext_28 rfl rfl ?_
          refine g_iloadn (pc := 29) (i := 1) (x := i) hK dd_X8_findsNext_29 rfl rfl ?_
          refine g_iloadn (pc := 30) (i := 3) (x := lx) hK dd_X8_findsNext_30 rfl rfl ?_
          refine g_callV (pc := 31) (As := [gI i, gI lx]) hK ws_Sightings_51 md_X8_mayBeOf ⟨Nat.zero_le _, Nat.zero_le _⟩ ⟨by decide, by decide⟩ (kdm kd_27) rfl rfl dd_X8_findsNext_31 rfl rfl (Nat.le_of_ble_eq_true rfl) (c_mayBeOf i lx (show 0 ≤ i ∧ i < 20 by omega) (show 0 ≤ lx ∧ lx < 20 by omega) (fun c11 => g_r1 ?_) (fun c11 => g_r1 ?_))
          · replace c11 : mbe (M 28) (M 29) (M 30) (M 31) i.toNat lx.toNat := c11
            have hme_ : (mbe (M 28) (M 29) (M 30) (M 31)) i.toNat lx.toNat := c11
            refine g_if_eq (pc := 34) (tgt := 79) hK dd_X8_findsNext_34 (by decide) (by decide) (fun c12 => absurd c12 (by decide)) (fun _ => ?_)
            refine g_aloadn (pc := 37) (i := 0) (x := 27) hK dd_X8_findsNext_37 rfl rfl ?_
            refine g_getv (pc := 38) (f := (1, 6)) (j := 6) (v := gR 33) hK (kdm kd_27) rfl ef_8 (by decide) rfl kk_203 dd_X8_findsNext_38 rfl ?_
            refine g_iloadn (pc := 41) (i := 3) (x := lx) hK dd_X8_findsNext_41 rfl rfl ?_
            refine g_iloadn (pc := 42) (i := 1) (x := i) hK dd_X8_findsNext_42 rfl rfl ?_
            refine g_iast (pc := 43) hK (kdm kd_33) nl_33 (by decide) (by decide) dd_X8_findsNext_43 (by omega) (by omega) ⟨by omega, by omega⟩ ?_
            refine g_mem (M2 := sr M 33 (us Tg lx.toNat i)) (by simp (disch := decide) only [Int.reduceToNat, up_sr, sr_cp, sr_k, sr_o, sr_sr, us_us, @sr_lt _ 33 32 _ _ (by decide)]; try rfl) ?_
            have htr2_ : 2 ≤ trd (us Tg lx.toNat i) (M 27 4).toNat := by rw [trd_us (by omega) (by omega) (by omega)]; omega
            refine g_aloadn (pc := 44) (i := 0) (x := 27) hK dd_X8_findsNext_44 rfl rfl ?_
            refine g_getv (pc := 45) (f := (1, 5)) (j := 5) (v := gR 32) hK (kdm kd_27) rfl ef_8 (by decide) rfl kk_202 dd_X8_findsNext_45 rfl ?_
            refine g_iloadn (pc := 48) (i := 3) (x := lx) hK dd_X8_findsNext_48 rfl rfl ?_
            refine g_iald (pc := 49) hK (kdm kd_32) nl_32 (by decide) dd_X8_findsNext_49 (by omega) (by omega) (fun x13 ex13 rx13 => ?_)
            replace ex13 : x13 = M 32 lx.toNat := ex13
            refine g_iconst (pc := 50) (x := (-1)) hK dd_X8_findsNext_50 (by decide) ?_
            refine g_icmp_eq (pc := 51) (tgt := 70) hK dd_X8_findsNext_51 (by decide) rx13 (by decide) (fun c14 => ?_) (fun c14 => ?_)
            · skip
              refine g_aloadn (pc := 70) (i := 0) (x := 27) hK dd_X8_findsNext_70 rfl rfl ?_
              refine g_getv (pc := 71) (f := (1, 5)) (j := 5) (v := gR 32) hK (kdm kd_27) rfl ef_8 (by decide) rfl kk_202 dd_X8_findsNext_71 rfl ?_
              refine g_iloadn (pc := 74) (i := 3) (x := lx) hK dd_X8_findsNext_74 rfl rfl ?_
              refine g_iloadn (pc := 75) (i := 1) (x := i) hK dd_X8_findsNext_75 rfl rfl ?_
              refine g_iast (pc := 76) hK (kdm kd_32) nl_32 (by decide) (by decide) dd_X8_findsNext_76 (by omega) (by omega) ⟨by omega, by omega⟩ ?_
              refine g_iconst (pc := 77) (x := 1) hK dd_X8_findsNext_77 (by decide) ?_
              refine g_iret (pc := 78) hK hr hlocks dd_X8_findsNext_78 rfl ?_
              first | exact g_fin (hT (us (M 32) lx.toNat i) (us Tg lx.toNat i) (by exact aug_base (by omega) ⟨hi.1, by omega⟩ hv hsr_ (by omega) hme_ (by omega))) (by first | rfl | omega | (subst_vars; first | rfl | omega)) (by simp (disch := decide) only [Int.reduceToNat, up_sr, sr_cp, sr_k, sr_o, sr_sr, us_us, @sr_lt _ 33 32 _ _ (by decide)]; try rfl) | (exfalso; omega)
            · have hvl_ := hv lx.toNat (by omega)
              refine g_aloadn (pc := 54) (i := 0) (x := 27) hK dd_X8_findsNext_54 rfl rfl ?_
              refine g_aloadn (pc := 55) (i := 0) (x := 27) hK dd_X8_findsNext_55 rfl rfl ?_
              refine g_getv (pc := 56) (f := (1, 5)) (j := 5) (v := gR 32) hK (kdm kd_27) rfl ef_8 (by decide) rfl kk_202 dd_X8_findsNext_56 rfl ?_
              refine g_iloadn (pc := 59) (i := 3) (x := lx) hK dd_X8_findsNext_59 rfl rfl ?_
              refine g_iald (pc := 60) hK (kdm kd_32) nl_32 (by decide) dd_X8_findsNext_60 (by omega) (by omega) (fun x15 ex15 rx15 => ?_)
              replace ex15 : x15 = M 32 lx.toNat := ex15
              skip
              refine g_iloadn (pc := 61) (i := 2) (x := 1) hK dd_X8_findsNext_61 rfl rfl ?_
              refine g_iconst (pc := 62) (x := 1) hK dd_X8_findsNext_62 (by decide) ?_
              refine g_iadd (pc := 63) (z := 2) hK dd_X8_findsNext_63 rfl ?_
              refine g_callT (pc := 64) (As := [gR 27, gI x15, gI 2]) hK ws_Sightings_47 md_X8_findsNext ⟨Nat.zero_le _, Nat.zero_le _⟩ ⟨by decide, by decide⟩ dd_X8_findsNext_64 rfl rfl (Nat.le_of_ble_eq_true rfl) (c_fn2 x15 (show 0 ≤ x15 ∧ x15 < M 27 4 by omega) hsc hv htr2_ (fun B16 T17 c18 => g_r1 ?_) (fun T19 c20 => g_r1 ?_))
              · replace c18 : Aug (M 27 4).toNat (mbe (M 28) (M 29) (M 30) (M 31)) x15 (M 32) ((us Tg lx.toNat i)) B16 := c18
                refine g_mem (M2 := sr (sr M 32 B16) 33 T17) (by simp (disch := decide) only [Int.reduceToNat, up_sr, sr_cp, sr_k, sr_o, sr_sr, us_us, @sr_lt _ 33 32 _ _ (by decide)]; try rfl) ?_
                have haug_ : Aug (M 27 4).toNat (mbe (M 28) (M 29) (M 30) (M 31)) (M 32 lx.toNat) (M 32) (us Tg lx.toNat i) B16 := by rw [← ex15]; exact c18
                refine g_if_eq (pc := 67) (tgt := 79) hK dd_X8_findsNext_67 (by decide) (by decide) (fun c21 => absurd c21 (by decide)) (fun _ => ?_)
                skip
                refine g_aloadn (pc := 70) (i := 0) (x := 27) hK dd_X8_findsNext_70 rfl rfl ?_
                refine g_getv (pc := 71) (f := (1, 5)) (j := 5) (v := gR 32) hK (kdm kd_27) rfl ef_8 (by decide) rfl kk_202 dd_X8_findsNext_71 rfl ?_
                refine g_iloadn (pc := 74) (i := 3) (x := lx) hK dd_X8_findsNext_74 rfl rfl ?_
                refine g_iloadn (pc := 75) (i := 1) (x := i) hK dd_X8_findsNext_75 rfl rfl ?_
                refine g_iast (pc := 76) hK (kdm kd_32) nl_32 (by decide) (by decide) dd_X8_findsNext_76 (by omega) (by omega) ⟨by omega, by omega⟩ ?_
                refine g_iconst (pc := 77) (x := 1) hK dd_X8_findsNext_77 (by decide) ?_
                refine g_iret (pc := 78) hK hr hlocks dd_X8_findsNext_78 rfl ?_
                first | exact g_fin (hT (us B16 lx.toNat i) T17 (by exact aug_rec (by omega) ⟨hi.1, by omega⟩ hv hsr_ (by omega) hme_ (by omega) haug_)) (by first | rfl | omega | (subst_vars; first | rfl | omega)) (by simp (disch := decide) only [Int.reduceToNat, up_sr, sr_cp, sr_k, sr_o, sr_sr, us_us, @sr_lt _ 33 32 _ _ (by decide)]; try rfl) | (exfalso; omega)
              · replace c20 : Nno (M 27 4).toNat (mbe (M 28) (M 29) (M 30) (M 31)) x15 (M 32) ((us Tg lx.toNat i)) T19 := c20
                refine g_mem (M2 := sr M 33 T19) (by simp (disch := decide) only [Int.reduceToNat, up_sr, sr_cp, sr_k, sr_o, sr_sr, us_us, @sr_lt _ 33 32 _ _ (by decide)]; try rfl) ?_
                have hnno_ : Nno (M 27 4).toNat (mbe (M 28) (M 29) (M 30) (M 31)) (M 32 lx.toNat) (M 32) (us Tg lx.toNat i) T19 := by rw [← ex15]; exact c20
                refine g_if_eq (pc := 67) (tgt := 79) hK dd_X8_findsNext_67 (by decide) (by decide) (fun _ => ?_) (fun c22 => absurd (by decide) c22)
                have hsn_ : Sr (M 27 4).toNat (mbe (M 28) (M 29) (M 30) (M 31)) i (M 32) (M 33) (lx.toNat + 1) T19 := sr_rec (by omega) hi.1 hsr_ (by omega) hnno_
                refine g_iinc (pc := 79) (i := 3) (y := lx + 1) (L' := [(0, gR 27), (1, gI i), (2, gI 1), (3, gI (lx + 1))]) hK dd_X8_findsNext_79 rfl rfl (by decide) rfl ?_
                refine g_goto (pc := 82) (tgt := 10) hK dd_X8_findsNext_82 (by decide) ?_
                refine g_sub (L' := [(0, gR 27), (1, gI i), (2, gI 1), (3, gI (lx + 1))]) [0, 1, 2, 3] rfl ?_
                refine g_mem (M2 := sr M 33 T19) (by first | rfl | (simp (disch := decide) only [Int.reduceToNat, up_sr, sr_cp, sr_k, sr_o, sr_sr, us_us, @sr_lt _ 33 32 _ _ (by decide)]; try rfl)) ?_
                exact ih3 (lx + 1) T19 (by omega) (by rw [tn1 (by omega)]; exact hsn_) (Nat.le_trans htr (trd_mono hsn_.1)) (by omega)
          · replace c11 : ¬ (mbe (M 28) (M 29) (M 30) (M 31) i.toNat lx.toNat) := c11
            have hme_ : ¬ (mbe (M 28) (M 29) (M 30) (M 31)) i.toNat lx.toNat := c11
            refine g_if_eq (pc := 34) (tgt := 79) hK dd_X8_findsNext_34 (by decide) (by decide) (fun _ => ?_) (fun c23 => absurd (by decide) c23)
            have hsn_ : Sr (M 27 4).toNat (mbe (M 28) (M 29) (M 30) (M 31)) i (M 32) (M 33) (lx.toNat + 1) Tg := sr_next hsr_ (Or.inr hme_)
            refine g_iinc (pc := 79) (i := 3) (y := lx + 1) (L' := [(0, gR 27), (1, gI i), (2, gI 1), (3, gI (lx + 1))]) hK dd_X8_findsNext_79 rfl rfl (by decide) rfl ?_
            refine g_goto (pc := 82) (tgt := 10) hK dd_X8_findsNext_82 (by decide) ?_
            refine g_sub (L' := [(0, gR 27), (1, gI i), (2, gI 1), (3, gI (lx + 1))]) [0, 1, 2, 3] rfl ?_
            refine g_mem (M2 := sr M 33 Tg) (by first | rfl | (simp (disch := decide) only [Int.reduceToNat, up_sr, sr_cp, sr_k, sr_o, sr_sr, us_us, @sr_lt _ 33 32 _ _ (by decide)]; try rfl)) ?_
            exact ih3 (lx + 1) Tg (by omega) (by rw [tn1 (by omega)]; exact hsn_) (Nat.le_trans htr (trd_mono hsn_.1)) (by omega)
  refine g_mem (M2 := sr M 33 (M 33)) (sr_self.symm) ?_
  refine g_sub (L' := [(0, gR 27), (1, gI i), (2, gI 1), (3, gI 0)]) [0, 1, 2, 3] rfl ?_
  exact lp4 _ 0 (M 33) (by omega) (sr0) (htr) (Nat.lt_succ_self _)
set_option maxHeartbeats 4000000 in
set_option maxRecDepth 100000 in
theorem c_fn0 {l : Launch} {M : Mem} {Pq : Option gV → Mem → Prop} (i : Int) (hi : 0 ≤ i ∧ i < M 27 4) (hsc : 0 ≤ M 27 4 ∧ M 27 4 ≤ 20) (hv : Vl (M 27 4).toNat (mbe (M 28) (M 29) (M 30) (M 31)) (M 32)) (htr : 0 ≤ trd (M 33) (M 27 4).toNat) (hT : ∀ (B1 : Nat → Int) (T1 : Nat → Int), (Aug (M 27 4).toNat (mbe (M 28) (M 29) (M 30) (M 31)) i (M 32) (M 33) B1) → Pq (some (gI 1)) (sr (sr M 32 B1) 33 T1)) (hF : ∀ (T1 : Nat → Int), (Nno (M 27 4).toNat (mbe (M 28) (M 29) (M 30) (M 31)) i (M 32) (M 33) T1) → Pq (some (gI 0)) (sr M 33 T1)) : gCtr l my_X8_findsNext mb_X8_findsNext 4 ((some .boolean)) 21 [gR 27, gI i, gI 0] M Pq := by
  refine g_intro (by decide) (Nat.le_of_ble_eq_true rfl) ?_
  intro p e s m args below meth c D cy q A hK hr hlocks hw
  refine g_sub (L' := [(0, gR 27), (1, gI i), (2, gI 0)]) [0, 1, 2] rfl ?_
  refine g_iloadn (pc := 0) (i := 2) (x := 0) hK dd_X8_findsNext_0 rfl rfl ?_
  refine g_bipush (pc := 1) (x := 20) hK dd_X8_findsNext_1 (by decide) ?_
  refine g_icmp_le (pc := 3) (tgt := 8) hK dd_X8_findsNext_3 (by decide) (by decide) (by decide) (fun _ => ?_) (fun c1 => absurd (by decide) c1)
  refine g_iconst (pc := 8) (x := 0) hK dd_X8_findsNext_8 (by decide) ?_
  refine g_istoren (pc := 9) (i := 3) (L' := [(0, gR 27), (1, gI i), (2, gI 0), (3, gI 0)]) hK dd_X8_findsNext_9 rfl (by decide) rfl ?_
  have lp4 : ∀ (n2 : Nat) (lx : Int) (Tg : Nat → Int), (0 ≤ lx ∧ lx ≤ M 27 4) → (Sr (M 27 4).toNat (mbe (M 28) (M 29) (M 30) (M 31)) i (M 32) (M 33) lx.toNat Tg) → (0 ≤ trd Tg (M 27 4).toNat) → (M 27 4 - lx).toNat < n2 → G p l e (rmD 21) s m args below meth c D cy q A 0 0 4 (MQ below (gQc D cy q A Pq) args s 0 0 A) 10 [(0, gR 27), (1, gI i), (2, gI 0), (3, gI lx)] [] (sr M 33 Tg) := by
    intro n2
    induction n2 with
    | zero => intro lx Tg iv5 hsr_ htr_ hm6; exact absurd hm6 (Nat.not_lt_zero _)
    | succ n2 ih3 =>
      intro lx Tg iv5 hsr_ htr_ hm6
      refine g_iloadn (pc := 10) (i := 3) (x := lx) hK dd_X8_findsNext_10 rfl rfl ?_
      refine g_aloadn (pc := 11) (i := 0) (x := 27) hK dd_X8_findsNext_11 rfl rfl ?_
      refine g_geti (pc := 12) (f := (0, 0)) (j := 4) hK (kdm kd_27) rfl ef_8 (by decide) rfl kk_200 nl_27 dd_X8_findsNext_12 rfl (fun x7 ex7 rx7 => ?_)
      replace ex7 : x7 = M 27 4 := ex7
      refine g_icmp_ge (pc := 15) (tgt := 85) hK dd_X8_findsNext_15 (by decide) ⟨by omega, by omega⟩ rx7 (fun c8 => ?_) (fun c8 => ?_)
      · refine g_iconst (pc := 85) (x := 0) hK dd_X8_findsNext_85 (by decide) ?_
        refine g_iret (pc := 86) hK hr hlocks dd_X8_findsNext_86 rfl ?_
        first | exact g_fin (hF Tg (by exact sr_end hsr_ (by omega))) (by first | rfl | omega | (subst_vars; first | rfl | omega)) (rfl) | (exfalso; omega)
      · refine g_aloadn (pc := 18) (i := 0) (x := 27) hK dd_X8_findsNext_18 rfl rfl ?_
        refine g_getv (pc := 19) (f := (1, 6)) (j := 6) (v := gR 33) hK (kdm kd_27) rfl ef_8 (by decide) rfl kk_203 dd_X8_findsNext_19 rfl ?_
        refine g_iloadn (pc := 22) (i := 3) (x := lx) hK dd_X8_findsNext_22 rfl rfl ?_
        refine g_iald (pc := 23) hK (kdm kd_33) nl_33 (by decide) dd_X8_findsNext_23 (by omega) (by omega) (fun x9 ex9 rx9 => ?_)
        replace ex9 : x9 = Tg lx.toNat := by first | exact ex9 | (rw [ex9]; simp [up, us, cp, sr])
        refine g_iconst (pc := 24) (x := (-1)) hK dd_X8_findsNext_24 (by decide) ?_
        refine g_icmp_ne (pc := 25) (tgt := 79) hK dd_X8_findsNext_25 (by decide) rx9 (by decide) (fun c10 => ?_) (fun c10 => ?_)
        · have hsn_ : Sr (M 27 4).toNat (mbe (M 28) (M 29) (M 30) (M 31)) i (M 32) (M 33) (lx.toNat + 1) Tg := sr_next hsr_ (Or.inl (by omega))
          refine g_iinc (pc := 79) (i := 3) (y := lx + 1) (L' := [(0, gR 27), (1, gI i), (2, gI 0), (3, gI (lx + 1))]) hK dd_X8_findsNext_79 rfl rfl (by decide) rfl ?_
          refine g_goto (pc := 82) (tgt := 10) hK dd_X8_findsNext_82 (by decide) ?_
          refine g_sub (L' := [(0, gR 27), (1, gI i), (2, gI 0), (3, gI (lx + 1))]) [0, 1, 2, 3] rfl ?_
          refine g_mem (M2 := sr M 33 Tg) (by first | rfl | (simp (disch := decide) only [Int.reduceToNat, up_sr, sr_cp, sr_k, sr_o, sr_sr, us_us, @sr_lt _ 33 32 _ _ (by decide)]; try rfl)) ?_
          exact ih3 (lx + 1) Tg (by omega) (by rw [tn1 (by omega)]; exact hsn_) (Nat.le_trans htr (trd_mono hsn_.1)) (by omega)
        · have hlt_ := trd_lt (T := Tg) (n := (M 27 4).toNat) (l := lx.toNat) (by omega) (by omega)
          refine g_aloadn (pc := 28) (i := 0) (x := 27) hK dd_X8_findsNext_28 rfl rfl ?_
          refine g_iloadn (pc := 29) (i := 1) (x := i) hK dd_X8_findsNext_29 rfl rfl ?_
          refine g_iloadn (pc := 30) (i := 3) (x := lx) hK dd_X8_findsNext_30 rfl rfl ?_
          refine g_callV (pc := 31) (As := [gI i, gI lx]) hK ws_Sightings_51 md_X8_mayBeOf ⟨Nat.zero_le _, Nat.zero_le _⟩ ⟨by decide, by decide⟩ (kdm kd_27) rfl rfl dd_X8_findsNext_31 rfl rfl (Nat.le_of_ble_eq_true rfl) (c_mayBeOf i lx (show 0 ≤ i ∧ i < 20 by omega) (show 0 ≤ lx ∧ lx < 20 by omega) (fun c11 => g_r1 ?_) (fun c11 => g_r1 ?_))
          · replace c11 : mbe (M 28) (M 29) (M 30) (M 31) i.toNat lx.toNat := c11
            have hme_ : (mbe (M 28) (M 29) (M 30) (M 31)) i.toNat lx.toNat := c11
            refine g_if_eq (pc := 34) (tgt := 79) hK dd_X8_findsNext_34 (by decide) (by decide) (fun c12 => absurd c12 (by decide)) (fun _ => ?_)
            refine g_aloadn (pc := 37) (i := 0) (x := 27) hK dd_X8_findsNext_37 rfl rfl ?_
            refine g_getv (pc := 38) (f := (1, 6)) (j := 6) (v := gR 33) hK (kdm kd_27) rfl ef_8 (by decide) rfl kk_203 dd_X8_findsNext_38 rfl ?_
            refine g_iloadn (pc := 41) (i := 3) (x := lx) hK dd_X8_findsNext_41 rfl rfl ?_
            refine g_iloadn (pc := 42) (i := 1) (x := i) hK dd_X8_findsNext_42 rfl rfl ?_
            refine g_iast (pc := 43) hK (kdm kd_33) nl_33 (by decide) (by decide) dd_X8_findsNext_43 (by omega) (by omega) ⟨by omega, by omega⟩ ?_
            refine g_mem (M2 := sr M 33 (us Tg lx.toNat i)) (by simp (disch := decide) only [Int.reduceToNat, up_sr, sr_cp, sr_k, sr_o, sr_sr, us_us, @sr_lt _ 33 32 _ _ (by decide)]; try rfl) ?_
            have htr2_ : 1 ≤ trd (us Tg lx.toNat i) (M 27 4).toNat := by rw [trd_us (by omega) (by omega) (by omega)]; omega
            refine g_aloadn (pc := 44) (i := 0) (x := 27) hK dd_X8_findsNext_44 rfl rfl ?_
            refine g_getv (pc := 45) (f := (1, 5)) (j := 5) (v := gR 32) hK (kdm kd_27) rfl ef_8 (by decide) rfl kk_202 dd_X8_findsNext_45 rfl ?_
            refine g_iloadn (pc := 48) (i := 3) (x := lx) hK dd_X8_findsNext_48 rfl rfl ?_
            refine g_iald (pc := 49) hK (kdm kd_32) nl_32 (by decide) dd_X8_findsNext_49 (by omega) (by omega) (fun x13 ex13 rx13 => ?_)
            replace ex13 : x13 = M 32 lx.toNat := ex13
            refine g_iconst (pc := 50) (x := (-1)) hK dd_X8_findsNext_50 (by decide) ?_
            refine g_icmp_eq (pc := 51) (tgt := 70) hK dd_X8_findsNext_51 (by decide) rx13 (by decide) (fun c14 => ?_) (fun c14 => ?_)
            · skip
              refine g_aloadn (pc := 70) (i := 0) (x := 27) hK dd_X8_findsNext_70 rfl rfl ?_
              refine g_getv (pc := 71) (f := (1, 5)) (j := 5) (v := gR 32) hK (kdm kd_27) rfl ef_8 (by decide) rfl kk_202 dd_X8_findsNext_71 rfl ?_
              refine g_iloadn (pc := 74) (i := 3) (x := lx) hK dd_X8_findsNext_74 rfl rfl ?_
              refine g_iloadn (pc := 75) (i := 1) (x := i) hK dd_X8_findsNext_75 rfl rfl ?_
              refine g_iast (pc := 76) hK (kdm kd_32) nl_32 (by decide) (by decide) dd_X8_findsNext_76 (by omega) (by omega) ⟨by omega, by omega⟩ ?_
              refine g_iconst (pc := 77) (x := 1) hK dd_X8_findsNext_77 (by decide) ?_
              refine g_iret (pc := 78) hK hr hlocks dd_X8_findsNext_78 rfl ?_
              first | exact g_fin (hT (us (M 32) lx.toNat i) (us Tg lx.toNat i) (by exact aug_base (by omega) ⟨hi.1, by omega⟩ hv hsr_ (by omega) hme_ (by omega))) (by first | rfl | omega | (subst_vars; first | rfl | omega)) (by simp (disch := decide) only [Int.reduceToNat, up_sr, sr_cp, sr_k, sr_o, sr_sr, us_us, @sr_lt _ 33 32 _ _ (by decide)]; try rfl) | (exfalso; omega)
            · have hvl_ := hv lx.toNat (by omega)
              refine g_aloadn (pc := 54) (i := 0) (x := 27) hK dd_X8_findsNext_54 rfl rfl ?_
              refine g_aloadn (pc := 55) (i := 0) (x := 27) hK dd_X8_findsNext_55 rfl rfl ?_
              refine g_getv (pc := 56) (f := (1, 5)) (j := 5) (v := gR 32) hK (kdm kd_27) rfl ef_8 (by decide) rfl kk_202 dd_X8_findsNext_56 rfl ?_
              refine g_iloadn (pc := 59) (i := 3) (x := lx) hK dd_X8_findsNext_59 rfl rfl ?_
              refine g_iald (pc := 60) hK (kdm kd_32) nl_32 (by decide) dd_X8_findsNext_60 (by omega) (by omega) (fun x15 ex15 rx15 => ?_)
              replace ex15 : x15 = M 32 lx.toNat := ex15
              skip
              refine g_iloadn (pc := 61) (i := 2) (x := 0) hK dd_X8_findsNext_61 rfl rfl ?_
              refine g_iconst (pc := 62) (x := 1) hK dd_X8_findsNext_62 (by decide) ?_
              refine g_iadd (pc := 63) (z := 1) hK dd_X8_findsNext_63 rfl ?_
              refine g_callT (pc := 64) (As := [gR 27, gI x15, gI 1]) hK ws_Sightings_47 md_X8_findsNext ⟨Nat.zero_le _, Nat.zero_le _⟩ ⟨by decide, by decide⟩ dd_X8_findsNext_64 rfl rfl (Nat.le_of_ble_eq_true rfl) (c_fn1 x15 (show 0 ≤ x15 ∧ x15 < M 27 4 by omega) hsc hv htr2_ (fun B16 T17 c18 => g_r1 ?_) (fun T19 c20 => g_r1 ?_))
              · replace c18 : Aug (M 27 4).toNat (mbe (M 28) (M 29) (M 30) (M 31)) x15 (M 32) ((us Tg lx.toNat i)) B16 := c18
                refine g_mem (M2 := sr (sr M 32 B16) 33 T17) (by simp (disch := decide) only [Int.reduceToNat, up_sr, sr_cp, sr_k, sr_o, sr_sr, us_us, @sr_lt _ 33 32 _ _ (by decide)]; try rfl) ?_
                have haug_ : Aug (M 27 4).toNat (mbe (M 28) (M 29) (M 30) (M 31)) (M 32 lx.toNat) (M 32) (us Tg lx.toNat i) B16 := by rw [← ex15]; exact c18
                refine g_if_eq (pc := 67) (tgt := 79) hK dd_X8_findsNext_67 (by decide) (by decide) (fun c21 => absurd c21 (by decide)) (fun _ => ?_)
                skip
                refine g_aloadn (pc := 70) (i := 0) (x := 27) hK dd_X8_findsNext_70 rfl rfl ?_
                refine g_getv (pc := 71) (f := (1, 5)) (j := 5) (v := gR 32) hK (kdm kd_27) rfl ef_8 (by decide) rfl kk_202 dd_X8_findsNext_71 rfl ?_
                refine g_iloadn (pc := 74) (i := 3) (x := lx) hK dd_X8_findsNext_74 rfl rfl ?_
                refine g_iloadn (pc := 75) (i := 1) (x := i) hK dd_X8_findsNext_75 rfl rfl ?_
                refine g_iast (pc := 76) hK (kdm kd_32) nl_32 (by decide) (by decide) dd_X8_findsNext_76 (by omega) (by omega) ⟨by omega, by omega⟩ ?_
                refine g_iconst (pc := 77) (x := 1) hK dd_X8_findsNext_77 (by decide) ?_
                refine g_iret (pc := 78) hK hr hlocks dd_X8_findsNext_78 rfl ?_
                first | exact g_fin (hT (us B16 lx.toNat i) T17 (by exact aug_rec (by omega) ⟨hi.1, by omega⟩ hv hsr_ (by omega) hme_ (by omega) haug_)) (by first | rfl | omega | (subst_vars; first | rfl | omega)) (by simp (disch := decide) only [Int.reduceToNat, up_sr, sr_cp, sr_k, sr_o, sr_sr, us_us, @sr_lt _ 33 32 _ _ (by decide)]; try rfl) | (exfalso; omega)
              · replace c20 : Nno (M 27 4).toNat (mbe (M 28) (M 29) (M 30) (M 31)) x15 (M 32) ((us Tg lx.toNat i)) T19 := c20
                refine g_mem (M2 := sr M 33 T19) (by simp (disch := decide) only [Int.reduceToNat, up_sr, sr_cp, sr_k, sr_o, sr_sr, us_us, @sr_lt _ 33 32 _ _ (by decide)]; try rfl) ?_
                have hnno_ : Nno (M 27 4).toNat (mbe (M 28) (M 29) (M 30) (M 31)) (M 32 lx.toNat) (M 32) (us Tg lx.toNat i) T19 := by rw [← ex15]; exact c20
                refine g_if_eq (pc := 67) (tgt := 79) hK dd_X8_findsNext_67 (by decide) (by decide) (fun _ => ?_) (fun c22 => absurd (by decide) c22)
                have hsn_ : Sr (M 27 4).toNat (mbe (M 28) (M 29) (M 30) (M 31)) i (M 32) (M 33) (lx.toNat + 1) T19 := sr_rec (by omega) hi.1 hsr_ (by omega) hnno_
                refine g_iinc (pc := 79) (i := 3) (y := lx + 1) (L' := [(0, gR 27), (1, gI i), (2, gI 0), (3, gI (lx + 1))]) hK dd_X8_findsNext_79 rfl rfl (by decide) rfl ?_
                refine g_goto (pc := 82) (tgt := 10) hK dd_X8_findsNext_82 (by decide) ?_
                refine g_sub (L' := [(0, gR 27), (1, gI i), (2, gI 0), (3, gI (lx + 1))]) [0, 1, 2, 3] rfl ?_
                refine g_mem (M2 := sr M 33 T19) (by first | rfl | (simp (disch := decide) only [Int.reduceToNat, up_sr, sr_cp, sr_k, sr_o, sr_sr, us_us, @sr_lt _ 33 32 _ _ (by decide)]; try rfl)) ?_
                exact ih3 (lx + 1) T19 (by omega) (by rw [tn1 (by omega)]; exact hsn_) (Nat.le_trans htr (trd_mono hsn_.1)) (by omega)
          · replace c11 : ¬ (mbe (M 28) (M 29) (M 30) (M 31) i.toNat lx.toNat) := c11
            have hme_ : ¬ (mbe (M 28) (M 29) (M 30) (M 31)) i.toNat lx.toNat := c11
            refine g_if_eq (pc := 34) (tgt := 79) hK dd_X8_findsNext_34 (by decide) (by decide) (fun _ => ?_) (fun c23 => absurd (by decide) c23)
            have hsn_ : Sr (M 27 4).toNat (mbe (M 28) (M 29) (M 30) (M 31)) i (M 32) (M 33) (lx.toNat + 1) Tg := sr_next hsr_ (Or.inr hme_)
            refine g_iinc (pc := 79) (i := 3) (y := lx + 1) (L' := [(0, gR 27), (1, gI i), (2, gI 0), (3, gI (lx + 1))]) hK dd_X8_findsNext_79 rfl rfl (by decide) rfl ?_
            refine g_goto (pc := 82) (tgt := 10) hK dd_X8_findsNext_82 (by decide) ?_
            refine g_sub (L' := [(0, gR 27), (1, gI i), (2, gI 0), (3, gI (lx + 1))]) [0, 1, 2, 3] rfl ?_
            refine g_mem (M2 := sr M 33 Tg) (by first | rfl | (simp (disch := decide) only [Int.reduceToNat, up_sr, sr_cp, sr_k, sr_o, sr_sr, us_us, @sr_lt _ 33 32 _ _ (by decide)]; try rfl)) ?_
            exact ih3 (lx + 1) Tg (by omega) (by rw [tn1 (by omega)]; exact hsn_) (Nat.le_trans htr (trd_mono hsn_.1)) (by omega)
  refine g_mem (M2 := sr M 33 (M 33)) (sr_self.symm) ?_
  refine g_sub (L' := [(0, gR 27), (1, gI i), (2, gI 0), (3, gI 0)]) [0, 1, 2, 3] rfl ?_
  exact lp4 _ 0 (M 33) (by omega) (sr0) (htr) (Nat.lt_succ_self _)
set_option maxHeartbeats 4000000 in
set_option maxRecDepth 100000 in
theorem c_fewest {l : Launch} {M : Mem} {Pq : Option gV → Mem → Prop} (hsc : 0 ≤ M 27 4 ∧ M 27 4 ≤ 20) (hY : ∀ (u : Nat) (B1 : Nat → Int) (T1 : Nat → Int), (Opt (M 27 4).toNat (mbe (M 28) (M 29) (M 30) (M 31)) u) → Pq (some (gI (u : Int))) (sr (sr M 32 B1) 33 T1)) : gCtr l my_X8_fewestVases mb_X8_fewestVases 3 ((some .int)) 22 [gR 27] M Pq := by
  refine g_intro (by decide) (Nat.le_of_ble_eq_true rfl) ?_
  intro p e s m args below meth c D cy q A hK hr hlocks hw
  refine g_sub (L' := [(0, gR 27)]) [0] rfl ?_
  refine g_aloadn (pc := 0) (i := 0) (x := 27) hK dd_X8_fewestVases_0 rfl rfl ?_
  refine g_getv (pc := 1) (f := (1, 5)) (j := 5) (v := gR 32) hK (kdm kd_27) rfl ef_8 (by decide) rfl kk_202 dd_X8_fewestVases_1 rfl ?_
  refine g_iconst (pc := 4) (x := (-1)) hK dd_X8_fewestVases_4 (by decide) ?_
  refine g_callT (pc := 5) (As := [gR 32, gI (-1)]) hK ws_Sightings_41 md_J7_fill_53178 ⟨Nat.zero_le _, Nat.zero_le _⟩ ⟨by decide, by decide⟩ dd_X8_fewestVases_5 rfl rfl (Nat.le_of_ble_eq_true rfl) (c_fill_32 (-1) (by decide) (g_r0 ?_))
  refine g_iconst (pc := 8) (x := 0) hK dd_X8_fewestVases_8 (by decide) ?_
  refine g_istoren (pc := 9) (i := 1) (L' := [(0, gR 27), (1, gI 0)]) hK dd_X8_fewestVases_9 rfl (by decide) rfl ?_
  refine g_iconst (pc := 10) (x := 0) hK dd_X8_fewestVases_10 (by decide) ?_
  refine g_istoren (pc := 11) (i := 2) (L' := [(0, gR 27), (1, gI 0), (2, gI 0)]) hK dd_X8_fewestVases_11 rfl (by decide) rfl ?_
  have lp3 : ∀ (n1 : Nat) (k : Int) (i : Int) (Bg : Nat → Int) (Tg : Nat → Int), (0 ≤ i ∧ i ≤ M 27 4) → (MI (M 27 4).toNat (mbe (M 28) (M 29) (M 30) (M 31)) i.toNat Bg k.toNat) → (0 ≤ k ∧ k ≤ i) → (M 27 4 - i).toNat < n1 → G p l e (rmD 22) s m args below meth c D cy q A 0 0 3 (MQ below (gQc D cy q A Pq) args s 0 0 A) 12 [(0, gR 27), (1, gI k), (2, gI i)] [] (sr (sr M 32 Bg) 33 Tg) := by
    intro n1
    induction n1 with
    | zero => intro k i Bg Tg iv4 hmi_ iv5 hm6; exact absurd hm6 (Nat.not_lt_zero _)
    | succ n1 ih2 =>
      intro k i Bg Tg iv4 hmi_ iv5 hm6
      refine g_iloadn (pc := 12) (i := 2) (x := i) hK dd_X8_fewestVases_12 rfl rfl ?_
      refine g_aloadn (pc := 13) (i := 0) (x := 27) hK dd_X8_fewestVases_13 rfl rfl ?_
      refine g_geti (pc := 14) (f := (0, 0)) (j := 4) hK (kdm kd_27) rfl ef_8 (by decide) rfl kk_200 nl_27 dd_X8_fewestVases_14 rfl (fun x7 ex7 rx7 => ?_)
      replace ex7 : x7 = M 27 4 := ex7
      refine g_icmp_ge (pc := 17) (tgt := 46) hK dd_X8_fewestVases_17 (by decide) ⟨by omega, by omega⟩ rx7 (fun c8 => ?_) (fun c8 => ?_)
      · have hmi3_ : MI (M 27 4).toNat (mbe (M 28) (M 29) (M 30) (M 31)) (M 27 4).toNat Bg k.toNat := by have q_ := hmi_; rw [show i.toNat = (M 27 4).toNat by omega] at q_; exact q_
        refine g_aloadn (pc := 46) (i := 0) (x := 27) hK dd_X8_fewestVases_46 rfl rfl ?_
        refine g_geti (pc := 47) (f := (0, 0)) (j := 4) hK (kdm kd_27) rfl ef_8 (by decide) rfl kk_200 nl_27 dd_X8_fewestVases_47 rfl (fun x9 ex9 rx9 => ?_)
        replace ex9 : x9 = M 27 4 := ex9
        refine g_iloadn (pc := 50) (i := 1) (x := k) hK dd_X8_fewestVases_50 rfl rfl ?_
        refine g_isub (pc := 51) (z := x9 - k) hK dd_X8_fewestVases_51 rfl ?_
        refine g_iret (pc := 52) hK hr hlocks dd_X8_fewestVases_52 rfl ?_
        first | exact g_fin (hY ((M 27 4).toNat - k.toNat) Bg Tg (by exact (mi_opt hmi3_).1)) (by have q_ := (mi_opt hmi3_).2; omega) (rfl) | (exfalso; omega)
      · refine g_aloadn (pc := 20) (i := 0) (x := 27) hK dd_X8_fewestVases_20 rfl rfl ?_
        refine g_getv (pc := 21) (f := (1, 6)) (j := 6) (v := gR 33) hK (kdm kd_27) rfl ef_8 (by decide) rfl kk_203 dd_X8_fewestVases_21 rfl ?_
        refine g_iconst (pc := 24) (x := (-1)) hK dd_X8_fewestVases_24 (by decide) ?_
        refine g_callT (pc := 25) (As := [gR 33, gI (-1)]) hK ws_Sightings_41 md_J7_fill_53178 ⟨Nat.zero_le _, Nat.zero_le _⟩ ⟨by decide, by decide⟩ dd_X8_fewestVases_25 rfl rfl (Nat.le_of_ble_eq_true rfl) (c_fill_33 (-1) (by decide) (g_r0 ?_))
        refine g_mem (M2 := sr (sr M 32 Bg) 33 (cpf (fun _ => -1) Tg 0 0 20)) (by first | rfl | (simp (disch := decide) only [Int.reduceToNat, up_sr, sr_cp, sr_k, sr_o, sr_sr, us_us, @sr_lt _ 33 32 _ _ (by decide)]; try rfl)) ?_
        refine g_aloadn (pc := 28) (i := 0) (x := 27) hK dd_X8_fewestVases_28 rfl rfl ?_
        refine g_iloadn (pc := 29) (i := 2) (x := i) hK dd_X8_fewestVases_29 rfl rfl ?_
        refine g_iconst (pc := 30) (x := 0) hK dd_X8_fewestVases_30 (by decide) ?_
        refine g_callT (pc := 31) (As := [gR 27, gI i, gI 0]) hK ws_Sightings_47 md_X8_findsNext ⟨Nat.zero_le _, Nat.zero_le _⟩ ⟨by decide, by decide⟩ dd_X8_fewestVases_31 rfl rfl (Nat.le_of_ble_eq_true rfl) (c_fn0 i (show 0 ≤ i ∧ i < M 27 4 by omega) hsc hmi_.1 (Nat.zero_le _) (fun B10 T11 c12 => g_r1 ?_) (fun T13 c14 => g_r1 ?_))
        · replace c12 : Aug (M 27 4).toNat (mbe (M 28) (M 29) (M 30) (M 31)) i (Bg) ((cpf (fun _ => -1) Tg 0 0 20)) B10 := c12
          refine g_mem (M2 := sr (sr M 32 B10) 33 T11) (by simp (disch := decide) only [Int.reduceToNat, up_sr, sr_cp, sr_k, sr_o, sr_sr, us_us, @sr_lt _ 33 32 _ _ (by decide)]; try rfl) ?_
          have hmi2_ : MI (M 27 4).toNat (mbe (M 28) (M 29) (M 30) (M 31)) (i.toNat + 1) B10 (k.toNat + 1) := mi_yes (T := cpf (fun _ => -1) Tg 0 0 20) hmi_ (by rw [show ((i.toNat : Nat) : Int) = i by omega]; exact c12)
          refine g_if_eq (pc := 34) (tgt := 40) hK dd_X8_fewestVases_34 (by decide) (by decide) (fun c15 => absurd c15 (by decide)) (fun _ => ?_)
          refine g_iinc (pc := 37) (i := 1) (y := k + 1) (L' := [(0, gR 27), (1, gI (k + 1)), (2, gI i)]) hK dd_X8_fewestVases_37 rfl rfl (by decide) rfl ?_
          refine g_iinc (pc := 40) (i := 2) (y := i + 1) (L' := [(0, gR 27), (1, gI (k + 1)), (2, gI (i + 1))]) hK dd_X8_fewestVases_40 rfl rfl (by decide) rfl ?_
          refine g_goto (pc := 43) (tgt := 12) hK dd_X8_fewestVases_43 (by decide) ?_
          refine g_sub (L' := [(0, gR 27), (1, gI (k + 1)), (2, gI (i + 1))]) [0, 1, 2] rfl ?_
          refine g_mem (M2 := sr (sr M 32 B10) 33 T11) (rfl) ?_
          exact ih2 (k + 1) (i + 1) B10 T11 (by omega) (by rw [tn1 (t := i) (by omega)]; first | exact hmi2_ | (rw [tn1 (t := k) (by omega)]; exact hmi2_)) (by omega) (by omega)
        · replace c14 : Nno (M 27 4).toNat (mbe (M 28) (M 29) (M 30) (M 31)) i (Bg) ((cpf (fun _ => -1) Tg 0 0 20)) T13 := c14
          refine g_mem (M2 := sr (sr M 32 Bg) 33 T13) (by simp (disch := decide) only [Int.reduceToNat, up_sr, sr_cp, sr_k, sr_o, sr_sr, us_us, @sr_lt _ 33 32 _ _ (by decide)]; try rfl) ?_
          have hmi2_ : MI (M 27 4).toNat (mbe (M 28) (M 29) (M 30) (M 31)) (i.toNat + 1) Bg k.toNat := mi_no (T := cpf (fun _ => -1) Tg 0 0 20) (T' := T13) hmi_ (fun b hb => cpf_c (by omega)) (by rw [show ((i.toNat : Nat) : Int) = i by omega]; exact c14)
          refine g_if_eq (pc := 34) (tgt := 40) hK dd_X8_fewestVases_34 (by decide) (by decide) (fun _ => ?_) (fun c16 => absurd (by decide) c16)
          refine g_iinc (pc := 40) (i := 2) (y := i + 1) (L' := [(0, gR 27), (1, gI k), (2, gI (i + 1))]) hK dd_X8_fewestVases_40 rfl rfl (by decide) rfl ?_
          refine g_goto (pc := 43) (tgt := 12) hK dd_X8_fewestVases_43 (by decide) ?_
          refine g_sub (L' := [(0, gR 27), (1, gI k), (2, gI (i + 1))]) [0, 1, 2] rfl ?_
          refine g_mem (M2 := sr (sr M 32 Bg) 33 T13) (rfl) ?_
          exact ih2 k (i + 1) Bg T13 (by omega) (by rw [tn1 (t := i) (by omega)]; first | exact hmi2_ | (rw [tn1 (t := k) (by omega)]; exact hmi2_)) (by omega) (by omega)
  refine g_mem (M2 := sr (sr M 32 (cpf (fun _ => -1) (M 32) 0 0 20)) 33 (M 33)) (by exact (sr_id (X := sr M 32 (cpf (fun _ => -1) (M 32) 0 0 20)) (k := 33) rfl).symm) ?_
  refine g_sub (L' := [(0, gR 27), (1, gI 0), (2, gI 0)]) [0, 1, 2] rfl ?_
  exact lp3 _ 0 0 (cpf (fun _ => -1) (M 32) 0 0 20) (M 33) (by omega) (mi0 (fun b hb => cpf_c (by omega))) (by omega) (Nat.lt_succ_self _)
set_option maxHeartbeats 4000000 in
set_option maxRecDepth 100000 in
theorem x_vases {l : Launch} {M : Mem} {Pq : Option gV → Mem → Prop} (hsc : 0 ≤ M 27 4 ∧ M 27 4 ≤ 20) (hY : ∀ (u : Nat) (B1 : Nat → Int) (T1 : Nat → Int), (Opt (M 27 4).toNat (mbe (M 28) (M 29) (M 30) (M 31)) u) → Pq (some (gI (u : Int))) (sr (sr M 32 B1) 33 T1)) : gCtr l my_X11_vases mb_X11_vases 1 ((some .int)) 23 [gR 0] M Pq := by
  refine g_intro (by decide) (Nat.le_of_ble_eq_true rfl) ?_
  intro p e s m args below meth c D cy q A hK hr hlocks hw
  refine g_sub (L' := [(0, gR 0)]) [0] rfl ?_
  refine g_aloadn (pc := 0) (i := 0) (x := 0) hK dd_X11_vases_0 rfl rfl ?_
  refine g_getv (pc := 1) (f := (1, 5)) (j := 3) (v := gR 5) hK (kdm kd_0) rfl ef_11 (by decide) rfl kk_385 dd_X11_vases_1 rfl ?_
  refine g_getv (pc := 4) (f := (1, 22)) (j := 4) (v := gR 27) hK (kdm kd_5) rfl ef_1 (by decide) rfl kk_269 dd_X11_vases_4 rfl ?_
  refine g_callV (pc := 7) (As := []) hK ws_X_333 md_X8_fewestVases ⟨Nat.zero_le _, Nat.zero_le _⟩ ⟨by decide, by decide⟩ (kdm kd_27) rfl rfl dd_X11_vases_7 rfl rfl (Nat.le_of_ble_eq_true rfl) (c_fewest hsc (fun u1 B2 T3 c4 => g_r1 ?_))
  · skip
    refine g_iret (pc := 10) hK hr hlocks dd_X11_vases_10 rfl ?_
    first | exact g_fin (hY u1 B2 T3 (by exact c4)) (by first | rfl | omega | (subst_vars; first | rfl | omega)) (rfl) | (exfalso; omega)
