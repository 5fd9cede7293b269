set_option maxHeartbeats 4000000 in
set_option maxRecDepth 100000 in
theorem c_longestBefore {l : Launch} {M : Mem} {Pq : Option gV → Mem → Prop} (j : Int) (h1 : 0 ≤ j ∧ j < 20) (hsc : 0 ≤ M 27 4 ∧ M 27 4 ≤ 20) (hl : ∀ a : Nat, a < (M 27 4).toNat → mbe (M 28) (M 29) (M 30) (M 31) a j.toNat → 0 ≤ M 34 a ∧ M 34 a ≤ 100) (hQ : Pq (some (gI (lgB (M 28) (M 29) (M 30) (M 31) (M 34) j.toNat (M 27 4).toNat))) M) : gCtr l my_X8_longestBefore mb_X8_longestBefore 4 ((some .int)) 2 [gR 27, gI j] M Pq := by
  refine g_intro (by decide) (Nat.le_of_ble_eq_true rfl) ?_
  intro p e s m args below meth c D cy q A hK hr hlocks hw
  refine g_sub (L' := [(0, gR 27), (1, gI j)]) [0, 1] rfl ?_
  refine g_iconst (pc := 0) (x := 0) hK dd_X8_longestBefore_0 (by decide) ?_
  refine g_istoren (pc := 1) (i := 2) (L' := [(0, gR 27), (1, gI j), (2, gI 0)]) hK dd_X8_longestBefore_1 rfl (by decide) rfl ?_
  refine g_iconst (pc := 2) (x := 0) hK dd_X8_longestBefore_2 (by decide) ?_
  refine g_istoren (pc := 3) (i := 3) (L' := [(0, gR 27), (1, gI j), (2, gI 0), (3, gI 0)]) hK dd_X8_longestBefore_3 rfl (by decide) rfl ?_
  have lp3 : ∀ (n1 : Nat) (p1 : Int) (i : Int), (0 ≤ i ∧ i ≤ M 27 4) → (p1 = lgB (M 28) (M 29) (M 30) (M 31) (M 34) j.toNat i.toNat) → (M 27 4 - i).toNat < n1 → G p l e (rmD 2) s m args below meth c D cy q A 0 0 4 (MQ below (gQc D cy q A Pq) args s 0 0 A) 4 [(0, gR 27), (1, gI j), (2, gI p1), (3, gI i)] [] M := by
    intro n1
    induction n1 with
    | zero => intro p1 i iv4 hp_ hm5; exact absurd hm5 (Nat.not_lt_zero _)
    | succ n1 ih2 =>
      intro p1 i iv4 hp_ hm5
      refine g_iloadn (pc := 4) (i := 3) (x := i) hK dd_X8_longestBefore_4 rfl rfl ?_
      refine g_aloadn (pc := 5) (i := 0) (x := 27) hK dd_X8_longestBefore_5 rfl rfl ?_
      have hb_ := lgB_in (y := M 28) (c := M 29) (g := M 30) (b := M 31) (len := M 34) (j := j.toNat) (B := 100) (by decide) i.toNat (fun a ha => hl a (by omega))
      refine g_geti (pc := 6) (f := (0, 0)) (j := 4) hK (kdm kd_27) rfl ef_8 (by decide) rfl kk_200 nl_27 dd_X8_longestBefore_6 rfl (fun x6 ex6 rx6 => ?_)
      refine g_icmp_ge (pc := 9) (tgt := 38) hK dd_X8_longestBefore_9 (by decide) ⟨by omega, by omega⟩ rx6 (fun c7 => ?_) (fun c7 => ?_)
      · refine g_iloadn (pc := 38) (i := 2) (x := p1) hK dd_X8_longestBefore_38 rfl rfl ?_
        refine g_iret (pc := 39) hK hr hlocks dd_X8_longestBefore_39 rfl ?_
        exact g_fin hQ (by rw [show M 27 4 = i by omega]; assumption) (by first | rfl | (subst_vars; rfl))
      · refine g_aloadn (pc := 12) (i := 0) (x := 27) hK dd_X8_longestBefore_12 rfl rfl ?_
        refine g_iloadn (pc := 13) (i := 3) (x := i) hK dd_X8_longestBefore_13 rfl rfl ?_
        refine g_iloadn (pc := 14) (i := 1) (x := j) hK dd_X8_longestBefore_14 rfl rfl ?_
        refine g_callV (pc := 15) (As := [gI i, gI j]) hK ws_Sightings_51 md_X8_mayBeOf ⟨Nat.zero_le _, Nat.zero_le _⟩ ⟨by decide, by decide⟩ (kdm kd_27) rfl rfl dd_X8_longestBefore_15 rfl rfl (Nat.le_of_ble_eq_true rfl) (c_mayBeOf i j (show 0 ≤ i ∧ i < 20 by omega) (show 0 ≤ j ∧ j < 20 by omega) (fun c8 => g_r1 ?_) (fun c8 => g_r1 ?_))
        · refine g_if_eq (pc := 18) (tgt := 32) hK dd_X8_longestBefore_18 (by decide) (by decide) (fun c9 => absurd c9 (by decide)) (fun _ => ?_)
          have hli_ := hl i.toNat (by omega) c8
          refine g_iloadn (pc := 21) (i := 2) (x := p1) hK dd_X8_longestBefore_21 rfl rfl ?_
          refine g_aloadn (pc := 22) (i := 0) (x := 27) hK dd_X8_longestBefore_22 rfl rfl ?_
          refine g_getv (pc := 23) (f := (1, 7)) (j := 7) (v := gR 34) hK (kdm kd_27) rfl ef_8 (by decide) rfl kk_204 dd_X8_longestBefore_23 rfl ?_
          refine g_iloadn (pc := 26) (i := 3) (x := i) hK dd_X8_longestBefore_26 rfl rfl ?_
          refine g_iald (pc := 27) hK (kdm kd_34) nl_34 (by decide) dd_X8_longestBefore_27 (by omega) (by omega) (fun x10 ex10 rx10 => ?_)
          refine g_mmax (pc := 28) hK ws_Sightings_59 ⟨by omega, by omega⟩ rx10 ⟨by decide, by decide⟩ ⟨Nat.zero_le _, Nat.zero_le _⟩ (Nat.le_of_ble_eq_true rfl) dd_X8_longestBefore_28 ?_
          refine g_topI (fun y11 ey11 => ?_)
          refine g_istoren (pc := 31) (i := 2) (L' := [(0, gR 27), (1, gI j), (2, gI y11), (3, gI i)]) hK dd_X8_longestBefore_31 rfl (by decide) rfl ?_
          refine g_iinc (pc := 32) (i := 3) (y := i + 1) (L' := [(0, gR 27), (1, gI j), (2, gI y11), (3, gI (i + 1))]) hK dd_X8_longestBefore_32 rfl rfl (by decide) rfl ?_
          refine g_goto (pc := 35) (tgt := 4) hK dd_X8_longestBefore_35 (by decide) ?_
          refine g_sub (L' := [(0, gR 27), (1, gI j), (2, gI y11), (3, gI (i + 1))]) [0, 1, 2, 3] rfl ?_
          exact ih2 y11 (i + 1) (by omega) (by rw [tn1 (by omega)]; first | (rw [lgB_y (by assumption), ← hp_]; subst_vars; rfl) | (rw [lgB_n (by assumption)]; assumption)) (by omega)
        · refine g_if_eq (pc := 18) (tgt := 32) hK dd_X8_longestBefore_18 (by decide) (by decide) (fun _ => ?_) (fun c12 => absurd (by decide) c12)
          refine g_iinc (pc := 32) (i := 3) (y := i + 1) (L' := [(0, gR 27), (1, gI j), (2, gI p1), (3, gI (i + 1))]) hK dd_X8_longestBefore_32 rfl rfl (by decide) rfl ?_
          refine g_goto (pc := 35) (tgt := 4) hK dd_X8_longestBefore_35 (by decide) ?_
          refine g_sub (L' := [(0, gR 27), (1, gI j), (2, gI p1), (3, gI (i + 1))]) [0, 1, 2, 3] rfl ?_
          exact ih2 p1 (i + 1) (by omega) (by rw [tn1 (by omega)]; first | (rw [lgB_y (by assumption), ← hp_]; subst_vars; rfl) | (rw [lgB_n (by assumption)]; assumption)) (by omega)
  refine g_sub (L' := [(0, gR 27), (1, gI j), (2, gI 0), (3, gI 0)]) [0, 1, 2, 3] rfl ?_
  exact lp3 _ 0 0 (by omega) (rfl) (Nat.lt_succ_self _)
set_option maxHeartbeats 4000000 in
set_option maxRecDepth 100000 in
theorem c_longestRow {l : Launch} {M : Mem} {Pq : Option gV → Mem → Prop} (hsc : 0 ≤ M 27 4 ∧ M 27 4 ≤ 20) (hsi : siOK M) (hQ : Pq (some (gI ((lgO (M 28) (M 29) (M 30) (M 31) (M 27 4).toNat (M 34, 0) 100).2))) (sr M 34 (lgO (M 28) (M 29) (M 30) (M 31) (M 27 4).toNat (M 34, 0) 100).1)) : gCtr l my_X8_longestRow mb_X8_longestRow 4 ((some .int)) 3 [gR 27] M Pq := by
  refine g_intro (by decide) (Nat.le_of_ble_eq_true rfl) ?_
  intro p e s m args below meth c D cy q A hK hr hlocks hw
  refine g_sub (L' := [(0, gR 27)]) [0] rfl ?_
  refine g_iconst (pc := 0) (x := 0) hK dd_X8_longestRow_0 (by decide) ?_
  refine g_istoren (pc := 1) (i := 1) (L' := [(0, gR 27), (1, gI 0)]) hK dd_X8_longestRow_1 rfl (by decide) rfl ?_
  refine g_iconst (pc := 2) (x := 0) hK dd_X8_longestRow_2 (by decide) ?_
  refine g_istoren (pc := 3) (i := 2) (L' := [(0, gR 27), (1, gI 0), (2, gI 0)]) hK dd_X8_longestRow_3 rfl (by decide) rfl ?_
  have lp3 : ∀ (n1 : Nat) (q1 : Int) (y : Int), (0 ≤ y ∧ y ≤ 100) → (q1 = (lgO (M 28) (M 29) (M 30) (M 31) (M 27 4).toNat (M 34, 0) y.toNat).2) → (100 - y).toNat < n1 → G p l e (rmD 3) s m args below meth c D cy q A 0 0 4 (MQ below (gQc D cy q A Pq) args s 0 0 A) 4 [(0, gR 27), (1, gI q1), (2, gI y)] [] (sr M 34 (lgO (M 28) (M 29) (M 30) (M 31) (M 27 4).toNat (M 34, 0) y.toNat).1) := by
    intro n1
    induction n1 with
    | zero => intro q1 y iv4 hq_ hm5; exact absurd hm5 (Nat.not_lt_zero _)
    | succ n1 ih2 =>
      intro q1 y iv4 hq_ hm5
      refine g_iloadn (pc := 4) (i := 2) (x := y) hK dd_X8_longestRow_4 rfl rfl ?_
      refine g_bipush (pc := 5) (x := 99) hK dd_X8_longestRow_5 (by decide) ?_
      refine g_icmp_gt (pc := 7) (tgt := 66) hK dd_X8_longestRow_7 (by decide) ⟨by omega, by omega⟩ (by decide) (fun c6 => ?_) (fun c6 => ?_)
      · refine g_iloadn (pc := 66) (i := 1) (x := q1) hK dd_X8_longestRow_66 rfl rfl ?_
        refine g_iret (pc := 67) hK hr hlocks dd_X8_longestRow_67 rfl ?_
        exact g_fin hQ (by rw [hq_, show y.toNat = 100 by omega]) (by rw [show y.toNat = 100 by omega])
      · refine g_iconst (pc := 10) (x := 0) hK dd_X8_longestRow_10 (by decide) ?_
        refine g_istoren (pc := 11) (i := 3) (L' := [(0, gR 27), (1, gI q1), (2, gI y), (3, gI 0)]) hK dd_X8_longestRow_11 rfl (by decide) rfl ?_
        have lp9 : ∀ (n7 : Nat) (q2 : Int) (i : Int), (0 ≤ i ∧ i ≤ M 27 4) → (q2 = (lgI (M 28) (M 29) (M 30) (M 31) (M 27 4).toNat y (lgO (M 28) (M 29) (M 30) (M 31) (M 27 4).toNat (M 34, 0) y.toNat) i.toNat).2) → (M 27 4 - i).toNat < n7 → G p l e (rmD 3) s m args below meth c D cy q A 0 0 4 (MQ below (gQc D cy q A Pq) args s 0 0 A) 12 [(0, gR 27), (1, gI q2), (2, gI y), (3, gI i)] [] (sr M 34 (lgI (M 28) (M 29) (M 30) (M 31) (M 27 4).toNat y (lgO (M 28) (M 29) (M 30) (M 31) (M 27 4).toNat (M 34, 0) y.toNat) i.toNat).1) := by
          intro n7
          induction n7 with
          | zero => intro q2 i iv10 hq2_ hm11; exact absurd hm11 (Nat.not_lt_zero _)
          | succ n7 ih8 =>
            intro q2 i iv10 hq2_ hm11
            refine g_iloadn (pc := 12) (i := 3) (x := i) hK dd_X8_longestRow_12 rfl rfl ?_
            refine g_aloadn (pc := 13) (i := 0) (x := 27) hK dd_X8_longestRow_13 rfl rfl ?_
            have hok_ := lgI_ok (y := M 28) (n := (M 27 4).toNat) (s := lgO (M 28) (M 29) (M 30) (M 31) (M 27 4).toNat (M 34, 0) y.toNat) (c := M 29) (g := M 30) (b := M 31) (k := y) (fun a ha => (hsi a (by omega)).1) (by have q_ := lgO_ok (y := M 28) (c := M 29) (g := M 30) (b := M 31) (n := (M 27 4).toNat) (f := M 34) (fun a ha => (hsi a (by omega)).1) y.toNat; rw [show ((y.toNat : Nat) : Int) = y by omega] at q_; exact q_) i.toNat (by omega)
            have hok2_ : 0 ≤ q2 ∧ q2 ≤ 101 := by rw [hq2_]; exact hok_.2
            refine g_geti (pc := 14) (f := (0, 0)) (j := 4) hK (kdm kd_27) rfl ef_8 (by decide) rfl kk_200 nl_27 dd_X8_longestRow_14 rfl (fun x12 ex12 rx12 => ?_)
            replace ex12 : x12 = M 27 4 := ex12
            refine g_icmp_ge (pc := 17) (tgt := 60) hK dd_X8_longestRow_17 (by decide) ⟨by omega, by omega⟩ rx12 (fun c13 => ?_) (fun c13 => ?_)
            · refine g_iinc (pc := 60) (i := 2) (y := y + 1) (L' := [(0, gR 27), (1, gI q2), (2, gI (y + 1)), (3, gI i)]) hK dd_X8_longestRow_60 rfl rfl (by decide) rfl ?_
              refine g_goto (pc := 63) (tgt := 4) hK dd_X8_longestRow_63 (by decide) ?_
              refine g_sub (L' := [(0, gR 27), (1, gI q2), (2, gI (y + 1))]) [0, 1, 2] rfl ?_
              refine g_mem (M2 := sr M 34 (lgO (M 28) (M 29) (M 30) (M 31) (M 27 4).toNat (M 34, 0) (y + 1).toNat).1) (by rw [tn1 (by omega)]; simp only [lgO]; rw [show ((y.toNat : Nat) : Int) = y by omega, show M 27 4 = i by omega]) ?_
              exact ih2 q2 (y + 1) (by omega) (by rw [tn1 (by omega)]; simp only [lgO]; rw [show ((y.toNat : Nat) : Int) = y by omega, hq2_, show M 27 4 = i by omega]) (by omega)
            · refine g_aloadn (pc := 20) (i := 0) (x := 27) hK dd_X8_longestRow_20 rfl rfl ?_
              refine g_getv (pc := 21) (f := (1, 1)) (j := 0) (v := gR 28) hK (kdm kd_27) rfl ef_8 (by decide) rfl kk_196 dd_X8_longestRow_21 rfl ?_
              refine g_iloadn (pc := 24) (i := 3) (x := i) hK dd_X8_longestRow_24 rfl rfl ?_
              refine g_iald (pc := 25) hK (kdm kd_28) nl_28 (by decide) dd_X8_longestRow_25 (by omega) (by omega) (fun x14 ex14 rx14 => ?_)
              replace ex14 : x14 = M 28 i.toNat := ex14
              refine g_iloadn (pc := 26) (i := 2) (x := y) hK dd_X8_longestRow_26 rfl rfl ?_
              refine g_icmp_ne (pc := 27) (tgt := 54) hK dd_X8_longestRow_27 (by decide) rx14 ⟨by omega, by omega⟩ (fun c15 => ?_) (fun c15 => ?_)
              · refine g_iinc (pc := 54) (i := 3) (y := i + 1) (L' := [(0, gR 27), (1, gI q2), (2, gI y), (3, gI (i + 1))]) hK dd_X8_longestRow_54 rfl rfl (by decide) rfl ?_
                refine g_goto (pc := 57) (tgt := 12) hK dd_X8_longestRow_57 (by decide) ?_
                refine g_sub (L' := [(0, gR 27), (1, gI q2), (2, gI y), (3, gI (i + 1))]) [0, 1, 2, 3] rfl ?_
                refine g_mem (M2 := sr M 34 (lgI (M 28) (M 29) (M 30) (M 31) (M 27 4).toNat y (lgO (M 28) (M 29) (M 30) (M 31) (M 27 4).toNat (M 34, 0) y.toNat) (i + 1).toNat).1) (by rw [tn1 (by omega)]; simp only [lgI]; first | (rw [if_pos (by omega)]; rw [sr_up]; subst_vars; rfl) | (rw [if_neg (by omega)])) ?_
                exact ih8 q2 (i + 1) (by omega) (by rw [tn1 (by omega)]; simp only [lgI]; first | (rw [if_pos (by omega)]; subst_vars; rfl) | (rw [if_neg (by omega)]; assumption)) (by omega)
              · have hl_ : ∀ a : Nat, a < (M 27 4).toNat → mbe (M 28) (M 29) (M 30) (M 31) a i.toNat → 0 ≤ (lgI (M 28) (M 29) (M 30) (M 31) (M 27 4).toNat y (lgO (M 28) (M 29) (M 30) (M 31) (M 27 4).toNat (M 34, 0) y.toNat) i.toNat).1 a ∧ (lgI (M 28) (M 29) (M 30) (M 31) (M 27 4).toNat y (lgO (M 28) (M 29) (M 30) (M 31) (M 27 4).toNat (M 34, 0) y.toNat) i.toNat).1 a ≤ 100 := fun a ha hm => by have hm1 : M 28 a < M 28 i.toNat := hm.1; have q_ := hok_.1 a ha (Or.inl (by omega)); have q2_ := (hsi i.toNat (by omega)).1; omega
                refine g_aloadn (pc := 30) (i := 0) (x := 27) hK dd_X8_longestRow_30 rfl rfl ?_
                refine g_getv (pc := 31) (f := (1, 7)) (j := 7) (v := gR 34) hK (kdm kd_27) rfl ef_8 (by decide) rfl kk_204 dd_X8_longestRow_31 rfl ?_
                refine g_iloadn (pc := 34) (i := 3) (x := i) hK dd_X8_longestRow_34 rfl rfl ?_
                refine g_iconst (pc := 35) (x := 1) hK dd_X8_longestRow_35 (by decide) ?_
                refine g_aloadn (pc := 36) (i := 0) (x := 27) hK dd_X8_longestRow_36 rfl rfl ?_
                refine g_iloadn (pc := 37) (i := 3) (x := i) hK dd_X8_longestRow_37 rfl rfl ?_
                refine g_callV (pc := 38) (As := [gI i]) hK ws_Sightings_55 md_X8_longestBefore ⟨Nat.zero_le _, Nat.zero_le _⟩ ⟨by decide, by decide⟩ (kdm kd_27) rfl rfl dd_X8_longestRow_38 rfl rfl (Nat.le_of_ble_eq_true rfl) (c_longestBefore i (by omega) hsc hl_ (g_r1 ?_))
                refine g_topI (fun lb elb => ?_)
                replace elb : lb = lgB (M 28) (M 29) (M 30) (M 31) (((lgI (M 28) (M 29) (M 30) (M 31) (M 27 4).toNat y (lgO (M 28) (M 29) (M 30) (M 31) (M 27 4).toNat (M 34, 0) y.toNat) i.toNat).1)) i.toNat (M 27 4).toNat := elb
                have hb_ := lgB_in (y := M 28) (c := M 29) (g := M 30) (b := M 31) (len := (lgI (M 28) (M 29) (M 30) (M 31) (M 27 4).toNat y (lgO (M 28) (M 29) (M 30) (M 31) (M 27 4).toNat (M 34, 0) y.toNat) i.toNat).1) (j := i.toNat) (B := 100) (by decide) (M 27 4).toNat hl_
                refine g_iadd (pc := 41) (z := 1 + lb) hK dd_X8_longestRow_41 rfl ?_
                refine g_iast (pc := 42) hK (kdm kd_34) nl_34 (by decide) (by decide) dd_X8_longestRow_42 (by omega) (by omega) ⟨by omega, by omega⟩ ?_
                refine g_iloadn (pc := 43) (i := 1) (x := q2) hK dd_X8_longestRow_43 rfl rfl ?_
                refine g_aloadn (pc := 44) (i := 0) (x := 27) hK dd_X8_longestRow_44 rfl rfl ?_
                refine g_getv (pc := 45) (f := (1, 7)) (j := 7) (v := gR 34) hK (kdm kd_27) rfl ef_8 (by decide) rfl kk_204 dd_X8_longestRow_45 rfl ?_
                refine g_iloadn (pc := 48) (i := 3) (x := i) hK dd_X8_longestRow_48 rfl rfl ?_
                refine g_iald (pc := 49) hK (kdm kd_34) nl_34 (by decide) dd_X8_longestRow_49 (by omega) (by omega) (fun x16 ex16 rx16 => ?_)
                replace ex16 : x16 = 1 + lb := by first | exact ex16 | (rw [ex16]; simp [up, us, cp, sr])
                refine g_mmax (pc := 50) hK ws_Sightings_59 ⟨by omega, by omega⟩ rx16 ⟨by decide, by decide⟩ ⟨Nat.zero_le _, Nat.zero_le _⟩ (Nat.le_of_ble_eq_true rfl) dd_X8_longestRow_50 ?_
                refine g_topI (fun y17 ey17 => ?_)
                refine g_istoren (pc := 53) (i := 1) (L' := [(0, gR 27), (1, gI y17), (2, gI y), (3, gI i)]) hK dd_X8_longestRow_53 rfl (by decide) rfl ?_
                refine g_iinc (pc := 54) (i := 3) (y := i + 1) (L' := [(0, gR 27), (1, gI y17), (2, gI y), (3, gI (i + 1))]) hK dd_X8_longestRow_54 rfl rfl (by decide) rfl ?_
                refine g_goto (pc := 57) (tgt := 12) hK dd_X8_longestRow_57 (by decide) ?_
                refine g_sub (L' := [(0, gR 27), (1, gI y17), (2, gI y), (3, gI (i + 1))]) [0, 1, 2, 3] rfl ?_
                refine g_mem (M2 := sr M 34 (lgI (M 28) (M 29) (M 30) (M 31) (M 27 4).toNat y (lgO (M 28) (M 29) (M 30) (M 31) (M 27 4).toNat (M 34, 0) y.toNat) (i + 1).toNat).1) (by rw [tn1 (by omega)]; simp only [lgI]; first | (rw [if_pos (by omega)]; rw [sr_up]; subst_vars; rfl) | (rw [if_neg (by omega)])) ?_
                exact ih8 y17 (i + 1) (by omega) (by rw [tn1 (by omega)]; simp only [lgI]; first | (rw [if_pos (by omega)]; subst_vars; rfl) | (rw [if_neg (by omega)]; assumption)) (by omega)
        refine g_mem (M2 := sr M 34 (lgI (M 28) (M 29) (M 30) (M 31) (M 27 4).toNat y (lgO (M 28) (M 29) (M 30) (M 31) (M 27 4).toNat (M 34, 0) y.toNat) (0 : Int).toNat).1) (rfl) ?_
        refine g_sub (L' := [(0, gR 27), (1, gI q1), (2, gI y), (3, gI 0)]) [0, 1, 2, 3] rfl ?_
        exact lp9 _ q1 0 (by omega) (hq_) (Nat.lt_succ_self _)
  refine g_mem (M2 := sr M 34 (lgO (M 28) (M 29) (M 30) (M 31) (M 27 4).toNat (M 34, 0) (0 : Int).toNat).1) (sr_self.symm) ?_
  refine g_sub (L' := [(0, gR 27), (1, gI 0), (2, gI 0)]) [0, 1, 2] rfl ?_
  exact lp3 _ 0 0 (by omega) (rfl) (Nat.lt_succ_self _)
set_option maxHeartbeats 4000000 in
set_option maxRecDepth 100000 in
theorem x_longest {l : Launch} {M : Mem} {Pq : Option gV → Mem → Prop} (hsc : 0 ≤ M 27 4 ∧ M 27 4 ≤ 20) (hsi : siOK M) (hQ : Pq (some (gI ((lgO (M 28) (M 29) (M 30) (M 31) (M 27 4).toNat (M 34, 0) 100).2))) (sr M 34 (lgO (M 28) (M 29) (M 30) (M 31) (M 27 4).toNat (M 34, 0) 100).1)) : gCtr l my_X11_longest mb_X11_longest 1 ((some .int)) 4 [gR 0] M Pq := by
  refine g_intro (by decide) (Nat.le_of_ble_eq_true rfl) ?_
  intro p e s m args below meth c D cy q A hK hr hlocks hw
  refine g_sub (L' := [(0, gR 0)]) [0] rfl ?_
  refine g_aloadn (pc := 0) (i := 0) (x := 0) hK dd_X11_longest_0 rfl rfl ?_
  refine g_getv (pc := 1) (f := (1, 5)) (j := 3) (v := gR 5) hK (kdm kd_0) rfl ef_11 (by decide) rfl kk_385 dd_X11_longest_1 rfl ?_
  refine g_getv (pc := 4) (f := (1, 22)) (j := 4) (v := gR 27) hK (kdm kd_5) rfl ef_1 (by decide) rfl kk_269 dd_X11_longest_4 rfl ?_
  refine g_callV (pc := 7) (As := []) hK ws_X_336 md_X8_longestRow ⟨Nat.zero_le _, Nat.zero_le _⟩ ⟨by decide, by decide⟩ (kdm kd_27) rfl rfl dd_X11_longest_7 rfl rfl (Nat.le_of_ble_eq_true rfl) (c_longestRow hsc hsi (g_r1 ?_))
  refine g_topI (fun y1 ey1 => ?_)
  refine g_iret (pc := 10) hK hr hlocks dd_X11_longest_10 rfl ?_
  exact g_fin hQ (by first | rfl | omega | (subst_vars; first | rfl | omega)) (by first | rfl | (subst_vars; rfl))
